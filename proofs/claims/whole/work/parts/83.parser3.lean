theorem one_0 {T : Nat → Int32} {N u a : Nat} {C : List Int32} (h : hrB T N a = 33 ∨ hrB T N a = 40) : pOne T N u 0 a C = (false, a, C) := by unfold pOne; rw [if_pos h]
theorem one_at {T : Nat → Int32} {N u m a : Nat} {C : List Int32} (h33 : ¬ hrB T N a = 33) (h40 : ¬ hrB T N a = 40) : pOne T N u m a C = pAtom T N u a C := by
  cases m with
  | zero => unfold pOne; rw [if_neg (fun h => h.elim h33 h40)]
  | succ m => unfold pOne; rw [if_neg h33, if_neg h40]
theorem one_33 {T : Nat → Int32} {N u m a : Nat} {C : List Int32} (h33 : hrB T N a = 33) : pOne T N u (m + 1) a C = if (pOne T N u m (a + 1) C).1 = true then (true, (pOne T N u m (a + 1) C).2.1, 20010 :: (pOne T N u m (a + 1) C).2.2) else pOne T N u m (a + 1) C := by
  conv => lhs; unfold pOne; rw [if_pos h33]
theorem one_40 {T : Nat → Int32} {N u m a : Nat} {C : List Int32} (h40 : hrB T N a = 40) : pOne T N u (m + 1) a C = if (pEi T N (pOne T N u m) (a + 1) C).1 = true then (if hrB T N (pEi T N (pOne T N u m) (a + 1) C).2.1 = 41 then (true, (pEi T N (pOne T N u m) (a + 1) C).2.1 + 1, (pEi T N (pOne T N u m) (a + 1) C).2.2) else (false, (pEi T N (pOne T N u m) (a + 1) C).2.1, (pEi T N (pOne T N u m) (a + 1) C).2.2)) else pEi T N (pOne T N u m) (a + 1) C := by
  conv => lhs; unfold pOne; rw [if_neg (by rw [h40]; decide), if_pos h40]
theorem nm_neg {σ0 : fSt} {N u a : Nat} (hX : TX σ0 N u) (h : ¬ 0 ≤ hrB (tpe σ0) N a) : nmI u (hrB (tpe σ0) N a) = -1 := by
  have e : hrB (tpe σ0) N a = -1 := by
    unfold hrB at h ⊢
    by_cases h9 : a < N
    · rw [if_pos h9] at h; exact absurd (hX.2.2.1 a h9).1 h
    · rw [if_neg h9]
  rw [e]
  unfold nmI
  split <;> decide
set_option maxRecDepth 100000 in
set_option maxHeartbeats 8000000 in
theorem w_atom {G : fGm} {σ0 : fSt} {N u : Nat} (hX : TX σ0 N u) {a kn m D : Nat} {C : List Int32} {σ : fSt} {τ : fLt} (hR : RT σ0 σ a kn C) (ha : a ≤ N) (hC : C.length ≤ a) (hD : 6 ≤ D) (h33 : ¬ hrB (tpe σ0) N a = 33) (h40 : ¬ hrB (tpe σ0) N a = 40) : VW G iX10_one (rP none τ (fun σ' => RP σ0 kn (pOne (tpe σ0) N u m a C) σ')) D σ τ 116 [(1, .int (hrB (tpe σ0) N a)), (0, .ref 87)] [] := by
  have hat : pOne (tpe σ0) N u m a C = pAtom (tpe σ0) N u a C := one_at h33 h40
  have hat3 : ¬ isD (hrB (tpe σ0) N a) = true → ¬ 0 ≤ nmI u (hrB (tpe σ0) N a) → pAtom (tpe σ0) N u a C = (false, a, C) := fun h1 h2 => by unfold pAtom; rw [if_neg h1, if_neg h2]
  have hat4 : ¬ isD (hrB (tpe σ0) N a) = true → 0 ≤ nmI u (hrB (tpe σ0) N a) → pAtom (tpe σ0) N u a C = (true, a + 1, (10000 + nmI u (hrB (tpe σ0) N a)) :: C) := fun h1 h2 => by unfold pAtom; rw [if_neg h1, if_pos h2]
  show VW _ _ _ _ _ _ 116 [(1, _), (0, _)] []
  refine v_iload_n (I := iX10_one) dX10_one_116 rfl ?_
  refine v_bipush (I := iX10_one) (v := 48) dX10_one_117 (by decide) ?_
  refine v_bipush (I := iX10_one) (v := 57) dX10_one_119 (by decide) ?_
  refine v_callSi (I := iX10_one) (I' := iX10_within) lk_X10_79 c_X10_within dX10_one_121 (m_X10_within) rfl rfl (by omega) (by decide) (Nat.le_of_ble_eq_true rfl) ?_
  refine v_if_eqB (I := iX10_one) (tgt := 187) dX10_one_124 (by decide) (fun c124 => ?_) (fun c124 => ?_)
  · have hdg : ¬ isD (hrB (tpe σ0) N a) = true := fun h => c124 (isD_iff.mp h)
    refine v_iload_n (I := iX10_one) dX10_one_187 rfl ?_
    refine v_if_ge (I := iX10_one) (tgt := 195) dX10_one_188 (by decide) (fun c188 => ?_) (fun c188 => ?_)
    · have hc0 : 0 ≤ hrB (tpe σ0) N a := by first | exact c188 | exact Int32.not_lt.mp c188
      refine v_aload_n (I := iX10_one) dX10_one_195 rfl ?_
      refine v_iload_n (I := iX10_one) dX10_one_196 rfl ?_
      refine v_callVi (I := iX10_one) (I' := iX10_nameOf) lk_X10_212 c_X10_nameOf dX10_one_197 (m_X10_nameOf (u := u) hX.2.2.2.2 (by rw [hR.2.2.2.2.2.2 10 (by decide) (by decide) (by decide) (by decide)]; exact hX.2.2.2.1)) rfl rfl (by decide) (ae_87 _ _) rfl (by omega) (by decide) (Nat.le_of_ble_eq_true rfl) ?_
      refine v_istore_n (I := iX10_one) (ls1 := [(2, _), (1, _), (0, _)]) dX10_one_200 (by decide) rfl ?_
      refine v_aload_n (I := iX10_one) dX10_one_201 rfl ?_
      refine v_aload_n (I := iX10_one) dX10_one_202 rfl ?_
      refine v_get (I := iX10_one) g_X10_161 dX10_one_203 (by decide) (ae_87 _ _) rfl ?_
      rw [hR.2.2.1]
      refine v_if_ne (I := iX10_one) (tgt := 213) dX10_one_206 (by decide) (fun c206 => ?_) (fun c206 => ?_)
      · exact absurd rfl c206
      · refine v_iload_n (I := iX10_one) dX10_one_209 rfl ?_
        refine v_if_ge (I := iX10_one) (tgt := 217) dX10_one_210 (by decide) (fun c210 => ?_) (fun c210 => ?_)
        · have hn0 : 0 ≤ nmI u (hrB (tpe σ0) N a) := by first | exact c210 | exact Int32.not_lt.mp c210
          refine v_iconst (I := iX10_one) (v := 0) dX10_one_217 (by decide) ?_
          refine v_putI (I := iX10_one) p_X10_161 dX10_one_218 (by decide) (ae_87 _ _) (ae_87 _ _) rfl rfl (by simp) ?_
          have hR9 := hR.w0
          refine v_aload_n (I := iX10_one) dX10_one_221 rfl ?_
          refine v_get (I := iX10_one) g_X10_161 dX10_one_222 (by decide) (ae_87 _ _) rfl ?_
          rw [hR9.2.2.1]
          refine v_if_ne (I := iX10_one) (tgt := 247) dX10_one_225 (by decide) (fun c225 => ?_) (fun c225 => ?_)
          · exact absurd rfl c225
          · refine v_aload_n (I := iX10_one) dX10_one_228 rfl ?_
            refine v_sipush (I := iX10_one) (v := 10000) dX10_one_229 (by decide) ?_
            refine v_iload_n (I := iX10_one) dX10_one_232 rfl ?_
            refine v_iadd (I := iX10_one) dX10_one_233 ?_
            refine v_callVvP (I := iX10_one) (I' := iX10_codes) lk_X10_181 c_X10_codes dX10_one_234 (m_X10_codes (v := 10000 + nmI u (hrB (tpe σ0) N a)) hR9 (by have := nm_lt hn0; have := hX.2.1; omega)) rfl rfl (by decide) (ae_87 _ _) rfl (by omega) (by decide) (Nat.le_of_ble_eq_true rfl) (fun s234 h234 => ?_)
            refine v_aload_n (I := iX10_one) dX10_one_237 rfl ?_
            refine v_dup (I := iX10_one) dX10_one_238 rfl ?_
            refine v_get (I := iX10_one) g_X10_165 dX10_one_239 (by decide) (ae_87 _ _) rfl ?_
            rw [h234.1]
            refine v_iconst (I := iX10_one) (v := 1) dX10_one_242 (by decide) ?_
            refine v_iadd (I := iX10_one) dX10_one_243 ?_
            rw [nI_1]
            refine v_putI (I := iX10_one) p_X10_165 dX10_one_244 (by decide) (ae_87 _ _) (ae_87 _ _) rfl rfl (by simp) ?_
            exact v_vret (I := iX10_one) rfl dX10_one_247 ⟨rfl, rfl, by rw [hat, hat4 hdg hn0]; exact RP.of (h234.at_ (a + 1)) rfl⟩
        · have hn0 : ¬ 0 ≤ nmI u (hrB (tpe σ0) N a) := by first | exact c210 | exact Int32.not_le.mpr c210
          refine v_iconst (I := iX10_one) (v := 1) dX10_one_213 (by decide) ?_
          refine v_goto (I := iX10_one) (tgt := 218) dX10_one_214 (by decide) ?_
          refine v_putI (I := iX10_one) p_X10_161 dX10_one_218 (by decide) (ae_87 _ _) (ae_87 _ _) rfl rfl (by simp) ?_
          have hW9 := hR.w1
          refine v_aload_n (I := iX10_one) dX10_one_221 rfl ?_
          refine v_get (I := iX10_one) g_X10_161 dX10_one_222 (by decide) (ae_87 _ _) rfl ?_
          rw [hW9.1]
          refine v_if_ne (I := iX10_one) (tgt := 247) dX10_one_225 (by decide) (fun c225 => ?_) (fun c225 => ?_)
          · exact v_vret (I := iX10_one) rfl dX10_one_247 ⟨rfl, rfl, by rw [hat, hat3 hdg hn0]; exact RP.of0 hW9 rfl⟩
          · exact absurd c225 (by decide)
    · have hneg : ¬ 0 ≤ hrB (tpe σ0) N a := by first | exact c188 | exact Int32.not_le.mpr c188
      have hnm : nmI u (hrB (tpe σ0) N a) = -1 := nm_neg hX hneg
      refine v_iconst (I := iX10_one) (v := -1) dX10_one_191 (by decide) ?_
      refine v_goto (I := iX10_one) (tgt := 200) dX10_one_192 (by decide) ?_
      refine v_istore_n (I := iX10_one) (ls1 := [(2, _), (1, _), (0, _)]) dX10_one_200 (by decide) rfl ?_
      refine v_aload_n (I := iX10_one) dX10_one_201 rfl ?_
      refine v_aload_n (I := iX10_one) dX10_one_202 rfl ?_
      refine v_get (I := iX10_one) g_X10_161 dX10_one_203 (by decide) (ae_87 _ _) rfl ?_
      rw [hR.2.2.1]
      refine v_if_ne (I := iX10_one) (tgt := 213) dX10_one_206 (by decide) (fun c206 => ?_) (fun c206 => ?_)
      · exact absurd rfl c206
      · refine v_iload_n (I := iX10_one) dX10_one_209 rfl ?_
        refine v_if_ge (I := iX10_one) (tgt := 217) dX10_one_210 (by decide) (fun c210 => ?_) (fun c210 => ?_)
        · exact absurd c210 (by decide)
        · refine v_iconst (I := iX10_one) (v := 1) dX10_one_213 (by decide) ?_
          refine v_goto (I := iX10_one) (tgt := 218) dX10_one_214 (by decide) ?_
          refine v_putI (I := iX10_one) p_X10_161 dX10_one_218 (by decide) (ae_87 _ _) (ae_87 _ _) rfl rfl (by simp) ?_
          have hW9 := hR.w1
          refine v_aload_n (I := iX10_one) dX10_one_221 rfl ?_
          refine v_get (I := iX10_one) g_X10_161 dX10_one_222 (by decide) (ae_87 _ _) rfl ?_
          rw [hW9.1]
          refine v_if_ne (I := iX10_one) (tgt := 247) dX10_one_225 (by decide) (fun c225 => ?_) (fun c225 => ?_)
          · exact v_vret (I := iX10_one) rfl dX10_one_247 ⟨rfl, rfl, by rw [hat, hat3 hdg (by rw [hnm]; decide)]; exact RP.of0 hW9 rfl⟩
          · exact absurd c225 (by decide)
  · have hdg : isD (hrB (tpe σ0) N a) = true := isD_iff.mpr c124
    have hat2 : pAtom (tpe σ0) N u a C = (true, (pNum (tpe σ0) N 4 a 0).1, (pNum (tpe σ0) N 4 a 0).2 :: C) := by unfold pAtom; rw [if_pos hdg]
    have haN := (isD_hr hdg).1
    have J : ∀ {a9 : Nat} {v k9 : Int32} {σ9 : fSt}, (a9, v) = pNum (tpe σ0) N 4 a 0 → RT σ0 σ9 a9 kn C → VW G iX10_one (rP none τ (fun σ' => RP σ0 kn (pOne (tpe σ0) N u m a C) σ')) D σ9 τ 179 [(3, .int k9), (2, .int v), (1, .int (hrB (tpe σ0) N a)), (0, .ref 87)] [] := by
      intro a9 v k9 σ9 hpn hR9
      show VW _ _ _ _ _ _ 179 [(3, _), (2, _), (1, _), (0, _)] []
      refine v_aload_n (I := iX10_one) dX10_one_179 rfl ?_
      refine v_iload_n (I := iX10_one) dX10_one_180 rfl ?_
      refine v_callVvP (I := iX10_one) (I' := iX10_codes) lk_X10_181 c_X10_codes dX10_one_181 (m_X10_codes (v := v) hR9 (by have := hX.2.1; omega)) rfl rfl (by decide) (ae_87 _ _) rfl (by omega) (by decide) (Nat.le_of_ble_eq_true rfl) (fun s181 h181 => ?_)
      refine v_goto (I := iX10_one) (tgt := 247) dX10_one_184 (by decide) ?_
      exact v_vret (I := iX10_one) rfl dX10_one_247 ⟨rfl, rfl, by rw [hat, hat2, ← hpn]; exact RP.of h181 rfl⟩
    have key : ∀ (n : Nat) {a9 k9 : Nat} {v y : Int32} {σ9 : fSt}, k9 + n = 4 → pNum (tpe σ0) N n a9 v = pNum (tpe σ0) N 4 a 0 → RT σ0 σ9 a9 kn C → a9 ≤ N → C.length ≤ a9 → y = nI k9 → VW G iX10_one (rP none τ (fun σ' => RP σ0 kn (pOne (tpe σ0) N u m a C) σ')) D σ9 τ 131 [(3, .int y), (2, .int v), (1, .int (hrB (tpe σ0) N a)), (0, .ref 87)] [] := by
      intro n
      induction n with
      | zero =>
        intro a9 k9 v y σ9 hk hpn hR9 ha9 hC9 hy
        have hk4 : k9 = 4 := hk
        subst hy
        show VW _ _ _ _ _ _ 131 [(3, _), (2, _), (1, _), (0, _)] []
        refine v_iload_n (I := iX10_one) dX10_one_131 rfl ?_
        refine v_iconst (I := iX10_one) (v := 4) dX10_one_132 (by decide) ?_
        refine v_icmp_ge (I := iX10_one) (tgt := 179) dX10_one_133 (by decide) (fun c133 => ?_) (fun c133 => ?_)
        have hpn : (a9, v) = pNum (tpe σ0) N 4 a 0 := by first | exact hpn | (rw [← hpn]; rfl)
        exact J hpn hR9
        · exact absurd (by rw [hk4]; exact Int32.le_refl _) c133
      | succ n ih =>
        intro a9 k9 v y σ9 hk hpn hR9 ha9 hC9 hy
        subst hy
        show VW _ _ _ _ _ _ 131 [(3, _), (2, _), (1, _), (0, _)] []
        refine v_iload_n (I := iX10_one) dX10_one_131 rfl ?_
        refine v_iconst (I := iX10_one) (v := 4) dX10_one_132 (by decide) ?_
        refine v_icmp_ge (I := iX10_one) (tgt := 179) dX10_one_133 (by decide) (fun c133 => ?_) (fun c133 => ?_)
        · exact absurd c133 (by exact nI_ge (a := k9) (b := 4) (by omega) (by decide))
        · refine v_aload_n (I := iX10_one) dX10_one_136 rfl ?_
          refine v_callVi (I := iX10_one) (I' := iX10_here) lk_X10_169 c_X10_here dX10_one_137 (m_X10_here hX hR9 ha9) rfl rfl (by decide) (ae_87 _ _) rfl (by omega) (by decide) (Nat.le_of_ble_eq_true rfl) ?_
          refine v_bipush (I := iX10_one) (v := 48) dX10_one_140 (by decide) ?_
          refine v_bipush (I := iX10_one) (v := 57) dX10_one_142 (by decide) ?_
          refine v_callSi (I := iX10_one) (I' := iX10_within) lk_X10_79 c_X10_within dX10_one_144 (m_X10_within) rfl rfl (by omega) (by decide) (Nat.le_of_ble_eq_true rfl) ?_
          refine v_if_eqB (I := iX10_one) (tgt := 179) dX10_one_147 (by decide) (fun c147 => ?_) (fun c147 => ?_)
          · have hd9 : ¬ isD (hrB (tpe σ0) N a9) = true := fun h => c147 (isD_iff.mp h)
            have hpn : (a9, v) = pNum (tpe σ0) N 4 a 0 := by rw [← hpn]; unfold pNum; rw [if_neg hd9]
            have hpn : (a9, v) = pNum (tpe σ0) N 4 a 0 := by first | exact hpn | (rw [← hpn]; rfl)
            exact J hpn hR9
          · have hd9 : isD (hrB (tpe σ0) N a9) = true := isD_iff.mpr c147
            have ha9N := (isD_hr hd9).1
            refine v_bipush (I := iX10_one) (v := 10) dX10_one_150 (by decide) ?_
            refine v_iload_n (I := iX10_one) dX10_one_152 rfl ?_
            refine v_imul (I := iX10_one) dX10_one_153 ?_
            refine v_aload_n (I := iX10_one) dX10_one_154 rfl ?_
            refine v_callVi (I := iX10_one) (I' := iX10_here) lk_X10_169 c_X10_here dX10_one_155 (m_X10_here hX hR9 ha9) rfl rfl (by decide) (ae_87 _ _) rfl (by omega) (by decide) (Nat.le_of_ble_eq_true rfl) ?_
            refine v_iadd (I := iX10_one) dX10_one_158 ?_
            refine v_bipush (I := iX10_one) (v := 48) dX10_one_159 (by decide) ?_
            refine v_isub (I := iX10_one) dX10_one_161 ?_
            refine v_istore_n (I := iX10_one) (ls1 := [(2, _), (3, _), (1, _), (0, _)]) dX10_one_162 (by decide) rfl ?_
            refine v_aload_n (I := iX10_one) dX10_one_163 rfl ?_
            refine v_dup (I := iX10_one) dX10_one_164 rfl ?_
            refine v_get (I := iX10_one) g_X10_165 dX10_one_165 (by decide) (ae_87 _ _) rfl ?_
            rw [hR9.1]
            refine v_iconst (I := iX10_one) (v := 1) dX10_one_168 (by decide) ?_
            refine v_iadd (I := iX10_one) dX10_one_169 ?_
            rw [nI_1]
            refine v_putI (I := iX10_one) p_X10_165 dX10_one_170 (by decide) (ae_87 _ _) (ae_87 _ _) rfl rfl (by simp) ?_
            refine v_iinc (I := iX10_one) (ls1 := [(3, _), (2, _), (1, _), (0, _)]) dX10_one_173 rfl rfl (by decide) rfl ?_
            refine v_goto (I := iX10_one) (tgt := 131) dX10_one_176 (by decide) ?_
            refine v_pick (I := iX10_one) (ls1 := [(3, _), (2, _), (1, _), (0, _)]) [0, 1, 2, 3] rfl ?_
            exact ih (by omega) (by rw [← hpn]; conv => rhs; unfold pNum; rw [if_pos hd9]) (hR9.at_ (a9 + 1)) (by omega) (by omega) (nI_1 k9)
    refine v_iconst (I := iX10_one) (v := 0) dX10_one_127 (by decide) ?_
    refine v_istore_n (I := iX10_one) (ls1 := [(2, _), (1, _), (0, _)]) dX10_one_128 (by decide) rfl ?_
    refine v_iconst (I := iX10_one) (v := 0) dX10_one_129 (by decide) ?_
    refine v_istore_n (I := iX10_one) (ls1 := [(3, _), (2, _), (1, _), (0, _)]) dX10_one_130 (by decide) rfl ?_
    exact key 4 rfl rfl hR ha hC rfl
set_option maxRecDepth 100000 in
set_option maxHeartbeats 8000000 in
theorem m_X10_one0 {G : fGm} {σ0 : fSt} {N u : Nat} (hX : TX σ0 N u) : RcF G iX10_one σ0 N (pOne (tpe σ0) N u 0) 5 6 := by
  intro a C σ τ hR ha hC
  have ha0 : a ≤ N := ha
  generalize hkn : 5 = kn at hR ⊢
  subst hkn
  refine ms_of (by decide +kernel) (Nat.le_of_ble_eq_true rfl) ?_
  show VW _ _ _ _ _ _ 0 [(0, _)] []
  refine v_aload_n (I := iX10_one) dX10_one_0 rfl ?_
  refine v_callVi (I := iX10_one) (I' := iX10_here) lk_X10_169 c_X10_here dX10_one_1 (m_X10_here hX hR ha) rfl rfl (by decide) (ae_87 _ _) rfl (by omega) (by decide) (Nat.le_of_ble_eq_true rfl) ?_
  refine v_istore_n (I := iX10_one) (ls1 := [(1, _), (0, _)]) dX10_one_4 (by decide) rfl ?_
  refine v_iload_n (I := iX10_one) dX10_one_5 rfl ?_
  refine v_bipush (I := iX10_one) (v := 33) dX10_one_6 (by decide) ?_
  refine v_icmp_eq (I := iX10_one) (tgt := 17) dX10_one_8 (by decide) (fun c8 => ?_) (fun c8 => ?_)
  · refine v_aload_n (I := iX10_one) dX10_one_17 rfl ?_
    refine v_aload_n (I := iX10_one) dX10_one_18 rfl ?_
    refine v_get (I := iX10_one) g_X10_206 dX10_one_19 (by decide) (ae_87 _ _) rfl ?_
    rw [hR.2.1]
    refine v_iconst (I := iX10_one) (v := 5) dX10_one_22 (by decide) ?_
    refine v_icmp_ne (I := iX10_one) (tgt := 30) dX10_one_23 (by decide) (fun c23 => ?_) (fun c23 => ?_)
    · exact absurd rfl c23
    · refine v_iconst (I := iX10_one) (v := 1) dX10_one_26 (by decide) ?_
      refine v_goto (I := iX10_one) (tgt := 31) dX10_one_27 (by decide) ?_
      refine v_putI (I := iX10_one) p_X10_161 dX10_one_31 (by decide) (ae_87 _ _) (ae_87 _ _) rfl rfl (by simp) ?_
      have hW9 := hR.w1
      refine v_aload_n (I := iX10_one) dX10_one_34 rfl ?_
      refine v_get (I := iX10_one) g_X10_161 dX10_one_35 (by decide) (ae_87 _ _) rfl ?_
      rw [hW9.1]
      refine v_if_ne (I := iX10_one) (tgt := 247) dX10_one_38 (by decide) (fun c38 => ?_) (fun c38 => ?_)
      · exact v_vret (I := iX10_one) rfl dX10_one_247 ⟨rfl, rfl, by rw [one_0 (by first | exact Or.inl c8 | exact Or.inr c14 | grind)]; exact RP.of0 hW9 rfl⟩
      · exact absurd c38 (by decide)
  · refine v_iload_n (I := iX10_one) dX10_one_11 rfl ?_
    refine v_bipush (I := iX10_one) (v := 40) dX10_one_12 (by decide) ?_
    refine v_icmp_ne (I := iX10_one) (tgt := 116) dX10_one_14 (by decide) (fun c14 => ?_) (fun c14 => ?_)
    · exact w_atom hX (m := 0) hR ha hC (by decide) c8 c14
    · refine v_aload_n (I := iX10_one) dX10_one_17 rfl ?_
      refine v_aload_n (I := iX10_one) dX10_one_18 rfl ?_
      refine v_get (I := iX10_one) g_X10_206 dX10_one_19 (by decide) (ae_87 _ _) rfl ?_
      rw [hR.2.1]
      refine v_iconst (I := iX10_one) (v := 5) dX10_one_22 (by decide) ?_
      refine v_icmp_ne (I := iX10_one) (tgt := 30) dX10_one_23 (by decide) (fun c23 => ?_) (fun c23 => ?_)
      · exact absurd rfl c23
      · refine v_iconst (I := iX10_one) (v := 1) dX10_one_26 (by decide) ?_
        refine v_goto (I := iX10_one) (tgt := 31) dX10_one_27 (by decide) ?_
        refine v_putI (I := iX10_one) p_X10_161 dX10_one_31 (by decide) (ae_87 _ _) (ae_87 _ _) rfl rfl (by simp) ?_
        have hW9 := hR.w1
        refine v_aload_n (I := iX10_one) dX10_one_34 rfl ?_
        refine v_get (I := iX10_one) g_X10_161 dX10_one_35 (by decide) (ae_87 _ _) rfl ?_
        rw [hW9.1]
        refine v_if_ne (I := iX10_one) (tgt := 247) dX10_one_38 (by decide) (fun c38 => ?_) (fun c38 => ?_)
        · exact v_vret (I := iX10_one) rfl dX10_one_247 ⟨rfl, rfl, by rw [one_0 (by first | exact Or.inl c8 | exact Or.inr c14 | grind)]; exact RP.of0 hW9 rfl⟩
        · exact absurd c38 (by decide)
set_option maxRecDepth 100000 in
set_option maxHeartbeats 8000000 in
theorem m_X10_oneS {G : fGm} {σ0 : fSt} {N u : Nat} (hX : TX σ0 N u) {m kn D1 D2 D : Nat} (hk : kn + (m + 1) = 5) (hD : 6 ≤ D) (hD1 : D1 + 1 ≤ D) (hD2 : D2 + 1 ≤ D) (hF : RcF G iX10_one σ0 N (pOne (tpe σ0) N u m) (kn + 1) D1) (hE : RcF G iX10_either σ0 N (pEi (tpe σ0) N (pOne (tpe σ0) N u m)) (kn + 1) D2) : RcF G iX10_one σ0 N (pOne (tpe σ0) N u (m + 1)) kn D := by
  intro a C σ τ hR ha hC
  refine ms_of (by decide +kernel) (Nat.le_of_ble_eq_true rfl) ?_
  show VW _ _ _ _ _ _ 0 [(0, _)] []
  have J41 : (hrB (tpe σ0) N a = 33 ∨ hrB (tpe σ0) N a = 40) → ∀ {σ9 : fSt}, RT σ0 σ9 a kn C → VW G iX10_one (rP none τ (fun σ' => RP σ0 kn (pOne (tpe σ0) N u (m + 1) a C) σ')) D σ9 τ 41 [(1, .int (hrB (tpe σ0) N a)), (0, .ref 87)] [] := by
    intro hc9 σ9 hRz
    show VW _ _ _ _ _ _ 41 [(1, _), (0, _)] []
    refine v_aload_n (I := iX10_one) dX10_one_41 rfl ?_
    refine v_dup (I := iX10_one) dX10_one_42 rfl ?_
    refine v_get (I := iX10_one) g_X10_206 dX10_one_43 (by decide) (ae_87 _ _) rfl ?_
    rw [hRz.2.1]
    refine v_iconst (I := iX10_one) (v := 1) dX10_one_46 (by decide) ?_
    refine v_iadd (I := iX10_one) dX10_one_47 ?_
    rw [nI_1]
    refine v_putI (I := iX10_one) p_X10_206 dX10_one_48 (by decide) (ae_87 _ _) (ae_87 _ _) rfl rfl (by simp) ?_
    have hR2 := hRz.op_ (kn + 1)
    generalize up2 _ 87 9 (nI (kn + 1)) = σ2 at hR2 ⊢
    refine v_aload_n (I := iX10_one) dX10_one_51 rfl ?_
    refine v_dup (I := iX10_one) dX10_one_52 rfl ?_
    refine v_get (I := iX10_one) g_X10_165 dX10_one_53 (by decide) (ae_87 _ _) rfl ?_
    rw [hR2.1]
    refine v_iconst (I := iX10_one) (v := 1) dX10_one_56 (by decide) ?_
    refine v_iadd (I := iX10_one) dX10_one_57 ?_
    rw [nI_1]
    refine v_putI (I := iX10_one) p_X10_165 dX10_one_58 (by decide) (ae_87 _ _) (ae_87 _ _) rfl rfl (by simp) ?_
    have hR3 := hR2.at_ (a + 1)
    generalize up2 _ 87 8 (nI (a + 1)) = σ3 at hR3 ⊢
    refine v_iload_n (I := iX10_one) dX10_one_61 rfl ?_
    refine v_bipush (I := iX10_one) (v := 33) dX10_one_62 (by decide) ?_
    refine v_icmp_ne (I := iX10_one) (tgt := 81) dX10_one_64 (by decide) (fun c64 => ?_) (fun c64 => ?_)
    · have h40 : hrB (tpe σ0) N a = 40 := hc9.resolve_left c64
      have haN := (hr_eq h40 (by decide)).1
      refine v_aload_n (I := iX10_one) dX10_one_81 rfl ?_
      refine v_callVvP (I := iX10_one) (I' := iX10_either) lk_X10_209 c_X10_either dX10_one_82 (hE (a + 1) C σ3 τ hR3 (by omega) (by omega)) rfl rfl (by decide) (ae_87 _ _) rfl (by omega) (by decide) (Nat.le_of_ble_eq_true rfl) (fun s82 h82 => ?_)
      obtain ⟨be1, be2⟩ := bd_ei (bd_one (T := tpe σ0) (N := N) (u := u) m) (a + 1) C (by omega)
      by_cases hok : (pEi (tpe σ0) N (pOne (tpe σ0) N u m) (a + 1) C).1 = true
      · refine v_aload_n (I := iX10_one) dX10_one_85 rfl ?_
        refine v_aload_n (I := iX10_one) dX10_one_86 rfl ?_
        refine v_bipush (I := iX10_one) (v := 41) dX10_one_87 (by decide) ?_
        refine v_callViP (I := iX10_one) (I' := iX10_takes) lk_X10_178 c_X10_takes dX10_one_89 (m_X10_takes (c := 41) hX (h82.ok hok) be1) rfl rfl (by decide) (ae_87 _ _) rfl (by omega) (by decide) (Nat.le_of_ble_eq_true rfl) (fun s89 h89 => ?_)
        refine v_if_neB (I := iX10_one) (tgt := 99) dX10_one_92 (by decide) (fun c92 => ?_) (fun c92 => ?_)
        · rw [if_pos c92] at h89
          refine v_iconst (I := iX10_one) (v := 0) dX10_one_99 (by decide) ?_
          refine v_putI (I := iX10_one) p_X10_161 dX10_one_100 (by decide) (ae_87 _ _) (ae_87 _ _) rfl rfl (by simp) ?_
          have hq9 := h89.w0
          refine v_aload_n (I := iX10_one) dX10_one_103 rfl ?_
          refine v_dup (I := iX10_one) dX10_one_104 rfl ?_
          refine v_get (I := iX10_one) g_X10_206 dX10_one_105 (by decide) (ae_87 _ _) rfl ?_
          rw [hq9.2.1]
          refine v_iconst (I := iX10_one) (v := 1) dX10_one_108 (by decide) ?_
          refine v_isub (I := iX10_one) dX10_one_109 ?_
          rw [show nI (kn + 1) - 1 = nI kn by rw [← nI_1]; grind]
          refine v_putI (I := iX10_one) p_X10_206 dX10_one_110 (by decide) (ae_87 _ _) (ae_87 _ _) rfl rfl (by simp) ?_
          refine v_goto (I := iX10_one) (tgt := 247) dX10_one_113 (by decide) ?_
          exact v_vret (I := iX10_one) rfl dX10_one_247 ⟨rfl, rfl, by rw [one_40 h40, if_pos hok, if_pos c92]; exact RP.of (hq9.op_ kn) rfl⟩
        · rw [if_neg c92] at h89
          refine v_iconst (I := iX10_one) (v := 1) dX10_one_95 (by decide) ?_
          refine v_goto (I := iX10_one) (tgt := 100) dX10_one_96 (by decide) ?_
          refine v_putI (I := iX10_one) p_X10_161 dX10_one_100 (by decide) (ae_87 _ _) (ae_87 _ _) rfl rfl (by simp) ?_
          have hq9 := h89.w1
          refine v_aload_n (I := iX10_one) dX10_one_103 rfl ?_
          refine v_dup (I := iX10_one) dX10_one_104 rfl ?_
          refine v_get (I := iX10_one) g_X10_206 dX10_one_105 (by decide) (ae_87 _ _) rfl ?_
          refine v_iconst (I := iX10_one) (v := 1) dX10_one_108 (by decide) ?_
          refine v_isub (I := iX10_one) dX10_one_109 ?_
          refine v_putI (I := iX10_one) p_X10_206 dX10_one_110 (by decide) (ae_87 _ _) (ae_87 _ _) rfl rfl (by simp) ?_
          refine v_goto (I := iX10_one) (tgt := 247) dX10_one_113 (by decide) ?_
          exact v_vret (I := iX10_one) rfl dX10_one_247 ⟨rfl, rfl, by rw [one_40 h40, if_pos hok, if_neg c92]; exact RP.of0 (hq9.op_ _) rfl⟩
      · refine v_aload_n (I := iX10_one) dX10_one_85 rfl ?_
        refine v_aload_n (I := iX10_one) dX10_one_86 rfl ?_
        refine v_bipush (I := iX10_one) (v := 41) dX10_one_87 (by decide) ?_
        refine v_callViP (I := iX10_one) (I' := iX10_takes) lk_X10_178 c_X10_takes dX10_one_89 (m_X10_takesW (c := 41) (h82.no hok) (by decide)) rfl rfl (by decide) (ae_87 _ _) rfl (by omega) (by decide) (Nat.le_of_ble_eq_true rfl) (fun s89 h89 => ?_)
        refine v_if_ne (I := iX10_one) (tgt := 99) dX10_one_92 (by decide) (fun c92 => ?_) (fun c92 => ?_)
        · exact absurd rfl c92
        · refine v_iconst (I := iX10_one) (v := 1) dX10_one_95 (by decide) ?_
          refine v_goto (I := iX10_one) (tgt := 100) dX10_one_96 (by decide) ?_
          refine v_putI (I := iX10_one) p_X10_161 dX10_one_100 (by decide) (ae_87 _ _) (ae_87 _ _) rfl rfl (by simp) ?_
          have hq9 := h89.w1
          refine v_aload_n (I := iX10_one) dX10_one_103 rfl ?_
          refine v_dup (I := iX10_one) dX10_one_104 rfl ?_
          refine v_get (I := iX10_one) g_X10_206 dX10_one_105 (by decide) (ae_87 _ _) rfl ?_
          refine v_iconst (I := iX10_one) (v := 1) dX10_one_108 (by decide) ?_
          refine v_isub (I := iX10_one) dX10_one_109 ?_
          refine v_putI (I := iX10_one) p_X10_206 dX10_one_110 (by decide) (ae_87 _ _) (ae_87 _ _) rfl rfl (by simp) ?_
          refine v_goto (I := iX10_one) (tgt := 247) dX10_one_113 (by decide) ?_
          exact v_vret (I := iX10_one) rfl dX10_one_247 ⟨rfl, rfl, by rw [one_40 h40, if_neg hok]; exact RP.of0 (hq9.op_ _) (b_not hok)⟩
    · have haN := (hr_eq c64 (by decide)).1
      refine v_aload_n (I := iX10_one) dX10_one_67 rfl ?_
      refine v_callVvP (I := iX10_one) (I' := iX10_one) lk_X10_193 c_X10_one dX10_one_68 (hF (a + 1) C σ3 τ hR3 (by omega) (by omega)) rfl rfl (by decide) (ae_87 _ _) rfl (by omega) (by decide) (Nat.le_of_ble_eq_true rfl) (fun s68 h68 => ?_)
      obtain ⟨bd1, bd2⟩ := bd_one (T := tpe σ0) (N := N) (u := u) m (a + 1) C (by omega)
      by_cases hok : (pOne (tpe σ0) N u m (a + 1) C).1 = true
      · refine v_aload_n (I := iX10_one) dX10_one_71 rfl ?_
        refine v_sipush (I := iX10_one) (v := 20010) dX10_one_72 (by decide) ?_
        refine v_callVvP (I := iX10_one) (I' := iX10_codes) lk_X10_181 c_X10_codes dX10_one_75 (m_X10_codes (v := 20010) (h68.ok hok) (by have := (bd2 hok).2; have := hX.2.1; omega)) rfl rfl (by decide) (ae_87 _ _) rfl (by omega) (by decide) (Nat.le_of_ble_eq_true rfl) (fun s75 h75 => ?_)
        refine v_goto (I := iX10_one) (tgt := 103) dX10_one_78 (by decide) ?_
        refine v_aload_n (I := iX10_one) dX10_one_103 rfl ?_
        refine v_dup (I := iX10_one) dX10_one_104 rfl ?_
        refine v_get (I := iX10_one) g_X10_206 dX10_one_105 (by decide) (ae_87 _ _) rfl ?_
        rw [h75.2.1]
        refine v_iconst (I := iX10_one) (v := 1) dX10_one_108 (by decide) ?_
        refine v_isub (I := iX10_one) dX10_one_109 ?_
        rw [show nI (kn + 1) - 1 = nI kn by rw [← nI_1]; grind]
        refine v_putI (I := iX10_one) p_X10_206 dX10_one_110 (by decide) (ae_87 _ _) (ae_87 _ _) rfl rfl (by simp) ?_
        refine v_goto (I := iX10_one) (tgt := 247) dX10_one_113 (by decide) ?_
        exact v_vret (I := iX10_one) rfl dX10_one_247 ⟨rfl, rfl, by rw [one_33 c64, if_pos hok]; exact RP.of (h75.op_ kn) rfl⟩
      · refine v_aload_n (I := iX10_one) dX10_one_71 rfl ?_
        refine v_sipush (I := iX10_one) (v := 20010) dX10_one_72 (by decide) ?_
        refine v_callVvP (I := iX10_one) (I' := iX10_codes) lk_X10_181 c_X10_codes dX10_one_75 (m_X10_codesW (v := 20010) (h68.no hok)) rfl rfl (by decide) (ae_87 _ _) rfl (by omega) (by decide) (Nat.le_of_ble_eq_true rfl) (fun s75 h75 => ?_)
        refine v_goto (I := iX10_one) (tgt := 103) dX10_one_78 (by decide) ?_
        refine v_aload_n (I := iX10_one) dX10_one_103 rfl ?_
        refine v_dup (I := iX10_one) dX10_one_104 rfl ?_
        refine v_get (I := iX10_one) g_X10_206 dX10_one_105 (by decide) (ae_87 _ _) rfl ?_
        refine v_iconst (I := iX10_one) (v := 1) dX10_one_108 (by decide) ?_
        refine v_isub (I := iX10_one) dX10_one_109 ?_
        refine v_putI (I := iX10_one) p_X10_206 dX10_one_110 (by decide) (ae_87 _ _) (ae_87 _ _) rfl rfl (by simp) ?_
        refine v_goto (I := iX10_one) (tgt := 247) dX10_one_113 (by decide) ?_
        exact v_vret (I := iX10_one) rfl dX10_one_247 ⟨rfl, rfl, by rw [one_33 c64, if_neg hok]; exact RP.of0 (h75.op_ _) (b_not hok)⟩
  refine v_aload_n (I := iX10_one) dX10_one_0 rfl ?_
  refine v_callVi (I := iX10_one) (I' := iX10_here) lk_X10_169 c_X10_here dX10_one_1 (m_X10_here hX hR ha) rfl rfl (by decide) (ae_87 _ _) rfl (by omega) (by decide) (Nat.le_of_ble_eq_true rfl) ?_
  refine v_istore_n (I := iX10_one) (ls1 := [(1, _), (0, _)]) dX10_one_4 (by decide) rfl ?_
  refine v_iload_n (I := iX10_one) dX10_one_5 rfl ?_
  refine v_bipush (I := iX10_one) (v := 33) dX10_one_6 (by decide) ?_
  refine v_icmp_eq (I := iX10_one) (tgt := 17) dX10_one_8 (by decide) (fun c8 => ?_) (fun c8 => ?_)
  · refine v_aload_n (I := iX10_one) dX10_one_17 rfl ?_
    refine v_aload_n (I := iX10_one) dX10_one_18 rfl ?_
    refine v_get (I := iX10_one) g_X10_206 dX10_one_19 (by decide) (ae_87 _ _) rfl ?_
    rw [hR.2.1]
    refine v_iconst (I := iX10_one) (v := 5) dX10_one_22 (by decide) ?_
    refine v_icmp_ne (I := iX10_one) (tgt := 30) dX10_one_23 (by decide) (fun c23 => ?_) (fun c23 => ?_)
    · refine v_iconst (I := iX10_one) (v := 0) dX10_one_30 (by decide) ?_
      refine v_putI (I := iX10_one) p_X10_161 dX10_one_31 (by decide) (ae_87 _ _) (ae_87 _ _) rfl rfl (by simp) ?_
      have hRz := hR.w0
      refine v_aload_n (I := iX10_one) dX10_one_34 rfl ?_
      refine v_get (I := iX10_one) g_X10_161 dX10_one_35 (by decide) (ae_87 _ _) rfl ?_
      rw [hRz.2.2.1]
      refine v_if_ne (I := iX10_one) (tgt := 247) dX10_one_38 (by decide) (fun c38 => ?_) (fun c38 => ?_)
      · exact absurd rfl c38
      · exact J41 (by first | exact Or.inl c8 | exact Or.inr c14 | grind) hRz
    · exact absurd c23 (by show ¬ nI kn = 5; exact fun h9 => absurd (show nI 5 ≤ nI kn by rw [h9]; decide) (nI_ge (a := kn) (b := 5) (by omega) (by decide)))
  · refine v_iload_n (I := iX10_one) dX10_one_11 rfl ?_
    refine v_bipush (I := iX10_one) (v := 40) dX10_one_12 (by decide) ?_
    refine v_icmp_ne (I := iX10_one) (tgt := 116) dX10_one_14 (by decide) (fun c14 => ?_) (fun c14 => ?_)
    · exact w_atom hX (m := m + 1) hR ha hC (by omega) c8 c14
    · refine v_aload_n (I := iX10_one) dX10_one_17 rfl ?_
      refine v_aload_n (I := iX10_one) dX10_one_18 rfl ?_
      refine v_get (I := iX10_one) g_X10_206 dX10_one_19 (by decide) (ae_87 _ _) rfl ?_
      rw [hR.2.1]
      refine v_iconst (I := iX10_one) (v := 5) dX10_one_22 (by decide) ?_
      refine v_icmp_ne (I := iX10_one) (tgt := 30) dX10_one_23 (by decide) (fun c23 => ?_) (fun c23 => ?_)
      · refine v_iconst (I := iX10_one) (v := 0) dX10_one_30 (by decide) ?_
        refine v_putI (I := iX10_one) p_X10_161 dX10_one_31 (by decide) (ae_87 _ _) (ae_87 _ _) rfl rfl (by simp) ?_
        have hRz := hR.w0
        refine v_aload_n (I := iX10_one) dX10_one_34 rfl ?_
        refine v_get (I := iX10_one) g_X10_161 dX10_one_35 (by decide) (ae_87 _ _) rfl ?_
        rw [hRz.2.2.1]
        refine v_if_ne (I := iX10_one) (tgt := 247) dX10_one_38 (by decide) (fun c38 => ?_) (fun c38 => ?_)
        · exact absurd rfl c38
        · exact J41 (by first | exact Or.inl c8 | exact Or.inr c14 | grind) hRz
      · exact absurd c23 (by show ¬ nI kn = 5; exact fun h9 => absurd (show nI 5 ≤ nI kn by rw [h9]; decide) (nI_ge (a := kn) (b := 5) (by omega) (by decide)))
theorem m_X10_ei {G : fGm} {σ0 : fSt} {N u : Nat} (hX : TX σ0 N u) {one : Nat → List Int32 → pR} {kn D : Nat} (h : RcF G iX10_one σ0 N one kn D) (hb : Bd N one) : RcF G iX10_either σ0 N (pEi (tpe σ0) N one) kn (D + 10) :=
  m_X10_either hX (m_X10_both hX (m_X10_compared hX (m_X10_sum hX (m_X10_product hX h hb) (bd_pr hb)) (bd_su hb)) (bd_co hb)) (bd_bo hb)
theorem m_X10_all {G : fGm} {σ0 : fSt} {N u : Nat} (hX : TX σ0 N u) : ∀ (m kn : Nat), kn + m = 5 → RcF G iX10_one σ0 N (pOne (tpe σ0) N u m) kn (6 + 11 * m) := by
  intro m
  induction m with
  | zero =>
    intro kn hk
    have hk5 : kn = 5 := hk
    subst hk5
    exact m_X10_one0 hX
  | succ m ih =>
    intro kn hk
    exact m_X10_oneS hX hk (by omega) (by omega) (by omega) (ih (kn + 1) (by omega)) (m_X10_ei hX (ih (kn + 1) (by omega)) (bd_one m))
theorem m_X10_txt {G : fGm} {σ0 : fSt} {N u : Nat} (hX : TX σ0 N u) : RcF G iX10_either σ0 N (pEi (tpe σ0) N (pOne (tpe σ0) N u 5)) 0 71 := m_X10_ei hX (m_X10_all hX 5 0 rfl) (bd_one 5)
