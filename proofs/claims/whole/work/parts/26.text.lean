def jOp (o a b : Int32) : Int32 := if o = 37 then (if b = 0 then 0 else a - a / b * b) else if o = 38 then (if a ≠ 0 ∧ b ≠ 0 then 1 else 0) else if o = 42 then (a * b) else if o = 43 then (a + b) else if o = 45 then (a - b) else if o = 47 then (if b = 0 then 0 else a / b) else if o = 60 then (if a < b then 1 else 0) else if o = 61 then (if a = b then 1 else 0) else if o = 62 then (if b < a then 1 else 0) else if o = 124 then (if a ≠ 0 ∨ b ≠ 0 then 1 else 0) else 0
theorem jOp_r {c a b : Int32} (h0 : 20000 ≤ c) (h1 : c < 20010) : jOp (tC c - 10000) a b = rOp c a b := by
  have hc : c = 20000 ∨ c = 20001 ∨ c = 20002 ∨ c = 20003 ∨ c = 20004 ∨ c = 20005 ∨ c = 20006 ∨ c = 20007 ∨ c = 20008 ∨ c = 20009 := by grind
  rcases hc with rfl | rfl | rfl | rfl | rfl | rfl | rfl | rfl | rfl | rfl <;> rfl
theorem tC_op {c : Int32} (h0 : 20000 ≤ c) (h1 : c < 20010) : 10000 ≤ tC c ∧ ¬ tC c = 10033 := by
  have hc : c = 20000 ∨ c = 20001 ∨ c = 20002 ∨ c = 20003 ∨ c = 20004 ∨ c = 20005 ∨ c = 20006 ∨ c = 20007 ∨ c = 20008 ∨ c = 20009 := by grind
  rcases hc with rfl | rfl | rfl | rfl | rfl | rfl | rfl | rfl | rfl | rfl <;> exact ⟨by decide, by decide⟩
theorem tC_num {c : Int32} (h : c < 10000) : tC c = c := by unfold tC; rw [if_pos h]
theorem tC_name {c : Int32} (h : 10000 ≤ c) (h2 : c < 20000) : tC c = -1 - (c - 10000) := by unfold tC; rw [if_neg (by grind), if_pos h2]
theorem i32_lk2 {x : Int32} {v : Int32} {z : Int} (h : ¬ x = v) (hz : v.toInt = z) : ¬ z = x.toInt := fun e => h (Int32.toInt_inj.mp (e.symm.trans hz.symm))
theorem i32_lk {x : Int32} {v : Int32} {z : Int} (h : ¬ x = v) (hz : v.toInt = z) : ¬ x.toInt = z := fun e => h (Int32.toInt_inj.mp (e.trans hz.symm))
set_option maxRecDepth 100000 in
set_option maxHeartbeats 4000000 in
theorem m_X7_joined {G : fGm} {σ : fSt} {τ : fLt} {o a b : Int32} : MS G iX7_joined 0 [.int o, .int a, .int b] σ τ (rT (some (.int (jOp o a b))) σ τ) := by
  refine ms_of (by decide +kernel) (Nat.le_of_ble_eq_true rfl) ?_
  show VW _ _ _ _ _ _ 0 [(0, _), (1, _), (2, _)] []
  refine v_iload_n (I := iX7_joined) dX7_joined_0 rfl ?_
  by_cases s1_37 : o = 37
  · refine v_lookIn (I := iX7_joined) (tgt := 177) (off := 176) (v := 37) dX7_joined_1 s1_37 (by decide) (by decide) (by decide) ?_
    refine v_iload_n (I := iX7_joined) dX7_joined_177 rfl ?_
    refine v_if_ne (I := iX7_joined) (tgt := 185) dX7_joined_178 (by decide) (fun c178 => ?_) (fun c178 => ?_)
    · refine v_iload_n (I := iX7_joined) dX7_joined_185 rfl ?_
      refine v_iload_n (I := iX7_joined) dX7_joined_186 rfl ?_
      refine v_irem (I := iX7_joined) dX7_joined_187 c178 ?_
      exact v_iret (I := iX7_joined) rfl dX7_joined_188 ⟨by unfold jOp; first | (simp [*]; done) | grind, rfl, rfl⟩
    · refine v_iconst (I := iX7_joined) (v := 0) dX7_joined_181 (by decide) ?_
      refine v_goto (I := iX7_joined) (tgt := 188) dX7_joined_182 (by decide) ?_
      exact v_iret (I := iX7_joined) rfl dX7_joined_188 ⟨by unfold jOp; first | (simp [*]; done) | grind, rfl, rfl⟩
  by_cases s1_38 : o = 38
  · refine v_lookIn (I := iX7_joined) (tgt := 106) (off := 105) (v := 38) dX7_joined_1 s1_38 (by decide) (by decide) (by decide) ?_
    refine v_iload_n (I := iX7_joined) dX7_joined_106 rfl ?_
    refine v_if_eq (I := iX7_joined) (tgt := 118) dX7_joined_107 (by decide) (fun c107 => ?_) (fun c107 => ?_)
    · refine v_iconst (I := iX7_joined) (v := 0) dX7_joined_118 (by decide) ?_
      exact v_iret (I := iX7_joined) rfl dX7_joined_119 ⟨by unfold jOp; first | (simp [*]; done) | grind, rfl, rfl⟩
    · refine v_iload_n (I := iX7_joined) dX7_joined_110 rfl ?_
      refine v_if_eq (I := iX7_joined) (tgt := 118) dX7_joined_111 (by decide) (fun c111 => ?_) (fun c111 => ?_)
      · refine v_iconst (I := iX7_joined) (v := 0) dX7_joined_118 (by decide) ?_
        exact v_iret (I := iX7_joined) rfl dX7_joined_119 ⟨by unfold jOp; first | (simp [*]; done) | grind, rfl, rfl⟩
      · refine v_iconst (I := iX7_joined) (v := 1) dX7_joined_114 (by decide) ?_
        refine v_goto (I := iX7_joined) (tgt := 119) dX7_joined_115 (by decide) ?_
        exact v_iret (I := iX7_joined) rfl dX7_joined_119 ⟨by unfold jOp; first | (simp [*]; done) | grind, rfl, rfl⟩
  by_cases s1_42 : o = 42
  · refine v_lookIn (I := iX7_joined) (tgt := 161) (off := 160) (v := 42) dX7_joined_1 s1_42 (by decide) (by decide) (by decide) ?_
    refine v_iload_n (I := iX7_joined) dX7_joined_161 rfl ?_
    refine v_iload_n (I := iX7_joined) dX7_joined_162 rfl ?_
    refine v_imul (I := iX7_joined) dX7_joined_163 ?_
    exact v_iret (I := iX7_joined) rfl dX7_joined_164 ⟨by unfold jOp; first | (simp [*]; done) | grind, rfl, rfl⟩
  by_cases s1_43 : o = 43
  · refine v_lookIn (I := iX7_joined) (tgt := 153) (off := 152) (v := 43) dX7_joined_1 s1_43 (by decide) (by decide) (by decide) ?_
    refine v_iload_n (I := iX7_joined) dX7_joined_153 rfl ?_
    refine v_iload_n (I := iX7_joined) dX7_joined_154 rfl ?_
    refine v_iadd (I := iX7_joined) dX7_joined_155 ?_
    exact v_iret (I := iX7_joined) rfl dX7_joined_156 ⟨by unfold jOp; first | (simp [*]; done) | grind, rfl, rfl⟩
  by_cases s1_45 : o = 45
  · refine v_lookIn (I := iX7_joined) (tgt := 157) (off := 156) (v := 45) dX7_joined_1 s1_45 (by decide) (by decide) (by decide) ?_
    refine v_iload_n (I := iX7_joined) dX7_joined_157 rfl ?_
    refine v_iload_n (I := iX7_joined) dX7_joined_158 rfl ?_
    refine v_isub (I := iX7_joined) dX7_joined_159 ?_
    exact v_iret (I := iX7_joined) rfl dX7_joined_160 ⟨by unfold jOp; first | (simp [*]; done) | grind, rfl, rfl⟩
  by_cases s1_47 : o = 47
  · refine v_lookIn (I := iX7_joined) (tgt := 165) (off := 164) (v := 47) dX7_joined_1 s1_47 (by decide) (by decide) (by decide) ?_
    refine v_iload_n (I := iX7_joined) dX7_joined_165 rfl ?_
    refine v_if_ne (I := iX7_joined) (tgt := 173) dX7_joined_166 (by decide) (fun c166 => ?_) (fun c166 => ?_)
    · refine v_iload_n (I := iX7_joined) dX7_joined_173 rfl ?_
      refine v_iload_n (I := iX7_joined) dX7_joined_174 rfl ?_
      refine v_idiv (I := iX7_joined) dX7_joined_175 c166 ?_
      exact v_iret (I := iX7_joined) rfl dX7_joined_176 ⟨by unfold jOp; first | (simp [*]; done) | grind, rfl, rfl⟩
    · refine v_iconst (I := iX7_joined) (v := 0) dX7_joined_169 (by decide) ?_
      refine v_goto (I := iX7_joined) (tgt := 176) dX7_joined_170 (by decide) ?_
      exact v_iret (I := iX7_joined) rfl dX7_joined_176 ⟨by unfold jOp; first | (simp [*]; done) | grind, rfl, rfl⟩
  by_cases s1_60 : o = 60
  · refine v_lookIn (I := iX7_joined) (tgt := 120) (off := 119) (v := 60) dX7_joined_1 s1_60 (by decide) (by decide) (by decide) ?_
    refine v_iload_n (I := iX7_joined) dX7_joined_120 rfl ?_
    refine v_iload_n (I := iX7_joined) dX7_joined_121 rfl ?_
    refine v_icmp_ge (I := iX7_joined) (tgt := 129) dX7_joined_122 (by decide) (fun c122 => ?_) (fun c122 => ?_)
    · refine v_iconst (I := iX7_joined) (v := 0) dX7_joined_129 (by decide) ?_
      exact v_iret (I := iX7_joined) rfl dX7_joined_130 ⟨by unfold jOp; first | (simp [*]; done) | grind, rfl, rfl⟩
    · refine v_iconst (I := iX7_joined) (v := 1) dX7_joined_125 (by decide) ?_
      refine v_goto (I := iX7_joined) (tgt := 130) dX7_joined_126 (by decide) ?_
      exact v_iret (I := iX7_joined) rfl dX7_joined_130 ⟨by unfold jOp; first | (simp [*]; done) | grind, rfl, rfl⟩
  by_cases s1_61 : o = 61
  · refine v_lookIn (I := iX7_joined) (tgt := 131) (off := 130) (v := 61) dX7_joined_1 s1_61 (by decide) (by decide) (by decide) ?_
    refine v_iload_n (I := iX7_joined) dX7_joined_131 rfl ?_
    refine v_iload_n (I := iX7_joined) dX7_joined_132 rfl ?_
    refine v_icmp_ne (I := iX7_joined) (tgt := 140) dX7_joined_133 (by decide) (fun c133 => ?_) (fun c133 => ?_)
    · refine v_iconst (I := iX7_joined) (v := 0) dX7_joined_140 (by decide) ?_
      exact v_iret (I := iX7_joined) rfl dX7_joined_141 ⟨by unfold jOp; first | (simp [*]; done) | grind, rfl, rfl⟩
    · refine v_iconst (I := iX7_joined) (v := 1) dX7_joined_136 (by decide) ?_
      refine v_goto (I := iX7_joined) (tgt := 141) dX7_joined_137 (by decide) ?_
      exact v_iret (I := iX7_joined) rfl dX7_joined_141 ⟨by unfold jOp; first | (simp [*]; done) | grind, rfl, rfl⟩
  by_cases s1_62 : o = 62
  · refine v_lookIn (I := iX7_joined) (tgt := 142) (off := 141) (v := 62) dX7_joined_1 s1_62 (by decide) (by decide) (by decide) ?_
    refine v_iload_n (I := iX7_joined) dX7_joined_142 rfl ?_
    refine v_iload_n (I := iX7_joined) dX7_joined_143 rfl ?_
    refine v_icmp_le (I := iX7_joined) (tgt := 151) dX7_joined_144 (by decide) (fun c144 => ?_) (fun c144 => ?_)
    · refine v_iconst (I := iX7_joined) (v := 0) dX7_joined_151 (by decide) ?_
      exact v_iret (I := iX7_joined) rfl dX7_joined_152 ⟨by unfold jOp; first | (simp [*]; done) | grind, rfl, rfl⟩
    · refine v_iconst (I := iX7_joined) (v := 1) dX7_joined_147 (by decide) ?_
      refine v_goto (I := iX7_joined) (tgt := 152) dX7_joined_148 (by decide) ?_
      exact v_iret (I := iX7_joined) rfl dX7_joined_152 ⟨by unfold jOp; first | (simp [*]; done) | grind, rfl, rfl⟩
  by_cases s1_124 : o = 124
  · refine v_lookIn (I := iX7_joined) (tgt := 92) (off := 91) (v := 124) dX7_joined_1 s1_124 (by decide) (by decide) (by decide) ?_
    refine v_iload_n (I := iX7_joined) dX7_joined_92 rfl ?_
    refine v_if_ne (I := iX7_joined) (tgt := 100) dX7_joined_93 (by decide) (fun c93 => ?_) (fun c93 => ?_)
    · refine v_iconst (I := iX7_joined) (v := 1) dX7_joined_100 (by decide) ?_
      refine v_goto (I := iX7_joined) (tgt := 105) dX7_joined_101 (by decide) ?_
      exact v_iret (I := iX7_joined) rfl dX7_joined_105 ⟨by unfold jOp; first | (simp [*]; done) | grind, rfl, rfl⟩
    · refine v_iload_n (I := iX7_joined) dX7_joined_96 rfl ?_
      refine v_if_eq (I := iX7_joined) (tgt := 104) dX7_joined_97 (by decide) (fun c97 => ?_) (fun c97 => ?_)
      · refine v_iconst (I := iX7_joined) (v := 0) dX7_joined_104 (by decide) ?_
        exact v_iret (I := iX7_joined) rfl dX7_joined_105 ⟨by unfold jOp; first | (simp [*]; done) | grind, rfl, rfl⟩
      · refine v_iconst (I := iX7_joined) (v := 1) dX7_joined_100 (by decide) ?_
        refine v_goto (I := iX7_joined) (tgt := 105) dX7_joined_101 (by decide) ?_
        exact v_iret (I := iX7_joined) rfl dX7_joined_105 ⟨by unfold jOp; first | (simp [*]; done) | grind, rfl, rfl⟩
  refine v_lookDef (I := iX7_joined) (tgt := 189) dX7_joined_1 (by decide) (by decide) (by simp [Op.lookupswitch.offset, i32_lk2 s1_37 (z := 37) (by decide), i32_lk2 s1_38 (z := 38) (by decide), i32_lk2 s1_42 (z := 42) (by decide), i32_lk2 s1_43 (z := 43) (by decide), i32_lk2 s1_45 (z := 45) (by decide), i32_lk2 s1_47 (z := 47) (by decide), i32_lk2 s1_60 (z := 60) (by decide), i32_lk2 s1_61 (z := 61) (by decide), i32_lk2 s1_62 (z := 62) (by decide), i32_lk2 s1_124 (z := 124) (by decide)]) ?_
  refine v_iconst (I := iX7_joined) (v := 0) dX7_joined_189 (by decide) ?_
  exact v_iret (I := iX7_joined) rfl dX7_joined_190 ⟨by unfold jOp; first | (simp [*]; done) | grind, rfl, rfl⟩
set_option maxRecDepth 100000 in
set_option maxHeartbeats 8000000 in
theorem m_X7_worth0 {G : fGm} {σ : fSt} {τ : fLt} {w : Nat} {g : gS} {nm : Nat → Int32} (hw : w < 3) (hV : V w σ g) (hW : tOK g 0) (hpos : 0 < g (171 + 62 * 0)) (hnm : ∀ j, j < 5 → σ (wc w 21) j = nm j) : MS G iX7_worth 1 [.ref (wc w 12), .ref (wc w 21)] σ τ (rP (some (.int (gVal g 0 nm))) τ (fun σ' => ∀ k, k ≠ wc w 14 → σ' k = σ k)) := by
  obtain ⟨n, hn60, hlen0, hrok⟩ := hW
  have hn0 : 0 < n := by
    rcases Nat.eq_zero_or_pos n with h | h
    · subst h; rw [hlen0] at hpos; exact absurd hpos (by decide)
    · exact h
  have hrok := hrok hn0
  have hX : VX w σ g 0 := hV.2.1
  have hlen : σ (wc w 12) 1 = nI n := hX.1.trans hlen0
  have hit : ∀ j, j < n → σ (wc w 13) j = tC (g (171 + 62 * 0 + 1 + j)) := fun j hj => hX.2 j (by rw [hlen0, nI_clamp (by omega)]; exact hj)
  refine ms_of (by decide +kernel) (Nat.le_of_ble_eq_true rfl) ?_
  show VW _ _ _ _ _ _ 0 [(0, _), (1, _)] []
  have key : ∀ (cs : List Int32) (k : Nat) (s : List Int32) (σ1 : fSt), k + cs.length = n → (∀ j, j < cs.length → σ (wc w 13) (k + j) = tC (cs.getD j 0)) → rOK cs s.length → s.length ≤ k → (∀ q, q ≠ wc w 14 → σ1 q = σ q) → Stk (σ1 (wc w 14)) s → ∀ {x2 x3 r : Int32}, x2 = nI s.length → x3 = nI k → (rEv nm cs s).headD 0 = r →
      VW G iX7_worth (rP (some (.int r)) τ (fun σ' => ∀ k, k ≠ wc w 14 → σ' k = σ k)) 1 σ1 τ 4 [(3, .int x3), (2, .int x2), (0, .ref (wc w 12)), (1, .ref (wc w 21))] [] := by
    intro cs
    induction cs with
    | nil =>
      intro k s σ1 hk hcs hr hsk hfr hstk x2 x3 r hx2 hx3 hpost
      show VW _ _ _ _ _ _ 4 [(3, _), (2, _), (0, _), (1, _)] []
      refine v_iload_n (I := iX7_worth) dX7_worth_4 rfl ?_
      refine v_aload_n (I := iX7_worth) dX7_worth_5 rfl ?_
      refine v_get (I := iX7_worth) g_X7_15 dX7_worth_6 (wc_lt hw (by decide)) (ae_w12 hw _ _) rfl ?_
      rw [hfr _ (wc_ne (by decide)), hlen]
      refine v_icmp_ge (I := iX7_worth) (tgt := 150) dX7_worth_9 (by decide) (fun c9 => ?_) (fun c9 => ?_)
      have hn0 : k = n := by simpa using hk
      obtain ⟨y, rfl⟩ : ∃ y, s = [y] := by
            match s, hr with
            | [y], _ => exact ⟨y, rfl⟩
      have hs1 : σ1 (wc w 14) 0 = r := by rw [← hpost]; exact hstk.1
      refine v_aload_n (I := iX7_worth) dX7_worth_150 rfl ?_
      refine v_get (I := iX7_worth) g_X7_19 dX7_worth_151 (wc_lt hw (by decide)) (ae_w12 hw _ _) rfl ?_
      refine v_iconst (I := iX7_worth) (v := 0) dX7_worth_154 (by decide) ?_
      refine v_callSi (I := iX7_worth) (I' := iX9_at) lk_X7_26 c_X9_at dX7_worth_155 (m_X9_at (wc_lt hw (by decide)) (ae_w14 hw) (by decide)) rfl rfl (by decide) (by decide) (Nat.le_of_ble_eq_true rfl) ?_
      rw [show rdA 60 (σ1 (wc w 14)) 0 = r by rw [show (0 : Int32) = nI 0 from rfl, rdA_in (by decide) (by decide)]; exact hs1]
      exact v_iret (I := iX7_worth) rfl dX7_worth_158 ⟨rfl, rfl, hfr⟩
      exact absurd (by rw [hx3]; exact nI_le (by rw [List.length_nil] at hk; omega) (by omega)) c9
    | cons c cs ih =>
      intro k s σ1 hk hcs hr hsk hfr hstk x2 x3 r hx2 hx3 hpost
      have hc9 : σ (wc w 13) k = tC c := by simpa using hcs 0 (by simp)
      have hcs' : ∀ j, j < cs.length → σ (wc w 13) (k + 1 + j) = tC (cs.getD j 0) := fun j hj => by
        have h := hcs (j + 1) (by simpa using hj)
        rw [show k + 1 + j = k + (j + 1) by omega]
        simpa using h
      rw [List.length_cons] at hk
      show VW _ _ _ _ _ _ 4 [(3, _), (2, _), (0, _), (1, _)] []
      refine v_iload_n (I := iX7_worth) dX7_worth_4 rfl ?_
      refine v_aload_n (I := iX7_worth) dX7_worth_5 rfl ?_
      refine v_get (I := iX7_worth) g_X7_15 dX7_worth_6 (wc_lt hw (by decide)) (ae_w12 hw _ _) rfl ?_
      rw [hfr _ (wc_ne (by decide)), hlen]
      refine v_icmp_ge (I := iX7_worth) (tgt := 150) dX7_worth_9 (by decide) (fun c9 => ?_) (fun c9 => ?_)
      exact absurd c9 (by rw [hx3]; exact nI_ge (by omega) (by omega))
      refine v_aload_n (I := iX7_worth) dX7_worth_12 rfl ?_
      refine v_get (I := iX7_worth) g_X7_9 dX7_worth_13 (wc_lt hw (by decide)) (ae_w12 hw _ _) rfl ?_
      refine v_iload_n (I := iX7_worth) dX7_worth_16 rfl ?_
      refine v_callSi (I := iX7_worth) (I' := iX9_at) lk_X7_26 c_X9_at dX7_worth_17 (m_X9_at (wc_lt hw (by decide)) (ae_w13 hw) (by decide)) rfl rfl (by decide) (by decide) (Nat.le_of_ble_eq_true rfl) ?_
      rw [show rdA 60 (σ1 (wc w 13)) x3 = tC c by rw [hx3, rdA_in (by omega) (by decide), hfr _ (wc_ne (by decide)), hc9]]
      refine v_istore (I := iX7_worth) (ls1 := [(4, _), (3, _), (2, _), (0, _), (1, _)]) dX7_worth_20 (by decide) rfl ?_
      rcases hr with ⟨hc0, hc1, hc2, hr⟩ | ⟨hc, hh, hr⟩ | ⟨hc0, hc1, hh, hr⟩
      · obtain ⟨i9, hi9, hlt9⟩ : ∃ i9, tC c = i9 ∧ (c < 10000 ∧ i9 = c ∨ 10000 ≤ c ∧ i9 = -1 - (c - 10000)) := ⟨_, rfl, by
          by_cases h9 : c < 10000
          · exact Or.inl ⟨h9, tC_num h9⟩
          · exact Or.inr ⟨by grind, tC_name (by grind) hc1⟩⟩
        subst hx2
        refine v_iload (I := iX7_worth) dX7_worth_22 rfl ?_
        refine v_sipush (I := iX7_worth) (v := 10000) dX7_worth_24 (by decide) ?_
        refine v_icmp_ge (I := iX7_worth) (tgt := 63) dX7_worth_27 (by decide) (fun c27 => ?_) (fun c27 => ?_)
        · exact absurd c27 (by rw [hi9]; grind)
        · refine v_aload_n (I := iX7_worth) dX7_worth_30 rfl ?_
          refine v_get (I := iX7_worth) g_X7_19 dX7_worth_31 (wc_lt hw (by decide)) (ae_w12 hw _ _) rfl ?_
          refine v_iload_n (I := iX7_worth) dX7_worth_34 rfl ?_
          refine v_iload (I := iX7_worth) dX7_worth_35 rfl ?_
          refine v_if_ge (I := iX7_worth) (tgt := 51) dX7_worth_37 (by decide) (fun c37 => ?_) (fun c37 => ?_)
          · have h9 : c < 10000 := by grind
            rw [tC_num h9]
            refine v_iload (I := iX7_worth) dX7_worth_51 rfl ?_
            refine v_callSi (I := iX7_worth) (I' := iX9_exchange) lk_X7_30 c_X9_exchange dX7_worth_53 (m_X9_exchange (wc_lt hw (by decide)) (ae_w14 hw) (by decide)) rfl rfl (by decide) (by decide) (Nat.le_of_ble_eq_true rfl) ?_
            rw [wrA_in (j := s.length) (by omega) (by decide)]
            refine v_pop (I := iX7_worth) dX7_worth_56 rfl ?_
            refine v_iinc (I := iX7_worth) (ls1 := [(2, _), (4, _), (3, _), (0, _), (1, _)]) dX7_worth_57 rfl rfl (by decide) rfl ?_
            refine v_goto (I := iX7_worth) (tgt := 144) dX7_worth_60 (by decide) ?_
            refine v_iinc (I := iX7_worth) (ls1 := [(3, _), (2, _), (4, _), (0, _), (1, _)]) dX7_worth_144 rfl rfl (by decide) rfl ?_
            refine v_goto (I := iX7_worth) (tgt := 4) dX7_worth_147 (by decide) ?_
            refine v_pick (I := iX7_worth) (ls1 := [(3, _), (2, _), (0, _), (1, _)]) [0, 1, 3, 4] rfl ?_
            exact ih (k + 1) (c :: s) _ (by omega) (fun j hj => hcs' j hj) (by rw [List.length_cons]; exact hr) (by simp only [List.length_cons] at hsk ⊢; omega) (fun q hq => by rw [up2_kf _ _ _ hq]; exact hfr q hq) (by rw [up2_f]; exact hstk.push) (by exact nI_1 _) (by rw [hx3]; exact nI_1 _) (by rw [← hpost, rEv_cons, rStep_num h9])
          · have h9 : 10000 ≤ c := by grind
            obtain ⟨j9, hj9, hjx⟩ : ∃ j, j < 5 ∧ c - 10000 = nI j := in2_nI (by decide) ⟨by grind, by show c - 10000 < 5; grind⟩
            refine v_aload_n (I := iX7_worth) dX7_worth_40 rfl ?_
            refine v_iconst (I := iX7_worth) (v := -1) dX7_worth_41 (by decide) ?_
            refine v_iload (I := iX7_worth) dX7_worth_42 rfl ?_
            refine v_isub (I := iX7_worth) dX7_worth_44 ?_
            refine v_callSi (I := iX7_worth) (I' := iX9_at) lk_X7_26 c_X9_at dX7_worth_45 (m_X9_at (wc_lt hw (by decide)) (ae_w21 hw) (by decide)) rfl rfl (by decide) (by decide) (Nat.le_of_ble_eq_true rfl) ?_
            rw [show rdA 5 (σ1 (wc w 21)) (-1 - tC c) = nm (c - 10000).toNatClampNeg by rw [tC_name h9 hc1, show -1 - (-1 - (c - 10000)) = c - 10000 by grind, hjx, rdA_in hj9 (by decide), nI_clamp (by omega), hfr _ (wc_ne (by decide)), hnm j9 hj9]]
            refine v_goto (I := iX7_worth) (tgt := 53) dX7_worth_48 (by decide) ?_
            refine v_callSi (I := iX7_worth) (I' := iX9_exchange) lk_X7_30 c_X9_exchange dX7_worth_53 (m_X9_exchange (wc_lt hw (by decide)) (ae_w14 hw) (by decide)) rfl rfl (by decide) (by decide) (Nat.le_of_ble_eq_true rfl) ?_
            rw [wrA_in (j := s.length) (by omega) (by decide)]
            refine v_pop (I := iX7_worth) dX7_worth_56 rfl ?_
            refine v_iinc (I := iX7_worth) (ls1 := [(2, _), (4, _), (3, _), (0, _), (1, _)]) dX7_worth_57 rfl rfl (by decide) rfl ?_
            refine v_goto (I := iX7_worth) (tgt := 144) dX7_worth_60 (by decide) ?_
            refine v_iinc (I := iX7_worth) (ls1 := [(3, _), (2, _), (4, _), (0, _), (1, _)]) dX7_worth_144 rfl rfl (by decide) rfl ?_
            refine v_goto (I := iX7_worth) (tgt := 4) dX7_worth_147 (by decide) ?_
            refine v_pick (I := iX7_worth) (ls1 := [(3, _), (2, _), (0, _), (1, _)]) [0, 1, 3, 4] rfl ?_
            exact ih (k + 1) (nm (c - 10000).toNatClampNeg :: s) _ (by omega) (fun j hj => hcs' j hj) (by rw [List.length_cons]; exact hr) (by simp only [List.length_cons] at hsk ⊢; omega) (fun q hq => by rw [up2_kf _ _ _ hq]; exact hfr q hq) (by rw [up2_f]; exact hstk.push) (by exact nI_1 _) (by rw [hx3]; exact nI_1 _) (by rw [← hpost, rEv_cons, rStep_name h9 hc1])
      · match s, hh, hstk, hx2, hr, hsk, hpost with
        | y :: t, _, hstk, hx2, hr, hsk, hpost =>
        rw [List.length_cons] at hx2
        subst hx2
        refine v_iload (I := iX7_worth) dX7_worth_22 rfl ?_
        refine v_sipush (I := iX7_worth) (v := 10000) dX7_worth_24 (by decide) ?_
        refine v_icmp_ge (I := iX7_worth) (tgt := 63) dX7_worth_27 (by decide) (fun c27 => ?_) (fun c27 => ?_)
        · refine v_iload (I := iX7_worth) dX7_worth_63 rfl ?_
          refine v_sipush (I := iX7_worth) (v := 10033) dX7_worth_65 (by decide) ?_
          refine v_icmp_ne (I := iX7_worth) (tgt := 103) dX7_worth_68 (by decide) (fun c68 => ?_) (fun c68 => ?_)
          · exact absurd (by rw [hc]; decide) c68
          · refine v_aload_n (I := iX7_worth) dX7_worth_71 rfl ?_
            refine v_get (I := iX7_worth) g_X7_19 dX7_worth_72 (wc_lt hw (by decide)) (ae_w12 hw _ _) rfl ?_
            refine v_iload_n (I := iX7_worth) dX7_worth_75 rfl ?_
            refine v_iconst (I := iX7_worth) (v := 1) dX7_worth_76 (by decide) ?_
            refine v_isub (I := iX7_worth) dX7_worth_77 ?_
            refine v_aload_n (I := iX7_worth) dX7_worth_78 rfl ?_
            refine v_get (I := iX7_worth) g_X7_19 dX7_worth_79 (wc_lt hw (by decide)) (ae_w12 hw _ _) rfl ?_
            refine v_iload_n (I := iX7_worth) dX7_worth_82 rfl ?_
            refine v_iconst (I := iX7_worth) (v := 1) dX7_worth_83 (by decide) ?_
            refine v_isub (I := iX7_worth) dX7_worth_84 ?_
            refine v_callSi (I := iX7_worth) (I' := iX9_at) lk_X7_26 c_X9_at dX7_worth_85 (m_X9_at (wc_lt hw (by decide)) (ae_w14 hw) (by decide)) rfl rfl (by decide) (by decide) (Nat.le_of_ble_eq_true rfl) ?_
            rw [show rdA 60 (σ1 (wc w 14)) (nI (t.length + 1) - 1) = y by rw [nI_pred, rdA_in (by simp only [List.length_cons] at hsk; omega) (by decide)]; exact hstk.1]
            refine v_if_ne (I := iX7_worth) (tgt := 95) dX7_worth_88 (by decide) (fun c88 => ?_) (fun c88 => ?_)
            refine v_iconst (I := iX7_worth) (v := 0) dX7_worth_95 (by decide) ?_
            refine v_callSi (I := iX7_worth) (I' := iX9_exchange) lk_X7_30 c_X9_exchange dX7_worth_96 (m_X9_exchange (wc_lt hw (by decide)) (ae_w14 hw) (by decide)) rfl rfl (by decide) (by decide) (Nat.le_of_ble_eq_true rfl) ?_
            rw [nI_pred, wrA_in (j := t.length) (by simp only [List.length_cons] at hsk; omega) (by decide)]
            refine v_pop (I := iX7_worth) dX7_worth_99 rfl ?_
            refine v_goto (I := iX7_worth) (tgt := 144) dX7_worth_100 (by decide) ?_
            refine v_iinc (I := iX7_worth) (ls1 := [(3, _), (4, _), (2, _), (0, _), (1, _)]) dX7_worth_144 rfl rfl (by decide) rfl ?_
            refine v_goto (I := iX7_worth) (tgt := 4) dX7_worth_147 (by decide) ?_
            refine v_pick (I := iX7_worth) (ls1 := [(3, _), (2, _), (0, _), (1, _)]) [0, 2, 3, 4] rfl ?_
            exact ih (k + 1) (0 :: t) _ (by omega) (fun j hj => hcs' j hj) hr (by simp only [List.length_cons] at hsk ⊢; omega) (fun q hq => by rw [up2_kf _ _ _ hq]; exact hfr q hq) (by rw [up2_f]; exact hstk.2.push) rfl (by rw [hx3]; exact nI_1 _) (by rw [← hpost, rEv_cons, hc, rStep_not, if_neg c88])
            refine v_iconst (I := iX7_worth) (v := 1) dX7_worth_91 (by decide) ?_
            refine v_goto (I := iX7_worth) (tgt := 96) dX7_worth_92 (by decide) ?_
            refine v_callSi (I := iX7_worth) (I' := iX9_exchange) lk_X7_30 c_X9_exchange dX7_worth_96 (m_X9_exchange (wc_lt hw (by decide)) (ae_w14 hw) (by decide)) rfl rfl (by decide) (by decide) (Nat.le_of_ble_eq_true rfl) ?_
            rw [nI_pred, wrA_in (j := t.length) (by simp only [List.length_cons] at hsk; omega) (by decide)]
            refine v_pop (I := iX7_worth) dX7_worth_99 rfl ?_
            refine v_goto (I := iX7_worth) (tgt := 144) dX7_worth_100 (by decide) ?_
            refine v_iinc (I := iX7_worth) (ls1 := [(3, _), (4, _), (2, _), (0, _), (1, _)]) dX7_worth_144 rfl rfl (by decide) rfl ?_
            refine v_goto (I := iX7_worth) (tgt := 4) dX7_worth_147 (by decide) ?_
            refine v_pick (I := iX7_worth) (ls1 := [(3, _), (2, _), (0, _), (1, _)]) [0, 2, 3, 4] rfl ?_
            exact ih (k + 1) (1 :: t) _ (by omega) (fun j hj => hcs' j hj) hr (by simp only [List.length_cons] at hsk ⊢; omega) (fun q hq => by rw [up2_kf _ _ _ hq]; exact hfr q hq) (by rw [up2_f]; exact hstk.2.push) rfl (by rw [hx3]; exact nI_1 _) (by rw [← hpost, rEv_cons, hc, rStep_not, if_pos c88])
        · exact absurd (by rw [hc]; decide) c27
      · match s, hh, hstk, hx2, hr, hsk, hpost with
        | b9 :: a9 :: t, _, hstk, hx2, hr, hsk, hpost =>
        rw [List.length_cons, List.length_cons] at hx2
        subst hx2
        refine v_iload (I := iX7_worth) dX7_worth_22 rfl ?_
        refine v_sipush (I := iX7_worth) (v := 10000) dX7_worth_24 (by decide) ?_
        refine v_icmp_ge (I := iX7_worth) (tgt := 63) dX7_worth_27 (by decide) (fun c27 => ?_) (fun c27 => ?_)
        · refine v_iload (I := iX7_worth) dX7_worth_63 rfl ?_
          refine v_sipush (I := iX7_worth) (v := 10033) dX7_worth_65 (by decide) ?_
          refine v_icmp_ne (I := iX7_worth) (tgt := 103) dX7_worth_68 (by decide) (fun c68 => ?_) (fun c68 => ?_)
          · refine v_iinc (I := iX7_worth) (ls1 := [(2, _), (4, _), (3, _), (0, _), (1, _)]) dX7_worth_103 rfl rfl (by decide) rfl ?_
            refine v_aload_n (I := iX7_worth) dX7_worth_106 rfl ?_
            refine v_get (I := iX7_worth) g_X7_19 dX7_worth_107 (wc_lt hw (by decide)) (ae_w12 hw _ _) rfl ?_
            refine v_iload_n (I := iX7_worth) dX7_worth_110 rfl ?_
            refine v_iconst (I := iX7_worth) (v := 1) dX7_worth_111 (by decide) ?_
            refine v_isub (I := iX7_worth) dX7_worth_112 ?_
            refine v_iload (I := iX7_worth) dX7_worth_113 rfl ?_
            refine v_sipush (I := iX7_worth) (v := 10000) dX7_worth_115 (by decide) ?_
            refine v_isub (I := iX7_worth) dX7_worth_118 ?_
            refine v_aload_n (I := iX7_worth) dX7_worth_119 rfl ?_
            refine v_get (I := iX7_worth) g_X7_19 dX7_worth_120 (wc_lt hw (by decide)) (ae_w12 hw _ _) rfl ?_
            refine v_iload_n (I := iX7_worth) dX7_worth_123 rfl ?_
            refine v_iconst (I := iX7_worth) (v := 1) dX7_worth_124 (by decide) ?_
            refine v_isub (I := iX7_worth) dX7_worth_125 ?_
            refine v_callSi (I := iX7_worth) (I' := iX9_at) lk_X7_26 c_X9_at dX7_worth_126 (m_X9_at (wc_lt hw (by decide)) (ae_w14 hw) (by decide)) rfl rfl (by decide) (by decide) (Nat.le_of_ble_eq_true rfl) ?_
            rw [show rdA 60 (σ1 (wc w 14)) (nI (t.length + 1 + 1) + Int32.ofInt (-1) - 1) = a9 by rw [nI_m1, nI_pred, rdA_in (by simp only [List.length_cons] at hsk; omega) (by decide)]; exact hstk.2.1]
            refine v_aload_n (I := iX7_worth) dX7_worth_129 rfl ?_
            refine v_get (I := iX7_worth) g_X7_19 dX7_worth_130 (wc_lt hw (by decide)) (ae_w12 hw _ _) rfl ?_
            refine v_iload_n (I := iX7_worth) dX7_worth_133 rfl ?_
            refine v_callSi (I := iX7_worth) (I' := iX9_at) lk_X7_26 c_X9_at dX7_worth_134 (m_X9_at (wc_lt hw (by decide)) (ae_w14 hw) (by decide)) rfl rfl (by decide) (by decide) (Nat.le_of_ble_eq_true rfl) ?_
            rw [show rdA 60 (σ1 (wc w 14)) (nI (t.length + 1 + 1) + Int32.ofInt (-1)) = b9 by rw [nI_m1, rdA_in (by simp only [List.length_cons] at hsk; omega) (by decide)]; exact hstk.1]
            refine v_callSi (I := iX7_worth) (I' := iX7_joined) lk_X7_34 c_X7_joined dX7_worth_137 (m_X7_joined) rfl rfl (by decide) (by decide) (Nat.le_of_ble_eq_true rfl) ?_
            rw [jOp_r hc0 hc1]
            refine v_callSi (I := iX7_worth) (I' := iX9_exchange) lk_X7_30 c_X9_exchange dX7_worth_140 (m_X9_exchange (wc_lt hw (by decide)) (ae_w14 hw) (by decide)) rfl rfl (by decide) (by decide) (Nat.le_of_ble_eq_true rfl) ?_
            rw [nI_m1, nI_pred, wrA_in (j := t.length) (by simp only [List.length_cons] at hsk; omega) (by decide)]
            refine v_pop (I := iX7_worth) dX7_worth_143 rfl ?_
            refine v_iinc (I := iX7_worth) (ls1 := [(3, _), (2, _), (4, _), (0, _), (1, _)]) dX7_worth_144 rfl rfl (by decide) rfl ?_
            refine v_goto (I := iX7_worth) (tgt := 4) dX7_worth_147 (by decide) ?_
            refine v_pick (I := iX7_worth) (ls1 := [(3, _), (2, _), (0, _), (1, _)]) [0, 1, 3, 4] rfl ?_
            exact ih (k + 1) (_ :: t) _ (by omega) (fun j hj => hcs' j hj) hr (by simp only [List.length_cons] at hsk ⊢; omega) (fun q hq => by rw [up2_kf _ _ _ hq]; exact hfr q hq) (by rw [up2_f]; exact hstk.2.2.push) (by first | rfl | exact nI_m1 _) (by rw [hx3]; exact nI_1 _) (by rw [← hpost, rEv_cons, rStep_op hc0 hc1])
          · exact absurd c68 (tC_op hc0 hc1).2
        · exact absurd (tC_op hc0 hc1).1 c27
  refine v_iconst (I := iX7_worth) (v := 0) dX7_worth_0 (by decide) ?_
  refine v_istore_n (I := iX7_worth) (ls1 := [(2, _), (0, _), (1, _)]) dX7_worth_1 (by decide) rfl ?_
  refine v_iconst (I := iX7_worth) (v := 0) dX7_worth_2 (by decide) ?_
  refine v_istore_n (I := iX7_worth) (ls1 := [(3, _), (2, _), (0, _), (1, _)]) dX7_worth_3 (by decide) rfl ?_
  have hcl : (gCode g 0).length = n := by unfold gCode; rw [List.length_map, List.length_range, hlen0, nI_clamp (by omega)]
  refine key (gCode g 0) 0 [] σ (by omega) (fun j hj => ?_) hrok (Nat.le_refl _) (fun _ _ => rfl) trivial rfl rfl rfl
  rw [hcl] at hj
  rw [Nat.zero_add, hit j hj]
  unfold gCode
  rw [hlen0, nI_clamp (by omega)]
  simp [hj]
set_option maxRecDepth 100000 in
set_option maxHeartbeats 8000000 in
theorem m_X7_worth1 {G : fGm} {σ : fSt} {τ : fLt} {w : Nat} {g : gS} {nm : Nat → Int32} (hw : w < 3) (hV : V w σ g) (hW : tOK g 1) (hpos : 0 < g (171 + 62 * 1)) (hnm : ∀ j, j < 5 → σ (wc w 21) j = nm j) : MS G iX7_worth 1 [.ref (wc w 15), .ref (wc w 21)] σ τ (rP (some (.int (gVal g 1 nm))) τ (fun σ' => ∀ k, k ≠ wc w 17 → σ' k = σ k)) := by
  obtain ⟨n, hn60, hlen0, hrok⟩ := hW
  have hn0 : 0 < n := by
    rcases Nat.eq_zero_or_pos n with h | h
    · subst h; rw [hlen0] at hpos; exact absurd hpos (by decide)
    · exact h
  have hrok := hrok hn0
  have hX : VX w σ g 1 := hV.2.2
  have hlen : σ (wc w 15) 1 = nI n := hX.1.trans hlen0
  have hit : ∀ j, j < n → σ (wc w 16) j = tC (g (171 + 62 * 1 + 1 + j)) := fun j hj => hX.2 j (by rw [hlen0, nI_clamp (by omega)]; exact hj)
  refine ms_of (by decide +kernel) (Nat.le_of_ble_eq_true rfl) ?_
  show VW _ _ _ _ _ _ 0 [(0, _), (1, _)] []
  have key : ∀ (cs : List Int32) (k : Nat) (s : List Int32) (σ1 : fSt), k + cs.length = n → (∀ j, j < cs.length → σ (wc w 16) (k + j) = tC (cs.getD j 0)) → rOK cs s.length → s.length ≤ k → (∀ q, q ≠ wc w 17 → σ1 q = σ q) → Stk (σ1 (wc w 17)) s → ∀ {x2 x3 r : Int32}, x2 = nI s.length → x3 = nI k → (rEv nm cs s).headD 0 = r →
      VW G iX7_worth (rP (some (.int r)) τ (fun σ' => ∀ k, k ≠ wc w 17 → σ' k = σ k)) 1 σ1 τ 4 [(3, .int x3), (2, .int x2), (0, .ref (wc w 15)), (1, .ref (wc w 21))] [] := by
    intro cs
    induction cs with
    | nil =>
      intro k s σ1 hk hcs hr hsk hfr hstk x2 x3 r hx2 hx3 hpost
      show VW _ _ _ _ _ _ 4 [(3, _), (2, _), (0, _), (1, _)] []
      refine v_iload_n (I := iX7_worth) dX7_worth_4 rfl ?_
      refine v_aload_n (I := iX7_worth) dX7_worth_5 rfl ?_
      refine v_get (I := iX7_worth) g_X7_15 dX7_worth_6 (wc_lt hw (by decide)) (ae_w15 hw _ _) rfl ?_
      rw [hfr _ (wc_ne (by decide)), hlen]
      refine v_icmp_ge (I := iX7_worth) (tgt := 150) dX7_worth_9 (by decide) (fun c9 => ?_) (fun c9 => ?_)
      have hn0 : k = n := by simpa using hk
      obtain ⟨y, rfl⟩ : ∃ y, s = [y] := by
            match s, hr with
            | [y], _ => exact ⟨y, rfl⟩
      have hs1 : σ1 (wc w 17) 0 = r := by rw [← hpost]; exact hstk.1
      refine v_aload_n (I := iX7_worth) dX7_worth_150 rfl ?_
      refine v_get (I := iX7_worth) g_X7_19 dX7_worth_151 (wc_lt hw (by decide)) (ae_w15 hw _ _) rfl ?_
      refine v_iconst (I := iX7_worth) (v := 0) dX7_worth_154 (by decide) ?_
      refine v_callSi (I := iX7_worth) (I' := iX9_at) lk_X7_26 c_X9_at dX7_worth_155 (m_X9_at (wc_lt hw (by decide)) (ae_w17 hw) (by decide)) rfl rfl (by decide) (by decide) (Nat.le_of_ble_eq_true rfl) ?_
      rw [show rdA 60 (σ1 (wc w 17)) 0 = r by rw [show (0 : Int32) = nI 0 from rfl, rdA_in (by decide) (by decide)]; exact hs1]
      exact v_iret (I := iX7_worth) rfl dX7_worth_158 ⟨rfl, rfl, hfr⟩
      exact absurd (by rw [hx3]; exact nI_le (by rw [List.length_nil] at hk; omega) (by omega)) c9
    | cons c cs ih =>
      intro k s σ1 hk hcs hr hsk hfr hstk x2 x3 r hx2 hx3 hpost
      have hc9 : σ (wc w 16) k = tC c := by simpa using hcs 0 (by simp)
      have hcs' : ∀ j, j < cs.length → σ (wc w 16) (k + 1 + j) = tC (cs.getD j 0) := fun j hj => by
        have h := hcs (j + 1) (by simpa using hj)
        rw [show k + 1 + j = k + (j + 1) by omega]
        simpa using h
      rw [List.length_cons] at hk
      show VW _ _ _ _ _ _ 4 [(3, _), (2, _), (0, _), (1, _)] []
      refine v_iload_n (I := iX7_worth) dX7_worth_4 rfl ?_
      refine v_aload_n (I := iX7_worth) dX7_worth_5 rfl ?_
      refine v_get (I := iX7_worth) g_X7_15 dX7_worth_6 (wc_lt hw (by decide)) (ae_w15 hw _ _) rfl ?_
      rw [hfr _ (wc_ne (by decide)), hlen]
      refine v_icmp_ge (I := iX7_worth) (tgt := 150) dX7_worth_9 (by decide) (fun c9 => ?_) (fun c9 => ?_)
      exact absurd c9 (by rw [hx3]; exact nI_ge (by omega) (by omega))
      refine v_aload_n (I := iX7_worth) dX7_worth_12 rfl ?_
      refine v_get (I := iX7_worth) g_X7_9 dX7_worth_13 (wc_lt hw (by decide)) (ae_w15 hw _ _) rfl ?_
      refine v_iload_n (I := iX7_worth) dX7_worth_16 rfl ?_
      refine v_callSi (I := iX7_worth) (I' := iX9_at) lk_X7_26 c_X9_at dX7_worth_17 (m_X9_at (wc_lt hw (by decide)) (ae_w16 hw) (by decide)) rfl rfl (by decide) (by decide) (Nat.le_of_ble_eq_true rfl) ?_
      rw [show rdA 60 (σ1 (wc w 16)) x3 = tC c by rw [hx3, rdA_in (by omega) (by decide), hfr _ (wc_ne (by decide)), hc9]]
      refine v_istore (I := iX7_worth) (ls1 := [(4, _), (3, _), (2, _), (0, _), (1, _)]) dX7_worth_20 (by decide) rfl ?_
      rcases hr with ⟨hc0, hc1, hc2, hr⟩ | ⟨hc, hh, hr⟩ | ⟨hc0, hc1, hh, hr⟩
      · obtain ⟨i9, hi9, hlt9⟩ : ∃ i9, tC c = i9 ∧ (c < 10000 ∧ i9 = c ∨ 10000 ≤ c ∧ i9 = -1 - (c - 10000)) := ⟨_, rfl, by
          by_cases h9 : c < 10000
          · exact Or.inl ⟨h9, tC_num h9⟩
          · exact Or.inr ⟨by grind, tC_name (by grind) hc1⟩⟩
        subst hx2
        refine v_iload (I := iX7_worth) dX7_worth_22 rfl ?_
        refine v_sipush (I := iX7_worth) (v := 10000) dX7_worth_24 (by decide) ?_
        refine v_icmp_ge (I := iX7_worth) (tgt := 63) dX7_worth_27 (by decide) (fun c27 => ?_) (fun c27 => ?_)
        · exact absurd c27 (by rw [hi9]; grind)
        · refine v_aload_n (I := iX7_worth) dX7_worth_30 rfl ?_
          refine v_get (I := iX7_worth) g_X7_19 dX7_worth_31 (wc_lt hw (by decide)) (ae_w15 hw _ _) rfl ?_
          refine v_iload_n (I := iX7_worth) dX7_worth_34 rfl ?_
          refine v_iload (I := iX7_worth) dX7_worth_35 rfl ?_
          refine v_if_ge (I := iX7_worth) (tgt := 51) dX7_worth_37 (by decide) (fun c37 => ?_) (fun c37 => ?_)
          · have h9 : c < 10000 := by grind
            rw [tC_num h9]
            refine v_iload (I := iX7_worth) dX7_worth_51 rfl ?_
            refine v_callSi (I := iX7_worth) (I' := iX9_exchange) lk_X7_30 c_X9_exchange dX7_worth_53 (m_X9_exchange (wc_lt hw (by decide)) (ae_w17 hw) (by decide)) rfl rfl (by decide) (by decide) (Nat.le_of_ble_eq_true rfl) ?_
            rw [wrA_in (j := s.length) (by omega) (by decide)]
            refine v_pop (I := iX7_worth) dX7_worth_56 rfl ?_
            refine v_iinc (I := iX7_worth) (ls1 := [(2, _), (4, _), (3, _), (0, _), (1, _)]) dX7_worth_57 rfl rfl (by decide) rfl ?_
            refine v_goto (I := iX7_worth) (tgt := 144) dX7_worth_60 (by decide) ?_
            refine v_iinc (I := iX7_worth) (ls1 := [(3, _), (2, _), (4, _), (0, _), (1, _)]) dX7_worth_144 rfl rfl (by decide) rfl ?_
            refine v_goto (I := iX7_worth) (tgt := 4) dX7_worth_147 (by decide) ?_
            refine v_pick (I := iX7_worth) (ls1 := [(3, _), (2, _), (0, _), (1, _)]) [0, 1, 3, 4] rfl ?_
            exact ih (k + 1) (c :: s) _ (by omega) (fun j hj => hcs' j hj) (by rw [List.length_cons]; exact hr) (by simp only [List.length_cons] at hsk ⊢; omega) (fun q hq => by rw [up2_kf _ _ _ hq]; exact hfr q hq) (by rw [up2_f]; exact hstk.push) (by exact nI_1 _) (by rw [hx3]; exact nI_1 _) (by rw [← hpost, rEv_cons, rStep_num h9])
          · have h9 : 10000 ≤ c := by grind
            obtain ⟨j9, hj9, hjx⟩ : ∃ j, j < 5 ∧ c - 10000 = nI j := in2_nI (by decide) ⟨by grind, by show c - 10000 < 5; grind⟩
            refine v_aload_n (I := iX7_worth) dX7_worth_40 rfl ?_
            refine v_iconst (I := iX7_worth) (v := -1) dX7_worth_41 (by decide) ?_
            refine v_iload (I := iX7_worth) dX7_worth_42 rfl ?_
            refine v_isub (I := iX7_worth) dX7_worth_44 ?_
            refine v_callSi (I := iX7_worth) (I' := iX9_at) lk_X7_26 c_X9_at dX7_worth_45 (m_X9_at (wc_lt hw (by decide)) (ae_w21 hw) (by decide)) rfl rfl (by decide) (by decide) (Nat.le_of_ble_eq_true rfl) ?_
            rw [show rdA 5 (σ1 (wc w 21)) (-1 - tC c) = nm (c - 10000).toNatClampNeg by rw [tC_name h9 hc1, show -1 - (-1 - (c - 10000)) = c - 10000 by grind, hjx, rdA_in hj9 (by decide), nI_clamp (by omega), hfr _ (wc_ne (by decide)), hnm j9 hj9]]
            refine v_goto (I := iX7_worth) (tgt := 53) dX7_worth_48 (by decide) ?_
            refine v_callSi (I := iX7_worth) (I' := iX9_exchange) lk_X7_30 c_X9_exchange dX7_worth_53 (m_X9_exchange (wc_lt hw (by decide)) (ae_w17 hw) (by decide)) rfl rfl (by decide) (by decide) (Nat.le_of_ble_eq_true rfl) ?_
            rw [wrA_in (j := s.length) (by omega) (by decide)]
            refine v_pop (I := iX7_worth) dX7_worth_56 rfl ?_
            refine v_iinc (I := iX7_worth) (ls1 := [(2, _), (4, _), (3, _), (0, _), (1, _)]) dX7_worth_57 rfl rfl (by decide) rfl ?_
            refine v_goto (I := iX7_worth) (tgt := 144) dX7_worth_60 (by decide) ?_
            refine v_iinc (I := iX7_worth) (ls1 := [(3, _), (2, _), (4, _), (0, _), (1, _)]) dX7_worth_144 rfl rfl (by decide) rfl ?_
            refine v_goto (I := iX7_worth) (tgt := 4) dX7_worth_147 (by decide) ?_
            refine v_pick (I := iX7_worth) (ls1 := [(3, _), (2, _), (0, _), (1, _)]) [0, 1, 3, 4] rfl ?_
            exact ih (k + 1) (nm (c - 10000).toNatClampNeg :: s) _ (by omega) (fun j hj => hcs' j hj) (by rw [List.length_cons]; exact hr) (by simp only [List.length_cons] at hsk ⊢; omega) (fun q hq => by rw [up2_kf _ _ _ hq]; exact hfr q hq) (by rw [up2_f]; exact hstk.push) (by exact nI_1 _) (by rw [hx3]; exact nI_1 _) (by rw [← hpost, rEv_cons, rStep_name h9 hc1])
      · match s, hh, hstk, hx2, hr, hsk, hpost with
        | y :: t, _, hstk, hx2, hr, hsk, hpost =>
        rw [List.length_cons] at hx2
        subst hx2
        refine v_iload (I := iX7_worth) dX7_worth_22 rfl ?_
        refine v_sipush (I := iX7_worth) (v := 10000) dX7_worth_24 (by decide) ?_
        refine v_icmp_ge (I := iX7_worth) (tgt := 63) dX7_worth_27 (by decide) (fun c27 => ?_) (fun c27 => ?_)
        · refine v_iload (I := iX7_worth) dX7_worth_63 rfl ?_
          refine v_sipush (I := iX7_worth) (v := 10033) dX7_worth_65 (by decide) ?_
          refine v_icmp_ne (I := iX7_worth) (tgt := 103) dX7_worth_68 (by decide) (fun c68 => ?_) (fun c68 => ?_)
          · exact absurd (by rw [hc]; decide) c68
          · refine v_aload_n (I := iX7_worth) dX7_worth_71 rfl ?_
            refine v_get (I := iX7_worth) g_X7_19 dX7_worth_72 (wc_lt hw (by decide)) (ae_w15 hw _ _) rfl ?_
            refine v_iload_n (I := iX7_worth) dX7_worth_75 rfl ?_
            refine v_iconst (I := iX7_worth) (v := 1) dX7_worth_76 (by decide) ?_
            refine v_isub (I := iX7_worth) dX7_worth_77 ?_
            refine v_aload_n (I := iX7_worth) dX7_worth_78 rfl ?_
            refine v_get (I := iX7_worth) g_X7_19 dX7_worth_79 (wc_lt hw (by decide)) (ae_w15 hw _ _) rfl ?_
            refine v_iload_n (I := iX7_worth) dX7_worth_82 rfl ?_
            refine v_iconst (I := iX7_worth) (v := 1) dX7_worth_83 (by decide) ?_
            refine v_isub (I := iX7_worth) dX7_worth_84 ?_
            refine v_callSi (I := iX7_worth) (I' := iX9_at) lk_X7_26 c_X9_at dX7_worth_85 (m_X9_at (wc_lt hw (by decide)) (ae_w17 hw) (by decide)) rfl rfl (by decide) (by decide) (Nat.le_of_ble_eq_true rfl) ?_
            rw [show rdA 60 (σ1 (wc w 17)) (nI (t.length + 1) - 1) = y by rw [nI_pred, rdA_in (by simp only [List.length_cons] at hsk; omega) (by decide)]; exact hstk.1]
            refine v_if_ne (I := iX7_worth) (tgt := 95) dX7_worth_88 (by decide) (fun c88 => ?_) (fun c88 => ?_)
            refine v_iconst (I := iX7_worth) (v := 0) dX7_worth_95 (by decide) ?_
            refine v_callSi (I := iX7_worth) (I' := iX9_exchange) lk_X7_30 c_X9_exchange dX7_worth_96 (m_X9_exchange (wc_lt hw (by decide)) (ae_w17 hw) (by decide)) rfl rfl (by decide) (by decide) (Nat.le_of_ble_eq_true rfl) ?_
            rw [nI_pred, wrA_in (j := t.length) (by simp only [List.length_cons] at hsk; omega) (by decide)]
            refine v_pop (I := iX7_worth) dX7_worth_99 rfl ?_
            refine v_goto (I := iX7_worth) (tgt := 144) dX7_worth_100 (by decide) ?_
            refine v_iinc (I := iX7_worth) (ls1 := [(3, _), (4, _), (2, _), (0, _), (1, _)]) dX7_worth_144 rfl rfl (by decide) rfl ?_
            refine v_goto (I := iX7_worth) (tgt := 4) dX7_worth_147 (by decide) ?_
            refine v_pick (I := iX7_worth) (ls1 := [(3, _), (2, _), (0, _), (1, _)]) [0, 2, 3, 4] rfl ?_
            exact ih (k + 1) (0 :: t) _ (by omega) (fun j hj => hcs' j hj) hr (by simp only [List.length_cons] at hsk ⊢; omega) (fun q hq => by rw [up2_kf _ _ _ hq]; exact hfr q hq) (by rw [up2_f]; exact hstk.2.push) rfl (by rw [hx3]; exact nI_1 _) (by rw [← hpost, rEv_cons, hc, rStep_not, if_neg c88])
            refine v_iconst (I := iX7_worth) (v := 1) dX7_worth_91 (by decide) ?_
            refine v_goto (I := iX7_worth) (tgt := 96) dX7_worth_92 (by decide) ?_
            refine v_callSi (I := iX7_worth) (I' := iX9_exchange) lk_X7_30 c_X9_exchange dX7_worth_96 (m_X9_exchange (wc_lt hw (by decide)) (ae_w17 hw) (by decide)) rfl rfl (by decide) (by decide) (Nat.le_of_ble_eq_true rfl) ?_
            rw [nI_pred, wrA_in (j := t.length) (by simp only [List.length_cons] at hsk; omega) (by decide)]
            refine v_pop (I := iX7_worth) dX7_worth_99 rfl ?_
            refine v_goto (I := iX7_worth) (tgt := 144) dX7_worth_100 (by decide) ?_
            refine v_iinc (I := iX7_worth) (ls1 := [(3, _), (4, _), (2, _), (0, _), (1, _)]) dX7_worth_144 rfl rfl (by decide) rfl ?_
            refine v_goto (I := iX7_worth) (tgt := 4) dX7_worth_147 (by decide) ?_
            refine v_pick (I := iX7_worth) (ls1 := [(3, _), (2, _), (0, _), (1, _)]) [0, 2, 3, 4] rfl ?_
            exact ih (k + 1) (1 :: t) _ (by omega) (fun j hj => hcs' j hj) hr (by simp only [List.length_cons] at hsk ⊢; omega) (fun q hq => by rw [up2_kf _ _ _ hq]; exact hfr q hq) (by rw [up2_f]; exact hstk.2.push) rfl (by rw [hx3]; exact nI_1 _) (by rw [← hpost, rEv_cons, hc, rStep_not, if_pos c88])
        · exact absurd (by rw [hc]; decide) c27
      · match s, hh, hstk, hx2, hr, hsk, hpost with
        | b9 :: a9 :: t, _, hstk, hx2, hr, hsk, hpost =>
        rw [List.length_cons, List.length_cons] at hx2
        subst hx2
        refine v_iload (I := iX7_worth) dX7_worth_22 rfl ?_
        refine v_sipush (I := iX7_worth) (v := 10000) dX7_worth_24 (by decide) ?_
        refine v_icmp_ge (I := iX7_worth) (tgt := 63) dX7_worth_27 (by decide) (fun c27 => ?_) (fun c27 => ?_)
        · refine v_iload (I := iX7_worth) dX7_worth_63 rfl ?_
          refine v_sipush (I := iX7_worth) (v := 10033) dX7_worth_65 (by decide) ?_
          refine v_icmp_ne (I := iX7_worth) (tgt := 103) dX7_worth_68 (by decide) (fun c68 => ?_) (fun c68 => ?_)
          · refine v_iinc (I := iX7_worth) (ls1 := [(2, _), (4, _), (3, _), (0, _), (1, _)]) dX7_worth_103 rfl rfl (by decide) rfl ?_
            refine v_aload_n (I := iX7_worth) dX7_worth_106 rfl ?_
            refine v_get (I := iX7_worth) g_X7_19 dX7_worth_107 (wc_lt hw (by decide)) (ae_w15 hw _ _) rfl ?_
            refine v_iload_n (I := iX7_worth) dX7_worth_110 rfl ?_
            refine v_iconst (I := iX7_worth) (v := 1) dX7_worth_111 (by decide) ?_
            refine v_isub (I := iX7_worth) dX7_worth_112 ?_
            refine v_iload (I := iX7_worth) dX7_worth_113 rfl ?_
            refine v_sipush (I := iX7_worth) (v := 10000) dX7_worth_115 (by decide) ?_
            refine v_isub (I := iX7_worth) dX7_worth_118 ?_
            refine v_aload_n (I := iX7_worth) dX7_worth_119 rfl ?_
            refine v_get (I := iX7_worth) g_X7_19 dX7_worth_120 (wc_lt hw (by decide)) (ae_w15 hw _ _) rfl ?_
            refine v_iload_n (I := iX7_worth) dX7_worth_123 rfl ?_
            refine v_iconst (I := iX7_worth) (v := 1) dX7_worth_124 (by decide) ?_
            refine v_isub (I := iX7_worth) dX7_worth_125 ?_
            refine v_callSi (I := iX7_worth) (I' := iX9_at) lk_X7_26 c_X9_at dX7_worth_126 (m_X9_at (wc_lt hw (by decide)) (ae_w17 hw) (by decide)) rfl rfl (by decide) (by decide) (Nat.le_of_ble_eq_true rfl) ?_
            rw [show rdA 60 (σ1 (wc w 17)) (nI (t.length + 1 + 1) + Int32.ofInt (-1) - 1) = a9 by rw [nI_m1, nI_pred, rdA_in (by simp only [List.length_cons] at hsk; omega) (by decide)]; exact hstk.2.1]
            refine v_aload_n (I := iX7_worth) dX7_worth_129 rfl ?_
            refine v_get (I := iX7_worth) g_X7_19 dX7_worth_130 (wc_lt hw (by decide)) (ae_w15 hw _ _) rfl ?_
            refine v_iload_n (I := iX7_worth) dX7_worth_133 rfl ?_
            refine v_callSi (I := iX7_worth) (I' := iX9_at) lk_X7_26 c_X9_at dX7_worth_134 (m_X9_at (wc_lt hw (by decide)) (ae_w17 hw) (by decide)) rfl rfl (by decide) (by decide) (Nat.le_of_ble_eq_true rfl) ?_
            rw [show rdA 60 (σ1 (wc w 17)) (nI (t.length + 1 + 1) + Int32.ofInt (-1)) = b9 by rw [nI_m1, rdA_in (by simp only [List.length_cons] at hsk; omega) (by decide)]; exact hstk.1]
            refine v_callSi (I := iX7_worth) (I' := iX7_joined) lk_X7_34 c_X7_joined dX7_worth_137 (m_X7_joined) rfl rfl (by decide) (by decide) (Nat.le_of_ble_eq_true rfl) ?_
            rw [jOp_r hc0 hc1]
            refine v_callSi (I := iX7_worth) (I' := iX9_exchange) lk_X7_30 c_X9_exchange dX7_worth_140 (m_X9_exchange (wc_lt hw (by decide)) (ae_w17 hw) (by decide)) rfl rfl (by decide) (by decide) (Nat.le_of_ble_eq_true rfl) ?_
            rw [nI_m1, nI_pred, wrA_in (j := t.length) (by simp only [List.length_cons] at hsk; omega) (by decide)]
            refine v_pop (I := iX7_worth) dX7_worth_143 rfl ?_
            refine v_iinc (I := iX7_worth) (ls1 := [(3, _), (2, _), (4, _), (0, _), (1, _)]) dX7_worth_144 rfl rfl (by decide) rfl ?_
            refine v_goto (I := iX7_worth) (tgt := 4) dX7_worth_147 (by decide) ?_
            refine v_pick (I := iX7_worth) (ls1 := [(3, _), (2, _), (0, _), (1, _)]) [0, 1, 3, 4] rfl ?_
            exact ih (k + 1) (_ :: t) _ (by omega) (fun j hj => hcs' j hj) hr (by simp only [List.length_cons] at hsk ⊢; omega) (fun q hq => by rw [up2_kf _ _ _ hq]; exact hfr q hq) (by rw [up2_f]; exact hstk.2.2.push) (by first | rfl | exact nI_m1 _) (by rw [hx3]; exact nI_1 _) (by rw [← hpost, rEv_cons, rStep_op hc0 hc1])
          · exact absurd c68 (tC_op hc0 hc1).2
        · exact absurd (tC_op hc0 hc1).1 c27
  refine v_iconst (I := iX7_worth) (v := 0) dX7_worth_0 (by decide) ?_
  refine v_istore_n (I := iX7_worth) (ls1 := [(2, _), (0, _), (1, _)]) dX7_worth_1 (by decide) rfl ?_
  refine v_iconst (I := iX7_worth) (v := 0) dX7_worth_2 (by decide) ?_
  refine v_istore_n (I := iX7_worth) (ls1 := [(3, _), (2, _), (0, _), (1, _)]) dX7_worth_3 (by decide) rfl ?_
  have hcl : (gCode g 1).length = n := by unfold gCode; rw [List.length_map, List.length_range, hlen0, nI_clamp (by omega)]
  refine key (gCode g 1) 0 [] σ (by omega) (fun j hj => ?_) hrok (Nat.le_refl _) (fun _ _ => rfl) trivial rfl rfl rfl
  rw [hcl] at hj
  rw [Nat.zero_add, hit j hj]
  unfold gCode
  rw [hlen0, nI_clamp (by omega)]
  simp [hj]
