set_option maxRecDepth 100000 in
set_option maxHeartbeats 8000000 in
theorem m_X10_ways {G : fGm} {σ : fSt} {τ : fLt} {ρ : fSt} (hR : RR σ ρ) {n w : Int32} : MS G iX10_ways 69 [.ref 87, .int n, .int w] σ τ (rRL σ (waysS ρ n w)) := by
  refine ms_of (by decide +kernel) (Nat.le_of_ble_eq_true rfl) ?_
  show VW _ _ _ _ _ _ 0 [(0, _), (1, _), (2, _)] []
  refine v_iload_n (I := iX10_ways) dX10_ways_0 rfl ?_
  refine v_iconst (I := iX10_ways) (v := 1) dX10_ways_1 (by decide) ?_
  refine v_bipush (I := iX10_ways) (v := 8) dX10_ways_2 (by decide) ?_
  refine v_callSi (I := iX10_ways) (I' := iX10_within) lk_X10_79 c_X10_within dX10_ways_4 (m_X10_within) rfl rfl (by decide) (by decide) (Nat.le_of_ble_eq_true rfl) ?_
  refine v_if_eqB (I := iX10_ways) (tgt := 19) dX10_ways_7 (by decide) (fun c7 => ?_) (fun c7 => ?_)
  · refine v_aload_n (I := iX10_ways) dX10_ways_19 rfl ?_
    refine v_ldc (I := iX10_ways) k_X10_91 dX10_ways_20 ?_
    refine v_callVi (I := iX10_ways) (I' := iX10_finding) lk_X10_92 c_X10_finding dX10_ways_22 (m_X10_findE (e := 1) (by decide) (by decide)) rfl rfl (by decide) (ae_87 _ _) rfl (by decide) (by decide) (Nat.le_of_ble_eq_true rfl) ?_
    refine v_i2l (I := iX10_ways) dX10_ways_25 ?_
    exact v_lret (I := iX10_ways) rfl dX10_ways_26 (by unfold waysS; rw [if_neg (by grind)]; exact ⟨rfl, RR_err hR, FR.up (by decide)⟩)
  · refine v_iload_n (I := iX10_ways) dX10_ways_10 rfl ?_
    refine v_iconst (I := iX10_ways) (v := 0) dX10_ways_11 (by decide) ?_
    refine v_iconst (I := iX10_ways) (v := 1) dX10_ways_12 (by decide) ?_
    refine v_callSi (I := iX10_ways) (I' := iX10_within) lk_X10_79 c_X10_within dX10_ways_13 (m_X10_within) rfl rfl (by decide) (by decide) (Nat.le_of_ble_eq_true rfl) ?_
    refine v_if_neB (I := iX10_ways) (tgt := 27) dX10_ways_16 (by decide) (fun c16 => ?_) (fun c16 => ?_)
    · have hgood : (1 ≤ n ∧ n ≤ 8) ∧ 0 ≤ w ∧ w ≤ 1 := by grind
      obtain ⟨N, hN8, rfl⟩ := in2_nI (x := n) (n := 9) (by decide) ⟨by grind, by have := hgood.1.2; show n < 9; grind⟩
      have hNc : (nI N).toNatClampNeg = N := nI_clamp (by omega)
      refine v_aload_n (I := iX10_ways) dX10_ways_27 rfl ?_
      refine v_get (I := iX10_ways) g_X10_9 dX10_ways_28 (by decide) (ae_87 _ _) rfl ?_
      refine v_bipush (I := iX10_ways) (v := 15) dX10_ways_31 (by decide) ?_
      refine v_ialdN (I := iX10_ways) (j := 15) (by decide) (by decide) (by decide) dX10_ways_33 (by decide) (ae_88 _ _) ?_
      refine v_if_ne (I := iX10_ways) (tgt := 46) dX10_ways_34 (by decide) (fun c34 => ?_) (fun c34 => ?_)
      · have h150 : ¬ ρ 88 15 = 0 := by rw [← hR.1]; exact c34
        have h15 : 0 < ρ 88 15 := by
          have h9 : (0 : Int32) ≤ ρ 88 15 := (hR.2.2.2.2.2.2.2.2.2.2.2.1.1 15 (by decide)).1
          grind
        have hwq : wI (0 + N) (waysQ (ρ 88) N) := wI_go N 0 (wI_0 hR.2.2.2.2.2.2.2.2.2.2.2.1 h15)
        have hwl := wI_lt hwq (by omega)
        have hw1 : 1 ≤ (waysQ (ρ 88) N).2.2.2 := hwq.2.2.2.1
        have hgp : 0 < Nat.gcd (waysQ (ρ 88) N).2.2.2 (waysQ (ρ 88) N).2.2.1 := Nat.gcd_pos_of_pos_left _ hw1
        have hgl : Nat.gcd (waysQ (ρ 88) N).2.2.2 (waysQ (ρ 88) N).2.2.1 ≤ (waysQ (ρ 88) N).2.2.2 := Nat.gcd_le_left _ hw1
        have hgz : ¬ lN (Nat.gcd (waysQ (ρ 88) N).2.2.2 (waysQ (ρ 88) N).2.2.1) = 0 := fun h9 => by
          have e := pk_lEQ (a := Nat.gcd (waysQ (ρ 88) N).2.2.2 (waysQ (ρ 88) N).2.2.1) (b := 0) (by omega) (by decide)
          have := e.mp h9
          omega
        have key : ∀ (m i : Nat) {σ9 : fSt} {τ9 : fLt} {q : wQ} {y : Int32}, i + m = N → wGo m q = waysQ (ρ 88) N → wI i q → σ9 88 = q.1 → σ9 90 = ρ 88 → (∀ k, k ≠ 88 → k ≠ 90 → k ≠ 90 → σ9 k = σ k) → (∀ j, j < 199 → τ9 98 j = lN (q.2.1 j)) → τ9 87 18 = lN q.2.2.1 → τ9 87 19 = lN q.2.2.2 → y = nI i → VW G iX10_ways (rRL σ (waysS ρ (nI N) w)) 69 σ9 τ9 110 [(3, .int y), (0, .ref 87), (1, .int (nI N)), (2, .int w)] [] := by
          intro m
          induction m with
          | zero =>
            intro i σ9 τ9 q y hin hgo hwi h88 h90 hk9 hR9 hF9 hA9 hy
            have hin0 : i = N := hin
            have hq9 : q = waysQ (ρ 88) N := hgo
            subst hy
            rw [hq9] at hF9 hA9
            show VW _ _ _ _ _ _ 110 [(3, _), (0, _), (1, _), (2, _)] []
            refine v_iload_n (I := iX10_ways) dX10_ways_110 rfl ?_
            refine v_iload_n (I := iX10_ways) dX10_ways_111 rfl ?_
            refine v_icmp_ge (I := iX10_ways) (tgt := 125) dX10_ways_112 (by decide) (fun c112 => ?_) (fun c112 => ?_)
            · refine v_aload_n (I := iX10_ways) dX10_ways_125 rfl ?_
              refine v_get (I := iX10_ways) g_X10_16 dX10_ways_126 (by decide) (ae_87 _ _) rfl ?_
              refine v_aload_n (I := iX10_ways) dX10_ways_129 rfl ?_
              refine v_get (I := iX10_ways) g_X10_9 dX10_ways_130 (by decide) (ae_87 _ _) rfl ?_
              refine v_callSv (I := iX10_ways) (I' := iX10_copy) lk_X10_83 c_X10_copy dX10_ways_133 (m_X10_copy (by decide) (by decide) (ae_90) (ae_88) (by decide)) rfl rfl (by decide) (by decide) (Nat.le_of_ble_eq_true rfl) ?_
              rw [h90]
              refine v_aload_n (I := iX10_ways) dX10_ways_136 rfl ?_
              refine v_get (I := iX10_ways) g_X10_274 dX10_ways_137 (by decide) (ae_87 _ _) rfl ?_
              rw [hA9]
              refine v_aload_n (I := iX10_ways) dX10_ways_140 rfl ?_
              refine v_get (I := iX10_ways) g_X10_270 dX10_ways_141 (by decide) (ae_87 _ _) rfl ?_
              rw [hF9]
              refine v_callSl (I := iX10_ways) (I' := iX10_divisor) lk_X10_277 c_X10_divisor dX10_ways_144 (m_X10_divisor 68 (by omega) hwl.1 hwl.2.1 (Nat.lt_of_lt_of_le (Nat.mul_lt_mul_of_lt_of_le hwl.1 (Nat.le_of_lt (Nat.lt_of_le_of_lt hwl.2.1 hwl.1)) (by decide)) (by decide))) rfl rfl (by decide) (by decide) (Nat.le_of_ble_eq_true rfl) ?_
              refine v_lstore_n (I := iX10_ways) (ls1 := [(3, _), (0, _), (1, _), (2, _)]) dX10_ways_147 (by decide) rfl ?_
              refine v_iload_n (I := iX10_ways) dX10_ways_148 rfl ?_
              refine v_if_ne (I := iX10_ways) (tgt := 161) dX10_ways_149 (by decide) (fun c149 => ?_) (fun c149 => ?_)
              · refine v_aload_n (I := iX10_ways) dX10_ways_161 rfl ?_
                refine v_get (I := iX10_ways) g_X10_274 dX10_ways_162 (by decide) (ae_87 _ _) rfl ?_
                rw [hA9]
                refine v_lload_n (I := iX10_ways) dX10_ways_165 rfl ?_
                refine v_ldiv (I := iX10_ways) dX10_ways_166 hgz ?_
                rw [pk_lDiv (by omega) hgp (by omega)]
                exact v_lret (I := iX10_ways) rfl dX10_ways_167 (by unfold waysS; rw [if_pos hgood, if_neg h150, hNc]; exact ⟨by first | rw [if_pos c149] | rw [if_neg c149], RR_of hR (fun k hk => by rcases hk with rfl | rfl | rfl | rfl | rfl | rfl | rfl | rfl | rfl <;> first | (rw [va_up_s]; exact hR.1.symm) | (rw [va_up_o _ _ (by decide)]; exact hk9 _ (by decide) (by decide) (by decide))) (by rw [va_up_o _ _ (by decide)]; rw [hk9 87 (by decide) (by decide) (by decide)]) (by rw [va_up_o _ _ (by decide)]; rw [hk9 87 (by decide) (by decide) (by decide)]), fun k hk => (va_up_o _ _ (by omega)).trans (hk9 k (by omega) (by omega) (by omega))⟩)
              · refine v_aload_n (I := iX10_ways) dX10_ways_152 rfl ?_
                refine v_get (I := iX10_ways) g_X10_270 dX10_ways_153 (by decide) (ae_87 _ _) rfl ?_
                rw [hF9]
                refine v_lload_n (I := iX10_ways) dX10_ways_156 rfl ?_
                refine v_ldiv (I := iX10_ways) dX10_ways_157 hgz ?_
                rw [pk_lDiv (by omega) hgp (by omega)]
                refine v_goto (I := iX10_ways) (tgt := 167) dX10_ways_158 (by decide) ?_
                exact v_lret (I := iX10_ways) rfl dX10_ways_167 (by unfold waysS; rw [if_pos hgood, if_neg h150, hNc]; exact ⟨by first | rw [if_pos c149] | rw [if_neg c149], RR_of hR (fun k hk => by rcases hk with rfl | rfl | rfl | rfl | rfl | rfl | rfl | rfl | rfl <;> first | (rw [va_up_s]; exact hR.1.symm) | (rw [va_up_o _ _ (by decide)]; exact hk9 _ (by decide) (by decide) (by decide))) (by rw [va_up_o _ _ (by decide)]; rw [hk9 87 (by decide) (by decide) (by decide)]) (by rw [va_up_o _ _ (by decide)]; rw [hk9 87 (by decide) (by decide) (by decide)]), fun k hk => (va_up_o _ _ (by omega)).trans (hk9 k (by omega) (by omega) (by omega))⟩)
            · exact absurd (by rw [hin0]; exact Int32.le_refl _) c112
          | succ m ih =>
            intro i σ9 τ9 q y hin hgo hwi h88 h90 hk9 hR9 hF9 hA9 hy
            subst hy
            have hwl9 := wI_lt hwi (by omega)
            show VW _ _ _ _ _ _ 110 [(3, _), (0, _), (1, _), (2, _)] []
            refine v_iload_n (I := iX10_ways) dX10_ways_110 rfl ?_
            refine v_iload_n (I := iX10_ways) dX10_ways_111 rfl ?_
            refine v_icmp_ge (I := iX10_ways) (tgt := 125) dX10_ways_112 (by decide) (fun c112 => ?_) (fun c112 => ?_)
            · exact absurd c112 (by exact nI_ge (by omega) (by omega))
            · refine v_aload_n (I := iX10_ways) dX10_ways_115 rfl ?_
              refine v_callV (I := iX10_ways) (I' := iX10_rowsGo) lk_X10_281 c_X10_rowsGo dX10_ways_116 (m_X10_rowsGo (σ := σ9) (R := q.2.1) (F := q.2.2.1) (A := q.2.2.2) (by rw [h88]; exact hwi.1) (by rw [h88]; exact hwi.2.1) hR9 hwl9.2.2 hF9 hA9) rfl rfl (by decide) (ae_87 _ _) rfl (by decide) (by decide) (Nat.le_of_ble_eq_true rfl) (fun v116 s116 t116 h116 => ?_)
              obtain ⟨rfl, rfl, hF1, hA1, hR1⟩ := h116
              rw [h88] at hF1 hA1 hR1
              show VW _ _ _ _ _ _ _ _ []
              refine v_iinc (I := iX10_ways) (ls1 := [(3, _), (0, _), (1, _), (2, _)]) dX10_ways_119 rfl rfl (by decide) rfl ?_
              refine v_goto (I := iX10_ways) (tgt := 110) dX10_ways_122 (by decide) ?_
              exact ih (i + 1) (q := wStep q) (by omega) (by rw [← hgo]; rfl) (wI_step hwi) (by rw [va_up_s, h88]; rfl) ((va_up_o _ _ (by decide)).trans h90) (fun k a b c => (va_up_o _ _ a).trans (hk9 k a b c)) hR1 hF1 hA1 (nI_1 i)
        have key0 : ∀ (m i : Nat) {τ9 : fLt} {y : Int32}, i + m = 199 → (∀ j, j < i → τ9 98 j = lN (wR0 (ρ 88 1) j)) → y = nI i → VW G iX10_ways (rRL σ (waysS ρ (nI N) w)) 69 (va_up σ 90 (ρ 88)) τ9 59 [(3, .int y), (0, .ref 87), (1, .int (nI N)), (2, .int w)] [] := by
          intro m
          induction m with
          | zero =>
            intro i τ9 y hin hW9 hy
            have hin0 : i = 199 := hin
            subst hy
            show VW _ _ _ _ _ _ 59 [(3, _), (0, _), (1, _), (2, _)] []
            refine v_iload_n (I := iX10_ways) dX10_ways_59 rfl ?_
            refine v_aload_n (I := iX10_ways) dX10_ways_60 rfl ?_
            refine v_get (I := iX10_ways) g_X10_47 dX10_ways_61 (by decide) (ae_87 _ _) rfl ?_
            refine v_alenJ (I := iX10_ways) dX10_ways_64 (by decide) (ae_98 _ _) ?_
            refine v_icmp_ge (I := iX10_ways) (tgt := 98) dX10_ways_65 (by decide) (fun c65 => ?_) (fun c65 => ?_)
            · refine v_aload_n (I := iX10_ways) dX10_ways_98 rfl ?_
              refine v_lconst (I := iX10_ways) (v := 0) dX10_ways_99 (by decide) ?_
              refine v_putJ (I := iX10_ways) p_X10_270 dX10_ways_100 (by decide) (ae_87 _ _) (ae_87 _ _) (by simp) ?_
              refine v_aload_n (I := iX10_ways) dX10_ways_103 rfl ?_
              refine v_lconst (I := iX10_ways) (v := 1) dX10_ways_104 (by decide) ?_
              refine v_putJ (I := iX10_ways) p_X10_274 dX10_ways_105 (by decide) (ae_87 _ _) (ae_87 _ _) (by simp) ?_
              refine v_iconst (I := iX10_ways) (v := 0) dX10_ways_108 (by decide) ?_
              refine v_istore_n (I := iX10_ways) (ls1 := [(3, _), (0, _), (1, _), (2, _)]) dX10_ways_109 (by decide) rfl ?_
              subst hin0
              exact key N 0 (by omega) rfl (wI_0 hR.2.2.2.2.2.2.2.2.2.2.2.1 h15) (by rw [va_up_o _ _ (by decide)]; exact hR.1) (va_up_s _ _ _) (fun k a b c => va_up_o _ _ b) (fun j hj => by rw [up_ne (by decide), up_ne (by decide)]; exact hW9 j hj) (by rw [up_nj (by decide), up_sl]; rfl) (by rw [up_sl]; rfl) rfl
            · exact absurd (by rw [hin0]; exact Int32.le_refl _) c65
          | succ m ih =>
            intro i τ9 y hin hW9 hy
            subst hy
            show VW _ _ _ _ _ _ 59 [(3, _), (0, _), (1, _), (2, _)] []
            refine v_iload_n (I := iX10_ways) dX10_ways_59 rfl ?_
            refine v_aload_n (I := iX10_ways) dX10_ways_60 rfl ?_
            refine v_get (I := iX10_ways) g_X10_47 dX10_ways_61 (by decide) (ae_87 _ _) rfl ?_
            refine v_alenJ (I := iX10_ways) dX10_ways_64 (by decide) (ae_98 _ _) ?_
            refine v_icmp_ge (I := iX10_ways) (tgt := 98) dX10_ways_65 (by decide) (fun c65 => ?_) (fun c65 => ?_)
            · exact absurd c65 (by exact nI_ge (by omega) (by omega))
            · refine v_aload_n (I := iX10_ways) dX10_ways_68 rfl ?_
              refine v_get (I := iX10_ways) g_X10_47 dX10_ways_69 (by decide) (ae_87 _ _) rfl ?_
              refine v_iload_n (I := iX10_ways) dX10_ways_72 rfl ?_
              refine v_iload_n (I := iX10_ways) dX10_ways_73 rfl ?_
              refine v_bipush (I := iX10_ways) (v := 99) dX10_ways_74 (by decide) ?_
              refine v_aload_n (I := iX10_ways) dX10_ways_76 rfl ?_
              refine v_get (I := iX10_ways) g_X10_9 dX10_ways_77 (by decide) (ae_87 _ _) rfl ?_
              refine v_iconst (I := iX10_ways) (v := 1) dX10_ways_80 (by decide) ?_
              refine v_ialdN (I := iX10_ways) (j := 1) (by decide) (by decide) (by decide) dX10_ways_81 (by decide) (ae_88 _ _) ?_
              rw [va_up_o _ _ (by decide), hR.1]
              refine v_iadd (I := iX10_ways) dX10_ways_82 ?_
              refine v_icmp_ne (I := iX10_ways) (tgt := 90) dX10_ways_83 (by decide) (fun c83 => ?_) (fun c83 => ?_)
              · refine v_lconst (I := iX10_ways) (v := 0) dX10_ways_90 (by decide) ?_
                refine v_lastN (I := iX10_ways) (j := i) rfl (by omega) (by decide) dX10_ways_91 (by decide) (fun _ => ae_98 _ _) ?_
                refine v_iinc (I := iX10_ways) (ls1 := [(3, _), (0, _), (1, _), (2, _)]) dX10_ways_92 rfl rfl (by decide) rfl ?_
                refine v_goto (I := iX10_ways) (tgt := 59) dX10_ways_95 (by decide) ?_
                refine ih (i + 1) (by omega) (fun j hj => ?_) (nI_1 i)
                by_cases e : j = i
                · subst e; rw [up_sl]; unfold wR0; first | (rw [if_pos c83]; rfl) | (rw [if_neg c83]; rfl)
                · rw [up_nj e]; exact hW9 j (by omega)
              · refine v_lconst (I := iX10_ways) (v := 1) dX10_ways_86 (by decide) ?_
                refine v_goto (I := iX10_ways) (tgt := 91) dX10_ways_87 (by decide) ?_
                refine v_lastN (I := iX10_ways) (j := i) rfl (by omega) (by decide) dX10_ways_91 (by decide) (fun _ => ae_98 _ _) ?_
                refine v_iinc (I := iX10_ways) (ls1 := [(3, _), (0, _), (1, _), (2, _)]) dX10_ways_92 rfl rfl (by decide) rfl ?_
                refine v_goto (I := iX10_ways) (tgt := 59) dX10_ways_95 (by decide) ?_
                refine ih (i + 1) (by omega) (fun j hj => ?_) (nI_1 i)
                by_cases e : j = i
                · subst e; rw [up_sl]; unfold wR0; first | (rw [if_pos c83]; rfl) | (rw [if_neg c83]; rfl)
                · rw [up_nj e]; exact hW9 j (by omega)
        refine v_aload_n (I := iX10_ways) dX10_ways_46 rfl ?_
        refine v_get (I := iX10_ways) g_X10_9 dX10_ways_47 (by decide) (ae_87 _ _) rfl ?_
        refine v_aload_n (I := iX10_ways) dX10_ways_50 rfl ?_
        refine v_get (I := iX10_ways) g_X10_16 dX10_ways_51 (by decide) (ae_87 _ _) rfl ?_
        refine v_callSv (I := iX10_ways) (I' := iX10_copy) lk_X10_83 c_X10_copy dX10_ways_54 (m_X10_copy (by decide) (by decide) (ae_88) (ae_90) (by decide)) rfl rfl (by decide) (by decide) (Nat.le_of_ble_eq_true rfl) ?_
        refine v_iconst (I := iX10_ways) (v := 0) dX10_ways_57 (by decide) ?_
        refine v_istore_n (I := iX10_ways) (ls1 := [(3, _), (0, _), (1, _), (2, _)]) dX10_ways_58 (by decide) rfl ?_
        rw [hR.1]
        exact key0 199 0 rfl (fun j hj => by omega) rfl
      · refine v_aload_n (I := iX10_ways) dX10_ways_37 rfl ?_
        refine v_ldcw (I := iX10_ways) k_X10_260 dX10_ways_38 ?_
        refine v_callVi (I := iX10_ways) (I' := iX10_finding) lk_X10_92 c_X10_finding dX10_ways_41 (m_X10_findE (e := 3) (by decide) (by decide)) rfl rfl (by decide) (ae_87 _ _) rfl (by decide) (by decide) (Nat.le_of_ble_eq_true rfl) ?_
        refine v_i2l (I := iX10_ways) dX10_ways_44 ?_
        exact v_lret (I := iX10_ways) rfl dX10_ways_45 (by unfold waysS; rw [if_pos hgood, if_pos (by rw [← hR.1]; exact c34)]; exact ⟨rfl, RR_err hR, FR.up (by decide)⟩)
    · refine v_aload_n (I := iX10_ways) dX10_ways_19 rfl ?_
      refine v_ldc (I := iX10_ways) k_X10_91 dX10_ways_20 ?_
      refine v_callVi (I := iX10_ways) (I' := iX10_finding) lk_X10_92 c_X10_finding dX10_ways_22 (m_X10_findE (e := 1) (by decide) (by decide)) rfl rfl (by decide) (ae_87 _ _) rfl (by decide) (by decide) (Nat.le_of_ble_eq_true rfl) ?_
      refine v_i2l (I := iX10_ways) dX10_ways_25 ?_
      exact v_lret (I := iX10_ways) rfl dX10_ways_26 (by unfold waysS; rw [if_neg (by grind)]; exact ⟨rfl, RR_err hR, FR.up (by decide)⟩)
