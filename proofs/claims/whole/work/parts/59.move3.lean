theorem RR_move {σ s ρ : fSt} (h : RR σ ρ) {q r i j c : Nat} (h3 : s 103 = va_cpy (ρ 103) (ρ 103) (24 * q + i) (24 * r + j) c) (hf : ∀ k, k ≠ 103 → k ≠ 104 → s k = σ k) : RR s (moveN ρ q i r j c) := by
  have hk : ∀ k, k ≠ 103 → moveN ρ q i r j c k = ρ k := fun k hk => va_up_o _ _ hk
  have h12 := h.2.2.2.2.2.2.2.2.2.2.2
  refine RR_sheet h (fun k _ _ c d => hf k c d) (fun k _ _ c => hk k c) ?_ ?_ ?_ (fun s hs => ?_)
  · rw [hf 101 (by decide) (by decide), hk 101 (by decide)]; exact h.2.2.2.2.2.2.1
  · rw [hf 102 (by decide) (by decide), hk 102 (by decide)]; exact h.2.2.2.2.2.2.2.1
  · rw [h3]; exact (va_up_s _ _ _).symm
  · rw [hk 102 (by decide)]; exact h12.2.2.1 s hs
theorem gt_cmp {i n z : Int32} (hi : 0 ≤ i) (hn : 0 ≤ n) (hz : 0 ≤ z) : 0 < lg_cmp (i.toInt64 + n.toInt64) z.toInt64 ↔ ¬ (i ≤ z ∧ n ≤ z - i) := by
  rw [← i64_in2 hi hn hz]
  unfold lg_cmp
  split
  · grind
  · split <;> grind
set_option maxRecDepth 100000 in
set_option maxHeartbeats 8000000 in
theorem m_X10_move {G : fGm} {σ : fSt} {τ : fLt} {ρ : fSt} (hR : RR σ ρ) {s i o j n : Int32} : MS G iX10_move 2 [.ref 87, .int s, .int i, .int o, .int j, .int n] σ τ (rR τ σ (moveS ρ s i o j n)) := by
  refine ms_of (by decide +kernel) (Nat.le_of_ble_eq_true rfl) ?_
  show VW _ _ _ _ _ _ 0 [(0, _), (1, _), (2, _), (3, _), (4, _), (5, _)] []
  refine v_iload_n (I := iX10_move) dX10_move_0 rfl ?_
  refine v_callSi (I := iX10_move) (I' := iX10_isSheet) lk_X10_315 c_X10_isSheet dX10_move_1 (m_X10_isSheet) rfl rfl (by decide) (by decide) (Nat.le_of_ble_eq_true rfl) ?_
  refine v_if_eqB (I := iX10_move) (tgt := 14) dX10_move_4 (by decide) (fun c4 => ?_) (fun c4 => ?_)
  · refine v_aload_n (I := iX10_move) dX10_move_14 rfl ?_
    refine v_ldc (I := iX10_move) k_X10_91 dX10_move_15 ?_
    refine v_callVi (I := iX10_move) (I' := iX10_finding) lk_X10_92 c_X10_finding dX10_move_17 (m_X10_findE (e := 1) (by decide) (by decide)) rfl rfl (by decide) (ae_87 _ _) rfl (by decide) (by decide) (Nat.le_of_ble_eq_true rfl) ?_
    exact v_iret (I := iX10_move) rfl dX10_move_20 (by unfold moveS; rw [if_pos (by grind)]; exact ⟨rfl, rfl, RR_err hR, FR.up (by decide)⟩)
  · refine v_iload_n (I := iX10_move) dX10_move_7 rfl ?_
    refine v_callSi (I := iX10_move) (I' := iX10_isSheet) lk_X10_315 c_X10_isSheet dX10_move_8 (m_X10_isSheet) rfl rfl (by decide) (by decide) (Nat.le_of_ble_eq_true rfl) ?_
    refine v_if_neB (I := iX10_move) (tgt := 21) dX10_move_11 (by decide) (fun c11 => ?_) (fun c11 => ?_)
    · have hs : 0 ≤ s ∧ s ≤ 3 := c4
      have ho : 0 ≤ o ∧ o ≤ 3 := c11
      obtain ⟨q, hq, hqx⟩ : ∃ q, q < 4 ∧ s = nI q := in2_nI (by decide) ⟨hs.1, by show s < 4; have := hs.2; grind⟩
      have hqc : s.toNatClampNeg = q := by rw [hqx]; exact nI_clamp (by omega)
      obtain ⟨r, hr, hrx⟩ : ∃ q, q < 4 ∧ o = nI q := in2_nI (by decide) ⟨ho.1, by show o < 4; have := ho.2; grind⟩
      have hrc : o.toNatClampNeg = r := by rw [hrx]; exact nI_clamp (by omega)
      obtain ⟨N, hN8, hN⟩ := sz_nI hR.2.2.2.2.2.2.2.2.2.2.2 hq
      obtain ⟨M, hM8, hM⟩ := sz_nI hR.2.2.2.2.2.2.2.2.2.2.2 hr
      have hN0 := nI_pos' (n := N) (by omega)
      have hM0 := nI_pos' (n := M) (by omega)
      refine v_aload_n (I := iX10_move) dX10_move_21 rfl ?_
      refine v_get (I := iX10_move) g_X10_57 dX10_move_22 (by decide) (ae_87 _ _) rfl ?_
      refine v_iload_n (I := iX10_move) dX10_move_25 rfl ?_
      refine v_ialdN (I := iX10_move) (j := q) hqx hq (by decide) dX10_move_26 (by decide) (ae_101 _ _) ?_
      rw [hR.2.2.2.2.2.2.1]
      refine v_if_eq (I := iX10_move) (tgt := 39) dX10_move_27 (by decide) (fun c27 => ?_) (fun c27 => ?_)
      · refine v_aload_n (I := iX10_move) dX10_move_39 rfl ?_
        refine v_ldc (I := iX10_move) k_X10_124 dX10_move_40 ?_
        refine v_callVi (I := iX10_move) (I' := iX10_finding) lk_X10_92 c_X10_finding dX10_move_42 (m_X10_findE (e := 2) (by decide) (by decide)) rfl rfl (by decide) (ae_87 _ _) rfl (by decide) (by decide) (Nat.le_of_ble_eq_true rfl) ?_
        exact v_iret (I := iX10_move) rfl dX10_move_45 (by unfold moveS; (first | (rw [if_neg (fun h9 => h9 ⟨hs, ho⟩), hqc, hrc, if_pos (Or.inl c27)]) | (rw [if_neg (fun h9 => h9 ⟨hs, ho⟩), hqc, hrc, if_pos (Or.inr c36)])); exact ⟨rfl, rfl, RR_err hR, FR.up (by decide)⟩)
      · refine v_aload_n (I := iX10_move) dX10_move_30 rfl ?_
        refine v_get (I := iX10_move) g_X10_57 dX10_move_31 (by decide) (ae_87 _ _) rfl ?_
        refine v_iload_n (I := iX10_move) dX10_move_34 rfl ?_
        refine v_ialdN (I := iX10_move) (j := r) hrx hr (by decide) dX10_move_35 (by decide) (ae_101 _ _) ?_
        rw [hR.2.2.2.2.2.2.1]
        refine v_if_ne (I := iX10_move) (tgt := 46) dX10_move_36 (by decide) (fun c36 => ?_) (fun c36 => ?_)
        · refine v_aload_n (I := iX10_move) dX10_move_46 rfl ?_
          refine v_get (I := iX10_move) g_X10_57 dX10_move_47 (by decide) (ae_87 _ _) rfl ?_
          refine v_iload_n (I := iX10_move) dX10_move_50 rfl ?_
          refine v_ialdN (I := iX10_move) (j := q) hqx hq (by decide) dX10_move_51 (by decide) (ae_101 _ _) ?_
          rw [hR.2.2.2.2.2.2.1]
          refine v_aload_n (I := iX10_move) dX10_move_52 rfl ?_
          refine v_get (I := iX10_move) g_X10_57 dX10_move_53 (by decide) (ae_87 _ _) rfl ?_
          refine v_iload_n (I := iX10_move) dX10_move_56 rfl ?_
          refine v_ialdN (I := iX10_move) (j := r) hrx hr (by decide) dX10_move_57 (by decide) (ae_101 _ _) ?_
          rw [hR.2.2.2.2.2.2.1]
          refine v_icmp_eq (I := iX10_move) (tgt := 68) dX10_move_58 (by decide) (fun c58 => ?_) (fun c58 => ?_)
          · refine v_iload (I := iX10_move) dX10_move_68 rfl ?_
            refine v_if_lt (I := iX10_move) (tgt := 117) dX10_move_70 (by decide) (fun c70 => ?_) (fun c70 => ?_)
            · have hno : ¬ (hasC (nI N) i n ∧ hasC (nI M) j n) := by grind
              refine v_aload_n (I := iX10_move) dX10_move_117 rfl ?_
              refine v_ldc (I := iX10_move) k_X10_91 dX10_move_118 ?_
              refine v_callVi (I := iX10_move) (I' := iX10_finding) lk_X10_92 c_X10_finding dX10_move_120 (m_X10_findE (e := 1) (by decide) (by decide)) rfl rfl (by decide) (ae_87 _ _) rfl (by decide) (by decide) (Nat.le_of_ble_eq_true rfl) ?_
              exact v_iret (I := iX10_move) rfl dX10_move_123 (by unfold moveS; (rw [if_neg (fun h9 => h9 ⟨hs, ho⟩), hqc, hrc, if_neg (by grind), if_neg (by grind), hN, hM, if_neg hno]); exact ⟨rfl, rfl, RR_err hR, FR.up (by decide)⟩)
            · refine v_iload_n (I := iX10_move) dX10_move_73 rfl ?_
              refine v_if_lt (I := iX10_move) (tgt := 117) dX10_move_74 (by decide) (fun c74 => ?_) (fun c74 => ?_)
              · have hno : ¬ (hasC (nI N) i n ∧ hasC (nI M) j n) := by grind
                refine v_aload_n (I := iX10_move) dX10_move_117 rfl ?_
                refine v_ldc (I := iX10_move) k_X10_91 dX10_move_118 ?_
                refine v_callVi (I := iX10_move) (I' := iX10_finding) lk_X10_92 c_X10_finding dX10_move_120 (m_X10_findE (e := 1) (by decide) (by decide)) rfl rfl (by decide) (ae_87 _ _) rfl (by decide) (by decide) (Nat.le_of_ble_eq_true rfl) ?_
                exact v_iret (I := iX10_move) rfl dX10_move_123 (by unfold moveS; (rw [if_neg (fun h9 => h9 ⟨hs, ho⟩), hqc, hrc, if_neg (by grind), if_neg (by grind), hN, hM, if_neg hno]); exact ⟨rfl, rfl, RR_err hR, FR.up (by decide)⟩)
              · refine v_iload (I := iX10_move) dX10_move_77 rfl ?_
                refine v_if_lt (I := iX10_move) (tgt := 117) dX10_move_79 (by decide) (fun c79 => ?_) (fun c79 => ?_)
                · have hno : ¬ (hasC (nI N) i n ∧ hasC (nI M) j n) := by grind
                  refine v_aload_n (I := iX10_move) dX10_move_117 rfl ?_
                  refine v_ldc (I := iX10_move) k_X10_91 dX10_move_118 ?_
                  refine v_callVi (I := iX10_move) (I' := iX10_finding) lk_X10_92 c_X10_finding dX10_move_120 (m_X10_findE (e := 1) (by decide) (by decide)) rfl rfl (by decide) (ae_87 _ _) rfl (by decide) (by decide) (Nat.le_of_ble_eq_true rfl) ?_
                  exact v_iret (I := iX10_move) rfl dX10_move_123 (by unfold moveS; (rw [if_neg (fun h9 => h9 ⟨hs, ho⟩), hqc, hrc, if_neg (by grind), if_neg (by grind), hN, hM, if_neg hno]); exact ⟨rfl, rfl, RR_err hR, FR.up (by decide)⟩)
                · have hn0 : 0 ≤ n := by grind
                  have hi0 : 0 ≤ i := by grind
                  have hj0 : 0 ≤ j := by grind
                  refine v_iload_n (I := iX10_move) dX10_move_82 rfl ?_
                  refine v_i2l (I := iX10_move) dX10_move_83 ?_
                  refine v_iload (I := iX10_move) dX10_move_84 rfl ?_
                  refine v_i2l (I := iX10_move) dX10_move_86 ?_
                  refine v_ladd (I := iX10_move) dX10_move_87 ?_
                  refine v_aload_n (I := iX10_move) dX10_move_88 rfl ?_
                  refine v_get (I := iX10_move) g_X10_60 dX10_move_89 (by decide) (ae_87 _ _) rfl ?_
                  refine v_iload_n (I := iX10_move) dX10_move_92 rfl ?_
                  refine v_ialdN (I := iX10_move) (j := q) hqx hq (by decide) dX10_move_93 (by decide) (ae_102 _ _) ?_
                  rw [hR.2.2.2.2.2.2.2.1, hN]
                  refine v_i2l (I := iX10_move) dX10_move_94 ?_
                  refine v_lcmp (I := iX10_move) dX10_move_95 ?_
                  refine v_if_gt (I := iX10_move) (tgt := 117) dX10_move_96 (by decide) (fun c96 => ?_) (fun c96 => ?_)
                  · have hno : ¬ (hasC (nI N) i n ∧ hasC (nI M) j n) := fun h9 => (gt_cmp hi0 hn0 hN0).mp (by grind) ⟨h9.1.2.2.1, h9.1.2.2.2⟩
                    refine v_aload_n (I := iX10_move) dX10_move_117 rfl ?_
                    refine v_ldc (I := iX10_move) k_X10_91 dX10_move_118 ?_
                    refine v_callVi (I := iX10_move) (I' := iX10_finding) lk_X10_92 c_X10_finding dX10_move_120 (m_X10_findE (e := 1) (by decide) (by decide)) rfl rfl (by decide) (ae_87 _ _) rfl (by decide) (by decide) (Nat.le_of_ble_eq_true rfl) ?_
                    exact v_iret (I := iX10_move) rfl dX10_move_123 (by unfold moveS; (rw [if_neg (fun h9 => h9 ⟨hs, ho⟩), hqc, hrc, if_neg (by grind), if_neg (by grind), hN, hM, if_neg hno]); exact ⟨rfl, rfl, RR_err hR, FR.up (by decide)⟩)
                  · have hH1 : hasC (nI N) i n := by
                      have h9 : i ≤ nI N ∧ n ≤ nI N - i := Decidable.byContradiction fun h9 => absurd ((gt_cmp hi0 hn0 hN0).mpr h9) (by grind)
                      exact ⟨hi0, hn0, h9⟩
                    refine v_iload (I := iX10_move) dX10_move_99 rfl ?_
                    refine v_i2l (I := iX10_move) dX10_move_101 ?_
                    refine v_iload (I := iX10_move) dX10_move_102 rfl ?_
                    refine v_i2l (I := iX10_move) dX10_move_104 ?_
                    refine v_ladd (I := iX10_move) dX10_move_105 ?_
                    refine v_aload_n (I := iX10_move) dX10_move_106 rfl ?_
                    refine v_get (I := iX10_move) g_X10_60 dX10_move_107 (by decide) (ae_87 _ _) rfl ?_
                    refine v_iload_n (I := iX10_move) dX10_move_110 rfl ?_
                    refine v_ialdN (I := iX10_move) (j := r) hrx hr (by decide) dX10_move_111 (by decide) (ae_102 _ _) ?_
                    rw [hR.2.2.2.2.2.2.2.1, hM]
                    refine v_i2l (I := iX10_move) dX10_move_112 ?_
                    refine v_lcmp (I := iX10_move) dX10_move_113 ?_
                    refine v_if_le (I := iX10_move) (tgt := 124) dX10_move_114 (by decide) (fun c114 => ?_) (fun c114 => ?_)
                    · have hH2 : hasC (nI M) j n := by
                        have h9 : j ≤ nI M ∧ n ≤ nI M - j := Decidable.byContradiction fun h9 => absurd ((gt_cmp hj0 hn0 hM0).mpr h9) (by grind)
                        exact ⟨hj0, hn0, h9⟩
                      obtain ⟨i1, c1, hi1, hn1, hsp⟩ := has_nat hN8 hH1
                      obtain ⟨j1, c2, hj1, hn2, hdp⟩ := has_nat hM8 hH2
                      have hcc : c2 = c1 := by
                        have h1 : c1 = n.toNatClampNeg := by rw [hn1]; exact (nI_clamp (by omega)).symm
                        have h2 : c2 = n.toNatClampNeg := by rw [hn2]; exact (nI_clamp (by omega)).symm
                        omega
                      subst hcc
                      have hic : i.toNatClampNeg = i1 := by rw [hi1]; exact nI_clamp (by omega)
                      have hjc : j.toNatClampNeg = j1 := by rw [hj1]; exact nI_clamp (by omega)
                      have hnc : n.toNatClampNeg = c2 := by rw [hn1]; exact nI_clamp (by omega)
                      refine v_iconst (I := iX10_move) (v := 0) dX10_move_124 (by decide) ?_
                      refine v_istore (I := iX10_move) (ls1 := [(6, _), (0, _), (1, _), (2, _), (3, _), (4, _), (5, _)]) dX10_move_125 (by decide) rfl ?_
                      have key2 : ∀ (m k : Nat) {σ9 : fSt} {y : Int32}, k + m = c2 → (∀ x, x < c2 → σ9 104 x = ρ 103 (24 * q + i1 + x)) → σ9 103 = va_cpy (ρ 103) (ρ 103) (24 * q + i1) (24 * r + j1) k → (∀ k9, k9 ≠ 103 → k9 ≠ 104 → σ9 k9 = σ k9) → y = nI k → VW G iX10_move (rR τ σ (moveS ρ s i o j n)) 2 σ9 τ 164 [(6, .int y), (0, .ref 87), (1, .int s), (2, .int i), (3, .int o), (4, .int j), (5, .int n)] [] := by
                        intro m
                        induction m with
                        | zero =>
                          intro k σ9 y hkm h4 h3 hf hk
                          have hkN : k = c2 := hkm
                          show VW _ _ _ _ _ _ 164 [(6, _), (0, _), (1, _), (2, _), (3, _), (4, _), (5, _)] []
                          refine v_iload (I := iX10_move) dX10_move_164 rfl ?_
                          refine v_iload (I := iX10_move) dX10_move_166 rfl ?_
                          refine v_icmp_ge (I := iX10_move) (tgt := 199) dX10_move_168 (by decide) (fun c168 => ?_) (fun c168 => ?_)
                          · refine v_iload (I := iX10_move) dX10_move_199 rfl ?_
                            exact v_iret (I := iX10_move) rfl dX10_move_201 (by unfold moveS; rw [if_neg (fun h9 => h9 ⟨hs, ho⟩), hqc, hrc, if_neg (by grind), if_neg (by grind), hN, hM, if_pos ⟨hH1, hH2⟩, hic, hjc, hnc]; exact ⟨rfl, rfl, RR_move hR (by rw [h3, hkN]) hf, fun k hk => hf k (by omega) (by omega)⟩)
                          · exact absurd (by rw [hn1, hk, hkN]; exact Int32.le_refl _) c168
                        | succ m ih =>
                          intro k σ9 y hkm h4 h3 hf hk
                          subst hk
                          show VW _ _ _ _ _ _ 164 [(6, _), (0, _), (1, _), (2, _), (3, _), (4, _), (5, _)] []
                          refine v_iload (I := iX10_move) dX10_move_164 rfl ?_
                          refine v_iload (I := iX10_move) dX10_move_166 rfl ?_
                          refine v_icmp_ge (I := iX10_move) (tgt := 199) dX10_move_168 (by decide) (fun c168 => ?_) (fun c168 => ?_)
                          · exact absurd c168 (by rw [hn1]; exact nI_ge (by omega) (by omega))
                          · refine v_aload_n (I := iX10_move) dX10_move_171 rfl ?_
                            refine v_get (I := iX10_move) g_X10_63 dX10_move_172 (by decide) (ae_87 _ _) rfl ?_
                            refine v_bipush (I := iX10_move) (v := 24) dX10_move_175 (by decide) ?_
                            refine v_iload_n (I := iX10_move) dX10_move_177 rfl ?_
                            refine v_imul (I := iX10_move) dX10_move_178 ?_
                            refine v_iload (I := iX10_move) dX10_move_179 rfl ?_
                            refine v_iadd (I := iX10_move) dX10_move_181 ?_
                            refine v_iload (I := iX10_move) dX10_move_182 rfl ?_
                            refine v_iadd (I := iX10_move) dX10_move_184 ?_
                            refine v_aload_n (I := iX10_move) dX10_move_185 rfl ?_
                            refine v_get (I := iX10_move) g_X10_66 dX10_move_186 (by decide) (ae_87 _ _) rfl ?_
                            refine v_iload (I := iX10_move) dX10_move_189 rfl ?_
                            refine v_ialdN (I := iX10_move) (j := k) rfl (by omega) (by decide) dX10_move_191 (by decide) (ae_104 _ _) ?_
                            rw [h4 k (by omega)]
                            refine v_iastN (I := iX10_move) (j := (24 * r + j1 + k)) (by rw [hrx, hj1, show (24 : Int32) = nI 24 from rfl, pk_mul, nI_add, nI_add]) (by omega) (by decide) dX10_move_192 (by decide) (fun _ => ae_103 _ _) ?_
                            refine v_iinc (I := iX10_move) (ls1 := [(6, _), (0, _), (1, _), (2, _), (3, _), (4, _), (5, _)]) dX10_move_193 rfl rfl (by decide) rfl ?_
                            refine v_goto (I := iX10_move) (tgt := 164) dX10_move_196 (by decide) ?_
                            exact ih (k + 1) (by omega) (fun x hx => by rw [up2_kf _ _ _ (by decide)]; exact h4 x hx) (by rw [up2_f, h3, cpy_s]) (fun k9 a b => (up2_kf _ _ _ a).trans (hf k9 a b)) (by exact nI_1 k)
                      have key1 : ∀ (m k : Nat) {σ9 : fSt} {y : Int32}, k + m = c2 → (∀ x, x < k → σ9 104 x = ρ 103 (24 * q + i1 + x)) → (∀ k9, k9 ≠ 104 → σ9 k9 = σ k9) → y = nI k → VW G iX10_move (rR τ σ (moveS ρ s i o j n)) 2 σ9 τ 127 [(6, .int y), (0, .ref 87), (1, .int s), (2, .int i), (3, .int o), (4, .int j), (5, .int n)] [] := by
                        intro m
                        induction m with
                        | zero =>
                          intro k σ9 y hkm h4 hf hk
                          have hkN : k = c2 := hkm
                          show VW _ _ _ _ _ _ 127 [(6, _), (0, _), (1, _), (2, _), (3, _), (4, _), (5, _)] []
                          refine v_iload (I := iX10_move) dX10_move_127 rfl ?_
                          refine v_iload (I := iX10_move) dX10_move_129 rfl ?_
                          refine v_icmp_ge (I := iX10_move) (tgt := 161) dX10_move_131 (by decide) (fun c131 => ?_) (fun c131 => ?_)
                          · refine v_iconst (I := iX10_move) (v := 0) dX10_move_161 (by decide) ?_
                            refine v_istore (I := iX10_move) (ls1 := [(6, _), (0, _), (1, _), (2, _), (3, _), (4, _), (5, _)]) dX10_move_162 (by decide) rfl ?_
                            exact key2 c2 0 (by omega) (fun x hx => h4 x (by omega)) (by rw [hf 103 (by decide), hR.2.2.2.2.2.2.2.2.1, cpy_0]) (fun k9 _ b => hf k9 b) rfl
                          · exact absurd (by rw [hn1, hk, hkN]; exact Int32.le_refl _) c131
                        | succ m ih =>
                          intro k σ9 y hkm h4 hf hk
                          subst hk
                          show VW _ _ _ _ _ _ 127 [(6, _), (0, _), (1, _), (2, _), (3, _), (4, _), (5, _)] []
                          refine v_iload (I := iX10_move) dX10_move_127 rfl ?_
                          refine v_iload (I := iX10_move) dX10_move_129 rfl ?_
                          refine v_icmp_ge (I := iX10_move) (tgt := 161) dX10_move_131 (by decide) (fun c131 => ?_) (fun c131 => ?_)
                          · exact absurd c131 (by rw [hn1]; exact nI_ge (by omega) (by omega))
                          · refine v_aload_n (I := iX10_move) dX10_move_134 rfl ?_
                            refine v_get (I := iX10_move) g_X10_66 dX10_move_135 (by decide) (ae_87 _ _) rfl ?_
                            refine v_iload (I := iX10_move) dX10_move_138 rfl ?_
                            refine v_aload_n (I := iX10_move) dX10_move_140 rfl ?_
                            refine v_get (I := iX10_move) g_X10_63 dX10_move_141 (by decide) (ae_87 _ _) rfl ?_
                            refine v_bipush (I := iX10_move) (v := 24) dX10_move_144 (by decide) ?_
                            refine v_iload_n (I := iX10_move) dX10_move_146 rfl ?_
                            refine v_imul (I := iX10_move) dX10_move_147 ?_
                            refine v_iload_n (I := iX10_move) dX10_move_148 rfl ?_
                            refine v_iadd (I := iX10_move) dX10_move_149 ?_
                            refine v_iload (I := iX10_move) dX10_move_150 rfl ?_
                            refine v_iadd (I := iX10_move) dX10_move_152 ?_
                            refine v_ialdN (I := iX10_move) (j := (24 * q + i1 + k)) (by rw [hqx, hi1, show (24 : Int32) = nI 24 from rfl, pk_mul, nI_add, nI_add]) (by omega) (by decide) dX10_move_153 (by decide) (ae_103 _ _) ?_
                            rw [hf 103 (by decide), hR.2.2.2.2.2.2.2.2.1]
                            refine v_iastN (I := iX10_move) (j := k) rfl (by omega) (by decide) dX10_move_154 (by decide) (fun _ => ae_104 _ _) ?_
                            refine v_iinc (I := iX10_move) (ls1 := [(6, _), (0, _), (1, _), (2, _), (3, _), (4, _), (5, _)]) dX10_move_155 rfl rfl (by decide) rfl ?_
                            refine v_goto (I := iX10_move) (tgt := 127) dX10_move_158 (by decide) ?_
                            exact ih (k + 1) (by omega) (fun x hx => by
                              by_cases e : x = k
                              · subst e; exact up2_s _ _ _ _
                              · rw [up2_j _ _ e]; exact h4 x (by omega)) (fun k9 a => (up2_kf _ _ _ a).trans (hf k9 a)) (by exact nI_1 k)
                      exact key1 c2 0 (by omega) (fun x hx => by omega) (fun k9 _ => rfl) rfl
                    · have hno : ¬ (hasC (nI N) i n ∧ hasC (nI M) j n) := fun h9 => (gt_cmp hj0 hn0 hM0).mp (by grind) ⟨h9.2.2.2.1, h9.2.2.2.2⟩
                      refine v_aload_n (I := iX10_move) dX10_move_117 rfl ?_
                      refine v_ldc (I := iX10_move) k_X10_91 dX10_move_118 ?_
                      refine v_callVi (I := iX10_move) (I' := iX10_finding) lk_X10_92 c_X10_finding dX10_move_120 (m_X10_findE (e := 1) (by decide) (by decide)) rfl rfl (by decide) (ae_87 _ _) rfl (by decide) (by decide) (Nat.le_of_ble_eq_true rfl) ?_
                      exact v_iret (I := iX10_move) rfl dX10_move_123 (by unfold moveS; (rw [if_neg (fun h9 => h9 ⟨hs, ho⟩), hqc, hrc, if_neg (by grind), if_neg (by grind), hN, hM, if_neg hno]); exact ⟨rfl, rfl, RR_err hR, FR.up (by decide)⟩)
          · refine v_aload_n (I := iX10_move) dX10_move_61 rfl ?_
            refine v_ldc (I := iX10_move) k_X10_158 dX10_move_62 ?_
            refine v_callVi (I := iX10_move) (I' := iX10_finding) lk_X10_92 c_X10_finding dX10_move_64 (m_X10_findE (e := 5) (by decide) (by decide)) rfl rfl (by decide) (ae_87 _ _) rfl (by decide) (by decide) (Nat.le_of_ble_eq_true rfl) ?_
            exact v_iret (I := iX10_move) rfl dX10_move_67 (by unfold moveS; rw [if_neg (fun h9 => h9 ⟨hs, ho⟩), hqc, hrc, if_neg (by grind), if_pos c58]; exact ⟨rfl, rfl, RR_err hR, FR.up (by decide)⟩)
        · refine v_aload_n (I := iX10_move) dX10_move_39 rfl ?_
          refine v_ldc (I := iX10_move) k_X10_124 dX10_move_40 ?_
          refine v_callVi (I := iX10_move) (I' := iX10_finding) lk_X10_92 c_X10_finding dX10_move_42 (m_X10_findE (e := 2) (by decide) (by decide)) rfl rfl (by decide) (ae_87 _ _) rfl (by decide) (by decide) (Nat.le_of_ble_eq_true rfl) ?_
          exact v_iret (I := iX10_move) rfl dX10_move_45 (by unfold moveS; (first | (rw [if_neg (fun h9 => h9 ⟨hs, ho⟩), hqc, hrc, if_pos (Or.inl c27)]) | (rw [if_neg (fun h9 => h9 ⟨hs, ho⟩), hqc, hrc, if_pos (Or.inr c36)])); exact ⟨rfl, rfl, RR_err hR, FR.up (by decide)⟩)
    · refine v_aload_n (I := iX10_move) dX10_move_14 rfl ?_
      refine v_ldc (I := iX10_move) k_X10_91 dX10_move_15 ?_
      refine v_callVi (I := iX10_move) (I' := iX10_finding) lk_X10_92 c_X10_finding dX10_move_17 (m_X10_findE (e := 1) (by decide) (by decide)) rfl rfl (by decide) (ae_87 _ _) rfl (by decide) (by decide) (Nat.le_of_ble_eq_true rfl) ?_
      exact v_iret (I := iX10_move) rfl dX10_move_20 (by unfold moveS; rw [if_pos (by grind)]; exact ⟨rfl, rfl, RR_err hR, FR.up (by decide)⟩)
