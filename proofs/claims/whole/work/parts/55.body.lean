def bodyS (ρ : fSt) (i : Int32) : Int32 × fSt := if 0 ≤ i ∧ i ≤ ρ 87 21 - 1 then (ρ 100 i.toNatClampNeg, ρ) else (errV 2, errS ρ 2)
theorem tr_ix {ρ : fSt} (h : OKr ρ) {i : Int32} (hi : 0 ≤ i ∧ i ≤ ρ 87 21 - 1) : ∃ j, j < 30 ∧ i = nI j := by
  have h9 := h.2.2.2.1
  exact in2_nI (by decide) ⟨hi.1, by show i < 30; generalize ρ 87 21 = y at *; grind⟩
set_option maxRecDepth 100000 in
set_option maxHeartbeats 4000000 in
theorem m_X9_body {G : fGm} {σ : fSt} {τ : fLt} {ρ : fSt} (hC : CR σ ρ) {i : Int32} : MS G iX9_body 2 [.ref 0, .int i] σ τ (rC τ σ (bodyS ρ i)) := by
  refine ms_of (by decide +kernel) (Nat.le_of_ble_eq_true rfl) ?_
  show VW _ _ _ _ _ _ 0 [(0, _), (1, _)] []
  refine v_iload_n (I := iX9_body) dX9_body_0 rfl ?_
  refine v_iconst (I := iX9_body) (v := 0) dX9_body_1 (by decide) ?_
  refine v_aload_n (I := iX9_body) dX9_body_2 rfl ?_
  refine v_get (I := iX9_body) g_X9_49 dX9_body_3 (by decide) (ae_0 _ _) rfl ?_
  refine v_get (I := iX9_body) g_X9_254 dX9_body_6 (by decide) (ae_85 _ _) rfl ?_
  rw [hC.2.2.2.2.1.1]
  refine v_iconst (I := iX9_body) (v := 1) dX9_body_9 (by decide) ?_
  refine v_isub (I := iX9_body) dX9_body_10 ?_
  refine v_callSi (I := iX9_body) (I' := iX9_within) lk_X9_58 c_X9_within dX9_body_11 (m_X9_within) rfl rfl (by decide) (by decide) (Nat.le_of_ble_eq_true rfl) ?_
  refine v_if_eqB (I := iX9_body) (tgt := 31) dX9_body_14 (by decide) (fun c14 => ?_) (fun c14 => ?_)
  · refine v_aload_n (I := iX9_body) dX9_body_31 rfl ?_
    refine v_iconst (I := iX9_body) (v := 2) dX9_body_32 (by decide) ?_
    refine v_callVi (I := iX9_body) (I' := iX9_refused) lk_X9_62 c_X9_refused dX9_body_33 (m_X9_refused (e := 2) (by decide) (by decide) (by decide)) rfl rfl (by decide) (ae_0 _ _) rfl (by decide) (by decide) (Nat.le_of_ble_eq_true rfl) ?_
    exact v_iret (I := iX9_body) rfl dX9_body_36 (by unfold bodyS; first | (rw [if_pos c14, hjc]; exact ⟨rfl, rfl, hC, FC.rf⟩) | (rw [if_neg c14]; exact ⟨rfl, rfl, CR_err hC (by decide) (by decide), FC.up (by decide)⟩))
  · have hg : 0 ≤ i ∧ i ≤ ρ 87 21 - 1 := by grind
    obtain ⟨j, hj, hjx⟩ := tr_ix hC.2.2.2.2.2 hg
    have hjc : i.toNatClampNeg = j := by rw [hjx]; exact nI_clamp (by omega)
    refine v_aload_n (I := iX9_body) dX9_body_17 rfl ?_
    refine v_get (I := iX9_body) g_X9_49 dX9_body_18 (by decide) (ae_0 _ _) rfl ?_
    refine v_get (I := iX9_body) g_X9_255 dX9_body_21 (by decide) (ae_85 _ _) rfl ?_
    refine v_iload_n (I := iX9_body) dX9_body_24 rfl ?_
    refine v_callSi (I := iX9_body) (I' := iX9_at) lk_X9_104 c_X9_at dX9_body_25 (m_X9_at (by decide) (ae_86) (by decide)) rfl rfl (by decide) (by decide) (Nat.le_of_ble_eq_true rfl) ?_
    rw [rdA_eq hjx hj (by decide), hC.2.2.2.2.1.2 j hj]
    refine v_goto (I := iX9_body) (tgt := 36) dX9_body_28 (by decide) ?_
    exact v_iret (I := iX9_body) rfl dX9_body_36 (by unfold bodyS; first | (rw [if_pos c14, hjc]; exact ⟨rfl, rfl, hC, FC.rf⟩) | (rw [if_neg c14]; exact ⟨rfl, rfl, CR_err hC (by decide) (by decide), FC.up (by decide)⟩))
set_option maxRecDepth 100000 in
set_option maxHeartbeats 4000000 in
theorem m_X10_body_ {G : fGm} {σ : fSt} {τ : fLt} {ρ : fSt} (hR : RR σ ρ) {i : Int32} : MS G iX10_body_ 2 [.ref 87, .int i] σ τ (rR τ σ (bodyS ρ i)) := by
  refine ms_of (by decide +kernel) (Nat.le_of_ble_eq_true rfl) ?_
  show VW _ _ _ _ _ _ 0 [(0, _), (1, _)] []
  refine v_iload_n (I := iX10_body_) dX10_body__0 rfl ?_
  refine v_iconst (I := iX10_body_) (v := 0) dX10_body__1 (by decide) ?_
  refine v_aload_n (I := iX10_body_) dX10_body__2 rfl ?_
  refine v_get (I := iX10_body_) g_X10_290 dX10_body__3 (by decide) (ae_87 _ _) rfl ?_
  rw [hR.2.2.2.2.2.2.2.2.2.2.1]
  refine v_iconst (I := iX10_body_) (v := 1) dX10_body__6 (by decide) ?_
  refine v_isub (I := iX10_body_) dX10_body__7 ?_
  refine v_callSi (I := iX10_body_) (I' := iX10_within) lk_X10_79 c_X10_within dX10_body__8 (m_X10_within) rfl rfl (by decide) (by decide) (Nat.le_of_ble_eq_true rfl) ?_
  refine v_if_eqB (I := iX10_body_) (tgt := 23) dX10_body__11 (by decide) (fun c11 => ?_) (fun c11 => ?_)
  · refine v_aload_n (I := iX10_body_) dX10_body__23 rfl ?_
    refine v_ldc (I := iX10_body_) k_X10_124 dX10_body__24 ?_
    refine v_callVi (I := iX10_body_) (I' := iX10_finding) lk_X10_92 c_X10_finding dX10_body__26 (m_X10_findE (e := 2) (by decide) (by decide)) rfl rfl (by decide) (ae_87 _ _) rfl (by decide) (by decide) (Nat.le_of_ble_eq_true rfl) ?_
    exact v_iret (I := iX10_body_) rfl dX10_body__29 (by unfold bodyS; first | (rw [if_pos c11, hjc]; exact ⟨rfl, rfl, hR, FR.rf⟩) | (rw [if_neg c11]; exact ⟨rfl, rfl, RR_err hR, FR.up (by decide)⟩))
  · have hg : 0 ≤ i ∧ i ≤ ρ 87 21 - 1 := by grind
    obtain ⟨j, hj, hjx⟩ := tr_ix hR.2.2.2.2.2.2.2.2.2.2.2 hg
    have hjc : i.toNatClampNeg = j := by rw [hjx]; exact nI_clamp (by omega)
    refine v_aload_n (I := iX10_body_) dX10_body__14 rfl ?_
    refine v_get (I := iX10_body_) g_X10_54 dX10_body__15 (by decide) (ae_87 _ _) rfl ?_
    refine v_iload_n (I := iX10_body_) dX10_body__18 rfl ?_
    refine v_ialdN (I := iX10_body_) (j := j) hjx hj (by decide) dX10_body__19 (by decide) (ae_100 _ _) ?_
    rw [hR.2.2.2.2.2.1]
    refine v_goto (I := iX10_body_) (tgt := 29) dX10_body__20 (by decide) ?_
    exact v_iret (I := iX10_body_) rfl dX10_body__29 (by unfold bodyS; first | (rw [if_pos c11, hjc]; exact ⟨rfl, rfl, hR, FR.rf⟩) | (rw [if_neg c11]; exact ⟨rfl, rfl, RR_err hR, FR.up (by decide)⟩))
