theorem IV_hold {g : gS} {q z : Nat} {x : Int32} (h : IV g) (hq : q < 8) (hz : z < 3) (hx : 0 ≤ x ∧ x ≤ if z = 2 then 1 else 99) : IV (va_up g (39 + 3 * q + z) x) := by
  have b := bnd_hold q hq
  refine IV_up h ⟨by omega, by omega, by omega, by omega, fun j hj => by omega⟩ ?_
  rcases (show z = 0 ∨ z = 1 ∨ z = 2 by omega) with rfl | rfl | rfl
  · rw [b.1]; exact hx
  · rw [b.2.1]; exact hx
  · rw [b.2.2]; exact hx
theorem IV_goings {g : gS} {q z : Nat} {x : Int32} (h : IV g) (hq : q < 8) (hz : z < 2) (hx : 0 ≤ x ∧ x ≤ if z = 0 then 6 else 99) : IV (va_up g (63 + 3 * q + z) x) := by
  have b := bnd_going q hq
  refine IV_up h ⟨by omega, by omega, by omega, by omega, fun j hj => by omega⟩ ?_
  rcases (show z = 0 ∨ z = 1 by omega) with rfl | rfl
  · rw [b.1]; exact hx
  · rw [b.2.1]; exact hx
theorem CR_same {σ σ' ρ : fSt} (h : CR σ ρ) (hV : V 0 σ' (ρ 88)) (hF : FrW 0 σ σ') : CR σ' ρ := by
  have := CR_row h hV hF h.2.2.2.2.2.1
  rw [show rowS ρ (ρ 88) = ρ from va_up_self' ρ 88] at this
  exact this
def setHoldS (ρ : fSt) (h w v : Int32) : Int32 × fSt := if (0 ≤ h ∧ h ≤ ρ 88 14 - 1) ∧ (0 ≤ w ∧ w ≤ 2) ∧ 0 ≤ v ∧ v ≤ (if w = 2 then 1 else 99) then (ρ 88 (39 + 3 * h.toNatClampNeg + w.toNatClampNeg), rowS ρ (va_up (ρ 88) (39 + 3 * h.toNatClampNeg + w.toNatClampNeg) v)) else (errV 1, errS ρ 1)
def setGoingS (ρ : fSt) (h w v : Int32) : Int32 × fSt := if (0 ≤ h ∧ h ≤ ρ 88 15 - 1) ∧ (0 ≤ w ∧ w ≤ 1) ∧ 0 ≤ v ∧ v ≤ (if w = 0 then 6 else 99) then (ρ 88 (63 + 3 * h.toNatClampNeg + w.toNatClampNeg), rowS ρ (va_up (ρ 88) (63 + 3 * h.toNatClampNeg + w.toNatClampNeg) v)) else (errV 1, errS ρ 1)
set_option maxRecDepth 100000 in
set_option maxHeartbeats 8000000 in
theorem m_X9_setHold {G : fGm} {σ : fSt} {τ : fLt} {ρ : fSt} (hC : CR σ ρ) {h w v : Int32} : MS G iX9_setHold 2 [.ref 0, .int h, .int w, .int v] σ τ (rC τ σ (setHoldS ρ h w v)) := by
  refine ms_of (by decide +kernel) (Nat.le_of_ble_eq_true rfl) ?_
  show VW _ _ _ _ _ _ 0 [(0, _), (1, _), (2, _), (3, _)] []
  have J : (0 ≤ h ∧ h ≤ ρ 88 14 - 1) ∧ (0 ≤ w ∧ w ≤ 2) ∧ 0 ≤ v ∧ v ≤ (if w = 2 then 1 else 99) → VW G iX9_setHold (rC τ σ (setHoldS ρ h w v)) 2 σ τ 42 [(0, .ref 0), (1, .int h), (2, .int w), (3, .int v)] [] := by
    intro hg
    have hb9 := B_n14 hC.2.2.2.2.2.1.1
    obtain ⟨q, hq, hqx⟩ := nI8 (x := h) (by grind)
    have hqc : h.toNatClampNeg = q := by rw [hqx]; exact nI_clamp (by omega)
    show VW _ _ _ _ _ _ 42 [(0, _), (1, _), (2, _), (3, _)] []
    rcases (show w = 0 ∨ w = 1 ∨ w = 2 by grind) with hw0 | hw1 | hw2
    · skip
      refine v_aload_n (I := iX9_setHold) dX9_setHold_42 rfl ?_
      refine v_get (I := iX9_setHold) g_X9_10 dX9_setHold_43 (by decide) (ae_0 _ _) rfl ?_
      refine v_get (I := iX9_setHold) g_X9_66 dX9_setHold_46 (by decide) (ae_w0 (by decide) _ _) rfl ?_
      refine v_iload_n (I := iX9_setHold) dX9_setHold_49 rfl ?_
      refine v_callVr (I := iX9_setHold) (I' := iX3_row) lk_X9_100 c_X3_row dX9_setHold_50 (m_X3_row0 (by decide) hw0) rfl rfl (by decide) (ae_w2 (by decide) _ _) rfl (by decide) (by decide) (Nat.le_of_ble_eq_true rfl) ?_
      refine v_iload_n (I := iX9_setHold) dX9_setHold_53 rfl ?_
      refine v_iload_n (I := iX9_setHold) dX9_setHold_54 rfl ?_
      refine v_callSi (I := iX9_setHold) (I' := iX9_exchange) lk_X9_78 c_X9_exchange dX9_setHold_55 (m_X9_exchange (by decide) (ae_w5 (by decide)) (by decide)) rfl rfl (by decide) (by decide) (Nat.le_of_ble_eq_true rfl) ?_
      rw [wrA_eq hqx hq (by decide), rdA_eq hqx hq (by decide)]
      exact v_iret (I := iX9_setHold) rfl dX9_setHold_58 (by unfold setHoldS; rw [if_pos hg, hqc, hw0]; exact ⟨by rw [show ((0 : Int32)).toNatClampNeg = 0 from rfl, V_hcell hC.1 hq], rfl, CR_row hC (V_holdU hC.1 hq).1 (FrW.up (by decide)) (IV_hold (z := 0) hC.2.2.2.2.2.1 hq (by decide) (by have := hg.2.2; rw [hw0] at this; exact this)), FC.up (by decide)⟩)
    · skip
      refine v_aload_n (I := iX9_setHold) dX9_setHold_42 rfl ?_
      refine v_get (I := iX9_setHold) g_X9_10 dX9_setHold_43 (by decide) (ae_0 _ _) rfl ?_
      refine v_get (I := iX9_setHold) g_X9_66 dX9_setHold_46 (by decide) (ae_w0 (by decide) _ _) rfl ?_
      refine v_iload_n (I := iX9_setHold) dX9_setHold_49 rfl ?_
      refine v_callVr (I := iX9_setHold) (I' := iX3_row) lk_X9_100 c_X3_row dX9_setHold_50 (m_X3_row1 (by decide) hw1) rfl rfl (by decide) (ae_w2 (by decide) _ _) rfl (by decide) (by decide) (Nat.le_of_ble_eq_true rfl) ?_
      refine v_iload_n (I := iX9_setHold) dX9_setHold_53 rfl ?_
      refine v_iload_n (I := iX9_setHold) dX9_setHold_54 rfl ?_
      refine v_callSi (I := iX9_setHold) (I' := iX9_exchange) lk_X9_78 c_X9_exchange dX9_setHold_55 (m_X9_exchange (by decide) (ae_w6 (by decide)) (by decide)) rfl rfl (by decide) (by decide) (Nat.le_of_ble_eq_true rfl) ?_
      rw [wrA_eq hqx hq (by decide), rdA_eq hqx hq (by decide)]
      exact v_iret (I := iX9_setHold) rfl dX9_setHold_58 (by unfold setHoldS; rw [if_pos hg, hqc, hw1]; exact ⟨by rw [show ((1 : Int32)).toNatClampNeg = 1 from rfl, V_hhard hC.1 hq], rfl, CR_row hC (V_holdU hC.1 hq).2.1 (FrW.up (by decide)) (IV_hold (z := 1) hC.2.2.2.2.2.1 hq (by decide) (by have := hg.2.2; rw [hw1] at this; exact this)), FC.up (by decide)⟩)
    · skip
      refine v_aload_n (I := iX9_setHold) dX9_setHold_42 rfl ?_
      refine v_get (I := iX9_setHold) g_X9_10 dX9_setHold_43 (by decide) (ae_0 _ _) rfl ?_
      refine v_get (I := iX9_setHold) g_X9_66 dX9_setHold_46 (by decide) (ae_w0 (by decide) _ _) rfl ?_
      refine v_iload_n (I := iX9_setHold) dX9_setHold_49 rfl ?_
      refine v_callVr (I := iX9_setHold) (I' := iX3_row) lk_X9_100 c_X3_row dX9_setHold_50 (m_X3_row2 (by decide) hw2) rfl rfl (by decide) (ae_w2 (by decide) _ _) rfl (by decide) (by decide) (Nat.le_of_ble_eq_true rfl) ?_
      refine v_iload_n (I := iX9_setHold) dX9_setHold_53 rfl ?_
      refine v_iload_n (I := iX9_setHold) dX9_setHold_54 rfl ?_
      refine v_callSi (I := iX9_setHold) (I' := iX9_exchange) lk_X9_78 c_X9_exchange dX9_setHold_55 (m_X9_exchange (by decide) (ae_w7 (by decide)) (by decide)) rfl rfl (by decide) (by decide) (Nat.le_of_ble_eq_true rfl) ?_
      rw [wrA_eq hqx hq (by decide), rdA_eq hqx hq (by decide)]
      exact v_iret (I := iX9_setHold) rfl dX9_setHold_58 (by unfold setHoldS; rw [if_pos hg, hqc, hw2]; exact ⟨by rw [show ((2 : Int32)).toNatClampNeg = 2 from rfl, V_hpad hC.1 hq], rfl, CR_row hC (V_holdU hC.1 hq).2.2 (FrW.up (by decide)) (IV_hold (z := 2) hC.2.2.2.2.2.1 hq (by decide) (by have := hg.2.2; rw [hw2] at this; exact this)), FC.up (by decide)⟩)
  refine v_aload_n (I := iX9_setHold) dX9_setHold_0 rfl ?_
  refine v_iload_n (I := iX9_setHold) dX9_setHold_1 rfl ?_
  refine v_callVi (I := iX9_setHold) (I' := iX9_isHold) lk_X9_93 c_X9_isHold dX9_setHold_2 (m_X9_isHold hC.1) rfl rfl (by decide) (ae_0 _ _) rfl (by decide) (by decide) (Nat.le_of_ble_eq_true rfl) ?_
  refine v_if_eqB (I := iX9_setHold) (tgt := 36) dX9_setHold_5 (by decide) (fun c5 => ?_) (fun c5 => ?_)
  · refine v_aload_n (I := iX9_setHold) dX9_setHold_36 rfl ?_
    refine v_iconst (I := iX9_setHold) (v := 1) dX9_setHold_37 (by decide) ?_
    refine v_callVi (I := iX9_setHold) (I' := iX9_refused) lk_X9_62 c_X9_refused dX9_setHold_38 (m_X9_refused (e := 1) (by decide) (by decide) (by decide)) rfl rfl (by decide) (ae_0 _ _) rfl (by decide) (by decide) (Nat.le_of_ble_eq_true rfl) ?_
    exact v_iret (I := iX9_setHold) rfl dX9_setHold_41 (by unfold setHoldS; rw [if_neg (by grind)]; exact ⟨rfl, rfl, CR_err hC (by decide) (by decide), FC.up (by decide)⟩)
  · refine v_iload_n (I := iX9_setHold) dX9_setHold_8 rfl ?_
    refine v_iconst (I := iX9_setHold) (v := 0) dX9_setHold_9 (by decide) ?_
    refine v_iconst (I := iX9_setHold) (v := 2) dX9_setHold_10 (by decide) ?_
    refine v_callSi (I := iX9_setHold) (I' := iX9_within) lk_X9_58 c_X9_within dX9_setHold_11 (m_X9_within) rfl rfl (by decide) (by decide) (Nat.le_of_ble_eq_true rfl) ?_
    refine v_if_eqB (I := iX9_setHold) (tgt := 36) dX9_setHold_14 (by decide) (fun c14 => ?_) (fun c14 => ?_)
    · refine v_aload_n (I := iX9_setHold) dX9_setHold_36 rfl ?_
      refine v_iconst (I := iX9_setHold) (v := 1) dX9_setHold_37 (by decide) ?_
      refine v_callVi (I := iX9_setHold) (I' := iX9_refused) lk_X9_62 c_X9_refused dX9_setHold_38 (m_X9_refused (e := 1) (by decide) (by decide) (by decide)) rfl rfl (by decide) (ae_0 _ _) rfl (by decide) (by decide) (Nat.le_of_ble_eq_true rfl) ?_
      exact v_iret (I := iX9_setHold) rfl dX9_setHold_41 (by unfold setHoldS; rw [if_neg (by grind)]; exact ⟨rfl, rfl, CR_err hC (by decide) (by decide), FC.up (by decide)⟩)
    · refine v_iload_n (I := iX9_setHold) dX9_setHold_17 rfl ?_
      refine v_iconst (I := iX9_setHold) (v := 0) dX9_setHold_18 (by decide) ?_
      refine v_iload_n (I := iX9_setHold) dX9_setHold_19 rfl ?_
      refine v_iconst (I := iX9_setHold) (v := 2) dX9_setHold_20 (by decide) ?_
      refine v_icmp_ne (I := iX9_setHold) (tgt := 28) dX9_setHold_21 (by decide) (fun c21 => ?_) (fun c21 => ?_)
      · refine v_bipush (I := iX9_setHold) (v := 99) dX9_setHold_28 (by decide) ?_
        refine v_callSi (I := iX9_setHold) (I' := iX9_within) lk_X9_58 c_X9_within dX9_setHold_30 (m_X9_within) rfl rfl (by decide) (by decide) (Nat.le_of_ble_eq_true rfl) ?_
        refine v_if_neB (I := iX9_setHold) (tgt := 42) dX9_setHold_33 (by decide) (fun c33 => ?_) (fun c33 => ?_)
        · exact J (by grind)
        · refine v_aload_n (I := iX9_setHold) dX9_setHold_36 rfl ?_
          refine v_iconst (I := iX9_setHold) (v := 1) dX9_setHold_37 (by decide) ?_
          refine v_callVi (I := iX9_setHold) (I' := iX9_refused) lk_X9_62 c_X9_refused dX9_setHold_38 (m_X9_refused (e := 1) (by decide) (by decide) (by decide)) rfl rfl (by decide) (ae_0 _ _) rfl (by decide) (by decide) (Nat.le_of_ble_eq_true rfl) ?_
          exact v_iret (I := iX9_setHold) rfl dX9_setHold_41 (by unfold setHoldS; rw [if_neg (by grind)]; exact ⟨rfl, rfl, CR_err hC (by decide) (by decide), FC.up (by decide)⟩)
      · refine v_iconst (I := iX9_setHold) (v := 1) dX9_setHold_24 (by decide) ?_
        refine v_goto (I := iX9_setHold) (tgt := 30) dX9_setHold_25 (by decide) ?_
        refine v_callSi (I := iX9_setHold) (I' := iX9_within) lk_X9_58 c_X9_within dX9_setHold_30 (m_X9_within) rfl rfl (by decide) (by decide) (Nat.le_of_ble_eq_true rfl) ?_
        refine v_if_neB (I := iX9_setHold) (tgt := 42) dX9_setHold_33 (by decide) (fun c33 => ?_) (fun c33 => ?_)
        · exact J (by grind)
        · refine v_aload_n (I := iX9_setHold) dX9_setHold_36 rfl ?_
          refine v_iconst (I := iX9_setHold) (v := 1) dX9_setHold_37 (by decide) ?_
          refine v_callVi (I := iX9_setHold) (I' := iX9_refused) lk_X9_62 c_X9_refused dX9_setHold_38 (m_X9_refused (e := 1) (by decide) (by decide) (by decide)) rfl rfl (by decide) (ae_0 _ _) rfl (by decide) (by decide) (Nat.le_of_ble_eq_true rfl) ?_
          exact v_iret (I := iX9_setHold) rfl dX9_setHold_41 (by unfold setHoldS; rw [if_neg (by grind)]; exact ⟨rfl, rfl, CR_err hC (by decide) (by decide), FC.up (by decide)⟩)
set_option maxRecDepth 100000 in
set_option maxHeartbeats 8000000 in
theorem m_X10_setHold {G : fGm} {σ : fSt} {τ : fLt} {ρ : fSt} (hR : RR σ ρ) {h w v : Int32} : MS G iX10_setHold 2 [.ref 87, .int h, .int w, .int v] σ τ (rR τ σ (setHoldS ρ h w v)) := by
  refine ms_of (by decide +kernel) (Nat.le_of_ble_eq_true rfl) ?_
  show VW _ _ _ _ _ _ 0 [(0, _), (1, _), (2, _), (3, _)] []
  have J : VW G iX10_setHold (rR τ σ (setHoldS ρ h w v)) 2 σ τ 45 [(4, .int (if (0 ≤ h ∧ h ≤ ρ 88 14 - 1) ∧ (0 ≤ w ∧ w ≤ 2) ∧ 0 ≤ v ∧ v ≤ (if w = 2 then 1 else 99) then 1 else 0)), (0, .ref 87), (1, .int h), (2, .int w), (3, .int v)] [] := by
    show VW _ _ _ _ _ _ 45 [(4, _), (0, _), (1, _), (2, _), (3, _)] []
    refine v_iload (I := iX10_setHold) dX10_setHold_45 rfl ?_
    refine v_if_eqB (I := iX10_setHold) (tgt := 66) dX10_setHold_47 (by decide) (fun c47 => ?_) (fun c47 => ?_)
    · refine v_aload_n (I := iX10_setHold) dX10_setHold_66 rfl ?_
      refine v_ldc (I := iX10_setHold) k_X10_91 dX10_setHold_67 ?_
      refine v_callVi (I := iX10_setHold) (I' := iX10_finding) lk_X10_92 c_X10_finding dX10_setHold_69 (m_X10_findE (e := 1) (by decide) (by decide)) rfl rfl (by decide) (ae_87 _ _) rfl (by decide) (by decide) (Nat.le_of_ble_eq_true rfl) ?_
      exact v_iret (I := iX10_setHold) rfl dX10_setHold_72 (by first | (unfold setHoldS; rw [if_neg c47]; exact ⟨rfl, rfl, RR_err hR, FR.up (by decide)⟩) | (unfold setHoldS; rw [if_pos c47, hqc, hzc]; exact ⟨by rw [hR.1], rfl, by rw [show up2 σ 88 (39 + 3 * q + z) v = va_up σ 88 (va_up (σ 88) (39 + 3 * q + z) v) from rfl, hR.1]; exact RR_row hR (IV_hold hR.2.2.2.2.2.2.2.2.2.2.2.1 hq hz (by rcases (show z = 0 ∨ z = 1 ∨ z = 2 by omega) with rfl | rfl | rfl <;> (have h9 := c47.2.2; rw [hzx] at h9; exact h9))), FR.up (by decide)⟩))
    · have hb9 := B_n14 hR.2.2.2.2.2.2.2.2.2.2.2.1.1
      obtain ⟨q, hq, hqx⟩ := nI8 (x := h) (by grind)
      have hqc : h.toNatClampNeg = q := by rw [hqx]; exact nI_clamp (by omega)
      obtain ⟨z, hz, hzx⟩ : ∃ z, z < 3 ∧ w = nI z := in2_nI (by decide) ⟨by grind, by show w < 3; grind⟩
      have hzc : w.toNatClampNeg = z := by rw [hzx]; exact nI_clamp (by omega)
      refine v_aload_n (I := iX10_setHold) dX10_setHold_50 rfl ?_
      refine v_bipush (I := iX10_setHold) (v := 39) dX10_setHold_51 (by decide) ?_
      refine v_iconst (I := iX10_setHold) (v := 3) dX10_setHold_53 (by decide) ?_
      refine v_iload_n (I := iX10_setHold) dX10_setHold_54 rfl ?_
      refine v_imul (I := iX10_setHold) dX10_setHold_55 ?_
      refine v_iadd (I := iX10_setHold) dX10_setHold_56 ?_
      refine v_iload_n (I := iX10_setHold) dX10_setHold_57 rfl ?_
      refine v_iadd (I := iX10_setHold) dX10_setHold_58 ?_
      refine v_iload_n (I := iX10_setHold) dX10_setHold_59 rfl ?_
      refine v_callVi (I := iX10_setHold) (I' := iX10_become) lk_X10_88 c_X10_become dX10_setHold_60 (m_X10_become (j := 39 + 3 * q + z) (by rw [hqx, hzx]; exact ix3 39 39 rfl q z) (by omega)) rfl rfl (by decide) (ae_87 _ _) rfl (by decide) (by decide) (Nat.le_of_ble_eq_true rfl) ?_
      refine v_goto (I := iX10_setHold) (tgt := 72) dX10_setHold_63 (by decide) ?_
      exact v_iret (I := iX10_setHold) rfl dX10_setHold_72 (by first | (unfold setHoldS; rw [if_neg c47]; exact ⟨rfl, rfl, RR_err hR, FR.up (by decide)⟩) | (unfold setHoldS; rw [if_pos c47, hqc, hzc]; exact ⟨by rw [hR.1], rfl, by rw [show up2 σ 88 (39 + 3 * q + z) v = va_up σ 88 (va_up (σ 88) (39 + 3 * q + z) v) from rfl, hR.1]; exact RR_row hR (IV_hold hR.2.2.2.2.2.2.2.2.2.2.2.1 hq hz (by rcases (show z = 0 ∨ z = 1 ∨ z = 2 by omega) with rfl | rfl | rfl <;> (have h9 := c47.2.2; rw [hzx] at h9; exact h9))), FR.up (by decide)⟩))
  refine v_aload_n (I := iX10_setHold) dX10_setHold_0 rfl ?_
  refine v_iload_n (I := iX10_setHold) dX10_setHold_1 rfl ?_
  refine v_bipush (I := iX10_setHold) (v := 14) dX10_setHold_2 (by decide) ?_
  refine v_callVi (I := iX10_setHold) (I' := iX10_isOf) lk_X10_113 c_X10_isOf dX10_setHold_4 (m_X10_isOf (c := 14) (by decide) (by decide)) rfl rfl (by decide) (ae_87 _ _) rfl (by decide) (by decide) (Nat.le_of_ble_eq_true rfl) ?_
  rw [hR.1]
  refine v_if_eqB (I := iX10_setHold) (tgt := 42) dX10_setHold_7 (by decide) (fun c7 => ?_) (fun c7 => ?_)
  · refine v_iconst (I := iX10_setHold) (v := 0) dX10_setHold_42 (by decide) ?_
    refine v_istore (I := iX10_setHold) (ls1 := [(4, _), (0, _), (1, _), (2, _), (3, _)]) dX10_setHold_43 (by decide) rfl ?_
    first
    | (rw [if_pos (by grind)] at J; exact J)
    | (rw [if_neg (by grind)] at J; exact J)
  · refine v_iload_n (I := iX10_setHold) dX10_setHold_10 rfl ?_
    refine v_iconst (I := iX10_setHold) (v := 0) dX10_setHold_11 (by decide) ?_
    refine v_iconst (I := iX10_setHold) (v := 2) dX10_setHold_12 (by decide) ?_
    refine v_callSi (I := iX10_setHold) (I' := iX10_within) lk_X10_79 c_X10_within dX10_setHold_13 (m_X10_within) rfl rfl (by decide) (by decide) (Nat.le_of_ble_eq_true rfl) ?_
    refine v_if_eqB (I := iX10_setHold) (tgt := 42) dX10_setHold_16 (by decide) (fun c16 => ?_) (fun c16 => ?_)
    · refine v_iconst (I := iX10_setHold) (v := 0) dX10_setHold_42 (by decide) ?_
      refine v_istore (I := iX10_setHold) (ls1 := [(4, _), (0, _), (1, _), (2, _), (3, _)]) dX10_setHold_43 (by decide) rfl ?_
      first
      | (rw [if_pos (by grind)] at J; exact J)
      | (rw [if_neg (by grind)] at J; exact J)
    · refine v_iload_n (I := iX10_setHold) dX10_setHold_19 rfl ?_
      refine v_iconst (I := iX10_setHold) (v := 0) dX10_setHold_20 (by decide) ?_
      refine v_iload_n (I := iX10_setHold) dX10_setHold_21 rfl ?_
      refine v_iconst (I := iX10_setHold) (v := 2) dX10_setHold_22 (by decide) ?_
      refine v_icmp_ne (I := iX10_setHold) (tgt := 30) dX10_setHold_23 (by decide) (fun c23 => ?_) (fun c23 => ?_)
      · refine v_bipush (I := iX10_setHold) (v := 99) dX10_setHold_30 (by decide) ?_
        refine v_callSi (I := iX10_setHold) (I' := iX10_within) lk_X10_79 c_X10_within dX10_setHold_32 (m_X10_within) rfl rfl (by decide) (by decide) (Nat.le_of_ble_eq_true rfl) ?_
        refine v_if_eqB (I := iX10_setHold) (tgt := 42) dX10_setHold_35 (by decide) (fun c35 => ?_) (fun c35 => ?_)
        · refine v_iconst (I := iX10_setHold) (v := 0) dX10_setHold_42 (by decide) ?_
          refine v_istore (I := iX10_setHold) (ls1 := [(4, _), (0, _), (1, _), (2, _), (3, _)]) dX10_setHold_43 (by decide) rfl ?_
          first
          | (rw [if_pos (by grind)] at J; exact J)
          | (rw [if_neg (by grind)] at J; exact J)
        · refine v_iconst (I := iX10_setHold) (v := 1) dX10_setHold_38 (by decide) ?_
          refine v_goto (I := iX10_setHold) (tgt := 43) dX10_setHold_39 (by decide) ?_
          refine v_istore (I := iX10_setHold) (ls1 := [(4, _), (0, _), (1, _), (2, _), (3, _)]) dX10_setHold_43 (by decide) rfl ?_
          first
          | (rw [if_pos (by grind)] at J; exact J)
          | (rw [if_neg (by grind)] at J; exact J)
      · refine v_iconst (I := iX10_setHold) (v := 1) dX10_setHold_26 (by decide) ?_
        refine v_goto (I := iX10_setHold) (tgt := 32) dX10_setHold_27 (by decide) ?_
        refine v_callSi (I := iX10_setHold) (I' := iX10_within) lk_X10_79 c_X10_within dX10_setHold_32 (m_X10_within) rfl rfl (by decide) (by decide) (Nat.le_of_ble_eq_true rfl) ?_
        refine v_if_eqB (I := iX10_setHold) (tgt := 42) dX10_setHold_35 (by decide) (fun c35 => ?_) (fun c35 => ?_)
        · refine v_iconst (I := iX10_setHold) (v := 0) dX10_setHold_42 (by decide) ?_
          refine v_istore (I := iX10_setHold) (ls1 := [(4, _), (0, _), (1, _), (2, _), (3, _)]) dX10_setHold_43 (by decide) rfl ?_
          first
          | (rw [if_pos (by grind)] at J; exact J)
          | (rw [if_neg (by grind)] at J; exact J)
        · refine v_iconst (I := iX10_setHold) (v := 1) dX10_setHold_38 (by decide) ?_
          refine v_goto (I := iX10_setHold) (tgt := 43) dX10_setHold_39 (by decide) ?_
          refine v_istore (I := iX10_setHold) (ls1 := [(4, _), (0, _), (1, _), (2, _), (3, _)]) dX10_setHold_43 (by decide) rfl ?_
          first
          | (rw [if_pos (by grind)] at J; exact J)
          | (rw [if_neg (by grind)] at J; exact J)
set_option maxRecDepth 100000 in
set_option maxHeartbeats 8000000 in
theorem m_X9_setGoing {G : fGm} {σ : fSt} {τ : fLt} {ρ : fSt} (hC : CR σ ρ) {h w v : Int32} : MS G iX9_setGoing 2 [.ref 0, .int h, .int w, .int v] σ τ (rC τ σ (setGoingS ρ h w v)) := by
  refine ms_of (by decide +kernel) (Nat.le_of_ble_eq_true rfl) ?_
  show VW _ _ _ _ _ _ 0 [(0, _), (1, _), (2, _), (3, _)] []
  have J : (0 ≤ h ∧ h ≤ ρ 88 15 - 1) ∧ (0 ≤ w ∧ w ≤ 1) ∧ 0 ≤ v ∧ v ≤ (if w = 0 then 6 else 99) → VW G iX9_setGoing (rC τ σ (setGoingS ρ h w v)) 2 σ τ 42 [(0, .ref 0), (1, .int h), (2, .int w), (3, .int v)] [] := by
    intro hg
    show VW _ _ _ _ _ _ 42 [(0, _), (1, _), (2, _), (3, _)] []
    have hb9 := B_n15 hC.2.2.2.2.2.1.1
    obtain ⟨q, hq, hqx⟩ := nI8 (x := h) (by grind)
    have hqc : h.toNatClampNeg = q := by rw [hqx]; exact nI_clamp (by omega)
    refine v_iload_n (I := iX9_setGoing) dX9_setGoing_42 rfl ?_
    refine v_if_ne (I := iX9_setGoing) (tgt := 59) dX9_setGoing_43 (by decide) (fun c43 => ?_) (fun c43 => ?_)
    · have hw1 : w = 1 := by grind
      refine v_aload_n (I := iX9_setGoing) dX9_setGoing_59 rfl ?_
      refine v_get (I := iX9_setGoing) g_X9_10 dX9_setGoing_60 (by decide) (ae_0 _ _) rfl ?_
      refine v_get (I := iX9_setGoing) g_X9_120 dX9_setGoing_63 (by decide) (ae_w0 (by decide) _ _) rfl ?_
      refine v_get (I := iX9_setGoing) g_X9_144 dX9_setGoing_66 (by decide) (ae_w8 (by decide) _ _) rfl ?_
      refine v_iload_n (I := iX9_setGoing) dX9_setGoing_69 rfl ?_
      refine v_iload_n (I := iX9_setGoing) dX9_setGoing_70 rfl ?_
      refine v_callSi (I := iX9_setGoing) (I' := iX9_exchange) lk_X9_78 c_X9_exchange dX9_setGoing_71 (m_X9_exchange (by decide) (ae_w10 (by decide)) (by decide)) rfl rfl (by decide) (by decide) (Nat.le_of_ble_eq_true rfl) ?_
      rw [wrA_eq hqx hq (by decide), rdA_eq hqx hq (by decide)]
      exact v_iret (I := iX9_setGoing) rfl dX9_setGoing_74 (by unfold setGoingS; rw [if_pos hg, hqc, hw1]; exact ⟨by rw [show ((1 : Int32)).toNatClampNeg = 1 from rfl, V_gm hC.1 hq], rfl, CR_row hC (V_goingU hC.1 hq).2.1 (FrW.up (by decide)) (IV_goings (z := 1) hC.2.2.2.2.2.1 hq (by decide) (by have := hg.2.2; rw [hw1] at this; exact this)), FC.up (by decide)⟩)
    · refine v_aload_n (I := iX9_setGoing) dX9_setGoing_46 rfl ?_
      refine v_get (I := iX9_setGoing) g_X9_10 dX9_setGoing_47 (by decide) (ae_0 _ _) rfl ?_
      refine v_get (I := iX9_setGoing) g_X9_120 dX9_setGoing_50 (by decide) (ae_w0 (by decide) _ _) rfl ?_
      refine v_get (I := iX9_setGoing) g_X9_141 dX9_setGoing_53 (by decide) (ae_w8 (by decide) _ _) rfl ?_
      refine v_goto (I := iX9_setGoing) (tgt := 69) dX9_setGoing_56 (by decide) ?_
      refine v_iload_n (I := iX9_setGoing) dX9_setGoing_69 rfl ?_
      refine v_iload_n (I := iX9_setGoing) dX9_setGoing_70 rfl ?_
      refine v_callSi (I := iX9_setGoing) (I' := iX9_exchange) lk_X9_78 c_X9_exchange dX9_setGoing_71 (m_X9_exchange (by decide) (ae_w9 (by decide)) (by decide)) rfl rfl (by decide) (by decide) (Nat.le_of_ble_eq_true rfl) ?_
      rw [wrA_eq hqx hq (by decide), rdA_eq hqx hq (by decide)]
      exact v_iret (I := iX9_setGoing) rfl dX9_setGoing_74 (by unfold setGoingS; rw [if_pos hg, hqc, c43]; exact ⟨by rw [show ((0 : Int32)).toNatClampNeg = 0 from rfl, V_gk hC.1 hq], rfl, CR_row hC (V_goingU hC.1 hq).1 (FrW.up (by decide)) (IV_goings (z := 0) hC.2.2.2.2.2.1 hq (by decide) (by have := hg.2.2; rw [c43] at this; exact this)), FC.up (by decide)⟩)
  refine v_aload_n (I := iX9_setGoing) dX9_setGoing_0 rfl ?_
  refine v_iload_n (I := iX9_setGoing) dX9_setGoing_1 rfl ?_
  refine v_callVi (I := iX9_setGoing) (I' := iX9_isGoing) lk_X9_134 c_X9_isGoing dX9_setGoing_2 (m_X9_isGoing hC.1) rfl rfl (by decide) (ae_0 _ _) rfl (by decide) (by decide) (Nat.le_of_ble_eq_true rfl) ?_
  refine v_if_eqB (I := iX9_setGoing) (tgt := 36) dX9_setGoing_5 (by decide) (fun c5 => ?_) (fun c5 => ?_)
  · refine v_aload_n (I := iX9_setGoing) dX9_setGoing_36 rfl ?_
    refine v_iconst (I := iX9_setGoing) (v := 1) dX9_setGoing_37 (by decide) ?_
    refine v_callVi (I := iX9_setGoing) (I' := iX9_refused) lk_X9_62 c_X9_refused dX9_setGoing_38 (m_X9_refused (e := 1) (by decide) (by decide) (by decide)) rfl rfl (by decide) (ae_0 _ _) rfl (by decide) (by decide) (Nat.le_of_ble_eq_true rfl) ?_
    exact v_iret (I := iX9_setGoing) rfl dX9_setGoing_41 (by unfold setGoingS; rw [if_neg (by grind)]; exact ⟨rfl, rfl, CR_err hC (by decide) (by decide), FC.up (by decide)⟩)
  · refine v_iload_n (I := iX9_setGoing) dX9_setGoing_8 rfl ?_
    refine v_iconst (I := iX9_setGoing) (v := 0) dX9_setGoing_9 (by decide) ?_
    refine v_iconst (I := iX9_setGoing) (v := 1) dX9_setGoing_10 (by decide) ?_
    refine v_callSi (I := iX9_setGoing) (I' := iX9_within) lk_X9_58 c_X9_within dX9_setGoing_11 (m_X9_within) rfl rfl (by decide) (by decide) (Nat.le_of_ble_eq_true rfl) ?_
    refine v_if_eqB (I := iX9_setGoing) (tgt := 36) dX9_setGoing_14 (by decide) (fun c14 => ?_) (fun c14 => ?_)
    · refine v_aload_n (I := iX9_setGoing) dX9_setGoing_36 rfl ?_
      refine v_iconst (I := iX9_setGoing) (v := 1) dX9_setGoing_37 (by decide) ?_
      refine v_callVi (I := iX9_setGoing) (I' := iX9_refused) lk_X9_62 c_X9_refused dX9_setGoing_38 (m_X9_refused (e := 1) (by decide) (by decide) (by decide)) rfl rfl (by decide) (ae_0 _ _) rfl (by decide) (by decide) (Nat.le_of_ble_eq_true rfl) ?_
      exact v_iret (I := iX9_setGoing) rfl dX9_setGoing_41 (by unfold setGoingS; rw [if_neg (by grind)]; exact ⟨rfl, rfl, CR_err hC (by decide) (by decide), FC.up (by decide)⟩)
    · refine v_iload_n (I := iX9_setGoing) dX9_setGoing_17 rfl ?_
      refine v_iconst (I := iX9_setGoing) (v := 0) dX9_setGoing_18 (by decide) ?_
      refine v_iload_n (I := iX9_setGoing) dX9_setGoing_19 rfl ?_
      refine v_if_ne (I := iX9_setGoing) (tgt := 28) dX9_setGoing_20 (by decide) (fun c20 => ?_) (fun c20 => ?_)
      · refine v_bipush (I := iX9_setGoing) (v := 99) dX9_setGoing_28 (by decide) ?_
        refine v_callSi (I := iX9_setGoing) (I' := iX9_within) lk_X9_58 c_X9_within dX9_setGoing_30 (m_X9_within) rfl rfl (by decide) (by decide) (Nat.le_of_ble_eq_true rfl) ?_
        refine v_if_neB (I := iX9_setGoing) (tgt := 42) dX9_setGoing_33 (by decide) (fun c33 => ?_) (fun c33 => ?_)
        · exact J (by grind)
        · refine v_aload_n (I := iX9_setGoing) dX9_setGoing_36 rfl ?_
          refine v_iconst (I := iX9_setGoing) (v := 1) dX9_setGoing_37 (by decide) ?_
          refine v_callVi (I := iX9_setGoing) (I' := iX9_refused) lk_X9_62 c_X9_refused dX9_setGoing_38 (m_X9_refused (e := 1) (by decide) (by decide) (by decide)) rfl rfl (by decide) (ae_0 _ _) rfl (by decide) (by decide) (Nat.le_of_ble_eq_true rfl) ?_
          exact v_iret (I := iX9_setGoing) rfl dX9_setGoing_41 (by unfold setGoingS; rw [if_neg (by grind)]; exact ⟨rfl, rfl, CR_err hC (by decide) (by decide), FC.up (by decide)⟩)
      · refine v_bipush (I := iX9_setGoing) (v := 6) dX9_setGoing_23 (by decide) ?_
        refine v_goto (I := iX9_setGoing) (tgt := 30) dX9_setGoing_25 (by decide) ?_
        refine v_callSi (I := iX9_setGoing) (I' := iX9_within) lk_X9_58 c_X9_within dX9_setGoing_30 (m_X9_within) rfl rfl (by decide) (by decide) (Nat.le_of_ble_eq_true rfl) ?_
        refine v_if_neB (I := iX9_setGoing) (tgt := 42) dX9_setGoing_33 (by decide) (fun c33 => ?_) (fun c33 => ?_)
        · exact J (by grind)
        · refine v_aload_n (I := iX9_setGoing) dX9_setGoing_36 rfl ?_
          refine v_iconst (I := iX9_setGoing) (v := 1) dX9_setGoing_37 (by decide) ?_
          refine v_callVi (I := iX9_setGoing) (I' := iX9_refused) lk_X9_62 c_X9_refused dX9_setGoing_38 (m_X9_refused (e := 1) (by decide) (by decide) (by decide)) rfl rfl (by decide) (ae_0 _ _) rfl (by decide) (by decide) (Nat.le_of_ble_eq_true rfl) ?_
          exact v_iret (I := iX9_setGoing) rfl dX9_setGoing_41 (by unfold setGoingS; rw [if_neg (by grind)]; exact ⟨rfl, rfl, CR_err hC (by decide) (by decide), FC.up (by decide)⟩)
set_option maxRecDepth 100000 in
set_option maxHeartbeats 8000000 in
theorem m_X10_setGoing {G : fGm} {σ : fSt} {τ : fLt} {ρ : fSt} (hR : RR σ ρ) {h w v : Int32} : MS G iX10_setGoing 2 [.ref 87, .int h, .int w, .int v] σ τ (rR τ σ (setGoingS ρ h w v)) := by
  refine ms_of (by decide +kernel) (Nat.le_of_ble_eq_true rfl) ?_
  show VW _ _ _ _ _ _ 0 [(0, _), (1, _), (2, _), (3, _)] []
  have J : VW G iX10_setGoing (rR τ σ (setGoingS ρ h w v)) 2 σ τ 45 [(4, .int (if (0 ≤ h ∧ h ≤ ρ 88 15 - 1) ∧ (0 ≤ w ∧ w ≤ 1) ∧ 0 ≤ v ∧ v ≤ (if w = 0 then 6 else 99) then 1 else 0)), (0, .ref 87), (1, .int h), (2, .int w), (3, .int v)] [] := by
    show VW _ _ _ _ _ _ 45 [(4, _), (0, _), (1, _), (2, _), (3, _)] []
    refine v_iload (I := iX10_setGoing) dX10_setGoing_45 rfl ?_
    refine v_if_eqB (I := iX10_setGoing) (tgt := 66) dX10_setGoing_47 (by decide) (fun c47 => ?_) (fun c47 => ?_)
    · refine v_aload_n (I := iX10_setGoing) dX10_setGoing_66 rfl ?_
      refine v_ldc (I := iX10_setGoing) k_X10_91 dX10_setGoing_67 ?_
      refine v_callVi (I := iX10_setGoing) (I' := iX10_finding) lk_X10_92 c_X10_finding dX10_setGoing_69 (m_X10_findE (e := 1) (by decide) (by decide)) rfl rfl (by decide) (ae_87 _ _) rfl (by decide) (by decide) (Nat.le_of_ble_eq_true rfl) ?_
      exact v_iret (I := iX10_setGoing) rfl dX10_setGoing_72 (by first | (unfold setGoingS; rw [if_neg c47]; exact ⟨rfl, rfl, RR_err hR, FR.up (by decide)⟩) | (unfold setGoingS; rw [if_pos c47, hqc, hzc]; exact ⟨by rw [hR.1], rfl, by rw [show up2 σ 88 (63 + 3 * q + z) v = va_up σ 88 (va_up (σ 88) (63 + 3 * q + z) v) from rfl, hR.1]; exact RR_row hR (IV_goings hR.2.2.2.2.2.2.2.2.2.2.2.1 hq hz (by rcases (show z = 0 ∨ z = 1 by omega) with rfl | rfl <;> (have h9 := c47.2.2; rw [hzx] at h9; exact h9))), FR.up (by decide)⟩))
    · have hb9 := B_n15 hR.2.2.2.2.2.2.2.2.2.2.2.1.1
      obtain ⟨q, hq, hqx⟩ := nI8 (x := h) (by grind)
      have hqc : h.toNatClampNeg = q := by rw [hqx]; exact nI_clamp (by omega)
      obtain ⟨z, hz, hzx⟩ : ∃ z, z < 2 ∧ w = nI z := in2_nI (by decide) ⟨by grind, by show w < 2; grind⟩
      have hzc : w.toNatClampNeg = z := by rw [hzx]; exact nI_clamp (by omega)
      refine v_aload_n (I := iX10_setGoing) dX10_setGoing_50 rfl ?_
      refine v_bipush (I := iX10_setGoing) (v := 63) dX10_setGoing_51 (by decide) ?_
      refine v_iconst (I := iX10_setGoing) (v := 3) dX10_setGoing_53 (by decide) ?_
      refine v_iload_n (I := iX10_setGoing) dX10_setGoing_54 rfl ?_
      refine v_imul (I := iX10_setGoing) dX10_setGoing_55 ?_
      refine v_iadd (I := iX10_setGoing) dX10_setGoing_56 ?_
      refine v_iload_n (I := iX10_setGoing) dX10_setGoing_57 rfl ?_
      refine v_iadd (I := iX10_setGoing) dX10_setGoing_58 ?_
      refine v_iload_n (I := iX10_setGoing) dX10_setGoing_59 rfl ?_
      refine v_callVi (I := iX10_setGoing) (I' := iX10_become) lk_X10_88 c_X10_become dX10_setGoing_60 (m_X10_become (j := 63 + 3 * q + z) (by rw [hqx, hzx]; exact ix3 63 63 rfl q z) (by omega)) rfl rfl (by decide) (ae_87 _ _) rfl (by decide) (by decide) (Nat.le_of_ble_eq_true rfl) ?_
      refine v_goto (I := iX10_setGoing) (tgt := 72) dX10_setGoing_63 (by decide) ?_
      exact v_iret (I := iX10_setGoing) rfl dX10_setGoing_72 (by first | (unfold setGoingS; rw [if_neg c47]; exact ⟨rfl, rfl, RR_err hR, FR.up (by decide)⟩) | (unfold setGoingS; rw [if_pos c47, hqc, hzc]; exact ⟨by rw [hR.1], rfl, by rw [show up2 σ 88 (63 + 3 * q + z) v = va_up σ 88 (va_up (σ 88) (63 + 3 * q + z) v) from rfl, hR.1]; exact RR_row hR (IV_goings hR.2.2.2.2.2.2.2.2.2.2.2.1 hq hz (by rcases (show z = 0 ∨ z = 1 by omega) with rfl | rfl <;> (have h9 := c47.2.2; rw [hzx] at h9; exact h9))), FR.up (by decide)⟩))
  refine v_aload_n (I := iX10_setGoing) dX10_setGoing_0 rfl ?_
  refine v_iload_n (I := iX10_setGoing) dX10_setGoing_1 rfl ?_
  refine v_bipush (I := iX10_setGoing) (v := 15) dX10_setGoing_2 (by decide) ?_
  refine v_callVi (I := iX10_setGoing) (I' := iX10_isOf) lk_X10_113 c_X10_isOf dX10_setGoing_4 (m_X10_isOf (c := 15) (by decide) (by decide)) rfl rfl (by decide) (ae_87 _ _) rfl (by decide) (by decide) (Nat.le_of_ble_eq_true rfl) ?_
  rw [hR.1]
  refine v_if_eqB (I := iX10_setGoing) (tgt := 42) dX10_setGoing_7 (by decide) (fun c7 => ?_) (fun c7 => ?_)
  · refine v_iconst (I := iX10_setGoing) (v := 0) dX10_setGoing_42 (by decide) ?_
    refine v_istore (I := iX10_setGoing) (ls1 := [(4, _), (0, _), (1, _), (2, _), (3, _)]) dX10_setGoing_43 (by decide) rfl ?_
    first
    | (rw [if_pos (by grind)] at J; exact J)
    | (rw [if_neg (by grind)] at J; exact J)
  · refine v_iload_n (I := iX10_setGoing) dX10_setGoing_10 rfl ?_
    refine v_iconst (I := iX10_setGoing) (v := 0) dX10_setGoing_11 (by decide) ?_
    refine v_iconst (I := iX10_setGoing) (v := 1) dX10_setGoing_12 (by decide) ?_
    refine v_callSi (I := iX10_setGoing) (I' := iX10_within) lk_X10_79 c_X10_within dX10_setGoing_13 (m_X10_within) rfl rfl (by decide) (by decide) (Nat.le_of_ble_eq_true rfl) ?_
    refine v_if_eqB (I := iX10_setGoing) (tgt := 42) dX10_setGoing_16 (by decide) (fun c16 => ?_) (fun c16 => ?_)
    · refine v_iconst (I := iX10_setGoing) (v := 0) dX10_setGoing_42 (by decide) ?_
      refine v_istore (I := iX10_setGoing) (ls1 := [(4, _), (0, _), (1, _), (2, _), (3, _)]) dX10_setGoing_43 (by decide) rfl ?_
      first
      | (rw [if_pos (by grind)] at J; exact J)
      | (rw [if_neg (by grind)] at J; exact J)
    · refine v_iload_n (I := iX10_setGoing) dX10_setGoing_19 rfl ?_
      refine v_iconst (I := iX10_setGoing) (v := 0) dX10_setGoing_20 (by decide) ?_
      refine v_iload_n (I := iX10_setGoing) dX10_setGoing_21 rfl ?_
      refine v_if_ne (I := iX10_setGoing) (tgt := 30) dX10_setGoing_22 (by decide) (fun c22 => ?_) (fun c22 => ?_)
      · refine v_bipush (I := iX10_setGoing) (v := 99) dX10_setGoing_30 (by decide) ?_
        refine v_callSi (I := iX10_setGoing) (I' := iX10_within) lk_X10_79 c_X10_within dX10_setGoing_32 (m_X10_within) rfl rfl (by decide) (by decide) (Nat.le_of_ble_eq_true rfl) ?_
        refine v_if_eqB (I := iX10_setGoing) (tgt := 42) dX10_setGoing_35 (by decide) (fun c35 => ?_) (fun c35 => ?_)
        · refine v_iconst (I := iX10_setGoing) (v := 0) dX10_setGoing_42 (by decide) ?_
          refine v_istore (I := iX10_setGoing) (ls1 := [(4, _), (0, _), (1, _), (2, _), (3, _)]) dX10_setGoing_43 (by decide) rfl ?_
          first
          | (rw [if_pos (by grind)] at J; exact J)
          | (rw [if_neg (by grind)] at J; exact J)
        · refine v_iconst (I := iX10_setGoing) (v := 1) dX10_setGoing_38 (by decide) ?_
          refine v_goto (I := iX10_setGoing) (tgt := 43) dX10_setGoing_39 (by decide) ?_
          refine v_istore (I := iX10_setGoing) (ls1 := [(4, _), (0, _), (1, _), (2, _), (3, _)]) dX10_setGoing_43 (by decide) rfl ?_
          first
          | (rw [if_pos (by grind)] at J; exact J)
          | (rw [if_neg (by grind)] at J; exact J)
      · refine v_bipush (I := iX10_setGoing) (v := 6) dX10_setGoing_25 (by decide) ?_
        refine v_goto (I := iX10_setGoing) (tgt := 32) dX10_setGoing_27 (by decide) ?_
        refine v_callSi (I := iX10_setGoing) (I' := iX10_within) lk_X10_79 c_X10_within dX10_setGoing_32 (m_X10_within) rfl rfl (by decide) (by decide) (Nat.le_of_ble_eq_true rfl) ?_
        refine v_if_eqB (I := iX10_setGoing) (tgt := 42) dX10_setGoing_35 (by decide) (fun c35 => ?_) (fun c35 => ?_)
        · refine v_iconst (I := iX10_setGoing) (v := 0) dX10_setGoing_42 (by decide) ?_
          refine v_istore (I := iX10_setGoing) (ls1 := [(4, _), (0, _), (1, _), (2, _), (3, _)]) dX10_setGoing_43 (by decide) rfl ?_
          first
          | (rw [if_pos (by grind)] at J; exact J)
          | (rw [if_neg (by grind)] at J; exact J)
        · refine v_iconst (I := iX10_setGoing) (v := 1) dX10_setGoing_38 (by decide) ?_
          refine v_goto (I := iX10_setGoing) (tgt := 43) dX10_setGoing_39 (by decide) ?_
          refine v_istore (I := iX10_setGoing) (ls1 := [(4, _), (0, _), (1, _), (2, _), (3, _)]) dX10_setGoing_43 (by decide) rfl ?_
          first
          | (rw [if_pos (by grind)] at J; exact J)
          | (rw [if_neg (by grind)] at J; exact J)
def setS (ρ : fSt) (w v : Int32) : Int32 × fSt := if (0 ≤ w ∧ w ≤ 6) ∧ sLE w.toNatClampNeg ≤ v ∧ v ≤ sMO w.toNatClampNeg then (ρ 88 w.toNatClampNeg, rowS ρ (va_up (ρ 88) w.toNatClampNeg v)) else (errV 1, errS ρ 1)
theorem bnd_set : ∀ j, j < 7 → bnd j = (sLE j, sMO j) := by decide +kernel
theorem IV_set {g : gS} {j : Nat} {x : Int32} (h : IV g) (hj : j < 7) (hx : sLE j ≤ x ∧ x ≤ sMO j) : IV (va_up g j x) := IV_up h ⟨by omega, by omega, by omega, by omega, fun i hi => by omega⟩ (by rw [bnd_set j hj]; exact hx)
def isS (ρ : fSt) (w : Int32) : Int32 × fSt := if 0 ≤ w ∧ w ≤ 13 then (ρ 88 w.toNatClampNeg, ρ) else (errV 1, errS ρ 1)
def nearS (ρ : fSt) : Int32 × fSt := match gNear (ρ 88) with
  | none => (errV 2, errS ρ 2)
  | some b => (nI b, ρ)
set_option maxRecDepth 100000 in
set_option maxHeartbeats 4000000 in
theorem m_X9_set {G : fGm} {σ : fSt} {τ : fLt} {ρ : fSt} (hC : CR σ ρ) {w v : Int32} : MS G iX9_set 2 [.ref 0, .int w, .int v] σ τ (rC τ σ (setS ρ w v)) := by
  refine ms_of (by decide +kernel) (Nat.le_of_ble_eq_true rfl) ?_
  show VW _ _ _ _ _ _ 0 [(0, _), (1, _), (2, _)] []
  refine v_iload_n (I := iX9_set) dX9_set_0 rfl ?_
  refine v_iconst (I := iX9_set) (v := 0) dX9_set_1 (by decide) ?_
  refine v_bipush (I := iX9_set) (v := 6) dX9_set_2 (by decide) ?_
  refine v_callSi (I := iX9_set) (I' := iX9_within) lk_X9_58 c_X9_within dX9_set_4 (m_X9_within) rfl rfl (by decide) (by decide) (Nat.le_of_ble_eq_true rfl) ?_
  refine v_if_eqB (I := iX9_set) (tgt := 31) dX9_set_7 (by decide) (fun c7 => ?_) (fun c7 => ?_)
  · refine v_aload_n (I := iX9_set) dX9_set_31 rfl ?_
    refine v_iconst (I := iX9_set) (v := 1) dX9_set_32 (by decide) ?_
    refine v_callVi (I := iX9_set) (I' := iX9_refused) lk_X9_62 c_X9_refused dX9_set_33 (m_X9_refused (e := 1) (by decide) (by decide) (by decide)) rfl rfl (by decide) (ae_0 _ _) rfl (by decide) (by decide) (Nat.le_of_ble_eq_true rfl) ?_
    exact v_iret (I := iX9_set) rfl dX9_set_36 (by unfold setS; first | (rw [if_neg (fun h9 => c7 h9.1)]; exact ⟨rfl, rfl, CR_err hC (by decide) (by decide), FC.up (by decide)⟩) | (rw [hzc, if_neg (by grind)]; exact ⟨rfl, rfl, CR_err hC (by decide) (by decide), FC.up (by decide)⟩))
  · obtain ⟨z, hz, hzx⟩ : ∃ z, z < 7 ∧ w = nI z := in2_nI (by decide) ⟨by grind, by show w < 7; grind⟩
    have hzc : w.toNatClampNeg = z := by rw [hzx]; exact nI_clamp (by omega)
    refine v_iload_n (I := iX9_set) dX9_set_10 rfl ?_
    refine v_gets (I := iX9_set) (i := 1) (by decide) fl_X9_108 dX9_set_11 ?_
    refine v_iload_n (I := iX9_set) dX9_set_14 rfl ?_
    refine v_callSi (I := iX9_set) (I' := iX9_at) lk_X9_104 c_X9_at dX9_set_15 (m_X9_at_tab (j := 1) (by decide)) rfl rfl (by decide) (by decide) (Nat.le_of_ble_eq_true rfl) ?_
    rw [show rdA (sTb 1).length (fun q => (sTb 1).getD q 0) w = sLE z from rdA_eq hzx hz (by decide)]
    refine v_gets (I := iX9_set) (i := 2) (by decide) fl_X9_111 dX9_set_18 ?_
    refine v_iload_n (I := iX9_set) dX9_set_21 rfl ?_
    refine v_callSi (I := iX9_set) (I' := iX9_at) lk_X9_104 c_X9_at dX9_set_22 (m_X9_at_tab (j := 2) (by decide)) rfl rfl (by decide) (by decide) (Nat.le_of_ble_eq_true rfl) ?_
    rw [show rdA (sTb 2).length (fun q => (sTb 2).getD q 0) w = sMO z from rdA_eq hzx hz (by decide)]
    refine v_callSi (I := iX9_set) (I' := iX9_within) lk_X9_58 c_X9_within dX9_set_25 (m_X9_within) rfl rfl (by decide) (by decide) (Nat.le_of_ble_eq_true rfl) ?_
    refine v_if_neB (I := iX9_set) (tgt := 37) dX9_set_28 (by decide) (fun c28 => ?_) (fun c28 => ?_)
    · refine v_aload_n (I := iX9_set) dX9_set_37 rfl ?_
      refine v_get (I := iX9_set) g_X9_10 dX9_set_38 (by decide) (ae_0 _ _) rfl ?_
      refine v_get (I := iX9_set) g_X9_114 dX9_set_41 (by decide) (ae_w0 (by decide) _ _) rfl ?_
      refine v_iload_n (I := iX9_set) dX9_set_44 rfl ?_
      refine v_iload_n (I := iX9_set) dX9_set_45 rfl ?_
      refine v_callSi (I := iX9_set) (I' := iX9_exchange) lk_X9_78 c_X9_exchange dX9_set_46 (m_X9_exchange (by decide) (ae_w1 (by decide)) (by decide)) rfl rfl (by decide) (by decide) (Nat.le_of_ble_eq_true rfl) ?_
      rw [wrA_eq hzx (by omega) (by decide), rdA_eq hzx (by omega) (by decide)]
      exact v_iret (I := iX9_set) rfl dX9_set_49 (by unfold setS; rw [hzc, if_pos (by grind)]; exact ⟨by rw [V_child hC.1 (by omega)], rfl, CR_row hC (V_upc hC.1 (by omega)) (FrW.up (by decide)) (IV_set hC.2.2.2.2.2.1 hz (by grind)), FC.up (by decide)⟩)
    · refine v_aload_n (I := iX9_set) dX9_set_31 rfl ?_
      refine v_iconst (I := iX9_set) (v := 1) dX9_set_32 (by decide) ?_
      refine v_callVi (I := iX9_set) (I' := iX9_refused) lk_X9_62 c_X9_refused dX9_set_33 (m_X9_refused (e := 1) (by decide) (by decide) (by decide)) rfl rfl (by decide) (ae_0 _ _) rfl (by decide) (by decide) (Nat.le_of_ble_eq_true rfl) ?_
      exact v_iret (I := iX9_set) rfl dX9_set_36 (by unfold setS; first | (rw [if_neg (fun h9 => c7 h9.1)]; exact ⟨rfl, rfl, CR_err hC (by decide) (by decide), FC.up (by decide)⟩) | (rw [hzc, if_neg (by grind)]; exact ⟨rfl, rfl, CR_err hC (by decide) (by decide), FC.up (by decide)⟩))
set_option maxRecDepth 100000 in
set_option maxHeartbeats 4000000 in
theorem m_X10_set {G : fGm} {σ : fSt} {τ : fLt} {ρ : fSt} (hR : RR σ ρ) {w v : Int32} : MS G iX10_set 2 [.ref 87, .int w, .int v] σ τ (rR τ σ (setS ρ w v)) := by
  refine ms_of (by decide +kernel) (Nat.le_of_ble_eq_true rfl) ?_
  show VW _ _ _ _ _ _ 0 [(0, _), (1, _), (2, _)] []
  refine v_iload_n (I := iX10_set) dX10_set_0 rfl ?_
  refine v_iconst (I := iX10_set) (v := 0) dX10_set_1 (by decide) ?_
  refine v_bipush (I := iX10_set) (v := 6) dX10_set_2 (by decide) ?_
  refine v_callSi (I := iX10_set) (I' := iX10_within) lk_X10_79 c_X10_within dX10_set_4 (m_X10_within) rfl rfl (by decide) (by decide) (Nat.le_of_ble_eq_true rfl) ?_
  refine v_if_eqB (I := iX10_set) (tgt := 38) dX10_set_7 (by decide) (fun c7 => ?_) (fun c7 => ?_)
  · refine v_aload_n (I := iX10_set) dX10_set_38 rfl ?_
    refine v_ldc (I := iX10_set) k_X10_91 dX10_set_39 ?_
    refine v_callVi (I := iX10_set) (I' := iX10_finding) lk_X10_92 c_X10_finding dX10_set_41 (m_X10_findE (e := 1) (by decide) (by decide)) rfl rfl (by decide) (ae_87 _ _) rfl (by decide) (by decide) (Nat.le_of_ble_eq_true rfl) ?_
    exact v_iret (I := iX10_set) rfl dX10_set_44 (by
      unfold setS
      first
      | (rw [if_neg (fun h9 => c7 h9.1)]; exact ⟨rfl, rfl, RR_err hR, FR.up (by decide)⟩)
      | (rw [hzc, if_neg (by grind)]; exact ⟨rfl, rfl, RR_err hR, FR.up (by decide)⟩)
      | (rw [hzc, if_pos (by grind)]; exact ⟨by rw [hR.1], rfl, by rw [show up2 σ 88 z v = va_up σ 88 (va_up (σ 88) z v) from rfl, hR.1]; exact RR_row hR (IV_set hR.2.2.2.2.2.2.2.2.2.2.2.1 hz (by grind)), FR.up (by decide)⟩))
  · obtain ⟨z, hz, hzx⟩ : ∃ z, z < 7 ∧ w = nI z := in2_nI (by decide) ⟨by grind, by show w < 7; grind⟩
    have hzc : w.toNatClampNeg = z := by rw [hzx]; exact nI_clamp (by omega)
    refine v_iload_n (I := iX10_set) dX10_set_10 rfl ?_
    refine v_aload_n (I := iX10_set) dX10_set_11 rfl ?_
    refine v_get (I := iX10_set) g_X10_22 dX10_set_12 (by decide) (ae_87 _ _) rfl ?_
    refine v_iload_n (I := iX10_set) dX10_set_15 rfl ?_
    refine v_ialdN (I := iX10_set) (j := z) hzx hz (by decide) dX10_set_16 (by decide) (ae_92 _ _) ?_
    rw [show σ 92 z = sLE z by rw [hR.2.2.2.1]; exact hR.2.2.2.2.2.2.2.2.2.2.2.2.2.2.2.1 z hz]
    refine v_aload_n (I := iX10_set) dX10_set_17 rfl ?_
    refine v_get (I := iX10_set) g_X10_25 dX10_set_18 (by decide) (ae_87 _ _) rfl ?_
    refine v_iload_n (I := iX10_set) dX10_set_21 rfl ?_
    refine v_ialdN (I := iX10_set) (j := z) hzx hz (by decide) dX10_set_22 (by decide) (ae_93 _ _) ?_
    rw [show σ 93 z = sMO z by rw [hR.2.2.2.2.1]; exact hR.2.2.2.2.2.2.2.2.2.2.2.2.2.2.2.2 z hz]
    refine v_callSi (I := iX10_set) (I' := iX10_within) lk_X10_79 c_X10_within dX10_set_23 (m_X10_within) rfl rfl (by decide) (by decide) (Nat.le_of_ble_eq_true rfl) ?_
    refine v_if_eqB (I := iX10_set) (tgt := 38) dX10_set_26 (by decide) (fun c26 => ?_) (fun c26 => ?_)
    · refine v_aload_n (I := iX10_set) dX10_set_38 rfl ?_
      refine v_ldc (I := iX10_set) k_X10_91 dX10_set_39 ?_
      refine v_callVi (I := iX10_set) (I' := iX10_finding) lk_X10_92 c_X10_finding dX10_set_41 (m_X10_findE (e := 1) (by decide) (by decide)) rfl rfl (by decide) (ae_87 _ _) rfl (by decide) (by decide) (Nat.le_of_ble_eq_true rfl) ?_
      exact v_iret (I := iX10_set) rfl dX10_set_44 (by
      unfold setS
      first
      | (rw [if_neg (fun h9 => c7 h9.1)]; exact ⟨rfl, rfl, RR_err hR, FR.up (by decide)⟩)
      | (rw [hzc, if_neg (by grind)]; exact ⟨rfl, rfl, RR_err hR, FR.up (by decide)⟩)
      | (rw [hzc, if_pos (by grind)]; exact ⟨by rw [hR.1], rfl, by rw [show up2 σ 88 z v = va_up σ 88 (va_up (σ 88) z v) from rfl, hR.1]; exact RR_row hR (IV_set hR.2.2.2.2.2.2.2.2.2.2.2.1 hz (by grind)), FR.up (by decide)⟩))
    · refine v_aload_n (I := iX10_set) dX10_set_29 rfl ?_
      refine v_iload_n (I := iX10_set) dX10_set_30 rfl ?_
      refine v_iload_n (I := iX10_set) dX10_set_31 rfl ?_
      refine v_callVi (I := iX10_set) (I' := iX10_become) lk_X10_88 c_X10_become dX10_set_32 (m_X10_become hzx (by omega)) rfl rfl (by decide) (ae_87 _ _) rfl (by decide) (by decide) (Nat.le_of_ble_eq_true rfl) ?_
      refine v_goto (I := iX10_set) (tgt := 44) dX10_set_35 (by decide) ?_
      exact v_iret (I := iX10_set) rfl dX10_set_44 (by
      unfold setS
      first
      | (rw [if_neg (fun h9 => c7 h9.1)]; exact ⟨rfl, rfl, RR_err hR, FR.up (by decide)⟩)
      | (rw [hzc, if_neg (by grind)]; exact ⟨rfl, rfl, RR_err hR, FR.up (by decide)⟩)
      | (rw [hzc, if_pos (by grind)]; exact ⟨by rw [hR.1], rfl, by rw [show up2 σ 88 z v = va_up σ 88 (va_up (σ 88) z v) from rfl, hR.1]; exact RR_row hR (IV_set hR.2.2.2.2.2.2.2.2.2.2.2.1 hz (by grind)), FR.up (by decide)⟩))
set_option maxRecDepth 100000 in
set_option maxHeartbeats 4000000 in
theorem m_X9_is {G : fGm} {σ : fSt} {τ : fLt} {ρ : fSt} (hC : CR σ ρ) {w : Int32} : MS G iX9_is 2 [.ref 0, .int w] σ τ (rC τ σ (isS ρ w)) := by
  refine ms_of (by decide +kernel) (Nat.le_of_ble_eq_true rfl) ?_
  show VW _ _ _ _ _ _ 0 [(0, _), (1, _)] []
  refine v_iload_n (I := iX9_is) dX9_is_0 rfl ?_
  refine v_iconst (I := iX9_is) (v := 0) dX9_is_1 (by decide) ?_
  refine v_bipush (I := iX9_is) (v := 13) dX9_is_2 (by decide) ?_
  refine v_callSi (I := iX9_is) (I' := iX9_within) lk_X9_58 c_X9_within dX9_is_4 (m_X9_within) rfl rfl (by decide) (by decide) (Nat.le_of_ble_eq_true rfl) ?_
  refine v_if_neB (I := iX9_is) (tgt := 16) dX9_is_7 (by decide) (fun c7 => ?_) (fun c7 => ?_)
  · obtain ⟨z, hz, hzx⟩ : ∃ z, z < 14 ∧ w = nI z := in2_nI (by decide) ⟨by grind, by show w < 14; grind⟩
    have hzc : w.toNatClampNeg = z := by rw [hzx]; exact nI_clamp (by omega)
    refine v_aload_n (I := iX9_is) dX9_is_16 rfl ?_
    refine v_get (I := iX9_is) g_X9_10 dX9_is_17 (by decide) (ae_0 _ _) rfl ?_
    refine v_get (I := iX9_is) g_X9_114 dX9_is_20 (by decide) (ae_w0 (by decide) _ _) rfl ?_
    refine v_iload_n (I := iX9_is) dX9_is_23 rfl ?_
    refine v_callSi (I := iX9_is) (I' := iX9_at) lk_X9_104 c_X9_at dX9_is_24 (m_X9_at (by decide) (ae_w1 (by decide)) (by decide)) rfl rfl (by decide) (by decide) (Nat.le_of_ble_eq_true rfl) ?_
    rw [rdA_eq hzx (by omega) (by decide), V_child hC.1 hz]
    exact v_iret (I := iX9_is) rfl dX9_is_27 (by unfold isS; rw [if_pos c7, hzc]; exact ⟨rfl, rfl, hC, FC.rf⟩)
  · refine v_aload_n (I := iX9_is) dX9_is_10 rfl ?_
    refine v_iconst (I := iX9_is) (v := 1) dX9_is_11 (by decide) ?_
    refine v_callVi (I := iX9_is) (I' := iX9_refused) lk_X9_62 c_X9_refused dX9_is_12 (m_X9_refused (e := 1) (by decide) (by decide) (by decide)) rfl rfl (by decide) (ae_0 _ _) rfl (by decide) (by decide) (Nat.le_of_ble_eq_true rfl) ?_
    exact v_iret (I := iX9_is) rfl dX9_is_15 (by unfold isS; rw [if_neg (by grind)]; exact ⟨rfl, rfl, CR_err hC (by decide) (by decide), FC.up (by decide)⟩)
set_option maxRecDepth 100000 in
set_option maxHeartbeats 4000000 in
theorem m_X10_is {G : fGm} {σ : fSt} {τ : fLt} {ρ : fSt} (hR : RR σ ρ) {w : Int32} : MS G iX10_is 2 [.ref 87, .int w] σ τ (rR τ σ (isS ρ w)) := by
  refine ms_of (by decide +kernel) (Nat.le_of_ble_eq_true rfl) ?_
  show VW _ _ _ _ _ _ 0 [(0, _), (1, _)] []
  refine v_iload_n (I := iX10_is) dX10_is_0 rfl ?_
  refine v_iconst (I := iX10_is) (v := 0) dX10_is_1 (by decide) ?_
  refine v_bipush (I := iX10_is) (v := 13) dX10_is_2 (by decide) ?_
  refine v_callSi (I := iX10_is) (I' := iX10_within) lk_X10_79 c_X10_within dX10_is_4 (m_X10_within) rfl rfl (by decide) (by decide) (Nat.le_of_ble_eq_true rfl) ?_
  refine v_if_eqB (I := iX10_is) (tgt := 19) dX10_is_7 (by decide) (fun c7 => ?_) (fun c7 => ?_)
  · refine v_aload_n (I := iX10_is) dX10_is_19 rfl ?_
    refine v_ldc (I := iX10_is) k_X10_91 dX10_is_20 ?_
    refine v_callVi (I := iX10_is) (I' := iX10_finding) lk_X10_92 c_X10_finding dX10_is_22 (m_X10_findE (e := 1) (by decide) (by decide)) rfl rfl (by decide) (ae_87 _ _) rfl (by decide) (by decide) (Nat.le_of_ble_eq_true rfl) ?_
    exact v_iret (I := iX10_is) rfl dX10_is_25 (by
      unfold isS
      first
      | (rw [if_neg c7]; exact ⟨rfl, rfl, RR_err hR, FR.up (by decide)⟩)
      | (rw [if_pos c7, hzc]; exact ⟨by rw [hR.1], rfl, hR, FR.rf⟩))
  · obtain ⟨z, hz, hzx⟩ : ∃ z, z < 14 ∧ w = nI z := in2_nI (by decide) ⟨by grind, by show w < 14; grind⟩
    have hzc : w.toNatClampNeg = z := by rw [hzx]; exact nI_clamp (by omega)
    refine v_aload_n (I := iX10_is) dX10_is_10 rfl ?_
    refine v_get (I := iX10_is) g_X10_9 dX10_is_11 (by decide) (ae_87 _ _) rfl ?_
    refine v_iload_n (I := iX10_is) dX10_is_14 rfl ?_
    refine v_ialdN (I := iX10_is) (j := z) hzx (by omega) (by decide) dX10_is_15 (by decide) (ae_88 _ _) ?_
    refine v_goto (I := iX10_is) (tgt := 25) dX10_is_16 (by decide) ?_
    exact v_iret (I := iX10_is) rfl dX10_is_25 (by
      unfold isS
      first
      | (rw [if_neg c7]; exact ⟨rfl, rfl, RR_err hR, FR.up (by decide)⟩)
      | (rw [if_pos c7, hzc]; exact ⟨by rw [hR.1], rfl, hR, FR.rf⟩))
set_option maxRecDepth 100000 in
set_option maxHeartbeats 4000000 in
theorem m_X9_nearest {G : fGm} {σ : fSt} {τ : fLt} {ρ : fSt} (hC : CR σ ρ)  : MS G iX9_nearest 3 [.ref 0] σ τ (rC τ σ (nearS ρ)) := by
  refine ms_of (by decide +kernel) (Nat.le_of_ble_eq_true rfl) ?_
  show VW _ _ _ _ _ _ 0 [(0, _)] []
  refine v_aload_n (I := iX9_nearest) dX9_nearest_0 rfl ?_
  refine v_get (I := iX9_nearest) g_X9_10 dX9_nearest_1 (by decide) (ae_0 _ _) rfl ?_
  refine v_get (I := iX9_nearest) g_X9_66 dX9_nearest_4 (by decide) (ae_w0 (by decide) _ _) rfl ?_
  refine v_aload_n (I := iX9_nearest) dX9_nearest_7 rfl ?_
  refine v_get (I := iX9_nearest) g_X9_10 dX9_nearest_8 (by decide) (ae_0 _ _) rfl ?_
  refine v_get (I := iX9_nearest) g_X9_114 dX9_nearest_11 (by decide) (ae_w0 (by decide) _ _) rfl ?_
  refine v_iconst (I := iX9_nearest) (v := 0) dX9_nearest_14 (by decide) ?_
  refine v_ialdN (I := iX9_nearest) (j := 0) (by decide) (by decide) (by decide) dX9_nearest_15 (by decide) (ae_w1 (by decide) _ _) ?_
  rw [V_child hC.1 (by decide)]
  refine v_callVi (I := iX9_nearest) (I' := iX3_nearestTo) lk_X9_117 c_X3_nearestTo dX9_nearest_16 (m_X3_nearestTo (by decide) hC.1 hC.2.2.2.2.2.1.1 rfl) rfl rfl (by decide) (ae_w2 (by decide) _ _) rfl (by decide) (by decide) (Nat.le_of_ble_eq_true rfl) ?_
  refine v_istore_n (I := iX9_nearest) (ls1 := [(1, _), (0, _)]) dX9_nearest_19 (by decide) rfl ?_
  refine v_iload_n (I := iX9_nearest) dX9_nearest_20 rfl ?_
  refine v_if_ge (I := iX9_nearest) (tgt := 32) dX9_nearest_21 (by decide) (fun c21 => ?_) (fun c21 => ?_)
  · cases hb : gNear (ρ 88) with
    | none => exact absurd c21 (by rw [hb]; decide)
    | some b =>
    refine v_iload_n (I := iX9_nearest) dX9_nearest_32 rfl ?_
    exact v_iret (I := iX9_nearest) rfl dX9_nearest_33 (by unfold nearS; rw [hb]; first | exact ⟨rfl, rfl, hC, FC.rf⟩ | exact ⟨rfl, rfl, CR_err hC (by decide) (by decide), FC.up (by decide)⟩)
  · cases hb : gNear (ρ 88) with
    | some b => exact absurd (by rw [hb]; exact nI_pos' (by have := gNear_lt hC.2.2.2.2.2.1.1 hb; omega)) c21
    | none =>
    refine v_aload_n (I := iX9_nearest) dX9_nearest_24 rfl ?_
    refine v_iconst (I := iX9_nearest) (v := 2) dX9_nearest_25 (by decide) ?_
    refine v_callVi (I := iX9_nearest) (I' := iX9_refused) lk_X9_62 c_X9_refused dX9_nearest_26 (m_X9_refused (e := 2) (by decide) (by decide) (by decide)) rfl rfl (by decide) (ae_0 _ _) rfl (by decide) (by decide) (Nat.le_of_ble_eq_true rfl) ?_
    refine v_goto (I := iX9_nearest) (tgt := 33) dX9_nearest_29 (by decide) ?_
    exact v_iret (I := iX9_nearest) rfl dX9_nearest_33 (by unfold nearS; rw [hb]; first | exact ⟨rfl, rfl, hC, FC.rf⟩ | exact ⟨rfl, rfl, CR_err hC (by decide) (by decide), FC.up (by decide)⟩)
set_option maxRecDepth 100000 in
set_option maxHeartbeats 4000000 in
theorem m_X10_nearest {G : fGm} {σ : fSt} {τ : fLt} {ρ : fSt} (hR : RR σ ρ)  : MS G iX10_nearest 3 [.ref 87] σ τ (rR τ σ (nearS ρ)) := by
  refine ms_of (by decide +kernel) (Nat.le_of_ble_eq_true rfl) ?_
  show VW _ _ _ _ _ _ 0 [(0, _)] []
  refine v_aload_n (I := iX10_nearest) dX10_nearest_0 rfl ?_
  refine v_callVi (I := iX10_nearest) (I' := iX10_nearestOf) lk_X10_120 c_X10_nearestOf dX10_nearest_1 (m_X10_nearestOf (by rw [hR.1]; exact hR.2.2.2.2.2.2.2.2.2.2.2.1.1)) rfl rfl (by decide) (ae_87 _ _) rfl (by decide) (by decide) (Nat.le_of_ble_eq_true rfl) ?_
  rw [hR.1]
  refine v_istore_n (I := iX10_nearest) (ls1 := [(1, _), (0, _)]) dX10_nearest_4 (by decide) rfl ?_
  refine v_iload_n (I := iX10_nearest) dX10_nearest_5 rfl ?_
  refine v_if_ge (I := iX10_nearest) (tgt := 18) dX10_nearest_6 (by decide) (fun c6 => ?_) (fun c6 => ?_)
  · cases hb : gNear (ρ 88) with
    | none => exact absurd c6 (by rw [hb]; decide)
    | some b =>
    refine v_iload_n (I := iX10_nearest) dX10_nearest_18 rfl ?_
    exact v_iret (I := iX10_nearest) rfl dX10_nearest_19 (by unfold nearS; rw [hb]; first | exact ⟨rfl, rfl, hR, FR.rf⟩ | exact ⟨rfl, rfl, RR_err hR, FR.up (by decide)⟩)
  · cases hb : gNear (ρ 88) with
    | some b => exact absurd (by rw [hb]; exact nI_pos' (by have := gNear_lt hR.2.2.2.2.2.2.2.2.2.2.2.1.1 hb; omega)) c6
    | none =>
    refine v_aload_n (I := iX10_nearest) dX10_nearest_9 rfl ?_
    refine v_ldc (I := iX10_nearest) k_X10_124 dX10_nearest_10 ?_
    refine v_callVi (I := iX10_nearest) (I' := iX10_finding) lk_X10_92 c_X10_finding dX10_nearest_12 (m_X10_findE (e := 2) (by decide) (by decide)) rfl rfl (by decide) (ae_87 _ _) rfl (by decide) (by decide) (Nat.le_of_ble_eq_true rfl) ?_
    refine v_goto (I := iX10_nearest) (tgt := 19) dX10_nearest_15 (by decide) ?_
    exact v_iret (I := iX10_nearest) rfl dX10_nearest_19 (by unfold nearS; rw [hb]; first | exact ⟨rfl, rfl, hR, FR.rf⟩ | exact ⟨rfl, rfl, RR_err hR, FR.up (by decide)⟩)
