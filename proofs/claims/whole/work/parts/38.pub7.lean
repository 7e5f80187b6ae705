def imgN (ρ : fSt) : fSt := up2 (va_up ρ 89 (ρ 88)) 87 3 (ρ 87 3 + 1)
def imageS (ρ : fSt) : Int32 × fSt := (ρ 87 3 + 1, imgN ρ)
theorem OKr_img {ρ : fSt} (h : OKr ρ) : OKr (imgN ρ) := ⟨h.1, fun _ => h.1, h.2.2.1, h.2.2.2.1, h.2.2.2.2.1, h.2.2.2.2.2⟩
theorem CR_img {σ s ρ : fSt} (h : CR σ ρ) (hB : Bec 1 0 σ s) : CR (up2 s 0 8 (s 0 8 + 1)) (imgN ρ) := by
  obtain ⟨h1, ⟨h2, h2'⟩, h3, h4, ⟨h5, h5'⟩, h6⟩ := h
  obtain ⟨b1, b2⟩ := hB
  have hk : ∀ k, k < 23 ∨ 45 ≤ k → s k = σ k := fun k hk => b2 k fun c hc => by unfold wc; omega
  have e : ∀ k, k ≠ 0 → up2 s 0 8 (s 0 8 + 1) k = s k := fun k hk => up2_kf _ _ _ hk
  refine ⟨V_fr h1 fun c hc => (e _ (by unfold wc; omega)).trans (hk _ (by unfold wc; omega)), ⟨?_, fun _ => V_fr (b1 _ h1) fun c hc => e _ (by unfold wc; omega)⟩, fun a b c => ?_, fun q hq => ?_, ⟨?_, fun j hj => ?_⟩, OKr_img h6⟩
  · rw [up2_s, hk 0 (by decide), h2]; exact (up2_s _ _ _ _).symm
  · rw [e 84 (by decide), hk 84 (by decide)]; exact h3 a b c
  · rw [e (sc q) (by unfold sc; omega), e (sc q + 1) (by unfold sc; omega), hk (sc q) (by unfold sc; omega), hk (sc q + 1) (by unfold sc; omega)]; exact h4 q hq
  · rw [e 85 (by decide), hk 85 (by decide)]; exact h5
  · rw [e 86 (by decide), hk 86 (by decide)]; exact h5' j hj
theorem RR_img {σ ρ : fSt} (h : RR σ ρ) : RR (up2 (va_up σ 89 (σ 88)) 87 3 (σ 87 3 + 1)) (imgN ρ) := by
  obtain ⟨h1, h2, h3, h4, h5, h6, h7, h8, h9, h10, h11, h12⟩ := h
  refine ⟨h1, h1, h3, h4, h5, h6, h7, h8, h9, ?_, h11, OKr_img h12⟩
  show σ 87 3 + 1 = ρ 87 3 + 1
  rw [h10]
def restS (ρ : fSt) : Int32 × fSt := if ρ 87 3 = 0 then (errV 2, errS ρ 2) else (ρ 89 13, rowS ρ (ρ 89))
def tenthsS (ρ : fSt) (n : Int32) : Int32 × fSt := if 1 ≤ n ∧ n ≤ 200 then (if ρ 88 15 = 0 then (errV 3, errS ρ 3) else (gTenths (ρ 88) n.toNatClampNeg 7, rowS ρ (gTenths (ρ 88) n.toNatClampNeg))) else (errV 1, errS ρ 1)
def thenS (ρ : fSt) (n w : Int32) : Int32 × fSt := if (0 ≤ n ∧ n ≤ 200) ∧ 0 ≤ w ∧ w ≤ 13 then (gTenths (ρ 88) n.toNatClampNeg w.toNatClampNeg, ρ) else (errV 1, errS ρ 1)
/-- what was put back: the row as it was -/
theorem RR_back {σ s ρ : fSt} (h : RR σ ρ) (h90 : s 90 = ρ 88) (he : ∀ k, k ≠ 88 → k ≠ 90 → k ≠ 96 → k ≠ 97 → s k = σ k) : RR (va_up s 88 (s 90)) ρ := by
  obtain ⟨h1, h2, h3, h4, h5, h6, h7, h8, h9, h10, h11, h12⟩ := h
  have e : ∀ k, k ≠ 88 → k ≠ 90 → k ≠ 96 → k ≠ 97 → va_up s 88 (s 90) k = σ k := fun k a b c d => (va_up_o _ _ a).trans (he k a b c d)
  exact ⟨(va_up_s _ _ _).trans h90, (e 89 (by decide) (by decide) (by decide) (by decide)).trans h2, (e 91 (by decide) (by decide) (by decide) (by decide)).trans h3, (e 92 (by decide) (by decide) (by decide) (by decide)).trans h4, (e 93 (by decide) (by decide) (by decide) (by decide)).trans h5, (e 100 (by decide) (by decide) (by decide) (by decide)).trans h6, (e 101 (by decide) (by decide) (by decide) (by decide)).trans h7, (e 102 (by decide) (by decide) (by decide) (by decide)).trans h8, (e 103 (by decide) (by decide) (by decide) (by decide)).trans h9, by rw [e 87 (by decide) (by decide) (by decide) (by decide)]; exact h10, by rw [e 87 (by decide) (by decide) (by decide) (by decide)]; exact h11, h12⟩
theorem FR_back {σ s : fSt} (he : ∀ k, k ≠ 88 → k ≠ 90 → k ≠ 96 → k ≠ 97 → s k = σ k) : FR σ (va_up s 88 (s 90)) := fun k hk => (va_up_o _ _ (by omega)).trans (he k (by omega) (by omega) (by omega) (by omega))
set_option maxRecDepth 100000 in
set_option maxHeartbeats 4000000 in
theorem m_X9_image {G : fGm} {σ : fSt} {τ : fLt} {ρ : fSt} (hC : CR σ ρ)  : MS G iX9_image 4 [.ref 0] σ τ (rC τ σ (imageS ρ)) := by
  refine ms_of (by decide +kernel) (Nat.le_of_ble_eq_true rfl) ?_
  show VW _ _ _ _ _ _ 0 [(0, _)] []
  refine v_aload_n (I := iX9_image) dX9_image_0 rfl ?_
  refine v_get (I := iX9_image) g_X9_16 dX9_image_1 (by decide) (ae_0 _ _) rfl ?_
  refine v_aload_n (I := iX9_image) dX9_image_4 rfl ?_
  refine v_get (I := iX9_image) g_X9_10 dX9_image_5 (by decide) (ae_0 _ _) rfl ?_
  refine v_callVvP (I := iX9_image) (I' := iX8_become) lk_X9_204 c_X8_become dX9_image_8 (m_X8_become_10) rfl rfl (by decide) (ae_w0 (by decide) _ _) rfl (by decide) (by decide) (Nat.le_of_ble_eq_true rfl) (fun s8 h8 => ?_)
  refine v_aload_n (I := iX9_image) dX9_image_11 rfl ?_
  refine v_dup (I := iX9_image) dX9_image_12 rfl ?_
  refine v_get (I := iX9_image) g_X9_53 dX9_image_13 (by decide) (ae_0 _ _) rfl ?_
  refine v_iconst (I := iX9_image) (v := 1) dX9_image_16 (by decide) ?_
  refine v_iadd (I := iX9_image) dX9_image_17 ?_
  refine v_putI (I := iX9_image) p_X9_53 dX9_image_18 (by decide) (ae_0 _ _) (ae_0 _ _) rfl rfl (by simp) ?_
  refine v_aload_n (I := iX9_image) dX9_image_21 rfl ?_
  refine v_get (I := iX9_image) g_X9_53 dX9_image_22 (by decide) (ae_0 _ _) rfl ?_
  exact v_iret (I := iX9_image) rfl dX9_image_25 ⟨by rw [up2_s, h8.2 0 (fun c hc => by unfold wc; omega), hC.2.1.1]; rfl, rfl, CR_img hC h8, (FrW.C (by decide) h8.2).tr (FC.up (by decide))⟩
set_option maxRecDepth 100000 in
set_option maxHeartbeats 4000000 in
theorem m_X10_image {G : fGm} {σ : fSt} {τ : fLt} {ρ : fSt} (hR : RR σ ρ)  : MS G iX10_image 4 [.ref 87] σ τ (rR τ σ (imageS ρ)) := by
  refine ms_of (by decide +kernel) (Nat.le_of_ble_eq_true rfl) ?_
  show VW _ _ _ _ _ _ 0 [(0, _)] []
  refine v_aload_n (I := iX10_image) dX10_image_0 rfl ?_
  refine v_get (I := iX10_image) g_X10_9 dX10_image_1 (by decide) (ae_87 _ _) rfl ?_
  refine v_aload_n (I := iX10_image) dX10_image_4 rfl ?_
  refine v_get (I := iX10_image) g_X10_13 dX10_image_5 (by decide) (ae_87 _ _) rfl ?_
  refine v_callSv (I := iX10_image) (I' := iX10_copy) lk_X10_83 c_X10_copy dX10_image_8 (m_X10_copy (by decide) (by decide) (ae_88) (ae_89) (by decide)) rfl rfl (by decide) (by decide) (Nat.le_of_ble_eq_true rfl) ?_
  refine v_aload_n (I := iX10_image) dX10_image_11 rfl ?_
  refine v_dup (I := iX10_image) dX10_image_12 rfl ?_
  refine v_get (I := iX10_image) g_X10_328 dX10_image_13 (by decide) (ae_87 _ _) rfl ?_
  refine v_iconst (I := iX10_image) (v := 1) dX10_image_16 (by decide) ?_
  refine v_iadd (I := iX10_image) dX10_image_17 ?_
  refine v_putI (I := iX10_image) p_X10_328 dX10_image_18 (by decide) (ae_87 _ _) (ae_87 _ _) rfl rfl (by simp) ?_
  refine v_aload_n (I := iX10_image) dX10_image_21 rfl ?_
  refine v_get (I := iX10_image) g_X10_328 dX10_image_22 (by decide) (ae_87 _ _) rfl ?_
  exact v_iret (I := iX10_image) rfl dX10_image_25 ⟨by rw [up2_s]; show some (Value.int (σ 87 3 + 1)) = _; rw [hR.2.2.2.2.2.2.2.2.2.1]; rfl, rfl, RR_img hR, (FR.va (by decide)).tr (FR.up (by decide))⟩
set_option maxRecDepth 100000 in
set_option maxHeartbeats 4000000 in
theorem m_X9_restore {G : fGm} {σ : fSt} {τ : fLt} {ρ : fSt} (hC : CR σ ρ)  : MS G iX9_restore 4 [.ref 0] σ τ (rC τ σ (restS ρ)) := by
  refine ms_of (by decide +kernel) (Nat.le_of_ble_eq_true rfl) ?_
  show VW _ _ _ _ _ _ 0 [(0, _)] []
  refine v_aload_n (I := iX9_restore) dX9_restore_0 rfl ?_
  refine v_get (I := iX9_restore) g_X9_53 dX9_restore_1 (by decide) (ae_0 _ _) rfl ?_
  rw [hC.2.1.1]
  refine v_if_ne (I := iX9_restore) (tgt := 13) dX9_restore_4 (by decide) (fun c4 => ?_) (fun c4 => ?_)
  · refine v_aload_n (I := iX9_restore) dX9_restore_13 rfl ?_
    refine v_get (I := iX9_restore) g_X9_10 dX9_restore_14 (by decide) (ae_0 _ _) rfl ?_
    refine v_aload_n (I := iX9_restore) dX9_restore_17 rfl ?_
    refine v_get (I := iX9_restore) g_X9_16 dX9_restore_18 (by decide) (ae_0 _ _) rfl ?_
    refine v_callVvP (I := iX9_restore) (I' := iX8_become) lk_X9_204 c_X8_become dX9_restore_21 (m_X8_become_01) rfl rfl (by decide) (ae_w0 (by decide) _ _) rfl (by decide) (by decide) (Nat.le_of_ble_eq_true rfl) (fun s21 h21 => ?_)
    refine v_aload_n (I := iX9_restore) dX9_restore_24 rfl ?_
    refine v_get (I := iX9_restore) g_X9_10 dX9_restore_25 (by decide) (ae_0 _ _) rfl ?_
    refine v_get (I := iX9_restore) g_X9_114 dX9_restore_28 (by decide) (ae_w0 (by decide) _ _) rfl ?_
    refine v_bipush (I := iX9_restore) (v := 13) dX9_restore_31 (by decide) ?_
    refine v_ialdN (I := iX9_restore) (j := 13) (by decide) (by decide) (by decide) dX9_restore_33 (by decide) (ae_w1 (by decide) _ _) ?_
    rw [V_child (h21.1 _ (hC.2.1.2 c4)) (by decide)]
    exact v_iret (I := iX9_restore) rfl dX9_restore_34 (by unfold restS; rw [if_neg c4]; exact ⟨rfl, rfl, CR_row hC (h21.1 _ (hC.2.1.2 c4)) h21.2 (hC.2.2.2.2.2.2.1 c4), FrW.C (by decide) h21.2⟩)
  · refine v_aload_n (I := iX9_restore) dX9_restore_7 rfl ?_
    refine v_iconst (I := iX9_restore) (v := 2) dX9_restore_8 (by decide) ?_
    refine v_callVi (I := iX9_restore) (I' := iX9_refused) lk_X9_62 c_X9_refused dX9_restore_9 (m_X9_refused (e := 2) (by decide) (by decide) (by decide)) rfl rfl (by decide) (ae_0 _ _) rfl (by decide) (by decide) (Nat.le_of_ble_eq_true rfl) ?_
    exact v_iret (I := iX9_restore) rfl dX9_restore_12 (by unfold restS; rw [if_pos c4]; exact ⟨rfl, rfl, CR_err hC (by decide) (by decide), FC.up (by decide)⟩)
set_option maxRecDepth 100000 in
set_option maxHeartbeats 4000000 in
theorem m_X10_restore {G : fGm} {σ : fSt} {τ : fLt} {ρ : fSt} (hR : RR σ ρ)  : MS G iX10_restore 4 [.ref 87] σ τ (rR τ σ (restS ρ)) := by
  refine ms_of (by decide +kernel) (Nat.le_of_ble_eq_true rfl) ?_
  show VW _ _ _ _ _ _ 0 [(0, _)] []
  refine v_aload_n (I := iX10_restore) dX10_restore_0 rfl ?_
  refine v_get (I := iX10_restore) g_X10_328 dX10_restore_1 (by decide) (ae_87 _ _) rfl ?_
  rw [hR.2.2.2.2.2.2.2.2.2.1]
  refine v_if_ne (I := iX10_restore) (tgt := 14) dX10_restore_4 (by decide) (fun c4 => ?_) (fun c4 => ?_)
  · refine v_aload_n (I := iX10_restore) dX10_restore_14 rfl ?_
    refine v_get (I := iX10_restore) g_X10_13 dX10_restore_15 (by decide) (ae_87 _ _) rfl ?_
    refine v_aload_n (I := iX10_restore) dX10_restore_18 rfl ?_
    refine v_get (I := iX10_restore) g_X10_9 dX10_restore_19 (by decide) (ae_87 _ _) rfl ?_
    refine v_callSv (I := iX10_restore) (I' := iX10_copy) lk_X10_83 c_X10_copy dX10_restore_22 (m_X10_copy (by decide) (by decide) (ae_89) (ae_88) (by decide)) rfl rfl (by decide) (by decide) (Nat.le_of_ble_eq_true rfl) ?_
    refine v_aload_n (I := iX10_restore) dX10_restore_25 rfl ?_
    refine v_get (I := iX10_restore) g_X10_9 dX10_restore_26 (by decide) (ae_87 _ _) rfl ?_
    refine v_bipush (I := iX10_restore) (v := 13) dX10_restore_29 (by decide) ?_
    refine v_ialdN (I := iX10_restore) (j := 13) (by decide) (by decide) (by decide) dX10_restore_31 (by decide) (ae_88 _ _) ?_
    exact v_iret (I := iX10_restore) rfl dX10_restore_32 (by unfold restS; rw [if_neg c4]; exact ⟨by rw [va_up_s, hR.2.1], rfl, by rw [hR.2.1]; exact RR_row hR (hR.2.2.2.2.2.2.2.2.2.2.2.2.1 c4), FR.va (by decide)⟩)
  · refine v_aload_n (I := iX10_restore) dX10_restore_7 rfl ?_
    refine v_ldc (I := iX10_restore) k_X10_124 dX10_restore_8 ?_
    refine v_callVi (I := iX10_restore) (I' := iX10_finding) lk_X10_92 c_X10_finding dX10_restore_10 (m_X10_findE (e := 2) (by decide) (by decide)) rfl rfl (by decide) (ae_87 _ _) rfl (by decide) (by decide) (Nat.le_of_ble_eq_true rfl) ?_
    exact v_iret (I := iX10_restore) rfl dX10_restore_13 (by unfold restS; rw [if_pos c4]; exact ⟨rfl, rfl, RR_err hR, FR.up (by decide)⟩)
set_option maxRecDepth 100000 in
set_option maxHeartbeats 4000000 in
theorem m_X9_tenths {G : fGm} {σ : fSt} {τ : fLt} {ρ : fSt} (hC : CR σ ρ) {n : Int32} : MS G iX9_tenths 8 [.ref 0, .int n] σ τ (rC τ σ (tenthsS ρ n)) := by
  refine ms_of (by decide +kernel) (Nat.le_of_ble_eq_true rfl) ?_
  show VW _ _ _ _ _ _ 0 [(0, _), (1, _)] []
  refine v_iload_n (I := iX9_tenths) dX9_tenths_0 rfl ?_
  refine v_iconst (I := iX9_tenths) (v := 1) dX9_tenths_1 (by decide) ?_
  refine v_sipush (I := iX9_tenths) (v := 200) dX9_tenths_2 (by decide) ?_
  refine v_callSi (I := iX9_tenths) (I' := iX9_within) lk_X9_58 c_X9_within dX9_tenths_5 (m_X9_within) rfl rfl (by decide) (by decide) (Nat.le_of_ble_eq_true rfl) ?_
  refine v_if_neB (I := iX9_tenths) (tgt := 17) dX9_tenths_8 (by decide) (fun c8 => ?_) (fun c8 => ?_)
  · refine v_aload_n (I := iX9_tenths) dX9_tenths_17 rfl ?_
    refine v_get (I := iX9_tenths) g_X9_10 dX9_tenths_18 (by decide) (ae_0 _ _) rfl ?_
    refine v_get (I := iX9_tenths) g_X9_120 dX9_tenths_21 (by decide) (ae_w0 (by decide) _ _) rfl ?_
    refine v_get (I := iX9_tenths) g_X9_124 dX9_tenths_24 (by decide) (ae_w8 (by decide) _ _) rfl ?_
    rw [V_n15 hC.1]
    refine v_if_ne (I := iX9_tenths) (tgt := 36) dX9_tenths_27 (by decide) (fun c27 => ?_) (fun c27 => ?_)
    · obtain ⟨q, hq, hqx⟩ : ∃ q, q < 201 ∧ n = nI q := in2_nI (by decide) ⟨by grind, by show n < 201; grind⟩
      have hqc : n.toNatClampNeg = q := by rw [hqx]; exact nI_clamp (by omega)
      refine v_aload_n (I := iX9_tenths) dX9_tenths_36 rfl ?_
      refine v_get (I := iX9_tenths) g_X9_10 dX9_tenths_37 (by decide) (ae_0 _ _) rfl ?_
      refine v_iload_n (I := iX9_tenths) dX9_tenths_40 rfl ?_
      refine v_callVvP (I := iX9_tenths) (I' := iX8_pass) lk_X9_198 c_X8_pass dX9_tenths_41 (m_X8_pass (by decide) hC.1 hC.2.2.2.2.2.1 hqx (by omega)) rfl rfl (by decide) (ae_w0 (by decide) _ _) rfl (by decide) (by decide) (Nat.le_of_ble_eq_true rfl) (fun s41 h41 => ?_)
      refine v_aload_n (I := iX9_tenths) dX9_tenths_44 rfl ?_
      refine v_get (I := iX9_tenths) g_X9_10 dX9_tenths_45 (by decide) (ae_0 _ _) rfl ?_
      refine v_get (I := iX9_tenths) g_X9_114 dX9_tenths_48 (by decide) (ae_w0 (by decide) _ _) rfl ?_
      refine v_bipush (I := iX9_tenths) (v := 7) dX9_tenths_51 (by decide) ?_
      refine v_ialdN (I := iX9_tenths) (j := 7) (by decide) (by decide) (by decide) dX9_tenths_53 (by decide) (ae_w1 (by decide) _ _) ?_
      rw [V_child h41.1 (by decide)]
      exact v_iret (I := iX9_tenths) rfl dX9_tenths_54 (by unfold tenthsS; rw [if_pos (by grind), if_neg c27, hqc]; exact ⟨rfl, rfl, CR_row hC h41.1 h41.2 (IV_tenths q hC.2.2.2.2.2.1), FrW.C (by decide) h41.2⟩)
    · refine v_aload_n (I := iX9_tenths) dX9_tenths_30 rfl ?_
      refine v_iconst (I := iX9_tenths) (v := 3) dX9_tenths_31 (by decide) ?_
      refine v_callVi (I := iX9_tenths) (I' := iX9_refused) lk_X9_62 c_X9_refused dX9_tenths_32 (m_X9_refused (e := 3) (by decide) (by decide) (by decide)) rfl rfl (by decide) (ae_0 _ _) rfl (by decide) (by decide) (Nat.le_of_ble_eq_true rfl) ?_
      exact v_iret (I := iX9_tenths) rfl dX9_tenths_35 (by unfold tenthsS; rw [if_pos (by grind), if_pos c27]; exact ⟨rfl, rfl, CR_err hC (by decide) (by decide), FC.up (by decide)⟩)
  · refine v_aload_n (I := iX9_tenths) dX9_tenths_11 rfl ?_
    refine v_iconst (I := iX9_tenths) (v := 1) dX9_tenths_12 (by decide) ?_
    refine v_callVi (I := iX9_tenths) (I' := iX9_refused) lk_X9_62 c_X9_refused dX9_tenths_13 (m_X9_refused (e := 1) (by decide) (by decide) (by decide)) rfl rfl (by decide) (ae_0 _ _) rfl (by decide) (by decide) (Nat.le_of_ble_eq_true rfl) ?_
    exact v_iret (I := iX9_tenths) rfl dX9_tenths_16 (by unfold tenthsS; rw [if_neg (by grind)]; exact ⟨rfl, rfl, CR_err hC (by decide) (by decide), FC.up (by decide)⟩)
theorem RR_tg {σ s ρ : fSt} {g : gS} (h : RR σ ρ) (h88 : s 88 = g) (hF : FrT σ s) (hg : IV g) : RR s (rowS ρ g) := by
  obtain ⟨h1, h2, h3, h4, h5, h6, h7, h8, h9, h10, h11, h12⟩ := h
  have e : ∀ k, k ≠ 88 → k ≠ 96 → k ≠ 97 → s k = σ k := hF
  exact ⟨h88, (e 89 (by decide) (by decide) (by decide)).trans h2, (e 91 (by decide) (by decide) (by decide)).trans h3, (e 92 (by decide) (by decide) (by decide)).trans h4, (e 93 (by decide) (by decide) (by decide)).trans h5, (e 100 (by decide) (by decide) (by decide)).trans h6, (e 101 (by decide) (by decide) (by decide)).trans h7, (e 102 (by decide) (by decide) (by decide)).trans h8, (e 103 (by decide) (by decide) (by decide)).trans h9, by rw [e 87 (by decide) (by decide) (by decide)]; exact h10, by rw [e 87 (by decide) (by decide) (by decide)]; exact h11, OKr_row h12 hg⟩
set_option maxRecDepth 100000 in
set_option maxHeartbeats 4000000 in
theorem m_X10_tenths {G : fGm} {σ : fSt} {τ : fLt} {ρ : fSt} (hR : RR σ ρ) {n : Int32} : MS G iX10_tenths 8 [.ref 87, .int n] σ τ (rR τ σ (tenthsS ρ n)) := by
  refine ms_of (by decide +kernel) (Nat.le_of_ble_eq_true rfl) ?_
  show VW _ _ _ _ _ _ 0 [(0, _), (1, _)] []
  refine v_iload_n (I := iX10_tenths) dX10_tenths_0 rfl ?_
  refine v_iconst (I := iX10_tenths) (v := 1) dX10_tenths_1 (by decide) ?_
  refine v_sipush (I := iX10_tenths) (v := 200) dX10_tenths_2 (by decide) ?_
  refine v_callSi (I := iX10_tenths) (I' := iX10_within) lk_X10_79 c_X10_within dX10_tenths_5 (m_X10_within) rfl rfl (by decide) (by decide) (Nat.le_of_ble_eq_true rfl) ?_
  refine v_if_neB (I := iX10_tenths) (tgt := 18) dX10_tenths_8 (by decide) (fun c8 => ?_) (fun c8 => ?_)
  · refine v_aload_n (I := iX10_tenths) dX10_tenths_18 rfl ?_
    refine v_get (I := iX10_tenths) g_X10_9 dX10_tenths_19 (by decide) (ae_87 _ _) rfl ?_
    refine v_bipush (I := iX10_tenths) (v := 15) dX10_tenths_22 (by decide) ?_
    refine v_ialdN (I := iX10_tenths) (j := 15) (by decide) (by decide) (by decide) dX10_tenths_24 (by decide) (ae_88 _ _) ?_
    rw [hR.1]
    refine v_if_ne (I := iX10_tenths) (tgt := 36) dX10_tenths_25 (by decide) (fun c25 => ?_) (fun c25 => ?_)
    · obtain ⟨q, hq, hqx⟩ : ∃ q, q < 201 ∧ n = nI q := in2_nI (by decide) ⟨by grind, by show n < 201; grind⟩
      have hqc : n.toNatClampNeg = q := by rw [hqx]; exact nI_clamp (by omega)
      refine v_aload_n (I := iX10_tenths) dX10_tenths_36 rfl ?_
      refine v_iload_n (I := iX10_tenths) dX10_tenths_37 rfl ?_
      refine v_callVvP (I := iX10_tenths) (I' := iX10_tenthsGo) lk_X10_261 c_X10_tenthsGo dX10_tenths_38 (m_X10_tenthsGo (by rw [hR.1]; exact hR.2.2.2.2.2.2.2.2.2.2.2.1) hqx (by omega)) rfl rfl (by decide) (ae_87 _ _) rfl (by decide) (by decide) (Nat.le_of_ble_eq_true rfl) (fun s38 h38 => ?_)
      refine v_aload_n (I := iX10_tenths) dX10_tenths_41 rfl ?_
      refine v_get (I := iX10_tenths) g_X10_9 dX10_tenths_42 (by decide) (ae_87 _ _) rfl ?_
      refine v_bipush (I := iX10_tenths) (v := 7) dX10_tenths_45 (by decide) ?_
      refine v_ialdN (I := iX10_tenths) (j := 7) (by decide) (by decide) (by decide) dX10_tenths_47 (by decide) (ae_88 _ _) ?_
      exact v_iret (I := iX10_tenths) rfl dX10_tenths_48 (by unfold tenthsS; rw [if_pos (by grind), if_neg c25, hqc]; exact ⟨by rw [h38.1, hR.1], rfl, RR_tg hR (by rw [h38.1, hR.1]) h38.2 (IV_tenths q hR.2.2.2.2.2.2.2.2.2.2.2.1), h38.2.R⟩)
    · refine v_aload_n (I := iX10_tenths) dX10_tenths_28 rfl ?_
      refine v_ldcw (I := iX10_tenths) k_X10_260 dX10_tenths_29 ?_
      refine v_callVi (I := iX10_tenths) (I' := iX10_finding) lk_X10_92 c_X10_finding dX10_tenths_32 (m_X10_findE (e := 3) (by decide) (by decide)) rfl rfl (by decide) (ae_87 _ _) rfl (by decide) (by decide) (Nat.le_of_ble_eq_true rfl) ?_
      exact v_iret (I := iX10_tenths) rfl dX10_tenths_35 (by unfold tenthsS; rw [if_pos (by grind), if_pos c25]; exact ⟨rfl, rfl, RR_err hR, FR.up (by decide)⟩)
  · refine v_aload_n (I := iX10_tenths) dX10_tenths_11 rfl ?_
    refine v_ldc (I := iX10_tenths) k_X10_91 dX10_tenths_12 ?_
    refine v_callVi (I := iX10_tenths) (I' := iX10_finding) lk_X10_92 c_X10_finding dX10_tenths_14 (m_X10_findE (e := 1) (by decide) (by decide)) rfl rfl (by decide) (ae_87 _ _) rfl (by decide) (by decide) (Nat.le_of_ble_eq_true rfl) ?_
    exact v_iret (I := iX10_tenths) rfl dX10_tenths_17 (by unfold tenthsS; rw [if_neg (by grind)]; exact ⟨rfl, rfl, RR_err hR, FR.up (by decide)⟩)
set_option maxRecDepth 100000 in
set_option maxHeartbeats 4000000 in
theorem m_X10_isAhead {G : fGm} {σ : fSt} {τ : fLt} {n : Int32} : MS G iX10_isAhead 1 [.int n] σ τ (rT (some (.int (if 0 ≤ n ∧ n ≤ 200 then 1 else 0))) σ τ) := by
  refine ms_of (by decide +kernel) (Nat.le_of_ble_eq_true rfl) ?_
  show VW _ _ _ _ _ _ 0 [(0, _)] []
  refine v_iload_n (I := iX10_isAhead) dX10_isAhead_0 rfl ?_
  refine v_iconst (I := iX10_isAhead) (v := 0) dX10_isAhead_1 (by decide) ?_
  refine v_sipush (I := iX10_isAhead) (v := 200) dX10_isAhead_2 (by decide) ?_
  refine v_callSi (I := iX10_isAhead) (I' := iX10_within) lk_X10_79 c_X10_within dX10_isAhead_5 (m_X10_within) rfl rfl (by decide) (by decide) (Nat.le_of_ble_eq_true rfl) ?_
  exact v_zret (I := iX10_isAhead) rfl nar_b dX10_isAhead_8 ⟨by first | rfl | (simp only [*]; done) | (simp [*]; done), rfl, rfl⟩
set_option maxRecDepth 100000 in
set_option maxHeartbeats 4000000 in
theorem m_X9_then {G : fGm} {σ : fSt} {τ : fLt} {ρ : fSt} (hC : CR σ ρ) {n w : Int32} : MS G iX9_then 8 [.ref 0, .int n, .int w] σ τ (rC τ σ (thenS ρ n w)) := by
  refine ms_of (by decide +kernel) (Nat.le_of_ble_eq_true rfl) ?_
  show VW _ _ _ _ _ _ 0 [(0, _), (1, _), (2, _)] []
  refine v_iload_n (I := iX9_then) dX9_then_0 rfl ?_
  refine v_iconst (I := iX9_then) (v := 0) dX9_then_1 (by decide) ?_
  refine v_sipush (I := iX9_then) (v := 200) dX9_then_2 (by decide) ?_
  refine v_callSi (I := iX9_then) (I' := iX9_within) lk_X9_58 c_X9_within dX9_then_5 (m_X9_within) rfl rfl (by decide) (by decide) (Nat.le_of_ble_eq_true rfl) ?_
  refine v_if_eqB (I := iX9_then) (tgt := 21) dX9_then_8 (by decide) (fun c8 => ?_) (fun c8 => ?_)
  · refine v_aload_n (I := iX9_then) dX9_then_21 rfl ?_
    refine v_iconst (I := iX9_then) (v := 1) dX9_then_22 (by decide) ?_
    refine v_callVi (I := iX9_then) (I' := iX9_refused) lk_X9_62 c_X9_refused dX9_then_23 (m_X9_refused (e := 1) (by decide) (by decide) (by decide)) rfl rfl (by decide) (ae_0 _ _) rfl (by decide) (by decide) (Nat.le_of_ble_eq_true rfl) ?_
    exact v_iret (I := iX9_then) rfl dX9_then_26 (by unfold thenS; rw [if_neg (by grind)]; exact ⟨rfl, rfl, CR_err hC (by decide) (by decide), FC.up (by decide)⟩)
  · refine v_iload_n (I := iX9_then) dX9_then_11 rfl ?_
    refine v_iconst (I := iX9_then) (v := 0) dX9_then_12 (by decide) ?_
    refine v_bipush (I := iX9_then) (v := 13) dX9_then_13 (by decide) ?_
    refine v_callSi (I := iX9_then) (I' := iX9_within) lk_X9_58 c_X9_within dX9_then_15 (m_X9_within) rfl rfl (by decide) (by decide) (Nat.le_of_ble_eq_true rfl) ?_
    refine v_if_neB (I := iX9_then) (tgt := 27) dX9_then_18 (by decide) (fun c18 => ?_) (fun c18 => ?_)
    · obtain ⟨q, hq, hqx⟩ : ∃ q, q < 201 ∧ n = nI q := in2_nI (by decide) ⟨by grind, by show n < 201; grind⟩
      have hqc : n.toNatClampNeg = q := by rw [hqx]; exact nI_clamp (by omega)
      obtain ⟨z, hz, hzx⟩ : ∃ z, z < 14 ∧ w = nI z := in2_nI (by decide) ⟨by grind, by show w < 14; grind⟩
      have hzc : w.toNatClampNeg = z := by rw [hzx]; exact nI_clamp (by omega)
      refine v_aload_n (I := iX9_then) dX9_then_27 rfl ?_
      refine v_get (I := iX9_then) g_X9_19 dX9_then_28 (by decide) (ae_0 _ _) rfl ?_
      refine v_aload_n (I := iX9_then) dX9_then_31 rfl ?_
      refine v_get (I := iX9_then) g_X9_10 dX9_then_32 (by decide) (ae_0 _ _) rfl ?_
      refine v_callVvP (I := iX9_then) (I' := iX8_become) lk_X9_204 c_X8_become dX9_then_35 (m_X8_become_20) rfl rfl (by decide) (ae_w0 (by decide) _ _) rfl (by decide) (by decide) (Nat.le_of_ble_eq_true rfl) (fun s35 h35 => ?_)
      refine v_aload_n (I := iX9_then) dX9_then_38 rfl ?_
      refine v_get (I := iX9_then) g_X9_19 dX9_then_39 (by decide) (ae_0 _ _) rfl ?_
      refine v_iload_n (I := iX9_then) dX9_then_42 rfl ?_
      refine v_callVvP (I := iX9_then) (I' := iX8_pass) lk_X9_198 c_X8_pass dX9_then_43 (m_X8_pass (by decide) (h35.1 _ hC.1) hC.2.2.2.2.2.1 hqx (by omega)) rfl rfl (by decide) (ae_w0 (by decide) _ _) rfl (by decide) (by decide) (Nat.le_of_ble_eq_true rfl) (fun s43 h43 => ?_)
      refine v_aload_n (I := iX9_then) dX9_then_46 rfl ?_
      refine v_get (I := iX9_then) g_X9_19 dX9_then_47 (by decide) (ae_0 _ _) rfl ?_
      refine v_get (I := iX9_then) g_X9_114 dX9_then_50 (by decide) (ae_w0 (by decide) _ _) rfl ?_
      refine v_iload_n (I := iX9_then) dX9_then_53 rfl ?_
      refine v_callSi (I := iX9_then) (I' := iX9_at) lk_X9_104 c_X9_at dX9_then_54 (m_X9_at (by decide) (ae_w1 (by decide)) (by decide)) rfl rfl (by decide) (by decide) (Nat.le_of_ble_eq_true rfl) ?_
      rw [rdA_eq hzx (by omega) (by decide), V_child h43.1 hz]
      exact v_iret (I := iX9_then) rfl dX9_then_57 (by unfold thenS; rw [if_pos (by grind), hqc, hzc]; exact ⟨rfl, rfl, CR_ahead hC (h35.2.tr h43.2), FrW.C (by decide) (h35.2.tr h43.2)⟩)
    · refine v_aload_n (I := iX9_then) dX9_then_21 rfl ?_
      refine v_iconst (I := iX9_then) (v := 1) dX9_then_22 (by decide) ?_
      refine v_callVi (I := iX9_then) (I' := iX9_refused) lk_X9_62 c_X9_refused dX9_then_23 (m_X9_refused (e := 1) (by decide) (by decide) (by decide)) rfl rfl (by decide) (ae_0 _ _) rfl (by decide) (by decide) (Nat.le_of_ble_eq_true rfl) ?_
      exact v_iret (I := iX9_then) rfl dX9_then_26 (by unfold thenS; rw [if_neg (by grind)]; exact ⟨rfl, rfl, CR_err hC (by decide) (by decide), FC.up (by decide)⟩)
set_option maxRecDepth 100000 in
set_option maxHeartbeats 4000000 in
theorem m_X10_then {G : fGm} {σ : fSt} {τ : fLt} {ρ : fSt} (hR : RR σ ρ) {n w : Int32} : MS G iX10_then 8 [.ref 87, .int n, .int w] σ τ (rR τ σ (thenS ρ n w)) := by
  refine ms_of (by decide +kernel) (Nat.le_of_ble_eq_true rfl) ?_
  show VW _ _ _ _ _ _ 0 [(0, _), (1, _), (2, _)] []
  refine v_iload_n (I := iX10_then) dX10_then_0 rfl ?_
  refine v_callSi (I := iX10_then) (I' := iX10_isAhead) lk_X10_264 c_X10_isAhead dX10_then_1 (m_X10_isAhead) rfl rfl (by decide) (by decide) (Nat.le_of_ble_eq_true rfl) ?_
  refine v_if_eqB (I := iX10_then) (tgt := 17) dX10_then_4 (by decide) (fun c4 => ?_) (fun c4 => ?_)
  · refine v_aload_n (I := iX10_then) dX10_then_17 rfl ?_
    refine v_ldc (I := iX10_then) k_X10_91 dX10_then_18 ?_
    refine v_callVi (I := iX10_then) (I' := iX10_finding) lk_X10_92 c_X10_finding dX10_then_20 (m_X10_findE (e := 1) (by decide) (by decide)) rfl rfl (by decide) (ae_87 _ _) rfl (by decide) (by decide) (Nat.le_of_ble_eq_true rfl) ?_
    exact v_iret (I := iX10_then) rfl dX10_then_23 (by unfold thenS; rw [if_neg (by grind)]; exact ⟨rfl, rfl, RR_err hR, FR.up (by decide)⟩)
  · refine v_iload_n (I := iX10_then) dX10_then_7 rfl ?_
    refine v_iconst (I := iX10_then) (v := 0) dX10_then_8 (by decide) ?_
    refine v_bipush (I := iX10_then) (v := 13) dX10_then_9 (by decide) ?_
    refine v_callSi (I := iX10_then) (I' := iX10_within) lk_X10_79 c_X10_within dX10_then_11 (m_X10_within) rfl rfl (by decide) (by decide) (Nat.le_of_ble_eq_true rfl) ?_
    refine v_if_neB (I := iX10_then) (tgt := 24) dX10_then_14 (by decide) (fun c14 => ?_) (fun c14 => ?_)
    · obtain ⟨q, hq, hqx⟩ : ∃ q, q < 201 ∧ n = nI q := in2_nI (by decide) ⟨by grind, by show n < 201; grind⟩
      have hqc : n.toNatClampNeg = q := by rw [hqx]; exact nI_clamp (by omega)
      obtain ⟨z, hz, hzx⟩ : ∃ z, z < 14 ∧ w = nI z := in2_nI (by decide) ⟨by grind, by show w < 14; grind⟩
      have hzc : w.toNatClampNeg = z := by rw [hzx]; exact nI_clamp (by omega)
      refine v_aload_n (I := iX10_then) dX10_then_24 rfl ?_
      refine v_get (I := iX10_then) g_X10_9 dX10_then_25 (by decide) (ae_87 _ _) rfl ?_
      refine v_aload_n (I := iX10_then) dX10_then_28 rfl ?_
      refine v_get (I := iX10_then) g_X10_16 dX10_then_29 (by decide) (ae_87 _ _) rfl ?_
      refine v_callSv (I := iX10_then) (I' := iX10_copy) lk_X10_83 c_X10_copy dX10_then_32 (m_X10_copy (by decide) (by decide) (ae_88) (ae_90) (by decide)) rfl rfl (by decide) (by decide) (Nat.le_of_ble_eq_true rfl) ?_
      refine v_aload_n (I := iX10_then) dX10_then_35 rfl ?_
      refine v_iload_n (I := iX10_then) dX10_then_36 rfl ?_
      refine v_callVvP (I := iX10_then) (I' := iX10_tenthsGo) lk_X10_261 c_X10_tenthsGo dX10_then_37 (m_X10_tenthsGo (by show IV (σ 88); rw [hR.1]; exact hR.2.2.2.2.2.2.2.2.2.2.2.1) hqx (by omega)) rfl rfl (by decide) (ae_87 _ _) rfl (by decide) (by decide) (Nat.le_of_ble_eq_true rfl) (fun s37 h37 => ?_)
      refine v_aload_n (I := iX10_then) dX10_then_40 rfl ?_
      refine v_aload_n (I := iX10_then) dX10_then_41 rfl ?_
      refine v_get (I := iX10_then) g_X10_9 dX10_then_42 (by decide) (ae_87 _ _) rfl ?_
      refine v_iload_n (I := iX10_then) dX10_then_45 rfl ?_
      refine v_ialdN (I := iX10_then) (j := z) hzx (by omega) (by decide) dX10_then_46 (by decide) (ae_88 _ _) ?_
      refine v_callVi (I := iX10_then) (I' := iX10_putBack) lk_X10_267 c_X10_putBack dX10_then_47 (m_X10_putBack) rfl rfl (by decide) (ae_87 _ _) rfl (by decide) (by decide) (Nat.le_of_ble_eq_true rfl) ?_
      exact v_iret (I := iX10_then) rfl dX10_then_50 (by
      unfold thenS
      rw [if_pos (by grind), hqc, hzc]
      have he : ∀ k, k ≠ 88 → k ≠ 90 → k ≠ 96 → k ≠ 97 → s37 k = σ k := fun k a b c e => (h37.2 k a c e).trans (va_up_o _ _ b)
      exact ⟨by rw [h37.1]; show some (Value.int (gTenths (σ 88) q z)) = _; rw [hR.1], rfl, RR_back hR ((h37.2 90 (by decide) (by decide) (by decide)).trans hR.1) he, FR_back he⟩)
    · refine v_aload_n (I := iX10_then) dX10_then_17 rfl ?_
      refine v_ldc (I := iX10_then) k_X10_91 dX10_then_18 ?_
      refine v_callVi (I := iX10_then) (I' := iX10_finding) lk_X10_92 c_X10_finding dX10_then_20 (m_X10_findE (e := 1) (by decide) (by decide)) rfl rfl (by decide) (ae_87 _ _) rfl (by decide) (by decide) (Nat.le_of_ble_eq_true rfl) ?_
      exact v_iret (I := iX10_then) rfl dX10_then_23 (by unfold thenS; rw [if_neg (by grind)]; exact ⟨rfl, rfl, RR_err hR, FR.up (by decide)⟩)
