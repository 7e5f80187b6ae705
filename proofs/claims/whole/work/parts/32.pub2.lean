theorem nI8 {x : Int32} (h : 0 ≤ x ∧ x ≤ 7) : ∃ q, q < 8 ∧ x = nI q := in2_nI (by decide) ⟨h.1, by have := h.2; show x < 8; grind⟩
theorem B_n14 {g : gS} (hB : B g) : 0 ≤ g 14 ∧ g 14 ≤ 8 := hB 14 (by decide)
theorem B_n15 {g : gS} (hB : B g) : 0 ≤ g 15 ∧ g 15 ≤ 8 := hB 15 (by decide)
theorem IV_stand {g : gS} {n : Nat} {c h : Int32} (hg : IV g) (hn : g 14 = nI n) (hn8 : n < 8) (hc : 0 ≤ c ∧ c ≤ 99) (hh : 0 ≤ h ∧ h ≤ 99) : IV (gStand g n c h) := by
  have b := bnd_hold n hn8
  unfold gStand
  refine IV_up (IV_up (IV_up (IV_up hg ⟨by omega, by omega, by omega, by omega, fun j hj => by omega⟩ (by rw [b.1]; exact hc)) ⟨by omega, by omega, by omega, by omega, fun j hj => by omega⟩ (by rw [b.2.1]; exact hh)) ⟨by omega, by omega, by omega, by omega, fun j hj => by omega⟩ (by rw [b.2.2]; exact ⟨by decide, by decide⟩)) ⟨by decide, by decide, by decide, by decide, fun j hj => by omega⟩ ?_
  show (0 : Int32) ≤ _ ∧ _ ≤ (8 : Int32)
  rw [hn, nI_1]
  exact ⟨nI_pos' (by omega), nI_le (b := 8) (by omega) (by decide)⟩
set_option maxRecDepth 100000 in
set_option maxHeartbeats 4000000 in
theorem m_X3_add {G : fGm} {σ : fSt} {τ : fLt} {w n : Nat} {g : gS} {c h : Int32} (hw : w < 3) (hV : V w σ g) (hn : g 14 = nI n) (hn8 : n < 8) : MS G iX3_add 1 [.ref (wc w 2), .int c, .int h] σ τ (rW (some (.int (g 14))) τ w σ (gStand g n c h)) := by
  refine ms_of (by decide +kernel) (Nat.le_of_ble_eq_true rfl) ?_
  show VW _ _ _ _ _ _ 0 [(0, _), (1, _), (2, _)] []
  refine v_aload_n (I := iX3_add) dX3_add_0 rfl ?_
  refine v_get (I := iX3_add) g_X3_27 dX3_add_1 (wc_lt hw (by decide)) (ae_w2 hw _ _) rfl ?_
  rw [V_n14 hV]
  refine v_istore_n (I := iX3_add) (ls1 := [(3, _), (0, _), (1, _), (2, _)]) dX3_add_4 (by decide) rfl ?_
  refine v_aload_n (I := iX3_add) dX3_add_5 rfl ?_
  refine v_get (I := iX3_add) g_X3_18 dX3_add_6 (wc_lt hw (by decide)) (ae_w2 hw _ _) rfl ?_
  refine v_iload_n (I := iX3_add) dX3_add_9 rfl ?_
  refine v_iload_n (I := iX3_add) dX3_add_10 rfl ?_
  refine v_callSi (I := iX3_add) (I' := iX9_exchange) lk_X3_39 c_X9_exchange dX3_add_11 (m_X9_exchange (wc_lt hw (by decide)) (ae_w5 hw) (by decide)) rfl rfl (by decide) (by decide) (Nat.le_of_ble_eq_true rfl) ?_
  rw [wrA_eq (j := n) hn hn8 (by decide)]
  refine v_pop (I := iX3_add) dX3_add_14 rfl ?_
  refine v_aload_n (I := iX3_add) dX3_add_15 rfl ?_
  refine v_get (I := iX3_add) g_X3_21 dX3_add_16 (wc_lt hw (by decide)) (ae_w2 hw _ _) rfl ?_
  refine v_iload_n (I := iX3_add) dX3_add_19 rfl ?_
  refine v_iload_n (I := iX3_add) dX3_add_20 rfl ?_
  refine v_callSi (I := iX3_add) (I' := iX9_exchange) lk_X3_39 c_X9_exchange dX3_add_21 (m_X9_exchange (wc_lt hw (by decide)) (ae_w6 hw) (by decide)) rfl rfl (by decide) (by decide) (Nat.le_of_ble_eq_true rfl) ?_
  rw [wrA_eq (j := n) hn hn8 (by decide)]
  refine v_pop (I := iX3_add) dX3_add_24 rfl ?_
  refine v_aload_n (I := iX3_add) dX3_add_25 rfl ?_
  refine v_get (I := iX3_add) g_X3_24 dX3_add_26 (wc_lt hw (by decide)) (ae_w2 hw _ _) rfl ?_
  refine v_iload_n (I := iX3_add) dX3_add_29 rfl ?_
  refine v_iconst (I := iX3_add) (v := 0) dX3_add_30 (by decide) ?_
  refine v_callSi (I := iX3_add) (I' := iX9_exchange) lk_X3_39 c_X9_exchange dX3_add_31 (m_X9_exchange (wc_lt hw (by decide)) (ae_w7 hw) (by decide)) rfl rfl (by decide) (by decide) (Nat.le_of_ble_eq_true rfl) ?_
  rw [wrA_eq (j := n) hn hn8 (by decide)]
  refine v_pop (I := iX3_add) dX3_add_34 rfl ?_
  refine v_aload_n (I := iX3_add) dX3_add_35 rfl ?_
  refine v_bipush (I := iX3_add) (v := 8) dX3_add_36 (by decide) ?_
  refine v_iload_n (I := iX3_add) dX3_add_38 rfl ?_
  refine v_iconst (I := iX3_add) (v := 1) dX3_add_39 (by decide) ?_
  refine v_iadd (I := iX3_add) dX3_add_40 ?_
  refine v_min (I := iX3_add) lm_X3_43 dX3_add_41 (by decide) (Nat.le_of_ble_eq_true rfl) ?_
  rw [show (if g 14 + 1 < 8 then g 14 + 1 else 8) = g 14 + 1 by rw [hn, nI_1]; have : nI (n + 1) ≤ 8 := nI_le (b := 8) (by omega) (by decide); grind]
  refine v_putI (I := iX3_add) p_X3_27 dX3_add_44 (wc_lt hw (by decide)) (ae_w2 hw _ _) (ae_w2 hw _ _) rfl rfl (by simp) ?_
  refine v_iload_n (I := iX3_add) dX3_add_47 rfl ?_
  exact v_iret (I := iX3_add) rfl dX3_add_48 ⟨rfl, rfl, V_up 14 (by decide) (V_holdU (V_holdU (V_holdU hV hn8).1 hn8).2.1 hn8).2.2, ((((FrW.up (by decide)).tr (FrW.up (by decide))).tr (FrW.up (by decide))).tr (FrW.up (by decide)))⟩
set_option maxRecDepth 100000 in
set_option maxHeartbeats 4000000 in
theorem m_X3_mayStand {G : fGm} {σ : fSt} {τ : fLt} {a b : Int32} : MS G iX3_mayStand 1 [.int a, .int b] σ τ (rT (some (.int (if (0 ≤ a ∧ a ≤ 99) ∧ 0 ≤ b ∧ b ≤ 99 then 1 else 0))) σ τ) := by
  refine ms_of (by decide +kernel) (Nat.le_of_ble_eq_true rfl) ?_
  show VW _ _ _ _ _ _ 0 [(0, _), (1, _)] []
  refine v_iload_n (I := iX3_mayStand) dX3_mayStand_0 rfl ?_
  refine v_iconst (I := iX3_mayStand) (v := 0) dX3_mayStand_1 (by decide) ?_
  refine v_bipush (I := iX3_mayStand) (v := 99) dX3_mayStand_2 (by decide) ?_
  refine v_callSi (I := iX3_mayStand) (I' := iX9_within) lk_X3_31 c_X9_within dX3_mayStand_4 (m_X9_within) rfl rfl (by decide) (by decide) (Nat.le_of_ble_eq_true rfl) ?_
  refine v_if_eqB (I := iX3_mayStand) (tgt := 24) dX3_mayStand_7 (by decide) (fun c7 => ?_) (fun c7 => ?_)
  · refine v_iconst (I := iX3_mayStand) (v := 0) dX3_mayStand_24 (by decide) ?_
    exact v_zret (I := iX3_mayStand) rfl rfl dX3_mayStand_25 ⟨by grind, rfl, rfl⟩
  · refine v_iload_n (I := iX3_mayStand) dX3_mayStand_10 rfl ?_
    refine v_iconst (I := iX3_mayStand) (v := 0) dX3_mayStand_11 (by decide) ?_
    refine v_bipush (I := iX3_mayStand) (v := 99) dX3_mayStand_12 (by decide) ?_
    refine v_callSi (I := iX3_mayStand) (I' := iX9_within) lk_X3_31 c_X9_within dX3_mayStand_14 (m_X9_within) rfl rfl (by decide) (by decide) (Nat.le_of_ble_eq_true rfl) ?_
    refine v_if_eqB (I := iX3_mayStand) (tgt := 24) dX3_mayStand_17 (by decide) (fun c17 => ?_) (fun c17 => ?_)
    · refine v_iconst (I := iX3_mayStand) (v := 0) dX3_mayStand_24 (by decide) ?_
      exact v_zret (I := iX3_mayStand) rfl rfl dX3_mayStand_25 ⟨by grind, rfl, rfl⟩
    · refine v_iconst (I := iX3_mayStand) (v := 1) dX3_mayStand_20 (by decide) ?_
      refine v_goto (I := iX3_mayStand) (tgt := 25) dX3_mayStand_21 (by decide) ?_
      exact v_zret (I := iX3_mayStand) rfl rfl dX3_mayStand_25 ⟨by grind, rfl, rfl⟩
def holdS (ρ : fSt) (c h : Int32) : Int32 × fSt := if (0 ≤ c ∧ c ≤ 99) ∧ 0 ≤ h ∧ h ≤ 99 then (if ρ 88 14 < 8 then (ρ 88 14, rowS ρ (gStand (ρ 88) (ρ 88 14).toNatClampNeg c h)) else (errV 4, errS ρ 4)) else (errV 1, errS ρ 1)
set_option maxRecDepth 100000 in
set_option maxHeartbeats 4000000 in
theorem m_X9_hold {G : fGm} {σ : fSt} {τ : fLt} {ρ : fSt} (hC : CR σ ρ) {c h : Int32} : MS G iX9_hold 2 [.ref 0, .int c, .int h] σ τ (rC τ σ (holdS ρ c h)) := by
  refine ms_of (by decide +kernel) (Nat.le_of_ble_eq_true rfl) ?_
  show VW _ _ _ _ _ _ 0 [(0, _), (1, _), (2, _)] []
  refine v_iload_n (I := iX9_hold) dX9_hold_0 rfl ?_
  refine v_iload_n (I := iX9_hold) dX9_hold_1 rfl ?_
  refine v_callSi (I := iX9_hold) (I' := iX3_mayStand) lk_X9_82 c_X3_mayStand dX9_hold_2 (m_X3_mayStand) rfl rfl (by decide) (by decide) (Nat.le_of_ble_eq_true rfl) ?_
  refine v_if_neB (I := iX9_hold) (tgt := 14) dX9_hold_5 (by decide) (fun c5 => ?_) (fun c5 => ?_)
  · refine v_aload_n (I := iX9_hold) dX9_hold_14 rfl ?_
    refine v_get (I := iX9_hold) g_X9_10 dX9_hold_15 (by decide) (ae_0 _ _) rfl ?_
    refine v_get (I := iX9_hold) g_X9_66 dX9_hold_18 (by decide) (ae_w0 (by decide) _ _) rfl ?_
    refine v_get (I := iX9_hold) g_X9_86 dX9_hold_21 (by decide) (ae_w2 (by decide) _ _) rfl ?_
    rw [V_n14 hC.1]
    refine v_bipush (I := iX9_hold) (v := 8) dX9_hold_24 (by decide) ?_
    refine v_icmp_lt (I := iX9_hold) (tgt := 35) dX9_hold_26 (by decide) (fun c26 => ?_) (fun c26 => ?_)
    · obtain ⟨n, hn8, hn⟩ : ∃ n, n < 8 ∧ ρ 88 14 = nI n := in2_nI (by decide) ⟨(B_n14 hC.2.2.2.2.2.1.1).1, by show ρ 88 14 < 8; have := (B_n14 hC.2.2.2.2.2.1.1).2; grind⟩
      refine v_aload_n (I := iX9_hold) dX9_hold_35 rfl ?_
      refine v_get (I := iX9_hold) g_X9_10 dX9_hold_36 (by decide) (ae_0 _ _) rfl ?_
      refine v_get (I := iX9_hold) g_X9_66 dX9_hold_39 (by decide) (ae_w0 (by decide) _ _) rfl ?_
      refine v_iload_n (I := iX9_hold) dX9_hold_42 rfl ?_
      refine v_iload_n (I := iX9_hold) dX9_hold_43 rfl ?_
      refine v_callViP (I := iX9_hold) (I' := iX3_add) lk_X9_89 c_X3_add dX9_hold_44 (m_X3_add (by decide) hC.1 hn hn8) rfl rfl (by decide) (ae_w2 (by decide) _ _) rfl (by decide) (by decide) (Nat.le_of_ble_eq_true rfl) (fun s44 h44 => ?_)
      exact v_iret (I := iX9_hold) rfl dX9_hold_47 (by unfold holdS; rw [if_pos (by grind), if_pos (by grind), show (ρ 88 14).toNatClampNeg = n by rw [hn]; exact nI_clamp (by omega)]; exact ⟨rfl, rfl, CR_row hC h44.1 h44.2 (IV_stand hC.2.2.2.2.2.1 hn hn8 (by grind) (by grind)), FrW.C (by decide) h44.2⟩)
    · refine v_aload_n (I := iX9_hold) dX9_hold_29 rfl ?_
      refine v_iconst (I := iX9_hold) (v := 4) dX9_hold_30 (by decide) ?_
      refine v_callVi (I := iX9_hold) (I' := iX9_refused) lk_X9_62 c_X9_refused dX9_hold_31 (m_X9_refused (e := 4) (by decide) (by decide) (by decide)) rfl rfl (by decide) (ae_0 _ _) rfl (by decide) (by decide) (Nat.le_of_ble_eq_true rfl) ?_
      exact v_iret (I := iX9_hold) rfl dX9_hold_34 (by unfold holdS; rw [if_pos (by grind)]; rw [if_neg (by grind)]; exact ⟨rfl, rfl, CR_err hC (by decide) (by decide), FC.up (by decide)⟩)
  · refine v_aload_n (I := iX9_hold) dX9_hold_8 rfl ?_
    refine v_iconst (I := iX9_hold) (v := 1) dX9_hold_9 (by decide) ?_
    refine v_callVi (I := iX9_hold) (I' := iX9_refused) lk_X9_62 c_X9_refused dX9_hold_10 (m_X9_refused (e := 1) (by decide) (by decide) (by decide)) rfl rfl (by decide) (ae_0 _ _) rfl (by decide) (by decide) (Nat.le_of_ble_eq_true rfl) ?_
    exact v_iret (I := iX9_hold) rfl dX9_hold_13 (by unfold holdS; rw [if_neg (by grind)]; exact ⟨rfl, rfl, CR_err hC (by decide) (by decide), FC.up (by decide)⟩)
set_option maxRecDepth 100000 in
set_option maxHeartbeats 4000000 in
theorem m_X10_hold {G : fGm} {σ : fSt} {τ : fLt} {ρ : fSt} (hR : RR σ ρ) {c h : Int32} : MS G iX10_hold 2 [.ref 87, .int c, .int h] σ τ (rR τ σ (holdS ρ c h)) := by
  refine ms_of (by decide +kernel) (Nat.le_of_ble_eq_true rfl) ?_
  show VW _ _ _ _ _ _ 0 [(0, _), (1, _), (2, _)] []
  have hb9 := B_n14 hR.2.2.2.2.2.2.2.2.2.2.2.1.1
  refine v_iload_n (I := iX10_hold) dX10_hold_0 rfl ?_
  refine v_iload_n (I := iX10_hold) dX10_hold_1 rfl ?_
  refine v_callSi (I := iX10_hold) (I' := iX10_isAsTold) lk_X10_96 c_X10_isAsTold dX10_hold_2 (m_X10_isAsTold) rfl rfl (by decide) (by decide) (Nat.le_of_ble_eq_true rfl) ?_
  refine v_if_neB (I := iX10_hold) (tgt := 15) dX10_hold_5 (by decide) (fun c5 => ?_) (fun c5 => ?_)
  · refine v_aload_n (I := iX10_hold) dX10_hold_15 rfl ?_
    refine v_get (I := iX10_hold) g_X10_9 dX10_hold_16 (by decide) (ae_87 _ _) rfl ?_
    refine v_bipush (I := iX10_hold) (v := 14) dX10_hold_19 (by decide) ?_
    refine v_ialdN (I := iX10_hold) (j := 14) (by decide) (by decide) (by decide) dX10_hold_21 (by decide) (ae_88 _ _) ?_
    rw [hR.1]
    refine v_bipush (I := iX10_hold) (v := 8) dX10_hold_22 (by decide) ?_
    refine v_icmp_ne (I := iX10_hold) (tgt := 36) dX10_hold_24 (by decide) (fun c24 => ?_) (fun c24 => ?_)
    · obtain ⟨n, hn8, hn⟩ : ∃ n, n < 8 ∧ ρ 88 14 = nI n := in2_nI (by decide) ⟨(B_n14 hR.2.2.2.2.2.2.2.2.2.2.2.1.1).1, by show ρ 88 14 < 8; have := (B_n14 hR.2.2.2.2.2.2.2.2.2.2.2.1.1).2; grind⟩
      refine v_aload_n (I := iX10_hold) dX10_hold_36 rfl ?_
      refine v_iload_n (I := iX10_hold) dX10_hold_37 rfl ?_
      refine v_iload_n (I := iX10_hold) dX10_hold_38 rfl ?_
      refine v_callVi (I := iX10_hold) (I' := iX10_stands) lk_X10_101 c_X10_stands dX10_hold_39 (m_X10_stands (by rw [hR.1]; exact hn) hn8) rfl rfl (by decide) (ae_87 _ _) rfl (by decide) (by decide) (Nat.le_of_ble_eq_true rfl) ?_
      exact v_iret (I := iX10_hold) rfl dX10_hold_42 (by
      unfold holdS
      first
      | (rw [if_pos (by grind), if_neg (by grind)]; exact ⟨rfl, rfl, RR_err hR, FR.up (by decide)⟩)
      | (rw [if_pos (by grind), if_pos (by grind), show (ρ 88 14).toNatClampNeg = n by rw [hn]; exact nI_clamp (by omega)]; exact ⟨by rw [hR.1], rfl, by rw [hR.1]; exact RR_row hR (IV_stand hR.2.2.2.2.2.2.2.2.2.2.2.1 hn hn8 (by grind) (by grind)), FR.va (by decide)⟩))
    · refine v_aload_n (I := iX10_hold) dX10_hold_27 rfl ?_
      refine v_ldc (I := iX10_hold) k_X10_100 dX10_hold_28 ?_
      refine v_callVi (I := iX10_hold) (I' := iX10_finding) lk_X10_92 c_X10_finding dX10_hold_30 (m_X10_findE (e := 4) (by decide) (by decide)) rfl rfl (by decide) (ae_87 _ _) rfl (by decide) (by decide) (Nat.le_of_ble_eq_true rfl) ?_
      refine v_goto (I := iX10_hold) (tgt := 42) dX10_hold_33 (by decide) ?_
      exact v_iret (I := iX10_hold) rfl dX10_hold_42 (by
      unfold holdS
      first
      | (rw [if_pos (by grind), if_neg (by grind)]; exact ⟨rfl, rfl, RR_err hR, FR.up (by decide)⟩)
      | (rw [if_pos (by grind), if_pos (by grind), show (ρ 88 14).toNatClampNeg = n by rw [hn]; exact nI_clamp (by omega)]; exact ⟨by rw [hR.1], rfl, by rw [hR.1]; exact RR_row hR (IV_stand hR.2.2.2.2.2.2.2.2.2.2.2.1 hn hn8 (by grind) (by grind)), FR.va (by decide)⟩))
  · refine v_aload_n (I := iX10_hold) dX10_hold_8 rfl ?_
    refine v_ldc (I := iX10_hold) k_X10_91 dX10_hold_9 ?_
    refine v_callVi (I := iX10_hold) (I' := iX10_finding) lk_X10_92 c_X10_finding dX10_hold_11 (m_X10_findE (e := 1) (by decide) (by decide)) rfl rfl (by decide) (ae_87 _ _) rfl (by decide) (by decide) (Nat.le_of_ble_eq_true rfl) ?_
    exact v_iret (I := iX10_hold) rfl dX10_hold_14 (by unfold holdS; rw [if_neg (by grind)]; exact ⟨rfl, rfl, RR_err hR, FR.up (by decide)⟩)
set_option maxRecDepth 100000 in
set_option maxHeartbeats 4000000 in
theorem m_X3_row0 {G : fGm} {σ : fSt} {τ : fLt} {w : Nat} {x : Int32} (hw : w < 3) (hx : x = 0) : MS G iX3_row 0 [.ref (wc w 2), .int x] σ τ (rT (some (.ref (wc w 5))) σ τ) := by
  refine ms_of (by decide +kernel) (Nat.le_of_ble_eq_true rfl) ?_
  show VW _ _ _ _ _ _ 0 [(0, _), (1, _)] []
  refine v_iload_n (I := iX3_row) dX3_row_0 rfl ?_
  refine v_if_ne (I := iX3_row) (tgt := 11) dX3_row_1 (by decide) (fun c1 => ?_) (fun c1 => ?_)
  · exact absurd hx c1
  · refine v_aload_n (I := iX3_row) dX3_row_4 rfl ?_
    refine v_get (I := iX3_row) g_X3_18 dX3_row_5 (wc_lt hw (by decide)) (ae_w2 hw _ _) rfl ?_
    refine v_goto (I := iX3_row) (tgt := 27) dX3_row_8 (by decide) ?_
    exact v_aret (I := iX3_row) rfl (Or.inr ⟨_, rfl⟩) dX3_row_27 ⟨by first | rfl | (simp only [*]; done) | (simp [*]; done), rfl, rfl⟩
set_option maxRecDepth 100000 in
set_option maxHeartbeats 4000000 in
theorem m_X3_row1 {G : fGm} {σ : fSt} {τ : fLt} {w : Nat} {x : Int32} (hw : w < 3) (hx : x = 1) : MS G iX3_row 0 [.ref (wc w 2), .int x] σ τ (rT (some (.ref (wc w 6))) σ τ) := by
  refine ms_of (by decide +kernel) (Nat.le_of_ble_eq_true rfl) ?_
  show VW _ _ _ _ _ _ 0 [(0, _), (1, _)] []
  refine v_iload_n (I := iX3_row) dX3_row_0 rfl ?_
  refine v_if_ne (I := iX3_row) (tgt := 11) dX3_row_1 (by decide) (fun c1 => ?_) (fun c1 => ?_)
  · refine v_iload_n (I := iX3_row) dX3_row_11 rfl ?_
    refine v_iconst (I := iX3_row) (v := 1) dX3_row_12 (by decide) ?_
    refine v_icmp_ne (I := iX3_row) (tgt := 23) dX3_row_13 (by decide) (fun c13 => ?_) (fun c13 => ?_)
    · exact absurd hx c13
    · refine v_aload_n (I := iX3_row) dX3_row_16 rfl ?_
      refine v_get (I := iX3_row) g_X3_21 dX3_row_17 (wc_lt hw (by decide)) (ae_w2 hw _ _) rfl ?_
      refine v_goto (I := iX3_row) (tgt := 27) dX3_row_20 (by decide) ?_
      exact v_aret (I := iX3_row) rfl (Or.inr ⟨_, rfl⟩) dX3_row_27 ⟨by first | rfl | (simp only [*]; done) | (simp [*]; done), rfl, rfl⟩
  · exact absurd hx (by rw [c1]; decide)
set_option maxRecDepth 100000 in
set_option maxHeartbeats 4000000 in
theorem m_X3_row2 {G : fGm} {σ : fSt} {τ : fLt} {w : Nat} {x : Int32} (hw : w < 3) (hx : x = 2) : MS G iX3_row 0 [.ref (wc w 2), .int x] σ τ (rT (some (.ref (wc w 7))) σ τ) := by
  refine ms_of (by decide +kernel) (Nat.le_of_ble_eq_true rfl) ?_
  show VW _ _ _ _ _ _ 0 [(0, _), (1, _)] []
  refine v_iload_n (I := iX3_row) dX3_row_0 rfl ?_
  refine v_if_ne (I := iX3_row) (tgt := 11) dX3_row_1 (by decide) (fun c1 => ?_) (fun c1 => ?_)
  · refine v_iload_n (I := iX3_row) dX3_row_11 rfl ?_
    refine v_iconst (I := iX3_row) (v := 1) dX3_row_12 (by decide) ?_
    refine v_icmp_ne (I := iX3_row) (tgt := 23) dX3_row_13 (by decide) (fun c13 => ?_) (fun c13 => ?_)
    · refine v_aload_n (I := iX3_row) dX3_row_23 rfl ?_
      refine v_get (I := iX3_row) g_X3_24 dX3_row_24 (wc_lt hw (by decide)) (ae_w2 hw _ _) rfl ?_
      exact v_aret (I := iX3_row) rfl (Or.inr ⟨_, rfl⟩) dX3_row_27 ⟨by first | rfl | (simp only [*]; done) | (simp [*]; done), rfl, rfl⟩
    · exact absurd hx (by rw [c13]; decide)
  · exact absurd hx (by rw [c1]; decide)
def holdIsS (ρ : fSt) (h w : Int32) : Int32 × fSt := if (0 ≤ h ∧ h ≤ ρ 88 14 - 1) ∧ 0 ≤ w ∧ w ≤ 3 then (if w = 3 then (if gDist (ρ 88) h.toNatClampNeg ≤ ρ 88 2 then 1 else 0) else ρ 88 (39 + 3 * h.toNatClampNeg + w.toNatClampNeg), ρ) else (errV 1, errS ρ 1)
set_option maxRecDepth 100000 in
set_option maxHeartbeats 8000000 in
theorem m_X9_holdIs {G : fGm} {σ : fSt} {τ : fLt} {ρ : fSt} (hC : CR σ ρ) {h w : Int32} : MS G iX9_holdIs 3 [.ref 0, .int h, .int w] σ τ (rC τ σ (holdIsS ρ h w)) := by
  refine ms_of (by decide +kernel) (Nat.le_of_ble_eq_true rfl) ?_
  show VW _ _ _ _ _ _ 0 [(0, _), (1, _), (2, _)] []
  refine v_aload_n (I := iX9_holdIs) dX9_holdIs_0 rfl ?_
  refine v_iload_n (I := iX9_holdIs) dX9_holdIs_1 rfl ?_
  refine v_callVi (I := iX9_holdIs) (I' := iX9_isHold) lk_X9_93 c_X9_isHold dX9_holdIs_2 (m_X9_isHold hC.1) rfl rfl (by decide) (ae_0 _ _) rfl (by decide) (by decide) (Nat.le_of_ble_eq_true rfl) ?_
  refine v_if_eqB (I := iX9_holdIs) (tgt := 17) dX9_holdIs_5 (by decide) (fun c5 => ?_) (fun c5 => ?_)
  · refine v_aload_n (I := iX9_holdIs) dX9_holdIs_17 rfl ?_
    refine v_iconst (I := iX9_holdIs) (v := 1) dX9_holdIs_18 (by decide) ?_
    refine v_callVi (I := iX9_holdIs) (I' := iX9_refused) lk_X9_62 c_X9_refused dX9_holdIs_19 (m_X9_refused (e := 1) (by decide) (by decide) (by decide)) rfl rfl (by decide) (ae_0 _ _) rfl (by decide) (by decide) (Nat.le_of_ble_eq_true rfl) ?_
    exact v_iret (I := iX9_holdIs) rfl dX9_holdIs_22 (by unfold holdIsS; rw [if_neg (by grind)]; exact ⟨rfl, rfl, CR_err hC (by decide) (by decide), FC.up (by decide)⟩)
  · refine v_iload_n (I := iX9_holdIs) dX9_holdIs_8 rfl ?_
    refine v_iconst (I := iX9_holdIs) (v := 0) dX9_holdIs_9 (by decide) ?_
    refine v_iconst (I := iX9_holdIs) (v := 3) dX9_holdIs_10 (by decide) ?_
    refine v_callSi (I := iX9_holdIs) (I' := iX9_within) lk_X9_58 c_X9_within dX9_holdIs_11 (m_X9_within) rfl rfl (by decide) (by decide) (Nat.le_of_ble_eq_true rfl) ?_
    refine v_if_neB (I := iX9_holdIs) (tgt := 23) dX9_holdIs_14 (by decide) (fun c14 => ?_) (fun c14 => ?_)
    · have hb9 := B_n14 hC.2.2.2.2.2.1.1
      obtain ⟨q, hq, hqx⟩ := nI8 (x := h) (by grind)
      have hqc : h.toNatClampNeg = q := by rw [hqx]; exact nI_clamp (by omega)
      refine v_iload_n (I := iX9_holdIs) dX9_holdIs_23 rfl ?_
      refine v_iconst (I := iX9_holdIs) (v := 3) dX9_holdIs_24 (by decide) ?_
      refine v_icmp_ne (I := iX9_holdIs) (tgt := 45) dX9_holdIs_25 (by decide) (fun c25 => ?_) (fun c25 => ?_)
      rcases (show w = 0 ∨ w = 1 ∨ w = 2 by grind) with hw0 | hw1 | hw2
      · skip
        refine v_aload_n (I := iX9_holdIs) dX9_holdIs_45 rfl ?_
        refine v_get (I := iX9_holdIs) g_X9_10 dX9_holdIs_46 (by decide) (ae_0 _ _) rfl ?_
        refine v_get (I := iX9_holdIs) g_X9_66 dX9_holdIs_49 (by decide) (ae_w0 (by decide) _ _) rfl ?_
        refine v_iload_n (I := iX9_holdIs) dX9_holdIs_52 rfl ?_
        refine v_callVr (I := iX9_holdIs) (I' := iX3_row) lk_X9_100 c_X3_row dX9_holdIs_53 (m_X3_row0 (by decide) hw0) rfl rfl (by decide) (ae_w2 (by decide) _ _) rfl (by decide) (by decide) (Nat.le_of_ble_eq_true rfl) ?_
        refine v_iload_n (I := iX9_holdIs) dX9_holdIs_56 rfl ?_
        refine v_callSi (I := iX9_holdIs) (I' := iX9_at) lk_X9_104 c_X9_at dX9_holdIs_57 (m_X9_at (by decide) (ae_w5 (by decide)) (by decide)) rfl rfl (by decide) (by decide) (Nat.le_of_ble_eq_true rfl) ?_
        rw [rdA_eq hqx hq (by decide)]
        exact v_iret (I := iX9_holdIs) rfl dX9_holdIs_60 (by unfold holdIsS; rw [if_pos (by grind), if_neg (by grind), hqc, hw0]; exact ⟨by rw [show ((0 : Int32)).toNatClampNeg = 0 from rfl, V_hcell hC.1 hq], rfl, hC, FC.rf⟩)
      · skip
        refine v_aload_n (I := iX9_holdIs) dX9_holdIs_45 rfl ?_
        refine v_get (I := iX9_holdIs) g_X9_10 dX9_holdIs_46 (by decide) (ae_0 _ _) rfl ?_
        refine v_get (I := iX9_holdIs) g_X9_66 dX9_holdIs_49 (by decide) (ae_w0 (by decide) _ _) rfl ?_
        refine v_iload_n (I := iX9_holdIs) dX9_holdIs_52 rfl ?_
        refine v_callVr (I := iX9_holdIs) (I' := iX3_row) lk_X9_100 c_X3_row dX9_holdIs_53 (m_X3_row1 (by decide) hw1) rfl rfl (by decide) (ae_w2 (by decide) _ _) rfl (by decide) (by decide) (Nat.le_of_ble_eq_true rfl) ?_
        refine v_iload_n (I := iX9_holdIs) dX9_holdIs_56 rfl ?_
        refine v_callSi (I := iX9_holdIs) (I' := iX9_at) lk_X9_104 c_X9_at dX9_holdIs_57 (m_X9_at (by decide) (ae_w6 (by decide)) (by decide)) rfl rfl (by decide) (by decide) (Nat.le_of_ble_eq_true rfl) ?_
        rw [rdA_eq hqx hq (by decide)]
        exact v_iret (I := iX9_holdIs) rfl dX9_holdIs_60 (by unfold holdIsS; rw [if_pos (by grind), if_neg (by grind), hqc, hw1]; exact ⟨by rw [show ((1 : Int32)).toNatClampNeg = 1 from rfl, V_hhard hC.1 hq], rfl, hC, FC.rf⟩)
      · skip
        refine v_aload_n (I := iX9_holdIs) dX9_holdIs_45 rfl ?_
        refine v_get (I := iX9_holdIs) g_X9_10 dX9_holdIs_46 (by decide) (ae_0 _ _) rfl ?_
        refine v_get (I := iX9_holdIs) g_X9_66 dX9_holdIs_49 (by decide) (ae_w0 (by decide) _ _) rfl ?_
        refine v_iload_n (I := iX9_holdIs) dX9_holdIs_52 rfl ?_
        refine v_callVr (I := iX9_holdIs) (I' := iX3_row) lk_X9_100 c_X3_row dX9_holdIs_53 (m_X3_row2 (by decide) hw2) rfl rfl (by decide) (ae_w2 (by decide) _ _) rfl (by decide) (by decide) (Nat.le_of_ble_eq_true rfl) ?_
        refine v_iload_n (I := iX9_holdIs) dX9_holdIs_56 rfl ?_
        refine v_callSi (I := iX9_holdIs) (I' := iX9_at) lk_X9_104 c_X9_at dX9_holdIs_57 (m_X9_at (by decide) (ae_w7 (by decide)) (by decide)) rfl rfl (by decide) (by decide) (Nat.le_of_ble_eq_true rfl) ?_
        rw [rdA_eq hqx hq (by decide)]
        exact v_iret (I := iX9_holdIs) rfl dX9_holdIs_60 (by unfold holdIsS; rw [if_pos (by grind), if_neg (by grind), hqc, hw2]; exact ⟨by rw [show ((2 : Int32)).toNatClampNeg = 2 from rfl, V_hpad hC.1 hq], rfl, hC, FC.rf⟩)
      · refine v_aload_n (I := iX9_holdIs) dX9_holdIs_28 rfl ?_
        refine v_get (I := iX9_holdIs) g_X9_10 dX9_holdIs_29 (by decide) (ae_0 _ _) rfl ?_
        refine v_iload_n (I := iX9_holdIs) dX9_holdIs_32 rfl ?_
        refine v_callVi (I := iX9_holdIs) (I' := iX8_isAtHand) lk_X9_97 c_X8_isAtHand dX9_holdIs_33 (m_X8_isAtHand (o := some q) (by decide) hC.1 hqx (fun b hb => by cases hb; exact hq)) rfl rfl (by decide) (ae_w0 (by decide) _ _) rfl (by decide) (by decide) (Nat.le_of_ble_eq_true rfl) ?_
        refine v_if_eqB (I := iX9_holdIs) (tgt := 43) dX9_holdIs_36 (by decide) (fun c36 => ?_) (fun c36 => ?_)
        · refine v_iconst (I := iX9_holdIs) (v := 0) dX9_holdIs_43 (by decide) ?_
          exact v_iret (I := iX9_holdIs) rfl dX9_holdIs_44 (by unfold holdIsS; rw [if_pos (by grind), if_pos c25, hqc]; exact ⟨by congr 2; first | exact (if_pos (of_decide_eq_true c36)).symm | exact (if_neg (fun h9 => c36 (decide_eq_true h9))).symm, rfl, hC, FC.rf⟩)
        · refine v_iconst (I := iX9_holdIs) (v := 1) dX9_holdIs_39 (by decide) ?_
          refine v_goto (I := iX9_holdIs) (tgt := 44) dX9_holdIs_40 (by decide) ?_
          exact v_iret (I := iX9_holdIs) rfl dX9_holdIs_44 (by unfold holdIsS; rw [if_pos (by grind), if_pos c25, hqc]; exact ⟨by congr 2; first | exact (if_pos (of_decide_eq_true c36)).symm | exact (if_neg (fun h9 => c36 (decide_eq_true h9))).symm, rfl, hC, FC.rf⟩)
    · refine v_aload_n (I := iX9_holdIs) dX9_holdIs_17 rfl ?_
      refine v_iconst (I := iX9_holdIs) (v := 1) dX9_holdIs_18 (by decide) ?_
      refine v_callVi (I := iX9_holdIs) (I' := iX9_refused) lk_X9_62 c_X9_refused dX9_holdIs_19 (m_X9_refused (e := 1) (by decide) (by decide) (by decide)) rfl rfl (by decide) (ae_0 _ _) rfl (by decide) (by decide) (Nat.le_of_ble_eq_true rfl) ?_
      exact v_iret (I := iX9_holdIs) rfl dX9_holdIs_22 (by unfold holdIsS; rw [if_neg (by grind)]; exact ⟨rfl, rfl, CR_err hC (by decide) (by decide), FC.up (by decide)⟩)
set_option maxRecDepth 100000 in
set_option maxHeartbeats 4000000 in
theorem m_X10_holdIs {G : fGm} {σ : fSt} {τ : fLt} {ρ : fSt} (hR : RR σ ρ) {h w : Int32} : MS G iX10_holdIs 3 [.ref 87, .int h, .int w] σ τ (rR τ σ (holdIsS ρ h w)) := by
  refine ms_of (by decide +kernel) (Nat.le_of_ble_eq_true rfl) ?_
  show VW _ _ _ _ _ _ 0 [(0, _), (1, _), (2, _)] []
  refine v_aload_n (I := iX10_holdIs) dX10_holdIs_0 rfl ?_
  refine v_iload_n (I := iX10_holdIs) dX10_holdIs_1 rfl ?_
  refine v_bipush (I := iX10_holdIs) (v := 14) dX10_holdIs_2 (by decide) ?_
  refine v_callVi (I := iX10_holdIs) (I' := iX10_isOf) lk_X10_113 c_X10_isOf dX10_holdIs_4 (m_X10_isOf (c := 14) (by decide) (by decide)) rfl rfl (by decide) (ae_87 _ _) rfl (by decide) (by decide) (Nat.le_of_ble_eq_true rfl) ?_
  rw [hR.1]
  refine v_if_eqB (I := iX10_holdIs) (tgt := 19) dX10_holdIs_7 (by decide) (fun c7 => ?_) (fun c7 => ?_)
  · refine v_aload_n (I := iX10_holdIs) dX10_holdIs_19 rfl ?_
    refine v_ldc (I := iX10_holdIs) k_X10_91 dX10_holdIs_20 ?_
    refine v_callVi (I := iX10_holdIs) (I' := iX10_finding) lk_X10_92 c_X10_finding dX10_holdIs_22 (m_X10_findE (e := 1) (by decide) (by decide)) rfl rfl (by decide) (ae_87 _ _) rfl (by decide) (by decide) (Nat.le_of_ble_eq_true rfl) ?_
    exact v_iret (I := iX10_holdIs) rfl dX10_holdIs_25 (by unfold holdIsS; rw [if_neg (by grind)]; exact ⟨rfl, rfl, RR_err hR, FR.up (by decide)⟩)
  · refine v_iload_n (I := iX10_holdIs) dX10_holdIs_10 rfl ?_
    refine v_iconst (I := iX10_holdIs) (v := 0) dX10_holdIs_11 (by decide) ?_
    refine v_iconst (I := iX10_holdIs) (v := 3) dX10_holdIs_12 (by decide) ?_
    refine v_callSi (I := iX10_holdIs) (I' := iX10_within) lk_X10_79 c_X10_within dX10_holdIs_13 (m_X10_within) rfl rfl (by decide) (by decide) (Nat.le_of_ble_eq_true rfl) ?_
    refine v_if_neB (I := iX10_holdIs) (tgt := 26) dX10_holdIs_16 (by decide) (fun c16 => ?_) (fun c16 => ?_)
    · have hb9 := B_n14 hR.2.2.2.2.2.2.2.2.2.2.2.1.1
      obtain ⟨q, hq, hqx⟩ := nI8 (x := h) (by grind)
      have hqc : h.toNatClampNeg = q := by rw [hqx]; exact nI_clamp (by omega)
      obtain ⟨z, hz, hzx⟩ : ∃ z, z < 4 ∧ w = nI z := in2_nI (by decide) ⟨by grind, by show w < 4; grind⟩
      have hzc : w.toNatClampNeg = z := by rw [hzx]; exact nI_clamp (by omega)
      refine v_iload_n (I := iX10_holdIs) dX10_holdIs_26 rfl ?_
      refine v_iconst (I := iX10_holdIs) (v := 3) dX10_holdIs_27 (by decide) ?_
      refine v_icmp_ge (I := iX10_holdIs) (tgt := 40) dX10_holdIs_28 (by decide) (fun c28 => ?_) (fun c28 => ?_)
      · refine v_aload_n (I := iX10_holdIs) dX10_holdIs_40 rfl ?_
        refine v_iload_n (I := iX10_holdIs) dX10_holdIs_41 rfl ?_
        refine v_callVi (I := iX10_holdIs) (I' := iX10_isAtHand) lk_X10_116 c_X10_isAtHand dX10_holdIs_42 (m_X10_isAtHand hqx hq) rfl rfl (by decide) (ae_87 _ _) rfl (by decide) (by decide) (Nat.le_of_ble_eq_true rfl) ?_
        refine v_if_eqB (I := iX10_holdIs) (tgt := 52) dX10_holdIs_45 (by decide) (fun c45 => ?_) (fun c45 => ?_)
        · refine v_iconst (I := iX10_holdIs) (v := 0) dX10_holdIs_52 (by decide) ?_
          exact v_iret (I := iX10_holdIs) rfl dX10_holdIs_53 (by
      unfold holdIsS
      rw [if_pos (by grind), hqc, hzc]
      refine ⟨?_, rfl, hR, FR.rf⟩
      dsimp only
      first
      | (rw [if_neg (by grind), hR.1]; done)
      | (rw [if_pos (by grind), ← hR.1]; first | rw [if_pos c45] | rw [if_neg c45]))
        · refine v_iconst (I := iX10_holdIs) (v := 1) dX10_holdIs_48 (by decide) ?_
          refine v_goto (I := iX10_holdIs) (tgt := 53) dX10_holdIs_49 (by decide) ?_
          exact v_iret (I := iX10_holdIs) rfl dX10_holdIs_53 (by
      unfold holdIsS
      rw [if_pos (by grind), hqc, hzc]
      refine ⟨?_, rfl, hR, FR.rf⟩
      dsimp only
      first
      | (rw [if_neg (by grind), hR.1]; done)
      | (rw [if_pos (by grind), ← hR.1]; first | rw [if_pos c45] | rw [if_neg c45]))
      · have hz3 : z < 3 := by
          rcases Nat.lt_or_ge z 3 with h9 | h9
          · exact h9
          · exact absurd (show (3 : Int32) ≤ w by rw [hzx]; exact nI_le (a := 3) h9 (by omega)) c28
        refine v_aload_n (I := iX10_holdIs) dX10_holdIs_31 rfl ?_
        refine v_iload_n (I := iX10_holdIs) dX10_holdIs_32 rfl ?_
        refine v_iload_n (I := iX10_holdIs) dX10_holdIs_33 rfl ?_
        refine v_callVi (I := iX10_holdIs) (I' := iX10_holdOf) lk_X10_104 c_X10_holdOf dX10_holdIs_34 (m_X10_holdOf (f := z) hqx hq hzx hz3) rfl rfl (by decide) (ae_87 _ _) rfl (by decide) (by decide) (Nat.le_of_ble_eq_true rfl) ?_
        refine v_goto (I := iX10_holdIs) (tgt := 53) dX10_holdIs_37 (by decide) ?_
        exact v_iret (I := iX10_holdIs) rfl dX10_holdIs_53 (by
      unfold holdIsS
      rw [if_pos (by grind), hqc, hzc]
      refine ⟨?_, rfl, hR, FR.rf⟩
      dsimp only
      first
      | (rw [if_neg (by grind), hR.1]; done)
      | (rw [if_pos (by grind), ← hR.1]; first | rw [if_pos c45] | rw [if_neg c45]))
    · refine v_aload_n (I := iX10_holdIs) dX10_holdIs_19 rfl ?_
      refine v_ldc (I := iX10_holdIs) k_X10_91 dX10_holdIs_20 ?_
      refine v_callVi (I := iX10_holdIs) (I' := iX10_finding) lk_X10_92 c_X10_finding dX10_holdIs_22 (m_X10_findE (e := 1) (by decide) (by decide)) rfl rfl (by decide) (ae_87 _ _) rfl (by decide) (by decide) (Nat.le_of_ble_eq_true rfl) ?_
      exact v_iret (I := iX10_holdIs) rfl dX10_holdIs_25 (by unfold holdIsS; rw [if_neg (by grind)]; exact ⟨rfl, rfl, RR_err hR, FR.up (by decide)⟩)
