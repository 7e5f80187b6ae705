def seedS (ρ : fSt) (v : Int32) : Int32 × fSt := (ρ 88 18, rowS ρ (va_up (ρ 88) 18 v))
theorem IV_z {g : gS} {v : Int32} (h : IV g) : IV (va_up g 18 v) := IV_up h ⟨by decide, by decide, by decide, by decide, fun j hj => by omega⟩ ⟨by show (-2147483648 : Int32) ≤ _; grind, by show _ ≤ (2147483647 : Int32); grind⟩
def untellS (ρ : fSt) (u : Int32) : Int32 × fSt := if 0 ≤ u ∧ u ≤ 1 then (if 0 < ρ 88 (171 + 62 * u.toNatClampNeg) then 1 else 0, rowS ρ (va_up (ρ 88) (171 + 62 * u.toNatClampNeg) 0)) else (errV 1, errS ρ 1)
theorem tOK_0 {g : gS} {u u' : Nat} (hu : u < 2) (hu' : u' < 2) (h : tOK g u) : tOK (va_up g (171 + 62 * u') 0) u := by
  by_cases e : u = u'
  · subst e
    exact ⟨0, by omega, va_up_s _ _ _, fun h => absurd h (by omega)⟩
  · obtain ⟨n, hn, e2, hr⟩ := h
    refine ⟨n, hn, by rw [va_up_o _ _ (by omega)]; exact e2, fun h0 => ?_⟩
    have : gCode (va_up g (171 + 62 * u') 0) u = gCode g u := by
      unfold gCode
      rw [va_up_o g _ (show 171 + 62 * u ≠ 171 + 62 * u' by omega)]
      refine List.map_congr_left fun j hj => ?_
      rw [List.mem_range, e2, nI_clamp (by omega)] at hj
      exact va_up_o _ _ (by omega)
    rw [this]
    exact hr h0
theorem IV_untell {g : gS} {u : Nat} (hu : u < 2) (h : IV g) : IV (va_up g (171 + 62 * u) 0) := by
  obtain ⟨h1, h2, h3, h4⟩ := h
  refine ⟨B_up h1 fun h => absurd h (by omega), tOK_0 (by decide) hu h2, tOK_0 (by decide) hu h3, ?_⟩
  unfold RN at *
  rw [va_up_o _ _ (by omega), va_up_o _ _ (by omega), va_up_o _ _ (by omega)]
  refine ⟨fun h => ⟨(h4.1 h).1, (h4.1 h).2.1, fun j hj hl => ?_⟩, h4.2⟩
  rw [va_up_o _ _ (by omega)]
  exact (h4.1 h).2.2 j hj hl
theorem V_untell {w : Nat} {σ : fSt} {g : gS} {u : Nat} (hu : u < 2) (hI : IV g) (h : V w σ g) : V w (up2 σ (wc w (12 + 3 * u)) 1 0) (va_up g (171 + 62 * u) 0) := by
  obtain ⟨h1, h2, h3⟩ := h
  have hx : ∀ u', u' < 2 → tOK g u' → VX w σ g u' → VX w (up2 σ (wc w (12 + 3 * u)) 1 0) (va_up g (171 + 62 * u) 0) u' := by
    intro u' hu' ⟨n, hn60, hn, _⟩ ⟨a, b⟩
    by_cases e : u' = u
    · subst e
      refine ⟨by rw [up2_s, va_up_s], fun j hj => ?_⟩
      rw [va_up_s] at hj
      exact absurd hj (by simp)
    · refine ⟨by rw [up2_k _ _ _ _ (wc_ne (by omega)), va_up_o _ _ (by omega)]; exact a, fun j hj => ?_⟩
      rw [va_up_o _ _ (by omega)] at hj
      have hj60 : j < n := by rw [hn, nI_clamp (by omega)] at hj; exact hj
      rw [up2_k _ _ _ _ (wc_ne (by omega))]
      by_cases e3 : 171 + 62 * u' + 1 + j = 171 + 62 * u
      · exact absurd e3 (by omega)
      · rw [va_up_o _ _ e3]; exact b j hj
  refine ⟨fun i hi => ?_, hx 0 (by decide) hI.2.1 h2, hx 1 (by decide) hI.2.2.1 h3⟩
  have := loc_lt i hi
  rw [up2_k _ _ _ _ (wc_ne (by omega)), va_up_o _ _ (by omega)]
  exact h1 i hi
set_option maxRecDepth 100000 in
set_option maxHeartbeats 4000000 in
theorem m_X9_seed {G : fGm} {σ : fSt} {τ : fLt} {ρ : fSt} (hC : CR σ ρ) {v : Int32} : MS G iX9_seed 1 [.ref 0, .int v] σ τ (rC τ σ (seedS ρ v)) := by
  refine ms_of (by decide +kernel) (Nat.le_of_ble_eq_true rfl) ?_
  show VW _ _ _ _ _ _ 0 [(0, _), (1, _)] []
  refine v_aload_n (I := iX9_seed) dX9_seed_0 rfl ?_
  refine v_get (I := iX9_seed) g_X9_10 dX9_seed_1 (by decide) (ae_0 _ _) rfl ?_
  refine v_get (I := iX9_seed) g_X9_114 dX9_seed_4 (by decide) (ae_w0 (by decide) _ _) rfl ?_
  refine v_bipush (I := iX9_seed) (v := 14) dX9_seed_7 (by decide) ?_
  refine v_iload_n (I := iX9_seed) dX9_seed_9 rfl ?_
  refine v_callSi (I := iX9_seed) (I' := iX9_exchange) lk_X9_78 c_X9_exchange dX9_seed_10 (m_X9_exchange (by decide) (ae_w1 (by decide)) (by decide)) rfl rfl (by decide) (by decide) (Nat.le_of_ble_eq_true rfl) ?_
  rw [wrA_eq (x := 14) (j := 14) rfl (by decide) (by decide), rdA_eq (x := 14) (j := 14) rfl (by decide) (by decide), V_z hC.1]
  exact v_iret (I := iX9_seed) rfl dX9_seed_13 ⟨rfl, rfl, CR_row hC (V_upz hC.1) (FrW.up (by decide)) (IV_z hC.2.2.2.2.2.1), FC.up (by decide)⟩
set_option maxRecDepth 100000 in
set_option maxHeartbeats 4000000 in
theorem m_X10_seed {G : fGm} {σ : fSt} {τ : fLt} {ρ : fSt} (hR : RR σ ρ) {v : Int32} : MS G iX10_seed 1 [.ref 87, .int v] σ τ (rR τ σ (seedS ρ v)) := by
  refine ms_of (by decide +kernel) (Nat.le_of_ble_eq_true rfl) ?_
  show VW _ _ _ _ _ _ 0 [(0, _), (1, _)] []
  refine v_aload_n (I := iX10_seed) dX10_seed_0 rfl ?_
  refine v_bipush (I := iX10_seed) (v := 18) dX10_seed_1 (by decide) ?_
  refine v_iload_n (I := iX10_seed) dX10_seed_3 rfl ?_
  refine v_callVi (I := iX10_seed) (I' := iX10_become) lk_X10_88 c_X10_become dX10_seed_4 (m_X10_become (j := 18) rfl (by decide)) rfl rfl (by decide) (ae_87 _ _) rfl (by decide) (by decide) (Nat.le_of_ble_eq_true rfl) ?_
  exact v_iret (I := iX10_seed) rfl dX10_seed_7 ⟨by rw [hR.1]; rfl, rfl, by rw [show up2 σ 88 18 v = va_up σ 88 (va_up (σ 88) 18 v) from rfl, hR.1]; exact RR_row hR (IV_z hR.2.2.2.2.2.2.2.2.2.2.2.1), FR.up (by decide)⟩
set_option maxRecDepth 100000 in
set_option maxHeartbeats 4000000 in
theorem m_X8_textOf0 {G : fGm} {σ : fSt} {τ : fLt} {w : Nat} {x : Int32} (hw : w < 3) (hx : x = 0) : MS G iX8_textOf 0 [.ref (wc w 0), .int x] σ τ (rT (some (.ref (wc w 12))) σ τ) := by
  refine ms_of (by decide +kernel) (Nat.le_of_ble_eq_true rfl) ?_
  show VW _ _ _ _ _ _ 0 [(0, _), (1, _)] []
  refine v_iload_n (I := iX8_textOf) dX8_textOf_0 rfl ?_
  refine v_if_ne (I := iX8_textOf) (tgt := 11) dX8_textOf_1 (by decide) (fun c1 => ?_) (fun c1 => ?_)
  · exact absurd hx c1
  · refine v_aload_n (I := iX8_textOf) dX8_textOf_4 rfl ?_
    refine v_get (I := iX8_textOf) g_X8_40 dX8_textOf_5 (wc_lt hw (by decide)) (ae_w0 hw _ _) rfl ?_
    refine v_goto (I := iX8_textOf) (tgt := 15) dX8_textOf_8 (by decide) ?_
    exact v_aret (I := iX8_textOf) rfl (Or.inl ⟨_, rfl⟩) dX8_textOf_15 ⟨by first | rfl | (simp only [*]; done) | (simp [*]; done), rfl, rfl⟩
set_option maxRecDepth 100000 in
set_option maxHeartbeats 4000000 in
theorem m_X8_textOf1 {G : fGm} {σ : fSt} {τ : fLt} {w : Nat} {x : Int32} (hw : w < 3) (hx : x = 1) : MS G iX8_textOf 0 [.ref (wc w 0), .int x] σ τ (rT (some (.ref (wc w 15))) σ τ) := by
  refine ms_of (by decide +kernel) (Nat.le_of_ble_eq_true rfl) ?_
  show VW _ _ _ _ _ _ 0 [(0, _), (1, _)] []
  refine v_iload_n (I := iX8_textOf) dX8_textOf_0 rfl ?_
  refine v_if_ne (I := iX8_textOf) (tgt := 11) dX8_textOf_1 (by decide) (fun c1 => ?_) (fun c1 => ?_)
  · refine v_aload_n (I := iX8_textOf) dX8_textOf_11 rfl ?_
    refine v_get (I := iX8_textOf) g_X8_44 dX8_textOf_12 (wc_lt hw (by decide)) (ae_w0 hw _ _) rfl ?_
    exact v_aret (I := iX8_textOf) rfl (Or.inl ⟨_, rfl⟩) dX8_textOf_15 ⟨by first | rfl | (simp only [*]; done) | (simp [*]; done), rfl, rfl⟩
  · exact absurd hx (by rw [c1]; decide)
set_option maxRecDepth 100000 in
set_option maxHeartbeats 8000000 in
theorem m_X9_untell {G : fGm} {σ : fSt} {τ : fLt} {ρ : fSt} (hC : CR σ ρ) {u : Int32} : MS G iX9_untell 2 [.ref 0, .int u] σ τ (rC τ σ (untellS ρ u)) := by
  refine ms_of (by decide +kernel) (Nat.le_of_ble_eq_true rfl) ?_
  show VW _ _ _ _ _ _ 0 [(0, _), (1, _)] []
  refine v_iload_n (I := iX9_untell) dX9_untell_0 rfl ?_
  refine v_iconst (I := iX9_untell) (v := 0) dX9_untell_1 (by decide) ?_
  refine v_iconst (I := iX9_untell) (v := 1) dX9_untell_2 (by decide) ?_
  refine v_callSi (I := iX9_untell) (I' := iX9_within) lk_X9_58 c_X9_within dX9_untell_3 (m_X9_within) rfl rfl (by decide) (by decide) (Nat.le_of_ble_eq_true rfl) ?_
  refine v_if_neB (I := iX9_untell) (tgt := 15) dX9_untell_6 (by decide) (fun c6 => ?_) (fun c6 => ?_)
  rcases (show u = 0 ∨ u = 1 by grind) with hu0 | hu1
  · skip
    refine v_aload_n (I := iX9_untell) dX9_untell_15 rfl ?_
    refine v_get (I := iX9_untell) g_X9_10 dX9_untell_16 (by decide) (ae_0 _ _) rfl ?_
    refine v_iload_n (I := iX9_untell) dX9_untell_19 rfl ?_
    refine v_callVr (I := iX9_untell) (I' := iX8_textOf) lk_X9_181 c_X8_textOf dX9_untell_20 (m_X8_textOf0 (by decide) hu0) rfl rfl (by decide) (ae_w0 (by decide) _ _) rfl (by decide) (by decide) (Nat.le_of_ble_eq_true rfl) ?_
    refine v_astore_n (I := iX9_untell) (ls1 := [(2, _), (0, _), (1, _)]) dX9_untell_23 (by decide) rfl ?_
    refine v_aload_n (I := iX9_untell) dX9_untell_24 rfl ?_
    refine v_get (I := iX9_untell) g_X9_195 dX9_untell_25 (by decide) (ae_w12 (by decide) _ _) rfl ?_
    rw [show σ (wc 0 12) 1 = ρ 88 (171 + 62 * 0) from hC.1.2.1.1]
    refine v_if_le (I := iX9_untell) (tgt := 35) dX9_untell_28 (by decide) (fun c28 => ?_) (fun c28 => ?_)
    · refine v_iconst (I := iX9_untell) (v := 0) dX9_untell_35 (by decide) ?_
      refine v_istore_n (I := iX9_untell) (ls1 := [(3, _), (2, _), (0, _), (1, _)]) dX9_untell_36 (by decide) rfl ?_
      refine v_aload_n (I := iX9_untell) dX9_untell_37 rfl ?_
      refine v_iconst (I := iX9_untell) (v := 0) dX9_untell_38 (by decide) ?_
      refine v_putI (I := iX9_untell) p_X9_195 dX9_untell_39 (by decide) (ae_w12 (by decide) _ _) (ae_w12 (by decide) _ _) rfl rfl (by simp) ?_
      refine v_iload_n (I := iX9_untell) dX9_untell_42 rfl ?_
      exact v_iret (I := iX9_untell) rfl dX9_untell_43 (by unfold untellS; rw [if_pos (by grind), show u.toNatClampNeg = 0 by rw [hu0]; rfl]; exact ⟨by dsimp only; first | rw [if_pos (by grind)] | rw [if_neg (by grind)], rfl, CR_row hC (V_untell (u := 0) (by decide) hC.2.2.2.2.2.1 hC.1) (FrW.up (by decide)) (IV_untell (by decide) hC.2.2.2.2.2.1), FC.up (by decide)⟩)
    · refine v_iconst (I := iX9_untell) (v := 1) dX9_untell_31 (by decide) ?_
      refine v_goto (I := iX9_untell) (tgt := 36) dX9_untell_32 (by decide) ?_
      refine v_istore_n (I := iX9_untell) (ls1 := [(3, _), (2, _), (0, _), (1, _)]) dX9_untell_36 (by decide) rfl ?_
      refine v_aload_n (I := iX9_untell) dX9_untell_37 rfl ?_
      refine v_iconst (I := iX9_untell) (v := 0) dX9_untell_38 (by decide) ?_
      refine v_putI (I := iX9_untell) p_X9_195 dX9_untell_39 (by decide) (ae_w12 (by decide) _ _) (ae_w12 (by decide) _ _) rfl rfl (by simp) ?_
      refine v_iload_n (I := iX9_untell) dX9_untell_42 rfl ?_
      exact v_iret (I := iX9_untell) rfl dX9_untell_43 (by unfold untellS; rw [if_pos (by grind), show u.toNatClampNeg = 0 by rw [hu0]; rfl]; exact ⟨by dsimp only; first | rw [if_pos (by grind)] | rw [if_neg (by grind)], rfl, CR_row hC (V_untell (u := 0) (by decide) hC.2.2.2.2.2.1 hC.1) (FrW.up (by decide)) (IV_untell (by decide) hC.2.2.2.2.2.1), FC.up (by decide)⟩)
  · skip
    refine v_aload_n (I := iX9_untell) dX9_untell_15 rfl ?_
    refine v_get (I := iX9_untell) g_X9_10 dX9_untell_16 (by decide) (ae_0 _ _) rfl ?_
    refine v_iload_n (I := iX9_untell) dX9_untell_19 rfl ?_
    refine v_callVr (I := iX9_untell) (I' := iX8_textOf) lk_X9_181 c_X8_textOf dX9_untell_20 (m_X8_textOf1 (by decide) hu1) rfl rfl (by decide) (ae_w0 (by decide) _ _) rfl (by decide) (by decide) (Nat.le_of_ble_eq_true rfl) ?_
    refine v_astore_n (I := iX9_untell) (ls1 := [(2, _), (0, _), (1, _)]) dX9_untell_23 (by decide) rfl ?_
    refine v_aload_n (I := iX9_untell) dX9_untell_24 rfl ?_
    refine v_get (I := iX9_untell) g_X9_195 dX9_untell_25 (by decide) (ae_w15 (by decide) _ _) rfl ?_
    rw [show σ (wc 0 15) 1 = ρ 88 (171 + 62 * 1) from hC.1.2.2.1]
    refine v_if_le (I := iX9_untell) (tgt := 35) dX9_untell_28 (by decide) (fun c28 => ?_) (fun c28 => ?_)
    · refine v_iconst (I := iX9_untell) (v := 0) dX9_untell_35 (by decide) ?_
      refine v_istore_n (I := iX9_untell) (ls1 := [(3, _), (2, _), (0, _), (1, _)]) dX9_untell_36 (by decide) rfl ?_
      refine v_aload_n (I := iX9_untell) dX9_untell_37 rfl ?_
      refine v_iconst (I := iX9_untell) (v := 0) dX9_untell_38 (by decide) ?_
      refine v_putI (I := iX9_untell) p_X9_195 dX9_untell_39 (by decide) (ae_w15 (by decide) _ _) (ae_w15 (by decide) _ _) rfl rfl (by simp) ?_
      refine v_iload_n (I := iX9_untell) dX9_untell_42 rfl ?_
      exact v_iret (I := iX9_untell) rfl dX9_untell_43 (by unfold untellS; rw [if_pos (by grind), show u.toNatClampNeg = 1 by rw [hu1]; rfl]; exact ⟨by dsimp only; first | rw [if_pos (by grind)] | rw [if_neg (by grind)], rfl, CR_row hC (V_untell (u := 1) (by decide) hC.2.2.2.2.2.1 hC.1) (FrW.up (by decide)) (IV_untell (by decide) hC.2.2.2.2.2.1), FC.up (by decide)⟩)
    · refine v_iconst (I := iX9_untell) (v := 1) dX9_untell_31 (by decide) ?_
      refine v_goto (I := iX9_untell) (tgt := 36) dX9_untell_32 (by decide) ?_
      refine v_istore_n (I := iX9_untell) (ls1 := [(3, _), (2, _), (0, _), (1, _)]) dX9_untell_36 (by decide) rfl ?_
      refine v_aload_n (I := iX9_untell) dX9_untell_37 rfl ?_
      refine v_iconst (I := iX9_untell) (v := 0) dX9_untell_38 (by decide) ?_
      refine v_putI (I := iX9_untell) p_X9_195 dX9_untell_39 (by decide) (ae_w15 (by decide) _ _) (ae_w15 (by decide) _ _) rfl rfl (by simp) ?_
      refine v_iload_n (I := iX9_untell) dX9_untell_42 rfl ?_
      exact v_iret (I := iX9_untell) rfl dX9_untell_43 (by unfold untellS; rw [if_pos (by grind), show u.toNatClampNeg = 1 by rw [hu1]; rfl]; exact ⟨by dsimp only; first | rw [if_pos (by grind)] | rw [if_neg (by grind)], rfl, CR_row hC (V_untell (u := 1) (by decide) hC.2.2.2.2.2.1 hC.1) (FrW.up (by decide)) (IV_untell (by decide) hC.2.2.2.2.2.1), FC.up (by decide)⟩)
  · refine v_aload_n (I := iX9_untell) dX9_untell_9 rfl ?_
    refine v_iconst (I := iX9_untell) (v := 1) dX9_untell_10 (by decide) ?_
    refine v_callVi (I := iX9_untell) (I' := iX9_refused) lk_X9_62 c_X9_refused dX9_untell_11 (m_X9_refused (e := 1) (by decide) (by decide) (by decide)) rfl rfl (by decide) (ae_0 _ _) rfl (by decide) (by decide) (Nat.le_of_ble_eq_true rfl) ?_
    exact v_iret (I := iX9_untell) rfl dX9_untell_14 (by unfold untellS; rw [if_neg (by grind)]; exact ⟨rfl, rfl, CR_err hC (by decide) (by decide), FC.up (by decide)⟩)
set_option maxRecDepth 100000 in
set_option maxHeartbeats 4000000 in
theorem m_X10_untell {G : fGm} {σ : fSt} {τ : fLt} {ρ : fSt} (hR : RR σ ρ) {u : Int32} : MS G iX10_untell 2 [.ref 87, .int u] σ τ (rR τ σ (untellS ρ u)) := by
  refine ms_of (by decide +kernel) (Nat.le_of_ble_eq_true rfl) ?_
  show VW _ _ _ _ _ _ 0 [(0, _), (1, _)] []
  refine v_iload_n (I := iX10_untell) dX10_untell_0 rfl ?_
  refine v_iconst (I := iX10_untell) (v := 0) dX10_untell_1 (by decide) ?_
  refine v_iconst (I := iX10_untell) (v := 1) dX10_untell_2 (by decide) ?_
  refine v_callSi (I := iX10_untell) (I' := iX10_within) lk_X10_79 c_X10_within dX10_untell_3 (m_X10_within) rfl rfl (by decide) (by decide) (Nat.le_of_ble_eq_true rfl) ?_
  refine v_if_eqB (I := iX10_untell) (tgt := 33) dX10_untell_6 (by decide) (fun c6 => ?_) (fun c6 => ?_)
  · refine v_aload_n (I := iX10_untell) dX10_untell_33 rfl ?_
    refine v_ldc (I := iX10_untell) k_X10_91 dX10_untell_34 ?_
    refine v_callVi (I := iX10_untell) (I' := iX10_finding) lk_X10_92 c_X10_finding dX10_untell_36 (m_X10_findE (e := 1) (by decide) (by decide)) rfl rfl (by decide) (ae_87 _ _) rfl (by decide) (by decide) (Nat.le_of_ble_eq_true rfl) ?_
    exact v_iret (I := iX10_untell) rfl dX10_untell_39 (by
      unfold untellS
      first
      | (rw [if_neg (by grind)]; exact ⟨rfl, rfl, RR_err hR, FR.up (by decide)⟩)
      | (rw [if_pos (by grind), hqc]; exact ⟨by dsimp only; first | rw [if_pos (by grind)] | rw [if_neg (by grind)], rfl, by rw [show up2 σ 88 (171 + 62 * q) 0 = va_up σ 88 (va_up (σ 88) (171 + 62 * q) 0) from rfl, hR.1]; exact RR_row hR (IV_untell hq hR.2.2.2.2.2.2.2.2.2.2.2.1), FR.up (by decide)⟩))
  · obtain ⟨q, hq, hqx⟩ : ∃ q, q < 2 ∧ u = nI q := in2_nI (by decide) ⟨by grind, by show u < 2; grind⟩
    have hqc : u.toNatClampNeg = q := by rw [hqx]; exact nI_clamp (by omega)
    refine v_aload_n (I := iX10_untell) dX10_untell_9 rfl ?_
    refine v_sipush (I := iX10_untell) (v := 171) dX10_untell_10 (by decide) ?_
    refine v_bipush (I := iX10_untell) (v := 62) dX10_untell_13 (by decide) ?_
    refine v_iload_n (I := iX10_untell) dX10_untell_15 rfl ?_
    refine v_imul (I := iX10_untell) dX10_untell_16 ?_
    refine v_iadd (I := iX10_untell) dX10_untell_17 ?_
    refine v_iconst (I := iX10_untell) (v := 0) dX10_untell_18 (by decide) ?_
    refine v_callVi (I := iX10_untell) (I' := iX10_become) lk_X10_88 c_X10_become dX10_untell_19 (m_X10_become (j := 171 + 62 * q) (by rw [hqx, show (171 : Int32) = nI 171 from rfl, show (62 : Int32) = nI 62 from rfl, pk_mul, nI_add]) (by omega)) rfl rfl (by decide) (ae_87 _ _) rfl (by decide) (by decide) (Nat.le_of_ble_eq_true rfl) ?_
    rw [hR.1]
    refine v_if_le (I := iX10_untell) (tgt := 29) dX10_untell_22 (by decide) (fun c22 => ?_) (fun c22 => ?_)
    · refine v_iconst (I := iX10_untell) (v := 0) dX10_untell_29 (by decide) ?_
      refine v_goto (I := iX10_untell) (tgt := 39) dX10_untell_30 (by decide) ?_
      exact v_iret (I := iX10_untell) rfl dX10_untell_39 (by
      unfold untellS
      first
      | (rw [if_neg (by grind)]; exact ⟨rfl, rfl, RR_err hR, FR.up (by decide)⟩)
      | (rw [if_pos (by grind), hqc]; exact ⟨by dsimp only; first | rw [if_pos (by grind)] | rw [if_neg (by grind)], rfl, by rw [show up2 σ 88 (171 + 62 * q) 0 = va_up σ 88 (va_up (σ 88) (171 + 62 * q) 0) from rfl, hR.1]; exact RR_row hR (IV_untell hq hR.2.2.2.2.2.2.2.2.2.2.2.1), FR.up (by decide)⟩))
    · refine v_iconst (I := iX10_untell) (v := 1) dX10_untell_25 (by decide) ?_
      refine v_goto (I := iX10_untell) (tgt := 39) dX10_untell_26 (by decide) ?_
      exact v_iret (I := iX10_untell) rfl dX10_untell_39 (by
      unfold untellS
      first
      | (rw [if_neg (by grind)]; exact ⟨rfl, rfl, RR_err hR, FR.up (by decide)⟩)
      | (rw [if_pos (by grind), hqc]; exact ⟨by dsimp only; first | rw [if_pos (by grind)] | rw [if_neg (by grind)], rfl, by rw [show up2 σ 88 (171 + 62 * q) 0 = va_up σ 88 (va_up (σ 88) (171 + 62 * q) 0) from rfl, hR.1]; exact RR_row hR (IV_untell hq hR.2.2.2.2.2.2.2.2.2.2.2.1), FR.up (by decide)⟩))
def tellS (ρ : fSt) (v : Int32) : Int32 × fSt := if ρ 88 17 < 24 then (ρ 88 17 + 1, rowS ρ (va_up (va_up (ρ 88) (147 + (ρ 88 17).toNatClampNeg) v) 17 (ρ 88 17 + 1))) else (errV 4, errS ρ 4)
theorem B_n17 {g : gS} (hB : B g) : 0 ≤ g 17 ∧ g 17 ≤ 24 := hB 17 (by decide)
theorem bnd_wait : ∀ q, q < 24 → bnd (147 + q) = (-2147483648, 2147483647) := by decide +kernel
theorem IV_tell {g : gS} {q : Nat} {v : Int32} (h : IV g) (hn : g 17 = nI q) (hq : q < 24) : IV (va_up (va_up g (147 + q) v) 17 (g 17 + 1)) := by
  refine IV_up (IV_up h ⟨by omega, by omega, by omega, by omega, fun j hj => by omega⟩ (by rw [bnd_wait q hq]; exact ⟨by show (-2147483648 : Int32) ≤ _; grind, by show _ ≤ (2147483647 : Int32); grind⟩)) ⟨by decide, by decide, by decide, by decide, fun j hj => by omega⟩ ?_
  show (0 : Int32) ≤ _ ∧ _ ≤ (24 : Int32)
  rw [hn, nI_1]
  exact ⟨nI_pos' (by omega), nI_le (b := 24) (by omega) (by decide)⟩
theorem V_wait {w : Nat} {σ : fSt} {g : gS} {q : Nat} {x : Int32} (hq : q < 24) (h : V w σ g) : V w (up2 σ (wc w 19) q x) (va_up g (147 + q) x) := by
  have := V_up (147 + q) (x := x) (by omega) h
  rw [loc_wait q hq] at this
  exact this
set_option maxRecDepth 100000 in
set_option maxHeartbeats 4000000 in
theorem m_X9_tell {G : fGm} {σ : fSt} {τ : fLt} {ρ : fSt} (hC : CR σ ρ) {v : Int32} : MS G iX9_tell 2 [.ref 0, .int v] σ τ (rC τ σ (tellS ρ v)) := by
  refine ms_of (by decide +kernel) (Nat.le_of_ble_eq_true rfl) ?_
  show VW _ _ _ _ _ _ 0 [(0, _), (1, _)] []
  refine v_aload_n (I := iX9_tell) dX9_tell_0 rfl ?_
  refine v_get (I := iX9_tell) g_X9_10 dX9_tell_1 (by decide) (ae_0 _ _) rfl ?_
  refine v_get (I := iX9_tell) g_X9_287 dX9_tell_4 (by decide) (ae_w0 (by decide) _ _) rfl ?_
  rw [V_n17 hC.1]
  refine v_bipush (I := iX9_tell) (v := 24) dX9_tell_7 (by decide) ?_
  refine v_icmp_lt (I := iX9_tell) (tgt := 18) dX9_tell_9 (by decide) (fun c9 => ?_) (fun c9 => ?_)
  · obtain ⟨q, hq, hqx⟩ : ∃ q, q < 24 ∧ ρ 88 17 = nI q := in2_nI (by decide) ⟨(B_n17 hC.2.2.2.2.2.1.1).1, by show ρ 88 17 < 24; have := (B_n17 hC.2.2.2.2.2.1.1).2; grind⟩
    have hqc : (ρ 88 17).toNatClampNeg = q := by rw [hqx]; exact nI_clamp (by omega)
    refine v_aload_n (I := iX9_tell) dX9_tell_18 rfl ?_
    refine v_get (I := iX9_tell) g_X9_10 dX9_tell_19 (by decide) (ae_0 _ _) rfl ?_
    refine v_get (I := iX9_tell) g_X9_290 dX9_tell_22 (by decide) (ae_w0 (by decide) _ _) rfl ?_
    refine v_aload_n (I := iX9_tell) dX9_tell_25 rfl ?_
    refine v_get (I := iX9_tell) g_X9_10 dX9_tell_26 (by decide) (ae_0 _ _) rfl ?_
    refine v_get (I := iX9_tell) g_X9_287 dX9_tell_29 (by decide) (ae_w0 (by decide) _ _) rfl ?_
    rw [V_n17 hC.1]
    refine v_iload_n (I := iX9_tell) dX9_tell_32 rfl ?_
    refine v_callSi (I := iX9_tell) (I' := iX9_exchange) lk_X9_78 c_X9_exchange dX9_tell_33 (m_X9_exchange (by decide) (ae_w19 (by decide)) (by decide)) rfl rfl (by decide) (by decide) (Nat.le_of_ble_eq_true rfl) ?_
    rw [wrA_eq hqx hq (by decide)]
    refine v_pop (I := iX9_tell) dX9_tell_36 rfl ?_
    refine v_aload_n (I := iX9_tell) dX9_tell_37 rfl ?_
    refine v_get (I := iX9_tell) g_X9_10 dX9_tell_38 (by decide) (ae_0 _ _) rfl ?_
    refine v_dup (I := iX9_tell) dX9_tell_41 rfl ?_
    refine v_get (I := iX9_tell) g_X9_287 dX9_tell_42 (by decide) (ae_w0 (by decide) _ _) rfl ?_
    rw [up2_k _ _ _ _ (wc_ne (by decide)), V_n17 hC.1]
    refine v_iconst (I := iX9_tell) (v := 1) dX9_tell_45 (by decide) ?_
    refine v_iadd (I := iX9_tell) dX9_tell_46 ?_
    refine v_putI (I := iX9_tell) p_X9_287 dX9_tell_47 (by decide) (ae_w0 (by decide) _ _) (ae_w0 (by decide) _ _) rfl rfl (by simp) ?_
    refine v_aload_n (I := iX9_tell) dX9_tell_50 rfl ?_
    refine v_get (I := iX9_tell) g_X9_10 dX9_tell_51 (by decide) (ae_0 _ _) rfl ?_
    refine v_get (I := iX9_tell) g_X9_287 dX9_tell_54 (by decide) (ae_w0 (by decide) _ _) rfl ?_
    rw [up2_s]
    exact v_iret (I := iX9_tell) rfl dX9_tell_57 (by unfold tellS; rw [if_pos (by grind), hqc]; exact ⟨rfl, rfl, CR_row hC (V_up 17 (by decide) (V_wait hq hC.1)) ((FrW.up (by decide)).tr (FrW.up (by decide))) (IV_tell hC.2.2.2.2.2.1 hqx hq), (FC.up (by decide)).tr (FC.up (by decide))⟩)
  · refine v_aload_n (I := iX9_tell) dX9_tell_12 rfl ?_
    refine v_iconst (I := iX9_tell) (v := 4) dX9_tell_13 (by decide) ?_
    refine v_callVi (I := iX9_tell) (I' := iX9_refused) lk_X9_62 c_X9_refused dX9_tell_14 (m_X9_refused (e := 4) (by decide) (by decide) (by decide)) rfl rfl (by decide) (ae_0 _ _) rfl (by decide) (by decide) (Nat.le_of_ble_eq_true rfl) ?_
    exact v_iret (I := iX9_tell) rfl dX9_tell_17 (by unfold tellS; rw [if_neg (by grind)]; exact ⟨rfl, rfl, CR_err hC (by decide) (by decide), FC.up (by decide)⟩)
set_option maxRecDepth 100000 in
set_option maxHeartbeats 4000000 in
theorem m_X10_tell {G : fGm} {σ : fSt} {τ : fLt} {ρ : fSt} (hR : RR σ ρ) {v : Int32} : MS G iX10_tell 2 [.ref 87, .int v] σ τ (rR τ σ (tellS ρ v)) := by
  refine ms_of (by decide +kernel) (Nat.le_of_ble_eq_true rfl) ?_
  show VW _ _ _ _ _ _ 0 [(0, _), (1, _)] []
  have hb9 := B_n17 hR.2.2.2.2.2.2.2.2.2.2.2.1.1
  refine v_aload_n (I := iX10_tell) dX10_tell_0 rfl ?_
  refine v_get (I := iX10_tell) g_X10_9 dX10_tell_1 (by decide) (ae_87 _ _) rfl ?_
  refine v_bipush (I := iX10_tell) (v := 17) dX10_tell_4 (by decide) ?_
  refine v_ialdN (I := iX10_tell) (j := 17) (by decide) (by decide) (by decide) dX10_tell_6 (by decide) (ae_88 _ _) ?_
  rw [hR.1]
  refine v_bipush (I := iX10_tell) (v := 24) dX10_tell_7 (by decide) ?_
  refine v_icmp_ne (I := iX10_tell) (tgt := 19) dX10_tell_9 (by decide) (fun c9 => ?_) (fun c9 => ?_)
  · obtain ⟨q, hq, hqx⟩ : ∃ q, q < 24 ∧ ρ 88 17 = nI q := in2_nI (by decide) ⟨(B_n17 hR.2.2.2.2.2.2.2.2.2.2.2.1.1).1, by show ρ 88 17 < 24; have := (B_n17 hR.2.2.2.2.2.2.2.2.2.2.2.1.1).2; grind⟩
    have hqc : (ρ 88 17).toNatClampNeg = q := by rw [hqx]; exact nI_clamp (by omega)
    refine v_aload_n (I := iX10_tell) dX10_tell_19 rfl ?_
    refine v_get (I := iX10_tell) g_X10_9 dX10_tell_20 (by decide) (ae_87 _ _) rfl ?_
    refine v_sipush (I := iX10_tell) (v := 147) dX10_tell_23 (by decide) ?_
    refine v_aload_n (I := iX10_tell) dX10_tell_26 rfl ?_
    refine v_get (I := iX10_tell) g_X10_9 dX10_tell_27 (by decide) (ae_87 _ _) rfl ?_
    refine v_bipush (I := iX10_tell) (v := 17) dX10_tell_30 (by decide) ?_
    refine v_ialdN (I := iX10_tell) (j := 17) (by decide) (by decide) (by decide) dX10_tell_32 (by decide) (ae_88 _ _) ?_
    rw [hR.1]
    refine v_iadd (I := iX10_tell) dX10_tell_33 ?_
    refine v_iload_n (I := iX10_tell) dX10_tell_34 rfl ?_
    refine v_iastN (I := iX10_tell) (j := 147 + q) (by rw [hqx, show (147 : Int32) = nI 147 from rfl, nI_add]) (by omega) (by decide) dX10_tell_35 (by decide) (fun _ => ae_88 _ _) ?_
    refine v_aload_n (I := iX10_tell) dX10_tell_36 rfl ?_
    refine v_get (I := iX10_tell) g_X10_9 dX10_tell_37 (by decide) (ae_87 _ _) rfl ?_
    refine v_bipush (I := iX10_tell) (v := 17) dX10_tell_40 (by decide) ?_
    refine v_dup2_11 (I := iX10_tell) dX10_tell_42 rfl rfl ?_
    refine v_ialdN (I := iX10_tell) (j := 17) (by decide) (by decide) (by decide) dX10_tell_43 (by decide) (ae_88 _ _) ?_
    refine v_iconst (I := iX10_tell) (v := 1) dX10_tell_44 (by decide) ?_
    refine v_iadd (I := iX10_tell) dX10_tell_45 ?_
    refine v_iastN (I := iX10_tell) (j := 17) (by decide) (by decide) (by decide) dX10_tell_46 (by decide) (fun _ => ae_88 _ _) ?_
    have e9 : up2 (up2 σ 88 (147 + q) v) 88 17 (up2 σ 88 (147 + q) v 88 17 + 1) = va_up σ 88 (va_up (va_up (ρ 88) (147 + q) v) 17 (ρ 88 17 + 1)) := by
      simp only [up2, va_up_s, va_up_va]
      rw [va_up_o _ _ (show 17 ≠ 147 + q by omega), hR.1]
    rw [e9]
    refine v_aload_n (I := iX10_tell) dX10_tell_47 rfl ?_
    refine v_get (I := iX10_tell) g_X10_9 dX10_tell_48 (by decide) (ae_87 _ _) rfl ?_
    refine v_bipush (I := iX10_tell) (v := 17) dX10_tell_51 (by decide) ?_
    refine v_ialdN (I := iX10_tell) (j := 17) (by decide) (by decide) (by decide) dX10_tell_53 (by decide) (ae_88 _ _) ?_
    exact v_iret (I := iX10_tell) rfl dX10_tell_54 (by unfold tellS; rw [if_pos (by grind), hqc]; exact ⟨by rw [va_up_s, va_up_s], rfl, RR_row hR (IV_tell hR.2.2.2.2.2.2.2.2.2.2.2.1 hqx hq), FR.va (by decide)⟩)
  · refine v_aload_n (I := iX10_tell) dX10_tell_12 rfl ?_
    refine v_ldc (I := iX10_tell) k_X10_100 dX10_tell_13 ?_
    refine v_callVi (I := iX10_tell) (I' := iX10_finding) lk_X10_92 c_X10_finding dX10_tell_15 (m_X10_findE (e := 4) (by decide) (by decide)) rfl rfl (by decide) (ae_87 _ _) rfl (by decide) (by decide) (Nat.le_of_ble_eq_true rfl) ?_
    exact v_iret (I := iX10_tell) rfl dX10_tell_18 (by unfold tellS; rw [if_neg (by grind)]; exact ⟨rfl, rfl, RR_err hR, FR.up (by decide)⟩)
def toldS (ρ : fSt) (k : Int32) : Int32 × fSt := if 1 ≤ k ∧ k ≤ 6 then (ρ 91 k.toNatClampNeg, ρ) else (errV 1, errS ρ 1)
set_option maxRecDepth 100000 in
set_option maxHeartbeats 4000000 in
theorem m_X9_told {G : fGm} {σ : fSt} {τ : fLt} {ρ : fSt} (hC : CR σ ρ) {k : Int32} : MS G iX9_told 2 [.ref 0, .int k] σ τ (rC τ σ (toldS ρ k)) := by
  refine ms_of (by decide +kernel) (Nat.le_of_ble_eq_true rfl) ?_
  show VW _ _ _ _ _ _ 0 [(0, _), (1, _)] []
  refine v_iload_n (I := iX9_told) dX9_told_0 rfl ?_
  refine v_iconst (I := iX9_told) (v := 1) dX9_told_1 (by decide) ?_
  refine v_bipush (I := iX9_told) (v := 6) dX9_told_2 (by decide) ?_
  refine v_callSi (I := iX9_told) (I' := iX9_within) lk_X9_58 c_X9_within dX9_told_4 (m_X9_within) rfl rfl (by decide) (by decide) (Nat.le_of_ble_eq_true rfl) ?_
  refine v_if_neB (I := iX9_told) (tgt := 16) dX9_told_7 (by decide) (fun c7 => ?_) (fun c7 => ?_)
  · obtain ⟨q, hq, hqx⟩ : ∃ q, q < 7 ∧ k = nI q := in2_nI (by decide) ⟨by grind, by show k < 7; grind⟩
    have hqc : k.toNatClampNeg = q := by rw [hqx]; exact nI_clamp (by omega)
    have hq1 : 1 ≤ q := by
      rcases Nat.eq_zero_or_pos q with h9 | h9
      · subst h9; exact absurd (show (1 : Int32) ≤ nI 0 by rw [← hqx]; grind) (by decide)
      · exact h9
    refine v_aload_n (I := iX9_told) dX9_told_16 rfl ?_
    refine v_get (I := iX9_told) g_X9_42 dX9_told_17 (by decide) (ae_0 _ _) rfl ?_
    refine v_iload_n (I := iX9_told) dX9_told_20 rfl ?_
    refine v_iconst (I := iX9_told) (v := 1) dX9_told_21 (by decide) ?_
    refine v_isub (I := iX9_told) dX9_told_22 ?_
    refine v_callSi (I := iX9_told) (I' := iX9_at) lk_X9_104 c_X9_at dX9_told_23 (m_X9_at (by decide) (ae_84) (by decide)) rfl rfl (by decide) (by decide) (Nat.le_of_ble_eq_true rfl) ?_
    rw [rdA_eq (j := q - 1) (by rw [hqx, show (1 : Int32) = nI 1 from rfl]; exact pk_sub hq1) (by omega) (by decide), hC.2.2.1 q hq1 (by omega)]
    exact v_iret (I := iX9_told) rfl dX9_told_26 (by unfold toldS; rw [if_pos (by grind), hqc]; exact ⟨rfl, rfl, hC, FC.rf⟩)
  · refine v_aload_n (I := iX9_told) dX9_told_10 rfl ?_
    refine v_iconst (I := iX9_told) (v := 1) dX9_told_11 (by decide) ?_
    refine v_callVi (I := iX9_told) (I' := iX9_refused) lk_X9_62 c_X9_refused dX9_told_12 (m_X9_refused (e := 1) (by decide) (by decide) (by decide)) rfl rfl (by decide) (ae_0 _ _) rfl (by decide) (by decide) (Nat.le_of_ble_eq_true rfl) ?_
    exact v_iret (I := iX9_told) rfl dX9_told_15 (by unfold toldS; rw [if_neg (by grind)]; exact ⟨rfl, rfl, CR_err hC (by decide) (by decide), FC.up (by decide)⟩)
set_option maxRecDepth 100000 in
set_option maxHeartbeats 4000000 in
theorem m_X10_told {G : fGm} {σ : fSt} {τ : fLt} {ρ : fSt} (hR : RR σ ρ) {k : Int32} : MS G iX10_told 2 [.ref 87, .int k] σ τ (rR τ σ (toldS ρ k)) := by
  refine ms_of (by decide +kernel) (Nat.le_of_ble_eq_true rfl) ?_
  show VW _ _ _ _ _ _ 0 [(0, _), (1, _)] []
  refine v_iload_n (I := iX10_told) dX10_told_0 rfl ?_
  refine v_iconst (I := iX10_told) (v := 1) dX10_told_1 (by decide) ?_
  refine v_bipush (I := iX10_told) (v := 6) dX10_told_2 (by decide) ?_
  refine v_callSi (I := iX10_told) (I' := iX10_within) lk_X10_79 c_X10_within dX10_told_4 (m_X10_within) rfl rfl (by decide) (by decide) (Nat.le_of_ble_eq_true rfl) ?_
  refine v_if_eqB (I := iX10_told) (tgt := 19) dX10_told_7 (by decide) (fun c7 => ?_) (fun c7 => ?_)
  · refine v_aload_n (I := iX10_told) dX10_told_19 rfl ?_
    refine v_ldc (I := iX10_told) k_X10_91 dX10_told_20 ?_
    refine v_callVi (I := iX10_told) (I' := iX10_finding) lk_X10_92 c_X10_finding dX10_told_22 (m_X10_findE (e := 1) (by decide) (by decide)) rfl rfl (by decide) (ae_87 _ _) rfl (by decide) (by decide) (Nat.le_of_ble_eq_true rfl) ?_
    exact v_iret (I := iX10_told) rfl dX10_told_25 (by
      unfold toldS
      first
      | (rw [if_neg (by grind)]; exact ⟨rfl, rfl, RR_err hR, FR.up (by decide)⟩)
      | (rw [if_pos (by grind), hqc]; exact ⟨by rw [hR.2.2.1], rfl, hR, FR.rf⟩))
  · obtain ⟨q, hq, hqx⟩ : ∃ q, q < 7 ∧ k = nI q := in2_nI (by decide) ⟨by grind, by show k < 7; grind⟩
    have hqc : k.toNatClampNeg = q := by rw [hqx]; exact nI_clamp (by omega)
    have hq1 : 1 ≤ q := by
      rcases Nat.eq_zero_or_pos q with h9 | h9
      · subst h9; exact absurd (show (1 : Int32) ≤ nI 0 by rw [← hqx]; grind) (by decide)
      · exact h9
    refine v_aload_n (I := iX10_told) dX10_told_10 rfl ?_
    refine v_get (I := iX10_told) g_X10_19 dX10_told_11 (by decide) (ae_87 _ _) rfl ?_
    refine v_iload_n (I := iX10_told) dX10_told_14 rfl ?_
    refine v_ialdN (I := iX10_told) (j := q) hqx hq (by decide) dX10_told_15 (by decide) (ae_91 _ _) ?_
    refine v_goto (I := iX10_told) (tgt := 25) dX10_told_16 (by decide) ?_
    exact v_iret (I := iX10_told) rfl dX10_told_25 (by
      unfold toldS
      first
      | (rw [if_neg (by grind)]; exact ⟨rfl, rfl, RR_err hR, FR.up (by decide)⟩)
      | (rw [if_pos (by grind), hqc]; exact ⟨by rw [hR.2.2.1], rfl, hR, FR.rf⟩))
def countS (ρ : fSt) (k : Int32) : Int32 × fSt := if k = 0 then (ρ 88 14, ρ) else if k = 1 then (ρ 88 15, ρ) else if k = 2 then (ρ 88 16, ρ) else if k = 3 then (ρ 88 17, ρ) else if k = 4 then (ρ 87 21, ρ) else if k = 5 then (ρ 88 18, ρ) else (errV 1, errS ρ 1)
set_option maxRecDepth 100000 in
set_option maxHeartbeats 4000000 in
theorem m_X9_count {G : fGm} {σ : fSt} {τ : fLt} {ρ : fSt} (hC : CR σ ρ) {k : Int32} : MS G iX9_count 2 [.ref 0, .int k] σ τ (rC τ σ (countS ρ k)) := by
  refine ms_of (by decide +kernel) (Nat.le_of_ble_eq_true rfl) ?_
  show VW _ _ _ _ _ _ 0 [(0, _), (1, _)] []
  refine v_iload_n (I := iX9_count) dX9_count_0 rfl ?_
  by_cases s1_0 : k = 0
  · refine v_tabIn (I := iX9_count) (tgt := 40) (off := 39) (v := 0) dX9_count_1 s1_0 (by decide) (by decide) (by decide) (by decide) ?_
    refine v_aload_n (I := iX9_count) dX9_count_40 rfl ?_
    refine v_get (I := iX9_count) g_X9_10 dX9_count_41 (by decide) (ae_0 _ _) rfl ?_
    refine v_get (I := iX9_count) g_X9_66 dX9_count_44 (by decide) (ae_w0 (by decide) _ _) rfl ?_
    refine v_get (I := iX9_count) g_X9_86 dX9_count_47 (by decide) (ae_w2 (by decide) _ _) rfl ?_
    rw [V_n14 hC.1]
    exact v_iret (I := iX9_count) rfl dX9_count_50 (by unfold countS; rw [s1_0]; exact ⟨rfl, rfl, hC, FC.rf⟩)
  by_cases s1_1 : k = 1
  · refine v_tabIn (I := iX9_count) (tgt := 51) (off := 50) (v := 1) dX9_count_1 s1_1 (by decide) (by decide) (by decide) (by decide) ?_
    refine v_aload_n (I := iX9_count) dX9_count_51 rfl ?_
    refine v_get (I := iX9_count) g_X9_10 dX9_count_52 (by decide) (ae_0 _ _) rfl ?_
    refine v_get (I := iX9_count) g_X9_120 dX9_count_55 (by decide) (ae_w0 (by decide) _ _) rfl ?_
    refine v_get (I := iX9_count) g_X9_124 dX9_count_58 (by decide) (ae_w8 (by decide) _ _) rfl ?_
    rw [V_n15 hC.1]
    exact v_iret (I := iX9_count) rfl dX9_count_61 (by unfold countS; rw [s1_1]; exact ⟨rfl, rfl, hC, FC.rf⟩)
  by_cases s1_2 : k = 2
  · refine v_tabIn (I := iX9_count) (tgt := 62) (off := 61) (v := 2) dX9_count_1 s1_2 (by decide) (by decide) (by decide) (by decide) ?_
    refine v_aload_n (I := iX9_count) dX9_count_62 rfl ?_
    refine v_get (I := iX9_count) g_X9_10 dX9_count_63 (by decide) (ae_0 _ _) rfl ?_
    refine v_get (I := iX9_count) g_X9_167 dX9_count_66 (by decide) (ae_w0 (by decide) _ _) rfl ?_
    rw [V_n16 hC.1]
    exact v_iret (I := iX9_count) rfl dX9_count_69 (by unfold countS; rw [s1_2]; exact ⟨rfl, rfl, hC, FC.rf⟩)
  by_cases s1_3 : k = 3
  · refine v_tabIn (I := iX9_count) (tgt := 70) (off := 69) (v := 3) dX9_count_1 s1_3 (by decide) (by decide) (by decide) (by decide) ?_
    refine v_aload_n (I := iX9_count) dX9_count_70 rfl ?_
    refine v_get (I := iX9_count) g_X9_10 dX9_count_71 (by decide) (ae_0 _ _) rfl ?_
    refine v_get (I := iX9_count) g_X9_287 dX9_count_74 (by decide) (ae_w0 (by decide) _ _) rfl ?_
    rw [V_n17 hC.1]
    exact v_iret (I := iX9_count) rfl dX9_count_77 (by unfold countS; rw [s1_3]; exact ⟨rfl, rfl, hC, FC.rf⟩)
  by_cases s1_4 : k = 4
  · refine v_tabIn (I := iX9_count) (tgt := 78) (off := 77) (v := 4) dX9_count_1 s1_4 (by decide) (by decide) (by decide) (by decide) ?_
    refine v_aload_n (I := iX9_count) dX9_count_78 rfl ?_
    refine v_get (I := iX9_count) g_X9_49 dX9_count_79 (by decide) (ae_0 _ _) rfl ?_
    refine v_get (I := iX9_count) g_X9_254 dX9_count_82 (by decide) (ae_85 _ _) rfl ?_
    rw [hC.2.2.2.2.1.1]
    exact v_iret (I := iX9_count) rfl dX9_count_85 (by unfold countS; rw [s1_4]; exact ⟨rfl, rfl, hC, FC.rf⟩)
  by_cases s1_5 : k = 5
  · refine v_tabIn (I := iX9_count) (tgt := 86) (off := 85) (v := 5) dX9_count_1 s1_5 (by decide) (by decide) (by decide) (by decide) ?_
    refine v_aload_n (I := iX9_count) dX9_count_86 rfl ?_
    refine v_get (I := iX9_count) g_X9_10 dX9_count_87 (by decide) (ae_0 _ _) rfl ?_
    refine v_get (I := iX9_count) g_X9_114 dX9_count_90 (by decide) (ae_w0 (by decide) _ _) rfl ?_
    refine v_bipush (I := iX9_count) (v := 14) dX9_count_93 (by decide) ?_
    refine v_ialdN (I := iX9_count) (j := 14) (by decide) (by decide) (by decide) dX9_count_95 (by decide) (ae_w1 (by decide) _ _) ?_
    rw [V_z hC.1]
    exact v_iret (I := iX9_count) rfl dX9_count_96 (by unfold countS; rw [s1_5]; exact ⟨rfl, rfl, hC, FC.rf⟩)
  refine v_tabDef (I := iX9_count) (tgt := 97) dX9_count_1 (by decide) (fun off h1 h2 ho => ?_) (by decide) ?_
  · obtain ⟨j, hj, hjx⟩ := i32_rng (n := 6) h1 h2 (by decide)
    match j, hj with
    | 0, _ => exact absurd (hjx.trans (by decide)) s1_0
    | 1, _ => exact absurd (hjx.trans (by decide)) s1_1
    | 2, _ => exact absurd (hjx.trans (by decide)) s1_2
    | 3, _ => exact absurd (hjx.trans (by decide)) s1_3
    | 4, _ => exact absurd (hjx.trans (by decide)) s1_4
    | 5, _ => exact absurd (hjx.trans (by decide)) s1_5
    | j + 6, h => omega
  refine v_aload_n (I := iX9_count) dX9_count_97 rfl ?_
  refine v_iconst (I := iX9_count) (v := 1) dX9_count_98 (by decide) ?_
  refine v_callVi (I := iX9_count) (I' := iX9_refused) lk_X9_62 c_X9_refused dX9_count_99 (m_X9_refused (e := 1) (by decide) (by decide) (by decide)) rfl rfl (by decide) (ae_0 _ _) rfl (by decide) (by decide) (Nat.le_of_ble_eq_true rfl) ?_
  exact v_iret (I := iX9_count) rfl dX9_count_102 (by unfold countS; simp only [s1_0, s1_1, s1_2, s1_3, s1_4, s1_5, if_false]; exact ⟨rfl, rfl, CR_err hC (by decide) (by decide), FC.up (by decide)⟩)
set_option maxRecDepth 100000 in
set_option maxHeartbeats 4000000 in
theorem m_X10_count {G : fGm} {σ : fSt} {τ : fLt} {ρ : fSt} (hR : RR σ ρ) {k : Int32} : MS G iX10_count 2 [.ref 87, .int k] σ τ (rR τ σ (countS ρ k)) := by
  refine ms_of (by decide +kernel) (Nat.le_of_ble_eq_true rfl) ?_
  show VW _ _ _ _ _ _ 0 [(0, _), (1, _)] []
  refine v_iload_n (I := iX10_count) dX10_count_0 rfl ?_
  by_cases s1_0 : k = 0
  · refine v_tabIn (I := iX10_count) (tgt := 40) (off := 39) (v := 0) dX10_count_1 s1_0 (by decide) (by decide) (by decide) (by decide) ?_
    obtain ⟨q, hq, hqx⟩ : ∃ q, q < 4 ∧ k = nI q := by first | exact ⟨0, by decide, s1_0⟩ | exact ⟨1, by decide, s1_1⟩ | exact ⟨2, by decide, s1_2⟩ | exact ⟨3, by decide, s1_3⟩
    refine v_aload_n (I := iX10_count) dX10_count_40 rfl ?_
    refine v_get (I := iX10_count) g_X10_9 dX10_count_41 (by decide) (ae_87 _ _) rfl ?_
    refine v_bipush (I := iX10_count) (v := 14) dX10_count_44 (by decide) ?_
    refine v_iload_n (I := iX10_count) dX10_count_46 rfl ?_
    refine v_iadd (I := iX10_count) dX10_count_47 ?_
    refine v_ialdN (I := iX10_count) (j := 14 + q) (by rw [hqx, show (14 : Int32) = nI 14 from rfl, nI_add]) (by omega) (by decide) dX10_count_48 (by decide) (ae_88 _ _) ?_
    exact v_iret (I := iX10_count) rfl dX10_count_49 (by unfold countS; rw [hR.1, hqx]; rcases (show q = 0 ∨ q = 1 ∨ q = 2 ∨ q = 3 by omega) with rfl | rfl | rfl | rfl <;> exact ⟨rfl, rfl, hR, FR.rf⟩)
  by_cases s1_1 : k = 1
  · refine v_tabIn (I := iX10_count) (tgt := 40) (off := 39) (v := 1) dX10_count_1 s1_1 (by decide) (by decide) (by decide) (by decide) ?_
    obtain ⟨q, hq, hqx⟩ : ∃ q, q < 4 ∧ k = nI q := by first | exact ⟨0, by decide, s1_0⟩ | exact ⟨1, by decide, s1_1⟩ | exact ⟨2, by decide, s1_2⟩ | exact ⟨3, by decide, s1_3⟩
    refine v_aload_n (I := iX10_count) dX10_count_40 rfl ?_
    refine v_get (I := iX10_count) g_X10_9 dX10_count_41 (by decide) (ae_87 _ _) rfl ?_
    refine v_bipush (I := iX10_count) (v := 14) dX10_count_44 (by decide) ?_
    refine v_iload_n (I := iX10_count) dX10_count_46 rfl ?_
    refine v_iadd (I := iX10_count) dX10_count_47 ?_
    refine v_ialdN (I := iX10_count) (j := 14 + q) (by rw [hqx, show (14 : Int32) = nI 14 from rfl, nI_add]) (by omega) (by decide) dX10_count_48 (by decide) (ae_88 _ _) ?_
    exact v_iret (I := iX10_count) rfl dX10_count_49 (by unfold countS; rw [hR.1, hqx]; rcases (show q = 0 ∨ q = 1 ∨ q = 2 ∨ q = 3 by omega) with rfl | rfl | rfl | rfl <;> exact ⟨rfl, rfl, hR, FR.rf⟩)
  by_cases s1_2 : k = 2
  · refine v_tabIn (I := iX10_count) (tgt := 40) (off := 39) (v := 2) dX10_count_1 s1_2 (by decide) (by decide) (by decide) (by decide) ?_
    obtain ⟨q, hq, hqx⟩ : ∃ q, q < 4 ∧ k = nI q := by first | exact ⟨0, by decide, s1_0⟩ | exact ⟨1, by decide, s1_1⟩ | exact ⟨2, by decide, s1_2⟩ | exact ⟨3, by decide, s1_3⟩
    refine v_aload_n (I := iX10_count) dX10_count_40 rfl ?_
    refine v_get (I := iX10_count) g_X10_9 dX10_count_41 (by decide) (ae_87 _ _) rfl ?_
    refine v_bipush (I := iX10_count) (v := 14) dX10_count_44 (by decide) ?_
    refine v_iload_n (I := iX10_count) dX10_count_46 rfl ?_
    refine v_iadd (I := iX10_count) dX10_count_47 ?_
    refine v_ialdN (I := iX10_count) (j := 14 + q) (by rw [hqx, show (14 : Int32) = nI 14 from rfl, nI_add]) (by omega) (by decide) dX10_count_48 (by decide) (ae_88 _ _) ?_
    exact v_iret (I := iX10_count) rfl dX10_count_49 (by unfold countS; rw [hR.1, hqx]; rcases (show q = 0 ∨ q = 1 ∨ q = 2 ∨ q = 3 by omega) with rfl | rfl | rfl | rfl <;> exact ⟨rfl, rfl, hR, FR.rf⟩)
  by_cases s1_3 : k = 3
  · refine v_tabIn (I := iX10_count) (tgt := 40) (off := 39) (v := 3) dX10_count_1 s1_3 (by decide) (by decide) (by decide) (by decide) ?_
    obtain ⟨q, hq, hqx⟩ : ∃ q, q < 4 ∧ k = nI q := by first | exact ⟨0, by decide, s1_0⟩ | exact ⟨1, by decide, s1_1⟩ | exact ⟨2, by decide, s1_2⟩ | exact ⟨3, by decide, s1_3⟩
    refine v_aload_n (I := iX10_count) dX10_count_40 rfl ?_
    refine v_get (I := iX10_count) g_X10_9 dX10_count_41 (by decide) (ae_87 _ _) rfl ?_
    refine v_bipush (I := iX10_count) (v := 14) dX10_count_44 (by decide) ?_
    refine v_iload_n (I := iX10_count) dX10_count_46 rfl ?_
    refine v_iadd (I := iX10_count) dX10_count_47 ?_
    refine v_ialdN (I := iX10_count) (j := 14 + q) (by rw [hqx, show (14 : Int32) = nI 14 from rfl, nI_add]) (by omega) (by decide) dX10_count_48 (by decide) (ae_88 _ _) ?_
    exact v_iret (I := iX10_count) rfl dX10_count_49 (by unfold countS; rw [hR.1, hqx]; rcases (show q = 0 ∨ q = 1 ∨ q = 2 ∨ q = 3 by omega) with rfl | rfl | rfl | rfl <;> exact ⟨rfl, rfl, hR, FR.rf⟩)
  by_cases s1_4 : k = 4
  · refine v_tabIn (I := iX10_count) (tgt := 50) (off := 49) (v := 4) dX10_count_1 s1_4 (by decide) (by decide) (by decide) (by decide) ?_
    refine v_aload_n (I := iX10_count) dX10_count_50 rfl ?_
    refine v_get (I := iX10_count) g_X10_290 dX10_count_51 (by decide) (ae_87 _ _) rfl ?_
    rw [hR.2.2.2.2.2.2.2.2.2.2.1]
    exact v_iret (I := iX10_count) rfl dX10_count_54 (by unfold countS; rw [s1_4]; exact ⟨rfl, rfl, hR, FR.rf⟩)
  by_cases s1_5 : k = 5
  · refine v_tabIn (I := iX10_count) (tgt := 55) (off := 54) (v := 5) dX10_count_1 s1_5 (by decide) (by decide) (by decide) (by decide) ?_
    refine v_aload_n (I := iX10_count) dX10_count_55 rfl ?_
    refine v_get (I := iX10_count) g_X10_9 dX10_count_56 (by decide) (ae_87 _ _) rfl ?_
    refine v_bipush (I := iX10_count) (v := 18) dX10_count_59 (by decide) ?_
    refine v_ialdN (I := iX10_count) (j := 18) (by decide) (by decide) (by decide) dX10_count_61 (by decide) (ae_88 _ _) ?_
    exact v_iret (I := iX10_count) rfl dX10_count_62 (by unfold countS; rw [s1_5, hR.1]; exact ⟨rfl, rfl, hR, FR.rf⟩)
  refine v_tabDef (I := iX10_count) (tgt := 63) dX10_count_1 (by decide) (fun off h1 h2 ho => ?_) (by decide) ?_
  · obtain ⟨j, hj, hjx⟩ := i32_rng (n := 6) h1 h2 (by decide)
    match j, hj with
    | 0, _ => exact absurd (hjx.trans (by decide)) s1_0
    | 1, _ => exact absurd (hjx.trans (by decide)) s1_1
    | 2, _ => exact absurd (hjx.trans (by decide)) s1_2
    | 3, _ => exact absurd (hjx.trans (by decide)) s1_3
    | 4, _ => exact absurd (hjx.trans (by decide)) s1_4
    | 5, _ => exact absurd (hjx.trans (by decide)) s1_5
    | j + 6, h => omega
  refine v_aload_n (I := iX10_count) dX10_count_63 rfl ?_
  refine v_ldc (I := iX10_count) k_X10_91 dX10_count_64 ?_
  refine v_callVi (I := iX10_count) (I' := iX10_finding) lk_X10_92 c_X10_finding dX10_count_66 (m_X10_findE (e := 1) (by decide) (by decide)) rfl rfl (by decide) (ae_87 _ _) rfl (by decide) (by decide) (Nat.le_of_ble_eq_true rfl) ?_
  exact v_iret (I := iX10_count) rfl dX10_count_69 (by unfold countS; simp only [s1_0, s1_1, s1_2, s1_3, s1_4, s1_5, if_false]; exact ⟨rfl, rfl, RR_err hR, FR.up (by decide)⟩)
