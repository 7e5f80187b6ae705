theorem wrA_eq {σ : fSt} {k n j : Nat} {x v : Int32} (hx : x = nI j) (h : j < n) (hn : n < 2 ^ 31) : wrA σ k n x v = up2 σ k j v := by rw [hx, wrA_in h hn]
theorem rdA_eq {n j : Nat} {f : Nat → Int32} {x : Int32} (hx : x = nI j) (h : j < n) (hn : n < 2 ^ 31) : rdA n f x = f j := by rw [hx, rdA_in h hn]
theorem hld_id2 {x : Int32} (h : 0 ≤ x ∧ x ≤ 999) : hld x 0 999 = x := by unfold hld; grind
theorem hard20 {x : Int32} (h : 0 ≤ x ∧ x ≤ 99) : 0 ≤ 5 - x / 20 ∧ 5 - x / 20 ≤ 999 := by
  obtain ⟨j, hj, rfl⟩ := in2_nI (x := x) (n := 100) (by decide) ⟨h.1, by have := h.2; show x < 100; grind⟩
  have h3 : nI j / 20 = nI (j / 20) := pk_div (d := 20) (by omega) (by decide) (by decide)
  rw [h3]
  have a1 : 0 ≤ nI (j / 20) := nI_pos' (by omega)
  have a2 : nI (j / 20) ≤ 4 := nI_le (b := 4) (by omega) (by decide)
  constructor <;> grind
set_option maxRecDepth 100000 in
set_option maxHeartbeats 4000000 in
theorem m_X8_name {G : fGm} {σ : fSt} {τ : fLt} {w : Nat} {a b c d e : Int32} (hw : w < 3) : MS G iX8_name 1 [.ref (wc w 0), .int a, .int b, .int c, .int d, .int e] σ τ (rP none τ (fun σ' => (∀ j, j < 5 → σ' (wc w 21) j = nm5 a b c d e j) ∧ ∀ k, k ≠ wc w 21 → σ' k = σ k)) := by
  refine ms_of (by decide +kernel) (Nat.le_of_ble_eq_true rfl) ?_
  show VW _ _ _ _ _ _ 0 [(0, _), (1, _), (2, _), (3, _), (4, _), (5, _)] []
  refine v_aload_n (I := iX8_name) dX8_name_0 rfl ?_
  refine v_get (I := iX8_name) g_X8_75 dX8_name_1 (wc_lt hw (by decide)) (ae_w0 hw _ _) rfl ?_
  refine v_iconst (I := iX8_name) (v := 0) dX8_name_4 (by decide) ?_
  refine v_iload_n (I := iX8_name) dX8_name_5 rfl ?_
  refine v_callSi (I := iX8_name) (I' := iX9_exchange) lk_X8_208 c_X9_exchange dX8_name_6 (m_X9_exchange (wc_lt hw (by decide)) (ae_w21 hw) (by decide)) rfl rfl (by decide) (by decide) (Nat.le_of_ble_eq_true rfl) ?_
  rw [wrA_eq (x := 0) (j := 0) rfl (by decide) (by decide)]
  refine v_pop (I := iX8_name) dX8_name_9 rfl ?_
  refine v_aload_n (I := iX8_name) dX8_name_10 rfl ?_
  refine v_get (I := iX8_name) g_X8_75 dX8_name_11 (wc_lt hw (by decide)) (ae_w0 hw _ _) rfl ?_
  refine v_iconst (I := iX8_name) (v := 1) dX8_name_14 (by decide) ?_
  refine v_iload_n (I := iX8_name) dX8_name_15 rfl ?_
  refine v_callSi (I := iX8_name) (I' := iX9_exchange) lk_X8_208 c_X9_exchange dX8_name_16 (m_X9_exchange (wc_lt hw (by decide)) (ae_w21 hw) (by decide)) rfl rfl (by decide) (by decide) (Nat.le_of_ble_eq_true rfl) ?_
  rw [wrA_eq (x := 1) (j := 1) rfl (by decide) (by decide)]
  refine v_pop (I := iX8_name) dX8_name_19 rfl ?_
  refine v_aload_n (I := iX8_name) dX8_name_20 rfl ?_
  refine v_get (I := iX8_name) g_X8_75 dX8_name_21 (wc_lt hw (by decide)) (ae_w0 hw _ _) rfl ?_
  refine v_iconst (I := iX8_name) (v := 2) dX8_name_24 (by decide) ?_
  refine v_iload_n (I := iX8_name) dX8_name_25 rfl ?_
  refine v_callSi (I := iX8_name) (I' := iX9_exchange) lk_X8_208 c_X9_exchange dX8_name_26 (m_X9_exchange (wc_lt hw (by decide)) (ae_w21 hw) (by decide)) rfl rfl (by decide) (by decide) (Nat.le_of_ble_eq_true rfl) ?_
  rw [wrA_eq (x := 2) (j := 2) rfl (by decide) (by decide)]
  refine v_pop (I := iX8_name) dX8_name_29 rfl ?_
  refine v_aload_n (I := iX8_name) dX8_name_30 rfl ?_
  refine v_get (I := iX8_name) g_X8_75 dX8_name_31 (wc_lt hw (by decide)) (ae_w0 hw _ _) rfl ?_
  refine v_iconst (I := iX8_name) (v := 3) dX8_name_34 (by decide) ?_
  refine v_iload (I := iX8_name) dX8_name_35 rfl ?_
  refine v_callSi (I := iX8_name) (I' := iX9_exchange) lk_X8_208 c_X9_exchange dX8_name_37 (m_X9_exchange (wc_lt hw (by decide)) (ae_w21 hw) (by decide)) rfl rfl (by decide) (by decide) (Nat.le_of_ble_eq_true rfl) ?_
  rw [wrA_eq (x := 3) (j := 3) rfl (by decide) (by decide)]
  refine v_pop (I := iX8_name) dX8_name_40 rfl ?_
  refine v_aload_n (I := iX8_name) dX8_name_41 rfl ?_
  refine v_get (I := iX8_name) g_X8_75 dX8_name_42 (wc_lt hw (by decide)) (ae_w0 hw _ _) rfl ?_
  refine v_iconst (I := iX8_name) (v := 4) dX8_name_45 (by decide) ?_
  refine v_iload (I := iX8_name) dX8_name_46 rfl ?_
  refine v_callSi (I := iX8_name) (I' := iX9_exchange) lk_X8_208 c_X9_exchange dX8_name_48 (m_X9_exchange (wc_lt hw (by decide)) (ae_w21 hw) (by decide)) rfl rfl (by decide) (by decide) (Nat.le_of_ble_eq_true rfl) ?_
  rw [wrA_eq (x := 4) (j := 4) rfl (by decide) (by decide)]
  refine v_pop (I := iX8_name) dX8_name_51 rfl ?_
  exact v_vret (I := iX8_name) rfl dX8_name_52 ⟨rfl, rfl, fun j hj => by
      match j, hj with
      | 0, _ => simp [up2, va_up, nm5]
      | 1, _ => simp [up2, va_up, nm5]
      | 2, _ => simp [up2, va_up, nm5]
      | 3, _ => simp [up2, va_up, nm5]
      | 4, _ => simp [up2, va_up, nm5]
      | j + 5, h => omega, fun k hk => by simp [up2, va_up, hk]⟩
set_option maxRecDepth 100000 in
set_option maxHeartbeats 4000000 in
theorem m_X8_learns {G : fGm} {σ : fSt} {τ : fLt} {w : Nat} {g : gS} {x : Int32} (hw : w < 3) (hV : V w σ g) (hW : tOK g 0) (hh : 0 ≤ x ∧ x ≤ 99) : MS G iX8_learns 2 [.ref (wc w 0), .int x] σ τ (rW (some (.int (gLearns g x))) τ w σ g) := by
  refine ms_of (by decide +kernel) (Nat.le_of_ble_eq_true rfl) ?_
  show VW _ _ _ _ _ _ 0 [(0, _), (1, _)] []
  have h0 : (0 : Int32) ≤ g 171 := by obtain ⟨n, hn, e, -⟩ := hW; rw [e]; exact nI_pos' (by omega)
  refine v_aload_n (I := iX8_learns) dX8_learns_0 rfl ?_
  refine v_get (I := iX8_learns) g_X8_40 dX8_learns_1 (wc_lt hw (by decide)) (ae_w0 hw _ _) rfl ?_
  refine v_get (I := iX8_learns) g_X8_216 dX8_learns_4 (wc_lt hw (by decide)) (ae_w12 hw _ _) rfl ?_
  rw [show σ (wc w 12) 1 = g 171 from hV.2.1.1]
  refine v_if_ne (I := iX8_learns) (tgt := 17) dX8_learns_7 (by decide) (fun c7 => ?_) (fun c7 => ?_)
  · have hpos : 0 < g (171 + 62 * 0) := by show 0 < g 171; grind
    refine v_aload_n (I := iX8_learns) dX8_learns_17 rfl ?_
    refine v_aload_n (I := iX8_learns) dX8_learns_18 rfl ?_
    refine v_get (I := iX8_learns) g_X8_18 dX8_learns_19 (wc_lt hw (by decide)) (ae_w0 hw _ _) rfl ?_
    refine v_bipush (I := iX8_learns) (v := 7) dX8_learns_22 (by decide) ?_
    refine v_ialdN (I := iX8_learns) (j := 7) (by decide) (by decide) (by decide) dX8_learns_24 (wc_lt hw (by decide)) (ae_w1 hw _ _) ?_
    rw [V_child hV (by decide)]
    refine v_aload_n (I := iX8_learns) dX8_learns_25 rfl ?_
    refine v_get (I := iX8_learns) g_X8_18 dX8_learns_26 (wc_lt hw (by decide)) (ae_w0 hw _ _) rfl ?_
    refine v_bipush (I := iX8_learns) (v := 8) dX8_learns_29 (by decide) ?_
    refine v_ialdN (I := iX8_learns) (j := 8) (by decide) (by decide) (by decide) dX8_learns_31 (wc_lt hw (by decide)) (ae_w1 hw _ _) ?_
    rw [V_child hV (by decide)]
    refine v_aload_n (I := iX8_learns) dX8_learns_32 rfl ?_
    refine v_get (I := iX8_learns) g_X8_18 dX8_learns_33 (wc_lt hw (by decide)) (ae_w0 hw _ _) rfl ?_
    refine v_iconst (I := iX8_learns) (v := 5) dX8_learns_36 (by decide) ?_
    refine v_ialdN (I := iX8_learns) (j := 5) (by decide) (by decide) (by decide) dX8_learns_37 (wc_lt hw (by decide)) (ae_w1 hw _ _) ?_
    rw [V_child hV (by decide)]
    refine v_aload_n (I := iX8_learns) dX8_learns_38 rfl ?_
    refine v_get (I := iX8_learns) g_X8_18 dX8_learns_39 (wc_lt hw (by decide)) (ae_w0 hw _ _) rfl ?_
    refine v_bipush (I := iX8_learns) (v := 6) dX8_learns_42 (by decide) ?_
    refine v_ialdN (I := iX8_learns) (j := 6) (by decide) (by decide) (by decide) dX8_learns_44 (wc_lt hw (by decide)) (ae_w1 hw _ _) ?_
    rw [V_child hV (by decide)]
    refine v_iload_n (I := iX8_learns) dX8_learns_45 rfl ?_
    refine v_callVvP (I := iX8_learns) (I' := iX8_name) lk_X8_218 c_X8_name dX8_learns_46 (m_X8_name hw) rfl rfl (wc_lt hw (by decide)) (ae_w0 hw _ _) rfl (by decide) (by decide) (Nat.le_of_ble_eq_true rfl) (fun s46 h46 => ?_)
    have hV1 : V w s46 g := V_off hV (fun c _ _ _ _ h21 => h46.2 _ (wc_ne h21))
    have hF1 : FrW w σ s46 := fun k hk => h46.2 k (hk 21 (by decide))
    refine v_aload_n (I := iX8_learns) dX8_learns_49 rfl ?_
    refine v_get (I := iX8_learns) g_X8_40 dX8_learns_50 (wc_lt hw (by decide)) (ae_w0 hw _ _) rfl ?_
    refine v_aload_n (I := iX8_learns) dX8_learns_53 rfl ?_
    refine v_get (I := iX8_learns) g_X8_75 dX8_learns_54 (wc_lt hw (by decide)) (ae_w0 hw _ _) rfl ?_
    refine v_callViP (I := iX8_learns) (I' := iX7_worth) lk_X8_222 c_X7_worth dX8_learns_57 (m_X7_worth0 hw hV1 hW hpos h46.1) rfl rfl (wc_lt hw (by decide)) (ae_w12 hw _ _) rfl (by decide) (by decide) (Nat.le_of_ble_eq_true rfl) (fun s57 h57 => ?_)
    have hV2 : V w s57 g := V_off hV1 (fun c _ h14 h17 _ _ => h57 _ (wc_ne h14))
    have hF2 : FrW w σ s57 := hF1.tr (fun k hk => h57 k (hk 14 (by decide)))
    refine v_iconst (I := iX8_learns) (v := 0) dX8_learns_60 (by decide) ?_
    refine v_sipush (I := iX8_learns) (v := 999) dX8_learns_61 (by decide) ?_
    refine v_callSi (I := iX8_learns) (I' := iX9_held) lk_X8_226 c_X9_held dX8_learns_64 (m_X9_held) rfl rfl (by decide) (by decide) (Nat.le_of_ble_eq_true rfl) ?_
    exact v_iret (I := iX8_learns) rfl dX8_learns_67 ⟨by unfold gLearns; first | (rw [if_pos hpos]; done) | (rw [if_neg (show ¬ (0 : Int32) < g 171 by grind), hld_id2 (hard20 hh)]), rfl, by first | exact ⟨hV2, hF2⟩ | exact ⟨hV, FrW.rf⟩⟩
  · refine v_iconst (I := iX8_learns) (v := 5) dX8_learns_10 (by decide) ?_
    refine v_iload_n (I := iX8_learns) dX8_learns_11 rfl ?_
    refine v_bipush (I := iX8_learns) (v := 20) dX8_learns_12 (by decide) ?_
    refine v_idiv (I := iX8_learns) dX8_learns_14 (by decide) ?_
    refine v_isub (I := iX8_learns) dX8_learns_15 ?_
    exact v_iret (I := iX8_learns) rfl dX8_learns_16 ⟨by unfold gLearns; first | (rw [if_pos hpos]; done) | (rw [if_neg (show ¬ (0 : Int32) < g 171 by grind), hld_id2 (hard20 hh)]), rfl, by first | exact ⟨hV2, hF2⟩ | exact ⟨hV, FrW.rf⟩⟩
set_option maxRecDepth 100000 in
set_option maxHeartbeats 4000000 in
theorem m_X8_dares {G : fGm} {σ : fSt} {τ : fLt} {w : Nat} {g : gS} {x : Int32} (hw : w < 3) (hV : V w σ g) (hW : tOK g 1) : MS G iX8_dares 2 [.ref (wc w 0), .int x] σ τ (rW (some (.int (if gDaresI g x = true then 1 else 0))) τ w σ g) := by
  refine ms_of (by decide +kernel) (Nat.le_of_ble_eq_true rfl) ?_
  show VW _ _ _ _ _ _ 0 [(0, _), (1, _)] []
  have h0 : (0 : Int32) ≤ g 233 := by obtain ⟨n, hn, e, -⟩ := hW; rw [e]; exact nI_pos' (by omega)
  refine v_aload_n (I := iX8_dares) dX8_dares_0 rfl ?_
  refine v_get (I := iX8_dares) g_X8_44 dX8_dares_1 (wc_lt hw (by decide)) (ae_w0 hw _ _) rfl ?_
  refine v_get (I := iX8_dares) g_X8_216 dX8_dares_4 (wc_lt hw (by decide)) (ae_w15 hw _ _) rfl ?_
  rw [show σ (wc w 15) 1 = g 233 from hV.2.2.1]
  refine v_if_ne (I := iX8_dares) (tgt := 48) dX8_dares_7 (by decide) (fun c7 => ?_) (fun c7 => ?_)
  · have hpos : 0 < g (171 + 62 * 1) := by show 0 < g 233; grind
    refine v_aload_n (I := iX8_dares) dX8_dares_48 rfl ?_
    refine v_iload_n (I := iX8_dares) dX8_dares_49 rfl ?_
    refine v_aload_n (I := iX8_dares) dX8_dares_50 rfl ?_
    refine v_get (I := iX8_dares) g_X8_18 dX8_dares_51 (wc_lt hw (by decide)) (ae_w0 hw _ _) rfl ?_
    refine v_iconst (I := iX8_dares) (v := 2) dX8_dares_54 (by decide) ?_
    refine v_ialdN (I := iX8_dares) (j := 2) (by decide) (by decide) (by decide) dX8_dares_55 (wc_lt hw (by decide)) (ae_w1 hw _ _) ?_
    rw [V_child hV (by decide)]
    refine v_aload_n (I := iX8_dares) dX8_dares_56 rfl ?_
    refine v_get (I := iX8_dares) g_X8_18 dX8_dares_57 (wc_lt hw (by decide)) (ae_w0 hw _ _) rfl ?_
    refine v_iconst (I := iX8_dares) (v := 5) dX8_dares_60 (by decide) ?_
    refine v_ialdN (I := iX8_dares) (j := 5) (by decide) (by decide) (by decide) dX8_dares_61 (wc_lt hw (by decide)) (ae_w1 hw _ _) ?_
    rw [V_child hV (by decide)]
    refine v_aload_n (I := iX8_dares) dX8_dares_62 rfl ?_
    refine v_get (I := iX8_dares) g_X8_18 dX8_dares_63 (wc_lt hw (by decide)) (ae_w0 hw _ _) rfl ?_
    refine v_bipush (I := iX8_dares) (v := 6) dX8_dares_66 (by decide) ?_
    refine v_ialdN (I := iX8_dares) (j := 6) (by decide) (by decide) (by decide) dX8_dares_68 (wc_lt hw (by decide)) (ae_w1 hw _ _) ?_
    rw [V_child hV (by decide)]
    refine v_iconst (I := iX8_dares) (v := 0) dX8_dares_69 (by decide) ?_
    refine v_callVvP (I := iX8_dares) (I' := iX8_name) lk_X8_218 c_X8_name dX8_dares_70 (m_X8_name hw) rfl rfl (wc_lt hw (by decide)) (ae_w0 hw _ _) rfl (by decide) (by decide) (Nat.le_of_ble_eq_true rfl) (fun s70 h70 => ?_)
    have hV1 : V w s70 g := V_off hV (fun c _ _ _ _ h21 => h70.2 _ (wc_ne h21))
    have hF1 : FrW w σ s70 := fun k hk => h70.2 k (hk 21 (by decide))
    refine v_aload_n (I := iX8_dares) dX8_dares_73 rfl ?_
    refine v_get (I := iX8_dares) g_X8_44 dX8_dares_74 (wc_lt hw (by decide)) (ae_w0 hw _ _) rfl ?_
    refine v_aload_n (I := iX8_dares) dX8_dares_77 rfl ?_
    refine v_get (I := iX8_dares) g_X8_75 dX8_dares_78 (wc_lt hw (by decide)) (ae_w0 hw _ _) rfl ?_
    refine v_callViP (I := iX8_dares) (I' := iX7_worth) lk_X8_222 c_X7_worth dX8_dares_81 (m_X7_worth1 hw hV1 hW hpos h70.1) rfl rfl (wc_lt hw (by decide)) (ae_w15 hw _ _) rfl (by decide) (by decide) (Nat.le_of_ble_eq_true rfl) (fun s81 h81 => ?_)
    have hV2 : V w s81 g := V_off hV1 (fun c _ h14 h17 _ _ => h81 _ (wc_ne h17))
    have hF2 : FrW w σ s81 := hF1.tr (fun k hk => h81 k (hk 17 (by decide)))
    refine v_if_eq (I := iX8_dares) (tgt := 91) dX8_dares_84 (by decide) (fun c84 => ?_) (fun c84 => ?_)
    · refine v_iconst (I := iX8_dares) (v := 0) dX8_dares_91 (by decide) ?_
      exact v_zret (I := iX8_dares) rfl rfl dX8_dares_92 ⟨by unfold gDaresI; first | (rw [if_pos hpos]; simp [*]; done) | (rw [if_neg (show ¬ (0 : Int32) < g 233 by grind)]; grind), rfl, by first | exact ⟨hV2, hF2⟩ | exact ⟨hV, FrW.rf⟩⟩
    · refine v_iconst (I := iX8_dares) (v := 1) dX8_dares_87 (by decide) ?_
      refine v_goto (I := iX8_dares) (tgt := 92) dX8_dares_88 (by decide) ?_
      exact v_zret (I := iX8_dares) rfl rfl dX8_dares_92 ⟨by unfold gDaresI; first | (rw [if_pos hpos]; simp [*]; done) | (rw [if_neg (show ¬ (0 : Int32) < g 233 by grind)]; grind), rfl, by first | exact ⟨hV2, hF2⟩ | exact ⟨hV, FrW.rf⟩⟩
  · refine v_iload_n (I := iX8_dares) dX8_dares_10 rfl ?_
    refine v_aload_n (I := iX8_dares) dX8_dares_11 rfl ?_
    refine v_get (I := iX8_dares) g_X8_18 dX8_dares_12 (wc_lt hw (by decide)) (ae_w0 hw _ _) rfl ?_
    refine v_iconst (I := iX8_dares) (v := 2) dX8_dares_15 (by decide) ?_
    refine v_ialdN (I := iX8_dares) (j := 2) (by decide) (by decide) (by decide) dX8_dares_16 (wc_lt hw (by decide)) (ae_w1 hw _ _) ?_
    rw [V_child hV (by decide)]
    refine v_aload_n (I := iX8_dares) dX8_dares_17 rfl ?_
    refine v_get (I := iX8_dares) g_X8_18 dX8_dares_18 (wc_lt hw (by decide)) (ae_w0 hw _ _) rfl ?_
    refine v_iconst (I := iX8_dares) (v := 5) dX8_dares_21 (by decide) ?_
    refine v_ialdN (I := iX8_dares) (j := 5) (by decide) (by decide) (by decide) dX8_dares_22 (wc_lt hw (by decide)) (ae_w1 hw _ _) ?_
    rw [V_child hV (by decide)]
    refine v_iconst (I := iX8_dares) (v := 2) dX8_dares_23 (by decide) ?_
    refine v_idiv (I := iX8_dares) dX8_dares_24 (by decide) ?_
    refine v_iadd (I := iX8_dares) dX8_dares_25 ?_
    refine v_aload_n (I := iX8_dares) dX8_dares_26 rfl ?_
    refine v_get (I := iX8_dares) g_X8_18 dX8_dares_27 (wc_lt hw (by decide)) (ae_w0 hw _ _) rfl ?_
    refine v_bipush (I := iX8_dares) (v := 6) dX8_dares_30 (by decide) ?_
    refine v_ialdN (I := iX8_dares) (j := 6) (by decide) (by decide) (by decide) dX8_dares_32 (wc_lt hw (by decide)) (ae_w1 hw _ _) ?_
    rw [V_child hV (by decide)]
    refine v_bipush (I := iX8_dares) (v := 100) dX8_dares_33 (by decide) ?_
    refine v_idiv (I := iX8_dares) dX8_dares_35 (by decide) ?_
    refine v_iadd (I := iX8_dares) dX8_dares_36 ?_
    refine v_iconst (I := iX8_dares) (v := 1) dX8_dares_37 (by decide) ?_
    refine v_iadd (I := iX8_dares) dX8_dares_38 ?_
    refine v_icmp_ge (I := iX8_dares) (tgt := 46) dX8_dares_39 (by decide) (fun c39 => ?_) (fun c39 => ?_)
    · refine v_iconst (I := iX8_dares) (v := 0) dX8_dares_46 (by decide) ?_
      exact v_zret (I := iX8_dares) rfl rfl dX8_dares_47 ⟨by unfold gDaresI; first | (rw [if_pos hpos]; simp [*]; done) | (rw [if_neg (show ¬ (0 : Int32) < g 233 by grind)]; grind), rfl, by first | exact ⟨hV2, hF2⟩ | exact ⟨hV, FrW.rf⟩⟩
    · refine v_iconst (I := iX8_dares) (v := 1) dX8_dares_42 (by decide) ?_
      refine v_goto (I := iX8_dares) (tgt := 47) dX8_dares_43 (by decide) ?_
      exact v_zret (I := iX8_dares) rfl rfl dX8_dares_47 ⟨by unfold gDaresI; first | (rw [if_pos hpos]; simp [*]; done) | (rw [if_neg (show ¬ (0 : Int32) < g 233 by grind)]; grind), rfl, by first | exact ⟨hV2, hF2⟩ | exact ⟨hV, FrW.rf⟩⟩
