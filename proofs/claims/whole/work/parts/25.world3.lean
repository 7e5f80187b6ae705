set_option maxRecDepth 100000 in
set_option maxHeartbeats 4000000 in
theorem m_X8_draw {G : fGm} {σ : fSt} {τ : fLt} {w : Nat} {g : gS} {s : Int32} (hw : w < 3) (hV : V w σ g) (hs0 : 0 ≤ s) (hs9 : s ≤ 9) : MS G iX8_draw 1 [.ref (wc w 0), .int s] σ τ (rT (some (.int (gPick (gDraw g 18) (2 * s + 1) - s))) (up2 σ (wc w 1) 14 (gDraw g 18)) τ) := by
  refine ms_of (by decide +kernel) (Nat.le_of_ble_eq_true rfl) ?_
  show VW _ _ _ _ _ _ 0 [(0, _), (1, _)] []
  refine v_aload_n (I := iX8_draw) dX8_draw_0 rfl ?_
  refine v_get (I := iX8_draw) g_X8_18 dX8_draw_1 (wc_lt hw (by decide)) (ae_w0 hw _ _) rfl ?_
  refine v_bipush (I := iX8_draw) (v := 14) dX8_draw_4 (by decide) ?_
  refine v_aload_n (I := iX8_draw) dX8_draw_6 rfl ?_
  refine v_get (I := iX8_draw) g_X8_18 dX8_draw_7 (wc_lt hw (by decide)) (ae_w0 hw _ _) rfl ?_
  refine v_bipush (I := iX8_draw) (v := 14) dX8_draw_10 (by decide) ?_
  refine v_ialdN (I := iX8_draw) (j := 14) (by decide) (by decide) (by decide) dX8_draw_12 (wc_lt hw (by decide)) (ae_w1 hw _ _) ?_
  rw [V_z hV]
  refine v_ldc (I := iX8_draw) k_X8_172 dX8_draw_13 ?_
  refine v_imul (I := iX8_draw) dX8_draw_15 ?_
  refine v_sipush (I := iX8_draw) (v := 12345) dX8_draw_16 (by decide) ?_
  refine v_iadd (I := iX8_draw) dX8_draw_19 ?_
  refine v_iastN (I := iX8_draw) (j := 14) (by decide) (by decide) (by decide) dX8_draw_20 (wc_lt hw (by decide)) (fun _ => ae_w1 hw _ _) ?_
  refine v_iconst (I := iX8_draw) (v := 2) dX8_draw_21 (by decide) ?_
  refine v_iconst (I := iX8_draw) (v := 0) dX8_draw_22 (by decide) ?_
  refine v_iload_n (I := iX8_draw) dX8_draw_23 rfl ?_
  refine v_max (I := iX8_draw) lm_X8_173 dX8_draw_24 (by decide) (Nat.le_of_ble_eq_true rfl) ?_
  rw [show (if 0 < s then s else 0) = s by grind]
  refine v_imul (I := iX8_draw) dX8_draw_27 ?_
  refine v_iconst (I := iX8_draw) (v := 1) dX8_draw_28 (by decide) ?_
  refine v_iadd (I := iX8_draw) dX8_draw_29 ?_
  refine v_istore_n (I := iX8_draw) (ls1 := [(2, _), (0, _), (1, _)]) dX8_draw_30 (by decide) rfl ?_
  refine v_aload_n (I := iX8_draw) dX8_draw_31 rfl ?_
  refine v_get (I := iX8_draw) g_X8_18 dX8_draw_32 (wc_lt hw (by decide)) (ae_w0 hw _ _) rfl ?_
  refine v_bipush (I := iX8_draw) (v := 14) dX8_draw_35 (by decide) ?_
  refine v_ialdN (I := iX8_draw) (j := 14) (by decide) (by decide) (by decide) dX8_draw_37 (wc_lt hw (by decide)) (ae_w1 hw _ _) ?_
  refine v_bipush (I := iX8_draw) (v := 8) dX8_draw_38 (by decide) ?_
  refine v_iushr (I := iX8_draw) dX8_draw_40 ?_
  refine v_iload_n (I := iX8_draw) dX8_draw_41 rfl ?_
  refine v_irem (I := iX8_draw) dX8_draw_42 (by grind) ?_
  refine v_iload_n (I := iX8_draw) dX8_draw_43 rfl ?_
  refine v_isub (I := iX8_draw) dX8_draw_44 ?_
  exact v_iret (I := iX8_draw) rfl dX8_draw_45 ⟨by rw [up2_s]; rfl, rfl, rfl⟩
set_option maxRecDepth 100000 in
set_option maxHeartbeats 4000000 in
theorem m_X8_leant {G : fGm} {σ : fSt} {τ : fLt} {w : Nat} {g : gS} {a b : Int32} (hw : w < 3) (hV : V w σ g) (hB : B g) : MS G iX8_leant 2 [.ref (wc w 0), .int a, .int b] σ τ (rT (some (.int (a + a / 5 + b + gSlope g))) σ τ) := by
  refine ms_of (by decide +kernel) (Nat.le_of_ble_eq_true rfl) ?_
  show VW _ _ _ _ _ _ 0 [(0, _), (1, _), (2, _)] []
  refine v_iload_n (I := iX8_leant) dX8_leant_0 rfl ?_
  refine v_iload_n (I := iX8_leant) dX8_leant_1 rfl ?_
  refine v_iconst (I := iX8_leant) (v := 5) dX8_leant_2 (by decide) ?_
  refine v_idiv (I := iX8_leant) dX8_leant_3 (by decide) ?_
  refine v_iadd (I := iX8_leant) dX8_leant_4 ?_
  refine v_iload_n (I := iX8_leant) dX8_leant_5 rfl ?_
  refine v_iadd (I := iX8_leant) dX8_leant_6 ?_
  refine v_aload_n (I := iX8_leant) dX8_leant_7 rfl ?_
  refine v_callVi (I := iX8_leant) (I' := iX8_slope) lk_X8_126 c_X8_slope dX8_leant_8 (m_X8_slope hw hV hB) rfl rfl (wc_lt hw (by decide)) (ae_w0 hw _ _) rfl (by decide) (by decide) (Nat.le_of_ble_eq_true rfl) ?_
  refine v_iadd (I := iX8_leant) dX8_leant_11 ?_
  exact v_iret (I := iX8_leant) rfl dX8_leant_12 ⟨by first | rfl | (simp only [*]; done) | (simp [*]; done), rfl, rfl⟩
theorem gPace_in (g : gS) (i : Nat) : 0 ≤ gPace g i := by unfold gPace; grind
set_option maxRecDepth 100000 in
set_option maxHeartbeats 4000000 in
theorem m_X8_isStep {G : fGm} {σ : fSt} {τ : fLt} {w : Nat} {g : gS} (hw : w < 3) (hV : V w σ g) (hB : B g) (hp : σ (wc w 20) 2 = gPace g (gNow g)) : MS G iX8_isStep 1 [.ref (wc w 0), .ref (wc w 20)] σ τ (rT (some (.int (if gIsStepI g (gNow g) = true then 1 else 0))) σ τ) := by
  refine ms_of (by decide +kernel) (Nat.le_of_ble_eq_true rfl) ?_
  show VW _ _ _ _ _ _ 0 [(0, _), (1, _)] []
  obtain ⟨hx, hi⟩ := gNow_x hB
  have hq := gPace_in g (gNow g)
  refine v_aload_n (I := iX8_isStep) dX8_isStep_0 rfl ?_
  refine v_get (I := iX8_isStep) g_X8_33 dX8_isStep_1 (wc_lt hw (by decide)) (ae_w0 hw _ _) rfl ?_
  refine v_get (I := iX8_isStep) g_X8_106 dX8_isStep_4 (wc_lt hw (by decide)) (ae_w8 hw _ _) rfl ?_
  refine v_aload_n (I := iX8_isStep) dX8_isStep_7 rfl ?_
  refine v_get (I := iX8_isStep) g_X8_18 dX8_isStep_8 (wc_lt hw (by decide)) (ae_w0 hw _ _) rfl ?_
  refine v_bipush (I := iX8_isStep) (v := 11) dX8_isStep_11 (by decide) ?_
  refine v_ialdN (I := iX8_isStep) (j := 11) (by decide) (by decide) (by decide) dX8_isStep_13 (wc_lt hw (by decide)) (ae_w1 hw _ _) ?_
  rw [V_child hV (by decide)]
  refine v_callSi (I := iX8_isStep) (I' := iX9_at) lk_X8_99 c_X9_at dX8_isStep_14 (m_X9_at (wc_lt hw (by decide)) (ae_w11 hw) (by decide)) rfl rfl (by decide) (by decide) (Nat.le_of_ble_eq_true rfl) ?_
  rw [show rdA 8 (σ (wc w 11)) (g 11) = gTn g (gNow g) by rw [hx, rdA_in hi (by decide), V_gt hV hi]; rfl]
  refine v_aload_n (I := iX8_isStep) dX8_isStep_17 rfl ?_
  refine v_get (I := iX8_isStep) g_X8_18 dX8_isStep_18 (wc_lt hw (by decide)) (ae_w0 hw _ _) rfl ?_
  refine v_bipush (I := iX8_isStep) (v := 12) dX8_isStep_21 (by decide) ?_
  refine v_ialdN (I := iX8_isStep) (j := 12) (by decide) (by decide) (by decide) dX8_isStep_23 (wc_lt hw (by decide)) (ae_w1 hw _ _) ?_
  rw [V_child hV (by decide)]
  refine v_isub (I := iX8_isStep) dX8_isStep_24 ?_
  refine v_iconst (I := iX8_isStep) (v := 1) dX8_isStep_25 (by decide) ?_
  refine v_iadd (I := iX8_isStep) dX8_isStep_26 ?_
  refine v_istore_n (I := iX8_isStep) (ls1 := [(2, _), (0, _), (1, _)]) dX8_isStep_27 (by decide) rfl ?_
  refine v_aload_n (I := iX8_isStep) dX8_isStep_28 rfl ?_
  refine v_get (I := iX8_isStep) g_X8_176 dX8_isStep_29 (wc_lt hw (by decide)) (ae_w20 hw _ _) rfl ?_
  rw [hp]
  refine v_if_eq (I := iX8_isStep) (tgt := 48) dX8_isStep_32 (by decide) (fun c32 => ?_) (fun c32 => ?_)
  · refine v_iconst (I := iX8_isStep) (v := 0) dX8_isStep_48 (by decide) ?_
    exact v_zret (I := iX8_isStep) rfl rfl dX8_isStep_49 ⟨by unfold gIsStepI rem32; simp only [Bool.and_eq_true, decide_eq_true_eq]; first | (simp only [c41, hpos, and_true, and_false, and_self, if_true, if_false]; done) | (simp only [c32]; rfl), rfl, rfl⟩
  · have hpos : 0 < gPace g (gNow g) := by grind
    refine v_iload_n (I := iX8_isStep) dX8_isStep_35 rfl ?_
    refine v_aload_n (I := iX8_isStep) dX8_isStep_36 rfl ?_
    refine v_get (I := iX8_isStep) g_X8_176 dX8_isStep_37 (wc_lt hw (by decide)) (ae_w20 hw _ _) rfl ?_
    rw [hp]
    refine v_irem (I := iX8_isStep) dX8_isStep_40 c32 ?_
    refine v_if_ne (I := iX8_isStep) (tgt := 48) dX8_isStep_41 (by decide) (fun c41 => ?_) (fun c41 => ?_)
    · refine v_iconst (I := iX8_isStep) (v := 0) dX8_isStep_48 (by decide) ?_
      exact v_zret (I := iX8_isStep) rfl rfl dX8_isStep_49 ⟨by unfold gIsStepI rem32; simp only [Bool.and_eq_true, decide_eq_true_eq]; first | (simp only [c41, hpos, and_true, and_false, and_self, if_true, if_false]; done) | (simp only [c32]; rfl), rfl, rfl⟩
    · refine v_iconst (I := iX8_isStep) (v := 1) dX8_isStep_44 (by decide) ?_
      refine v_goto (I := iX8_isStep) (tgt := 49) dX8_isStep_45 (by decide) ?_
      exact v_zret (I := iX8_isStep) rfl rfl dX8_isStep_49 ⟨by unfold gIsStepI rem32; simp only [Bool.and_eq_true, decide_eq_true_eq]; first | (simp only [c41, hpos, and_true, and_false, and_self, if_true, if_false]; done) | (simp only [c32]; rfl), rfl, rfl⟩
set_option maxRecDepth 100000 in
set_option maxHeartbeats 4000000 in
theorem m_X8_caught {G : fGm} {σ : fSt} {τ : fLt} {w : Nat} {g : gS} {a b : Int32} (hw : w < 3) (hV : V w σ g) (hB : B g) (hp : σ (wc w 20) 3 = b) : MS G iX8_caught 1 [.ref (wc w 0), .int a, .ref (wc w 20)] σ τ (rT (some (.int (gNearer a (if 0 < b - 2 * gSlip g then b - 2 * gSlip g else 0)))) σ τ) := by
  refine ms_of (by decide +kernel) (Nat.le_of_ble_eq_true rfl) ?_
  show VW _ _ _ _ _ _ 0 [(0, _), (1, _), (2, _)] []
  refine v_aload_n (I := iX8_caught) dX8_caught_0 rfl ?_
  refine v_get (I := iX8_caught) g_X8_26 dX8_caught_1 (wc_lt hw (by decide)) (ae_w0 hw _ _) rfl ?_
  refine v_get (I := iX8_caught) g_X8_179 dX8_caught_4 (wc_lt hw (by decide)) (ae_w2 hw _ _) rfl ?_
  refine v_aload_n (I := iX8_caught) dX8_caught_7 rfl ?_
  refine v_get (I := iX8_caught) g_X8_18 dX8_caught_8 (wc_lt hw (by decide)) (ae_w0 hw _ _) rfl ?_
  refine v_iconst (I := iX8_caught) (v := 0) dX8_caught_11 (by decide) ?_
  refine v_ialdN (I := iX8_caught) (j := 0) (by decide) (by decide) (by decide) dX8_caught_12 (wc_lt hw (by decide)) (ae_w1 hw _ _) ?_
  rw [V_child hV (by decide)]
  refine v_bipush (I := iX8_caught) (v := 10) dX8_caught_13 (by decide) ?_
  refine v_idiv (I := iX8_caught) dX8_caught_15 (by decide) ?_
  refine v_callSi (I := iX8_caught) (I' := iX9_at) lk_X8_99 c_X9_at dX8_caught_16 (m_X9_at (wc_lt hw (by decide)) (ae_w3 hw) (by decide)) rfl rfl (by decide) (by decide) (Nat.le_of_ble_eq_true rfl) ?_
  rw [gc10_d hB, rdA_in (gc10_lt hB) (by decide), V_slip hV (gc10_lt hB), show g (19 + 2 * gc10 g) = gSlip g from rfl]
  refine v_istore_n (I := iX8_caught) (ls1 := [(3, _), (0, _), (1, _), (2, _)]) dX8_caught_19 (by decide) rfl ?_
  refine v_iconst (I := iX8_caught) (v := 0) dX8_caught_20 (by decide) ?_
  refine v_aload_n (I := iX8_caught) dX8_caught_21 rfl ?_
  refine v_get (I := iX8_caught) g_X8_182 dX8_caught_22 (wc_lt hw (by decide)) (ae_w20 hw _ _) rfl ?_
  rw [hp]
  refine v_iconst (I := iX8_caught) (v := 2) dX8_caught_25 (by decide) ?_
  refine v_iload_n (I := iX8_caught) dX8_caught_26 rfl ?_
  refine v_imul (I := iX8_caught) dX8_caught_27 ?_
  refine v_isub (I := iX8_caught) dX8_caught_28 ?_
  refine v_max (I := iX8_caught) lm_X8_173 dX8_caught_29 (by decide) (Nat.le_of_ble_eq_true rfl) ?_
  refine v_istore (I := iX8_caught) (ls1 := [(4, _), (3, _), (0, _), (1, _), (2, _)]) dX8_caught_32 (by decide) rfl ?_
  refine v_iload_n (I := iX8_caught) dX8_caught_34 rfl ?_
  refine v_if_le (I := iX8_caught) (tgt := 49) dX8_caught_35 (by decide) (fun c35 => ?_) (fun c35 => ?_)
  · refine v_iconst (I := iX8_caught) (v := 0) dX8_caught_49 (by decide) ?_
    refine v_iload_n (I := iX8_caught) dX8_caught_50 rfl ?_
    refine v_iload (I := iX8_caught) dX8_caught_51 rfl ?_
    refine v_iadd (I := iX8_caught) dX8_caught_53 ?_
    refine v_min (I := iX8_caught) lm_X8_185 dX8_caught_54 (by decide) (Nat.le_of_ble_eq_true rfl) ?_
    exact v_iret (I := iX8_caught) rfl dX8_caught_57 ⟨by unfold gNearer; grind, rfl, rfl⟩
  · refine v_iconst (I := iX8_caught) (v := 0) dX8_caught_38 (by decide) ?_
    refine v_iload_n (I := iX8_caught) dX8_caught_39 rfl ?_
    refine v_iload (I := iX8_caught) dX8_caught_40 rfl ?_
    refine v_isub (I := iX8_caught) dX8_caught_42 ?_
    refine v_max (I := iX8_caught) lm_X8_173 dX8_caught_43 (by decide) (Nat.le_of_ble_eq_true rfl) ?_
    refine v_goto (I := iX8_caught) (tgt := 57) dX8_caught_46 (by decide) ?_
    exact v_iret (I := iX8_caught) rfl dX8_caught_57 ⟨by unfold gNearer; grind, rfl, rfl⟩
set_option maxRecDepth 100000 in
set_option maxHeartbeats 4000000 in
theorem m_X8_gain {G : fGm} {σ : fSt} {τ : fLt} {w j : Nat} {g : gS} {x b m : Int32} (hw : w < 3) (hV : V w σ g) (hx : x = nI j) (hj : j < 14) : MS G iX8_gain 1 [.ref (wc w 0), .int x, .int b, .int m] σ τ (rW none τ w σ (va_up g j (if g j + b < m then g j + b else m))) := by
  refine ms_of (by decide +kernel) (Nat.le_of_ble_eq_true rfl) ?_
  show VW _ _ _ _ _ _ 0 [(0, _), (1, _), (2, _), (3, _)] []
  refine v_aload_n (I := iX8_gain) dX8_gain_0 rfl ?_
  refine v_get (I := iX8_gain) g_X8_18 dX8_gain_1 (wc_lt hw (by decide)) (ae_w0 hw _ _) rfl ?_
  refine v_iload_n (I := iX8_gain) dX8_gain_4 rfl ?_
  refine v_iload_n (I := iX8_gain) dX8_gain_5 rfl ?_
  refine v_aload_n (I := iX8_gain) dX8_gain_6 rfl ?_
  refine v_get (I := iX8_gain) g_X8_18 dX8_gain_7 (wc_lt hw (by decide)) (ae_w0 hw _ _) rfl ?_
  refine v_iload_n (I := iX8_gain) dX8_gain_10 rfl ?_
  refine v_callSi (I := iX8_gain) (I' := iX9_at) lk_X8_99 c_X9_at dX8_gain_11 (m_X9_at (wc_lt hw (by decide)) (ae_w1 hw) (by decide)) rfl rfl (by decide) (by decide) (Nat.le_of_ble_eq_true rfl) ?_
  rw [show rdA 15 (σ (wc w 1)) x = g j by rw [hx, rdA_in (by omega) (by decide), V_child hV hj]]
  refine v_iload_n (I := iX8_gain) dX8_gain_14 rfl ?_
  refine v_iadd (I := iX8_gain) dX8_gain_15 ?_
  refine v_min (I := iX8_gain) lm_X8_185 dX8_gain_16 (by decide) (Nat.le_of_ble_eq_true rfl) ?_
  refine v_callSi (I := iX8_gain) (I' := iX9_exchange) lk_X8_208 c_X9_exchange dX8_gain_19 (m_X9_exchange (wc_lt hw (by decide)) (ae_w1 hw) (by decide)) rfl rfl (by decide) (by decide) (Nat.le_of_ble_eq_true rfl) ?_
  rw [hx, wrA_in (by omega) (by decide)]
  refine v_pop (I := iX8_gain) dX8_gain_22 rfl ?_
  exact v_vret (I := iX8_gain) rfl dX8_gain_23 ⟨rfl, rfl, V_upc hV hj, FrW.up (by decide)⟩
theorem va_comm {α : Type} (f : Nat → α) {i j : Nat} (x y : α) (h : i ≠ j) : va_up (va_up f i x) j y = va_up (va_up f j y) i x := by
  funext k
  by_cases h1 : k = i
  · subst h1; rw [va_up_o _ _ h, va_up_s, va_up_s]
  · by_cases h2 : k = j
    · subst h2; rw [va_up_s, va_up_o _ _ h1, va_up_s]
    · rw [va_up_o _ _ h2, va_up_o _ _ h1, va_up_o _ _ h1, va_up_o _ _ h2]
theorem stepOn_eq (g : gS) (i : Nat) : va_up (gMore (gMore g 8 1) 10 (gCellOn g i - g 0)) 0 (gCellOn g i) = gStepOn g i := by
  have e0 : gMore g 8 1 0 = g 0 := va_up_o _ _ (by decide)
  have ec : gCellOn (gMore g 8 1) i = gCellOn g i := by
    unfold gCellOn
    rw [e0, show gStride (gMore g 8 1) i = gStride g i from gStride_up (by decide) (by decide) (by decide) (by decide)]
  unfold gStepOn gStepped
  rw [ec, e0]
  show va_up (va_up (gMore g 8 1) 10 _) 0 _ = va_up (va_up (gMore g 8 1) 0 _) 10 _
  rw [va_comm _ _ _ (by decide), va_up_o (gMore g 8 1) (gCellOn g i) (show 10 ≠ 0 by decide)]
set_option maxRecDepth 100000 in
set_option maxHeartbeats 4000000 in
theorem m_X8_stepOn {G : fGm} {σ : fSt} {τ : fLt} {w i : Nat} {g : gS} (hw : w < 3) (hV : V w σ g) (hp : σ (wc w 20) 1 = gStride g i) : MS G iX8_stepOn 2 [.ref (wc w 0), .ref (wc w 20)] σ τ (rW none τ w σ (gStepOn g i)) := by
  refine ms_of (by decide +kernel) (Nat.le_of_ble_eq_true rfl) ?_
  show VW _ _ _ _ _ _ 0 [(0, _), (1, _)] []
  refine v_bipush (I := iX8_stepOn) (v := 99) dX8_stepOn_0 (by decide) ?_
  refine v_aload_n (I := iX8_stepOn) dX8_stepOn_2 rfl ?_
  refine v_get (I := iX8_stepOn) g_X8_18 dX8_stepOn_3 (wc_lt hw (by decide)) (ae_w0 hw _ _) rfl ?_
  refine v_iconst (I := iX8_stepOn) (v := 0) dX8_stepOn_6 (by decide) ?_
  refine v_ialdN (I := iX8_stepOn) (j := 0) (by decide) (by decide) (by decide) dX8_stepOn_7 (wc_lt hw (by decide)) (ae_w1 hw _ _) ?_
  rw [V_child hV (by decide)]
  refine v_aload_n (I := iX8_stepOn) dX8_stepOn_8 rfl ?_
  refine v_get (I := iX8_stepOn) g_X8_188 dX8_stepOn_9 (wc_lt hw (by decide)) (ae_w20 hw _ _) rfl ?_
  rw [hp]
  refine v_iadd (I := iX8_stepOn) dX8_stepOn_12 ?_
  refine v_min (I := iX8_stepOn) lm_X8_185 dX8_stepOn_13 (by decide) (Nat.le_of_ble_eq_true rfl) ?_
  rw [show (if g 0 + gStride g i < 99 then g 0 + gStride g i else 99) = gCellOn g i from rfl]
  refine v_istore_n (I := iX8_stepOn) (ls1 := [(2, _), (0, _), (1, _)]) dX8_stepOn_16 (by decide) rfl ?_
  refine v_aload_n (I := iX8_stepOn) dX8_stepOn_17 rfl ?_
  refine v_bipush (I := iX8_stepOn) (v := 8) dX8_stepOn_18 (by decide) ?_
  refine v_iconst (I := iX8_stepOn) (v := 1) dX8_stepOn_20 (by decide) ?_
  refine v_ldc (I := iX8_stepOn) k_X8_191 dX8_stepOn_21 ?_
  refine v_callVvP (I := iX8_stepOn) (I' := iX8_gain) lk_X8_192 c_X8_gain dX8_stepOn_23 (m_X8_gain (m := 999999) (j := 8) hw hV (by decide) (by decide)) rfl rfl (wc_lt hw (by decide)) (ae_w0 hw _ _) rfl (by decide) (by decide) (Nat.le_of_ble_eq_true rfl) (fun s23 h23 => ?_)
  refine v_aload_n (I := iX8_stepOn) dX8_stepOn_26 rfl ?_
  refine v_bipush (I := iX8_stepOn) (v := 10) dX8_stepOn_27 (by decide) ?_
  refine v_iload_n (I := iX8_stepOn) dX8_stepOn_29 rfl ?_
  refine v_aload_n (I := iX8_stepOn) dX8_stepOn_30 rfl ?_
  refine v_get (I := iX8_stepOn) g_X8_18 dX8_stepOn_31 (wc_lt hw (by decide)) (ae_w0 hw _ _) rfl ?_
  refine v_iconst (I := iX8_stepOn) (v := 0) dX8_stepOn_34 (by decide) ?_
  refine v_ialdN (I := iX8_stepOn) (j := 0) (by decide) (by decide) (by decide) dX8_stepOn_35 (wc_lt hw (by decide)) (ae_w1 hw _ _) ?_
  rw [V_child h23.1 (by decide), va_up_o _ _ (by decide)]
  refine v_isub (I := iX8_stepOn) dX8_stepOn_36 ?_
  refine v_ldc (I := iX8_stepOn) k_X8_191 dX8_stepOn_37 ?_
  refine v_callVvP (I := iX8_stepOn) (I' := iX8_gain) lk_X8_192 c_X8_gain dX8_stepOn_39 (m_X8_gain (m := 999999) (j := 10) hw h23.1 (by decide) (by decide)) rfl rfl (wc_lt hw (by decide)) (ae_w0 hw _ _) rfl (by decide) (by decide) (Nat.le_of_ble_eq_true rfl) (fun s39 h39 => ?_)
  refine v_aload_n (I := iX8_stepOn) dX8_stepOn_42 rfl ?_
  refine v_get (I := iX8_stepOn) g_X8_18 dX8_stepOn_43 (wc_lt hw (by decide)) (ae_w0 hw _ _) rfl ?_
  refine v_iconst (I := iX8_stepOn) (v := 0) dX8_stepOn_46 (by decide) ?_
  refine v_iload_n (I := iX8_stepOn) dX8_stepOn_47 rfl ?_
  refine v_iastN (I := iX8_stepOn) (j := 0) (by decide) (by decide) (by decide) dX8_stepOn_48 (wc_lt hw (by decide)) (fun _ => ae_w1 hw _ _) ?_
  exact v_vret (I := iX8_stepOn) rfl dX8_stepOn_49 ⟨rfl, rfl, by rw [← stepOn_eq g i]; exact V_upc h39.1 (by decide), (h23.2.tr h39.2).tr (FrW.up (by decide))⟩
theorem gNext_eq {g : gS} (h : IV g) (h15 : 0 < g 15) : gNext g = if g 11 + 1 < g 15 then g 11 + 1 else 0 := by
  obtain ⟨n, hn, e⟩ := B_nat h.1 15 8 (by decide) (by decide) (by decide)
  obtain ⟨a, ha, e2⟩ := B_nat h.1 11 7 (by decide) (by decide) (by decide)
  have hl : g 11 < g 15 := (h.2.2.2.1 h15).1
  rw [e, e2] at hl
  have hl2 : a < n := (nI_ltI (by omega) (by omega)).mp hl
  unfold gNext
  rw [e, e2, nI_1, rem_nI (by omega) (by omega) (by omega)]
  by_cases hc : a + 1 < n
  · rw [Nat.mod_eq_of_lt hc, if_pos (nI_lt hc (by omega))]
  · have : a + 1 = n := by omega
    subst this
    rw [Nat.mod_self, if_neg (fun h => by have := (nI_ltI (by omega) (by omega)).mp h; omega)]
    rfl
set_option maxRecDepth 100000 in
set_option maxHeartbeats 4000000 in
theorem m_X8_goOn {G : fGm} {σ : fSt} {τ : fLt} {w : Nat} {g : gS} (hw : w < 3) (hV : V w σ g) (hI : IV g) (h15 : 0 < g 15) : MS G iX8_goOn 2 [.ref (wc w 0)] σ τ (rW none τ w σ (gOne g)) := by
  refine ms_of (by decide +kernel) (Nat.le_of_ble_eq_true rfl) ?_
  show VW _ _ _ _ _ _ 0 [(0, _)] []
  have hN := gNext_eq hI h15
  have hr := hI.2.2.2.1 h15
  have h12 : (0 : Int32) ≤ g 12 ∧ g 12 ≤ 60 := hI.1 12 (by decide)
  obtain ⟨i9, hi9, hx9⟩ := B_next hI.1 h15 hr.1
  refine v_aload_n (I := iX8_goOn) dX8_goOn_0 rfl ?_
  refine v_get (I := iX8_goOn) g_X8_18 dX8_goOn_1 (wc_lt hw (by decide)) (ae_w0 hw _ _) rfl ?_
  refine v_bipush (I := iX8_goOn) (v := 12) dX8_goOn_4 (by decide) ?_
  refine v_dup2_11 (I := iX8_goOn) dX8_goOn_6 rfl rfl ?_
  refine v_ialdN (I := iX8_goOn) (j := 12) (by decide) (by decide) (by decide) dX8_goOn_7 (wc_lt hw (by decide)) (ae_w1 hw _ _) ?_
  rw [V_child hV (by decide)]
  refine v_iconst (I := iX8_goOn) (v := 1) dX8_goOn_8 (by decide) ?_
  refine v_isub (I := iX8_goOn) dX8_goOn_9 ?_
  refine v_iastN (I := iX8_goOn) (j := 12) (by decide) (by decide) (by decide) dX8_goOn_10 (wc_lt hw (by decide)) (fun _ => ae_w1 hw _ _) ?_
  refine v_aload_n (I := iX8_goOn) dX8_goOn_11 rfl ?_
  refine v_get (I := iX8_goOn) g_X8_18 dX8_goOn_12 (wc_lt hw (by decide)) (ae_w0 hw _ _) rfl ?_
  refine v_bipush (I := iX8_goOn) (v := 12) dX8_goOn_15 (by decide) ?_
  refine v_ialdN (I := iX8_goOn) (j := 12) (by decide) (by decide) (by decide) dX8_goOn_17 (wc_lt hw (by decide)) (ae_w1 hw _ _) ?_
  rw [up2_s]
  refine v_if_gt (I := iX8_goOn) (tgt := 57) dX8_goOn_18 (by decide) (fun c18 => ?_) (fun c18 => ?_)
  · exact v_vret (I := iX8_goOn) rfl dX8_goOn_57 ⟨rfl, rfl, by unfold gOne; first | (rw [if_pos hz]; first | (rw [show gNext g = g 11 + 1 by grind]; exact h54.1) | (rw [show gNext g = 0 by grind]; exact h54.1)) | (rw [if_neg (by grind)]; exact V_upc hV (by decide)), by first | exact hF1.tr h54.2 | exact FrW.up (by decide)⟩
  · have hV1 := V_upc hV (i := 12) (x := g 12 - 1) (by decide)
    have hz : g 12 - 1 = 0 := by have := hr.2.1; grind
    generalize hσ1 : up2 σ (wc w 1) 12 (g 12 - 1) = σ1 at hV1 ⊢
    have hF1 : FrW w σ σ1 := by rw [← hσ1]; exact FrW.up (by decide)
    have e15 : va_up g 12 (g 12 - 1) 15 = g 15 := va_up_o _ _ (by decide)
    have e11 : va_up g 12 (g 12 - 1) 11 = g 11 := va_up_o _ _ (by decide)
    refine v_aload_n (I := iX8_goOn) dX8_goOn_21 rfl ?_
    refine v_aload_n (I := iX8_goOn) dX8_goOn_22 rfl ?_
    refine v_get (I := iX8_goOn) g_X8_18 dX8_goOn_23 (wc_lt hw (by decide)) (ae_w0 hw _ _) rfl ?_
    refine v_bipush (I := iX8_goOn) (v := 11) dX8_goOn_26 (by decide) ?_
    refine v_ialdN (I := iX8_goOn) (j := 11) (by decide) (by decide) (by decide) dX8_goOn_28 (wc_lt hw (by decide)) (ae_w1 hw _ _) ?_
    rw [V_child hV1 (by decide), e11]
    refine v_iconst (I := iX8_goOn) (v := 1) dX8_goOn_29 (by decide) ?_
    refine v_iadd (I := iX8_goOn) dX8_goOn_30 ?_
    refine v_aload_n (I := iX8_goOn) dX8_goOn_31 rfl ?_
    refine v_get (I := iX8_goOn) g_X8_33 dX8_goOn_32 (wc_lt hw (by decide)) (ae_w0 hw _ _) rfl ?_
    refine v_get (I := iX8_goOn) g_X8_103 dX8_goOn_35 (wc_lt hw (by decide)) (ae_w8 hw _ _) rfl ?_
    rw [V_n15 hV1, e15]
    refine v_icmp_ge (I := iX8_goOn) (tgt := 53) dX8_goOn_38 (by decide) (fun c38 => ?_) (fun c38 => ?_)
    · refine v_iconst (I := iX8_goOn) (v := 0) dX8_goOn_53 (by decide) ?_
      refine v_callVvP (I := iX8_goOn) (I' := iX8_come) lk_X8_212 c_X8_come dX8_goOn_54 (m_X8_come (i := i9) hw hV1 (by grind) hi9 (Or.inr (by rw [e15]; grind))) rfl rfl (wc_lt hw (by decide)) (ae_w0 hw _ _) rfl (by decide) (by decide) (Nat.le_of_ble_eq_true rfl) (fun s54 h54 => ?_)
      exact v_vret (I := iX8_goOn) rfl dX8_goOn_57 ⟨rfl, rfl, by unfold gOne; first | (rw [if_pos hz]; first | (rw [show gNext g = g 11 + 1 by grind]; exact h54.1) | (rw [show gNext g = 0 by grind]; exact h54.1)) | (rw [if_neg (by grind)]; exact V_upc hV (by decide)), by first | exact hF1.tr h54.2 | exact FrW.up (by decide)⟩
    · refine v_aload_n (I := iX8_goOn) dX8_goOn_41 rfl ?_
      refine v_get (I := iX8_goOn) g_X8_18 dX8_goOn_42 (wc_lt hw (by decide)) (ae_w0 hw _ _) rfl ?_
      refine v_bipush (I := iX8_goOn) (v := 11) dX8_goOn_45 (by decide) ?_
      refine v_ialdN (I := iX8_goOn) (j := 11) (by decide) (by decide) (by decide) dX8_goOn_47 (wc_lt hw (by decide)) (ae_w1 hw _ _) ?_
      rw [V_child hV1 (by decide), e11]
      refine v_iconst (I := iX8_goOn) (v := 1) dX8_goOn_48 (by decide) ?_
      refine v_iadd (I := iX8_goOn) dX8_goOn_49 ?_
      refine v_goto (I := iX8_goOn) (tgt := 54) dX8_goOn_50 (by decide) ?_
      refine v_callVvP (I := iX8_goOn) (I' := iX8_come) lk_X8_212 c_X8_come dX8_goOn_54 (m_X8_come (i := i9) hw hV1 (by grind) hi9 (Or.inr (by rw [e15]; grind))) rfl rfl (wc_lt hw (by decide)) (ae_w0 hw _ _) rfl (by decide) (by decide) (Nat.le_of_ble_eq_true rfl) (fun s54 h54 => ?_)
      exact v_vret (I := iX8_goOn) rfl dX8_goOn_57 ⟨rfl, rfl, by unfold gOne; first | (rw [if_pos hz]; first | (rw [show gNext g = g 11 + 1 by grind]; exact h54.1) | (rw [show gNext g = 0 by grind]; exact h54.1)) | (rw [if_neg (by grind)]; exact V_upc hV (by decide)), by first | exact hF1.tr h54.2 | exact FrW.up (by decide)⟩
