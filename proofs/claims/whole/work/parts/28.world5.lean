theorem gHard_fell (g : gS) : gHard (gFell g) = gHard g := by
  unfold gFell gMore
  rw [gHard_up (by decide) (by decide) (by decide) (by decide), gHard_up (by decide) (by decide) (by decide) (by decide)]
set_option maxRecDepth 100000 in
set_option maxHeartbeats 4000000 in
theorem m_X8_fall {G : fGm} {σ : fSt} {τ : fLt} {w : Nat} {g : gS} (hw : w < 3) (hV : V w σ g) (hI : IV g) : MS G iX8_fall 3 [.ref (wc w 0)] σ τ (rW none τ w σ (gFalls g)) := by
  refine ms_of (by decide +kernel) (Nat.le_of_ble_eq_true rfl) ?_
  show VW _ _ _ _ _ _ 0 [(0, _)] []
  have hin := gHard_in hI.1
  have J : ∀ (y hard : Int32), hard = gHard g → VW G iX8_fall (rW none τ w σ (gFalls g)) 3 σ τ 51 [(1, .int y), (0, .ref (wc w 0))] [.int hard] := by
    intro y hard hh
    rw [← hh] at hin
    show VW _ _ _ _ _ _ 51 [(1, _), (0, _)] [.int _]
    refine v_istore_n (I := iX8_fall) (ls1 := [(2, _), (1, _), (0, _)]) dX8_fall_51 (by decide) rfl ?_
    refine v_aload_n (I := iX8_fall) dX8_fall_52 rfl ?_
    refine v_get (I := iX8_fall) g_X8_18 dX8_fall_53 (wc_lt hw (by decide)) (ae_w0 hw _ _) rfl ?_
    refine v_iconst (I := iX8_fall) (v := 1) dX8_fall_56 (by decide) ?_
    refine v_iconst (I := iX8_fall) (v := 0) dX8_fall_57 (by decide) ?_
    refine v_iastN (I := iX8_fall) (j := 1) (by decide) (by decide) (by decide) dX8_fall_58 (wc_lt hw (by decide)) (fun _ => ae_w1 hw _ _) ?_
    have hV1 := V_upc hV (i := 1) (x := 0) (by decide)
    generalize hσ1 : up2 σ (wc w 1) 1 0 = σ1 at hV1 ⊢
    have hF1 : FrW w σ σ1 := by rw [← hσ1]; exact FrW.up (by decide)
    refine v_aload_n (I := iX8_fall) dX8_fall_59 rfl ?_
    refine v_bipush (I := iX8_fall) (v := 7) dX8_fall_60 (by decide) ?_
    refine v_iconst (I := iX8_fall) (v := 1) dX8_fall_62 (by decide) ?_
    refine v_ldc (I := iX8_fall) k_X8_191 dX8_fall_63 ?_
    refine v_callVvP (I := iX8_fall) (I' := iX8_gain) lk_X8_192 c_X8_gain dX8_fall_65 (m_X8_gain (m := 999999) (j := 7) hw hV1 (by decide) (by decide)) rfl rfl (wc_lt hw (by decide)) (ae_w0 hw _ _) rfl (by decide) (by decide) (Nat.le_of_ble_eq_true rfl) (fun s65 h65 => ?_)
    have hI1 : IV (gFell g) := IV_fell hI
    have hV2 : V w s65 (gFell g) := h65.1
    refine v_aload_n (I := iX8_fall) dX8_fall_68 rfl ?_
    refine v_bipush (I := iX8_fall) (v := 9) dX8_fall_69 (by decide) ?_
    refine v_iload_n (I := iX8_fall) dX8_fall_71 rfl ?_
    refine v_ldc (I := iX8_fall) k_X8_191 dX8_fall_72 ?_
    refine v_callVvP (I := iX8_fall) (I' := iX8_gain) lk_X8_192 c_X8_gain dX8_fall_74 (m_X8_gain (m := 999999) (j := 9) hw hV2 (by decide) (by decide)) rfl rfl (wc_lt hw (by decide)) (ae_w0 hw _ _) rfl (by decide) (by decide) (Nat.le_of_ble_eq_true rfl) (fun s74 h74 => ?_)
    have hI3 : IV (gMore (gFell g) 9 hard) := IV_more hI1 (Or.inr (Or.inr (Or.inl rfl))) hin.1 (by have := hin.2; grind)
    have hV3 : V w s74 (gMore (gFell g) 9 hard) := h74.1
    refine v_aload_n (I := iX8_fall) dX8_fall_77 rfl ?_
    refine v_bipush (I := iX8_fall) (v := 6) dX8_fall_78 (by decide) ?_
    refine v_aload_n (I := iX8_fall) dX8_fall_80 rfl ?_
    refine v_iload_n (I := iX8_fall) dX8_fall_81 rfl ?_
    refine v_callViP (I := iX8_fall) (I' := iX8_learns) lk_X8_202 c_X8_learns dX8_fall_82 (m_X8_learns hw hV3 hI3.2.1 hin) rfl rfl (wc_lt hw (by decide)) (ae_w0 hw _ _) rfl (by decide) (by decide) (Nat.le_of_ble_eq_true rfl) (fun s82 h82 => ?_)
    refine v_getsN (I := iX8_fall) (i := 2) (by decide) fln_X8_205 dX8_fall_85 ?_
    refine v_bipush (I := iX8_fall) (v := 6) dX8_fall_88 (by decide) ?_
    refine v_callSi (I := iX8_fall) (I' := iX9_at) lk_X8_99 c_X9_at dX8_fall_90 (m_X9_at_tab (j := 2) (by decide)) rfl rfl (by decide) (by decide) (Nat.le_of_ble_eq_true rfl) ?_
    rw [show rdA (sTb 2).length (fun q => (sTb 2).getD q 0) 6 = 9999 from rfl]
    refine v_callVvP (I := iX8_fall) (I' := iX8_gain) lk_X8_192 c_X8_gain dX8_fall_93 (m_X8_gain (m := 9999) (j := 6) hw h82.1 (by decide) (by decide)) rfl rfl (wc_lt hw (by decide)) (ae_w0 hw _ _) rfl (by decide) (by decide) (Nat.le_of_ble_eq_true rfl) (fun s93 h93 => ?_)
    exact v_vret (I := iX8_fall) rfl dX8_fall_96 ⟨rfl, rfl, by unfold gFalls; rw [gHard_fell, ← hh]; exact h93.1, (((hF1.tr h65.2).tr h74.2).tr h82.2).tr h93.2⟩
  refine v_aload_n (I := iX8_fall) dX8_fall_0 rfl ?_
  refine v_get (I := iX8_fall) g_X8_26 dX8_fall_1 (wc_lt hw (by decide)) (ae_w0 hw _ _) rfl ?_
  refine v_aload_n (I := iX8_fall) dX8_fall_4 rfl ?_
  refine v_get (I := iX8_fall) g_X8_18 dX8_fall_5 (wc_lt hw (by decide)) (ae_w0 hw _ _) rfl ?_
  refine v_iconst (I := iX8_fall) (v := 0) dX8_fall_8 (by decide) ?_
  refine v_ialdN (I := iX8_fall) (j := 0) (by decide) (by decide) (by decide) dX8_fall_9 (wc_lt hw (by decide)) (ae_w1 hw _ _) ?_
  refine v_callVi (I := iX8_fall) (I' := iX3_nearestTo) lk_X8_115 c_X3_nearestTo dX8_fall_10 (m_X3_nearestTo hw hV hI.1 (V_child hV (by decide))) rfl rfl (wc_lt hw (by decide)) (ae_w2 hw _ _) rfl (by decide) (by decide) (Nat.le_of_ble_eq_true rfl) ?_
  refine v_istore_n (I := iX8_fall) (ls1 := [(1, _), (0, _)]) dX8_fall_13 (by decide) rfl ?_
  cases hb9 : gNear g with
  | none =>
    refine v_aload_n (I := iX8_fall) dX8_fall_14 rfl ?_
    refine v_iload_n (I := iX8_fall) dX8_fall_15 rfl ?_
    refine v_callVi (I := iX8_fall) (I' := iX8_isAtHand) lk_X8_119 c_X8_isAtHand dX8_fall_16 (m_X8_isAtHand (o := none) hw hV rfl (fun b hb => by cases hb)) rfl rfl (wc_lt hw (by decide)) (ae_w0 hw _ _) rfl (by decide) (by decide) (Nat.le_of_ble_eq_true rfl) ?_
    refine v_if_eqB (I := iX8_fall) (tgt := 50) dX8_fall_19 (by decide) (fun c19 => ?_) (fun c19 => ?_)
    · refine v_iconst (I := iX8_fall) (v := 0) dX8_fall_50 (by decide) ?_
      exact J _ _ (by unfold gHard; rw [hb9])
    · exact absurd c19 Bool.false_ne_true
  | some b =>
    have hb8 := gNear_lt hI.1 hb9
    have hbx : oI (some b) = nI b := rfl
    refine v_aload_n (I := iX8_fall) dX8_fall_14 rfl ?_
    refine v_iload_n (I := iX8_fall) dX8_fall_15 rfl ?_
    refine v_callVi (I := iX8_fall) (I' := iX8_isAtHand) lk_X8_119 c_X8_isAtHand dX8_fall_16 (m_X8_isAtHand (o := some b) hw hV rfl (fun b2 hb => by cases hb; exact hb8)) rfl rfl (wc_lt hw (by decide)) (ae_w0 hw _ _) rfl (by decide) (by decide) (Nat.le_of_ble_eq_true rfl) ?_
    refine v_if_eqB (I := iX8_fall) (tgt := 50) dX8_fall_19 (by decide) (fun c19 => ?_) (fun c19 => ?_)
    · have c19b : ¬ gDist g b ≤ g 2 := fun h => c19 (decide_eq_true h)
      refine v_iconst (I := iX8_fall) (v := 0) dX8_fall_50 (by decide) ?_
      exact J _ _ (by unfold gHard; rw [hb9]; dsimp only; rw [if_neg (fun h => c19b h.1)])
    · have c19b : gDist g b ≤ g 2 := of_decide_eq_true c19
      refine v_aload_n (I := iX8_fall) dX8_fall_22 rfl ?_
      refine v_get (I := iX8_fall) g_X8_26 dX8_fall_23 (wc_lt hw (by decide)) (ae_w0 hw _ _) rfl ?_
      refine v_get (I := iX8_fall) g_X8_196 dX8_fall_26 (wc_lt hw (by decide)) (ae_w2 hw _ _) rfl ?_
      refine v_iload_n (I := iX8_fall) dX8_fall_29 rfl ?_
      refine v_callSi (I := iX8_fall) (I' := iX9_at) lk_X8_99 c_X9_at dX8_fall_30 (m_X9_at (wc_lt hw (by decide)) (ae_w7 hw) (by decide)) rfl rfl (by decide) (by decide) (Nat.le_of_ble_eq_true rfl) ?_
      rw [show rdA 8 (σ (wc w 7)) (oI (some b)) = g (39 + 3 * b + 2) by rw [hbx, rdA_in hb8 (by decide), V_hpad hV hb8]]
      refine v_if_ne (I := iX8_fall) (tgt := 50) dX8_fall_33 (by decide) (fun c33 => ?_) (fun c33 => ?_)
      · refine v_iconst (I := iX8_fall) (v := 0) dX8_fall_50 (by decide) ?_
        exact J _ _ (by unfold gHard; rw [hb9]; dsimp only; rw [if_neg (fun h => c33 h.2)])
      · refine v_aload_n (I := iX8_fall) dX8_fall_36 rfl ?_
        refine v_get (I := iX8_fall) g_X8_26 dX8_fall_37 (wc_lt hw (by decide)) (ae_w0 hw _ _) rfl ?_
        refine v_get (I := iX8_fall) g_X8_199 dX8_fall_40 (wc_lt hw (by decide)) (ae_w2 hw _ _) rfl ?_
        refine v_iload_n (I := iX8_fall) dX8_fall_43 rfl ?_
        refine v_callSi (I := iX8_fall) (I' := iX9_at) lk_X8_99 c_X9_at dX8_fall_44 (m_X9_at (wc_lt hw (by decide)) (ae_w6 hw) (by decide)) rfl rfl (by decide) (by decide) (Nat.le_of_ble_eq_true rfl) ?_
        rw [show rdA 8 (σ (wc w 6)) (oI (some b)) = g (39 + 3 * b + 1) by rw [hbx, rdA_in hb8 (by decide), V_hhard hV hb8]]
        refine v_goto (I := iX8_fall) (tgt := 51) dX8_fall_47 (by decide) ?_
        exact J _ _ (by unfold gHard; rw [hb9]; dsimp only; rw [if_pos ⟨c19b, c33⟩])
set_option maxRecDepth 100000 in
set_option maxHeartbeats 4000000 in
theorem m_X8_passTenth1 {G : fGm} {σ : fSt} {τ : fLt} {w : Nat} {g : gS} (hw : w < 3) (hV : V w σ g) (hI : IV g) (h15 : 0 < g 15) : MS G iX8_passTenth 6 [.ref (wc w 0)] σ τ (rW none τ w σ (gTenth g)) := by
  refine ms_of (by decide +kernel) (Nat.le_of_ble_eq_true rfl) ?_
  show VW _ _ _ _ _ _ 0 [(0, _)] []
  obtain ⟨hx, hi⟩ := gNow_x hI.1
  have hsw := gSways_in (i := gNow g) hI.1
  have J : ∀ (σ4 : fSt) (g4 : gS), V w σ4 g4 → IV g4 → 0 < g4 15 → FrW w σ σ4 → gOne g4 = gTenth g → VW G iX8_passTenth (rW none τ w σ (gTenth g)) 6 σ4 τ 95 [(0, .ref (wc w 0))] [] := by
    intro σ4 g4 hV4 hI4 h15b hF4 he
    show VW _ _ _ _ _ _ 95 [(0, _)] []
    refine v_aload_n (I := iX8_passTenth) dX8_passTenth_95 rfl ?_
    refine v_callVvP (I := iX8_passTenth) (I' := iX8_goOn) lk_X8_169 c_X8_goOn dX8_passTenth_96 (m_X8_goOn hw hV4 hI4 h15b) rfl rfl (wc_lt hw (by decide)) (ae_w0 hw _ _) rfl (by decide) (by decide) (Nat.le_of_ble_eq_true rfl) (fun s96 h96 => ?_)
    exact v_vret (I := iX8_passTenth) rfl dX8_passTenth_99 ⟨rfl, rfl, by rw [← he]; exact h96.1, hF4.tr h96.2⟩
  refine v_aload_n (I := iX8_passTenth) dX8_passTenth_0 rfl ?_
  refine v_get (I := iX8_passTenth) g_X8_33 dX8_passTenth_1 (wc_lt hw (by decide)) (ae_w0 hw _ _) rfl ?_
  refine v_get (I := iX8_passTenth) g_X8_103 dX8_passTenth_4 (wc_lt hw (by decide)) (ae_w8 hw _ _) rfl ?_
  rw [V_n15 hV]
  refine v_if_ne (I := iX8_passTenth) (tgt := 11) dX8_passTenth_7 (by decide) (fun c7 => ?_) (fun c7 => ?_)
  · refine v_aload_n (I := iX8_passTenth) dX8_passTenth_11 rfl ?_
    refine v_aload_n (I := iX8_passTenth) dX8_passTenth_12 rfl ?_
    refine v_get (I := iX8_passTenth) g_X8_18 dX8_passTenth_13 (wc_lt hw (by decide)) (ae_w0 hw _ _) rfl ?_
    refine v_bipush (I := iX8_passTenth) (v := 11) dX8_passTenth_16 (by decide) ?_
    refine v_ialdN (I := iX8_passTenth) (j := 11) (by decide) (by decide) (by decide) dX8_passTenth_18 (wc_lt hw (by decide)) (ae_w1 hw _ _) ?_
    rw [V_child hV (by decide)]
    refine v_callVr (I := iX8_passTenth) (I' := iX8_gaitOf) lk_X8_137 c_X8_gaitOf dX8_passTenth_19 (m_X8_gaitOf hw hV hI.1 hx hi) rfl rfl (wc_lt hw (by decide)) (ae_w0 hw _ _) rfl (by decide) (by decide) (Nat.le_of_ble_eq_true rfl) ?_
    have hV1 : V w (gaitS w σ g (gNow g)) g := gaitS_V hV
    have hF1 : FrW w σ (gaitS w σ g (gNow g)) := gaitS_F
    obtain ⟨q0, q1, q2, q3⟩ := gaitS_0 (w := w) (i := gNow g) (σ := σ) (g := g)
    generalize gaitS w σ g (gNow g) = σ1 at hV1 hF1 q0 q1 q2 q3 ⊢
    refine v_astore_n (I := iX8_passTenth) (ls1 := [(1, _), (0, _)]) dX8_passTenth_22 (by decide) rfl ?_
    refine v_aload_n (I := iX8_passTenth) dX8_passTenth_23 rfl ?_
    refine v_aload_n (I := iX8_passTenth) dX8_passTenth_24 rfl ?_
    refine v_get (I := iX8_passTenth) g_X8_18 dX8_passTenth_25 (wc_lt hw (by decide)) (ae_w0 hw _ _) rfl ?_
    refine v_iconst (I := iX8_passTenth) (v := 1) dX8_passTenth_28 (by decide) ?_
    refine v_ialdN (I := iX8_passTenth) (j := 1) (by decide) (by decide) (by decide) dX8_passTenth_29 (wc_lt hw (by decide)) (ae_w1 hw _ _) ?_
    rw [V_child hV1 (by decide)]
    refine v_aload_n (I := iX8_passTenth) dX8_passTenth_30 rfl ?_
    refine v_aload_n (I := iX8_passTenth) dX8_passTenth_31 rfl ?_
    refine v_get (I := iX8_passTenth) g_X8_141 dX8_passTenth_32 (wc_lt hw (by decide)) (ae_w20 hw _ _) rfl ?_
    rw [q0]
    refine v_callVi (I := iX8_passTenth) (I' := iX8_draw) lk_X8_144 c_X8_draw dX8_passTenth_35 (m_X8_draw hw hV1 hsw.1 hsw.2) rfl rfl (wc_lt hw (by decide)) (ae_w0 hw _ _) rfl (by decide) (by decide) (Nat.le_of_ble_eq_true rfl) ?_
    have hV2 : V w (up2 σ1 (wc w 1) 14 (gDraw g 18)) (gDraw g) := V_upz hV1
    generalize hσ2 : up2 σ1 (wc w 1) 14 (gDraw g 18) = σ2 at hV2 ⊢
    have hF2 : FrW w σ σ2 := hF1.tr (by rw [← hσ2]; exact FrW.up (by decide))
    have h20 : σ2 (wc w 20) = σ1 (wc w 20) := by rw [← hσ2]; exact up2_kf _ _ _ (wc_ne (by decide))
    have hI2 := IV_draw hI
    have h152 : 0 < gDraw g 15 := by unfold gDraw; rw [va_up_o _ _ (by decide)]; exact h15
    refine v_callVi (I := iX8_passTenth) (I' := iX8_leant) lk_X8_147 c_X8_leant dX8_passTenth_38 (m_X8_leant hw hV2 hI2.1) rfl rfl (wc_lt hw (by decide)) (ae_w0 hw _ _) rfl (by decide) (by decide) (Nat.le_of_ble_eq_true rfl) ?_
    rw [show g 1 + g 1 / 5 + (gPick (gDraw g 18) (2 * gSways g (gNow g) + 1) - gSways g (gNow g)) + gSlope (gDraw g) = gLeant (gDraw g) (gSways g (gNow g)) by unfold gLeant; rw [show gDraw g 1 = g 1 from va_up_o _ _ (by decide)]; grind]
    refine v_istore_n (I := iX8_passTenth) (ls1 := [(2, _), (1, _), (0, _)]) dX8_passTenth_41 (by decide) rfl ?_
    refine v_iload_n (I := iX8_passTenth) dX8_passTenth_42 rfl ?_
    refine v_bipush (I := iX8_passTenth) (v := -99) dX8_passTenth_43 (by decide) ?_
    refine v_bipush (I := iX8_passTenth) (v := 99) dX8_passTenth_45 (by decide) ?_
    refine v_callSi (I := iX8_passTenth) (I' := iX9_within) lk_X8_150 c_X9_within dX8_passTenth_47 (m_X9_within) rfl rfl (by decide) (by decide) (Nat.le_of_ble_eq_true rfl) ?_
    refine v_if_neB (I := iX8_passTenth) (tgt := 60) dX8_passTenth_50 (by decide) (fun c50 => ?_) (fun c50 => ?_)
    · refine v_aload_n (I := iX8_passTenth) dX8_passTenth_60 rfl ?_
      refine v_aload_n (I := iX8_passTenth) dX8_passTenth_61 rfl ?_
      refine v_callVi (I := iX8_passTenth) (I' := iX8_isStep) lk_X8_157 c_X8_isStep dX8_passTenth_62 (m_X8_isStep hw hV2 hI2.1 (by rw [h20, q2, show gNow (gDraw g) = gNow g by unfold gNow; rw [show gDraw g 11 = g 11 from va_up_o _ _ (by decide)]]; exact (gPace_up (by decide) (by decide) (by decide) (by decide)).symm)) rfl rfl (wc_lt hw (by decide)) (ae_w0 hw _ _) rfl (by decide) (by decide) (Nat.le_of_ble_eq_true rfl) ?_
      rw [show gNow (gDraw g) = gNow g by unfold gNow; rw [show gDraw g 11 = g 11 from va_up_o _ _ (by decide)]]
      refine v_if_eqB (I := iX8_passTenth) (tgt := 88) dX8_passTenth_65 (by decide) (fun c65 => ?_) (fun c65 => ?_)
      · refine v_aload_n (I := iX8_passTenth) dX8_passTenth_88 rfl ?_
        refine v_get (I := iX8_passTenth) g_X8_18 dX8_passTenth_89 (wc_lt hw (by decide)) (ae_w0 hw _ _) rfl ?_
        refine v_iconst (I := iX8_passTenth) (v := 1) dX8_passTenth_92 (by decide) ?_
        refine v_iload_n (I := iX8_passTenth) dX8_passTenth_93 rfl ?_
        refine v_iastN (I := iX8_passTenth) (j := 1) (by decide) (by decide) (by decide) dX8_passTenth_94 (wc_lt hw (by decide)) (fun _ => ae_w1 hw _ _) ?_
        refine v_pick (ls1 := [(0, _)]) [2] rfl ?_
        exact J _ _ (V_upc hV2 (by decide)) (IV_lean hI2 c50) (by rw [va_up_o _ _ (by decide)]; exact h152) (hF2.tr (FrW.up (by decide))) (by rw [gTenth_B c50 c65])
      · refine v_aload_n (I := iX8_passTenth) dX8_passTenth_68 rfl ?_
        refine v_get (I := iX8_passTenth) g_X8_18 dX8_passTenth_69 (wc_lt hw (by decide)) (ae_w0 hw _ _) rfl ?_
        refine v_iconst (I := iX8_passTenth) (v := 1) dX8_passTenth_72 (by decide) ?_
        refine v_aload_n (I := iX8_passTenth) dX8_passTenth_73 rfl ?_
        refine v_iload_n (I := iX8_passTenth) dX8_passTenth_74 rfl ?_
        refine v_aload_n (I := iX8_passTenth) dX8_passTenth_75 rfl ?_
        refine v_callVi (I := iX8_passTenth) (I' := iX8_caught) lk_X8_161 c_X8_caught dX8_passTenth_76 (m_X8_caught (b := gCatch g (gNow g)) hw hV2 hI2.1 (by rw [h20, q3])) rfl rfl (wc_lt hw (by decide)) (ae_w0 hw _ _) rfl (by decide) (by decide) (Nat.le_of_ble_eq_true rfl) ?_
        rw [show gNearer (gLeant (gDraw g) (gSways g (gNow g))) (if 0 < gCatch g (gNow g) - 2 * gSlip (gDraw g) then gCatch g (gNow g) - 2 * gSlip (gDraw g) else 0) = gNearer (gLeant (gDraw g) (gSways g (gNow g))) (gBy (gDraw g) (gNow g)) by unfold gBy; rw [show gCatch (gDraw g) (gNow g) = gCatch g (gNow g) from gCatch_up (by decide) (by decide) (by decide) (by decide) (by decide) (by decide) (by decide)]]
        refine v_iastN (I := iX8_passTenth) (j := 1) (by decide) (by decide) (by decide) dX8_passTenth_79 (wc_lt hw (by decide)) (fun _ => ae_w1 hw _ _) ?_
        have hV3 := V_upc hV2 (i := 1) (x := gNearer (gLeant (gDraw g) (gSways g (gNow g))) (gBy (gDraw g) (gNow g))) (by decide)
        have hI3 := IV_lean (x := gNearer (gLeant (gDraw g) (gSways g (gNow g))) (gBy (gDraw g) (gNow g))) hI2 (gNearer_in c50 (gBy_in _ _))
        generalize hσ3 : up2 σ2 (wc w 1) 1 (gNearer (gLeant (gDraw g) (gSways g (gNow g))) (gBy (gDraw g) (gNow g))) = σ3 at hV3 ⊢
        have hF3 : FrW w σ σ3 := hF2.tr (by rw [← hσ3]; exact FrW.up (by decide))
        have h20b : σ3 (wc w 20) = σ1 (wc w 20) := by rw [← hσ3, up2_kf _ _ _ (wc_ne (by decide)), h20]
        refine v_aload_n (I := iX8_passTenth) dX8_passTenth_80 rfl ?_
        refine v_aload_n (I := iX8_passTenth) dX8_passTenth_81 rfl ?_
        refine v_callVvP (I := iX8_passTenth) (I' := iX8_stepOn) lk_X8_165 c_X8_stepOn dX8_passTenth_82 (m_X8_stepOn (i := gNow g) hw hV3 (by rw [h20b, q1, gStride_up (by decide) (by decide) (by decide) (by decide)]; exact (gStride_up (by decide) (by decide) (by decide) (by decide)).symm)) rfl rfl (wc_lt hw (by decide)) (ae_w0 hw _ _) rfl (by decide) (by decide) (Nat.le_of_ble_eq_true rfl) (fun s82 h82 => ?_)
        refine v_goto (I := iX8_passTenth) (tgt := 95) dX8_passTenth_85 (by decide) ?_
        refine v_pick (ls1 := [(0, _)]) [2] rfl ?_
        exact J _ _ h82.1 (IV_stepOn hI3) (by rw [gStepOn15, va_up_o _ _ (by decide)]; exact h152) (hF3.tr h82.2) (by rw [gTenth_A c50 c65])
    · refine v_aload_n (I := iX8_passTenth) dX8_passTenth_53 rfl ?_
      refine v_callVvP (I := iX8_passTenth) (I' := iX8_fall) lk_X8_154 c_X8_fall dX8_passTenth_54 (m_X8_fall hw hV2 hI2) rfl rfl (wc_lt hw (by decide)) (ae_w0 hw _ _) rfl (by decide) (by decide) (Nat.le_of_ble_eq_true rfl) (fun s54 h54 => ?_)
      refine v_goto (I := iX8_passTenth) (tgt := 95) dX8_passTenth_57 (by decide) ?_
      refine v_pick (ls1 := [(0, _)]) [2] rfl ?_
      exact J _ _ h54.1 (IV_falls hI2) (by rw [gFalls15]; exact h152) (hF2.tr h54.2) (by rw [gTenth_C c50])
  · exact absurd h15 (by rw [c7]; decide)
