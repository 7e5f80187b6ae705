def FrT (σ σ' : fSt) : Prop := ∀ k, k ≠ 88 → k ≠ 96 → k ≠ 97 → σ' k = σ k
/-- the row becomes g, all else but the scratch rows stays -/
def rG (τ : fLt) (σ : fSt) (g : gS) : Option Value → fSt → fLt → Prop := rP none τ (fun σ' => σ' 88 = g ∧ FrT σ σ')
set_option maxRecDepth 100000 in
set_option maxHeartbeats 4000000 in
theorem m_X10_falls {G : fGm} {σ : fSt} {τ : fLt} (hI : IV (σ 88)) : MS G iX10_falls 5 [.ref 87] σ τ (rG τ σ (gFalls (σ 88))) := by
  refine ms_of (by decide +kernel) (Nat.le_of_ble_eq_true rfl) ?_
  show VW _ _ _ _ _ _ 0 [(0, _)] []
  refine v_aload_n (I := iX10_falls) dX10_falls_0 rfl ?_
  refine v_get (I := iX10_falls) g_X10_9 dX10_falls_1 (by decide) (ae_87 _ _) rfl ?_
  refine v_iconst (I := iX10_falls) (v := 1) dX10_falls_4 (by decide) ?_
  refine v_iconst (I := iX10_falls) (v := 0) dX10_falls_5 (by decide) ?_
  refine v_iastN (I := iX10_falls) (j := 1) (by decide) (by decide) (by decide) dX10_falls_6 (by decide) (fun _ => ae_88 _ _) ?_
  refine v_aload_n (I := iX10_falls) dX10_falls_7 rfl ?_
  refine v_bipush (I := iX10_falls) (v := 7) dX10_falls_8 (by decide) ?_
  refine v_iconst (I := iX10_falls) (v := 1) dX10_falls_10 (by decide) ?_
  refine v_callVv (I := iX10_falls) (I' := iX10_more) lk_X10_229 c_X10_more dX10_falls_11 (m_X10_more (j := 7) (by decide) (by decide)) rfl rfl (by decide) (ae_87 _ _) rfl (by decide) (by decide) (Nat.le_of_ble_eq_true rfl) ?_
  have e11 : va_up (up2 σ 88 1 0) 88 (gMore (up2 σ 88 1 0 88) 7 1) = va_up σ 88 (gFell (σ 88)) := by
    simp only [up2, va_up_s, va_up_va]; rfl
  rw [e11]
  generalize hσ1 : va_up σ 88 (gFell (σ 88)) = σ1
  have h1 : σ1 88 = gFell (σ 88) := by rw [← hσ1, va_up_s]
  have hfr1 : ∀ k, k ≠ 88 → σ1 k = σ k := fun k hk => by rw [← hσ1, va_up_o _ _ hk]
  have hI1 : IV (σ1 88) := by rw [h1]; exact IV_fell hI
  have J : ∀ (y hard : Int32), hard = gHard (σ1 88) → VW G iX10_falls (rG τ σ (gFalls (σ 88))) 5 σ1 τ 50 [(1, .int y), (0, .ref 87)] [.int hard] := by
    intro y hard hh
    show VW _ _ _ _ _ _ 50 [(1, _), (0, _)] [.int _]
    refine v_istore_n (I := iX10_falls) (ls1 := [(2, _), (1, _), (0, _)]) dX10_falls_50 (by decide) rfl ?_
    refine v_aload_n (I := iX10_falls) dX10_falls_51 rfl ?_
    refine v_bipush (I := iX10_falls) (v := 9) dX10_falls_52 (by decide) ?_
    refine v_iload_n (I := iX10_falls) dX10_falls_54 rfl ?_
    refine v_callVv (I := iX10_falls) (I' := iX10_more) lk_X10_229 c_X10_more dX10_falls_55 (m_X10_more (j := 9) (by decide) (by decide)) rfl rfl (by decide) (ae_87 _ _) rfl (by decide) (by decide) (Nat.le_of_ble_eq_true rfl) ?_
    generalize hσ2 : va_up σ1 88 (gMore (σ1 88) 9 hard) = σ2
    have h2 : σ2 88 = gMore (σ1 88) 9 hard := by rw [← hσ2, va_up_s]
    have hfr2 : ∀ k, k ≠ 88 → σ2 k = σ1 k := fun k hk => by rw [← hσ2, va_up_o _ _ hk]
    have hW2 : tOK (σ2 88) 0 := by rw [h2]; exact tOK_up (by decide) (by decide) hI1.2.1
    refine v_aload_n (I := iX10_falls) dX10_falls_58 rfl ?_
    refine v_get (I := iX10_falls) g_X10_9 dX10_falls_59 (by decide) (ae_87 _ _) rfl ?_
    refine v_bipush (I := iX10_falls) (v := 6) dX10_falls_62 (by decide) ?_
    refine v_sipush (I := iX10_falls) (v := 9999) dX10_falls_64 (by decide) ?_
    refine v_aload_n (I := iX10_falls) dX10_falls_67 rfl ?_
    refine v_get (I := iX10_falls) g_X10_9 dX10_falls_68 (by decide) (ae_87 _ _) rfl ?_
    refine v_bipush (I := iX10_falls) (v := 6) dX10_falls_71 (by decide) ?_
    refine v_ialdN (I := iX10_falls) (j := 6) (by decide) (by decide) (by decide) dX10_falls_73 (by decide) (ae_88 _ _) ?_
    refine v_aload_n (I := iX10_falls) dX10_falls_74 rfl ?_
    refine v_iload_n (I := iX10_falls) dX10_falls_75 rfl ?_
    refine v_callViP (I := iX10_falls) (I' := iX10_learns) lk_X10_233 c_X10_learns dX10_falls_76 (m_X10_learns hW2) rfl rfl (by decide) (ae_87 _ _) rfl (by decide) (by decide) (Nat.le_of_ble_eq_true rfl) (fun s76 h76 => ?_)
    refine v_iadd (I := iX10_falls) dX10_falls_79 ?_
    refine v_min (I := iX10_falls) lm_X10_70 dX10_falls_80 (by decide) (Nat.le_of_ble_eq_true rfl) ?_
    refine v_iastN (I := iX10_falls) (j := 6) (by decide) (by decide) (by decide) dX10_falls_83 (by decide) (fun _ => ae_88 _ _) ?_
    exact v_vret (I := iX10_falls) rfl dX10_falls_84 ⟨rfl, rfl, by
        rw [up2_f]
        unfold gFalls gLearnt
        rw [h76 88 (by decide) (by decide), h2, ← h1, ← hh], fun k k1 k2 k3 => by rw [up2_kf _ _ _ k1, h76 k k2 k3, hfr2 k k1, hfr1 k k1]⟩
  refine v_aload_n (I := iX10_falls) dX10_falls_14 rfl ?_
  refine v_callVi (I := iX10_falls) (I' := iX10_nearestOf) lk_X10_120 c_X10_nearestOf dX10_falls_15 (m_X10_nearestOf hI1.1) rfl rfl (by decide) (ae_87 _ _) rfl (by decide) (by decide) (Nat.le_of_ble_eq_true rfl) ?_
  cases hb9 : gNear (σ1 88) with
  | none =>
    refine v_istore_n (I := iX10_falls) (ls1 := [(1, _), (0, _)]) dX10_falls_18 (by decide) rfl ?_
    refine v_iload_n (I := iX10_falls) dX10_falls_19 rfl ?_
    refine v_if_lt (I := iX10_falls) (tgt := 49) dX10_falls_20 (by decide) (fun c20 => ?_) (fun c20 => ?_)
    · refine v_iconst (I := iX10_falls) (v := 0) dX10_falls_49 (by decide) ?_
      exact J _ _ (by unfold gHard; rw [hb9]; try (first | rfl | (dsimp only; first | (rw [if_pos (by constructor <;> assumption)]; done) | (rw [if_neg (by grind)]; done))))
    · exact absurd (by decide) c20
  | some b =>
    have hb8 := gNear_lt hI1.1 hb9
    have hbx : oI (some b) = nI b := rfl
    refine v_istore_n (I := iX10_falls) (ls1 := [(1, _), (0, _)]) dX10_falls_18 (by decide) rfl ?_
    refine v_iload_n (I := iX10_falls) dX10_falls_19 rfl ?_
    refine v_if_lt (I := iX10_falls) (tgt := 49) dX10_falls_20 (by decide) (fun c20 => ?_) (fun c20 => ?_)
    · exact absurd c20 (by rw [hbx]; exact nI_pos (by omega))
    · refine v_aload_n (I := iX10_falls) dX10_falls_23 rfl ?_
      refine v_iload_n (I := iX10_falls) dX10_falls_24 rfl ?_
      refine v_callVi (I := iX10_falls) (I' := iX10_isAtHand) lk_X10_116 c_X10_isAtHand dX10_falls_25 (m_X10_isAtHand hbx hb8) rfl rfl (by decide) (ae_87 _ _) rfl (by decide) (by decide) (Nat.le_of_ble_eq_true rfl) ?_
      refine v_if_eqB (I := iX10_falls) (tgt := 49) dX10_falls_28 (by decide) (fun c28 => ?_) (fun c28 => ?_)
      · refine v_iconst (I := iX10_falls) (v := 0) dX10_falls_49 (by decide) ?_
        exact J _ _ (by unfold gHard; rw [hb9]; try (first | rfl | (dsimp only; first | (rw [if_pos (by constructor <;> assumption)]; done) | (rw [if_neg (by grind)]; done))))
      · refine v_aload_n (I := iX10_falls) dX10_falls_31 rfl ?_
        refine v_iload_n (I := iX10_falls) dX10_falls_32 rfl ?_
        refine v_iconst (I := iX10_falls) (v := 2) dX10_falls_33 (by decide) ?_
        refine v_callVi (I := iX10_falls) (I' := iX10_holdOf) lk_X10_104 c_X10_holdOf dX10_falls_34 (m_X10_holdOf (f := 2) hbx hb8 (by decide) (by decide)) rfl rfl (by decide) (ae_87 _ _) rfl (by decide) (by decide) (Nat.le_of_ble_eq_true rfl) ?_
        refine v_if_ne (I := iX10_falls) (tgt := 49) dX10_falls_37 (by decide) (fun c37 => ?_) (fun c37 => ?_)
        · refine v_iconst (I := iX10_falls) (v := 0) dX10_falls_49 (by decide) ?_
          exact J _ _ (by unfold gHard; rw [hb9]; try (first | rfl | (dsimp only; first | (rw [if_pos (by constructor <;> assumption)]; done) | (rw [if_neg (by grind)]; done))))
        · refine v_aload_n (I := iX10_falls) dX10_falls_40 rfl ?_
          refine v_iload_n (I := iX10_falls) dX10_falls_41 rfl ?_
          refine v_iconst (I := iX10_falls) (v := 1) dX10_falls_42 (by decide) ?_
          refine v_callVi (I := iX10_falls) (I' := iX10_holdOf) lk_X10_104 c_X10_holdOf dX10_falls_43 (m_X10_holdOf (f := 1) hbx hb8 (by decide) (by decide)) rfl rfl (by decide) (ae_87 _ _) rfl (by decide) (by decide) (Nat.le_of_ble_eq_true rfl) ?_
          refine v_goto (I := iX10_falls) (tgt := 50) dX10_falls_46 (by decide) ?_
          exact J _ _ (by unfold gHard; rw [hb9]; try (first | rfl | (dsimp only; first | (rw [if_pos (by constructor <;> assumption)]; done) | (rw [if_neg (by grind)]; done))))
theorem gSways_in {g : gS} {i : Nat} (hB : B g) : 0 ≤ gSways g i ∧ gSways g i ≤ 9 := by
  obtain ⟨s, hs, e⟩ := B_nat hB 3 9 (by decide) (by decide) (by decide)
  have h3 : nI s / 3 = nI (s / 3) := pk_div (d := 3) (by omega) (by decide) (by decide)
  have a1 : 0 ≤ nI s ∧ nI s ≤ 9 := ⟨nI_pos' (by omega), nI_le (b := 9) hs (by decide)⟩
  have a2 : 0 ≤ nI (s / 3) ∧ nI (s / 3) ≤ 9 := ⟨nI_pos' (by omega), nI_le (b := 9) (by omega) (by decide)⟩
  unfold gSways
  rw [e, h3]
  split
  · split
    · exact a2
    · exact a1
  · split
    · split
      · exact a2
      · exact a1
    · split
      · exact hld_in (by decide)
      · split
        · exact ⟨by decide, by decide⟩
        · exact a1
theorem gNow_x {g : gS} (hB : B g) : g 11 = nI (gNow g) ∧ gNow g < 8 := by
  obtain ⟨a, ha, e⟩ := B_nat hB 11 7 (by decide) (by decide) (by decide)
  unfold gNow
  rw [e, nI_clamp (by omega)]
  exact ⟨rfl, by omega⟩
theorem gTenth_A {g : gS} (h : -99 ≤ gLeant (gDraw g) (gSways g (gNow g)) ∧ gLeant (gDraw g) (gSways g (gNow g)) ≤ 99) (h2 : gIsStepI (gDraw g) (gNow g) = true) : gTenth g = gOne (gStepOn (va_up (gDraw g) 1 (gNearer (gLeant (gDraw g) (gSways g (gNow g))) (gBy (gDraw g) (gNow g)))) (gNow g)) := by
  unfold gTenth
  simp only [if_pos h, if_pos h2]
theorem gTenth_B {g : gS} (h : -99 ≤ gLeant (gDraw g) (gSways g (gNow g)) ∧ gLeant (gDraw g) (gSways g (gNow g)) ≤ 99) (h2 : ¬ gIsStepI (gDraw g) (gNow g) = true) : gTenth g = gOne (va_up (gDraw g) 1 (gLeant (gDraw g) (gSways g (gNow g)))) := by
  unfold gTenth
  simp only [if_pos h, if_neg h2]
theorem gTenth_C {g : gS} (h : ¬ (-99 ≤ gLeant (gDraw g) (gSways g (gNow g)) ∧ gLeant (gDraw g) (gSways g (gNow g)) ≤ 99)) : gTenth g = gOne (gFalls (gDraw g)) := by
  unfold gTenth
  simp only [if_neg h]
set_option maxRecDepth 100000 in
set_option maxHeartbeats 4000000 in
theorem m_X10_tenth {G : fGm} {σ : fSt} {τ : fLt} (hI : IV (σ 88)) (h15 : 0 < σ 88 15) : MS G iX10_tenth 6 [.ref 87] σ τ (rG τ σ (gTenth (σ 88))) := by
  refine ms_of (by decide +kernel) (Nat.le_of_ble_eq_true rfl) ?_
  show VW _ _ _ _ _ _ 0 [(0, _)] []
  obtain ⟨hx, hi⟩ := gNow_x hI.1
  have hsw := gSways_in (i := gNow (σ 88)) hI.1
  have J : ∀ σ4 : fSt, IV (σ4 88) → 0 < σ4 88 15 → FrT σ σ4 → gOne (σ4 88) = gTenth (σ 88) → VW G iX10_tenth (rG τ σ (gTenth (σ 88))) 6 σ4 τ 130 [(0, .ref 87)] [] := by
    intro σ4 hI4 h15 hf4 he
    show VW _ _ _ _ _ _ 130 [(0, _)] []
    refine v_aload_n (I := iX10_tenth) dX10_tenth_130 rfl ?_
    refine v_callVv (I := iX10_tenth) (I' := iX10_oneLess) lk_X10_254 c_X10_oneLess dX10_tenth_131 (m_X10_oneLess hI4.1 h15 (hI4.2.2.2.1 h15).1) rfl rfl (by decide) (ae_87 _ _) rfl (by decide) (by decide) (Nat.le_of_ble_eq_true rfl) ?_
    exact v_vret (I := iX10_tenth) rfl dX10_tenth_134 ⟨rfl, rfl, by rw [va_up_s, he], fun k k1 k2 k3 => by rw [va_up_o _ _ k1, hf4 k k1 k2 k3]⟩
  refine v_aload_n (I := iX10_tenth) dX10_tenth_0 rfl ?_
  refine v_get (I := iX10_tenth) g_X10_9 dX10_tenth_1 (by decide) (ae_87 _ _) rfl ?_
  refine v_bipush (I := iX10_tenth) (v := 11) dX10_tenth_4 (by decide) ?_
  refine v_ialdN (I := iX10_tenth) (j := 11) (by decide) (by decide) (by decide) dX10_tenth_6 (by decide) (ae_88 _ _) ?_
  refine v_istore_n (I := iX10_tenth) (ls1 := [(1, _), (0, _)]) dX10_tenth_7 (by decide) rfl ?_
  refine v_aload_n (I := iX10_tenth) dX10_tenth_8 rfl ?_
  refine v_iload_n (I := iX10_tenth) dX10_tenth_9 rfl ?_
  refine v_callVi (I := iX10_tenth) (I' := iX10_swaysOf) lk_X10_143 c_X10_swaysOf dX10_tenth_10 (m_X10_swaysOf hI.1 hx hi) rfl rfl (by decide) (ae_87 _ _) rfl (by decide) (by decide) (Nat.le_of_ble_eq_true rfl) ?_
  refine v_istore_n (I := iX10_tenth) (ls1 := [(2, _), (1, _), (0, _)]) dX10_tenth_13 (by decide) rfl ?_
  refine v_aload_n (I := iX10_tenth) dX10_tenth_14 rfl ?_
  refine v_get (I := iX10_tenth) g_X10_9 dX10_tenth_15 (by decide) (ae_87 _ _) rfl ?_
  refine v_iconst (I := iX10_tenth) (v := 1) dX10_tenth_18 (by decide) ?_
  refine v_ialdN (I := iX10_tenth) (j := 1) (by decide) (by decide) (by decide) dX10_tenth_19 (by decide) (ae_88 _ _) ?_
  refine v_aload_n (I := iX10_tenth) dX10_tenth_20 rfl ?_
  refine v_get (I := iX10_tenth) g_X10_9 dX10_tenth_21 (by decide) (ae_87 _ _) rfl ?_
  refine v_iconst (I := iX10_tenth) (v := 1) dX10_tenth_24 (by decide) ?_
  refine v_ialdN (I := iX10_tenth) (j := 1) (by decide) (by decide) (by decide) dX10_tenth_25 (by decide) (ae_88 _ _) ?_
  refine v_iconst (I := iX10_tenth) (v := 5) dX10_tenth_26 (by decide) ?_
  refine v_idiv (I := iX10_tenth) dX10_tenth_27 (by decide) ?_
  refine v_iadd (I := iX10_tenth) dX10_tenth_28 ?_
  refine v_aload_n (I := iX10_tenth) dX10_tenth_29 rfl ?_
  refine v_iconst (I := iX10_tenth) (v := 2) dX10_tenth_30 (by decide) ?_
  refine v_iload_n (I := iX10_tenth) dX10_tenth_31 rfl ?_
  refine v_imul (I := iX10_tenth) dX10_tenth_32 ?_
  refine v_iconst (I := iX10_tenth) (v := 1) dX10_tenth_33 (by decide) ?_
  refine v_iadd (I := iX10_tenth) dX10_tenth_34 ?_
  refine v_callVi (I := iX10_tenth) (I' := iX10_drawn) lk_X10_236 c_X10_drawn dX10_tenth_35 (m_X10_drawn (by generalize gSways (σ 88) (gNow (σ 88)) = z at *; obtain ⟨a, b⟩ := hsw; grind)) rfl rfl (by decide) (ae_87 _ _) rfl (by decide) (by decide) (Nat.le_of_ble_eq_true rfl) ?_
  generalize hσ1 : va_up σ 88 (gDraw (σ 88)) = σ1
  have h88 : σ1 88 = gDraw (σ 88) := by rw [← hσ1, va_up_s]
  have hfr1 : ∀ k, k ≠ 88 → σ1 k = σ k := fun k hk => by rw [← hσ1, va_up_o _ _ hk]
  have hI1 : IV (σ1 88) := by rw [h88]; exact IV_draw hI
  have h15a : 0 < σ1 88 15 := by rw [h88]; show 0 < gDraw (σ 88) 15; unfold gDraw; rw [va_up_o _ _ (by decide)]; exact h15
  refine v_iadd (I := iX10_tenth) dX10_tenth_38 ?_
  refine v_iload_n (I := iX10_tenth) dX10_tenth_39 rfl ?_
  refine v_isub (I := iX10_tenth) dX10_tenth_40 ?_
  refine v_aload_n (I := iX10_tenth) dX10_tenth_41 rfl ?_
  refine v_callVi (I := iX10_tenth) (I' := iX10_slope) lk_X10_140 c_X10_slope dX10_tenth_42 (m_X10_slope hI1.1) rfl rfl (by decide) (ae_87 _ _) rfl (by decide) (by decide) (Nat.le_of_ble_eq_true rfl) ?_
  refine v_iadd (I := iX10_tenth) dX10_tenth_45 ?_
  have hlean : σ 88 1 + σ 88 1 / 5 + gPick (gDraw (σ 88) 18) (2 * gSways (σ 88) (gNow (σ 88)) + 1) - gSways (σ 88) (gNow (σ 88)) + gSlope (σ1 88) = gLeant (gDraw (σ 88)) (gSways (σ 88) (gNow (σ 88))) := by rw [h88]; rfl
  rw [hlean]
  refine v_istore_n (I := iX10_tenth) (ls1 := [(3, _), (2, _), (1, _), (0, _)]) dX10_tenth_46 (by decide) rfl ?_
  refine v_iload_n (I := iX10_tenth) dX10_tenth_47 rfl ?_
  refine v_bipush (I := iX10_tenth) (v := -99) dX10_tenth_48 (by decide) ?_
  refine v_bipush (I := iX10_tenth) (v := 99) dX10_tenth_50 (by decide) ?_
  refine v_callSi (I := iX10_tenth) (I' := iX10_within) lk_X10_79 c_X10_within dX10_tenth_52 (m_X10_within) rfl rfl (by decide) (by decide) (Nat.le_of_ble_eq_true rfl) ?_
  refine v_if_eqB (I := iX10_tenth) (tgt := 126) dX10_tenth_55 (by decide) (fun c55 => ?_) (fun c55 => ?_)
  · refine v_aload_n (I := iX10_tenth) dX10_tenth_126 rfl ?_
    refine v_callVvP (I := iX10_tenth) (I' := iX10_falls) lk_X10_251 c_X10_falls dX10_tenth_127 (m_X10_falls hI1) rfl rfl (by decide) (ae_87 _ _) rfl (by decide) (by decide) (Nat.le_of_ble_eq_true rfl) (fun s127 h127 => ?_)
    refine v_pick (ls1 := [(0, _)]) [3] rfl ?_
    exact J _ (by rw [h127.1]; exact IV_falls hI1) (by rw [h127.1, gFalls15]; exact h15a) (fun k k1 k2 k3 => by rw [h127.2 k k1 k2 k3, hfr1 k k1]) (by rw [h127.1, h88, gTenth_C c55])
  · refine v_aload_n (I := iX10_tenth) dX10_tenth_58 rfl ?_
    refine v_iload_n (I := iX10_tenth) dX10_tenth_59 rfl ?_
    refine v_callVi (I := iX10_tenth) (I' := iX10_isStep) lk_X10_239 c_X10_isStep dX10_tenth_60 (m_X10_isStep hI1.1 hx hi) rfl rfl (by decide) (ae_87 _ _) rfl (by decide) (by decide) (Nat.le_of_ble_eq_true rfl) ?_
    refine v_istore (I := iX10_tenth) (ls1 := [(4, _), (3, _), (2, _), (1, _), (0, _)]) dX10_tenth_63 (by decide) rfl ?_
    refine v_aload_n (I := iX10_tenth) dX10_tenth_65 rfl ?_
    refine v_get (I := iX10_tenth) g_X10_9 dX10_tenth_66 (by decide) (ae_87 _ _) rfl ?_
    refine v_iconst (I := iX10_tenth) (v := 1) dX10_tenth_69 (by decide) ?_
    refine v_iload (I := iX10_tenth) dX10_tenth_70 rfl ?_
    refine v_if_eqB (I := iX10_tenth) (tgt := 98) dX10_tenth_72 (by decide) (fun c72 => ?_) (fun c72 => ?_)
    · refine v_iload_n (I := iX10_tenth) dX10_tenth_98 rfl ?_
      refine v_iastN (I := iX10_tenth) (j := 1) (by decide) (by decide) (by decide) dX10_tenth_99 (by decide) (fun _ => ae_88 _ _) ?_
      refine v_iload (I := iX10_tenth) dX10_tenth_100 rfl ?_
      refine v_if_eqB (I := iX10_tenth) (tgt := 123) dX10_tenth_102 (by decide) (fun c102 => ?_) (fun c102 => ?_)
      · refine v_goto (I := iX10_tenth) (tgt := 130) dX10_tenth_123 (by decide) ?_
        refine v_pick (I := iX10_tenth) (ls1 := [(0, _)]) [4] rfl ?_
        exact J _ (by rw [up2_f, h88]; exact IV_lean (IV_draw hI) c55) (by rw [up2_f, va_up_o _ _ (by decide)]; exact h15a) (fun k k1 k2 k3 => by rw [up2_kf _ _ _ k1, hfr1 k k1]) (by rw [up2_f, h88, gTenth_B c55 (by rw [← h88]; exact c72)])
      · exact absurd c102 c72
    · refine v_iload_n (I := iX10_tenth) dX10_tenth_75 rfl ?_
      refine v_iconst (I := iX10_tenth) (v := 0) dX10_tenth_76 (by decide) ?_
      refine v_aload_n (I := iX10_tenth) dX10_tenth_77 rfl ?_
      refine v_iload_n (I := iX10_tenth) dX10_tenth_78 rfl ?_
      refine v_callVi (I := iX10_tenth) (I' := iX10_catchOf) lk_X10_152 c_X10_catchOf dX10_tenth_79 (m_X10_catchOf hI1.1 hx hi) rfl rfl (by decide) (ae_87 _ _) rfl (by decide) (by decide) (Nat.le_of_ble_eq_true rfl) ?_
      refine v_iconst (I := iX10_tenth) (v := 2) dX10_tenth_82 (by decide) ?_
      refine v_aload_n (I := iX10_tenth) dX10_tenth_83 rfl ?_
      refine v_callVi (I := iX10_tenth) (I' := iX10_slip) lk_X10_242 c_X10_slip dX10_tenth_84 (m_X10_slip hI1.1) rfl rfl (by decide) (ae_87 _ _) rfl (by decide) (by decide) (Nat.le_of_ble_eq_true rfl) ?_
      refine v_imul (I := iX10_tenth) dX10_tenth_87 ?_
      refine v_isub (I := iX10_tenth) dX10_tenth_88 ?_
      refine v_max (I := iX10_tenth) lm_X10_76 dX10_tenth_89 (by decide) (Nat.le_of_ble_eq_true rfl) ?_
      refine v_callSi (I := iX10_tenth) (I' := iX10_nearer) lk_X10_245 c_X10_nearer dX10_tenth_92 (m_X10_nearer) rfl rfl (by decide) (by decide) (Nat.le_of_ble_eq_true rfl) ?_
      refine v_goto (I := iX10_tenth) (tgt := 99) dX10_tenth_95 (by decide) ?_
      refine v_iastN (I := iX10_tenth) (j := 1) (by decide) (by decide) (by decide) dX10_tenth_99 (by decide) (fun _ => ae_88 _ _) ?_
      show VW _ _ _ _ (up2 σ1 88 1 (gNearer (gLeant (gDraw (σ 88)) (gSways (σ 88) (gNow (σ 88)))) (gBy (σ1 88) (gNow (σ 88))))) _ _ _ _
      generalize hσ2 : up2 σ1 88 1 (gNearer (gLeant (gDraw (σ 88)) (gSways (σ 88) (gNow (σ 88)))) (gBy (σ1 88) (gNow (σ 88)))) = σ2
      have h2 : σ2 88 = va_up (gDraw (σ 88)) 1 (gNearer (gLeant (gDraw (σ 88)) (gSways (σ 88) (gNow (σ 88)))) (gBy (gDraw (σ 88)) (gNow (σ 88)))) := by rw [← hσ2, up2_f, h88]
      have hfr2 : ∀ k, k ≠ 88 → σ2 k = σ k := fun k hk => by rw [← hσ2, up2_kf _ _ _ hk, hfr1 k hk]
      have hI2 : IV (σ2 88) := by rw [h2]; exact IV_lean (IV_draw hI) (gNearer_in c55 (gBy_in _ _))
      have h152 : 0 < σ2 88 15 := by rw [h2, va_up_o _ _ (by decide), ← h88]; exact h15a
      refine v_iload (I := iX10_tenth) dX10_tenth_100 rfl ?_
      refine v_if_eqB (I := iX10_tenth) (tgt := 123) dX10_tenth_102 (by decide) (fun c102 => ?_) (fun c102 => ?_)
      · exact absurd c72 c102
      · refine v_aload_n (I := iX10_tenth) dX10_tenth_105 rfl ?_
        refine v_bipush (I := iX10_tenth) (v := 8) dX10_tenth_106 (by decide) ?_
        refine v_iconst (I := iX10_tenth) (v := 1) dX10_tenth_108 (by decide) ?_
        refine v_callVv (I := iX10_tenth) (I' := iX10_more) lk_X10_229 c_X10_more dX10_tenth_109 (m_X10_more (j := 8) (by decide) (by decide)) rfl rfl (by decide) (ae_87 _ _) rfl (by decide) (by decide) (Nat.le_of_ble_eq_true rfl) ?_
        generalize hσ3 : va_up σ2 88 (gMore (σ2 88) 8 1) = σ3
        have h3 : σ3 88 = gMore (σ2 88) 8 1 := by rw [← hσ3, va_up_s]
        have hfr3 : ∀ k, k ≠ 88 → σ3 k = σ k := fun k hk => by rw [← hσ3, va_up_o _ _ hk, hfr2 k hk]
        have hI3 : IV (σ3 88) := by rw [h3]; exact IV_more hI2 (Or.inr (Or.inl rfl)) (by decide) (by decide)
        refine v_aload_n (I := iX10_tenth) dX10_tenth_112 rfl ?_
        refine v_bipush (I := iX10_tenth) (v := 10) dX10_tenth_113 (by decide) ?_
        refine v_aload_n (I := iX10_tenth) dX10_tenth_115 rfl ?_
        refine v_iload_n (I := iX10_tenth) dX10_tenth_116 rfl ?_
        refine v_callVi (I := iX10_tenth) (I' := iX10_goesOn) lk_X10_248 c_X10_goesOn dX10_tenth_117 (m_X10_goesOn hI3.1 hx hi) rfl rfl (by decide) (ae_87 _ _) rfl (by decide) (by decide) (Nat.le_of_ble_eq_true rfl) ?_
        refine v_callVv (I := iX10_tenth) (I' := iX10_more) lk_X10_229 c_X10_more dX10_tenth_120 (m_X10_more (j := 10) (by decide) (by decide)) rfl rfl (by decide) (ae_87 _ _) rfl (by decide) (by decide) (Nat.le_of_ble_eq_true rfl) ?_
        refine v_goto (I := iX10_tenth) (tgt := 130) dX10_tenth_123 (by decide) ?_
        refine v_pick (I := iX10_tenth) (ls1 := [(0, _)]) [4] rfl ?_
        have e4 : va_up (va_up σ3 88 (va_up (σ3 88) 0 (gCellOn (σ3 88) (gNow (σ 88))))) 88 (gMore (va_up σ3 88 (va_up (σ3 88) 0 (gCellOn (σ3 88) (gNow (σ 88)))) 88) 10 (gCellOn (σ3 88) (gNow (σ 88)) - σ3 88 0)) = va_up σ3 88 (gStepOn (σ2 88) (gNow (σ 88))) := by
          rw [va_up_s, va_up_va, h3]; rfl
        rw [e4]
        exact J _ (by rw [va_up_s]; exact IV_stepOn hI2) (by rw [va_up_s, gStepOn15]; exact h152) (fun k k1 k2 k3 => by rw [va_up_o _ _ k1, hfr3 k k1]) (by rw [va_up_s, h2, gTenth_A c55 (by rw [← h88]; exact c72)])
