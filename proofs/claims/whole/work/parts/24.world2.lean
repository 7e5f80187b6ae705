theorem near_up {g : gS} {i : Nat} {x : Int32} (hi : i < 39) (h0 : i ≠ 0) : ∀ n, gNearN (va_up g i x) n = gNearN g n := by
  have hd : ∀ h, gDist (va_up g i x) h = gDist g h := fun h => by
    unfold gDist
    rw [va_up_o _ _ (by omega), va_up_o _ _ (Ne.symm h0)]
  intro n
  induction n with
  | zero => rfl
  | succ n ih =>
    unfold gNearN
    rw [ih]
    cases gNearN g n with
    | none => rfl
    | some b => dsimp only; rw [hd, hd]
theorem dist_up {g : gS} {i : Nat} {x : Int32} (hi : i < 39) (h0 : i ≠ 0) (h : Nat) : gDist (va_up g i x) h = gDist g h := by
  unfold gDist
  rw [va_up_o _ _ (by omega), va_up_o _ _ (Ne.symm h0)]
theorem gNear_up {g : gS} {i : Nat} {x : Int32} (hi : i < 39) (h0 : i ≠ 0) (h14 : i ≠ 14) : gNear (va_up g i x) = gNear g := by
  unfold gNear
  rw [near_up hi h0, va_up_o _ _ (Ne.symm h14)]
theorem gHas_up {g : gS} {i : Nat} {x : Int32} (hi : i < 39) (h0 : i ≠ 0) (h14 : i ≠ 14) (h2 : i ≠ 2) : gHasI (va_up g i x) = gHasI g := by
  unfold gHasI
  rw [gNear_up hi h0 h14]
  cases gNear g with
  | none => rfl
  | some b => dsimp only; rw [dist_up hi h0, va_up_o _ _ (Ne.symm h2)]
theorem gHard_up {g : gS} {i : Nat} {x : Int32} (hi : i < 39) (h0 : i ≠ 0) (h14 : i ≠ 14) (h2 : i ≠ 2) : gHard (va_up g i x) = gHard g := by
  unfold gHard
  rw [gNear_up hi h0 h14]
  cases gNear g with
  | none => rfl
  | some b => dsimp only; rw [dist_up hi h0, va_up_o _ _ (Ne.symm h2), va_up_o _ _ (by omega), va_up_o _ _ (by omega)]
theorem gPace_up {g : gS} {i j : Nat} {x : Int32} (hi : i < 39) (h0 : i ≠ 0) (h14 : i ≠ 14) (h2 : i ≠ 2) : gPace (va_up g i x) j = gPace g j := by
  unfold gPace gK
  rw [gHas_up hi h0 h14 h2, va_up_o _ _ (by omega)]
theorem gStride_up {g : gS} {i j : Nat} {x : Int32} (hi : i < 39) (h0 : i ≠ 0) (h14 : i ≠ 14) (h2 : i ≠ 2) : gStride (va_up g i x) j = gStride g j := by
  unfold gStride gK
  rw [gHas_up hi h0 h14 h2, va_up_o _ _ (by omega)]
theorem gSlope_up {g : gS} {i : Nat} {x : Int32} (hi : i < 19) (h0 : i ≠ 0) : gSlope (va_up g i x) = gSlope g := by
  unfold gSlope gc10
  rw [va_up_o g _ (Ne.symm h0), va_up_o _ _ (by omega)]
theorem gSlip_up {g : gS} {i : Nat} {x : Int32} (hi : i < 19) (h0 : i ≠ 0) : gSlip (va_up g i x) = gSlip g := by
  unfold gSlip gc10
  rw [va_up_o g _ (Ne.symm h0), va_up_o _ _ (by omega)]
theorem gCatch_up {g : gS} {i j : Nat} {x : Int32} (hi : i < 19) (h0 : i ≠ 0) (h14 : i ≠ 14) (h2 : i ≠ 2) (h4 : i ≠ 4) (h5 : i ≠ 5) (h6 : i ≠ 6) : gCatch (va_up g i x) j = gCatch g j := by
  unfold gCatch gK gPlain
  rw [gHas_up (by omega) h0 h14 h2, gSlope_up hi h0, va_up_o _ _ (by omega), va_up_o _ _ (Ne.symm h4), va_up_o _ _ (Ne.symm h5), va_up_o _ _ (Ne.symm h6)]
def gaitS (w : Nat) (σ : fSt) (g : gS) (i : Nat) : fSt := up2 (up2 (up2 (up2 σ (wc w 20) 0 (gSways g i)) (wc w 20) 1 (gStride g i)) (wc w 20) 2 (gPace g i)) (wc w 20) 3 (gCatch g i)
theorem gaitS_eq {w i : Nat} {σ : fSt} {g : gS} {a b c e : Int32} (h1 : a = gSways g i) (h2 : b = gStride g i) (h3 : c = gPace g i) (h4 : e = gCatch g i) : up2 (up2 (up2 (up2 σ (wc w 20) 0 a) (wc w 20) 1 b) (wc w 20) 2 c) (wc w 20) 3 e = gaitS w σ g i := by
  subst h1; subst h2; subst h3; subst h4; rfl
theorem gaitS_V {w i : Nat} {σ : fSt} {g g2 : gS} (h : V w σ g) : V w (gaitS w σ g2 i) g := V_off h fun c _ _ _ h20 _ => by
  unfold gaitS
  rw [up2_kf _ _ _ (wc_ne h20), up2_kf _ _ _ (wc_ne h20), up2_kf _ _ _ (wc_ne h20), up2_kf _ _ _ (wc_ne h20)]
theorem gaitS_F {w i : Nat} {σ : fSt} {g : gS} : FrW w σ (gaitS w σ g i) := (((FrW.up (by decide)).tr (FrW.up (by decide))).tr (FrW.up (by decide))).tr (FrW.up (by decide))
theorem gaitS_0 {w i : Nat} {σ : fSt} {g : gS} : gaitS w σ g i (wc w 20) 0 = gSways g i ∧ gaitS w σ g i (wc w 20) 1 = gStride g i ∧ gaitS w σ g i (wc w 20) 2 = gPace g i ∧ gaitS w σ g i (wc w 20) 3 = gCatch g i := by
  unfold gaitS
  refine ⟨?_, ?_, ?_, ?_⟩ <;> simp [up2, va_up]
theorem kind_in {g : gS} (hB : B g) {i : Nat} (hi : i < 8) : 0 ≤ gK g i ∧ gK g i ≤ 6 := by
  have h2 := hB (63 + 3 * i + 0) (by omega)
  have e : bnd (63 + 3 * i + 0) = (0, 6) := by
    rcases (show i = 0 ∨ i = 1 ∨ i = 2 ∨ i = 3 ∨ i = 4 ∨ i = 5 ∨ i = 6 ∨ i = 7 by omega) with rfl | rfl | rfl | rfl | rfl | rfl | rfl | rfl <;> rfl
  rw [e] at h2
  exact h2
theorem hld_id {x : Int32} (h : 0 ≤ x ∧ x ≤ 9) : hld x 0 9 = x := by unfold hld; grind
theorem sway_in {g : gS} (hB : B g) : (0 ≤ g 3 ∧ g 3 ≤ 9) ∧ 0 ≤ g 3 / 3 ∧ g 3 / 3 ≤ 9 := by
  obtain ⟨s, hs, e⟩ := B_nat hB 3 9 (by decide) (by decide) (by decide)
  have h3 : nI s / 3 = nI (s / 3) := pk_div (d := 3) (by omega) (by decide) (by decide)
  rw [e, h3]
  exact ⟨⟨nI_pos' (by omega), nI_le (b := 9) hs (by decide)⟩, nI_pos' (by omega), nI_le (b := 9) (by omega) (by decide)⟩
set_option maxRecDepth 100000 in
set_option maxHeartbeats 4000000 in
theorem m_X8_gaitOf {G : fGm} {σ : fSt} {τ : fLt} {w i : Nat} {g : gS} {x : Int32} (hw : w < 3) (hV : V w σ g) (hB : B g) (hx : x = nI i) (hi : i < 8) : MS G iX8_gaitOf 4 [.ref (wc w 0), .int x] σ τ (rT (some (.ref (wc w 20))) (gaitS w σ g i) τ) := by
  refine ms_of (by decide +kernel) (Nat.le_of_ble_eq_true rfl) ?_
  show VW _ _ _ _ _ _ 0 [(0, _), (1, _)] []
  have hk := kind_in hB hi
  have hs := hld_id (sway_in hB).1
  have hs3 := hld_id (sway_in hB).2
  have hh := gHas_o g
  have h00 : hld 0 0 9 = 0 := by decide
  refine v_aload_n (I := iX8_gaitOf) dX8_gaitOf_0 rfl ?_
  refine v_get (I := iX8_gaitOf) g_X8_33 dX8_gaitOf_1 (wc_lt hw (by decide)) (ae_w0 hw _ _) rfl ?_
  refine v_get (I := iX8_gaitOf) g_X8_109 dX8_gaitOf_4 (wc_lt hw (by decide)) (ae_w8 hw _ _) rfl ?_
  refine v_iload_n (I := iX8_gaitOf) dX8_gaitOf_7 rfl ?_
  refine v_callSi (I := iX8_gaitOf) (I' := iX9_at) lk_X8_99 c_X9_at dX8_gaitOf_8 (m_X9_at (wc_lt hw (by decide)) (ae_w9 hw) (by decide)) rfl rfl (by decide) (by decide) (Nat.le_of_ble_eq_true rfl) ?_
  rw [show rdA 8 (σ (wc w 9)) x = gK g i by rw [hx, rdA_in hi (by decide), V_gk hV hi]; rfl]
  refine v_istore_n (I := iX8_gaitOf) (ls1 := [(2, _), (0, _), (1, _)]) dX8_gaitOf_11 (by decide) rfl ?_
  refine v_aload_n (I := iX8_gaitOf) dX8_gaitOf_12 rfl ?_
  refine v_get (I := iX8_gaitOf) g_X8_33 dX8_gaitOf_13 (wc_lt hw (by decide)) (ae_w0 hw _ _) rfl ?_
  refine v_get (I := iX8_gaitOf) g_X8_112 dX8_gaitOf_16 (wc_lt hw (by decide)) (ae_w8 hw _ _) rfl ?_
  refine v_iload_n (I := iX8_gaitOf) dX8_gaitOf_19 rfl ?_
  refine v_callSi (I := iX8_gaitOf) (I' := iX9_at) lk_X8_99 c_X9_at dX8_gaitOf_20 (m_X9_at (wc_lt hw (by decide)) (ae_w10 hw) (by decide)) rfl rfl (by decide) (by decide) (Nat.le_of_ble_eq_true rfl) ?_
  rw [show rdA 8 (σ (wc w 10)) x = gM g i by rw [hx, rdA_in hi (by decide), V_gm hV hi]; rfl]
  refine v_istore_n (I := iX8_gaitOf) (ls1 := [(3, _), (2, _), (0, _), (1, _)]) dX8_gaitOf_23 (by decide) rfl ?_
  refine v_aload_n (I := iX8_gaitOf) dX8_gaitOf_24 rfl ?_
  refine v_get (I := iX8_gaitOf) g_X8_18 dX8_gaitOf_25 (wc_lt hw (by decide)) (ae_w0 hw _ _) rfl ?_
  refine v_iconst (I := iX8_gaitOf) (v := 3) dX8_gaitOf_28 (by decide) ?_
  refine v_ialdN (I := iX8_gaitOf) (j := 3) (by decide) (by decide) (by decide) dX8_gaitOf_29 (wc_lt hw (by decide)) (ae_w1 hw _ _) ?_
  rw [V_child hV (by decide)]
  refine v_istore (I := iX8_gaitOf) (ls1 := [(4, _), (3, _), (2, _), (0, _), (1, _)]) dX8_gaitOf_30 (by decide) rfl ?_
  refine v_aload_n (I := iX8_gaitOf) dX8_gaitOf_32 rfl ?_
  refine v_get (I := iX8_gaitOf) g_X8_18 dX8_gaitOf_33 (wc_lt hw (by decide)) (ae_w0 hw _ _) rfl ?_
  refine v_iconst (I := iX8_gaitOf) (v := 4) dX8_gaitOf_36 (by decide) ?_
  refine v_ialdN (I := iX8_gaitOf) (j := 4) (by decide) (by decide) (by decide) dX8_gaitOf_37 (wc_lt hw (by decide)) (ae_w1 hw _ _) ?_
  rw [V_child hV (by decide)]
  refine v_aload_n (I := iX8_gaitOf) dX8_gaitOf_38 rfl ?_
  refine v_get (I := iX8_gaitOf) g_X8_18 dX8_gaitOf_39 (wc_lt hw (by decide)) (ae_w0 hw _ _) rfl ?_
  refine v_iconst (I := iX8_gaitOf) (v := 5) dX8_gaitOf_42 (by decide) ?_
  refine v_ialdN (I := iX8_gaitOf) (j := 5) (by decide) (by decide) (by decide) dX8_gaitOf_43 (wc_lt hw (by decide)) (ae_w1 hw _ _) ?_
  rw [V_child hV (by decide)]
  refine v_iconst (I := iX8_gaitOf) (v := 4) dX8_gaitOf_44 (by decide) ?_
  refine v_idiv (I := iX8_gaitOf) dX8_gaitOf_45 (by decide) ?_
  refine v_iadd (I := iX8_gaitOf) dX8_gaitOf_46 ?_
  refine v_aload_n (I := iX8_gaitOf) dX8_gaitOf_47 rfl ?_
  refine v_get (I := iX8_gaitOf) g_X8_18 dX8_gaitOf_48 (wc_lt hw (by decide)) (ae_w0 hw _ _) rfl ?_
  refine v_bipush (I := iX8_gaitOf) (v := 6) dX8_gaitOf_51 (by decide) ?_
  refine v_ialdN (I := iX8_gaitOf) (j := 6) (by decide) (by decide) (by decide) dX8_gaitOf_53 (wc_lt hw (by decide)) (ae_w1 hw _ _) ?_
  rw [V_child hV (by decide)]
  refine v_bipush (I := iX8_gaitOf) (v := 100) dX8_gaitOf_54 (by decide) ?_
  refine v_idiv (I := iX8_gaitOf) dX8_gaitOf_56 (by decide) ?_
  refine v_iadd (I := iX8_gaitOf) dX8_gaitOf_57 ?_
  refine v_istore (I := iX8_gaitOf) (ls1 := [(5, _), (4, _), (3, _), (2, _), (0, _), (1, _)]) dX8_gaitOf_58 (by decide) rfl ?_
  refine v_aload_n (I := iX8_gaitOf) dX8_gaitOf_60 rfl ?_
  refine v_aload_n (I := iX8_gaitOf) dX8_gaitOf_61 rfl ?_
  refine v_get (I := iX8_gaitOf) g_X8_26 dX8_gaitOf_62 (wc_lt hw (by decide)) (ae_w0 hw _ _) rfl ?_
  refine v_aload_n (I := iX8_gaitOf) dX8_gaitOf_65 rfl ?_
  refine v_get (I := iX8_gaitOf) g_X8_18 dX8_gaitOf_66 (wc_lt hw (by decide)) (ae_w0 hw _ _) rfl ?_
  refine v_iconst (I := iX8_gaitOf) (v := 0) dX8_gaitOf_69 (by decide) ?_
  refine v_ialdN (I := iX8_gaitOf) (j := 0) (by decide) (by decide) (by decide) dX8_gaitOf_70 (wc_lt hw (by decide)) (ae_w1 hw _ _) ?_
  refine v_callVi (I := iX8_gaitOf) (I' := iX3_nearestTo) lk_X8_115 c_X3_nearestTo dX8_gaitOf_71 (m_X3_nearestTo hw hV hB (V_child hV (by decide))) rfl rfl (wc_lt hw (by decide)) (ae_w2 hw _ _) rfl (by decide) (by decide) (Nat.le_of_ble_eq_true rfl) ?_
  refine v_callVi (I := iX8_gaitOf) (I' := iX8_isAtHand) lk_X8_119 c_X8_isAtHand dX8_gaitOf_74 (m_X8_isAtHand hw hV rfl (fun b hb => gNear_lt hB hb)) rfl rfl (wc_lt hw (by decide)) (ae_w0 hw _ _) rfl (by decide) (by decide) (Nat.le_of_ble_eq_true rfl) ?_
  refine v_istore (I := iX8_gaitOf) (ls1 := [(6, _), (5, _), (4, _), (3, _), (2, _), (0, _), (1, _)]) dX8_gaitOf_77 (by decide) rfl ?_
  refine v_iload_n (I := iX8_gaitOf) dX8_gaitOf_79 rfl ?_
  refine v_bipush (I := iX8_gaitOf) (v := 6) dX8_gaitOf_80 (by decide) ?_
  refine v_icmp_ne (I := iX8_gaitOf) (tgt := 100) dX8_gaitOf_82 (by decide) (fun c82 => ?_) (fun c82 => ?_)
  · refine v_iload_n (I := iX8_gaitOf) dX8_gaitOf_100 rfl ?_
    refine v_if_eq (I := iX8_gaitOf) (tgt := 114) dX8_gaitOf_101 (by decide) (fun c101 => ?_) (fun c101 => ?_)
    · refine v_aload_n (I := iX8_gaitOf) dX8_gaitOf_114 rfl ?_
      refine v_get (I := iX8_gaitOf) g_X8_63 dX8_gaitOf_115 (wc_lt hw (by decide)) (ae_w0 hw _ _) rfl ?_
      refine v_iload (I := iX8_gaitOf) dX8_gaitOf_118 rfl ?_
      refine v_iconst (I := iX8_gaitOf) (v := 0) dX8_gaitOf_120 (by decide) ?_
      refine v_iconst (I := iX8_gaitOf) (v := 0) dX8_gaitOf_121 (by decide) ?_
      refine v_iload (I := iX8_gaitOf) dX8_gaitOf_122 rfl ?_
      refine v_callVv (I := iX8_gaitOf) (I' := iX0_become) lk_X8_123 c_X0_become dX8_gaitOf_124 (m_X0_become hw) rfl rfl (wc_lt hw (by decide)) (ae_w20 hw _ _) rfl (by decide) (by decide) (Nat.le_of_ble_eq_true rfl) ?_
      refine v_goto (I := iX8_gaitOf) (tgt := 257) dX8_gaitOf_127 (by decide) ?_
      refine v_aload_n (I := iX8_gaitOf) dX8_gaitOf_257 rfl ?_
      refine v_get (I := iX8_gaitOf) g_X8_63 dX8_gaitOf_258 (wc_lt hw (by decide)) (ae_w0 hw _ _) rfl ?_
      exact v_aret (I := iX8_gaitOf) rfl (Or.inl ⟨_, rfl⟩) dX8_gaitOf_261 ⟨rfl, gaitS_eq (by unfold gSways; grind) (by unfold gStride; grind) (by unfold gPace; grind) (by unfold gCatch gPlain aI32; grind), rfl⟩
    · refine v_iload_n (I := iX8_gaitOf) dX8_gaitOf_104 rfl ?_
      refine v_iconst (I := iX8_gaitOf) (v := 1) dX8_gaitOf_105 (by decide) ?_
      refine v_icmp_ne (I := iX8_gaitOf) (tgt := 130) dX8_gaitOf_106 (by decide) (fun c106 => ?_) (fun c106 => ?_)
      · refine v_iload_n (I := iX8_gaitOf) dX8_gaitOf_130 rfl ?_
        refine v_iconst (I := iX8_gaitOf) (v := 2) dX8_gaitOf_131 (by decide) ?_
        refine v_icmp_ne (I := iX8_gaitOf) (tgt := 156) dX8_gaitOf_132 (by decide) (fun c132 => ?_) (fun c132 => ?_)
        · refine v_iload_n (I := iX8_gaitOf) dX8_gaitOf_156 rfl ?_
          refine v_iconst (I := iX8_gaitOf) (v := 1) dX8_gaitOf_157 (by decide) ?_
          refine v_icmp_eq (I := iX8_gaitOf) (tgt := 166) dX8_gaitOf_158 (by decide) (fun c158 => ?_) (fun c158 => ?_)
          · refine v_aload_n (I := iX8_gaitOf) dX8_gaitOf_166 rfl ?_
            refine v_get (I := iX8_gaitOf) g_X8_63 dX8_gaitOf_167 (wc_lt hw (by decide)) (ae_w0 hw _ _) rfl ?_
            refine v_iload (I := iX8_gaitOf) dX8_gaitOf_170 rfl ?_
            refine v_iconst (I := iX8_gaitOf) (v := 3) dX8_gaitOf_172 (by decide) ?_
            refine v_idiv (I := iX8_gaitOf) dX8_gaitOf_173 (by decide) ?_
            refine v_iconst (I := iX8_gaitOf) (v := 1) dX8_gaitOf_174 (by decide) ?_
            refine v_iconst (I := iX8_gaitOf) (v := 4) dX8_gaitOf_175 (by decide) ?_
            refine v_iload (I := iX8_gaitOf) dX8_gaitOf_176 rfl ?_
            refine v_bipush (I := iX8_gaitOf) (v := 20) dX8_gaitOf_178 (by decide) ?_
            refine v_iadd (I := iX8_gaitOf) dX8_gaitOf_180 ?_
            refine v_callVv (I := iX8_gaitOf) (I' := iX0_become) lk_X8_123 c_X0_become dX8_gaitOf_181 (m_X0_become hw) rfl rfl (wc_lt hw (by decide)) (ae_w20 hw _ _) rfl (by decide) (by decide) (Nat.le_of_ble_eq_true rfl) ?_
            refine v_goto (I := iX8_gaitOf) (tgt := 257) dX8_gaitOf_184 (by decide) ?_
            refine v_aload_n (I := iX8_gaitOf) dX8_gaitOf_257 rfl ?_
            refine v_get (I := iX8_gaitOf) g_X8_63 dX8_gaitOf_258 (wc_lt hw (by decide)) (ae_w0 hw _ _) rfl ?_
            exact v_aret (I := iX8_gaitOf) rfl (Or.inl ⟨_, rfl⟩) dX8_gaitOf_261 ⟨rfl, gaitS_eq (by unfold gSways; grind) (by unfold gStride; grind) (by unfold gPace; grind) (by unfold gCatch gPlain aI32; grind), rfl⟩
          · refine v_iload_n (I := iX8_gaitOf) dX8_gaitOf_161 rfl ?_
            refine v_iconst (I := iX8_gaitOf) (v := 2) dX8_gaitOf_162 (by decide) ?_
            refine v_icmp_ne (I := iX8_gaitOf) (tgt := 187) dX8_gaitOf_163 (by decide) (fun c163 => ?_) (fun c163 => ?_)
            · refine v_iload_n (I := iX8_gaitOf) dX8_gaitOf_187 rfl ?_
              refine v_iconst (I := iX8_gaitOf) (v := 4) dX8_gaitOf_188 (by decide) ?_
              refine v_icmp_ne (I := iX8_gaitOf) (tgt := 213) dX8_gaitOf_189 (by decide) (fun c189 => ?_) (fun c189 => ?_)
              · refine v_iload_n (I := iX8_gaitOf) dX8_gaitOf_213 rfl ?_
                refine v_iconst (I := iX8_gaitOf) (v := 5) dX8_gaitOf_214 (by decide) ?_
                refine v_icmp_ne (I := iX8_gaitOf) (tgt := 244) dX8_gaitOf_215 (by decide) (fun c215 => ?_) (fun c215 => ?_)
                · refine v_aload_n (I := iX8_gaitOf) dX8_gaitOf_244 rfl ?_
                  refine v_get (I := iX8_gaitOf) g_X8_63 dX8_gaitOf_245 (wc_lt hw (by decide)) (ae_w0 hw _ _) rfl ?_
                  refine v_iload (I := iX8_gaitOf) dX8_gaitOf_248 rfl ?_
                  refine v_iconst (I := iX8_gaitOf) (v := 2) dX8_gaitOf_250 (by decide) ?_
                  refine v_iconst (I := iX8_gaitOf) (v := 3) dX8_gaitOf_251 (by decide) ?_
                  refine v_iload (I := iX8_gaitOf) dX8_gaitOf_252 rfl ?_
                  refine v_callVv (I := iX8_gaitOf) (I' := iX0_become) lk_X8_123 c_X0_become dX8_gaitOf_254 (m_X0_become hw) rfl rfl (wc_lt hw (by decide)) (ae_w20 hw _ _) rfl (by decide) (by decide) (Nat.le_of_ble_eq_true rfl) ?_
                  refine v_aload_n (I := iX8_gaitOf) dX8_gaitOf_257 rfl ?_
                  refine v_get (I := iX8_gaitOf) g_X8_63 dX8_gaitOf_258 (wc_lt hw (by decide)) (ae_w0 hw _ _) rfl ?_
                  exact v_aret (I := iX8_gaitOf) rfl (Or.inl ⟨_, rfl⟩) dX8_gaitOf_261 ⟨rfl, gaitS_eq (by unfold gSways; grind) (by unfold gStride; grind) (by unfold gPace; grind) (by unfold gCatch gPlain aI32; grind), rfl⟩
                · refine v_aload_n (I := iX8_gaitOf) dX8_gaitOf_218 rfl ?_
                  refine v_get (I := iX8_gaitOf) g_X8_63 dX8_gaitOf_219 (wc_lt hw (by decide)) (ae_w0 hw _ _) rfl ?_
                  refine v_iload (I := iX8_gaitOf) dX8_gaitOf_222 rfl ?_
                  refine v_iconst (I := iX8_gaitOf) (v := 2) dX8_gaitOf_224 (by decide) ?_
                  refine v_iconst (I := iX8_gaitOf) (v := 3) dX8_gaitOf_225 (by decide) ?_
                  refine v_iload (I := iX8_gaitOf) dX8_gaitOf_226 rfl ?_
                  refine v_iconst (I := iX8_gaitOf) (v := 2) dX8_gaitOf_228 (by decide) ?_
                  refine v_aload_n (I := iX8_gaitOf) dX8_gaitOf_229 rfl ?_
                  refine v_callVi (I := iX8_gaitOf) (I' := iX8_slope) lk_X8_126 c_X8_slope dX8_gaitOf_230 (m_X8_slope hw hV hB) rfl rfl (wc_lt hw (by decide)) (ae_w0 hw _ _) rfl (by decide) (by decide) (Nat.le_of_ble_eq_true rfl) ?_
                  refine v_abs (I := iX8_gaitOf) lm_X8_129 dX8_gaitOf_233 (by decide) (Nat.le_of_ble_eq_true rfl) ?_
                  refine v_imul (I := iX8_gaitOf) dX8_gaitOf_236 ?_
                  refine v_isub (I := iX8_gaitOf) dX8_gaitOf_237 ?_
                  refine v_callVv (I := iX8_gaitOf) (I' := iX0_become) lk_X8_123 c_X0_become dX8_gaitOf_238 (m_X0_become hw) rfl rfl (wc_lt hw (by decide)) (ae_w20 hw _ _) rfl (by decide) (by decide) (Nat.le_of_ble_eq_true rfl) ?_
                  refine v_goto (I := iX8_gaitOf) (tgt := 257) dX8_gaitOf_241 (by decide) ?_
                  refine v_aload_n (I := iX8_gaitOf) dX8_gaitOf_257 rfl ?_
                  refine v_get (I := iX8_gaitOf) g_X8_63 dX8_gaitOf_258 (wc_lt hw (by decide)) (ae_w0 hw _ _) rfl ?_
                  exact v_aret (I := iX8_gaitOf) rfl (Or.inl ⟨_, rfl⟩) dX8_gaitOf_261 ⟨rfl, gaitS_eq (by unfold gSways; grind) (by unfold gStride; grind) (by unfold gPace; grind) (by unfold gCatch gPlain aI32; grind), rfl⟩
              · refine v_aload_n (I := iX8_gaitOf) dX8_gaitOf_192 rfl ?_
                refine v_get (I := iX8_gaitOf) g_X8_63 dX8_gaitOf_193 (wc_lt hw (by decide)) (ae_w0 hw _ _) rfl ?_
                refine v_iload (I := iX8_gaitOf) dX8_gaitOf_196 rfl ?_
                refine v_iload_n (I := iX8_gaitOf) dX8_gaitOf_198 rfl ?_
                refine v_bipush (I := iX8_gaitOf) (v := 25) dX8_gaitOf_199 (by decide) ?_
                refine v_idiv (I := iX8_gaitOf) dX8_gaitOf_201 (by decide) ?_
                refine v_iadd (I := iX8_gaitOf) dX8_gaitOf_202 ?_
                refine v_iconst (I := iX8_gaitOf) (v := 2) dX8_gaitOf_203 (by decide) ?_
                refine v_iconst (I := iX8_gaitOf) (v := 3) dX8_gaitOf_204 (by decide) ?_
                refine v_iload (I := iX8_gaitOf) dX8_gaitOf_205 rfl ?_
                refine v_callVv (I := iX8_gaitOf) (I' := iX0_become) lk_X8_123 c_X0_become dX8_gaitOf_207 (m_X0_become hw) rfl rfl (wc_lt hw (by decide)) (ae_w20 hw _ _) rfl (by decide) (by decide) (Nat.le_of_ble_eq_true rfl) ?_
                refine v_goto (I := iX8_gaitOf) (tgt := 257) dX8_gaitOf_210 (by decide) ?_
                refine v_aload_n (I := iX8_gaitOf) dX8_gaitOf_257 rfl ?_
                refine v_get (I := iX8_gaitOf) g_X8_63 dX8_gaitOf_258 (wc_lt hw (by decide)) (ae_w0 hw _ _) rfl ?_
                exact v_aret (I := iX8_gaitOf) rfl (Or.inl ⟨_, rfl⟩) dX8_gaitOf_261 ⟨rfl, gaitS_eq (by unfold gSways; grind) (by unfold gStride; grind) (by unfold gPace; grind) (by unfold gCatch gPlain aI32; grind), rfl⟩
            · refine v_aload_n (I := iX8_gaitOf) dX8_gaitOf_166 rfl ?_
              refine v_get (I := iX8_gaitOf) g_X8_63 dX8_gaitOf_167 (wc_lt hw (by decide)) (ae_w0 hw _ _) rfl ?_
              refine v_iload (I := iX8_gaitOf) dX8_gaitOf_170 rfl ?_
              refine v_iconst (I := iX8_gaitOf) (v := 3) dX8_gaitOf_172 (by decide) ?_
              refine v_idiv (I := iX8_gaitOf) dX8_gaitOf_173 (by decide) ?_
              refine v_iconst (I := iX8_gaitOf) (v := 1) dX8_gaitOf_174 (by decide) ?_
              refine v_iconst (I := iX8_gaitOf) (v := 4) dX8_gaitOf_175 (by decide) ?_
              refine v_iload (I := iX8_gaitOf) dX8_gaitOf_176 rfl ?_
              refine v_bipush (I := iX8_gaitOf) (v := 20) dX8_gaitOf_178 (by decide) ?_
              refine v_iadd (I := iX8_gaitOf) dX8_gaitOf_180 ?_
              refine v_callVv (I := iX8_gaitOf) (I' := iX0_become) lk_X8_123 c_X0_become dX8_gaitOf_181 (m_X0_become hw) rfl rfl (wc_lt hw (by decide)) (ae_w20 hw _ _) rfl (by decide) (by decide) (Nat.le_of_ble_eq_true rfl) ?_
              refine v_goto (I := iX8_gaitOf) (tgt := 257) dX8_gaitOf_184 (by decide) ?_
              refine v_aload_n (I := iX8_gaitOf) dX8_gaitOf_257 rfl ?_
              refine v_get (I := iX8_gaitOf) g_X8_63 dX8_gaitOf_258 (wc_lt hw (by decide)) (ae_w0 hw _ _) rfl ?_
              exact v_aret (I := iX8_gaitOf) rfl (Or.inl ⟨_, rfl⟩) dX8_gaitOf_261 ⟨rfl, gaitS_eq (by unfold gSways; grind) (by unfold gStride; grind) (by unfold gPace; grind) (by unfold gCatch gPlain aI32; grind), rfl⟩
        · refine v_iload (I := iX8_gaitOf) dX8_gaitOf_135 rfl ?_
          refine v_if_neB (I := iX8_gaitOf) (tgt := 156) dX8_gaitOf_137 (by decide) (fun c137 => ?_) (fun c137 => ?_)
          · refine v_iload_n (I := iX8_gaitOf) dX8_gaitOf_156 rfl ?_
            refine v_iconst (I := iX8_gaitOf) (v := 1) dX8_gaitOf_157 (by decide) ?_
            refine v_icmp_eq (I := iX8_gaitOf) (tgt := 166) dX8_gaitOf_158 (by decide) (fun c158 => ?_) (fun c158 => ?_)
            · refine v_aload_n (I := iX8_gaitOf) dX8_gaitOf_166 rfl ?_
              refine v_get (I := iX8_gaitOf) g_X8_63 dX8_gaitOf_167 (wc_lt hw (by decide)) (ae_w0 hw _ _) rfl ?_
              refine v_iload (I := iX8_gaitOf) dX8_gaitOf_170 rfl ?_
              refine v_iconst (I := iX8_gaitOf) (v := 3) dX8_gaitOf_172 (by decide) ?_
              refine v_idiv (I := iX8_gaitOf) dX8_gaitOf_173 (by decide) ?_
              refine v_iconst (I := iX8_gaitOf) (v := 1) dX8_gaitOf_174 (by decide) ?_
              refine v_iconst (I := iX8_gaitOf) (v := 4) dX8_gaitOf_175 (by decide) ?_
              refine v_iload (I := iX8_gaitOf) dX8_gaitOf_176 rfl ?_
              refine v_bipush (I := iX8_gaitOf) (v := 20) dX8_gaitOf_178 (by decide) ?_
              refine v_iadd (I := iX8_gaitOf) dX8_gaitOf_180 ?_
              refine v_callVv (I := iX8_gaitOf) (I' := iX0_become) lk_X8_123 c_X0_become dX8_gaitOf_181 (m_X0_become hw) rfl rfl (wc_lt hw (by decide)) (ae_w20 hw _ _) rfl (by decide) (by decide) (Nat.le_of_ble_eq_true rfl) ?_
              refine v_goto (I := iX8_gaitOf) (tgt := 257) dX8_gaitOf_184 (by decide) ?_
              refine v_aload_n (I := iX8_gaitOf) dX8_gaitOf_257 rfl ?_
              refine v_get (I := iX8_gaitOf) g_X8_63 dX8_gaitOf_258 (wc_lt hw (by decide)) (ae_w0 hw _ _) rfl ?_
              exact v_aret (I := iX8_gaitOf) rfl (Or.inl ⟨_, rfl⟩) dX8_gaitOf_261 ⟨rfl, gaitS_eq (by unfold gSways; grind) (by unfold gStride; grind) (by unfold gPace; grind) (by unfold gCatch gPlain aI32; grind), rfl⟩
            · refine v_iload_n (I := iX8_gaitOf) dX8_gaitOf_161 rfl ?_
              refine v_iconst (I := iX8_gaitOf) (v := 2) dX8_gaitOf_162 (by decide) ?_
              refine v_icmp_ne (I := iX8_gaitOf) (tgt := 187) dX8_gaitOf_163 (by decide) (fun c163 => ?_) (fun c163 => ?_)
              · refine v_iload_n (I := iX8_gaitOf) dX8_gaitOf_187 rfl ?_
                refine v_iconst (I := iX8_gaitOf) (v := 4) dX8_gaitOf_188 (by decide) ?_
                refine v_icmp_ne (I := iX8_gaitOf) (tgt := 213) dX8_gaitOf_189 (by decide) (fun c189 => ?_) (fun c189 => ?_)
                · refine v_iload_n (I := iX8_gaitOf) dX8_gaitOf_213 rfl ?_
                  refine v_iconst (I := iX8_gaitOf) (v := 5) dX8_gaitOf_214 (by decide) ?_
                  refine v_icmp_ne (I := iX8_gaitOf) (tgt := 244) dX8_gaitOf_215 (by decide) (fun c215 => ?_) (fun c215 => ?_)
                  · refine v_aload_n (I := iX8_gaitOf) dX8_gaitOf_244 rfl ?_
                    refine v_get (I := iX8_gaitOf) g_X8_63 dX8_gaitOf_245 (wc_lt hw (by decide)) (ae_w0 hw _ _) rfl ?_
                    refine v_iload (I := iX8_gaitOf) dX8_gaitOf_248 rfl ?_
                    refine v_iconst (I := iX8_gaitOf) (v := 2) dX8_gaitOf_250 (by decide) ?_
                    refine v_iconst (I := iX8_gaitOf) (v := 3) dX8_gaitOf_251 (by decide) ?_
                    refine v_iload (I := iX8_gaitOf) dX8_gaitOf_252 rfl ?_
                    refine v_callVv (I := iX8_gaitOf) (I' := iX0_become) lk_X8_123 c_X0_become dX8_gaitOf_254 (m_X0_become hw) rfl rfl (wc_lt hw (by decide)) (ae_w20 hw _ _) rfl (by decide) (by decide) (Nat.le_of_ble_eq_true rfl) ?_
                    refine v_aload_n (I := iX8_gaitOf) dX8_gaitOf_257 rfl ?_
                    refine v_get (I := iX8_gaitOf) g_X8_63 dX8_gaitOf_258 (wc_lt hw (by decide)) (ae_w0 hw _ _) rfl ?_
                    exact v_aret (I := iX8_gaitOf) rfl (Or.inl ⟨_, rfl⟩) dX8_gaitOf_261 ⟨rfl, gaitS_eq (by unfold gSways; grind) (by unfold gStride; grind) (by unfold gPace; grind) (by unfold gCatch gPlain aI32; grind), rfl⟩
                  · refine v_aload_n (I := iX8_gaitOf) dX8_gaitOf_218 rfl ?_
                    refine v_get (I := iX8_gaitOf) g_X8_63 dX8_gaitOf_219 (wc_lt hw (by decide)) (ae_w0 hw _ _) rfl ?_
                    refine v_iload (I := iX8_gaitOf) dX8_gaitOf_222 rfl ?_
                    refine v_iconst (I := iX8_gaitOf) (v := 2) dX8_gaitOf_224 (by decide) ?_
                    refine v_iconst (I := iX8_gaitOf) (v := 3) dX8_gaitOf_225 (by decide) ?_
                    refine v_iload (I := iX8_gaitOf) dX8_gaitOf_226 rfl ?_
                    refine v_iconst (I := iX8_gaitOf) (v := 2) dX8_gaitOf_228 (by decide) ?_
                    refine v_aload_n (I := iX8_gaitOf) dX8_gaitOf_229 rfl ?_
                    refine v_callVi (I := iX8_gaitOf) (I' := iX8_slope) lk_X8_126 c_X8_slope dX8_gaitOf_230 (m_X8_slope hw hV hB) rfl rfl (wc_lt hw (by decide)) (ae_w0 hw _ _) rfl (by decide) (by decide) (Nat.le_of_ble_eq_true rfl) ?_
                    refine v_abs (I := iX8_gaitOf) lm_X8_129 dX8_gaitOf_233 (by decide) (Nat.le_of_ble_eq_true rfl) ?_
                    refine v_imul (I := iX8_gaitOf) dX8_gaitOf_236 ?_
                    refine v_isub (I := iX8_gaitOf) dX8_gaitOf_237 ?_
                    refine v_callVv (I := iX8_gaitOf) (I' := iX0_become) lk_X8_123 c_X0_become dX8_gaitOf_238 (m_X0_become hw) rfl rfl (wc_lt hw (by decide)) (ae_w20 hw _ _) rfl (by decide) (by decide) (Nat.le_of_ble_eq_true rfl) ?_
                    refine v_goto (I := iX8_gaitOf) (tgt := 257) dX8_gaitOf_241 (by decide) ?_
                    refine v_aload_n (I := iX8_gaitOf) dX8_gaitOf_257 rfl ?_
                    refine v_get (I := iX8_gaitOf) g_X8_63 dX8_gaitOf_258 (wc_lt hw (by decide)) (ae_w0 hw _ _) rfl ?_
                    exact v_aret (I := iX8_gaitOf) rfl (Or.inl ⟨_, rfl⟩) dX8_gaitOf_261 ⟨rfl, gaitS_eq (by unfold gSways; grind) (by unfold gStride; grind) (by unfold gPace; grind) (by unfold gCatch gPlain aI32; grind), rfl⟩
                · refine v_aload_n (I := iX8_gaitOf) dX8_gaitOf_192 rfl ?_
                  refine v_get (I := iX8_gaitOf) g_X8_63 dX8_gaitOf_193 (wc_lt hw (by decide)) (ae_w0 hw _ _) rfl ?_
                  refine v_iload (I := iX8_gaitOf) dX8_gaitOf_196 rfl ?_
                  refine v_iload_n (I := iX8_gaitOf) dX8_gaitOf_198 rfl ?_
                  refine v_bipush (I := iX8_gaitOf) (v := 25) dX8_gaitOf_199 (by decide) ?_
                  refine v_idiv (I := iX8_gaitOf) dX8_gaitOf_201 (by decide) ?_
                  refine v_iadd (I := iX8_gaitOf) dX8_gaitOf_202 ?_
                  refine v_iconst (I := iX8_gaitOf) (v := 2) dX8_gaitOf_203 (by decide) ?_
                  refine v_iconst (I := iX8_gaitOf) (v := 3) dX8_gaitOf_204 (by decide) ?_
                  refine v_iload (I := iX8_gaitOf) dX8_gaitOf_205 rfl ?_
                  refine v_callVv (I := iX8_gaitOf) (I' := iX0_become) lk_X8_123 c_X0_become dX8_gaitOf_207 (m_X0_become hw) rfl rfl (wc_lt hw (by decide)) (ae_w20 hw _ _) rfl (by decide) (by decide) (Nat.le_of_ble_eq_true rfl) ?_
                  refine v_goto (I := iX8_gaitOf) (tgt := 257) dX8_gaitOf_210 (by decide) ?_
                  refine v_aload_n (I := iX8_gaitOf) dX8_gaitOf_257 rfl ?_
                  refine v_get (I := iX8_gaitOf) g_X8_63 dX8_gaitOf_258 (wc_lt hw (by decide)) (ae_w0 hw _ _) rfl ?_
                  exact v_aret (I := iX8_gaitOf) rfl (Or.inl ⟨_, rfl⟩) dX8_gaitOf_261 ⟨rfl, gaitS_eq (by unfold gSways; grind) (by unfold gStride; grind) (by unfold gPace; grind) (by unfold gCatch gPlain aI32; grind), rfl⟩
              · refine v_aload_n (I := iX8_gaitOf) dX8_gaitOf_166 rfl ?_
                refine v_get (I := iX8_gaitOf) g_X8_63 dX8_gaitOf_167 (wc_lt hw (by decide)) (ae_w0 hw _ _) rfl ?_
                refine v_iload (I := iX8_gaitOf) dX8_gaitOf_170 rfl ?_
                refine v_iconst (I := iX8_gaitOf) (v := 3) dX8_gaitOf_172 (by decide) ?_
                refine v_idiv (I := iX8_gaitOf) dX8_gaitOf_173 (by decide) ?_
                refine v_iconst (I := iX8_gaitOf) (v := 1) dX8_gaitOf_174 (by decide) ?_
                refine v_iconst (I := iX8_gaitOf) (v := 4) dX8_gaitOf_175 (by decide) ?_
                refine v_iload (I := iX8_gaitOf) dX8_gaitOf_176 rfl ?_
                refine v_bipush (I := iX8_gaitOf) (v := 20) dX8_gaitOf_178 (by decide) ?_
                refine v_iadd (I := iX8_gaitOf) dX8_gaitOf_180 ?_
                refine v_callVv (I := iX8_gaitOf) (I' := iX0_become) lk_X8_123 c_X0_become dX8_gaitOf_181 (m_X0_become hw) rfl rfl (wc_lt hw (by decide)) (ae_w20 hw _ _) rfl (by decide) (by decide) (Nat.le_of_ble_eq_true rfl) ?_
                refine v_goto (I := iX8_gaitOf) (tgt := 257) dX8_gaitOf_184 (by decide) ?_
                refine v_aload_n (I := iX8_gaitOf) dX8_gaitOf_257 rfl ?_
                refine v_get (I := iX8_gaitOf) g_X8_63 dX8_gaitOf_258 (wc_lt hw (by decide)) (ae_w0 hw _ _) rfl ?_
                exact v_aret (I := iX8_gaitOf) rfl (Or.inl ⟨_, rfl⟩) dX8_gaitOf_261 ⟨rfl, gaitS_eq (by unfold gSways; grind) (by unfold gStride; grind) (by unfold gPace; grind) (by unfold gCatch gPlain aI32; grind), rfl⟩
          · refine v_aload_n (I := iX8_gaitOf) dX8_gaitOf_140 rfl ?_
            refine v_get (I := iX8_gaitOf) g_X8_63 dX8_gaitOf_141 (wc_lt hw (by decide)) (ae_w0 hw _ _) rfl ?_
            refine v_iload (I := iX8_gaitOf) dX8_gaitOf_144 rfl ?_
            refine v_iconst (I := iX8_gaitOf) (v := 1) dX8_gaitOf_146 (by decide) ?_
            refine v_iconst (I := iX8_gaitOf) (v := 3) dX8_gaitOf_147 (by decide) ?_
            refine v_iload (I := iX8_gaitOf) dX8_gaitOf_148 rfl ?_
            refine v_callVv (I := iX8_gaitOf) (I' := iX0_become) lk_X8_123 c_X0_become dX8_gaitOf_150 (m_X0_become hw) rfl rfl (wc_lt hw (by decide)) (ae_w20 hw _ _) rfl (by decide) (by decide) (Nat.le_of_ble_eq_true rfl) ?_
            refine v_goto (I := iX8_gaitOf) (tgt := 257) dX8_gaitOf_153 (by decide) ?_
            refine v_aload_n (I := iX8_gaitOf) dX8_gaitOf_257 rfl ?_
            refine v_get (I := iX8_gaitOf) g_X8_63 dX8_gaitOf_258 (wc_lt hw (by decide)) (ae_w0 hw _ _) rfl ?_
            exact v_aret (I := iX8_gaitOf) rfl (Or.inl ⟨_, rfl⟩) dX8_gaitOf_261 ⟨rfl, gaitS_eq (by unfold gSways; grind) (by unfold gStride; grind) (by unfold gPace; grind) (by unfold gCatch gPlain aI32; grind), rfl⟩
      · refine v_iload (I := iX8_gaitOf) dX8_gaitOf_109 rfl ?_
        refine v_if_neB (I := iX8_gaitOf) (tgt := 130) dX8_gaitOf_111 (by decide) (fun c111 => ?_) (fun c111 => ?_)
        · refine v_iload_n (I := iX8_gaitOf) dX8_gaitOf_130 rfl ?_
          refine v_iconst (I := iX8_gaitOf) (v := 2) dX8_gaitOf_131 (by decide) ?_
          refine v_icmp_ne (I := iX8_gaitOf) (tgt := 156) dX8_gaitOf_132 (by decide) (fun c132 => ?_) (fun c132 => ?_)
          · refine v_iload_n (I := iX8_gaitOf) dX8_gaitOf_156 rfl ?_
            refine v_iconst (I := iX8_gaitOf) (v := 1) dX8_gaitOf_157 (by decide) ?_
            refine v_icmp_eq (I := iX8_gaitOf) (tgt := 166) dX8_gaitOf_158 (by decide) (fun c158 => ?_) (fun c158 => ?_)
            · refine v_aload_n (I := iX8_gaitOf) dX8_gaitOf_166 rfl ?_
              refine v_get (I := iX8_gaitOf) g_X8_63 dX8_gaitOf_167 (wc_lt hw (by decide)) (ae_w0 hw _ _) rfl ?_
              refine v_iload (I := iX8_gaitOf) dX8_gaitOf_170 rfl ?_
              refine v_iconst (I := iX8_gaitOf) (v := 3) dX8_gaitOf_172 (by decide) ?_
              refine v_idiv (I := iX8_gaitOf) dX8_gaitOf_173 (by decide) ?_
              refine v_iconst (I := iX8_gaitOf) (v := 1) dX8_gaitOf_174 (by decide) ?_
              refine v_iconst (I := iX8_gaitOf) (v := 4) dX8_gaitOf_175 (by decide) ?_
              refine v_iload (I := iX8_gaitOf) dX8_gaitOf_176 rfl ?_
              refine v_bipush (I := iX8_gaitOf) (v := 20) dX8_gaitOf_178 (by decide) ?_
              refine v_iadd (I := iX8_gaitOf) dX8_gaitOf_180 ?_
              refine v_callVv (I := iX8_gaitOf) (I' := iX0_become) lk_X8_123 c_X0_become dX8_gaitOf_181 (m_X0_become hw) rfl rfl (wc_lt hw (by decide)) (ae_w20 hw _ _) rfl (by decide) (by decide) (Nat.le_of_ble_eq_true rfl) ?_
              refine v_goto (I := iX8_gaitOf) (tgt := 257) dX8_gaitOf_184 (by decide) ?_
              refine v_aload_n (I := iX8_gaitOf) dX8_gaitOf_257 rfl ?_
              refine v_get (I := iX8_gaitOf) g_X8_63 dX8_gaitOf_258 (wc_lt hw (by decide)) (ae_w0 hw _ _) rfl ?_
              exact v_aret (I := iX8_gaitOf) rfl (Or.inl ⟨_, rfl⟩) dX8_gaitOf_261 ⟨rfl, gaitS_eq (by unfold gSways; grind) (by unfold gStride; grind) (by unfold gPace; grind) (by unfold gCatch gPlain aI32; grind), rfl⟩
            · refine v_iload_n (I := iX8_gaitOf) dX8_gaitOf_161 rfl ?_
              refine v_iconst (I := iX8_gaitOf) (v := 2) dX8_gaitOf_162 (by decide) ?_
              refine v_icmp_ne (I := iX8_gaitOf) (tgt := 187) dX8_gaitOf_163 (by decide) (fun c163 => ?_) (fun c163 => ?_)
              · refine v_iload_n (I := iX8_gaitOf) dX8_gaitOf_187 rfl ?_
                refine v_iconst (I := iX8_gaitOf) (v := 4) dX8_gaitOf_188 (by decide) ?_
                refine v_icmp_ne (I := iX8_gaitOf) (tgt := 213) dX8_gaitOf_189 (by decide) (fun c189 => ?_) (fun c189 => ?_)
                · refine v_iload_n (I := iX8_gaitOf) dX8_gaitOf_213 rfl ?_
                  refine v_iconst (I := iX8_gaitOf) (v := 5) dX8_gaitOf_214 (by decide) ?_
                  refine v_icmp_ne (I := iX8_gaitOf) (tgt := 244) dX8_gaitOf_215 (by decide) (fun c215 => ?_) (fun c215 => ?_)
                  · refine v_aload_n (I := iX8_gaitOf) dX8_gaitOf_244 rfl ?_
                    refine v_get (I := iX8_gaitOf) g_X8_63 dX8_gaitOf_245 (wc_lt hw (by decide)) (ae_w0 hw _ _) rfl ?_
                    refine v_iload (I := iX8_gaitOf) dX8_gaitOf_248 rfl ?_
                    refine v_iconst (I := iX8_gaitOf) (v := 2) dX8_gaitOf_250 (by decide) ?_
                    refine v_iconst (I := iX8_gaitOf) (v := 3) dX8_gaitOf_251 (by decide) ?_
                    refine v_iload (I := iX8_gaitOf) dX8_gaitOf_252 rfl ?_
                    refine v_callVv (I := iX8_gaitOf) (I' := iX0_become) lk_X8_123 c_X0_become dX8_gaitOf_254 (m_X0_become hw) rfl rfl (wc_lt hw (by decide)) (ae_w20 hw _ _) rfl (by decide) (by decide) (Nat.le_of_ble_eq_true rfl) ?_
                    refine v_aload_n (I := iX8_gaitOf) dX8_gaitOf_257 rfl ?_
                    refine v_get (I := iX8_gaitOf) g_X8_63 dX8_gaitOf_258 (wc_lt hw (by decide)) (ae_w0 hw _ _) rfl ?_
                    exact v_aret (I := iX8_gaitOf) rfl (Or.inl ⟨_, rfl⟩) dX8_gaitOf_261 ⟨rfl, gaitS_eq (by unfold gSways; grind) (by unfold gStride; grind) (by unfold gPace; grind) (by unfold gCatch gPlain aI32; grind), rfl⟩
                  · refine v_aload_n (I := iX8_gaitOf) dX8_gaitOf_218 rfl ?_
                    refine v_get (I := iX8_gaitOf) g_X8_63 dX8_gaitOf_219 (wc_lt hw (by decide)) (ae_w0 hw _ _) rfl ?_
                    refine v_iload (I := iX8_gaitOf) dX8_gaitOf_222 rfl ?_
                    refine v_iconst (I := iX8_gaitOf) (v := 2) dX8_gaitOf_224 (by decide) ?_
                    refine v_iconst (I := iX8_gaitOf) (v := 3) dX8_gaitOf_225 (by decide) ?_
                    refine v_iload (I := iX8_gaitOf) dX8_gaitOf_226 rfl ?_
                    refine v_iconst (I := iX8_gaitOf) (v := 2) dX8_gaitOf_228 (by decide) ?_
                    refine v_aload_n (I := iX8_gaitOf) dX8_gaitOf_229 rfl ?_
                    refine v_callVi (I := iX8_gaitOf) (I' := iX8_slope) lk_X8_126 c_X8_slope dX8_gaitOf_230 (m_X8_slope hw hV hB) rfl rfl (wc_lt hw (by decide)) (ae_w0 hw _ _) rfl (by decide) (by decide) (Nat.le_of_ble_eq_true rfl) ?_
                    refine v_abs (I := iX8_gaitOf) lm_X8_129 dX8_gaitOf_233 (by decide) (Nat.le_of_ble_eq_true rfl) ?_
                    refine v_imul (I := iX8_gaitOf) dX8_gaitOf_236 ?_
                    refine v_isub (I := iX8_gaitOf) dX8_gaitOf_237 ?_
                    refine v_callVv (I := iX8_gaitOf) (I' := iX0_become) lk_X8_123 c_X0_become dX8_gaitOf_238 (m_X0_become hw) rfl rfl (wc_lt hw (by decide)) (ae_w20 hw _ _) rfl (by decide) (by decide) (Nat.le_of_ble_eq_true rfl) ?_
                    refine v_goto (I := iX8_gaitOf) (tgt := 257) dX8_gaitOf_241 (by decide) ?_
                    refine v_aload_n (I := iX8_gaitOf) dX8_gaitOf_257 rfl ?_
                    refine v_get (I := iX8_gaitOf) g_X8_63 dX8_gaitOf_258 (wc_lt hw (by decide)) (ae_w0 hw _ _) rfl ?_
                    exact v_aret (I := iX8_gaitOf) rfl (Or.inl ⟨_, rfl⟩) dX8_gaitOf_261 ⟨rfl, gaitS_eq (by unfold gSways; grind) (by unfold gStride; grind) (by unfold gPace; grind) (by unfold gCatch gPlain aI32; grind), rfl⟩
                · refine v_aload_n (I := iX8_gaitOf) dX8_gaitOf_192 rfl ?_
                  refine v_get (I := iX8_gaitOf) g_X8_63 dX8_gaitOf_193 (wc_lt hw (by decide)) (ae_w0 hw _ _) rfl ?_
                  refine v_iload (I := iX8_gaitOf) dX8_gaitOf_196 rfl ?_
                  refine v_iload_n (I := iX8_gaitOf) dX8_gaitOf_198 rfl ?_
                  refine v_bipush (I := iX8_gaitOf) (v := 25) dX8_gaitOf_199 (by decide) ?_
                  refine v_idiv (I := iX8_gaitOf) dX8_gaitOf_201 (by decide) ?_
                  refine v_iadd (I := iX8_gaitOf) dX8_gaitOf_202 ?_
                  refine v_iconst (I := iX8_gaitOf) (v := 2) dX8_gaitOf_203 (by decide) ?_
                  refine v_iconst (I := iX8_gaitOf) (v := 3) dX8_gaitOf_204 (by decide) ?_
                  refine v_iload (I := iX8_gaitOf) dX8_gaitOf_205 rfl ?_
                  refine v_callVv (I := iX8_gaitOf) (I' := iX0_become) lk_X8_123 c_X0_become dX8_gaitOf_207 (m_X0_become hw) rfl rfl (wc_lt hw (by decide)) (ae_w20 hw _ _) rfl (by decide) (by decide) (Nat.le_of_ble_eq_true rfl) ?_
                  refine v_goto (I := iX8_gaitOf) (tgt := 257) dX8_gaitOf_210 (by decide) ?_
                  refine v_aload_n (I := iX8_gaitOf) dX8_gaitOf_257 rfl ?_
                  refine v_get (I := iX8_gaitOf) g_X8_63 dX8_gaitOf_258 (wc_lt hw (by decide)) (ae_w0 hw _ _) rfl ?_
                  exact v_aret (I := iX8_gaitOf) rfl (Or.inl ⟨_, rfl⟩) dX8_gaitOf_261 ⟨rfl, gaitS_eq (by unfold gSways; grind) (by unfold gStride; grind) (by unfold gPace; grind) (by unfold gCatch gPlain aI32; grind), rfl⟩
              · refine v_aload_n (I := iX8_gaitOf) dX8_gaitOf_166 rfl ?_
                refine v_get (I := iX8_gaitOf) g_X8_63 dX8_gaitOf_167 (wc_lt hw (by decide)) (ae_w0 hw _ _) rfl ?_
                refine v_iload (I := iX8_gaitOf) dX8_gaitOf_170 rfl ?_
                refine v_iconst (I := iX8_gaitOf) (v := 3) dX8_gaitOf_172 (by decide) ?_
                refine v_idiv (I := iX8_gaitOf) dX8_gaitOf_173 (by decide) ?_
                refine v_iconst (I := iX8_gaitOf) (v := 1) dX8_gaitOf_174 (by decide) ?_
                refine v_iconst (I := iX8_gaitOf) (v := 4) dX8_gaitOf_175 (by decide) ?_
                refine v_iload (I := iX8_gaitOf) dX8_gaitOf_176 rfl ?_
                refine v_bipush (I := iX8_gaitOf) (v := 20) dX8_gaitOf_178 (by decide) ?_
                refine v_iadd (I := iX8_gaitOf) dX8_gaitOf_180 ?_
                refine v_callVv (I := iX8_gaitOf) (I' := iX0_become) lk_X8_123 c_X0_become dX8_gaitOf_181 (m_X0_become hw) rfl rfl (wc_lt hw (by decide)) (ae_w20 hw _ _) rfl (by decide) (by decide) (Nat.le_of_ble_eq_true rfl) ?_
                refine v_goto (I := iX8_gaitOf) (tgt := 257) dX8_gaitOf_184 (by decide) ?_
                refine v_aload_n (I := iX8_gaitOf) dX8_gaitOf_257 rfl ?_
                refine v_get (I := iX8_gaitOf) g_X8_63 dX8_gaitOf_258 (wc_lt hw (by decide)) (ae_w0 hw _ _) rfl ?_
                exact v_aret (I := iX8_gaitOf) rfl (Or.inl ⟨_, rfl⟩) dX8_gaitOf_261 ⟨rfl, gaitS_eq (by unfold gSways; grind) (by unfold gStride; grind) (by unfold gPace; grind) (by unfold gCatch gPlain aI32; grind), rfl⟩
          · refine v_iload (I := iX8_gaitOf) dX8_gaitOf_135 rfl ?_
            refine v_if_neB (I := iX8_gaitOf) (tgt := 156) dX8_gaitOf_137 (by decide) (fun c137 => ?_) (fun c137 => ?_)
            · refine v_iload_n (I := iX8_gaitOf) dX8_gaitOf_156 rfl ?_
              refine v_iconst (I := iX8_gaitOf) (v := 1) dX8_gaitOf_157 (by decide) ?_
              refine v_icmp_eq (I := iX8_gaitOf) (tgt := 166) dX8_gaitOf_158 (by decide) (fun c158 => ?_) (fun c158 => ?_)
              · refine v_aload_n (I := iX8_gaitOf) dX8_gaitOf_166 rfl ?_
                refine v_get (I := iX8_gaitOf) g_X8_63 dX8_gaitOf_167 (wc_lt hw (by decide)) (ae_w0 hw _ _) rfl ?_
                refine v_iload (I := iX8_gaitOf) dX8_gaitOf_170 rfl ?_
                refine v_iconst (I := iX8_gaitOf) (v := 3) dX8_gaitOf_172 (by decide) ?_
                refine v_idiv (I := iX8_gaitOf) dX8_gaitOf_173 (by decide) ?_
                refine v_iconst (I := iX8_gaitOf) (v := 1) dX8_gaitOf_174 (by decide) ?_
                refine v_iconst (I := iX8_gaitOf) (v := 4) dX8_gaitOf_175 (by decide) ?_
                refine v_iload (I := iX8_gaitOf) dX8_gaitOf_176 rfl ?_
                refine v_bipush (I := iX8_gaitOf) (v := 20) dX8_gaitOf_178 (by decide) ?_
                refine v_iadd (I := iX8_gaitOf) dX8_gaitOf_180 ?_
                refine v_callVv (I := iX8_gaitOf) (I' := iX0_become) lk_X8_123 c_X0_become dX8_gaitOf_181 (m_X0_become hw) rfl rfl (wc_lt hw (by decide)) (ae_w20 hw _ _) rfl (by decide) (by decide) (Nat.le_of_ble_eq_true rfl) ?_
                refine v_goto (I := iX8_gaitOf) (tgt := 257) dX8_gaitOf_184 (by decide) ?_
                refine v_aload_n (I := iX8_gaitOf) dX8_gaitOf_257 rfl ?_
                refine v_get (I := iX8_gaitOf) g_X8_63 dX8_gaitOf_258 (wc_lt hw (by decide)) (ae_w0 hw _ _) rfl ?_
                exact v_aret (I := iX8_gaitOf) rfl (Or.inl ⟨_, rfl⟩) dX8_gaitOf_261 ⟨rfl, gaitS_eq (by unfold gSways; grind) (by unfold gStride; grind) (by unfold gPace; grind) (by unfold gCatch gPlain aI32; grind), rfl⟩
              · refine v_iload_n (I := iX8_gaitOf) dX8_gaitOf_161 rfl ?_
                refine v_iconst (I := iX8_gaitOf) (v := 2) dX8_gaitOf_162 (by decide) ?_
                refine v_icmp_ne (I := iX8_gaitOf) (tgt := 187) dX8_gaitOf_163 (by decide) (fun c163 => ?_) (fun c163 => ?_)
                · refine v_iload_n (I := iX8_gaitOf) dX8_gaitOf_187 rfl ?_
                  refine v_iconst (I := iX8_gaitOf) (v := 4) dX8_gaitOf_188 (by decide) ?_
                  refine v_icmp_ne (I := iX8_gaitOf) (tgt := 213) dX8_gaitOf_189 (by decide) (fun c189 => ?_) (fun c189 => ?_)
                  · refine v_iload_n (I := iX8_gaitOf) dX8_gaitOf_213 rfl ?_
                    refine v_iconst (I := iX8_gaitOf) (v := 5) dX8_gaitOf_214 (by decide) ?_
                    refine v_icmp_ne (I := iX8_gaitOf) (tgt := 244) dX8_gaitOf_215 (by decide) (fun c215 => ?_) (fun c215 => ?_)
                    · refine v_aload_n (I := iX8_gaitOf) dX8_gaitOf_244 rfl ?_
                      refine v_get (I := iX8_gaitOf) g_X8_63 dX8_gaitOf_245 (wc_lt hw (by decide)) (ae_w0 hw _ _) rfl ?_
                      refine v_iload (I := iX8_gaitOf) dX8_gaitOf_248 rfl ?_
                      refine v_iconst (I := iX8_gaitOf) (v := 2) dX8_gaitOf_250 (by decide) ?_
                      refine v_iconst (I := iX8_gaitOf) (v := 3) dX8_gaitOf_251 (by decide) ?_
                      refine v_iload (I := iX8_gaitOf) dX8_gaitOf_252 rfl ?_
                      refine v_callVv (I := iX8_gaitOf) (I' := iX0_become) lk_X8_123 c_X0_become dX8_gaitOf_254 (m_X0_become hw) rfl rfl (wc_lt hw (by decide)) (ae_w20 hw _ _) rfl (by decide) (by decide) (Nat.le_of_ble_eq_true rfl) ?_
                      refine v_aload_n (I := iX8_gaitOf) dX8_gaitOf_257 rfl ?_
                      refine v_get (I := iX8_gaitOf) g_X8_63 dX8_gaitOf_258 (wc_lt hw (by decide)) (ae_w0 hw _ _) rfl ?_
                      exact v_aret (I := iX8_gaitOf) rfl (Or.inl ⟨_, rfl⟩) dX8_gaitOf_261 ⟨rfl, gaitS_eq (by unfold gSways; grind) (by unfold gStride; grind) (by unfold gPace; grind) (by unfold gCatch gPlain aI32; grind), rfl⟩
                    · refine v_aload_n (I := iX8_gaitOf) dX8_gaitOf_218 rfl ?_
                      refine v_get (I := iX8_gaitOf) g_X8_63 dX8_gaitOf_219 (wc_lt hw (by decide)) (ae_w0 hw _ _) rfl ?_
                      refine v_iload (I := iX8_gaitOf) dX8_gaitOf_222 rfl ?_
                      refine v_iconst (I := iX8_gaitOf) (v := 2) dX8_gaitOf_224 (by decide) ?_
                      refine v_iconst (I := iX8_gaitOf) (v := 3) dX8_gaitOf_225 (by decide) ?_
                      refine v_iload (I := iX8_gaitOf) dX8_gaitOf_226 rfl ?_
                      refine v_iconst (I := iX8_gaitOf) (v := 2) dX8_gaitOf_228 (by decide) ?_
                      refine v_aload_n (I := iX8_gaitOf) dX8_gaitOf_229 rfl ?_
                      refine v_callVi (I := iX8_gaitOf) (I' := iX8_slope) lk_X8_126 c_X8_slope dX8_gaitOf_230 (m_X8_slope hw hV hB) rfl rfl (wc_lt hw (by decide)) (ae_w0 hw _ _) rfl (by decide) (by decide) (Nat.le_of_ble_eq_true rfl) ?_
                      refine v_abs (I := iX8_gaitOf) lm_X8_129 dX8_gaitOf_233 (by decide) (Nat.le_of_ble_eq_true rfl) ?_
                      refine v_imul (I := iX8_gaitOf) dX8_gaitOf_236 ?_
                      refine v_isub (I := iX8_gaitOf) dX8_gaitOf_237 ?_
                      refine v_callVv (I := iX8_gaitOf) (I' := iX0_become) lk_X8_123 c_X0_become dX8_gaitOf_238 (m_X0_become hw) rfl rfl (wc_lt hw (by decide)) (ae_w20 hw _ _) rfl (by decide) (by decide) (Nat.le_of_ble_eq_true rfl) ?_
                      refine v_goto (I := iX8_gaitOf) (tgt := 257) dX8_gaitOf_241 (by decide) ?_
                      refine v_aload_n (I := iX8_gaitOf) dX8_gaitOf_257 rfl ?_
                      refine v_get (I := iX8_gaitOf) g_X8_63 dX8_gaitOf_258 (wc_lt hw (by decide)) (ae_w0 hw _ _) rfl ?_
                      exact v_aret (I := iX8_gaitOf) rfl (Or.inl ⟨_, rfl⟩) dX8_gaitOf_261 ⟨rfl, gaitS_eq (by unfold gSways; grind) (by unfold gStride; grind) (by unfold gPace; grind) (by unfold gCatch gPlain aI32; grind), rfl⟩
                  · refine v_aload_n (I := iX8_gaitOf) dX8_gaitOf_192 rfl ?_
                    refine v_get (I := iX8_gaitOf) g_X8_63 dX8_gaitOf_193 (wc_lt hw (by decide)) (ae_w0 hw _ _) rfl ?_
                    refine v_iload (I := iX8_gaitOf) dX8_gaitOf_196 rfl ?_
                    refine v_iload_n (I := iX8_gaitOf) dX8_gaitOf_198 rfl ?_
                    refine v_bipush (I := iX8_gaitOf) (v := 25) dX8_gaitOf_199 (by decide) ?_
                    refine v_idiv (I := iX8_gaitOf) dX8_gaitOf_201 (by decide) ?_
                    refine v_iadd (I := iX8_gaitOf) dX8_gaitOf_202 ?_
                    refine v_iconst (I := iX8_gaitOf) (v := 2) dX8_gaitOf_203 (by decide) ?_
                    refine v_iconst (I := iX8_gaitOf) (v := 3) dX8_gaitOf_204 (by decide) ?_
                    refine v_iload (I := iX8_gaitOf) dX8_gaitOf_205 rfl ?_
                    refine v_callVv (I := iX8_gaitOf) (I' := iX0_become) lk_X8_123 c_X0_become dX8_gaitOf_207 (m_X0_become hw) rfl rfl (wc_lt hw (by decide)) (ae_w20 hw _ _) rfl (by decide) (by decide) (Nat.le_of_ble_eq_true rfl) ?_
                    refine v_goto (I := iX8_gaitOf) (tgt := 257) dX8_gaitOf_210 (by decide) ?_
                    refine v_aload_n (I := iX8_gaitOf) dX8_gaitOf_257 rfl ?_
                    refine v_get (I := iX8_gaitOf) g_X8_63 dX8_gaitOf_258 (wc_lt hw (by decide)) (ae_w0 hw _ _) rfl ?_
                    exact v_aret (I := iX8_gaitOf) rfl (Or.inl ⟨_, rfl⟩) dX8_gaitOf_261 ⟨rfl, gaitS_eq (by unfold gSways; grind) (by unfold gStride; grind) (by unfold gPace; grind) (by unfold gCatch gPlain aI32; grind), rfl⟩
                · refine v_aload_n (I := iX8_gaitOf) dX8_gaitOf_166 rfl ?_
                  refine v_get (I := iX8_gaitOf) g_X8_63 dX8_gaitOf_167 (wc_lt hw (by decide)) (ae_w0 hw _ _) rfl ?_
                  refine v_iload (I := iX8_gaitOf) dX8_gaitOf_170 rfl ?_
                  refine v_iconst (I := iX8_gaitOf) (v := 3) dX8_gaitOf_172 (by decide) ?_
                  refine v_idiv (I := iX8_gaitOf) dX8_gaitOf_173 (by decide) ?_
                  refine v_iconst (I := iX8_gaitOf) (v := 1) dX8_gaitOf_174 (by decide) ?_
                  refine v_iconst (I := iX8_gaitOf) (v := 4) dX8_gaitOf_175 (by decide) ?_
                  refine v_iload (I := iX8_gaitOf) dX8_gaitOf_176 rfl ?_
                  refine v_bipush (I := iX8_gaitOf) (v := 20) dX8_gaitOf_178 (by decide) ?_
                  refine v_iadd (I := iX8_gaitOf) dX8_gaitOf_180 ?_
                  refine v_callVv (I := iX8_gaitOf) (I' := iX0_become) lk_X8_123 c_X0_become dX8_gaitOf_181 (m_X0_become hw) rfl rfl (wc_lt hw (by decide)) (ae_w20 hw _ _) rfl (by decide) (by decide) (Nat.le_of_ble_eq_true rfl) ?_
                  refine v_goto (I := iX8_gaitOf) (tgt := 257) dX8_gaitOf_184 (by decide) ?_
                  refine v_aload_n (I := iX8_gaitOf) dX8_gaitOf_257 rfl ?_
                  refine v_get (I := iX8_gaitOf) g_X8_63 dX8_gaitOf_258 (wc_lt hw (by decide)) (ae_w0 hw _ _) rfl ?_
                  exact v_aret (I := iX8_gaitOf) rfl (Or.inl ⟨_, rfl⟩) dX8_gaitOf_261 ⟨rfl, gaitS_eq (by unfold gSways; grind) (by unfold gStride; grind) (by unfold gPace; grind) (by unfold gCatch gPlain aI32; grind), rfl⟩
            · refine v_aload_n (I := iX8_gaitOf) dX8_gaitOf_140 rfl ?_
              refine v_get (I := iX8_gaitOf) g_X8_63 dX8_gaitOf_141 (wc_lt hw (by decide)) (ae_w0 hw _ _) rfl ?_
              refine v_iload (I := iX8_gaitOf) dX8_gaitOf_144 rfl ?_
              refine v_iconst (I := iX8_gaitOf) (v := 1) dX8_gaitOf_146 (by decide) ?_
              refine v_iconst (I := iX8_gaitOf) (v := 3) dX8_gaitOf_147 (by decide) ?_
              refine v_iload (I := iX8_gaitOf) dX8_gaitOf_148 rfl ?_
              refine v_callVv (I := iX8_gaitOf) (I' := iX0_become) lk_X8_123 c_X0_become dX8_gaitOf_150 (m_X0_become hw) rfl rfl (wc_lt hw (by decide)) (ae_w20 hw _ _) rfl (by decide) (by decide) (Nat.le_of_ble_eq_true rfl) ?_
              refine v_goto (I := iX8_gaitOf) (tgt := 257) dX8_gaitOf_153 (by decide) ?_
              refine v_aload_n (I := iX8_gaitOf) dX8_gaitOf_257 rfl ?_
              refine v_get (I := iX8_gaitOf) g_X8_63 dX8_gaitOf_258 (wc_lt hw (by decide)) (ae_w0 hw _ _) rfl ?_
              exact v_aret (I := iX8_gaitOf) rfl (Or.inl ⟨_, rfl⟩) dX8_gaitOf_261 ⟨rfl, gaitS_eq (by unfold gSways; grind) (by unfold gStride; grind) (by unfold gPace; grind) (by unfold gCatch gPlain aI32; grind), rfl⟩
        · refine v_aload_n (I := iX8_gaitOf) dX8_gaitOf_114 rfl ?_
          refine v_get (I := iX8_gaitOf) g_X8_63 dX8_gaitOf_115 (wc_lt hw (by decide)) (ae_w0 hw _ _) rfl ?_
          refine v_iload (I := iX8_gaitOf) dX8_gaitOf_118 rfl ?_
          refine v_iconst (I := iX8_gaitOf) (v := 0) dX8_gaitOf_120 (by decide) ?_
          refine v_iconst (I := iX8_gaitOf) (v := 0) dX8_gaitOf_121 (by decide) ?_
          refine v_iload (I := iX8_gaitOf) dX8_gaitOf_122 rfl ?_
          refine v_callVv (I := iX8_gaitOf) (I' := iX0_become) lk_X8_123 c_X0_become dX8_gaitOf_124 (m_X0_become hw) rfl rfl (wc_lt hw (by decide)) (ae_w20 hw _ _) rfl (by decide) (by decide) (Nat.le_of_ble_eq_true rfl) ?_
          refine v_goto (I := iX8_gaitOf) (tgt := 257) dX8_gaitOf_127 (by decide) ?_
          refine v_aload_n (I := iX8_gaitOf) dX8_gaitOf_257 rfl ?_
          refine v_get (I := iX8_gaitOf) g_X8_63 dX8_gaitOf_258 (wc_lt hw (by decide)) (ae_w0 hw _ _) rfl ?_
          exact v_aret (I := iX8_gaitOf) rfl (Or.inl ⟨_, rfl⟩) dX8_gaitOf_261 ⟨rfl, gaitS_eq (by unfold gSways; grind) (by unfold gStride; grind) (by unfold gPace; grind) (by unfold gCatch gPlain aI32; grind), rfl⟩
  · refine v_aload_n (I := iX8_gaitOf) dX8_gaitOf_85 rfl ?_
    refine v_get (I := iX8_gaitOf) g_X8_63 dX8_gaitOf_86 (wc_lt hw (by decide)) (ae_w0 hw _ _) rfl ?_
    refine v_iconst (I := iX8_gaitOf) (v := 0) dX8_gaitOf_89 (by decide) ?_
    refine v_iconst (I := iX8_gaitOf) (v := 0) dX8_gaitOf_90 (by decide) ?_
    refine v_iconst (I := iX8_gaitOf) (v := 0) dX8_gaitOf_91 (by decide) ?_
    refine v_iload (I := iX8_gaitOf) dX8_gaitOf_92 rfl ?_
    refine v_callVv (I := iX8_gaitOf) (I' := iX0_become) lk_X8_123 c_X0_become dX8_gaitOf_94 (m_X0_become hw) rfl rfl (wc_lt hw (by decide)) (ae_w20 hw _ _) rfl (by decide) (by decide) (Nat.le_of_ble_eq_true rfl) ?_
    refine v_goto (I := iX8_gaitOf) (tgt := 257) dX8_gaitOf_97 (by decide) ?_
    refine v_aload_n (I := iX8_gaitOf) dX8_gaitOf_257 rfl ?_
    refine v_get (I := iX8_gaitOf) g_X8_63 dX8_gaitOf_258 (wc_lt hw (by decide)) (ae_w0 hw _ _) rfl ?_
    exact v_aret (I := iX8_gaitOf) rfl (Or.inl ⟨_, rfl⟩) dX8_gaitOf_261 ⟨rfl, gaitS_eq (by unfold gSways; grind) (by unfold gStride; grind) (by unfold gPace; grind) (by unfold gCatch gPlain aI32; grind), rfl⟩
