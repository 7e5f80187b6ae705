set_option maxRecDepth 100000 in
set_option maxHeartbeats 4000000 in
theorem m_X3_distance {G : fGm} {σ : fSt} {τ : fLt} {w h : Nat} {g : gS} {x y : Int32} (hw : w < 3) (hV : V w σ g) (hx : x = nI h) (hh : h < 8) : MS G iX3_distance 1 [.ref (wc w 2), .int x, .int y] σ τ (rT (some (.int (aI32 (g (39 + 3 * h + 0) - y)))) σ τ) := by
  refine ms_of (by decide +kernel) (Nat.le_of_ble_eq_true rfl) ?_
  show VW _ _ _ _ _ _ 0 [(0, _), (1, _), (2, _)] []
  refine v_aload_n (I := iX3_distance) dX3_distance_0 rfl ?_
  refine v_get (I := iX3_distance) g_X3_18 dX3_distance_1 (wc_lt hw (by decide)) (ae_w2 hw _ _) rfl ?_
  refine v_iload_n (I := iX3_distance) dX3_distance_4 rfl ?_
  refine v_callSi (I := iX3_distance) (I' := iX9_at) lk_X3_49 c_X9_at dX3_distance_5 (m_X9_at (wc_lt hw (by decide)) (ae_w5 hw) (by decide)) rfl rfl (by decide) (by decide) (Nat.le_of_ble_eq_true rfl) ?_
  rw [show rdA 8 (σ (wc w 5)) x = g (39 + 3 * h + 0) by rw [hx, rdA_in hh (by decide), V_hcell hV hh]]
  refine v_iload_n (I := iX3_distance) dX3_distance_8 rfl ?_
  refine v_isub (I := iX3_distance) dX3_distance_9 ?_
  refine v_abs (I := iX3_distance) lm_X3_53 dX3_distance_10 (by decide) (Nat.le_of_ble_eq_true rfl) ?_
  exact v_iret (I := iX3_distance) rfl dX3_distance_13 ⟨by first | rfl | (simp only [*]; done) | (simp [*]; done), rfl, rfl⟩
theorem gDist_lt {g : gS} (hB : B g) {h : Nat} (hh : h < 8) : gDist g h < 100 := by
  have h1 : (0 : Int32) ≤ g 0 ∧ g 0 ≤ 99 := hB 0 (by decide)
  have h2 := hB (39 + 3 * h + 0) (by omega)
  have e : bnd (39 + 3 * h + 0) = (0, 99) := by
    rcases (show h = 0 ∨ h = 1 ∨ h = 2 ∨ h = 3 ∨ h = 4 ∨ h = 5 ∨ h = 6 ∨ h = 7 by omega) with rfl | rfl | rfl | rfl | rfl | rfl | rfl | rfl <;> rfl
  rw [e] at h2
  unfold gDist aI32
  obtain ⟨a, b⟩ := h1
  obtain ⟨c, d⟩ := h2
  change (0 : Int32) ≤ _ at c
  change _ ≤ (99 : Int32) at d
  generalize g (39 + 3 * h + 0) = y at *
  generalize g 0 = z at *
  split <;> grind
def oDist (g : gS) : Option Nat → Int32
  | none => 100
  | some b => gDist g b
def oHand (g : gS) : Option Nat → Bool
  | none => false
  | some b => decide (gDist g b ≤ g 2)
theorem gHas_o (g : gS) : gHasI g = oHand g (gNear g) := rfl
theorem gNearN_s (g : gS) (n : Nat) (h : gDist g n < 100) : gNearN g (n + 1) = if gDist g n < oDist g (gNearN g n) then some n else gNearN g n := by
  show (match gNearN g n with | none => some n | some b => if gDist g n < gDist g b then some n else some b) = _
  cases gNearN g n with
  | none => show some n = if gDist g n < 100 then some n else none; rw [if_pos h]
  | some b => rfl
set_option maxRecDepth 100000 in
set_option maxHeartbeats 4000000 in
theorem m_X3_nearestTo {G : fGm} {σ : fSt} {τ : fLt} {w : Nat} {g : gS} (hw : w < 3) (hV : V w σ g) (hB : B g) {y : Int32} (hy : y = g 0) : MS G iX3_nearestTo 2 [.ref (wc w 2), .int y] σ τ (rT (some (.int (oI (gNear g)))) σ τ) := by
  obtain ⟨N, hN8, hN⟩ := B14 hB
  refine ms_of (by decide +kernel) (Nat.le_of_ble_eq_true rfl) ?_
  show VW _ _ _ _ _ _ 0 [(0, _), (1, _)] []
  have key : ∀ (m n : Nat), n ≤ N → N < n + m → ∀ {x x2 x3 : Int32}, x = nI n → x2 = oI (gNearN g n) → x3 = oDist g (gNearN g n) → VW G iX3_nearestTo (rT (some (.int (oI (gNear g)))) σ τ) 2 σ τ 8 [(4, .int x), (3, .int x3), (2, .int x2), (0, .ref (wc w 2)), (1, .int y)] [] := by
    intro m
    induction m with
    | zero => intro n h1 h2; omega
    | succ m ih =>
    intro n h1 h9 x x2 x3 hx h2 h3
    show VW _ _ _ _ _ _ 8 [(4, _), (3, _), (2, _), (0, _), (1, _)] []
    refine v_iload (I := iX3_nearestTo) dX3_nearestTo_8 rfl ?_
    refine v_aload_n (I := iX3_nearestTo) dX3_nearestTo_10 rfl ?_
    refine v_get (I := iX3_nearestTo) g_X3_27 dX3_nearestTo_11 (wc_lt hw (by decide)) (ae_w2 hw _ _) rfl ?_
    rw [V_n14 hV]
    refine v_icmp_ge (I := iX3_nearestTo) (tgt := 45) dX3_nearestTo_14 (by decide) (fun c14 => ?_) (fun c14 => ?_)
    · have hn9 : n = N := by
        rcases Nat.lt_or_ge n N with h9 | h9
        · exact absurd c14 (by rw [hN, hx]; exact nI_ge h9 (by omega))
        · omega
      subst hn9
      refine v_iload_n (I := iX3_nearestTo) dX3_nearestTo_45 rfl ?_
      exact v_iret (I := iX3_nearestTo) rfl dX3_nearestTo_46 ⟨by rw [h2]; unfold gNear; rw [show (g 14).toNatClampNeg = n by rw [hN]; exact nI_clamp (by omega)], rfl, rfl⟩
    · have hn9 : n < N := by
        rcases Nat.lt_or_ge n N with h9 | h9
        · exact h9
        · exact absurd (by rw [hN, hx]; exact nI_le h9 (by omega)) c14
      have hi9 : n < 8 := by omega
      have hd9 := gDist_lt hB hi9
      refine v_aload_n (I := iX3_nearestTo) dX3_nearestTo_17 rfl ?_
      refine v_iload (I := iX3_nearestTo) dX3_nearestTo_18 rfl ?_
      refine v_iload_n (I := iX3_nearestTo) dX3_nearestTo_20 rfl ?_
      refine v_callVi (I := iX3_nearestTo) (I' := iX3_distance) lk_X3_57 c_X3_distance dX3_nearestTo_21 (m_X3_distance hw hV hx hi9) rfl rfl (wc_lt hw (by decide)) (ae_w2 hw _ _) rfl (by decide) (by decide) (Nat.le_of_ble_eq_true rfl) ?_
      refine v_iload_n (I := iX3_nearestTo) dX3_nearestTo_24 rfl ?_
      refine v_icmp_ge (I := iX3_nearestTo) (tgt := 39) dX3_nearestTo_25 (by decide) (fun c25 => ?_) (fun c25 => ?_)
      · refine v_iinc (I := iX3_nearestTo) (ls1 := [(4, _), (3, _), (2, _), (0, _), (1, _)]) dX3_nearestTo_39 rfl rfl (by decide) rfl ?_
        refine v_goto (I := iX3_nearestTo) (tgt := 8) dX3_nearestTo_42 (by decide) ?_
        exact ih (n + 1) (by omega) (by omega) (by rw [hx]; exact nI_1 n) (by rw [gNearN_s g n hd9, if_neg (by rw [← h3, show gDist g n = aI32 (g (39 + 3 * n + 0) - g 0) from rfl, ← hy]; grind)]; exact h2) (by rw [gNearN_s g n hd9, if_neg (by rw [← h3, show gDist g n = aI32 (g (39 + 3 * n + 0) - g 0) from rfl, ← hy]; grind)]; exact h3)
      · refine v_aload_n (I := iX3_nearestTo) dX3_nearestTo_28 rfl ?_
        refine v_iload (I := iX3_nearestTo) dX3_nearestTo_29 rfl ?_
        refine v_iload_n (I := iX3_nearestTo) dX3_nearestTo_31 rfl ?_
        refine v_callVi (I := iX3_nearestTo) (I' := iX3_distance) lk_X3_57 c_X3_distance dX3_nearestTo_32 (m_X3_distance hw hV hx hi9) rfl rfl (wc_lt hw (by decide)) (ae_w2 hw _ _) rfl (by decide) (by decide) (Nat.le_of_ble_eq_true rfl) ?_
        refine v_istore_n (I := iX3_nearestTo) (ls1 := [(3, _), (4, _), (2, _), (0, _), (1, _)]) dX3_nearestTo_35 (by decide) rfl ?_
        refine v_iload (I := iX3_nearestTo) dX3_nearestTo_36 rfl ?_
        refine v_istore_n (I := iX3_nearestTo) (ls1 := [(2, _), (3, _), (4, _), (0, _), (1, _)]) dX3_nearestTo_38 (by decide) rfl ?_
        refine v_iinc (I := iX3_nearestTo) (ls1 := [(4, _), (2, _), (3, _), (0, _), (1, _)]) dX3_nearestTo_39 rfl rfl (by decide) rfl ?_
        refine v_goto (I := iX3_nearestTo) (tgt := 8) dX3_nearestTo_42 (by decide) ?_
        refine v_pick (ls1 := [(4, _), (3, _), (2, _), (0, _), (1, _)]) [0, 2, 1, 3, 4] rfl ?_
        exact ih (n + 1) (by omega) (by omega) (by rw [hx]; exact nI_1 n) (by rw [gNearN_s g n hd9, if_pos (by rw [← h3, show gDist g n = aI32 (g (39 + 3 * n + 0) - g 0) from rfl, ← hy]; exact Int32.not_le.mp c25)]; exact hx) (by rw [gNearN_s g n hd9, if_pos (by rw [← h3, show gDist g n = aI32 (g (39 + 3 * n + 0) - g 0) from rfl, ← hy]; exact Int32.not_le.mp c25), hy]; rfl)
  refine v_iconst (I := iX3_nearestTo) (v := -1) dX3_nearestTo_0 (by decide) ?_
  refine v_istore_n (I := iX3_nearestTo) (ls1 := [(2, _), (0, _), (1, _)]) dX3_nearestTo_1 (by decide) rfl ?_
  refine v_bipush (I := iX3_nearestTo) (v := 100) dX3_nearestTo_2 (by decide) ?_
  refine v_istore_n (I := iX3_nearestTo) (ls1 := [(3, _), (2, _), (0, _), (1, _)]) dX3_nearestTo_4 (by decide) rfl ?_
  refine v_iconst (I := iX3_nearestTo) (v := 0) dX3_nearestTo_5 (by decide) ?_
  refine v_istore (I := iX3_nearestTo) (ls1 := [(4, _), (3, _), (2, _), (0, _), (1, _)]) dX3_nearestTo_6 (by decide) rfl ?_
  exact key (N + 1) 0 (by omega) (by omega) rfl rfl rfl
set_option maxRecDepth 100000 in
set_option maxHeartbeats 4000000 in
theorem m_X8_isAtHand {G : fGm} {σ : fSt} {τ : fLt} {w : Nat} {g : gS} {x : Int32} {o : Option Nat} (hw : w < 3) (hV : V w σ g) (hx : x = oI o) (ho : ∀ b, o = some b → b < 8) : MS G iX8_isAtHand 2 [.ref (wc w 0), .int x] σ τ (rT (some (.int (if oHand g o = true then 1 else 0))) σ τ) := by
  refine ms_of (by decide +kernel) (Nat.le_of_ble_eq_true rfl) ?_
  show VW _ _ _ _ _ _ 0 [(0, _), (1, _)] []
  refine v_iload_n (I := iX8_isAtHand) dX8_isAtHand_0 rfl ?_
  refine v_if_lt (I := iX8_isAtHand) (tgt := 31) dX8_isAtHand_1 (by decide) (fun c1 => ?_) (fun c1 => ?_)
  · cases o with
    | some b => exact absurd c1 (by rw [hx]; exact nI_pos (by have := ho b rfl; omega))
    | none =>
    refine v_iconst (I := iX8_isAtHand) (v := 0) dX8_isAtHand_31 (by decide) ?_
    exact v_zret (I := iX8_isAtHand) rfl rfl dX8_isAtHand_32 ⟨by unfold oHand; first | rfl | (simp only [gDist]; simp [*]; done) | (unfold gDist; grind), rfl, rfl⟩
  · cases o with
    | none => exact absurd (by rw [hx]; decide) c1
    | some b =>
    have hb8 := ho b rfl
    refine v_aload_n (I := iX8_isAtHand) dX8_isAtHand_4 rfl ?_
    refine v_get (I := iX8_isAtHand) g_X8_26 dX8_isAtHand_5 (wc_lt hw (by decide)) (ae_w0 hw _ _) rfl ?_
    refine v_iload_n (I := iX8_isAtHand) dX8_isAtHand_8 rfl ?_
    refine v_aload_n (I := iX8_isAtHand) dX8_isAtHand_9 rfl ?_
    refine v_get (I := iX8_isAtHand) g_X8_18 dX8_isAtHand_10 (wc_lt hw (by decide)) (ae_w0 hw _ _) rfl ?_
    refine v_iconst (I := iX8_isAtHand) (v := 0) dX8_isAtHand_13 (by decide) ?_
    refine v_ialdN (I := iX8_isAtHand) (j := 0) (by decide) (by decide) (by decide) dX8_isAtHand_14 (wc_lt hw (by decide)) (ae_w1 hw _ _) ?_
    rw [V_child hV (by decide)]
    refine v_callVi (I := iX8_isAtHand) (I' := iX3_distance) lk_X8_92 c_X3_distance dX8_isAtHand_15 (m_X3_distance hw hV (h := b) hx hb8) rfl rfl (wc_lt hw (by decide)) (ae_w2 hw _ _) rfl (by decide) (by decide) (Nat.le_of_ble_eq_true rfl) ?_
    refine v_aload_n (I := iX8_isAtHand) dX8_isAtHand_18 rfl ?_
    refine v_get (I := iX8_isAtHand) g_X8_18 dX8_isAtHand_19 (wc_lt hw (by decide)) (ae_w0 hw _ _) rfl ?_
    refine v_iconst (I := iX8_isAtHand) (v := 2) dX8_isAtHand_22 (by decide) ?_
    refine v_ialdN (I := iX8_isAtHand) (j := 2) (by decide) (by decide) (by decide) dX8_isAtHand_23 (wc_lt hw (by decide)) (ae_w1 hw _ _) ?_
    rw [V_child hV (by decide)]
    refine v_icmp_gt (I := iX8_isAtHand) (tgt := 31) dX8_isAtHand_24 (by decide) (fun c24 => ?_) (fun c24 => ?_)
    · refine v_iconst (I := iX8_isAtHand) (v := 0) dX8_isAtHand_31 (by decide) ?_
      exact v_zret (I := iX8_isAtHand) rfl rfl dX8_isAtHand_32 ⟨by unfold oHand; first | rfl | (simp only [gDist]; simp [*]; done) | (unfold gDist; grind), rfl, rfl⟩
    · refine v_iconst (I := iX8_isAtHand) (v := 1) dX8_isAtHand_27 (by decide) ?_
      refine v_goto (I := iX8_isAtHand) (tgt := 32) dX8_isAtHand_28 (by decide) ?_
      exact v_zret (I := iX8_isAtHand) rfl rfl dX8_isAtHand_32 ⟨by unfold oHand; first | rfl | (simp only [gDist]; simp [*]; done) | (unfold gDist; grind), rfl, rfl⟩
theorem gc10_d {g : gS} (hB : B g) : g 0 / 10 = nI (gc10 g) := by
  obtain ⟨c, hc, e⟩ := B_cell hB
  unfold gc10
  rw [e, c10 hc, nI_clamp (by omega)]
set_option maxRecDepth 100000 in
set_option maxHeartbeats 4000000 in
theorem m_X8_slope {G : fGm} {σ : fSt} {τ : fLt} {w : Nat} {g : gS} (hw : w < 3) (hV : V w σ g) (hB : B g) : MS G iX8_slope 1 [.ref (wc w 0)] σ τ (rT (some (.int (gSlope g))) σ τ) := by
  refine ms_of (by decide +kernel) (Nat.le_of_ble_eq_true rfl) ?_
  show VW _ _ _ _ _ _ 0 [(0, _)] []
  refine v_aload_n (I := iX8_slope) dX8_slope_0 rfl ?_
  refine v_get (I := iX8_slope) g_X8_26 dX8_slope_1 (wc_lt hw (by decide)) (ae_w0 hw _ _) rfl ?_
  refine v_get (I := iX8_slope) g_X8_96 dX8_slope_4 (wc_lt hw (by decide)) (ae_w2 hw _ _) rfl ?_
  refine v_aload_n (I := iX8_slope) dX8_slope_7 rfl ?_
  refine v_get (I := iX8_slope) g_X8_18 dX8_slope_8 (wc_lt hw (by decide)) (ae_w0 hw _ _) rfl ?_
  refine v_iconst (I := iX8_slope) (v := 0) dX8_slope_11 (by decide) ?_
  refine v_ialdN (I := iX8_slope) (j := 0) (by decide) (by decide) (by decide) dX8_slope_12 (wc_lt hw (by decide)) (ae_w1 hw _ _) ?_
  refine v_bipush (I := iX8_slope) (v := 10) dX8_slope_13 (by decide) ?_
  refine v_idiv (I := iX8_slope) dX8_slope_15 (by decide) ?_
  refine v_callSi (I := iX8_slope) (I' := iX9_at) lk_X8_99 c_X9_at dX8_slope_16 (m_X9_at (wc_lt hw (by decide)) (ae_w4 hw) (by decide)) rfl rfl (by decide) (by decide) (Nat.le_of_ble_eq_true rfl) ?_
  rw [V_child hV (by decide), gc10_d hB, rdA_in (gc10_lt hB) (by decide), V_slope hV (gc10_lt hB)]
  exact v_iret (I := iX8_slope) rfl dX8_slope_19 ⟨by first | rfl | (simp only [*]; done) | (simp [*]; done), rfl, rfl⟩
set_option maxRecDepth 100000 in
set_option maxHeartbeats 4000000 in
theorem m_X8_come {G : fGm} {σ : fSt} {τ : fLt} {w i : Nat} {g : gS} {x : Int32} (hw : w < 3) (hV : V w σ g) (hx : x = nI i) (hi : i < 8) (hl : g 15 = 0 ∨ x < g 15) : MS G iX8_come 1 [.ref (wc w 0), .int x] σ τ (rW none τ w σ (gCome g x)) := by
  refine ms_of (by decide +kernel) (Nat.le_of_ble_eq_true rfl) ?_
  show VW _ _ _ _ _ _ 0 [(0, _), (1, _)] []
  refine v_aload_n (I := iX8_come) dX8_come_0 rfl ?_
  refine v_get (I := iX8_come) g_X8_18 dX8_come_1 (wc_lt hw (by decide)) (ae_w0 hw _ _) rfl ?_
  refine v_bipush (I := iX8_come) (v := 11) dX8_come_4 (by decide) ?_
  refine v_iload_n (I := iX8_come) dX8_come_6 rfl ?_
  refine v_iastN (I := iX8_come) (j := 11) (by decide) (by decide) (by decide) dX8_come_7 (wc_lt hw (by decide)) (fun _ => ae_w1 hw _ _) ?_
  refine v_aload_n (I := iX8_come) dX8_come_8 rfl ?_
  refine v_get (I := iX8_come) g_X8_18 dX8_come_9 (wc_lt hw (by decide)) (ae_w0 hw _ _) rfl ?_
  refine v_bipush (I := iX8_come) (v := 12) dX8_come_12 (by decide) ?_
  refine v_iload_n (I := iX8_come) dX8_come_14 rfl ?_
  refine v_aload_n (I := iX8_come) dX8_come_15 rfl ?_
  refine v_get (I := iX8_come) g_X8_33 dX8_come_16 (wc_lt hw (by decide)) (ae_w0 hw _ _) rfl ?_
  refine v_get (I := iX8_come) g_X8_103 dX8_come_19 (wc_lt hw (by decide)) (ae_w8 hw _ _) rfl ?_
  rw [up2_k _ _ _ _ (wc_ne (by decide)), V_n15 hV]
  refine v_icmp_ge (I := iX8_come) (tgt := 39) dX8_come_22 (by decide) (fun c22 => ?_) (fun c22 => ?_)
  · refine v_iconst (I := iX8_come) (v := 0) dX8_come_39 (by decide) ?_
    refine v_iastN (I := iX8_come) (j := 12) (by decide) (by decide) (by decide) dX8_come_40 (wc_lt hw (by decide)) (fun _ => ae_w1 hw _ _) ?_
    exact v_vret (I := iX8_come) rfl dX8_come_41 ⟨rfl, rfl, by
      have h9 : (0 : Int32) ≤ x := by rw [hx]; exact nI_pos' (by omega)
      unfold gCome
      rw [show x.toNatClampNeg = i by rw [hx]; exact nI_clamp (by omega)]
      first | rw [if_pos (by grind)] | rw [if_neg (by grind)]
      exact V_upc (V_upc hV (by decide)) (by decide), (FrW.up (by decide)).tr (FrW.up (by decide))⟩
  · refine v_aload_n (I := iX8_come) dX8_come_25 rfl ?_
    refine v_get (I := iX8_come) g_X8_33 dX8_come_26 (wc_lt hw (by decide)) (ae_w0 hw _ _) rfl ?_
    refine v_get (I := iX8_come) g_X8_106 dX8_come_29 (wc_lt hw (by decide)) (ae_w8 hw _ _) rfl ?_
    refine v_iload_n (I := iX8_come) dX8_come_32 rfl ?_
    refine v_callSi (I := iX8_come) (I' := iX9_at) lk_X8_99 c_X9_at dX8_come_33 (m_X9_at (wc_lt hw (by decide)) (ae_w11 hw) (by decide)) rfl rfl (by decide) (by decide) (Nat.le_of_ble_eq_true rfl) ?_
    rw [up2_kf _ _ _ (wc_ne (by decide)), show rdA 8 (σ (wc w 11)) x = g (63 + 3 * i + 2) by rw [hx, rdA_in hi (by decide), V_gt hV hi]]
    refine v_goto (I := iX8_come) (tgt := 40) dX8_come_36 (by decide) ?_
    refine v_iastN (I := iX8_come) (j := 12) (by decide) (by decide) (by decide) dX8_come_40 (wc_lt hw (by decide)) (fun _ => ae_w1 hw _ _) ?_
    exact v_vret (I := iX8_come) rfl dX8_come_41 ⟨rfl, rfl, by
      have h9 : (0 : Int32) ≤ x := by rw [hx]; exact nI_pos' (by omega)
      unfold gCome
      rw [show x.toNatClampNeg = i by rw [hx]; exact nI_clamp (by omega)]
      first | rw [if_pos (by grind)] | rw [if_neg (by grind)]
      exact V_upc (V_upc hV (by decide)) (by decide), (FrW.up (by decide)).tr (FrW.up (by decide))⟩
set_option maxRecDepth 100000 in
set_option maxHeartbeats 4000000 in
theorem m_X0_become {G : fGm} {σ : fSt} {τ : fLt} {w : Nat} {a b c e : Int32} (hw : w < 3) : MS G iX0_become 2 [.ref (wc w 20), .int a, .int b, .int c, .int e] σ τ (rT none (up2 (up2 (up2 (up2 σ (wc w 20) 0 (hld a 0 9)) (wc w 20) 1 b) (wc w 20) 2 c) (wc w 20) 3 e) τ) := by
  refine ms_of (by decide +kernel) (Nat.le_of_ble_eq_true rfl) ?_
  show VW _ _ _ _ _ _ 0 [(0, _), (1, _), (2, _), (3, _), (4, _)] []
  refine v_aload_n (I := iX0_become) dX0_become_0 rfl ?_
  refine v_iload_n (I := iX0_become) dX0_become_1 rfl ?_
  refine v_iconst (I := iX0_become) (v := 0) dX0_become_2 (by decide) ?_
  refine v_bipush (I := iX0_become) (v := 9) dX0_become_3 (by decide) ?_
  refine v_callSi (I := iX0_become) (I' := iX9_held) lk_X0_7 c_X9_held dX0_become_5 (m_X9_held) rfl rfl (by decide) (by decide) (Nat.le_of_ble_eq_true rfl) ?_
  refine v_putI (I := iX0_become) p_X0_13 dX0_become_8 (wc_lt hw (by decide)) (ae_w20 hw _ _) (ae_w20 hw _ _) rfl rfl (by simp) ?_
  refine v_aload_n (I := iX0_become) dX0_become_11 rfl ?_
  refine v_iload_n (I := iX0_become) dX0_become_12 rfl ?_
  refine v_putI (I := iX0_become) p_X0_19 dX0_become_13 (wc_lt hw (by decide)) (ae_w20 hw _ _) (ae_w20 hw _ _) rfl rfl (by simp) ?_
  refine v_aload_n (I := iX0_become) dX0_become_16 rfl ?_
  refine v_iload_n (I := iX0_become) dX0_become_17 rfl ?_
  refine v_putI (I := iX0_become) p_X0_22 dX0_become_18 (wc_lt hw (by decide)) (ae_w20 hw _ _) (ae_w20 hw _ _) rfl rfl (by simp) ?_
  refine v_aload_n (I := iX0_become) dX0_become_21 rfl ?_
  refine v_iload (I := iX0_become) dX0_become_22 rfl ?_
  refine v_putI (I := iX0_become) p_X0_25 dX0_become_24 (wc_lt hw (by decide)) (ae_w20 hw _ _) (ae_w20 hw _ _) rfl rfl (by simp) ?_
  exact v_vret (I := iX0_become) rfl dX0_become_27 ⟨by first | rfl | (simp only [*]; done) | (simp [*]; done), rfl, rfl⟩
