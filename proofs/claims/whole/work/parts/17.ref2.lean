theorem gNearN_lt {g : gS} : ∀ {n b : Nat}, gNearN g n = some b → b < n := by
  intro n
  induction n with
  | zero => intro b h; cases h
  | succ n ih =>
    intro b h
    unfold gNearN at h
    cases hb : gNearN g n with
    | none => rw [hb] at h; cases h; omega
    | some c =>
      rw [hb] at h
      dsimp only at h
      split at h
      · cases h; omega
      · cases h
        have := ih hb
        omega
theorem B14 {g : gS} (hB : B g) : ∃ N, N ≤ 8 ∧ g 14 = nI N := B_nat hB 14 8 (by decide) (by decide) (by decide)
theorem gNear_lt {g : gS} (hB : B g) {b : Nat} (h : gNear g = some b) : b < 8 := by
  obtain ⟨N, hN, e⟩ := B14 hB
  unfold gNear at h
  rw [e, nI_clamp (by omega)] at h
  have := gNearN_lt h
  omega
set_option maxRecDepth 100000 in
set_option maxHeartbeats 4000000 in
theorem m_X10_nearestOf {G : fGm} {σ : fSt} {τ : fLt} (hB : B (σ 88)) : MS G iX10_nearestOf 2 [.ref 87] σ τ (rT (some (.int (oI (gNear (σ 88))))) σ τ) := by
  obtain ⟨N, hN8, hN⟩ := B14 hB
  refine ms_of (by decide +kernel) (Nat.le_of_ble_eq_true rfl) ?_
  show VW _ _ _ _ _ _ 0 [(0, _)] []
  have key : ∀ (m n : Nat), n ≤ N → N < n + m → ∀ {x x1 : Int32}, x = nI n → x1 = oI (gNearN (σ 88) n) → VW G iX10_nearestOf (rT (some (.int (oI (gNear (σ 88))))) σ τ) 2 σ τ 4 [(2, .int x), (1, .int x1), (0, .ref 87)] [] := by
    intro m
    induction m with
    | zero => intro n h1 h2; omega
    | succ m ih =>
    intro n h1 h2 x x1 hx hbe
    show VW _ _ _ _ _ _ 4 [(2, _), (1, _), (0, _)] []
    refine v_iload_n (I := iX10_nearestOf) dX10_nearestOf_4 rfl ?_
    refine v_aload_n (I := iX10_nearestOf) dX10_nearestOf_5 rfl ?_
    refine v_get (I := iX10_nearestOf) g_X10_9 dX10_nearestOf_6 (by decide) (ae_87 _ _) rfl ?_
    refine v_bipush (I := iX10_nearestOf) (v := 14) dX10_nearestOf_9 (by decide) ?_
    refine v_ialdN (I := iX10_nearestOf) (j := 14) (by decide) (by decide) (by decide) dX10_nearestOf_11 (by decide) (ae_88 _ _) ?_
    refine v_icmp_ge (I := iX10_nearestOf) (tgt := 44) dX10_nearestOf_12 (by decide) (fun c12 => ?_) (fun c12 => ?_)
    · have hn9 : n = N := by
        rcases Nat.lt_or_ge n N with h9 | h9
        · exact absurd c12 (by rw [hN, hx]; exact nI_ge h9 (by omega))
        · omega
      subst hn9
      refine v_iload_n (I := iX10_nearestOf) dX10_nearestOf_44 rfl ?_
      exact v_iret (I := iX10_nearestOf) rfl dX10_nearestOf_45 ⟨by rw [hbe]; unfold gNear; rw [show (σ 88 14).toNatClampNeg = n by rw [hN]; exact nI_clamp (by omega)], rfl, rfl⟩
    · have hn9 : n < N := by
        rcases Nat.lt_or_ge n N with h9 | h9
        · exact h9
        · exact absurd (by rw [hN, hx]; exact nI_le h9 (by omega)) c12
      have hi9 : n < 8 := by omega
      cases hb : gNearN (σ 88) n with
      | none =>
      rw [hb] at hbe
      refine v_iload_n (I := iX10_nearestOf) dX10_nearestOf_15 rfl ?_
      refine v_if_lt (I := iX10_nearestOf) (tgt := 32) dX10_nearestOf_16 (by decide) (fun c16 => ?_) (fun c16 => ?_)
      · refine v_iload_n (I := iX10_nearestOf) dX10_nearestOf_32 rfl ?_
        refine v_goto (I := iX10_nearestOf) (tgt := 37) dX10_nearestOf_33 (by decide) ?_
        refine v_istore_n (I := iX10_nearestOf) (ls1 := [(1, _), (2, _), (0, _)]) dX10_nearestOf_37 (by decide) rfl ?_
        refine v_iinc (I := iX10_nearestOf) (ls1 := [(2, _), (1, _), (0, _)]) dX10_nearestOf_38 rfl rfl (by decide) rfl ?_
        refine v_goto (I := iX10_nearestOf) (tgt := 4) dX10_nearestOf_41 (by decide) ?_
        exact ih (n + 1) (by omega) (by omega) (by rw [hx]; exact nI_1 n) (by rw [hx]; unfold gNearN; rw [hb]; rfl)
      · exact absurd (by rw [hbe]; decide) c16
      | some b =>
      rw [hb] at hbe
      have hbe : x1 = nI b := hbe
      have hb9 : b < 8 := by have := gNearN_lt hb; omega
      refine v_iload_n (I := iX10_nearestOf) dX10_nearestOf_15 rfl ?_
      refine v_if_lt (I := iX10_nearestOf) (tgt := 32) dX10_nearestOf_16 (by decide) (fun c16 => ?_) (fun c16 => ?_)
      · exact absurd c16 (by rw [hbe]; exact nI_pos (by omega))
      · refine v_aload_n (I := iX10_nearestOf) dX10_nearestOf_19 rfl ?_
        refine v_iload_n (I := iX10_nearestOf) dX10_nearestOf_20 rfl ?_
        refine v_callVi (I := iX10_nearestOf) (I' := iX10_distance) lk_X10_110 c_X10_distance dX10_nearestOf_21 (m_X10_distance hx hi9) rfl rfl (by decide) (ae_87 _ _) rfl (by decide) (by decide) (Nat.le_of_ble_eq_true rfl) ?_
        refine v_aload_n (I := iX10_nearestOf) dX10_nearestOf_24 rfl ?_
        refine v_iload_n (I := iX10_nearestOf) dX10_nearestOf_25 rfl ?_
        refine v_callVi (I := iX10_nearestOf) (I' := iX10_distance) lk_X10_110 c_X10_distance dX10_nearestOf_26 (m_X10_distance hbe hb9) rfl rfl (by decide) (ae_87 _ _) rfl (by decide) (by decide) (Nat.le_of_ble_eq_true rfl) ?_
        refine v_icmp_ge (I := iX10_nearestOf) (tgt := 36) dX10_nearestOf_29 (by decide) (fun c29 => ?_) (fun c29 => ?_)
        · refine v_iload_n (I := iX10_nearestOf) dX10_nearestOf_36 rfl ?_
          refine v_istore_n (I := iX10_nearestOf) (ls1 := [(1, _), (2, _), (0, _)]) dX10_nearestOf_37 (by decide) rfl ?_
          refine v_iinc (I := iX10_nearestOf) (ls1 := [(2, _), (1, _), (0, _)]) dX10_nearestOf_38 rfl rfl (by decide) rfl ?_
          refine v_goto (I := iX10_nearestOf) (tgt := 4) dX10_nearestOf_41 (by decide) ?_
          exact ih (n + 1) (by omega) (by omega) (by rw [hx]; exact nI_1 n) (by unfold gNearN; rw [hb]; dsimp only; (first | rw [if_pos (by grind)] | rw [if_neg (by grind)]); (first | exact hx | exact hbe))
        · refine v_iload_n (I := iX10_nearestOf) dX10_nearestOf_32 rfl ?_
          refine v_goto (I := iX10_nearestOf) (tgt := 37) dX10_nearestOf_33 (by decide) ?_
          refine v_istore_n (I := iX10_nearestOf) (ls1 := [(1, _), (2, _), (0, _)]) dX10_nearestOf_37 (by decide) rfl ?_
          refine v_iinc (I := iX10_nearestOf) (ls1 := [(2, _), (1, _), (0, _)]) dX10_nearestOf_38 rfl rfl (by decide) rfl ?_
          refine v_goto (I := iX10_nearestOf) (tgt := 4) dX10_nearestOf_41 (by decide) ?_
          exact ih (n + 1) (by omega) (by omega) (by rw [hx]; exact nI_1 n) (by unfold gNearN; rw [hb]; dsimp only; (first | rw [if_pos (by grind)] | rw [if_neg (by grind)]); (first | exact hx | exact hbe))
  refine v_iconst (I := iX10_nearestOf) (v := -1) dX10_nearestOf_0 (by decide) ?_
  refine v_istore_n (I := iX10_nearestOf) (ls1 := [(1, _), (0, _)]) dX10_nearestOf_1 (by decide) rfl ?_
  refine v_iconst (I := iX10_nearestOf) (v := 0) dX10_nearestOf_2 (by decide) ?_
  refine v_istore_n (I := iX10_nearestOf) (ls1 := [(2, _), (1, _), (0, _)]) dX10_nearestOf_3 (by decide) rfl ?_
  exact key (N + 1) 0 (by omega) (by omega) rfl rfl
set_option maxRecDepth 100000 in
set_option maxHeartbeats 4000000 in
theorem m_X10_hasAtHand {G : fGm} {σ : fSt} {τ : fLt} (hB : B (σ 88)) : MS G iX10_hasAtHand 3 [.ref 87] σ τ (rT (some (.int (if gHasI (σ 88) = true then 1 else 0))) σ τ) := by
  refine ms_of (by decide +kernel) (Nat.le_of_ble_eq_true rfl) ?_
  show VW _ _ _ _ _ _ 0 [(0, _)] []
  refine v_aload_n (I := iX10_hasAtHand) dX10_hasAtHand_0 rfl ?_
  refine v_callVi (I := iX10_hasAtHand) (I' := iX10_nearestOf) lk_X10_120 c_X10_nearestOf dX10_hasAtHand_1 (m_X10_nearestOf hB) rfl rfl (by decide) (ae_87 _ _) rfl (by decide) (by decide) (Nat.le_of_ble_eq_true rfl) ?_
  refine v_istore_n (I := iX10_hasAtHand) (ls1 := [(1, _), (0, _)]) dX10_hasAtHand_4 (by decide) rfl ?_
  refine v_iload_n (I := iX10_hasAtHand) dX10_hasAtHand_5 rfl ?_
  refine v_if_lt (I := iX10_hasAtHand) (tgt := 21) dX10_hasAtHand_6 (by decide) (fun c6 => ?_) (fun c6 => ?_)
  · refine v_iconst (I := iX10_hasAtHand) (v := 0) dX10_hasAtHand_21 (by decide) ?_
    exact v_zret (I := iX10_hasAtHand) rfl rfl dX10_hasAtHand_22 ⟨by unfold gHasI; first | (rw [hb]; simp [*]; done) | (cases hb : gNear (σ 88) with | none => rfl | some b => exact absurd c6 (by rw [hb]; exact nI_pos (by have := gNear_lt hB hb; omega))), rfl, rfl⟩
  · cases hb : gNear (σ 88) with
    | none => exact absurd (by rw [hb]; decide) c6
    | some b =>
    have hbx : oI (some b) = nI b := rfl
    have hb8 := gNear_lt hB hb
    refine v_aload_n (I := iX10_hasAtHand) dX10_hasAtHand_9 rfl ?_
    refine v_iload_n (I := iX10_hasAtHand) dX10_hasAtHand_10 rfl ?_
    refine v_callVi (I := iX10_hasAtHand) (I' := iX10_isAtHand) lk_X10_116 c_X10_isAtHand dX10_hasAtHand_11 (m_X10_isAtHand hbx hb8) rfl rfl (by decide) (ae_87 _ _) rfl (by decide) (by decide) (Nat.le_of_ble_eq_true rfl) ?_
    refine v_if_eqB (I := iX10_hasAtHand) (tgt := 21) dX10_hasAtHand_14 (by decide) (fun c14 => ?_) (fun c14 => ?_)
    · refine v_iconst (I := iX10_hasAtHand) (v := 0) dX10_hasAtHand_21 (by decide) ?_
      exact v_zret (I := iX10_hasAtHand) rfl rfl dX10_hasAtHand_22 ⟨by unfold gHasI; first | (rw [hb]; simp [*]; done) | (cases hb : gNear (σ 88) with | none => rfl | some b => exact absurd c6 (by rw [hb]; exact nI_pos (by have := gNear_lt hB hb; omega))), rfl, rfl⟩
    · refine v_iconst (I := iX10_hasAtHand) (v := 1) dX10_hasAtHand_17 (by decide) ?_
      refine v_goto (I := iX10_hasAtHand) (tgt := 22) dX10_hasAtHand_18 (by decide) ?_
      exact v_zret (I := iX10_hasAtHand) rfl rfl dX10_hasAtHand_22 ⟨by unfold gHasI; first | (rw [hb]; simp [*]; done) | (cases hb : gNear (σ 88) with | none => rfl | some b => exact absurd c6 (by rw [hb]; exact nI_pos (by have := gNear_lt hB hb; omega))), rfl, rfl⟩
set_option maxRecDepth 100000 in
set_option maxHeartbeats 4000000 in
theorem m_X10_comesNow {G : fGm} {σ : fSt} {τ : fLt} {x : Int32} {i : Nat} (hx : x = nI i) (hi : i < 8) : MS G iX10_comesNow 1 [.ref 87, .int x] σ τ (rT none (va_up σ 88 (gCome (σ 88) x)) τ) := by
  refine ms_of (by decide +kernel) (Nat.le_of_ble_eq_true rfl) ?_
  show VW _ _ _ _ _ _ 0 [(0, _), (1, _)] []
  refine v_aload_n (I := iX10_comesNow) dX10_comesNow_0 rfl ?_
  refine v_get (I := iX10_comesNow) g_X10_9 dX10_comesNow_1 (by decide) (ae_87 _ _) rfl ?_
  refine v_bipush (I := iX10_comesNow) (v := 11) dX10_comesNow_4 (by decide) ?_
  refine v_iload_n (I := iX10_comesNow) dX10_comesNow_6 rfl ?_
  refine v_iastN (I := iX10_comesNow) (j := 11) (by decide) (by decide) (by decide) dX10_comesNow_7 (by decide) (fun _ => ae_88 _ _) ?_
  refine v_aload_n (I := iX10_comesNow) dX10_comesNow_8 rfl ?_
  refine v_get (I := iX10_comesNow) g_X10_9 dX10_comesNow_9 (by decide) (ae_87 _ _) rfl ?_
  refine v_bipush (I := iX10_comesNow) (v := 12) dX10_comesNow_12 (by decide) ?_
  refine v_aload_n (I := iX10_comesNow) dX10_comesNow_14 rfl ?_
  refine v_get (I := iX10_comesNow) g_X10_9 dX10_comesNow_15 (by decide) (ae_87 _ _) rfl ?_
  refine v_bipush (I := iX10_comesNow) (v := 15) dX10_comesNow_18 (by decide) ?_
  refine v_ialdN (I := iX10_comesNow) (j := 15) (by decide) (by decide) (by decide) dX10_comesNow_20 (by decide) (ae_88 _ _) ?_
  refine v_if_ne (I := iX10_comesNow) (tgt := 28) dX10_comesNow_21 (by decide) (fun c21 => ?_) (fun c21 => ?_)
  · refine v_aload_n (I := iX10_comesNow) dX10_comesNow_28 rfl ?_
    refine v_iload_n (I := iX10_comesNow) dX10_comesNow_29 rfl ?_
    refine v_iconst (I := iX10_comesNow) (v := 2) dX10_comesNow_30 (by decide) ?_
    refine v_callVi (I := iX10_comesNow) (I' := iX10_goingOf) lk_X10_125 c_X10_goingOf dX10_comesNow_31 (m_X10_goingOf (f := 2) hx hi (by decide) (by decide)) rfl rfl (by decide) (ae_87 _ _) rfl (by decide) (by decide) (Nat.le_of_ble_eq_true rfl) ?_
    refine v_iastN (I := iX10_comesNow) (j := 12) (by decide) (by decide) (by decide) dX10_comesNow_34 (by decide) (fun _ => ae_88 _ _) ?_
    exact v_vret (I := iX10_comesNow) rfl dX10_comesNow_35 ⟨rfl, by
    have e15 : up2 σ 88 11 x 88 15 = σ 88 15 := up2_j _ _ (by decide)
    have eT : up2 σ 88 11 x 88 (63 + 3 * i + 2) = σ 88 (63 + 3 * i + 2) := up2_j _ _ (by omega)
    unfold gCome
    rw [hx, nI_clamp (by omega)]
    rw [hx] at e15 eT c21
    first | rw [if_pos (e15.symm.trans c21)] | (rw [if_neg (fun h => c21 (e15.trans h))]; rw [eT])
    simp only [up2, va_up_s, va_up_va], rfl⟩
  · refine v_iconst (I := iX10_comesNow) (v := 0) dX10_comesNow_24 (by decide) ?_
    refine v_goto (I := iX10_comesNow) (tgt := 34) dX10_comesNow_25 (by decide) ?_
    refine v_iastN (I := iX10_comesNow) (j := 12) (by decide) (by decide) (by decide) dX10_comesNow_34 (by decide) (fun _ => ae_88 _ _) ?_
    exact v_vret (I := iX10_comesNow) rfl dX10_comesNow_35 ⟨rfl, by
    have e15 : up2 σ 88 11 x 88 15 = σ 88 15 := up2_j _ _ (by decide)
    have eT : up2 σ 88 11 x 88 (63 + 3 * i + 2) = σ 88 (63 + 3 * i + 2) := up2_j _ _ (by omega)
    unfold gCome
    rw [hx, nI_clamp (by omega)]
    rw [hx] at e15 eT c21
    first | rw [if_pos (e15.symm.trans c21)] | (rw [if_neg (fun h => c21 (e15.trans h))]; rw [eT])
    simp only [up2, va_up_s, va_up_va], rfl⟩
set_option maxRecDepth 100000 in
set_option maxHeartbeats 4000000 in
theorem m_X10_swaysOf {G : fGm} {σ : fSt} {τ : fLt} {x : Int32} {i : Nat} (hB : B (σ 88)) (hx : x = nI i) (hi : i < 8) : MS G iX10_swaysOf 4 [.ref 87, .int x] σ τ (rT (some (.int (gSways (σ 88) i))) σ τ) := by
  refine ms_of (by decide +kernel) (Nat.le_of_ble_eq_true rfl) ?_
  show VW _ _ _ _ _ _ 0 [(0, _), (1, _)] []
  refine v_aload_n (I := iX10_swaysOf) dX10_swaysOf_0 rfl ?_
  refine v_get (I := iX10_swaysOf) g_X10_9 dX10_swaysOf_1 (by decide) (ae_87 _ _) rfl ?_
  refine v_iconst (I := iX10_swaysOf) (v := 3) dX10_swaysOf_4 (by decide) ?_
  refine v_ialdN (I := iX10_swaysOf) (j := 3) (by decide) (by decide) (by decide) dX10_swaysOf_5 (by decide) (ae_88 _ _) ?_
  refine v_istore_n (I := iX10_swaysOf) (ls1 := [(2, _), (0, _), (1, _)]) dX10_swaysOf_6 (by decide) rfl ?_
  refine v_aload_n (I := iX10_swaysOf) dX10_swaysOf_7 rfl ?_
  refine v_iload_n (I := iX10_swaysOf) dX10_swaysOf_8 rfl ?_
  refine v_iconst (I := iX10_swaysOf) (v := 0) dX10_swaysOf_9 (by decide) ?_
  refine v_callVi (I := iX10_swaysOf) (I' := iX10_goingOf) lk_X10_125 c_X10_goingOf dX10_swaysOf_10 (m_X10_goingOf (f := 0) hx hi (by decide) (by decide)) rfl rfl (by decide) (ae_87 _ _) rfl (by decide) (by decide) (Nat.le_of_ble_eq_true rfl) ?_
  by_cases s13_1 : gK (σ 88) i = 1
  · refine v_tabIn (I := iX10_swaysOf) (tgt := 52) (off := 39) (v := 1) dX10_swaysOf_13 s13_1 (by decide) (by decide) (by decide) (by decide) ?_
    refine v_aload_n (I := iX10_swaysOf) dX10_swaysOf_52 rfl ?_
    refine v_callVi (I := iX10_swaysOf) (I' := iX10_hasAtHand) lk_X10_132 c_X10_hasAtHand dX10_swaysOf_53 (m_X10_hasAtHand hB) rfl rfl (by decide) (ae_87 _ _) rfl (by decide) (by decide) (Nat.le_of_ble_eq_true rfl) ?_
    refine v_if_eqB (I := iX10_swaysOf) (tgt := 65) dX10_swaysOf_56 (by decide) (fun c56 => ?_) (fun c56 => ?_)
    · refine v_iload_n (I := iX10_swaysOf) dX10_swaysOf_65 rfl ?_
      exact v_iret (I := iX10_swaysOf) rfl dX10_swaysOf_66 ⟨by first | (simp only [gSways, gM, *, if_true, if_false]; done) | (unfold gSways; simp [*]; done) | grind [gSways, gM], rfl, rfl⟩
    · refine v_iload_n (I := iX10_swaysOf) dX10_swaysOf_59 rfl ?_
      refine v_iconst (I := iX10_swaysOf) (v := 3) dX10_swaysOf_60 (by decide) ?_
      refine v_idiv (I := iX10_swaysOf) dX10_swaysOf_61 (by decide) ?_
      refine v_goto (I := iX10_swaysOf) (tgt := 66) dX10_swaysOf_62 (by decide) ?_
      exact v_iret (I := iX10_swaysOf) rfl dX10_swaysOf_66 ⟨by first | (simp only [gSways, gM, *, if_true, if_false]; done) | (unfold gSways; simp [*]; done) | grind [gSways, gM], rfl, rfl⟩
  by_cases s13_2 : gK (σ 88) i = 2
  · refine v_tabIn (I := iX10_swaysOf) (tgt := 52) (off := 39) (v := 2) dX10_swaysOf_13 s13_2 (by decide) (by decide) (by decide) (by decide) ?_
    refine v_aload_n (I := iX10_swaysOf) dX10_swaysOf_52 rfl ?_
    refine v_callVi (I := iX10_swaysOf) (I' := iX10_hasAtHand) lk_X10_132 c_X10_hasAtHand dX10_swaysOf_53 (m_X10_hasAtHand hB) rfl rfl (by decide) (ae_87 _ _) rfl (by decide) (by decide) (Nat.le_of_ble_eq_true rfl) ?_
    refine v_if_eqB (I := iX10_swaysOf) (tgt := 65) dX10_swaysOf_56 (by decide) (fun c56 => ?_) (fun c56 => ?_)
    · refine v_iload_n (I := iX10_swaysOf) dX10_swaysOf_65 rfl ?_
      exact v_iret (I := iX10_swaysOf) rfl dX10_swaysOf_66 ⟨by first | (simp only [gSways, gM, *, if_true, if_false]; done) | (unfold gSways; simp [*]; done) | grind [gSways, gM], rfl, rfl⟩
    · refine v_iload_n (I := iX10_swaysOf) dX10_swaysOf_59 rfl ?_
      refine v_iconst (I := iX10_swaysOf) (v := 3) dX10_swaysOf_60 (by decide) ?_
      refine v_idiv (I := iX10_swaysOf) dX10_swaysOf_61 (by decide) ?_
      refine v_goto (I := iX10_swaysOf) (tgt := 66) dX10_swaysOf_62 (by decide) ?_
      exact v_iret (I := iX10_swaysOf) rfl dX10_swaysOf_66 ⟨by first | (simp only [gSways, gM, *, if_true, if_false]; done) | (unfold gSways; simp [*]; done) | grind [gSways, gM], rfl, rfl⟩
  by_cases s13_4 : gK (σ 88) i = 4
  · refine v_tabIn (I := iX10_swaysOf) (tgt := 67) (off := 54) (v := 4) dX10_swaysOf_13 s13_4 (by decide) (by decide) (by decide) (by decide) ?_
    refine v_iload_n (I := iX10_swaysOf) dX10_swaysOf_67 rfl ?_
    refine v_aload_n (I := iX10_swaysOf) dX10_swaysOf_68 rfl ?_
    refine v_iload_n (I := iX10_swaysOf) dX10_swaysOf_69 rfl ?_
    refine v_iconst (I := iX10_swaysOf) (v := 1) dX10_swaysOf_70 (by decide) ?_
    refine v_callVi (I := iX10_swaysOf) (I' := iX10_goingOf) lk_X10_125 c_X10_goingOf dX10_swaysOf_71 (m_X10_goingOf (f := 1) hx hi (by decide) (by decide)) rfl rfl (by decide) (ae_87 _ _) rfl (by decide) (by decide) (Nat.le_of_ble_eq_true rfl) ?_
    refine v_bipush (I := iX10_swaysOf) (v := 25) dX10_swaysOf_74 (by decide) ?_
    refine v_idiv (I := iX10_swaysOf) dX10_swaysOf_76 (by decide) ?_
    refine v_iadd (I := iX10_swaysOf) dX10_swaysOf_77 ?_
    refine v_iconst (I := iX10_swaysOf) (v := 0) dX10_swaysOf_78 (by decide) ?_
    refine v_bipush (I := iX10_swaysOf) (v := 9) dX10_swaysOf_79 (by decide) ?_
    refine v_callSi (I := iX10_swaysOf) (I' := iX10_held) lk_X10_136 c_X10_held dX10_swaysOf_81 (m_X10_held) rfl rfl (by decide) (by decide) (Nat.le_of_ble_eq_true rfl) ?_
    exact v_iret (I := iX10_swaysOf) rfl dX10_swaysOf_84 ⟨by first | (simp only [gSways, gM, *, if_true, if_false]; done) | (unfold gSways; simp [*]; done) | grind [gSways, gM], rfl, rfl⟩
  by_cases s13_6 : gK (σ 88) i = 6
  · refine v_tabIn (I := iX10_swaysOf) (tgt := 85) (off := 72) (v := 6) dX10_swaysOf_13 s13_6 (by decide) (by decide) (by decide) (by decide) ?_
    refine v_iconst (I := iX10_swaysOf) (v := 0) dX10_swaysOf_85 (by decide) ?_
    exact v_iret (I := iX10_swaysOf) rfl dX10_swaysOf_86 ⟨by first | (simp only [gSways, gM, *, if_true, if_false]; done) | (unfold gSways; simp [*]; done) | grind [gSways, gM], rfl, rfl⟩
  refine v_tabDef (I := iX10_swaysOf) (tgt := 87) dX10_swaysOf_13 (by decide) (fun off h1 h2 ho => ?_) (by decide) ?_
  · obtain ⟨j, hj, hjx⟩ := i32_rng (n := 6) h1 h2 (by decide)
    match j, hj with
    | 0, _ => exact absurd (hjx.trans (by decide)) s13_1
    | 1, _ => exact absurd (hjx.trans (by decide)) s13_2
    | 2, _ => rw [hjx] at ho; exact Option.some.inj (ho.symm.trans (by decide))
    | 3, _ => exact absurd (hjx.trans (by decide)) s13_4
    | 4, _ => rw [hjx] at ho; exact Option.some.inj (ho.symm.trans (by decide))
    | 5, _ => exact absurd (hjx.trans (by decide)) s13_6
    | j + 6, h => omega
  refine v_iload_n (I := iX10_swaysOf) dX10_swaysOf_87 rfl ?_
  exact v_iret (I := iX10_swaysOf) rfl dX10_swaysOf_88 ⟨by first | (simp only [gSways, gM, *, if_true, if_false]; done) | (unfold gSways; simp [*]; done) | grind [gSways, gM], rfl, rfl⟩
set_option maxRecDepth 100000 in
set_option maxHeartbeats 4000000 in
theorem m_X10_strideOf {G : fGm} {σ : fSt} {τ : fLt} {x : Int32} {i : Nat} (hB : B (σ 88)) (hx : x = nI i) (hi : i < 8) : MS G iX10_strideOf 4 [.ref 87, .int x] σ τ (rT (some (.int (gStride (σ 88) i))) σ τ) := by
  refine ms_of (by decide +kernel) (Nat.le_of_ble_eq_true rfl) ?_
  show VW _ _ _ _ _ _ 0 [(0, _), (1, _)] []
  refine v_aload_n (I := iX10_strideOf) dX10_strideOf_0 rfl ?_
  refine v_iload_n (I := iX10_strideOf) dX10_strideOf_1 rfl ?_
  refine v_iconst (I := iX10_strideOf) (v := 0) dX10_strideOf_2 (by decide) ?_
  refine v_callVi (I := iX10_strideOf) (I' := iX10_goingOf) lk_X10_125 c_X10_goingOf dX10_strideOf_3 (m_X10_goingOf (f := 0) hx hi (by decide) (by decide)) rfl rfl (by decide) (ae_87 _ _) rfl (by decide) (by decide) (Nat.le_of_ble_eq_true rfl) ?_
  by_cases s6_1 : gK (σ 88) i = 1
  · refine v_tabIn (I := iX10_strideOf) (tgt := 40) (off := 34) (v := 1) dX10_strideOf_6 s6_1 (by decide) (by decide) (by decide) (by decide) ?_
    refine v_aload_n (I := iX10_strideOf) dX10_strideOf_40 rfl ?_
    refine v_callVi (I := iX10_strideOf) (I' := iX10_hasAtHand) lk_X10_132 c_X10_hasAtHand dX10_strideOf_41 (m_X10_hasAtHand hB) rfl rfl (by decide) (ae_87 _ _) rfl (by decide) (by decide) (Nat.le_of_ble_eq_true rfl) ?_
    refine v_if_eqB (I := iX10_strideOf) (tgt := 51) dX10_strideOf_44 (by decide) (fun c44 => ?_) (fun c44 => ?_)
    · refine v_iconst (I := iX10_strideOf) (v := 0) dX10_strideOf_51 (by decide) ?_
      exact v_iret (I := iX10_strideOf) rfl dX10_strideOf_52 ⟨by first | (simp only [gStride, *, if_true, if_false]; done) | (unfold gStride; simp [*]; done) | grind [gStride], rfl, rfl⟩
    · refine v_iconst (I := iX10_strideOf) (v := 1) dX10_strideOf_47 (by decide) ?_
      refine v_goto (I := iX10_strideOf) (tgt := 52) dX10_strideOf_48 (by decide) ?_
      exact v_iret (I := iX10_strideOf) rfl dX10_strideOf_52 ⟨by first | (simp only [gStride, *, if_true, if_false]; done) | (unfold gStride; simp [*]; done) | grind [gStride], rfl, rfl⟩
  by_cases s6_2 : gK (σ 88) i = 2
  · refine v_tabIn (I := iX10_strideOf) (tgt := 53) (off := 47) (v := 2) dX10_strideOf_6 s6_2 (by decide) (by decide) (by decide) (by decide) ?_
    refine v_iconst (I := iX10_strideOf) (v := 1) dX10_strideOf_53 (by decide) ?_
    exact v_iret (I := iX10_strideOf) rfl dX10_strideOf_54 ⟨by first | (simp only [gStride, *, if_true, if_false]; done) | (unfold gStride; simp [*]; done) | grind [gStride], rfl, rfl⟩
  by_cases s6_3 : gK (σ 88) i = 3
  · refine v_tabIn (I := iX10_strideOf) (tgt := 55) (off := 49) (v := 3) dX10_strideOf_6 s6_3 (by decide) (by decide) (by decide) (by decide) ?_
    refine v_iconst (I := iX10_strideOf) (v := 2) dX10_strideOf_55 (by decide) ?_
    exact v_iret (I := iX10_strideOf) rfl dX10_strideOf_56 ⟨by first | (simp only [gStride, *, if_true, if_false]; done) | (unfold gStride; simp [*]; done) | grind [gStride], rfl, rfl⟩
  by_cases s6_4 : gK (σ 88) i = 4
  · refine v_tabIn (I := iX10_strideOf) (tgt := 55) (off := 49) (v := 4) dX10_strideOf_6 s6_4 (by decide) (by decide) (by decide) (by decide) ?_
    refine v_iconst (I := iX10_strideOf) (v := 2) dX10_strideOf_55 (by decide) ?_
    exact v_iret (I := iX10_strideOf) rfl dX10_strideOf_56 ⟨by first | (simp only [gStride, *, if_true, if_false]; done) | (unfold gStride; simp [*]; done) | grind [gStride], rfl, rfl⟩
  by_cases s6_5 : gK (σ 88) i = 5
  · refine v_tabIn (I := iX10_strideOf) (tgt := 55) (off := 49) (v := 5) dX10_strideOf_6 s6_5 (by decide) (by decide) (by decide) (by decide) ?_
    refine v_iconst (I := iX10_strideOf) (v := 2) dX10_strideOf_55 (by decide) ?_
    exact v_iret (I := iX10_strideOf) rfl dX10_strideOf_56 ⟨by first | (simp only [gStride, *, if_true, if_false]; done) | (unfold gStride; simp [*]; done) | grind [gStride], rfl, rfl⟩
  refine v_tabDef (I := iX10_strideOf) (tgt := 57) dX10_strideOf_6 (by decide) (fun off h1 h2 ho => ?_) (by decide) ?_
  · obtain ⟨j, hj, hjx⟩ := i32_rng (n := 5) h1 h2 (by decide)
    match j, hj with
    | 0, _ => exact absurd (hjx.trans (by decide)) s6_1
    | 1, _ => exact absurd (hjx.trans (by decide)) s6_2
    | 2, _ => exact absurd (hjx.trans (by decide)) s6_3
    | 3, _ => exact absurd (hjx.trans (by decide)) s6_4
    | 4, _ => exact absurd (hjx.trans (by decide)) s6_5
    | j + 5, h => omega
  refine v_iconst (I := iX10_strideOf) (v := 0) dX10_strideOf_57 (by decide) ?_
  exact v_iret (I := iX10_strideOf) rfl dX10_strideOf_58 ⟨by first | (simp only [gStride, *, if_true, if_false]; done) | (unfold gStride; simp [*]; done) | grind [gStride], rfl, rfl⟩
set_option maxRecDepth 100000 in
set_option maxHeartbeats 4000000 in
theorem m_X10_paceOf {G : fGm} {σ : fSt} {τ : fLt} {x : Int32} {i : Nat} (hB : B (σ 88)) (hx : x = nI i) (hi : i < 8) : MS G iX10_paceOf 4 [.ref 87, .int x] σ τ (rT (some (.int (gPace (σ 88) i))) σ τ) := by
  refine ms_of (by decide +kernel) (Nat.le_of_ble_eq_true rfl) ?_
  show VW _ _ _ _ _ _ 0 [(0, _), (1, _)] []
  refine v_aload_n (I := iX10_paceOf) dX10_paceOf_0 rfl ?_
  refine v_iload_n (I := iX10_paceOf) dX10_paceOf_1 rfl ?_
  refine v_iconst (I := iX10_paceOf) (v := 0) dX10_paceOf_2 (by decide) ?_
  refine v_callVi (I := iX10_paceOf) (I' := iX10_goingOf) lk_X10_125 c_X10_goingOf dX10_paceOf_3 (m_X10_goingOf (f := 0) hx hi (by decide) (by decide)) rfl rfl (by decide) (ae_87 _ _) rfl (by decide) (by decide) (Nat.le_of_ble_eq_true rfl) ?_
  by_cases s6_1 : gK (σ 88) i = 1
  · refine v_tabIn (I := iX10_paceOf) (tgt := 40) (off := 34) (v := 1) dX10_paceOf_6 s6_1 (by decide) (by decide) (by decide) (by decide) ?_
    refine v_aload_n (I := iX10_paceOf) dX10_paceOf_40 rfl ?_
    refine v_callVi (I := iX10_paceOf) (I' := iX10_hasAtHand) lk_X10_132 c_X10_hasAtHand dX10_paceOf_41 (m_X10_hasAtHand hB) rfl rfl (by decide) (ae_87 _ _) rfl (by decide) (by decide) (Nat.le_of_ble_eq_true rfl) ?_
    refine v_if_eqB (I := iX10_paceOf) (tgt := 51) dX10_paceOf_44 (by decide) (fun c44 => ?_) (fun c44 => ?_)
    · refine v_iconst (I := iX10_paceOf) (v := 0) dX10_paceOf_51 (by decide) ?_
      exact v_iret (I := iX10_paceOf) rfl dX10_paceOf_52 ⟨by first | (simp only [gPace, *, if_true, if_false]; done) | (unfold gPace; simp [*]; done) | grind [gPace], rfl, rfl⟩
    · refine v_iconst (I := iX10_paceOf) (v := 4) dX10_paceOf_47 (by decide) ?_
      refine v_goto (I := iX10_paceOf) (tgt := 52) dX10_paceOf_48 (by decide) ?_
      exact v_iret (I := iX10_paceOf) rfl dX10_paceOf_52 ⟨by first | (simp only [gPace, *, if_true, if_false]; done) | (unfold gPace; simp [*]; done) | grind [gPace], rfl, rfl⟩
  by_cases s6_2 : gK (σ 88) i = 2
  · refine v_tabIn (I := iX10_paceOf) (tgt := 53) (off := 47) (v := 2) dX10_paceOf_6 s6_2 (by decide) (by decide) (by decide) (by decide) ?_
    refine v_aload_n (I := iX10_paceOf) dX10_paceOf_53 rfl ?_
    refine v_callVi (I := iX10_paceOf) (I' := iX10_hasAtHand) lk_X10_132 c_X10_hasAtHand dX10_paceOf_54 (m_X10_hasAtHand hB) rfl rfl (by decide) (ae_87 _ _) rfl (by decide) (by decide) (Nat.le_of_ble_eq_true rfl) ?_
    refine v_if_eqB (I := iX10_paceOf) (tgt := 64) dX10_paceOf_57 (by decide) (fun c57 => ?_) (fun c57 => ?_)
    · refine v_iconst (I := iX10_paceOf) (v := 3) dX10_paceOf_64 (by decide) ?_
      exact v_iret (I := iX10_paceOf) rfl dX10_paceOf_65 ⟨by first | (simp only [gPace, *, if_true, if_false]; done) | (unfold gPace; simp [*]; done) | grind [gPace], rfl, rfl⟩
    · refine v_iconst (I := iX10_paceOf) (v := 4) dX10_paceOf_60 (by decide) ?_
      refine v_goto (I := iX10_paceOf) (tgt := 65) dX10_paceOf_61 (by decide) ?_
      exact v_iret (I := iX10_paceOf) rfl dX10_paceOf_65 ⟨by first | (simp only [gPace, *, if_true, if_false]; done) | (unfold gPace; simp [*]; done) | grind [gPace], rfl, rfl⟩
  by_cases s6_3 : gK (σ 88) i = 3
  · refine v_tabIn (I := iX10_paceOf) (tgt := 66) (off := 60) (v := 3) dX10_paceOf_6 s6_3 (by decide) (by decide) (by decide) (by decide) ?_
    refine v_iconst (I := iX10_paceOf) (v := 3) dX10_paceOf_66 (by decide) ?_
    exact v_iret (I := iX10_paceOf) rfl dX10_paceOf_67 ⟨by first | (simp only [gPace, *, if_true, if_false]; done) | (unfold gPace; simp [*]; done) | grind [gPace], rfl, rfl⟩
  by_cases s6_4 : gK (σ 88) i = 4
  · refine v_tabIn (I := iX10_paceOf) (tgt := 66) (off := 60) (v := 4) dX10_paceOf_6 s6_4 (by decide) (by decide) (by decide) (by decide) ?_
    refine v_iconst (I := iX10_paceOf) (v := 3) dX10_paceOf_66 (by decide) ?_
    exact v_iret (I := iX10_paceOf) rfl dX10_paceOf_67 ⟨by first | (simp only [gPace, *, if_true, if_false]; done) | (unfold gPace; simp [*]; done) | grind [gPace], rfl, rfl⟩
  by_cases s6_5 : gK (σ 88) i = 5
  · refine v_tabIn (I := iX10_paceOf) (tgt := 66) (off := 60) (v := 5) dX10_paceOf_6 s6_5 (by decide) (by decide) (by decide) (by decide) ?_
    refine v_iconst (I := iX10_paceOf) (v := 3) dX10_paceOf_66 (by decide) ?_
    exact v_iret (I := iX10_paceOf) rfl dX10_paceOf_67 ⟨by first | (simp only [gPace, *, if_true, if_false]; done) | (unfold gPace; simp [*]; done) | grind [gPace], rfl, rfl⟩
  refine v_tabDef (I := iX10_paceOf) (tgt := 68) dX10_paceOf_6 (by decide) (fun off h1 h2 ho => ?_) (by decide) ?_
  · obtain ⟨j, hj, hjx⟩ := i32_rng (n := 5) h1 h2 (by decide)
    match j, hj with
    | 0, _ => exact absurd (hjx.trans (by decide)) s6_1
    | 1, _ => exact absurd (hjx.trans (by decide)) s6_2
    | 2, _ => exact absurd (hjx.trans (by decide)) s6_3
    | 3, _ => exact absurd (hjx.trans (by decide)) s6_4
    | 4, _ => exact absurd (hjx.trans (by decide)) s6_5
    | j + 5, h => omega
  refine v_iconst (I := iX10_paceOf) (v := 0) dX10_paceOf_68 (by decide) ?_
  exact v_iret (I := iX10_paceOf) rfl dX10_paceOf_69 ⟨by first | (simp only [gPace, *, if_true, if_false]; done) | (unfold gPace; simp [*]; done) | grind [gPace], rfl, rfl⟩
set_option maxRecDepth 100000 in
set_option maxHeartbeats 4000000 in
theorem m_X10_catchOf {G : fGm} {σ : fSt} {τ : fLt} {x : Int32} {i : Nat} (hB : B (σ 88)) (hx : x = nI i) (hi : i < 8) : MS G iX10_catchOf 4 [.ref 87, .int x] σ τ (rT (some (.int (gCatch (σ 88) i))) σ τ) := by
  refine ms_of (by decide +kernel) (Nat.le_of_ble_eq_true rfl) ?_
  show VW _ _ _ _ _ _ 0 [(0, _), (1, _)] []
  refine v_aload_n (I := iX10_catchOf) dX10_catchOf_0 rfl ?_
  refine v_get (I := iX10_catchOf) g_X10_9 dX10_catchOf_1 (by decide) (ae_87 _ _) rfl ?_
  refine v_iconst (I := iX10_catchOf) (v := 4) dX10_catchOf_4 (by decide) ?_
  refine v_ialdN (I := iX10_catchOf) (j := 4) (by decide) (by decide) (by decide) dX10_catchOf_5 (by decide) (ae_88 _ _) ?_
  refine v_aload_n (I := iX10_catchOf) dX10_catchOf_6 rfl ?_
  refine v_get (I := iX10_catchOf) g_X10_9 dX10_catchOf_7 (by decide) (ae_87 _ _) rfl ?_
  refine v_iconst (I := iX10_catchOf) (v := 5) dX10_catchOf_10 (by decide) ?_
  refine v_ialdN (I := iX10_catchOf) (j := 5) (by decide) (by decide) (by decide) dX10_catchOf_11 (by decide) (ae_88 _ _) ?_
  refine v_iconst (I := iX10_catchOf) (v := 4) dX10_catchOf_12 (by decide) ?_
  refine v_idiv (I := iX10_catchOf) dX10_catchOf_13 (by decide) ?_
  refine v_iadd (I := iX10_catchOf) dX10_catchOf_14 ?_
  refine v_aload_n (I := iX10_catchOf) dX10_catchOf_15 rfl ?_
  refine v_get (I := iX10_catchOf) g_X10_9 dX10_catchOf_16 (by decide) (ae_87 _ _) rfl ?_
  refine v_bipush (I := iX10_catchOf) (v := 6) dX10_catchOf_19 (by decide) ?_
  refine v_ialdN (I := iX10_catchOf) (j := 6) (by decide) (by decide) (by decide) dX10_catchOf_21 (by decide) (ae_88 _ _) ?_
  refine v_bipush (I := iX10_catchOf) (v := 100) dX10_catchOf_22 (by decide) ?_
  refine v_idiv (I := iX10_catchOf) dX10_catchOf_24 (by decide) ?_
  refine v_iadd (I := iX10_catchOf) dX10_catchOf_25 ?_
  refine v_istore_n (I := iX10_catchOf) (ls1 := [(2, _), (0, _), (1, _)]) dX10_catchOf_26 (by decide) rfl ?_
  refine v_aload_n (I := iX10_catchOf) dX10_catchOf_27 rfl ?_
  refine v_iload_n (I := iX10_catchOf) dX10_catchOf_28 rfl ?_
  refine v_iconst (I := iX10_catchOf) (v := 0) dX10_catchOf_29 (by decide) ?_
  refine v_callVi (I := iX10_catchOf) (I' := iX10_goingOf) lk_X10_125 c_X10_goingOf dX10_catchOf_30 (m_X10_goingOf (f := 0) hx hi (by decide) (by decide)) rfl rfl (by decide) (ae_87 _ _) rfl (by decide) (by decide) (Nat.le_of_ble_eq_true rfl) ?_
  by_cases s33_1 : gK (σ 88) i = 1
  · refine v_tabIn (I := iX10_catchOf) (tgt := 68) (off := 35) (v := 1) dX10_catchOf_33 s33_1 (by decide) (by decide) (by decide) (by decide) ?_
    refine v_iload_n (I := iX10_catchOf) dX10_catchOf_68 rfl ?_
    refine v_aload_n (I := iX10_catchOf) dX10_catchOf_69 rfl ?_
    refine v_callVi (I := iX10_catchOf) (I' := iX10_hasAtHand) lk_X10_132 c_X10_hasAtHand dX10_catchOf_70 (m_X10_hasAtHand hB) rfl rfl (by decide) (ae_87 _ _) rfl (by decide) (by decide) (Nat.le_of_ble_eq_true rfl) ?_
    refine v_if_eqB (I := iX10_catchOf) (tgt := 81) dX10_catchOf_73 (by decide) (fun c73 => ?_) (fun c73 => ?_)
    · refine v_iconst (I := iX10_catchOf) (v := 0) dX10_catchOf_81 (by decide) ?_
      refine v_iadd (I := iX10_catchOf) dX10_catchOf_82 ?_
      exact v_iret (I := iX10_catchOf) rfl dX10_catchOf_83 ⟨by first | (simp only [gCatch, gPlain, aI32, *, if_true, if_false]; done) | (unfold gCatch; simp [*]; done) | grind [gCatch, gPlain, aI32], rfl, rfl⟩
    · refine v_bipush (I := iX10_catchOf) (v := 20) dX10_catchOf_76 (by decide) ?_
      refine v_goto (I := iX10_catchOf) (tgt := 82) dX10_catchOf_78 (by decide) ?_
      refine v_iadd (I := iX10_catchOf) dX10_catchOf_82 ?_
      exact v_iret (I := iX10_catchOf) rfl dX10_catchOf_83 ⟨by first | (simp only [gCatch, gPlain, aI32, *, if_true, if_false]; done) | (unfold gCatch; simp [*]; done) | grind [gCatch, gPlain, aI32], rfl, rfl⟩
  by_cases s33_2 : gK (σ 88) i = 2
  · refine v_tabIn (I := iX10_catchOf) (tgt := 68) (off := 35) (v := 2) dX10_catchOf_33 s33_2 (by decide) (by decide) (by decide) (by decide) ?_
    refine v_iload_n (I := iX10_catchOf) dX10_catchOf_68 rfl ?_
    refine v_aload_n (I := iX10_catchOf) dX10_catchOf_69 rfl ?_
    refine v_callVi (I := iX10_catchOf) (I' := iX10_hasAtHand) lk_X10_132 c_X10_hasAtHand dX10_catchOf_70 (m_X10_hasAtHand hB) rfl rfl (by decide) (ae_87 _ _) rfl (by decide) (by decide) (Nat.le_of_ble_eq_true rfl) ?_
    refine v_if_eqB (I := iX10_catchOf) (tgt := 81) dX10_catchOf_73 (by decide) (fun c73 => ?_) (fun c73 => ?_)
    · refine v_iconst (I := iX10_catchOf) (v := 0) dX10_catchOf_81 (by decide) ?_
      refine v_iadd (I := iX10_catchOf) dX10_catchOf_82 ?_
      exact v_iret (I := iX10_catchOf) rfl dX10_catchOf_83 ⟨by first | (simp only [gCatch, gPlain, aI32, *, if_true, if_false]; done) | (unfold gCatch; simp [*]; done) | grind [gCatch, gPlain, aI32], rfl, rfl⟩
    · refine v_bipush (I := iX10_catchOf) (v := 20) dX10_catchOf_76 (by decide) ?_
      refine v_goto (I := iX10_catchOf) (tgt := 82) dX10_catchOf_78 (by decide) ?_
      refine v_iadd (I := iX10_catchOf) dX10_catchOf_82 ?_
      exact v_iret (I := iX10_catchOf) rfl dX10_catchOf_83 ⟨by first | (simp only [gCatch, gPlain, aI32, *, if_true, if_false]; done) | (unfold gCatch; simp [*]; done) | grind [gCatch, gPlain, aI32], rfl, rfl⟩
  by_cases s33_5 : gK (σ 88) i = 5
  · refine v_tabIn (I := iX10_catchOf) (tgt := 84) (off := 51) (v := 5) dX10_catchOf_33 s33_5 (by decide) (by decide) (by decide) (by decide) ?_
    refine v_iload_n (I := iX10_catchOf) dX10_catchOf_84 rfl ?_
    refine v_iconst (I := iX10_catchOf) (v := 2) dX10_catchOf_85 (by decide) ?_
    refine v_aload_n (I := iX10_catchOf) dX10_catchOf_86 rfl ?_
    refine v_callVi (I := iX10_catchOf) (I' := iX10_slope) lk_X10_140 c_X10_slope dX10_catchOf_87 (m_X10_slope hB) rfl rfl (by decide) (ae_87 _ _) rfl (by decide) (by decide) (Nat.le_of_ble_eq_true rfl) ?_
    refine v_abs (I := iX10_catchOf) lm_X10_107 dX10_catchOf_90 (by decide) (Nat.le_of_ble_eq_true rfl) ?_
    refine v_imul (I := iX10_catchOf) dX10_catchOf_93 ?_
    refine v_isub (I := iX10_catchOf) dX10_catchOf_94 ?_
    exact v_iret (I := iX10_catchOf) rfl dX10_catchOf_95 ⟨by first | (simp only [gCatch, gPlain, aI32, *, if_true, if_false]; done) | (unfold gCatch; simp [*]; done) | grind [gCatch, gPlain, aI32], rfl, rfl⟩
  refine v_tabDef (I := iX10_catchOf) (tgt := 96) dX10_catchOf_33 (by decide) (fun off h1 h2 ho => ?_) (by decide) ?_
  · obtain ⟨j, hj, hjx⟩ := i32_rng (n := 5) h1 h2 (by decide)
    match j, hj with
    | 0, _ => exact absurd (hjx.trans (by decide)) s33_1
    | 1, _ => exact absurd (hjx.trans (by decide)) s33_2
    | 2, _ => rw [hjx] at ho; exact Option.some.inj (ho.symm.trans (by decide))
    | 3, _ => rw [hjx] at ho; exact Option.some.inj (ho.symm.trans (by decide))
    | 4, _ => exact absurd (hjx.trans (by decide)) s33_5
    | j + 5, h => omega
  refine v_iload_n (I := iX10_catchOf) dX10_catchOf_96 rfl ?_
  exact v_iret (I := iX10_catchOf) rfl dX10_catchOf_97 ⟨by first | (simp only [gCatch, gPlain, aI32, *, if_true, if_false]; done) | (unfold gCatch; simp [*]; done) | grind [gCatch, gPlain, aI32], rfl, rfl⟩
