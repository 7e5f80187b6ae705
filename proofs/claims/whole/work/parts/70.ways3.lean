theorem cmp_p {r : Nat} (h : r < 2 ^ 34) : lg_cmp (lN r) 0 ≤ 0 ↔ r = 0 := by
  have h0 : r < 2 ^ 63 := Nat.lt_trans h (by decide)
  have e : (0 : Int64) < lN r ↔ 0 < r := pk_lLT (a := 0) (b := r) (by decide) h0
  have e2 : lN r = 0 ↔ r = 0 := pk_lEQ (a := r) (b := 0) h0 (by decide)
  unfold lg_cmp
  by_cases h1 : lN r > 0
  · rw [if_pos h1]
    have := e.mp h1
    exact ⟨fun h9 => absurd h9 (by decide), fun h9 => by omega⟩
  · rw [if_neg h1]
    have h2 : ¬ 0 < r := fun h9 => h1 (e.mpr h9)
    by_cases h3 : lN r = 0
    · rw [if_pos h3]; exact ⟨fun _ => e2.mp h3, fun _ => by decide⟩
    · exact absurd (e2.mpr (by omega)) h3
theorem up_eq {τ : fLt} {k j : Nat} {x : Int64} {T : Nat → Nat} {v n : Nat} (hT : ∀ i, i < n → τ k i = lN (T i)) (hx : x = lN v) : ∀ i, i < n → up2L τ k j x k i = lN (va_up T j v i) := by
  intro i hi
  unfold up2L
  rw [va_up_s]
  by_cases e : i = j
  · subst e; rw [va_up_s, va_up_s, hx]
  · rw [va_up_o _ _ e, va_up_o _ _ e]; exact hT i hi
theorem up_ne {τ : fLt} {k k' j i : Nat} {x : Int64} (h : k' ≠ k) : up2L τ k j x k' i = τ k' i := by rw [up2L_o h]
theorem up_sl {τ : fLt} {k j : Nat} {x : Int64} : up2L τ k j x k j = x := by unfold up2L; rw [va_up_s, va_up_s]
theorem up_nj {τ : fLt} {k j i : Nat} {x : Int64} (h : i ≠ j) : up2L τ k j x k i = τ k i := by unfold up2L; rw [va_up_s, va_up_o _ _ h]
set_option maxRecDepth 100000 in
set_option maxHeartbeats 8000000 in
theorem m_X10_divisor {G : fGm} {σ : fSt} {τ : fLt} : ∀ (m : Nat) {d r : Nat}, 0 < d → d < 2 ^ 34 → r ≤ d → d * r < 2 ^ m → MS G iX10_divisor m [.long (lN d), .long (lN r)] σ τ (rT (some (.long (lN (Nat.gcd d r)))) σ τ) := by
  intro m
  induction m with
  | zero =>
    intro d r hd0 hd34 hrd hm
    have hr0 : r = 0 := eu_0 hm hd0
    refine ms_of (by decide +kernel) (Nat.le_of_ble_eq_true rfl) ?_
    show VW _ _ _ _ _ _ 0 [(0, _), (2, _)] []
    refine v_lload_n (I := iX10_divisor) dX10_divisor_0 rfl ?_
    refine v_lconst (I := iX10_divisor) (v := 0) dX10_divisor_1 (by decide) ?_
    refine v_lcmp (I := iX10_divisor) dX10_divisor_2 ?_
    refine v_if_ne (I := iX10_divisor) (tgt := 10) dX10_divisor_3 (by decide) (fun c3 => ?_) (fun c3 => ?_)
    · exact absurd ((lN_z (by omega)).mpr hr0) c3
    · refine v_lload_n (I := iX10_divisor) dX10_divisor_6 rfl ?_
      refine v_goto (I := iX10_divisor) (tgt := 17) dX10_divisor_7 (by decide) ?_
      exact v_lret (I := iX10_divisor) rfl dX10_divisor_17 (by first | exact ⟨by rw [hr0, Nat.gcd_zero_right], rfl, rfl⟩ | exact ⟨by rw [eu_gcd], rfl, rfl⟩)
  | succ m ih =>
    intro d r hd0 hd34 hrd hm
    refine ms_of (by decide +kernel) (Nat.le_of_ble_eq_true rfl) ?_
    show VW _ _ _ _ _ _ 0 [(0, _), (2, _)] []
    refine v_lload_n (I := iX10_divisor) dX10_divisor_0 rfl ?_
    refine v_lconst (I := iX10_divisor) (v := 0) dX10_divisor_1 (by decide) ?_
    refine v_lcmp (I := iX10_divisor) dX10_divisor_2 ?_
    refine v_if_ne (I := iX10_divisor) (tgt := 10) dX10_divisor_3 (by decide) (fun c3 => ?_) (fun c3 => ?_)
    · have hrp : 0 < r := by
        rcases Nat.eq_zero_or_pos r with h9 | h9
        · exact absurd ((lN_z (by omega)).mpr h9) c3
        · exact h9
      have hh := eu_half hrp hrd hm
      refine v_lload_n (I := iX10_divisor) dX10_divisor_10 rfl ?_
      refine v_lload_n (I := iX10_divisor) dX10_divisor_11 rfl ?_
      refine v_lload_n (I := iX10_divisor) dX10_divisor_12 rfl ?_
      refine v_lrem (I := iX10_divisor) dX10_divisor_13 (fun h9 => c3 (cmp_z.mpr h9)) ?_
      rw [pk_lRem (by omega) hrp (by omega)]
      refine v_callSl (I := iX10_divisor) (I' := iX10_divisor) lk_X10_277 c_X10_divisor dX10_divisor_14 (ih hrp (by omega) hh.2 hh.1) rfl rfl (by omega) (by decide) (Nat.le_of_ble_eq_true rfl) ?_
      exact v_lret (I := iX10_divisor) rfl dX10_divisor_17 (by first | exact ⟨by rw [hr0, Nat.gcd_zero_right], rfl, rfl⟩ | exact ⟨by rw [eu_gcd], rfl, rfl⟩)
    · have hr0 : r = 0 := (lN_z (by omega)).mp c3
      refine v_lload_n (I := iX10_divisor) dX10_divisor_6 rfl ?_
      refine v_goto (I := iX10_divisor) (tgt := 17) dX10_divisor_7 (by decide) ?_
      exact v_lret (I := iX10_divisor) rfl dX10_divisor_17 (by first | exact ⟨by rw [hr0, Nat.gcd_zero_right], rfl, rfl⟩ | exact ⟨by rw [eu_gcd], rfl, rfl⟩)
def rgP (σ1 : fSt) (q : wQ) : Option Value → fSt → fLt → Prop := fun v' σ' τ' => v' = none ∧ σ' = σ1 ∧ τ' 87 18 = lN q.2.2.1 ∧ τ' 87 19 = lN q.2.2.2 ∧ ∀ j, j < 199 → τ' 98 j = lN (q.2.1 j)
theorem gWay_st {g : gS} (h : gIsStepI g (gNow g) = true) : gOne (va_up g 0 (gCellOn g (gNow g))) = gWay g := by unfold gWay; rw [if_pos h]
theorem gWay_no {g : gS} (h : ¬ gIsStepI g (gNow g) = true) : gOne g = gWay g := by unfold gWay; rw [if_neg h]
set_option maxRecDepth 100000 in
set_option maxHeartbeats 8000000 in
theorem m_X10_rowsGo {G : fGm} {σ : fSt} {τ : fLt} {R : Nat → Nat} {F A : Nat} (hI : IV (σ 88)) (h15 : 0 < σ 88 15) (hR : ∀ j, j < 199 → τ 98 j = lN (R j)) (hRb : ∀ j, j < 199 → R j < 2 ^ 34) (hF : τ 87 18 = lN F) (hA : τ 87 19 = lN A) : MS G iX10_rowsGo 6 [.ref 87] σ τ (rgP (va_up σ 88 (gWay (σ 88))) (wStep (σ 88, R, F, A))) := by
  refine ms_of (by decide +kernel) (Nat.le_of_ble_eq_true rfl) ?_
  show VW _ _ _ _ _ _ 0 [(0, _)] []
  have hnw := now_in hI h15
  obtain ⟨hs9, hsw⟩ := swN_in hI h15
  generalize hsN : gSwN (σ 88) = s at hs9 hsw
  have hW : wP (σ 88) R 199 = (wAll (gSlope (σ 88)) (gBy (σ 88) (gNow (σ 88))) (gIsStepI (σ 88) (gNow (σ 88))) s R 199) := by unfold wP; rw [hsN]
  have hWT : (wStep (σ 88, R, F, A)).2.1 = (wAll (gSlope (σ 88)) (gBy (σ 88) (gNow (σ 88))) (gIsStepI (σ 88) (gNow (σ 88))) s R 199).1 := by rw [← hW]; rfl
  have hWF : (wStep (σ 88, R, F, A)).2.2.1 = F * (2 * s + 1) + (wAll (gSlope (σ 88)) (gBy (σ 88) (gNow (σ 88))) (gIsStepI (σ 88) (gNow (σ 88))) s R 199).2 := by rw [← hW, ← hsN]; rfl
  have hWA : (wStep (σ 88, R, F, A)).2.2.2 = A * (2 * s + 1) := by rw [← hsN]; rfl
  have key3 : ∀ (m k : Nat) {τ9 : fLt} {y : Int32}, k + m = 199 → (∀ j, j < k → τ9 98 j = lN ((wAll (gSlope (σ 88)) (gBy (σ 88) (gNow (σ 88))) (gIsStepI (σ 88) (gNow (σ 88))) s R 199).1 j)) → (∀ j, j < 199 → τ9 99 j = lN ((wAll (gSlope (σ 88)) (gBy (σ 88) (gNow (σ 88))) (gIsStepI (σ 88) (gNow (σ 88))) s R 199).1 j)) → τ9 87 18 = lN (F * (2 * s + 1) + (wAll (gSlope (σ 88)) (gBy (σ 88) (gNow (σ 88))) (gIsStepI (σ 88) (gNow (σ 88))) s R 199).2) → τ9 87 19 = lN (A * (2 * s + 1)) → y = nI k → VW G iX10_rowsGo (rgP (va_up σ 88 (gWay (σ 88))) (wStep (σ 88, R, F, A))) 6 σ τ9 234 [(5, .int y), (4, .int (gBy (σ 88) (gNow (σ 88)))), (3, .int (if gIsStepI (σ 88) (gNow (σ 88)) = true then 1 else 0)), (2, .int (nI s)), (1, .int (nI (gNow (σ 88)))), (0, .ref 87)] [] := by
    intro m
    induction m with
    | zero =>
      intro k τ9 y hin hRT hT9 hF9 hA9 hy
      have hin0 : k = 199 := hin
      subst hy
      show VW _ _ _ _ _ _ 234 [(5, _), (4, _), (3, _), (2, _), (1, _), (0, _)] []
      refine v_iload (I := iX10_rowsGo) dX10_rowsGo_234 rfl ?_
      refine v_aload_n (I := iX10_rowsGo) dX10_rowsGo_236 rfl ?_
      refine v_get (I := iX10_rowsGo) g_X10_47 dX10_rowsGo_237 (by decide) (ae_87 _ _) rfl ?_
      refine v_alenJ (I := iX10_rowsGo) dX10_rowsGo_240 (by decide) (ae_98 _ _) ?_
      refine v_icmp_ge (I := iX10_rowsGo) (tgt := 264) dX10_rowsGo_241 (by decide) (fun c241 => ?_) (fun c241 => ?_)
      · refine v_iload_n (I := iX10_rowsGo) dX10_rowsGo_264 rfl ?_
        refine v_if_eqB (I := iX10_rowsGo) (tgt := 275) dX10_rowsGo_265 (by decide) (fun c265 => ?_) (fun c265 => ?_)
        · have hst := c265
          refine v_aload_n (I := iX10_rowsGo) dX10_rowsGo_275 rfl ?_
          refine v_callVv (I := iX10_rowsGo) (I' := iX10_oneLess) lk_X10_254 c_X10_oneLess dX10_rowsGo_276 (m_X10_oneLess hI.1 h15 (hnw.2.2)) rfl rfl (by decide) (ae_87 _ _) rfl (by decide) (by decide) (Nat.le_of_ble_eq_true rfl) ?_
          exact v_vret (I := iX10_rowsGo) rfl dX10_rowsGo_279 ⟨rfl, by rw [gWay_no hst], by rw [hF9, hWF], by rw [hA9, hWA], fun j hj => by rw [hRT j (by omega), hWT]⟩
        · have hst := c265
          refine v_aload_n (I := iX10_rowsGo) dX10_rowsGo_268 rfl ?_
          refine v_iload_n (I := iX10_rowsGo) dX10_rowsGo_269 rfl ?_
          refine v_callVi (I := iX10_rowsGo) (I' := iX10_goesOn) lk_X10_248 c_X10_goesOn dX10_rowsGo_270 (m_X10_goesOn hI.1 rfl hnw.1) rfl rfl (by decide) (ae_87 _ _) rfl (by decide) (by decide) (Nat.le_of_ble_eq_true rfl) ?_
          refine v_istore (I := iX10_rowsGo) (ls1 := [(5, _), (4, _), (3, _), (2, _), (1, _), (0, _)]) dX10_rowsGo_273 (by decide) rfl ?_
          refine v_aload_n (I := iX10_rowsGo) dX10_rowsGo_275 rfl ?_
          refine v_callVv (I := iX10_rowsGo) (I' := iX10_oneLess) lk_X10_254 c_X10_oneLess dX10_rowsGo_276 (m_X10_oneLess (by rw [va_up_s]; exact (IV_up hI ⟨by decide, by decide, by decide, by decide, fun j hj => by omega⟩ ⟨by have h1 := gCellOn_in (i := gNow (σ 88)) hI.1; have h2 : (0 : Int32) ≤ σ 88 0 := (hI.1 0 (by decide)).1; show (0 : Int32) ≤ _; grind, (gCellOn_in hI.1).2⟩).1) (by rw [va_up_s, va_up_o _ _ (by decide)]; exact h15) (by rw [va_up_s, va_up_o _ _ (by decide), va_up_o _ _ (by decide)]; exact hnw.2.2)) rfl rfl (by decide) (ae_87 _ _) rfl (by decide) (by decide) (Nat.le_of_ble_eq_true rfl) ?_
          exact v_vret (I := iX10_rowsGo) rfl dX10_rowsGo_279 ⟨rfl, by rw [va_up_s, va_va, gWay_st hst], by rw [hF9, hWF], by rw [hA9, hWA], fun j hj => by rw [hRT j (by omega), hWT]⟩
      · exact absurd (by rw [hin0]; exact Int32.le_refl _) c241
    | succ m ih =>
      intro k τ9 y hin hRT hT9 hF9 hA9 hy
      subst hy
      show VW _ _ _ _ _ _ 234 [(5, _), (4, _), (3, _), (2, _), (1, _), (0, _)] []
      refine v_iload (I := iX10_rowsGo) dX10_rowsGo_234 rfl ?_
      refine v_aload_n (I := iX10_rowsGo) dX10_rowsGo_236 rfl ?_
      refine v_get (I := iX10_rowsGo) g_X10_47 dX10_rowsGo_237 (by decide) (ae_87 _ _) rfl ?_
      refine v_alenJ (I := iX10_rowsGo) dX10_rowsGo_240 (by decide) (ae_98 _ _) ?_
      refine v_icmp_ge (I := iX10_rowsGo) (tgt := 264) dX10_rowsGo_241 (by decide) (fun c241 => ?_) (fun c241 => ?_)
      · exact absurd c241 (by exact nI_ge (by omega) (by omega))
      · refine v_aload_n (I := iX10_rowsGo) dX10_rowsGo_244 rfl ?_
        refine v_get (I := iX10_rowsGo) g_X10_47 dX10_rowsGo_245 (by decide) (ae_87 _ _) rfl ?_
        refine v_iload (I := iX10_rowsGo) dX10_rowsGo_248 rfl ?_
        refine v_aload_n (I := iX10_rowsGo) dX10_rowsGo_250 rfl ?_
        refine v_get (I := iX10_rowsGo) g_X10_51 dX10_rowsGo_251 (by decide) (ae_87 _ _) rfl ?_
        refine v_iload (I := iX10_rowsGo) dX10_rowsGo_254 rfl ?_
        refine v_laldN (I := iX10_rowsGo) (j := k) rfl (by omega) (by decide) dX10_rowsGo_256 (by decide) (ae_99 _ _) ?_
        refine v_lastN (I := iX10_rowsGo) (j := k) rfl (by omega) (by decide) dX10_rowsGo_257 (by decide) (fun _ => ae_98 _ _) ?_
        refine v_iinc (I := iX10_rowsGo) (ls1 := [(5, _), (4, _), (3, _), (2, _), (1, _), (0, _)]) dX10_rowsGo_258 rfl rfl (by decide) rfl ?_
        refine v_goto (I := iX10_rowsGo) (tgt := 234) dX10_rowsGo_261 (by decide) ?_
        exact ih (k + 1) (by omega) (fun j hj => by
          by_cases e : j = k
          · subst e; rw [up_sl]; exact hT9 j (by omega)
          · rw [up_nj e]; exact hRT j (by omega)) (fun j hj => by rw [up_ne (by decide)]; exact hT9 j hj) (by rw [up_ne (by decide)]; exact hF9) (by rw [up_ne (by decide)]; exact hA9) (nI_1 k)
  have key2 : ∀ (m k : Nat) {τ9 : fLt} {y : Int32}, k + m = 199 → (∀ j, j < 199 → τ9 98 j = lN (R j)) → (∀ j, j < 199 → τ9 99 j = lN ((wAll (gSlope (σ 88)) (gBy (σ 88) (gNow (σ 88))) (gIsStepI (σ 88) (gNow (σ 88))) s R k).1 j)) → τ9 87 18 = lN (F * (2 * s + 1) + (wAll (gSlope (σ 88)) (gBy (σ 88) (gNow (σ 88))) (gIsStepI (σ 88) (gNow (σ 88))) s R k).2) → τ9 87 19 = lN (A * (2 * s + 1)) → y = nI k → VW G iX10_rowsGo (rgP (va_up σ 88 (gWay (σ 88))) (wStep (σ 88, R, F, A))) 6 σ τ9 98 [(5, .int y), (4, .int (gBy (σ 88) (gNow (σ 88)))), (3, .int (if gIsStepI (σ 88) (gNow (σ 88)) = true then 1 else 0)), (2, .int (nI s)), (1, .int (nI (gNow (σ 88)))), (0, .ref 87)] [] := by
    intro m
    induction m with
    | zero =>
      intro k τ9 y hin hR9 hT9 hF9 hA9 hy
      have hin0 : k = 199 := hin
      subst hy
      show VW _ _ _ _ _ _ 98 [(5, _), (4, _), (3, _), (2, _), (1, _), (0, _)] []
      refine v_iload (I := iX10_rowsGo) dX10_rowsGo_98 rfl ?_
      refine v_aload_n (I := iX10_rowsGo) dX10_rowsGo_100 rfl ?_
      refine v_get (I := iX10_rowsGo) g_X10_47 dX10_rowsGo_101 (by decide) (ae_87 _ _) rfl ?_
      refine v_alenJ (I := iX10_rowsGo) dX10_rowsGo_104 (by decide) (ae_98 _ _) ?_
      refine v_icmp_ge (I := iX10_rowsGo) (tgt := 231) dX10_rowsGo_105 (by decide) (fun c105 => ?_) (fun c105 => ?_)
      · refine v_iconst (I := iX10_rowsGo) (v := 0) dX10_rowsGo_231 (by decide) ?_
        refine v_istore (I := iX10_rowsGo) (ls1 := [(5, _), (4, _), (3, _), (2, _), (1, _), (0, _)]) dX10_rowsGo_232 (by decide) rfl ?_
        subst hin0
        exact key3 199 0 rfl (fun j hj => by omega) hT9 hF9 hA9 rfl
      · exact absurd (by rw [hin0]; exact Int32.le_refl _) c105
    | succ m ih =>
      intro k τ9 y hin hR9 hT9 hF9 hA9 hy
      subst hy
      show VW _ _ _ _ _ _ 98 [(5, _), (4, _), (3, _), (2, _), (1, _), (0, _)] []
      refine v_iload (I := iX10_rowsGo) dX10_rowsGo_98 rfl ?_
      refine v_aload_n (I := iX10_rowsGo) dX10_rowsGo_100 rfl ?_
      refine v_get (I := iX10_rowsGo) g_X10_47 dX10_rowsGo_101 (by decide) (ae_87 _ _) rfl ?_
      refine v_alenJ (I := iX10_rowsGo) dX10_rowsGo_104 (by decide) (ae_98 _ _) ?_
      refine v_icmp_ge (I := iX10_rowsGo) (tgt := 231) dX10_rowsGo_105 (by decide) (fun c105 => ?_) (fun c105 => ?_)
      · exact absurd c105 (by exact nI_ge (by omega) (by omega))
      · by_cases hr0 : R k = 0
        · have hw0 : wAll (gSlope (σ 88)) (gBy (σ 88) (gNow (σ 88))) (gIsStepI (σ 88) (gNow (σ 88))) s R (k + 1) = wAll (gSlope (σ 88)) (gBy (σ 88) (gNow (σ 88))) (gIsStepI (σ 88) (gNow (σ 88))) s R k := by
            show (if R k = 0 then _ else _) = _
            rw [if_pos hr0]
          refine v_iload_n (I := iX10_rowsGo) dX10_rowsGo_108 rfl ?_
          refine v_ineg (I := iX10_rowsGo) dX10_rowsGo_109 ?_
          refine v_istore (I := iX10_rowsGo) (ls1 := [(6, _), (5, _), (4, _), (3, _), (2, _), (1, _), (0, _)]) dX10_rowsGo_110 (by decide) rfl ?_
          refine v_iload (I := iX10_rowsGo) dX10_rowsGo_112 rfl ?_
          refine v_iload_n (I := iX10_rowsGo) dX10_rowsGo_114 rfl ?_
          refine v_icmp_gt (I := iX10_rowsGo) (tgt := 225) dX10_rowsGo_115 (by decide) (fun c115 => ?_) (fun c115 => ?_)
          · refine v_iinc (I := iX10_rowsGo) (ls1 := [(5, _), (6, _), (4, _), (3, _), (2, _), (1, _), (0, _)]) dX10_rowsGo_225 rfl rfl (by decide) rfl ?_
            refine v_goto (I := iX10_rowsGo) (tgt := 98) dX10_rowsGo_228 (by decide) ?_
            refine v_pick (I := iX10_rowsGo) (ls1 := [(5, _), (4, _), (3, _), (2, _), (1, _), (0, _)]) [0, 2, 3, 4, 5, 6] rfl ?_
            exact ih (k + 1) (by omega) hR9 (by rw [hw0]; exact hT9) (by rw [hw0]; exact hF9) hA9 (nI_1 k)
          · refine v_aload_n (I := iX10_rowsGo) dX10_rowsGo_118 rfl ?_
            refine v_get (I := iX10_rowsGo) g_X10_47 dX10_rowsGo_119 (by decide) (ae_87 _ _) rfl ?_
            refine v_iload (I := iX10_rowsGo) dX10_rowsGo_122 rfl ?_
            refine v_laldN (I := iX10_rowsGo) (j := k) rfl (by omega) (by decide) dX10_rowsGo_124 (by decide) (ae_98 _ _) ?_
            rw [hR9 k (by omega)]
            refine v_lconst (I := iX10_rowsGo) (v := 0) dX10_rowsGo_125 (by decide) ?_
            refine v_lcmp (I := iX10_rowsGo) dX10_rowsGo_126 ?_
            refine v_if_le (I := iX10_rowsGo) (tgt := 225) dX10_rowsGo_127 (by decide) (fun c127 => ?_) (fun c127 => ?_)
            · refine v_iinc (I := iX10_rowsGo) (ls1 := [(5, _), (6, _), (4, _), (3, _), (2, _), (1, _), (0, _)]) dX10_rowsGo_225 rfl rfl (by decide) rfl ?_
              refine v_goto (I := iX10_rowsGo) (tgt := 98) dX10_rowsGo_228 (by decide) ?_
              refine v_pick (I := iX10_rowsGo) (ls1 := [(5, _), (4, _), (3, _), (2, _), (1, _), (0, _)]) [0, 2, 3, 4, 5, 6] rfl ?_
              exact ih (k + 1) (by omega) hR9 (by rw [hw0]; exact hT9) (by rw [hw0]; exact hF9) hA9 (nI_1 k)
            · exact absurd ((cmp_p (hRb k (by omega))).mpr hr0) c127
        have hw1 : wRow (gSlope (σ 88)) (gBy (σ 88) (gNow (σ 88))) (gIsStepI (σ 88) (gNow (σ 88))) s (R k) k (2 * s + 1) (wAll (gSlope (σ 88)) (gBy (σ 88) (gNow (σ 88))) (gIsStepI (σ 88) (gNow (σ 88))) s R k) = wAll (gSlope (σ 88)) (gBy (σ 88) (gNow (σ 88))) (gIsStepI (σ 88) (gNow (σ 88))) s R (k + 1) := by
          show _ = (if R k = 0 then _ else _)
          rw [if_neg hr0]
        have key1 : ∀ (m2 e : Nat) {τ9 : fLt} {dv : Int32}, e + m2 = 2 * s + 1 → dv = nI e - nI s → (∀ j, j < 199 → τ9 98 j = lN (R j)) → (∀ j, j < 199 → τ9 99 j = lN ((wRow (gSlope (σ 88)) (gBy (σ 88) (gNow (σ 88))) (gIsStepI (σ 88) (gNow (σ 88))) s (R k) k (e) (wAll (gSlope (σ 88)) (gBy (σ 88) (gNow (σ 88))) (gIsStepI (σ 88) (gNow (σ 88))) s R k)).1 j)) → τ9 87 18 = lN (F * (2 * s + 1) + (wRow (gSlope (σ 88)) (gBy (σ 88) (gNow (σ 88))) (gIsStepI (σ 88) (gNow (σ 88))) s (R k) k (e) (wAll (gSlope (σ 88)) (gBy (σ 88) (gNow (σ 88))) (gIsStepI (σ 88) (gNow (σ 88))) s R k)).2) → τ9 87 19 = lN (A * (2 * s + 1)) → VW G iX10_rowsGo (rgP (va_up σ 88 (gWay (σ 88))) (wStep (σ 88, R, F, A))) 6 σ τ9 112 [(6, .int dv), (5, .int (nI k)), (4, .int (gBy (σ 88) (gNow (σ 88)))), (3, .int (if gIsStepI (σ 88) (gNow (σ 88)) = true then 1 else 0)), (2, .int (nI s)), (1, .int (nI (gNow (σ 88)))), (0, .ref 87)] [] := by
          intro m2
          induction m2 with
          | zero =>
            intro e τ9 dv he hd hR9 hT9 hF9 hA9
            have he0 : e = 2 * s + 1 := he
            subst hd he0
            show VW _ _ _ _ _ _ 112 [(6, _), (5, _), (4, _), (3, _), (2, _), (1, _), (0, _)] []
            refine v_iload (I := iX10_rowsGo) dX10_rowsGo_112 rfl ?_
            refine v_iload_n (I := iX10_rowsGo) dX10_rowsGo_114 rfl ?_
            refine v_icmp_gt (I := iX10_rowsGo) (tgt := 225) dX10_rowsGo_115 (by decide) (fun c115 => ?_) (fun c115 => ?_)
            · refine v_iinc (I := iX10_rowsGo) (ls1 := [(5, _), (6, _), (4, _), (3, _), (2, _), (1, _), (0, _)]) dX10_rowsGo_225 rfl rfl (by decide) rfl ?_
              refine v_goto (I := iX10_rowsGo) (tgt := 98) dX10_rowsGo_228 (by decide) ?_
              refine v_pick (I := iX10_rowsGo) (ls1 := [(5, _), (4, _), (3, _), (2, _), (1, _), (0, _)]) [0, 2, 3, 4, 5, 6] rfl ?_
              exact ih (k + 1) (by omega) hR9 (by rw [← hw1]; exact hT9) (by rw [← hw1]; exact hF9) hA9 (nI_1 k)
            · exact absurd ((nd_le s (by omega) (2 * s + 1) (by omega)).mpr (by omega)) c115
          | succ m2 ih2 =>
            intro e τ9 dv he hd hR9 hT9 hF9 hA9
            subst hd
            show VW _ _ _ _ _ _ 112 [(6, _), (5, _), (4, _), (3, _), (2, _), (1, _), (0, _)] []
            refine v_iload (I := iX10_rowsGo) dX10_rowsGo_112 rfl ?_
            refine v_iload_n (I := iX10_rowsGo) dX10_rowsGo_114 rfl ?_
            refine v_icmp_gt (I := iX10_rowsGo) (tgt := 225) dX10_rowsGo_115 (by decide) (fun c115 => ?_) (fun c115 => ?_)
            · exact absurd ((nd_le s (by omega) e (by omega)).mp c115) (by omega)
            · refine v_aload_n (I := iX10_rowsGo) dX10_rowsGo_118 rfl ?_
              refine v_get (I := iX10_rowsGo) g_X10_47 dX10_rowsGo_119 (by decide) (ae_87 _ _) rfl ?_
              refine v_iload (I := iX10_rowsGo) dX10_rowsGo_122 rfl ?_
              refine v_laldN (I := iX10_rowsGo) (j := k) rfl (by omega) (by decide) dX10_rowsGo_124 (by decide) (ae_98 _ _) ?_
              rw [hR9 k (by omega)]
              refine v_lconst (I := iX10_rowsGo) (v := 0) dX10_rowsGo_125 (by decide) ?_
              refine v_lcmp (I := iX10_rowsGo) dX10_rowsGo_126 ?_
              refine v_if_le (I := iX10_rowsGo) (tgt := 225) dX10_rowsGo_127 (by decide) (fun c127 => ?_) (fun c127 => ?_)
              · exact absurd ((cmp_p (hRb k (by omega))).mp c127) hr0
              · refine v_iload (I := iX10_rowsGo) dX10_rowsGo_130 rfl ?_
                refine v_bipush (I := iX10_rowsGo) (v := 99) dX10_rowsGo_132 (by decide) ?_
                refine v_isub (I := iX10_rowsGo) dX10_rowsGo_134 ?_
                refine v_istore (I := iX10_rowsGo) (ls1 := [(7, _), (6, _), (5, _), (4, _), (3, _), (2, _), (1, _), (0, _)]) dX10_rowsGo_135 (by decide) rfl ?_
                refine v_iload (I := iX10_rowsGo) dX10_rowsGo_137 rfl ?_
                refine v_iload (I := iX10_rowsGo) dX10_rowsGo_139 rfl ?_
                refine v_iconst (I := iX10_rowsGo) (v := 5) dX10_rowsGo_141 (by decide) ?_
                refine v_idiv (I := iX10_rowsGo) dX10_rowsGo_142 (by decide) ?_
                refine v_iadd (I := iX10_rowsGo) dX10_rowsGo_143 ?_
                refine v_iload (I := iX10_rowsGo) dX10_rowsGo_144 rfl ?_
                refine v_iadd (I := iX10_rowsGo) dX10_rowsGo_146 ?_
                refine v_aload_n (I := iX10_rowsGo) dX10_rowsGo_147 rfl ?_
                refine v_callVi (I := iX10_rowsGo) (I' := iX10_slope) lk_X10_140 c_X10_slope dX10_rowsGo_148 (m_X10_slope hI.1) rfl rfl (by decide) (ae_87 _ _) rfl (by decide) (by decide) (Nat.le_of_ble_eq_true rfl) ?_
                refine v_iadd (I := iX10_rowsGo) dX10_rowsGo_151 ?_
                rw [show nI k - 99 + (nI k - 99) / 5 + (nI e - nI s) + gSlope (σ 88) = wLean (gSlope (σ 88)) s k e from rfl]
                refine v_istore (I := iX10_rowsGo) (ls1 := [(8, _), (7, _), (6, _), (5, _), (4, _), (3, _), (2, _), (1, _), (0, _)]) dX10_rowsGo_152 (by decide) rfl ?_
                refine v_iload (I := iX10_rowsGo) dX10_rowsGo_154 rfl ?_
                refine v_bipush (I := iX10_rowsGo) (v := -99) dX10_rowsGo_156 (by decide) ?_
                refine v_bipush (I := iX10_rowsGo) (v := 99) dX10_rowsGo_158 (by decide) ?_
                refine v_callSi (I := iX10_rowsGo) (I' := iX10_within) lk_X10_79 c_X10_within dX10_rowsGo_160 (m_X10_within) rfl rfl (by decide) (by decide) (Nat.le_of_ble_eq_true rfl) ?_
                refine v_if_eqB (I := iX10_rowsGo) (tgt := 203) dX10_rowsGo_163 (by decide) (fun c163 => ?_) (fun c163 => ?_)
                · have hE : wRow (gSlope (σ 88)) (gBy (σ 88) (gNow (σ 88))) (gIsStepI (σ 88) (gNow (σ 88))) s (R k) k (e + 1) (wAll (gSlope (σ 88)) (gBy (σ 88) (gNow (σ 88))) (gIsStepI (σ 88) (gNow (σ 88))) s R k) = ((wRow (gSlope (σ 88)) (gBy (σ 88) (gNow (σ 88))) (gIsStepI (σ 88) (gNow (σ 88))) s (R k) k (e) (wAll (gSlope (σ 88)) (gBy (σ 88) (gNow (σ 88))) (gIsStepI (σ 88) (gNow (σ 88))) s R k)).1, (wRow (gSlope (σ 88)) (gBy (σ 88) (gNow (σ 88))) (gIsStepI (σ 88) (gNow (σ 88))) s (R k) k (e) (wAll (gSlope (σ 88)) (gBy (σ 88) (gNow (σ 88))) (gIsStepI (σ 88) (gNow (σ 88))) s R k)).2 + R k) := by
                    show wOne _ _ _ _ _ _ _ _ = _
                    unfold wOne
                    rw [if_neg c163]
                  refine v_aload_n (I := iX10_rowsGo) dX10_rowsGo_203 rfl ?_
                  refine v_dup (I := iX10_rowsGo) dX10_rowsGo_204 rfl ?_
                  refine v_get (I := iX10_rowsGo) g_X10_270 dX10_rowsGo_205 (by decide) (ae_87 _ _) rfl ?_
                  rw [hF9]
                  refine v_aload_n (I := iX10_rowsGo) dX10_rowsGo_208 rfl ?_
                  refine v_get (I := iX10_rowsGo) g_X10_47 dX10_rowsGo_209 (by decide) (ae_87 _ _) rfl ?_
                  refine v_iload (I := iX10_rowsGo) dX10_rowsGo_212 rfl ?_
                  refine v_laldN (I := iX10_rowsGo) (j := k) rfl (by omega) (by decide) dX10_rowsGo_214 (by decide) (ae_98 _ _) ?_
                  rw [hR9 k (by omega)]
                  refine v_ladd (I := iX10_rowsGo) dX10_rowsGo_215 ?_
                  rw [lN_add]
                  refine v_putJ (I := iX10_rowsGo) p_X10_270 dX10_rowsGo_216 (by decide) (ae_87 _ _) (ae_87 _ _) (by simp) ?_
                  refine v_iinc (I := iX10_rowsGo) (ls1 := [(6, _), (8, _), (7, _), (5, _), (4, _), (3, _), (2, _), (1, _), (0, _)]) dX10_rowsGo_219 rfl rfl (by decide) rfl ?_
                  refine v_goto (I := iX10_rowsGo) (tgt := 112) dX10_rowsGo_222 (by decide) ?_
                  refine v_pick (I := iX10_rowsGo) (ls1 := [(6, _), (5, _), (4, _), (3, _), (2, _), (1, _), (0, _)]) [0, 3, 4, 5, 6, 7, 8] rfl ?_
                  exact ih2 (e + 1) (by omega) nd_1 (fun i hi => by rw [up_ne (by decide)]; exact hR9 i hi) (fun i hi => by rw [hE, up_ne (by decide)]; exact hT9 i hi) (by rw [hE, up_sl, Nat.add_assoc]) (by rw [up_nj (by decide)]; exact hA9)
                · obtain ⟨j, hj, e1, e2, e3⟩ := wTo_ix (st := gIsStepI (σ 88) (gNow (σ 88))) (gBy_in (σ 88) (gNow (σ 88))) c163
                  have hE : wRow (gSlope (σ 88)) (gBy (σ 88) (gNow (σ 88))) (gIsStepI (σ 88) (gNow (σ 88))) s (R k) k (e + 1) (wAll (gSlope (σ 88)) (gBy (σ 88) (gNow (σ 88))) (gIsStepI (σ 88) (gNow (σ 88))) s R k) = (va_up (wRow (gSlope (σ 88)) (gBy (σ 88) (gNow (σ 88))) (gIsStepI (σ 88) (gNow (σ 88))) s (R k) k (e) (wAll (gSlope (σ 88)) (gBy (σ 88) (gNow (σ 88))) (gIsStepI (σ 88) (gNow (σ 88))) s R k)).1 j ((wRow (gSlope (σ 88)) (gBy (σ 88) (gNow (σ 88))) (gIsStepI (σ 88) (gNow (σ 88))) s (R k) k (e) (wAll (gSlope (σ 88)) (gBy (σ 88) (gNow (σ 88))) (gIsStepI (σ 88) (gNow (σ 88))) s R k)).1 j + R k), (wRow (gSlope (σ 88)) (gBy (σ 88) (gNow (σ 88))) (gIsStepI (σ 88) (gNow (σ 88))) s (R k) k (e) (wAll (gSlope (σ 88)) (gBy (σ 88) (gNow (σ 88))) (gIsStepI (σ 88) (gNow (σ 88))) s R k)).2) := by
                    show wOne _ _ _ _ _ _ _ _ = _
                    unfold wOne
                    rw [if_pos c163, e2]
                  refine v_aload_n (I := iX10_rowsGo) dX10_rowsGo_166 rfl ?_
                  refine v_get (I := iX10_rowsGo) g_X10_51 dX10_rowsGo_167 (by decide) (ae_87 _ _) rfl ?_
                  refine v_bipush (I := iX10_rowsGo) (v := 99) dX10_rowsGo_170 (by decide) ?_
                  refine v_iload_n (I := iX10_rowsGo) dX10_rowsGo_172 rfl ?_
                  refine v_if_eqB (I := iX10_rowsGo) (tgt := 186) dX10_rowsGo_173 (by decide) (fun c173 => ?_) (fun c173 => ?_)
                  · refine v_iload (I := iX10_rowsGo) dX10_rowsGo_186 rfl ?_
                    rw [show wLean (gSlope (σ 88)) s k e = wTo (gIsStepI (σ 88) (gNow (σ 88))) (gBy (σ 88) (gNow (σ 88))) (wLean (gSlope (σ 88)) s k e) from (by unfold wTo; rw [if_neg c173])]
                    refine v_iadd (I := iX10_rowsGo) dX10_rowsGo_188 ?_
                    rw [e3]
                    refine v_dup2_11 (I := iX10_rowsGo) dX10_rowsGo_189 rfl rfl ?_
                    refine v_laldN (I := iX10_rowsGo) (j := j) rfl hj (by decide) dX10_rowsGo_190 (by decide) (ae_99 _ _) ?_
                    rw [hT9 j hj]
                    refine v_aload_n (I := iX10_rowsGo) dX10_rowsGo_191 rfl ?_
                    refine v_get (I := iX10_rowsGo) g_X10_47 dX10_rowsGo_192 (by decide) (ae_87 _ _) rfl ?_
                    refine v_iload (I := iX10_rowsGo) dX10_rowsGo_195 rfl ?_
                    refine v_laldN (I := iX10_rowsGo) (j := k) rfl (by omega) (by decide) dX10_rowsGo_197 (by decide) (ae_98 _ _) ?_
                    rw [hR9 k (by omega)]
                    refine v_ladd (I := iX10_rowsGo) dX10_rowsGo_198 ?_
                    rw [lN_add]
                    refine v_lastN (I := iX10_rowsGo) (j := j) rfl hj (by decide) dX10_rowsGo_199 (by decide) (fun _ => ae_99 _ _) ?_
                    refine v_goto (I := iX10_rowsGo) (tgt := 219) dX10_rowsGo_200 (by decide) ?_
                    refine v_iinc (I := iX10_rowsGo) (ls1 := [(6, _), (8, _), (7, _), (5, _), (4, _), (3, _), (2, _), (1, _), (0, _)]) dX10_rowsGo_219 rfl rfl (by decide) rfl ?_
                    refine v_goto (I := iX10_rowsGo) (tgt := 112) dX10_rowsGo_222 (by decide) ?_
                    refine v_pick (I := iX10_rowsGo) (ls1 := [(6, _), (5, _), (4, _), (3, _), (2, _), (1, _), (0, _)]) [0, 3, 4, 5, 6, 7, 8] rfl ?_
                    exact ih2 (e + 1) (by omega) nd_1 (fun i hi => by rw [up_ne (by decide)]; exact hR9 i hi) (by rw [hE]; exact up_eq hT9 rfl) (by rw [hE, up_ne (by decide)]; exact hF9) (by rw [up_ne (by decide)]; exact hA9)
                  · refine v_iload (I := iX10_rowsGo) dX10_rowsGo_176 rfl ?_
                    refine v_iload (I := iX10_rowsGo) dX10_rowsGo_178 rfl ?_
                    refine v_callSi (I := iX10_rowsGo) (I' := iX10_nearer) lk_X10_245 c_X10_nearer dX10_rowsGo_180 (m_X10_nearer) rfl rfl (by decide) (by decide) (Nat.le_of_ble_eq_true rfl) ?_
                    rw [show gNearer (wLean (gSlope (σ 88)) s k e) (gBy (σ 88) (gNow (σ 88))) = wTo (gIsStepI (σ 88) (gNow (σ 88))) (gBy (σ 88) (gNow (σ 88))) (wLean (gSlope (σ 88)) s k e) from (by unfold wTo; rw [if_pos c173])]
                    refine v_goto (I := iX10_rowsGo) (tgt := 188) dX10_rowsGo_183 (by decide) ?_
                    refine v_iadd (I := iX10_rowsGo) dX10_rowsGo_188 ?_
                    rw [e3]
                    refine v_dup2_11 (I := iX10_rowsGo) dX10_rowsGo_189 rfl rfl ?_
                    refine v_laldN (I := iX10_rowsGo) (j := j) rfl hj (by decide) dX10_rowsGo_190 (by decide) (ae_99 _ _) ?_
                    rw [hT9 j hj]
                    refine v_aload_n (I := iX10_rowsGo) dX10_rowsGo_191 rfl ?_
                    refine v_get (I := iX10_rowsGo) g_X10_47 dX10_rowsGo_192 (by decide) (ae_87 _ _) rfl ?_
                    refine v_iload (I := iX10_rowsGo) dX10_rowsGo_195 rfl ?_
                    refine v_laldN (I := iX10_rowsGo) (j := k) rfl (by omega) (by decide) dX10_rowsGo_197 (by decide) (ae_98 _ _) ?_
                    rw [hR9 k (by omega)]
                    refine v_ladd (I := iX10_rowsGo) dX10_rowsGo_198 ?_
                    rw [lN_add]
                    refine v_lastN (I := iX10_rowsGo) (j := j) rfl hj (by decide) dX10_rowsGo_199 (by decide) (fun _ => ae_99 _ _) ?_
                    refine v_goto (I := iX10_rowsGo) (tgt := 219) dX10_rowsGo_200 (by decide) ?_
                    refine v_iinc (I := iX10_rowsGo) (ls1 := [(6, _), (8, _), (7, _), (5, _), (4, _), (3, _), (2, _), (1, _), (0, _)]) dX10_rowsGo_219 rfl rfl (by decide) rfl ?_
                    refine v_goto (I := iX10_rowsGo) (tgt := 112) dX10_rowsGo_222 (by decide) ?_
                    refine v_pick (I := iX10_rowsGo) (ls1 := [(6, _), (5, _), (4, _), (3, _), (2, _), (1, _), (0, _)]) [0, 3, 4, 5, 6, 7, 8] rfl ?_
                    exact ih2 (e + 1) (by omega) nd_1 (fun i hi => by rw [up_ne (by decide)]; exact hR9 i hi) (by rw [hE]; exact up_eq hT9 rfl) (by rw [hE, up_ne (by decide)]; exact hF9) (by rw [up_ne (by decide)]; exact hA9)
        refine v_iload_n (I := iX10_rowsGo) dX10_rowsGo_108 rfl ?_
        refine v_ineg (I := iX10_rowsGo) dX10_rowsGo_109 ?_
        refine v_istore (I := iX10_rowsGo) (ls1 := [(6, _), (5, _), (4, _), (3, _), (2, _), (1, _), (0, _)]) dX10_rowsGo_110 (by decide) rfl ?_
        exact key1 (2 * s + 1) 0 (by omega) (nd_0 s (by omega)) hR9 hT9 hF9 hA9
  have key0 : ∀ (m k : Nat) {τ9 : fLt} {y : Int32}, k + m = 199 → (∀ j, j < 199 → τ9 98 j = lN (R j)) → (∀ j, j < k → τ9 99 j = lN 0) → τ9 87 18 = lN F → τ9 87 19 = lN A → y = nI k → VW G iX10_rowsGo (rgP (va_up σ 88 (gWay (σ 88))) (wStep (σ 88, R, F, A))) 6 σ τ9 41 [(5, .int y), (4, .int (gBy (σ 88) (gNow (σ 88)))), (3, .int (if gIsStepI (σ 88) (gNow (σ 88)) = true then 1 else 0)), (2, .int (nI s)), (1, .int (nI (gNow (σ 88)))), (0, .ref 87)] [] := by
    intro m
    induction m with
    | zero =>
      intro k τ9 y hin hR9 hT9 hF9 hA9 hy
      have hin0 : k = 199 := hin
      subst hy
      show VW _ _ _ _ _ _ 41 [(5, _), (4, _), (3, _), (2, _), (1, _), (0, _)] []
      refine v_iload (I := iX10_rowsGo) dX10_rowsGo_41 rfl ?_
      refine v_aload_n (I := iX10_rowsGo) dX10_rowsGo_43 rfl ?_
      refine v_get (I := iX10_rowsGo) g_X10_51 dX10_rowsGo_44 (by decide) (ae_87 _ _) rfl ?_
      refine v_alenJ (I := iX10_rowsGo) dX10_rowsGo_47 (by decide) (ae_99 _ _) ?_
      refine v_icmp_ge (I := iX10_rowsGo) (tgt := 65) dX10_rowsGo_48 (by decide) (fun c48 => ?_) (fun c48 => ?_)
      · refine v_aload_n (I := iX10_rowsGo) dX10_rowsGo_65 rfl ?_
        refine v_dup (I := iX10_rowsGo) dX10_rowsGo_66 rfl ?_
        refine v_get (I := iX10_rowsGo) g_X10_270 dX10_rowsGo_67 (by decide) (ae_87 _ _) rfl ?_
        rw [hF9]
        refine v_iconst (I := iX10_rowsGo) (v := 2) dX10_rowsGo_70 (by decide) ?_
        refine v_iload_n (I := iX10_rowsGo) dX10_rowsGo_71 rfl ?_
        refine v_imul (I := iX10_rowsGo) dX10_rowsGo_72 ?_
        refine v_iconst (I := iX10_rowsGo) (v := 1) dX10_rowsGo_73 (by decide) ?_
        refine v_iadd (I := iX10_rowsGo) dX10_rowsGo_74 ?_
        refine v_i2l (I := iX10_rowsGo) dX10_rowsGo_75 ?_
        rw [nd_m _ (by omega)]
        refine v_lmul (I := iX10_rowsGo) dX10_rowsGo_76 ?_
        rw [lN_mul]
        refine v_putJ (I := iX10_rowsGo) p_X10_270 dX10_rowsGo_77 (by decide) (ae_87 _ _) (ae_87 _ _) (by simp) ?_
        refine v_aload_n (I := iX10_rowsGo) dX10_rowsGo_80 rfl ?_
        refine v_dup (I := iX10_rowsGo) dX10_rowsGo_81 rfl ?_
        refine v_get (I := iX10_rowsGo) g_X10_274 dX10_rowsGo_82 (by decide) (ae_87 _ _) rfl ?_
        rw [up_nj (by decide), hA9]
        refine v_iconst (I := iX10_rowsGo) (v := 2) dX10_rowsGo_85 (by decide) ?_
        refine v_iload_n (I := iX10_rowsGo) dX10_rowsGo_86 rfl ?_
        refine v_imul (I := iX10_rowsGo) dX10_rowsGo_87 ?_
        refine v_iconst (I := iX10_rowsGo) (v := 1) dX10_rowsGo_88 (by decide) ?_
        refine v_iadd (I := iX10_rowsGo) dX10_rowsGo_89 ?_
        refine v_i2l (I := iX10_rowsGo) dX10_rowsGo_90 ?_
        rw [nd_m _ (by omega)]
        refine v_lmul (I := iX10_rowsGo) dX10_rowsGo_91 ?_
        rw [lN_mul]
        refine v_putJ (I := iX10_rowsGo) p_X10_274 dX10_rowsGo_92 (by decide) (ae_87 _ _) (ae_87 _ _) (by simp) ?_
        refine v_iconst (I := iX10_rowsGo) (v := 0) dX10_rowsGo_95 (by decide) ?_
        refine v_istore (I := iX10_rowsGo) (ls1 := [(5, _), (4, _), (3, _), (2, _), (1, _), (0, _)]) dX10_rowsGo_96 (by decide) rfl ?_
        subst hin0
        exact key2 199 0 rfl (fun j hj => by rw [up_ne (by decide), up_ne (by decide)]; exact hR9 j hj) (fun j hj => by rw [up_ne (by decide), up_ne (by decide)]; exact hT9 j hj) (by rw [up_nj (by decide), up_sl]; rfl) (by rw [up_sl]) rfl
      · exact absurd (by rw [hin0]; exact Int32.le_refl _) c48
    | succ m ih =>
      intro k τ9 y hin hR9 hT9 hF9 hA9 hy
      subst hy
      show VW _ _ _ _ _ _ 41 [(5, _), (4, _), (3, _), (2, _), (1, _), (0, _)] []
      refine v_iload (I := iX10_rowsGo) dX10_rowsGo_41 rfl ?_
      refine v_aload_n (I := iX10_rowsGo) dX10_rowsGo_43 rfl ?_
      refine v_get (I := iX10_rowsGo) g_X10_51 dX10_rowsGo_44 (by decide) (ae_87 _ _) rfl ?_
      refine v_alenJ (I := iX10_rowsGo) dX10_rowsGo_47 (by decide) (ae_99 _ _) ?_
      refine v_icmp_ge (I := iX10_rowsGo) (tgt := 65) dX10_rowsGo_48 (by decide) (fun c48 => ?_) (fun c48 => ?_)
      · exact absurd c48 (by exact nI_ge (by omega) (by omega))
      · refine v_aload_n (I := iX10_rowsGo) dX10_rowsGo_51 rfl ?_
        refine v_get (I := iX10_rowsGo) g_X10_51 dX10_rowsGo_52 (by decide) (ae_87 _ _) rfl ?_
        refine v_iload (I := iX10_rowsGo) dX10_rowsGo_55 rfl ?_
        refine v_lconst (I := iX10_rowsGo) (v := 0) dX10_rowsGo_57 (by decide) ?_
        refine v_lastN (I := iX10_rowsGo) (j := k) rfl (by omega) (by decide) dX10_rowsGo_58 (by decide) (fun _ => ae_99 _ _) ?_
        refine v_iinc (I := iX10_rowsGo) (ls1 := [(5, _), (4, _), (3, _), (2, _), (1, _), (0, _)]) dX10_rowsGo_59 rfl rfl (by decide) rfl ?_
        refine v_goto (I := iX10_rowsGo) (tgt := 41) dX10_rowsGo_62 (by decide) ?_
        exact ih (k + 1) (by omega) (fun j hj => by rw [up_ne (by decide)]; exact hR9 j hj) (fun j hj => by
          by_cases e : j = k
          · subst e; rw [up_sl]; rfl
          · rw [up_nj e]; exact hT9 j (by omega)) (by rw [up_ne (by decide)]; exact hF9) (by rw [up_ne (by decide)]; exact hA9) (nI_1 k)
  refine v_aload_n (I := iX10_rowsGo) dX10_rowsGo_0 rfl ?_
  refine v_get (I := iX10_rowsGo) g_X10_9 dX10_rowsGo_1 (by decide) (ae_87 _ _) rfl ?_
  refine v_bipush (I := iX10_rowsGo) (v := 11) dX10_rowsGo_4 (by decide) ?_
  refine v_ialdN (I := iX10_rowsGo) (j := 11) (by decide) (by decide) (by decide) dX10_rowsGo_6 (by decide) (ae_88 _ _) ?_
  rw [hnw.2.1]
  refine v_istore_n (I := iX10_rowsGo) (ls1 := [(1, _), (0, _)]) dX10_rowsGo_7 (by decide) rfl ?_
  refine v_aload_n (I := iX10_rowsGo) dX10_rowsGo_8 rfl ?_
  refine v_iload_n (I := iX10_rowsGo) dX10_rowsGo_9 rfl ?_
  refine v_callVi (I := iX10_rowsGo) (I' := iX10_swaysOf) lk_X10_143 c_X10_swaysOf dX10_rowsGo_10 (m_X10_swaysOf hI.1 rfl hnw.1) rfl rfl (by decide) (ae_87 _ _) rfl (by decide) (by decide) (Nat.le_of_ble_eq_true rfl) ?_
  rw [hsw]
  refine v_istore_n (I := iX10_rowsGo) (ls1 := [(2, _), (1, _), (0, _)]) dX10_rowsGo_13 (by decide) rfl ?_
  refine v_aload_n (I := iX10_rowsGo) dX10_rowsGo_14 rfl ?_
  refine v_iload_n (I := iX10_rowsGo) dX10_rowsGo_15 rfl ?_
  refine v_callVi (I := iX10_rowsGo) (I' := iX10_isStep) lk_X10_239 c_X10_isStep dX10_rowsGo_16 (m_X10_isStep hI.1 rfl hnw.1) rfl rfl (by decide) (ae_87 _ _) rfl (by decide) (by decide) (Nat.le_of_ble_eq_true rfl) ?_
  refine v_istore_n (I := iX10_rowsGo) (ls1 := [(3, _), (2, _), (1, _), (0, _)]) dX10_rowsGo_19 (by decide) rfl ?_
  refine v_iconst (I := iX10_rowsGo) (v := 0) dX10_rowsGo_20 (by decide) ?_
  refine v_aload_n (I := iX10_rowsGo) dX10_rowsGo_21 rfl ?_
  refine v_iload_n (I := iX10_rowsGo) dX10_rowsGo_22 rfl ?_
  refine v_callVi (I := iX10_rowsGo) (I' := iX10_catchOf) lk_X10_152 c_X10_catchOf dX10_rowsGo_23 (m_X10_catchOf hI.1 rfl hnw.1) rfl rfl (by decide) (ae_87 _ _) rfl (by decide) (by decide) (Nat.le_of_ble_eq_true rfl) ?_
  refine v_iconst (I := iX10_rowsGo) (v := 2) dX10_rowsGo_26 (by decide) ?_
  refine v_aload_n (I := iX10_rowsGo) dX10_rowsGo_27 rfl ?_
  refine v_callVi (I := iX10_rowsGo) (I' := iX10_slip) lk_X10_242 c_X10_slip dX10_rowsGo_28 (m_X10_slip hI.1) rfl rfl (by decide) (ae_87 _ _) rfl (by decide) (by decide) (Nat.le_of_ble_eq_true rfl) ?_
  refine v_imul (I := iX10_rowsGo) dX10_rowsGo_31 ?_
  refine v_isub (I := iX10_rowsGo) dX10_rowsGo_32 ?_
  refine v_max (I := iX10_rowsGo) lm_X10_76 dX10_rowsGo_33 (by decide) (Nat.le_of_ble_eq_true rfl) ?_
  rw [show (if 0 < gCatch (σ 88) (gNow (σ 88)) - 2 * gSlip (σ 88) then gCatch (σ 88) (gNow (σ 88)) - 2 * gSlip (σ 88) else 0) = gBy (σ 88) (gNow (σ 88)) from rfl]
  refine v_istore (I := iX10_rowsGo) (ls1 := [(4, _), (3, _), (2, _), (1, _), (0, _)]) dX10_rowsGo_36 (by decide) rfl ?_
  refine v_iconst (I := iX10_rowsGo) (v := 0) dX10_rowsGo_38 (by decide) ?_
  refine v_istore (I := iX10_rowsGo) (ls1 := [(5, _), (4, _), (3, _), (2, _), (1, _), (0, _)]) dX10_rowsGo_39 (by decide) rfl ?_
  exact key0 199 0 rfl hR (fun j hj => by omega) hF hA rfl
