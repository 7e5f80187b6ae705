def kFin (S : cS) : cS := ((kSet 0 (kEnd S).2.1 (kEnd S).1).1, (kSet 0 (kEnd S).2.1 (kEnd S).1).2, (kEnd S).2.2)
def rdV (R : Bool × Nat × cS) : Int32 := match kFault R with
  | some j => nI j
  | none => -1
def rdP (τ : fLt) (σ : fSt) (R : Bool × Nat × cS) : Option Value → fSt → fLt → Prop := rP (some (.int (rdV R))) τ (fun σ' => FrK σ σ' ∧ (kFault R = none → KR σ' (kFin R.2.2)))
theorem loop_sm {T : Nat → Int32} {u m i : Nat} {S S' : cS} (h : kGo u (T i) S = some S') : kLoop T u (m + 1) i S = kLoop T u m (i + 1) S' := by
  conv => lhs; unfold kLoop; rw [h]
theorem loop_fm {T : Nat → Int32} {u m i : Nat} {S : cS} (h : kGo u (T i) S = none) : kLoop T u (m + 1) i S = (false, i, S) := by
  unfold kLoop
  rw [h]
set_option maxRecDepth 100000 in
set_option maxHeartbeats 8000000 in
theorem m_X2_read {G : fGm} {σ : fSt} {τ : fLt} {u N : Nat} (hi : u < 2) (hN : N ≤ 60) (hT : ∀ j, j < N → 0 ≤ σ (wc 0 18) j ∧ σ (wc 0 18) j ≤ 255) : MS G iX2_read 7 [.ref 67, .ref (wc 0 18), .int (nI N), .ref (1010 + u)] σ τ (rdP τ σ (kLoop (σ (wc 0 18)) u N 0 ([], [], 0, 0, σ 67 4, true))) := by
  refine ms_of (by decide +kernel) (Nat.le_of_ble_eq_true rfl) ?_
  show VW _ _ _ _ _ _ 0 [(0, _), (1, _), (2, _), (3, _)] []
  have key : ∀ (m i : Nat) {S : cS} {σ9 : fSt} {y : Int32}, i + m = N → kLoop (σ (wc 0 18)) u m i S = (kLoop (σ (wc 0 18)) u N 0 ([], [], 0, 0, σ 67 4, true)) → KR σ9 S → FrK σ σ9 → szS S ≤ i → S.2.2.2.1 ≤ 4 → y = nI i → VW G iX2_read (rdP τ σ (kLoop (σ (wc 0 18)) u N 0 ([], [], 0, 0, σ 67 4, true))) 7 σ9 τ 31 [(4, .int y), (0, .ref 67), (1, .ref (wc 0 18)), (2, .int (nI N)), (3, .ref (1010 + u))] [] := by
    intro m
    induction m with
    | zero =>
      intro i S σ9 y hin hlo hK9 hF9 hz9 hd9 hy
      obtain ⟨O, P, k, dg, nm, due⟩ := S
      have hin0 : i = N := hin
      subst hy
      show VW _ _ _ _ _ _ 31 [(4, _), (0, _), (1, _), (2, _), (3, _)] []
      refine v_iload (I := iX2_read) dX2_read_31 rfl ?_
      refine v_iload_n (I := iX2_read) dX2_read_33 rfl ?_
      refine v_icmp_ge (I := iX2_read) (tgt := 60) dX2_read_34 (by decide) (fun c34 => ?_) (fun c34 => ?_)
      · refine v_aload_n (I := iX2_read) dX2_read_60 rfl ?_
        refine v_callVvP (I := iX2_read) (I' := iX2_endNumber) lk_X2_50 c_X2_endNumber dX2_read_61 (m_X2_endNumber hK9 (by omega) hd9) rfl rfl (by decide) (ae_67 _ _) rfl (by decide) (by decide) (Nat.le_of_ble_eq_true rfl) (fun s61 h61 => ?_)
        obtain ⟨hK1, hF1⟩ := h61
        have hR : (kLoop (σ (wc 0 18)) u N 0 ([], [], 0, 0, σ 67 4, true)) = (true, i, (O, P, k, dg, nm, due)) := hlo.symm
        have hez := kEnd_sz (O, P, k, dg, nm, due)
        refine v_aload_n (I := iX2_read) dX2_read_64 rfl ?_
        refine v_get (I := iX2_read) g_X2_35 dX2_read_65 (by decide) (ae_67 _ _) rfl ?_
        rw [hK1.du]
        refine v_if_ne (I := iX2_read) (tgt := 78) dX2_read_68 (by decide) (fun c68 => ?_) (fun c68 => ?_)
        · have hdu : (kEnd (O, P, k, dg, nm, due)).2.2.2.2.2 = true := by
            cases h9 : (kEnd (O, P, k, dg, nm, due)).2.2.2.2.2 with
            | true => rfl
            | false => rw [h9] at c68; exact absurd rfl c68
          refine v_iload_n (I := iX2_read) dX2_read_78 rfl ?_
          exact v_iret (I := iX2_read) rfl dX2_read_79 (by have hb : kBad (O, P, k, dg, nm, due) = true := (by unfold kBad; first | (rw [hdu]; rfl) | (rw [hdu, Bool.false_or, decide_eq_true_iff]; exact Int32.not_le.mp c75)); exact ⟨by unfold rdV; rw [hR]; unfold kFault; rw [if_neg (fun h => nomatch h), if_pos hb, hin0], rfl, hF9.tr hF1, fun h => by rw [hR] at h; unfold kFault at h; rw [if_neg (fun h => nomatch h), if_pos hb] at h; exact nomatch h⟩)
        · have hdu : (kEnd (O, P, k, dg, nm, due)).2.2.2.2.2 = false := by
            cases h9 : (kEnd (O, P, k, dg, nm, due)).2.2.2.2.2 with
            | false => rfl
            | true => rw [h9] at c68; exact absurd (show (1 : Int32) = 0 from c68) (by decide)
          refine v_aload_n (I := iX2_read) dX2_read_71 rfl ?_
          refine v_get (I := iX2_read) g_X2_26 dX2_read_72 (by decide) (ae_67 _ _) rfl ?_
          rw [hK1.op]
          refine v_if_le (I := iX2_read) (tgt := 80) dX2_read_75 (by decide) (fun c75 => ?_) (fun c75 => ?_)
          · refine v_aload_n (I := iX2_read) dX2_read_80 rfl ?_
            refine v_iconst (I := iX2_read) (v := 0) dX2_read_81 (by decide) ?_
            refine v_callVvP (I := iX2_read) (I' := iX2_settle) lk_X2_53 c_X2_settle dX2_read_82 (m_X2_settle (r := 0) (by decide) (O0 := (kEnd (O, P, k, dg, nm, due)).1) (P0 := (kEnd (O, P, k, dg, nm, due)).2.1) hK1 (by have := hez.1; unfold szS at this hz9; omega)) rfl rfl (by decide) (ae_67 _ _) rfl (by decide) (by decide) (Nat.le_of_ble_eq_true rfl) (fun s82 h82 => ?_)
            refine v_iconst (I := iX2_read) (v := -1) dX2_read_85 (by decide) ?_
            exact v_iret (I := iX2_read) rfl dX2_read_86 (by have hb : ¬ kBad (O, P, k, dg, nm, due) = true := (by unfold kBad; rw [hdu, Bool.false_or, decide_eq_true_iff]; exact Int32.not_lt.mpr c75); exact ⟨by unfold rdV; rw [hR]; unfold kFault; rw [if_neg (fun h => nomatch h), if_neg hb], rfl, hF9.tr (hF1.tr h82.2), fun _ => by rw [hR]; exact h82.1⟩)
          · refine v_iload_n (I := iX2_read) dX2_read_78 rfl ?_
            exact v_iret (I := iX2_read) rfl dX2_read_79 (by have hb : kBad (O, P, k, dg, nm, due) = true := (by unfold kBad; first | (rw [hdu]; rfl) | (rw [hdu, Bool.false_or, decide_eq_true_iff]; exact Int32.not_le.mp c75)); exact ⟨by unfold rdV; rw [hR]; unfold kFault; rw [if_neg (fun h => nomatch h), if_pos hb, hin0], rfl, hF9.tr hF1, fun h => by rw [hR] at h; unfold kFault at h; rw [if_neg (fun h => nomatch h), if_pos hb] at h; exact nomatch h⟩)
      · exact absurd (by rw [hin0]; exact Int32.le_refl _) c34
    | succ m ih =>
      intro i S σ9 y hin hlo hK9 hF9 hz9 hd9 hy
      obtain ⟨O, P, k, dg, nm, due⟩ := S
      subst hy
      show VW _ _ _ _ _ _ 31 [(4, _), (0, _), (1, _), (2, _), (3, _)] []
      refine v_iload (I := iX2_read) dX2_read_31 rfl ?_
      refine v_iload_n (I := iX2_read) dX2_read_33 rfl ?_
      refine v_icmp_ge (I := iX2_read) (tgt := 60) dX2_read_34 (by decide) (fun c34 => ?_) (fun c34 => ?_)
      · exact absurd c34 (by exact nI_ge (by omega) (by omega))
      · refine v_aload_n (I := iX2_read) dX2_read_37 rfl ?_
        refine v_aload_n (I := iX2_read) dX2_read_38 rfl ?_
        refine v_iload (I := iX2_read) dX2_read_39 rfl ?_
        refine v_callSi (I := iX2_read) (I' := iX9_at) lk_X2_42 c_X9_at dX2_read_41 (m_X9_at (by decide) (ae_w18 (by decide)) (by decide)) rfl rfl (by decide) (by decide) (Nat.le_of_ble_eq_true rfl) ?_
        rw [rdA_in (by omega) (by decide), hF9 (wc 0 18) (by decide) (by decide) (by decide) (by decide)]
        refine v_aload_n (I := iX2_read) dX2_read_44 rfl ?_
        refine v_callViP (I := iX2_read) (I' := iX2_goesOnWith) lk_X2_46 c_X2_goesOnWith dX2_read_45 (m_X2_goesOnWith (i := u) hK9 hi (hT i (by omega)) (by omega) hd9) rfl rfl (by decide) (ae_67 _ _) rfl (by decide) (by decide) (Nat.le_of_ble_eq_true rfl) (fun s45 h45 => ?_)
        refine v_if_neB (I := iX2_read) (tgt := 54) dX2_read_48 (by decide) (fun c48 => ?_) (fun c48 => ?_)
        · refine v_iinc (I := iX2_read) (ls1 := [(4, _), (0, _), (1, _), (2, _), (3, _)]) dX2_read_54 rfl rfl (by decide) rfl ?_
          refine v_goto (I := iX2_read) (tgt := 31) dX2_read_57 (by decide) ?_
          obtain ⟨S', hS'⟩ := Option.isSome_iff_exists.mp c48
          have hsz := kGo_sz hS'
          exact ih (i + 1) (by omega) (by rw [← hlo]; exact (loop_sm hS').symm) (h45.1 S' hS') (hF9.tr h45.2) (by have := hsz.1; omega) (hsz.2 hd9) (nI_1 i)
        · refine v_iload (I := iX2_read) dX2_read_51 rfl ?_
          exact v_iret (I := iX2_read) rfl dX2_read_53 (by have hn : kGo u (σ (wc 0 18) i) (O, P, k, dg, nm, due) = none := Option.not_isSome_iff_eq_none.mp c48; have hR : (kLoop (σ (wc 0 18)) u N 0 ([], [], 0, 0, σ 67 4, true)) = (false, i, (O, P, k, dg, nm, due)) := hlo.symm.trans (loop_fm hn); exact ⟨by unfold rdV; rw [hR]; rfl, rfl, hF9.tr h45.2, fun h => by rw [hR] at h; exact nomatch h⟩)
  refine v_aload_n (I := iX2_read) dX2_read_0 rfl ?_
  refine v_get (I := iX2_read) g_X2_12 dX2_read_1 (by decide) (ae_67 _ _) rfl ?_
  refine v_iconst (I := iX2_read) (v := 0) dX2_read_4 (by decide) ?_
  refine v_putI (I := iX2_read) p_X2_39 dX2_read_5 (by decide) (ae_68 _ _) (ae_68 _ _) rfl rfl (by simp) ?_
  refine v_aload_n (I := iX2_read) dX2_read_8 rfl ?_
  refine v_iconst (I := iX2_read) (v := 0) dX2_read_9 (by decide) ?_
  refine v_putI (I := iX2_read) p_X2_22 dX2_read_10 (by decide) (ae_67 _ _) (ae_67 _ _) rfl rfl (by simp) ?_
  refine v_aload_n (I := iX2_read) dX2_read_13 rfl ?_
  refine v_iconst (I := iX2_read) (v := 0) dX2_read_14 (by decide) ?_
  refine v_putI (I := iX2_read) p_X2_26 dX2_read_15 (by decide) (ae_67 _ _) (ae_67 _ _) rfl rfl (by simp) ?_
  refine v_aload_n (I := iX2_read) dX2_read_18 rfl ?_
  refine v_iconst (I := iX2_read) (v := 0) dX2_read_19 (by decide) ?_
  refine v_putI (I := iX2_read) p_X2_32 dX2_read_20 (by decide) (ae_67 _ _) (ae_67 _ _) rfl rfl (by simp) ?_
  refine v_aload_n (I := iX2_read) dX2_read_23 rfl ?_
  refine v_iconst (I := iX2_read) (v := 1) dX2_read_24 (by decide) ?_
  refine v_putI (I := iX2_read) p_X2_35 dX2_read_25 (by decide) (ae_67 _ _) (ae_67 _ _) rfl rfl (by simp) ?_
  refine v_iconst (I := iX2_read) (v := 0) dX2_read_28 (by decide) ?_
  refine v_istore (I := iX2_read) (ls1 := [(4, _), (0, _), (1, _), (2, _), (3, _)]) dX2_read_29 (by decide) rfl ?_
  have hK0 : KR (up2 (up2 (up2 (up2 (up2 σ 68 1 0) 67 2 0) 67 3 0) 67 5 0) 67 6 1) ([], [], 0, 0, σ 67 4, true) := by
    refine ⟨?_, trivial, ?_, trivial, ?_, ?_, ?_, ?_⟩ <;> simp [up2, va_up] <;> rfl
  have hF0 : FrK σ (up2 (up2 (up2 (up2 (up2 σ 68 1 0) 67 2 0) 67 3 0) 67 5 0) 67 6 1) := (FrK.up (by decide)).tr ((FrK.up (by decide)).tr ((FrK.up (by decide)).tr ((FrK.up (by decide)).tr (FrK.up (by decide)))))
  exact key N 0 (by omega) rfl hK0 hF0 (Nat.le_refl 0) (by show 0 ≤ 4; decide) rfl
