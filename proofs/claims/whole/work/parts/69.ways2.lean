theorem up2L_o {τ : fLt} {k j k' : Nat} {x : Int64} (h : k' ≠ k) : up2L τ k j x k' = τ k' := va_up_o _ _ h
def rCL (σ : fSt) (p : Int64 × fSt) : Option Value → fSt → fLt → Prop := fun v' σ' _ => v' = some (.long p.1) ∧ CR σ' p.2 ∧ FC σ σ'
def rRL (σ : fSt) (p : Int64 × fSt) : Option Value → fSt → fLt → Prop := fun v' σ' _ => v' = some (.long p.1) ∧ RR σ' p.2 ∧ FR σ σ'
def folP (σ : fSt) (q : wQ) : Option Value → fSt → fLt → Prop := fun v' σ' τ' => v' = none ∧ FrW 2 σ σ' ∧ τ' 72 0 = lN q.2.2.1 ∧ τ' 72 1 = lN q.2.2.2
def waysQ (g : gS) (n : Nat) : wQ := wGo n (g, wR0 (g 1), 0, 1)
def waysS (ρ : fSt) (n w : Int32) : Int64 × fSt := if (1 ≤ n ∧ n ≤ 8) ∧ 0 ≤ w ∧ w ≤ 1 then (if ρ 88 15 = 0 then ((errV 3).toInt64, errS ρ 3) else
   (lN ((if w = 0 then (waysQ (ρ 88) n.toNatClampNeg).2.2.1 else (waysQ (ρ 88) n.toNatClampNeg).2.2.2) / Nat.gcd (waysQ (ρ 88) n.toNatClampNeg).2.2.2 (waysQ (ρ 88) n.toNatClampNeg).2.2.1), ρ)) else ((errV 1).toInt64, errS ρ 1)
set_option maxRecDepth 100000 in
set_option maxHeartbeats 8000000 in
theorem m_X4_follow {G : fGm} {σ : fSt} {τ : fLt} {g0 : gS} {n : Nat} (hV : V 2 σ g0) (hI : IV g0) (h15 : 0 < g0 15) (hn8 : n ≤ 8) : MS G iX4_follow 5 [.ref 72, .ref (wc 2 0), .int (nI n)] σ τ (folP σ (waysQ g0 n)) := by
  refine ms_of (by decide +kernel) (Nat.le_of_ble_eq_true rfl) ?_
  show VW _ _ _ _ _ _ 0 [(0, _), (1, _), (2, _)] []
  have key : ∀ (m i : Nat) {σ9 : fSt} {τ9 : fLt} {q : wQ} {a b y : Int32}, i + m = n → wGo m q = waysQ g0 n → wI i q → V 2 σ9 (cW q.1 a b) → (cW q.1 a b) = (cW q.1 a b) → IV (cW q.1 a b) → 0 < cW q.1 a b 15 → FrW 2 σ σ9 → τ9 72 0 = lN q.2.2.1 → τ9 72 1 = lN q.2.2.2 → (∀ j, j < 199 → τ9 73 j = lN (q.2.1 j)) → y = nI i →
      VW G iX4_follow (folP σ (waysQ g0 n)) 5 σ9 τ9 33 [(3, .int y), (0, .ref 72), (1, .ref (wc 2 0)), (2, .int (nI n))] [] := by
    intro m
    induction m with
    | zero =>
      intro i σ9 τ9 q a b y hin hgo hwi hV9 _ hIC h15 hF9 hf ha hr hy
      have hin0 : i = n := hin
      subst hy
      show VW _ _ _ _ _ _ 33 [(3, _), (0, _), (1, _), (2, _)] []
      refine v_iload_n (I := iX4_follow) dX4_follow_33 rfl ?_
      refine v_iload_n (I := iX4_follow) dX4_follow_34 rfl ?_
      refine v_icmp_ge (I := iX4_follow) (tgt := 142) dX4_follow_35 (by decide) (fun c35 => ?_) (fun c35 => ?_)
      · exact v_vret (I := iX4_follow) rfl dX4_follow_142 (by subst hin0; exact ⟨rfl, hF9, by rw [hf, ← hgo]; rfl, by rw [ha, ← hgo]; rfl⟩)
      · exact absurd (by rw [hin0]; exact Int32.le_refl _) c35
    | succ m ih =>
      intro i σ9 τ9 q a b y hin hgo hwi hV9 _ hIC h15 hF9 hf ha hr hy
      subst hy
      show VW _ _ _ _ _ _ 33 [(3, _), (0, _), (1, _), (2, _)] []
      have hwl := wI_lt hwi (by omega)
      generalize hgC : cW q.1 a b = gC at hV9 hIC h15 ⊢
      have hnw := now_in hIC h15
      obtain ⟨hs9, hsw⟩ := swN_in hIC h15
      refine v_iload_n (I := iX4_follow) dX4_follow_33 rfl ?_
      refine v_iload_n (I := iX4_follow) dX4_follow_34 rfl ?_
      refine v_icmp_ge (I := iX4_follow) (tgt := 142) dX4_follow_35 (by decide) (fun c35 => ?_) (fun c35 => ?_)
      · exact absurd c35 (by exact nI_ge (by omega) (by omega))
      · refine v_aload_n (I := iX4_follow) dX4_follow_38 rfl ?_
        refine v_aload_n (I := iX4_follow) dX4_follow_39 rfl ?_
        refine v_get (I := iX4_follow) g_X4_29 dX4_follow_40 (by decide) (ae_w0 (by decide) _ _) rfl ?_
        refine v_bipush (I := iX4_follow) (v := 11) dX4_follow_43 (by decide) ?_
        refine v_ialdN (I := iX4_follow) (j := 11) (by decide) (by decide) (by decide) dX4_follow_45 (by decide) (ae_w1 (by decide) _ _) ?_
        rw [V_child hV9 (by decide), hnw.2.1]
        refine v_callVr (I := iX4_follow) (I' := iX8_gaitOf) lk_X4_39 c_X8_gaitOf dX4_follow_46 (m_X8_gaitOf (by decide) hV9 hIC.1 rfl hnw.1) rfl rfl (by decide) (ae_w0 (by decide) _ _) rfl (by decide) (by decide) (Nat.le_of_ble_eq_true rfl) ?_
        obtain ⟨q0, q1, q2, q3⟩ := gaitS_0 (w := 2) (i := gNow gC) (σ := σ9) (g := gC)
        have hV1 : V 2 (gaitS 2 σ9 gC (gNow gC)) gC := gaitS_V hV9
        have hF1 : FrW 2 σ (gaitS 2 σ9 gC (gNow gC)) := hF9.tr gaitS_F
        generalize gaitS 2 σ9 gC (gNow gC) = σ1 at hV1 hF1 q0 q1 q2 q3 ⊢
        refine v_astore (I := iX4_follow) (ls1 := [(4, _), (3, _), (0, _), (1, _), (2, _)]) dX4_follow_49 (by decide) rfl ?_
        refine v_aload_n (I := iX4_follow) dX4_follow_51 rfl ?_
        refine v_aload (I := iX4_follow) dX4_follow_52 rfl ?_
        refine v_callVi (I := iX4_follow) (I' := iX8_isStep) lk_X4_43 c_X8_isStep dX4_follow_54 (m_X8_isStep (by decide) hV1 hIC.1 q2) rfl rfl (by decide) (ae_w0 (by decide) _ _) rfl (by decide) (by decide) (Nat.le_of_ble_eq_true rfl) ?_
        refine v_istore (I := iX4_follow) (ls1 := [(5, _), (4, _), (3, _), (0, _), (1, _), (2, _)]) dX4_follow_57 (by decide) rfl ?_
        refine v_iconst (I := iX4_follow) (v := 2) dX4_follow_59 (by decide) ?_
        refine v_aload (I := iX4_follow) dX4_follow_60 rfl ?_
        refine v_get (I := iX4_follow) g_X4_47 dX4_follow_62 (by decide) (ae_w20 (by decide) _ _) rfl ?_
        rw [q0, hsw]
        refine v_imul (I := iX4_follow) dX4_follow_65 ?_
        refine v_iconst (I := iX4_follow) (v := 1) dX4_follow_66 (by decide) ?_
        refine v_iadd (I := iX4_follow) dX4_follow_67 ?_
        refine v_i2l (I := iX4_follow) dX4_follow_68 ?_
        rw [nd_m _ (by omega)]
        refine v_lstore (I := iX4_follow) (ls1 := [(6, _), (5, _), (4, _), (3, _), (0, _), (1, _), (2, _)]) dX4_follow_69 (by decide) rfl ?_
        refine v_aload_n (I := iX4_follow) dX4_follow_71 rfl ?_
        refine v_dup (I := iX4_follow) dX4_follow_72 rfl ?_
        refine v_get (I := iX4_follow) g_X4_15 dX4_follow_73 (by decide) (ae_72 _ _) rfl ?_
        rw [ha]
        refine v_lload (I := iX4_follow) dX4_follow_76 rfl ?_
        refine v_lmul (I := iX4_follow) dX4_follow_78 ?_
        rw [lN_mul]
        refine v_putJ (I := iX4_follow) p_X4_15 dX4_follow_79 (by decide) (ae_72 _ _) (ae_72 _ _) (by simp) ?_
        refine v_aload_n (I := iX4_follow) dX4_follow_82 rfl ?_
        refine v_aload_n (I := iX4_follow) dX4_follow_83 rfl ?_
        refine v_get (I := iX4_follow) g_X4_9 dX4_follow_84 (by decide) (ae_72 _ _) rfl ?_
        rw [show up2L τ9 72 1 (lN (q.2.2.2 * (2 * gSwN gC + 1))) 72 0 = lN q.2.2.1 from (by rw [← hf]; simp [up2L, va_up])]
        refine v_lload (I := iX4_follow) dX4_follow_87 rfl ?_
        refine v_lmul (I := iX4_follow) dX4_follow_89 ?_
        rw [lN_mul]
        refine v_aload_n (I := iX4_follow) dX4_follow_90 rfl ?_
        refine v_aload_n (I := iX4_follow) dX4_follow_91 rfl ?_
        refine v_aload (I := iX4_follow) dX4_follow_92 rfl ?_
        refine v_iload (I := iX4_follow) dX4_follow_94 rfl ?_
        refine v_callVl (I := iX4_follow) (I' := iX4_spread) lk_X4_53 c_X4_spread dX4_follow_96 (m_X4_spread (g := gC) (i := gNow gC) (s := gSwN gC) (st := gIsStepI gC (gNow gC)) (R := q.2.1) hV1 hIC.1 (by omega) (by rw [q0, hsw]) q3 (fun j hj => by rw [up2L_o (by decide)]; exact hr j hj) hwl.2.2) rfl rfl (by decide) (ae_72 _ _) rfl (by decide) (by decide) (Nat.le_of_ble_eq_true rfl) ?_
        refine v_ladd (I := iX4_follow) dX4_follow_99 ?_
        rw [lN_add]
        refine v_putJ (I := iX4_follow) p_X4_9 dX4_follow_100 (by decide) (ae_72 _ _) (ae_72 _ _) (by simp) ?_
        refine v_aload_n (I := iX4_follow) dX4_follow_103 rfl ?_
        refine v_get (I := iX4_follow) g_X4_22 dX4_follow_104 (by decide) (ae_72 _ _) rfl ?_
        refine v_iconst (I := iX4_follow) (v := 0) dX4_follow_107 (by decide) ?_
        refine v_aload_n (I := iX4_follow) dX4_follow_108 rfl ?_
        refine v_get (I := iX4_follow) g_X4_18 dX4_follow_109 (by decide) (ae_72 _ _) rfl ?_
        refine v_iconst (I := iX4_follow) (v := 0) dX4_follow_112 (by decide) ?_
        refine v_aload_n (I := iX4_follow) dX4_follow_113 rfl ?_
        refine v_get (I := iX4_follow) g_X4_18 dX4_follow_114 (by decide) (ae_72 _ _) rfl ?_
        refine v_alenJ (I := iX4_follow) dX4_follow_117 (by decide) (ae_73 _ _) ?_
        refine v_copyL (I := iX4_follow) lm_X4_57 dX4_follow_118 (by decide) (by decide) ae_74 ae_73 (by decide) (by decide) (Nat.le_of_ble_eq_true rfl) ?_
        rw [show wAll (gSlope gC) (gBy gC (gNow gC)) (gIsStepI gC (gNow gC)) (gSwN gC) q.2.1 199 = wP gC q.2.1 199 from rfl]
        generalize hτ : va_up (up2L (va_up (up2L τ9 72 1 (lN (q.2.2.2 * (2 * gSwN gC + 1)))) 74 (lF (wP gC q.2.1 199).1)) 72 0 (lN (q.2.2.1 * (2 * gSwN gC + 1) + (wP gC q.2.1 199).2))) 73 (up2L (va_up (up2L τ9 72 1 (lN (q.2.2.2 * (2 * gSwN gC + 1)))) 74 (lF (wP gC q.2.1 199).1)) 72 0 (lN (q.2.2.1 * (2 * gSwN gC + 1) + (wP gC q.2.1 199).2)) 74) = τ4
        have hqs : wStep q = (gWay q.1, (wP gC q.2.1 199).1, q.2.2.1 * (2 * gSwN gC + 1) + (wP gC q.2.1 199).2, q.2.2.2 * (2 * gSwN gC + 1)) := by rw [← hgC, cW_wP, cW_swN]; rfl
        have hf4 : τ4 72 0 = lN (wStep q).2.2.1 := by rw [hqs, ← hτ]; simp [up2L, va_up]
        have ha4 : τ4 72 1 = lN (wStep q).2.2.2 := by rw [hqs, ← hτ]; simp [up2L, va_up]
        have hr4 : ∀ j, j < 199 → τ4 73 j = lN ((wStep q).2.1 j) := fun j hj => by rw [hqs, ← hτ]; simp [up2L, va_up, lF]
        refine v_iload (I := iX4_follow) dX4_follow_121 rfl ?_
        refine v_if_eqB (I := iX4_follow) (tgt := 132) dX4_follow_123 (by decide) (fun c123 => ?_) (fun c123 => ?_)
        · have hst := c123
          refine v_aload_n (I := iX4_follow) dX4_follow_132 rfl ?_
          refine v_callVvP (I := iX4_follow) (I' := iX8_goOn) lk_X4_67 c_X8_goOn dX4_follow_133 (m_X8_goOn (by decide) hV1 hIC h15) rfl rfl (by decide) (ae_w0 (by decide) _ _) rfl (by decide) (by decide) (Nat.le_of_ble_eq_true rfl) (fun s133 h133 => ?_)
          refine v_iinc (I := iX4_follow) (ls1 := [(3, _), (6, _), (5, _), (4, _), (0, _), (1, _), (2, _)]) dX4_follow_136 rfl rfl (by decide) rfl ?_
          refine v_goto (I := iX4_follow) (tgt := 33) dX4_follow_139 (by decide) ?_
          have hw9 := cW_way (g := q.1) (a := a) (b := b)
          have hnq : gNow q.1 = gNow gC := by rw [← hgC, cW_now]
          rw [if_neg (by rw [← hgC, cW_isStep, cW_now] at hst; exact hst)] at hw9
          obtain ⟨a', b', hw9⟩ := hw9
          have hw8 : _ = cW (wStep q).1 a' b' := hw9
          refine v_pick (I := iX4_follow) (ls1 := [(3, _), (0, _), (1, _), (2, _)]) [0, 4, 5, 6] rfl ?_
          exact ih (i + 1) (σ9 := s133) (τ9 := τ4) (q := wStep q) (a := a') (b := b') (by omega) (by rw [← hgo]; rfl) (wI_step hwi) (by rw [← hw8, hgC]; exact h133.1) rfl (by rw [← hw8, hgC]; exact IV_one hIC h15) (by rw [← hw8, hgC, gOne15]; exact h15) (hF1.tr h133.2) hf4 ha4 hr4 (nI_1 i)
        · have hst := c123
          refine v_aload_n (I := iX4_follow) dX4_follow_126 rfl ?_
          refine v_aload (I := iX4_follow) dX4_follow_127 rfl ?_
          refine v_callVvP (I := iX4_follow) (I' := iX8_stepOn) lk_X4_63 c_X8_stepOn dX4_follow_129 (m_X8_stepOn (by decide) hV1 q1) rfl rfl (by decide) (ae_w0 (by decide) _ _) rfl (by decide) (by decide) (Nat.le_of_ble_eq_true rfl) (fun s129 h129 => ?_)
          refine v_aload_n (I := iX4_follow) dX4_follow_132 rfl ?_
          refine v_callVvP (I := iX4_follow) (I' := iX8_goOn) lk_X4_67 c_X8_goOn dX4_follow_133 (m_X8_goOn (by decide) h129.1 (IV_stepOn hIC) (by rw [gStepOn15]; exact h15)) rfl rfl (by decide) (ae_w0 (by decide) _ _) rfl (by decide) (by decide) (Nat.le_of_ble_eq_true rfl) (fun s133 h133 => ?_)
          refine v_iinc (I := iX4_follow) (ls1 := [(3, _), (6, _), (5, _), (4, _), (0, _), (1, _), (2, _)]) dX4_follow_136 rfl rfl (by decide) rfl ?_
          refine v_goto (I := iX4_follow) (tgt := 33) dX4_follow_139 (by decide) ?_
          have hw9 := cW_way (g := q.1) (a := a) (b := b)
          have hnq : gNow q.1 = gNow gC := by rw [← hgC, cW_now]
          rw [if_pos (by rw [← hgC, cW_isStep, cW_now] at hst; exact hst)] at hw9
          obtain ⟨a', b', hw9⟩ := hw9
          have hw8 : _ = cW (wStep q).1 a' b' := hw9
          refine v_pick (I := iX4_follow) (ls1 := [(3, _), (0, _), (1, _), (2, _)]) [0, 4, 5, 6] rfl ?_
          exact ih (i + 1) (σ9 := s133) (τ9 := τ4) (q := wStep q) (a := a') (b := b') (by omega) (by rw [← hgo]; rfl) (wI_step hwi) (by rw [← hw8, hgC, hnq]; exact h133.1) rfl (by rw [← hw8, hgC, hnq]; exact IV_one (IV_stepOn hIC) (by rw [gStepOn15]; exact h15)) (by rw [← hw8, hgC, hnq, gOne15, gStepOn15]; exact h15) (hF1.tr (h129.2.tr h133.2)) hf4 ha4 hr4 (nI_1 i)
  obtain ⟨n0, hn0, el, el2⟩ := lean_ix hI.1
  refine v_aload_n (I := iX4_follow) dX4_follow_0 rfl ?_
  refine v_lconst (I := iX4_follow) (v := 0) dX4_follow_1 (by decide) ?_
  refine v_putJ (I := iX4_follow) p_X4_9 dX4_follow_2 (by decide) (ae_72 _ _) (ae_72 _ _) (by simp) ?_
  refine v_aload_n (I := iX4_follow) dX4_follow_5 rfl ?_
  refine v_lconst (I := iX4_follow) (v := 1) dX4_follow_6 (by decide) ?_
  refine v_putJ (I := iX4_follow) p_X4_15 dX4_follow_7 (by decide) (ae_72 _ _) (ae_72 _ _) (by simp) ?_
  refine v_aload_n (I := iX4_follow) dX4_follow_10 rfl ?_
  refine v_get (I := iX4_follow) g_X4_18 dX4_follow_11 (by decide) (ae_72 _ _) rfl ?_
  refine v_callSv (I := iX4_follow) (I' := iX4_clear) lk_X4_25 c_X4_clear dX4_follow_14 (m_X4_clear (c := 73) (by decide) ae_73) rfl rfl (by decide) (by decide) (Nat.le_of_ble_eq_true rfl) ?_
  refine v_aload_n (I := iX4_follow) dX4_follow_17 rfl ?_
  refine v_get (I := iX4_follow) g_X4_18 dX4_follow_18 (by decide) (ae_72 _ _) rfl ?_
  refine v_aload_n (I := iX4_follow) dX4_follow_21 rfl ?_
  refine v_get (I := iX4_follow) g_X4_29 dX4_follow_22 (by decide) (ae_w0 (by decide) _ _) rfl ?_
  refine v_iconst (I := iX4_follow) (v := 1) dX4_follow_25 (by decide) ?_
  refine v_ialdN (I := iX4_follow) (j := 1) (by decide) (by decide) (by decide) dX4_follow_26 (by decide) (ae_w1 (by decide) _ _) ?_
  rw [V_child hV (by decide)]
  refine v_lconst (I := iX4_follow) (v := 1) dX4_follow_27 (by decide) ?_
  refine v_callSv (I := iX4_follow) (I' := iX4_bring) lk_X4_35 c_X4_bring dX4_follow_28 (m_X4_bring (c := 73) (j := n0) (by decide) ae_73 el2 hn0) rfl rfl (by decide) (by decide) (Nat.le_of_ble_eq_true rfl) ?_
  refine v_iconst (I := iX4_follow) (v := 0) dX4_follow_31 (by decide) ?_
  refine v_istore_n (I := iX4_follow) (ls1 := [(3, _), (0, _), (1, _), (2, _)]) dX4_follow_32 (by decide) rfl ?_
  refine key n 0 (q := (g0, wR0 (g0 1), 0, 1)) (a := g0 8) (b := g0 10) (by omega) rfl (wI_0 hI h15) (by show V 2 _ (cW g0 (g0 8) (g0 10)); rw [← cW_id]; exact hV) rfl (by show IV (cW g0 (g0 8) (g0 10)); rw [← cW_id]; exact hI) (by show 0 < cW g0 (g0 8) (g0 10) 15; rw [← cW_id]; exact h15) FrW.rf ?_ ?_ (fun j hj => ?_) rfl
  · rfl
  · rfl
  · show up2L (va_up (up2L (up2L τ 72 0 0) 72 1 1) 73 (lF fun _ => 0)) 73 n0 (va_up (up2L (up2L τ 72 0 0) 72 1 1) 73 (lF fun _ => 0) 73 n0 + lN 1) 73 j = lN (wR0 (g0 1) j)
    rw [lF_up', va_up_s, wR0_eq el hn0 j hj]
    show lN (va_up (fun _ => 0) n0 (0 + 1) j) = _
    by_cases e : j = n0
    · subst e; rw [va_up_s, if_pos rfl]
    · rw [va_up_o _ _ e, if_neg e]
set_option maxRecDepth 100000 in
set_option maxHeartbeats 8000000 in
theorem m_X4_lowest {G : fGm} {σ : fSt} {τ : fLt} {A F p : Nat} (hA : τ 72 1 = lN A) (hF : τ 72 0 = lN F) (hA34 : A < 2 ^ 34) (hFA : F ≤ A) (hA0 : 0 < A) (hp : p < 2 ^ 34) : MS G iX4_lowest 0 [.ref 72, .long (lN p)] σ τ (rT (some (.long (lN (p / Nat.gcd A F)))) σ τ) := by
  refine ms_of (by decide +kernel) (Nat.le_of_ble_eq_true rfl) ?_
  show VW _ _ _ _ _ _ 0 [(0, _), (1, _)] []
  have J : ∀ {d : Nat} {y : Int32} {rv : Int64}, 0 < d → d < 2 ^ 34 → Nat.gcd d 0 = Nat.gcd A F → VW G iX4_lowest (rT (some (.long (lN (p / Nat.gcd A F)))) σ τ) 0 σ τ 47 [(7, .int y), (5, .long rv), (3, .long (lN d)), (0, .ref 72), (1, .long (lN p))] [] := by
    intro d y rv hd0 hd34 hg
    show VW _ _ _ _ _ _ 47 [(7, _), (5, _), (3, _), (0, _), (1, _)] []
    refine v_lload_n (I := iX4_lowest) dX4_lowest_47 rfl ?_
    refine v_lconst (I := iX4_lowest) (v := 0) dX4_lowest_48 (by decide) ?_
    refine v_lcmp (I := iX4_lowest) dX4_lowest_49 ?_
    refine v_if_ne (I := iX4_lowest) (tgt := 57) dX4_lowest_50 (by decide) (fun c50 => ?_) (fun c50 => ?_)
    · refine v_lload_n (I := iX4_lowest) dX4_lowest_57 rfl ?_
      refine v_lload_n (I := iX4_lowest) dX4_lowest_58 rfl ?_
      refine v_ldiv (I := iX4_lowest) dX4_lowest_59 (fun h9 => c50 (cmp_z.mpr h9)) ?_
      rw [pk_lDiv (by omega) (by omega) (by omega)]
      exact v_lret (I := iX4_lowest) rfl dX4_lowest_60 ⟨by rw [← hg, Nat.gcd_zero_right], rfl, rfl⟩
    · exact absurd ((lN_z (by omega)).mp c50) (by omega)
  have key : ∀ (m i : Nat) {d r : Nat} {y : Int32} {dv rv : Int64}, i + m = 100 → 0 < d → d < 2 ^ 34 → r ≤ d → d * r < 2 ^ m → Nat.gcd d r = Nat.gcd A F → y = nI i → dv = lN d → rv = lN r → VW G iX4_lowest (rT (some (.long (lN (p / Nat.gcd A F)))) σ τ) 0 σ τ 14 [(7, .int y), (5, .long rv), (3, .long dv), (0, .ref 72), (1, .long (lN p))] [] := by
    intro m
    induction m with
    | zero =>
      intro i d r y dv rv hin hd0 hd34 hrd hm hg hy hdv hrv
      have hin0 : i = 100 := hin
      subst hy hdv hrv
      have hr0 : r = 0 := eu_0 hm hd0
      show VW _ _ _ _ _ _ 14 [(7, _), (5, _), (3, _), (0, _), (1, _)] []
      refine v_iload (I := iX4_lowest) dX4_lowest_14 rfl ?_
      refine v_bipush (I := iX4_lowest) (v := 100) dX4_lowest_16 (by decide) ?_
      refine v_icmp_ge (I := iX4_lowest) (tgt := 47) dX4_lowest_18 (by decide) (fun c18 => ?_) (fun c18 => ?_)
      · exact J hd0 hd34 (by rw [← hr0]; exact hg)
      · exact absurd (by rw [hin0]; exact Int32.le_refl _) c18
    | succ m ih =>
      intro i d r y dv rv hin hd0 hd34 hrd hm hg hy hdv hrv
      subst hy hdv hrv
      show VW _ _ _ _ _ _ 14 [(7, _), (5, _), (3, _), (0, _), (1, _)] []
      refine v_iload (I := iX4_lowest) dX4_lowest_14 rfl ?_
      refine v_bipush (I := iX4_lowest) (v := 100) dX4_lowest_16 (by decide) ?_
      refine v_icmp_ge (I := iX4_lowest) (tgt := 47) dX4_lowest_18 (by decide) (fun c18 => ?_) (fun c18 => ?_)
      · exact absurd c18 (by exact nI_ge (b := 100) (by omega) (by decide))
      · refine v_lload (I := iX4_lowest) dX4_lowest_21 rfl ?_
        refine v_lconst (I := iX4_lowest) (v := 0) dX4_lowest_23 (by decide) ?_
        refine v_lcmp (I := iX4_lowest) dX4_lowest_24 ?_
        refine v_if_eq (I := iX4_lowest) (tgt := 47) dX4_lowest_25 (by decide) (fun c25 => ?_) (fun c25 => ?_)
        · have hr0 : r = 0 := (lN_z (by omega)).mp c25
          exact J hd0 hd34 (by rw [← hr0]; exact hg)
        · have hrp : 0 < r := by
            rcases Nat.eq_zero_or_pos r with h9 | h9
            · exact absurd ((lN_z (by omega)).mpr h9) c25
            · exact h9
          have hh := eu_half hrp hrd hm
          refine v_lload_n (I := iX4_lowest) dX4_lowest_28 rfl ?_
          refine v_lload (I := iX4_lowest) dX4_lowest_29 rfl ?_
          refine v_lrem (I := iX4_lowest) dX4_lowest_31 (fun h9 => c25 (cmp_z.mpr h9)) ?_
          rw [pk_lRem (by omega) hrp (by omega)]
          refine v_lstore (I := iX4_lowest) (ls1 := [(8, _), (7, _), (5, _), (3, _), (0, _), (1, _)]) dX4_lowest_32 (by decide) rfl ?_
          refine v_lload (I := iX4_lowest) dX4_lowest_34 rfl ?_
          refine v_lstore_n (I := iX4_lowest) (ls1 := [(3, _), (8, _), (7, _), (5, _), (0, _), (1, _)]) dX4_lowest_36 (by decide) rfl ?_
          refine v_lload (I := iX4_lowest) dX4_lowest_37 rfl ?_
          refine v_lstore (I := iX4_lowest) (ls1 := [(5, _), (3, _), (8, _), (7, _), (0, _), (1, _)]) dX4_lowest_39 (by decide) rfl ?_
          refine v_iinc (I := iX4_lowest) (ls1 := [(7, _), (5, _), (3, _), (8, _), (0, _), (1, _)]) dX4_lowest_41 rfl rfl (by decide) rfl ?_
          refine v_goto (I := iX4_lowest) (tgt := 14) dX4_lowest_44 (by decide) ?_
          refine v_pick (I := iX4_lowest) (ls1 := [(7, _), (5, _), (3, _), (0, _), (1, _)]) [0, 1, 2, 4, 5] rfl ?_
          exact ih (i + 1) (d := r) (r := d % r) (by omega) (by omega) (by omega) hh.2 hh.1 (eu_gcd.trans hg) (nI_1 i) rfl rfl
  refine v_aload_n (I := iX4_lowest) dX4_lowest_0 rfl ?_
  refine v_get (I := iX4_lowest) g_X4_15 dX4_lowest_1 (by decide) (ae_72 _ _) rfl ?_
  rw [hA]
  refine v_lstore_n (I := iX4_lowest) (ls1 := [(3, _), (0, _), (1, _)]) dX4_lowest_4 (by decide) rfl ?_
  refine v_aload_n (I := iX4_lowest) dX4_lowest_5 rfl ?_
  refine v_get (I := iX4_lowest) g_X4_9 dX4_lowest_6 (by decide) (ae_72 _ _) rfl ?_
  rw [hF]
  refine v_lstore (I := iX4_lowest) (ls1 := [(5, _), (3, _), (0, _), (1, _)]) dX4_lowest_9 (by decide) rfl ?_
  refine v_iconst (I := iX4_lowest) (v := 0) dX4_lowest_11 (by decide) ?_
  refine v_istore (I := iX4_lowest) (ls1 := [(7, _), (5, _), (3, _), (0, _), (1, _)]) dX4_lowest_12 (by decide) rfl ?_
  exact key 100 0 rfl hA0 hA34 hFA (Nat.lt_of_lt_of_le (Nat.mul_lt_mul_of_lt_of_le hA34 (Nat.le_of_lt (Nat.lt_of_le_of_lt hFA hA34)) (by decide)) (by decide)) rfl rfl rfl rfl
set_option maxRecDepth 100000 in
set_option maxHeartbeats 8000000 in
theorem m_X9_ways {G : fGm} {σ : fSt} {τ : fLt} {ρ : fSt} (hC : CR σ ρ) {n w : Int32} : MS G iX9_ways 6 [.ref 0, .int n, .int w] σ τ (rCL σ (waysS ρ n w)) := by
  refine ms_of (by decide +kernel) (Nat.le_of_ble_eq_true rfl) ?_
  show VW _ _ _ _ _ _ 0 [(0, _), (1, _), (2, _)] []
  refine v_iload_n (I := iX9_ways) dX9_ways_0 rfl ?_
  refine v_iconst (I := iX9_ways) (v := 1) dX9_ways_1 (by decide) ?_
  refine v_bipush (I := iX9_ways) (v := 8) dX9_ways_2 (by decide) ?_
  refine v_callSi (I := iX9_ways) (I' := iX9_within) lk_X9_58 c_X9_within dX9_ways_4 (m_X9_within) rfl rfl (by decide) (by decide) (Nat.le_of_ble_eq_true rfl) ?_
  refine v_if_eqB (I := iX9_ways) (tgt := 19) dX9_ways_7 (by decide) (fun c7 => ?_) (fun c7 => ?_)
  · refine v_aload_n (I := iX9_ways) dX9_ways_19 rfl ?_
    refine v_iconst (I := iX9_ways) (v := 1) dX9_ways_20 (by decide) ?_
    refine v_callVi (I := iX9_ways) (I' := iX9_refused) lk_X9_62 c_X9_refused dX9_ways_21 (m_X9_refused (e := 1) (by decide) (by decide) (by decide)) rfl rfl (by decide) (ae_0 _ _) rfl (by decide) (by decide) (Nat.le_of_ble_eq_true rfl) ?_
    refine v_i2l (I := iX9_ways) dX9_ways_24 ?_
    exact v_lret (I := iX9_ways) rfl dX9_ways_25 (by unfold waysS; rw [if_neg (by grind)]; exact ⟨rfl, CR_err hC (by decide) (by decide), FC.up (by decide)⟩)
  · refine v_iload_n (I := iX9_ways) dX9_ways_10 rfl ?_
    refine v_iconst (I := iX9_ways) (v := 0) dX9_ways_11 (by decide) ?_
    refine v_iconst (I := iX9_ways) (v := 1) dX9_ways_12 (by decide) ?_
    refine v_callSi (I := iX9_ways) (I' := iX9_within) lk_X9_58 c_X9_within dX9_ways_13 (m_X9_within) rfl rfl (by decide) (by decide) (Nat.le_of_ble_eq_true rfl) ?_
    refine v_if_neB (I := iX9_ways) (tgt := 26) dX9_ways_16 (by decide) (fun c16 => ?_) (fun c16 => ?_)
    · have hgood : (1 ≤ n ∧ n ≤ 8) ∧ 0 ≤ w ∧ w ≤ 1 := by grind
      obtain ⟨N, hN8, rfl⟩ := in2_nI (x := n) (n := 9) (by decide) ⟨by grind, by have := hgood.1.2; show n < 9; grind⟩
      have hNc : (nI N).toNatClampNeg = N := nI_clamp (by omega)
      refine v_aload_n (I := iX9_ways) dX9_ways_26 rfl ?_
      refine v_get (I := iX9_ways) g_X9_10 dX9_ways_27 (by decide) (ae_0 _ _) rfl ?_
      refine v_get (I := iX9_ways) g_X9_120 dX9_ways_30 (by decide) (ae_w0 (by decide) _ _) rfl ?_
      refine v_get (I := iX9_ways) g_X9_124 dX9_ways_33 (by decide) (ae_w8 (by decide) _ _) rfl ?_
      rw [V_n15 hC.1]
      refine v_if_ne (I := iX9_ways) (tgt := 46) dX9_ways_36 (by decide) (fun c36 => ?_) (fun c36 => ?_)
      · have h15 : 0 < ρ 88 15 := by
          have h9 : (0 : Int32) ≤ ρ 88 15 := (hC.2.2.2.2.2.1.1 15 (by decide)).1
          grind
        have hwq : wI (0 + N) (waysQ (ρ 88) N) := wI_go N 0 (wI_0 hC.2.2.2.2.2.1 h15)
        have hwl := wI_lt hwq (by omega)
        have hw1 : 1 ≤ (waysQ (ρ 88) N).2.2.2 := hwq.2.2.2.1
        refine v_aload_n (I := iX9_ways) dX9_ways_46 rfl ?_
        refine v_get (I := iX9_ways) g_X9_19 dX9_ways_47 (by decide) (ae_0 _ _) rfl ?_
        refine v_aload_n (I := iX9_ways) dX9_ways_50 rfl ?_
        refine v_get (I := iX9_ways) g_X9_10 dX9_ways_51 (by decide) (ae_0 _ _) rfl ?_
        refine v_callVvP (I := iX9_ways) (I' := iX8_become) lk_X9_204 c_X8_become dX9_ways_54 (m_X8_become_20) rfl rfl (by decide) (ae_w0 (by decide) _ _) rfl (by decide) (by decide) (Nat.le_of_ble_eq_true rfl) (fun s54 h54 => ?_)
        refine v_aload_n (I := iX9_ways) dX9_ways_57 rfl ?_
        refine v_get (I := iX9_ways) g_X9_32 dX9_ways_58 (by decide) (ae_0 _ _) rfl ?_
        refine v_aload_n (I := iX9_ways) dX9_ways_61 rfl ?_
        refine v_get (I := iX9_ways) g_X9_19 dX9_ways_62 (by decide) (ae_0 _ _) rfl ?_
        refine v_iload_n (I := iX9_ways) dX9_ways_65 rfl ?_
        refine v_callV (I := iX9_ways) (I' := iX4_follow) lk_X9_207 c_X4_follow dX9_ways_66 (m_X4_follow (n := N) (h54.1 _ hC.1) hC.2.2.2.2.2.1 h15 (by omega)) rfl rfl (by decide) (ae_72 _ _) rfl (by decide) (by decide) (Nat.le_of_ble_eq_true rfl) (fun v66 s66 t66 h66 => ?_)
        obtain ⟨rfl, hF9, hf, ha⟩ := h66
        have hC9 : CR s66 ρ := CR_ahead hC (h54.2.tr hF9)
        have hFF : FC σ s66 := FrW.C (by decide) (h54.2.tr hF9)
        show VW _ _ _ _ _ _ _ _ []
        refine v_aload_n (I := iX9_ways) dX9_ways_69 rfl ?_
        refine v_get (I := iX9_ways) g_X9_32 dX9_ways_70 (by decide) (ae_0 _ _) rfl ?_
        refine v_iload_n (I := iX9_ways) dX9_ways_73 rfl ?_
        refine v_if_ne (I := iX9_ways) (tgt := 87) dX9_ways_74 (by decide) (fun c74 => ?_) (fun c74 => ?_)
        · refine v_aload_n (I := iX9_ways) dX9_ways_87 rfl ?_
          refine v_get (I := iX9_ways) g_X9_32 dX9_ways_88 (by decide) (ae_0 _ _) rfl ?_
          refine v_get (I := iX9_ways) g_X9_215 dX9_ways_91 (by decide) (ae_72 _ _) rfl ?_
          rw [ha]
          refine v_callVl (I := iX9_ways) (I' := iX4_lowest) lk_X9_218 c_X4_lowest dX9_ways_94 (m_X4_lowest (A := (waysQ (ρ 88) N).2.2.2) (F := (waysQ (ρ 88) N).2.2.1) ha hf hwl.1 hwl.2.1 (by omega) (by omega)) rfl rfl (by decide) (ae_72 _ _) rfl (by decide) (by decide) (Nat.le_of_ble_eq_true rfl) ?_
          exact v_lret (I := iX9_ways) rfl dX9_ways_97 (by unfold waysS; rw [if_pos hgood, if_neg c36, hNc]; exact ⟨by first | rw [if_pos c74] | rw [if_neg c74], hC9, hFF⟩)
        · refine v_aload_n (I := iX9_ways) dX9_ways_77 rfl ?_
          refine v_get (I := iX9_ways) g_X9_32 dX9_ways_78 (by decide) (ae_0 _ _) rfl ?_
          refine v_get (I := iX9_ways) g_X9_211 dX9_ways_81 (by decide) (ae_72 _ _) rfl ?_
          rw [hf]
          refine v_goto (I := iX9_ways) (tgt := 94) dX9_ways_84 (by decide) ?_
          refine v_callVl (I := iX9_ways) (I' := iX4_lowest) lk_X9_218 c_X4_lowest dX9_ways_94 (m_X4_lowest (A := (waysQ (ρ 88) N).2.2.2) (F := (waysQ (ρ 88) N).2.2.1) ha hf hwl.1 hwl.2.1 (by omega) (by omega)) rfl rfl (by decide) (ae_72 _ _) rfl (by decide) (by decide) (Nat.le_of_ble_eq_true rfl) ?_
          exact v_lret (I := iX9_ways) rfl dX9_ways_97 (by unfold waysS; rw [if_pos hgood, if_neg c36, hNc]; exact ⟨by first | rw [if_pos c74] | rw [if_neg c74], hC9, hFF⟩)
      · refine v_aload_n (I := iX9_ways) dX9_ways_39 rfl ?_
        refine v_iconst (I := iX9_ways) (v := 3) dX9_ways_40 (by decide) ?_
        refine v_callVi (I := iX9_ways) (I' := iX9_refused) lk_X9_62 c_X9_refused dX9_ways_41 (m_X9_refused (e := 3) (by decide) (by decide) (by decide)) rfl rfl (by decide) (ae_0 _ _) rfl (by decide) (by decide) (Nat.le_of_ble_eq_true rfl) ?_
        refine v_i2l (I := iX9_ways) dX9_ways_44 ?_
        exact v_lret (I := iX9_ways) rfl dX9_ways_45 (by unfold waysS; rw [if_pos hgood, if_pos c36]; exact ⟨rfl, CR_err hC (by decide) (by decide), FC.up (by decide)⟩)
    · refine v_aload_n (I := iX9_ways) dX9_ways_19 rfl ?_
      refine v_iconst (I := iX9_ways) (v := 1) dX9_ways_20 (by decide) ?_
      refine v_callVi (I := iX9_ways) (I' := iX9_refused) lk_X9_62 c_X9_refused dX9_ways_21 (m_X9_refused (e := 1) (by decide) (by decide) (by decide)) rfl rfl (by decide) (ae_0 _ _) rfl (by decide) (by decide) (Nat.le_of_ble_eq_true rfl) ?_
      refine v_i2l (I := iX9_ways) dX9_ways_24 ?_
      exact v_lret (I := iX9_ways) rfl dX9_ways_25 (by unfold waysS; rw [if_neg (by grind)]; exact ⟨rfl, CR_err hC (by decide) (by decide), FC.up (by decide)⟩)
