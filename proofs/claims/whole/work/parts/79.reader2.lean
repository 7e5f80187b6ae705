/-- the end of a step of the reader -/
def kP (τ : fLt) (σ : fSt) (R : Option cS) : Option Value → fSt → fLt → Prop := rP (some (.int (if R.isSome = true then 1 else 0))) τ (fun σ' => (∀ S', R = some S' → KR σ' S') ∧ FrK σ σ')
theorem kP_no {τ : fLt} {σ σ' : fSt} {R : Option cS} (hR : R = none) (hF : FrK σ σ') : kP τ σ R (some (.int 0)) σ' τ := by
  subst hR
  exact ⟨rfl, rfl, (fun S' h => nomatch h), hF⟩
theorem kP_yes {τ : fLt} {σ σ' : fSt} {R : Option cS} {S : cS} (hR : R = some S) (hK : KR σ' S) (hF : FrK σ σ') : kP τ σ R (some (.int 1)) σ' τ := by
  subst hR
  exact ⟨rfl, rfl, (fun S' h => by cases h; exact hK), hF⟩
theorem i2c_b : ∀ c, c < 256 → ((nI c).toUInt32 % 65536).toInt32 = nI c := by decide +kernel
theorem i2c_in {b : Int32} (hb : 0 ≤ b ∧ b ≤ 255) : (b.toUInt32 % 65536).toInt32 = b := by
  obtain ⟨c, hc, rfl⟩ := in2_nI (x := b) (n := 256) (by decide) ⟨hb.1, by have := hb.2; show b < 256; grind⟩
  exact i2c_b c hc
theorem isD_iff {b : Int32} : isD b = true ↔ 48 ≤ b ∧ b ≤ 57 := by
  unfold isD
  rw [Bool.and_eq_true, decide_eq_true_iff, decide_eq_true_iff]
set_option maxRecDepth 100000 in
set_option maxHeartbeats 8000000 in
theorem m_X2_opens {G : fGm} {σ : fSt} {τ : fLt} {O P : List Int32} {k nm : Int32} {dg : Nat} {due : Bool} (hK : KR σ (O, P, k, dg, nm, due)) {b : Int32} (hz : O.length + P.length + 1 ≤ 60) : MS G iX2_opens 2 [.ref 67, .int b] σ τ (kP τ σ (if 5 ≤ k then none else some (O, b :: P, k + 1, dg, nm, due))) := by
  refine ms_of (by decide +kernel) (Nat.le_of_ble_eq_true rfl) ?_
  show VW _ _ _ _ _ _ 0 [(0, _), (1, _)] []
  refine v_aload_n (I := iX2_opens) dX2_opens_0 rfl ?_
  refine v_get (I := iX2_opens) g_X2_26 dX2_opens_1 (by decide) (ae_67 _ _) rfl ?_
  rw [hK.op]
  refine v_iconst (I := iX2_opens) (v := 5) dX2_opens_4 (by decide) ?_
  refine v_icmp_lt (I := iX2_opens) (tgt := 10) dX2_opens_5 (by decide) (fun c5 => ?_) (fun c5 => ?_)
  · refine v_aload_n (I := iX2_opens) dX2_opens_10 rfl ?_
    refine v_dup (I := iX2_opens) dX2_opens_11 rfl ?_
    refine v_get (I := iX2_opens) g_X2_26 dX2_opens_12 (by decide) (ae_67 _ _) rfl ?_
    rw [hK.op]
    refine v_iconst (I := iX2_opens) (v := 1) dX2_opens_15 (by decide) ?_
    refine v_iadd (I := iX2_opens) dX2_opens_16 ?_
    refine v_putI (I := iX2_opens) p_X2_26 dX2_opens_17 (by decide) (ae_67 _ _) (ae_67 _ _) rfl rfl (by simp) ?_
    have hK2 := hK.f3 (k + 1)
    have hF2 : FrK σ (up2 σ 67 3 (k + 1)) := FrK.up (by decide)
    show VW _ _ _ _ (up2 σ 67 3 (k + 1)) _ _ _ _
    generalize up2 σ 67 3 (k + 1) = σ2 at hK2 hF2 ⊢
    refine v_aload_n (I := iX2_opens) dX2_opens_20 rfl ?_
    refine v_iload_n (I := iX2_opens) dX2_opens_21 rfl ?_
    refine v_callVv (I := iX2_opens) (I' := iX2_push) lk_X2_81 c_X2_push dX2_opens_22 (m_X2_push (n := P.length) (x := b) hK2.pn (by omega)) rfl rfl (by decide) (ae_67 _ _) rfl (by decide) (by decide) (Nat.le_of_ble_eq_true rfl) ?_
    refine v_iconst (I := iX2_opens) (v := 1) dX2_opens_25 (by decide) ?_
    exact v_zret (I := iX2_opens) rfl rfl dX2_opens_26 (kP_yes (if_neg (by grind)) (hK2.push b) (hF2.tr ((FrK.up (by decide)).tr (FrK.up (by decide)))))
  · refine v_iconst (I := iX2_opens) (v := 0) dX2_opens_8 (by decide) ?_
    exact v_zret (I := iX2_opens) rfl rfl dX2_opens_9 (kP_no (if_pos (by grind)) FrK.rf)
set_option maxRecDepth 100000 in
set_option maxHeartbeats 8000000 in
theorem m_X2_joins {G : fGm} {σ : fSt} {τ : fLt} {O P : List Int32} {k nm : Int32} {dg : Nat} {due : Bool} (hK : KR σ (O, P, k, dg, nm, due)) {b : Int32} (hz : O.length + P.length + 1 ≤ 60) : MS G iX2_joins 4 [.ref 67, .int b] σ τ (kP τ σ (kJoin b (O, P, k, dg, nm, due))) := by
  refine ms_of (by decide +kernel) (Nat.le_of_ble_eq_true rfl) ?_
  show VW _ _ _ _ _ _ 0 [(0, _), (1, _)] []
  refine v_iload_n (I := iX2_joins) dX2_joins_0 rfl ?_
  refine v_callSi (I := iX2_joins) (I' := iX2_rankOf) lk_X2_87 c_X2_rankOf dX2_joins_1 (m_X2_rankOf) rfl rfl (by decide) (by decide) (Nat.le_of_ble_eq_true rfl) ?_
  
  refine v_istore_n (I := iX2_joins) (ls1 := [(2, _), (0, _), (1, _)]) dX2_joins_4 (by decide) rfl ?_
  refine v_iload_n (I := iX2_joins) dX2_joins_5 rfl ?_
  refine v_if_ne (I := iX2_joins) (tgt := 11) dX2_joins_6 (by decide) (fun c6 => ?_) (fun c6 => ?_)
  · have hr0 : ¬ rkN b = 0 := fun h9 => c6 (by rw [h9]; rfl)
    refine v_aload_n (I := iX2_joins) dX2_joins_11 rfl ?_
    refine v_iload_n (I := iX2_joins) dX2_joins_12 rfl ?_
    refine v_callVvP (I := iX2_joins) (I' := iX2_settle) lk_X2_53 c_X2_settle dX2_joins_13 (m_X2_settle (r := rkN b) (rk_le b) hK (by omega)) rfl rfl (by decide) (ae_67 _ _) rfl (by decide) (by decide) (Nat.le_of_ble_eq_true rfl) (fun s13 h13 => ?_)
    obtain ⟨hK2, hF2⟩ := h13
    have hl2 := kSet_len (r := rkN b) P O
    refine v_iload_n (I := iX2_joins) dX2_joins_16 rfl ?_
    refine v_iconst (I := iX2_joins) (v := 3) dX2_joins_17 (by decide) ?_
    refine v_icmp_ne (I := iX2_joins) (tgt := 34) dX2_joins_18 (by decide) (fun c18 => ?_) (fun c18 => ?_)
    · have h3 : ¬ rkN b = 3 := fun h9 => c18 (by rw [h9]; rfl)
      have hno : ¬ (rkN b = 3 ∧ rkN (tp (kSet (rkN b) P O).2) = 3) := fun h9 => h3 h9.1
      have hjn : kJoin b (O, P, k, dg, nm, due) = some ((kSet (rkN b - 1) (kSet (rkN b) P O).2 (kSet (rkN b) P O).1).1, b :: (kSet (rkN b - 1) (kSet (rkN b) P O).2 (kSet (rkN b) P O).1).2, k, dg, nm, true) := by
        unfold kJoin
        rw [if_neg hr0, if_neg hno]
      refine v_aload_n (I := iX2_joins) dX2_joins_34 rfl ?_
      refine v_iload_n (I := iX2_joins) dX2_joins_35 rfl ?_
      refine v_iconst (I := iX2_joins) (v := 1) dX2_joins_36 (by decide) ?_
      refine v_isub (I := iX2_joins) dX2_joins_37 ?_
      rw [show nI (rkN b) - 1 = nI (rkN b - 1) from pk_sub (b := 1) (by omega)]
      refine v_callVvP (I := iX2_joins) (I' := iX2_settle) lk_X2_53 c_X2_settle dX2_joins_38 (m_X2_settle (r := rkN b - 1) (by have := rk_le b; omega) hK2 (by omega)) rfl rfl (by decide) (ae_67 _ _) rfl (by decide) (by decide) (Nat.le_of_ble_eq_true rfl) (fun s38 h38 => ?_)
      obtain ⟨hK3, hF3⟩ := h38
      have hl3 := kSet_len (r := rkN b - 1) (kSet (rkN b) P O).2 (kSet (rkN b) P O).1
      refine v_aload_n (I := iX2_joins) dX2_joins_41 rfl ?_
      refine v_iload_n (I := iX2_joins) dX2_joins_42 rfl ?_
      refine v_callVv (I := iX2_joins) (I' := iX2_push) lk_X2_81 c_X2_push dX2_joins_43 (m_X2_push (n := (kSet (rkN b - 1) (kSet (rkN b) P O).2 (kSet (rkN b) P O).1).2.length) (x := b) hK3.pn (by omega)) rfl rfl (by decide) (ae_67 _ _) rfl (by decide) (by decide) (Nat.le_of_ble_eq_true rfl) ?_
      have hK4 := hK3.push b
      have hF4 := hF2.tr (hF3.tr ((FrK.up (k := 71) (j := (kSet (rkN b - 1) (kSet (rkN b) P O).2 (kSet (rkN b) P O).1).2.length) (x := b) (by decide)).tr (FrK.up (k := 67) (j := 2) (x := nI ((kSet (rkN b - 1) (kSet (rkN b) P O).2 (kSet (rkN b) P O).1).2.length + 1)) (by decide))))
      refine v_aload_n (I := iX2_joins) dX2_joins_46 rfl ?_
      refine v_iconst (I := iX2_joins) (v := 1) dX2_joins_47 (by decide) ?_
      refine v_putI (I := iX2_joins) p_X2_35 dX2_joins_48 (by decide) (ae_67 _ _) (ae_67 _ _) rfl rfl (by simp) ?_
      refine v_iconst (I := iX2_joins) (v := 1) dX2_joins_51 (by decide) ?_
      exact v_zret (I := iX2_joins) rfl rfl dX2_joins_52 (kP_yes hjn (hK4.f6 true rfl) (hF4.tr (FrK.up (by decide))))
    · have h3 : rkN b = 3 := by
        have := rk_le b
        rcases (show rkN b = 0 ∨ rkN b = 1 ∨ rkN b = 2 ∨ rkN b = 3 ∨ rkN b = 4 ∨ rkN b = 5 by omega) with h9 | h9 | h9 | h9 | h9 | h9 <;> rw [h9] at c18 <;> first | exact h9 | exact absurd c18 (by decide)
      refine v_aload_n (I := iX2_joins) dX2_joins_21 rfl ?_
      refine v_callVi (I := iX2_joins) (I' := iX2_top) lk_X2_90 c_X2_top dX2_joins_22 (m_X2_top hK2 (by show (kSet (rkN b) P O).2.length ≤ 60; omega)) rfl rfl (by decide) (ae_67 _ _) rfl (by decide) (by decide) (Nat.le_of_ble_eq_true rfl) ?_
      refine v_callSi (I := iX2_joins) (I' := iX2_rankOf) lk_X2_87 c_X2_rankOf dX2_joins_25 (m_X2_rankOf) rfl rfl (by decide) (by decide) (Nat.le_of_ble_eq_true rfl) ?_
      refine v_iconst (I := iX2_joins) (v := 3) dX2_joins_28 (by decide) ?_
      refine v_icmp_ne (I := iX2_joins) (tgt := 34) dX2_joins_29 (by decide) (fun c29 => ?_) (fun c29 => ?_)
      · have hno : ¬ (rkN b = 3 ∧ rkN (tp (kSet (rkN b) P O).2) = 3) := fun h9 => c29 (by show nI (rkN (tp (kSet (rkN b) P O).2)) = 3; rw [h9.2]; rfl)
        have hjn : kJoin b (O, P, k, dg, nm, due) = some ((kSet (rkN b - 1) (kSet (rkN b) P O).2 (kSet (rkN b) P O).1).1, b :: (kSet (rkN b - 1) (kSet (rkN b) P O).2 (kSet (rkN b) P O).1).2, k, dg, nm, true) := by
          unfold kJoin
          rw [if_neg hr0, if_neg hno]
        refine v_aload_n (I := iX2_joins) dX2_joins_34 rfl ?_
        refine v_iload_n (I := iX2_joins) dX2_joins_35 rfl ?_
        refine v_iconst (I := iX2_joins) (v := 1) dX2_joins_36 (by decide) ?_
        refine v_isub (I := iX2_joins) dX2_joins_37 ?_
        rw [show nI (rkN b) - 1 = nI (rkN b - 1) from pk_sub (b := 1) (by omega)]
        refine v_callVvP (I := iX2_joins) (I' := iX2_settle) lk_X2_53 c_X2_settle dX2_joins_38 (m_X2_settle (r := rkN b - 1) (by have := rk_le b; omega) hK2 (by omega)) rfl rfl (by decide) (ae_67 _ _) rfl (by decide) (by decide) (Nat.le_of_ble_eq_true rfl) (fun s38 h38 => ?_)
        obtain ⟨hK3, hF3⟩ := h38
        have hl3 := kSet_len (r := rkN b - 1) (kSet (rkN b) P O).2 (kSet (rkN b) P O).1
        refine v_aload_n (I := iX2_joins) dX2_joins_41 rfl ?_
        refine v_iload_n (I := iX2_joins) dX2_joins_42 rfl ?_
        refine v_callVv (I := iX2_joins) (I' := iX2_push) lk_X2_81 c_X2_push dX2_joins_43 (m_X2_push (n := (kSet (rkN b - 1) (kSet (rkN b) P O).2 (kSet (rkN b) P O).1).2.length) (x := b) hK3.pn (by omega)) rfl rfl (by decide) (ae_67 _ _) rfl (by decide) (by decide) (Nat.le_of_ble_eq_true rfl) ?_
        have hK4 := hK3.push b
        have hF4 := hF2.tr (hF3.tr ((FrK.up (k := 71) (j := (kSet (rkN b - 1) (kSet (rkN b) P O).2 (kSet (rkN b) P O).1).2.length) (x := b) (by decide)).tr (FrK.up (k := 67) (j := 2) (x := nI ((kSet (rkN b - 1) (kSet (rkN b) P O).2 (kSet (rkN b) P O).1).2.length + 1)) (by decide))))
        refine v_aload_n (I := iX2_joins) dX2_joins_46 rfl ?_
        refine v_iconst (I := iX2_joins) (v := 1) dX2_joins_47 (by decide) ?_
        refine v_putI (I := iX2_joins) p_X2_35 dX2_joins_48 (by decide) (ae_67 _ _) (ae_67 _ _) rfl rfl (by simp) ?_
        refine v_iconst (I := iX2_joins) (v := 1) dX2_joins_51 (by decide) ?_
        exact v_zret (I := iX2_joins) rfl rfl dX2_joins_52 (kP_yes hjn (hK4.f6 true rfl) (hF4.tr (FrK.up (by decide))))
      · have h4 : rkN (tp (kSet (rkN b) P O).2) = 3 := by
          have := rk_le (tp (kSet (rkN b) P O).2)
          have c29 : nI (rkN (tp (kSet (rkN b) P O).2)) = 3 := c29
          rcases (show rkN (tp (kSet (rkN b) P O).2) = 0 ∨ rkN (tp (kSet (rkN b) P O).2) = 1 ∨ rkN (tp (kSet (rkN b) P O).2) = 2 ∨ rkN (tp (kSet (rkN b) P O).2) = 3 ∨ rkN (tp (kSet (rkN b) P O).2) = 4 ∨ rkN (tp (kSet (rkN b) P O).2) = 5 by omega) with h9 | h9 | h9 | h9 | h9 | h9 <;> rw [h9] at c29 <;> first | exact h9 | exact absurd c29 (by decide)
        refine v_iconst (I := iX2_joins) (v := 0) dX2_joins_32 (by decide) ?_
        exact v_zret (I := iX2_joins) rfl rfl dX2_joins_33 (kP_no (by unfold kJoin; rw [if_neg hr0, if_pos ⟨h3, h4⟩]) hF2)
  · have hr0 : rkN b = 0 := by
      rcases Nat.eq_zero_or_pos (rkN b) with h9 | h9
      · exact h9
      · exact absurd c6 (nI_ne0 h9 (by have := rk_le b; omega))
    refine v_iconst (I := iX2_joins) (v := 0) dX2_joins_9 (by decide) ?_
    exact v_zret (I := iX2_joins) rfl rfl dX2_joins_10 (kP_no (by unfold kJoin; rw [if_pos hr0]) FrK.rf)
set_option maxRecDepth 100000 in
set_option maxHeartbeats 8000000 in
theorem m_X2_closes {G : fGm} {σ : fSt} {τ : fLt} {O P : List Int32} {k nm : Int32} {dg : Nat} {due : Bool} (hK : KR σ (O, P, k, dg, nm, due)) (hz : O.length + P.length ≤ 60) : MS G iX2_closes 4 [.ref 67] σ τ (kP τ σ (kClose (O, P, k, dg, nm, due))) := by
  refine ms_of (by decide +kernel) (Nat.le_of_ble_eq_true rfl) ?_
  show VW _ _ _ _ _ _ 0 [(0, _)] []
  refine v_aload_n (I := iX2_closes) dX2_closes_0 rfl ?_
  refine v_iconst (I := iX2_closes) (v := 0) dX2_closes_1 (by decide) ?_
  refine v_callVvP (I := iX2_closes) (I' := iX2_settle) lk_X2_53 c_X2_settle dX2_closes_2 (m_X2_settle (r := 0) (by decide) hK (by omega)) rfl rfl (by decide) (ae_67 _ _) rfl (by decide) (by decide) (Nat.le_of_ble_eq_true rfl) (fun s2 h2 => ?_)
  obtain ⟨hK2, hF2⟩ := h2
  have hl2 := kSet_len (r := 0) P O
  cases hq : (kSet 0 P O).2 with
  | nil =>
    rw [hq] at hK2
    refine v_aload_n (I := iX2_closes) dX2_closes_5 rfl ?_
    refine v_get (I := iX2_closes) g_X2_22 dX2_closes_6 (by decide) (ae_67 _ _) rfl ?_
    rw [hK2.pn]
    refine v_if_ne (I := iX2_closes) (tgt := 14) dX2_closes_9 (by decide) (fun c9 => ?_) (fun c9 => ?_)
    · exact absurd rfl c9
    · refine v_iconst (I := iX2_closes) (v := 0) dX2_closes_12 (by decide) ?_
      exact v_zret (I := iX2_closes) rfl rfl dX2_closes_13 (kP_no (by unfold kClose; simp only [hq]) hF2)
  | cons y P2 =>
    rw [hq] at hK2 hl2
    rw [List.length_cons] at hl2
    refine v_aload_n (I := iX2_closes) dX2_closes_5 rfl ?_
    refine v_get (I := iX2_closes) g_X2_22 dX2_closes_6 (by decide) (ae_67 _ _) rfl ?_
    rw [hK2.pn]
    refine v_if_ne (I := iX2_closes) (tgt := 14) dX2_closes_9 (by decide) (fun c9 => ?_) (fun c9 => ?_)
    · refine v_aload_n (I := iX2_closes) dX2_closes_14 rfl ?_
      refine v_dup (I := iX2_closes) dX2_closes_15 rfl ?_
      refine v_get (I := iX2_closes) g_X2_22 dX2_closes_16 (by decide) (ae_67 _ _) rfl ?_
      rw [hK2.pn]
      refine v_iconst (I := iX2_closes) (v := 1) dX2_closes_19 (by decide) ?_
      refine v_isub (I := iX2_closes) dX2_closes_20 ?_
      rw [show nI (((kSet 0 P O).1, y :: P2, k, dg, nm, due) : cS).2.1.length - 1 = nI P2.length from nI_pred _]
      refine v_putI (I := iX2_closes) p_X2_22 dX2_closes_21 (by decide) (ae_67 _ _) (ae_67 _ _) rfl rfl (by simp) ?_
      have hK3 := hK2.pop
      have hF3 : FrK s2 (up2 s2 67 2 (nI P2.length)) := FrK.up (by decide)
      generalize up2 s2 67 2 (nI P2.length) = σ3 at hK3 hF3 ⊢
      refine v_aload_n (I := iX2_closes) dX2_closes_24 rfl ?_
      refine v_dup (I := iX2_closes) dX2_closes_25 rfl ?_
      refine v_get (I := iX2_closes) g_X2_26 dX2_closes_26 (by decide) (ae_67 _ _) rfl ?_
      rw [hK3.op]
      refine v_iconst (I := iX2_closes) (v := 1) dX2_closes_29 (by decide) ?_
      refine v_isub (I := iX2_closes) dX2_closes_30 ?_
      refine v_putI (I := iX2_closes) p_X2_26 dX2_closes_31 (by decide) (ae_67 _ _) (ae_67 _ _) rfl rfl (by simp) ?_
      have hK4 := hK3.f3 (k - 1)
      have hF4 : FrK σ3 (up2 σ3 67 3 (k - 1)) := FrK.up (by decide)
      show VW _ _ _ _ (up2 σ3 67 3 (k - 1)) _ _ _ _
      generalize up2 σ3 67 3 (k - 1) = σ4 at hK4 hF4 ⊢
      refine v_aload_n (I := iX2_closes) dX2_closes_34 rfl ?_
      refine v_callVvP (I := iX2_closes) (I' := iX2_settleNots) lk_X2_84 c_X2_settleNots dX2_closes_35 (m_X2_settleNots hK4 (by omega)) rfl rfl (by decide) (ae_67 _ _) rfl (by decide) (by decide) (Nat.le_of_ble_eq_true rfl) (fun s35 h35 => ?_)
      refine v_iconst (I := iX2_closes) (v := 1) dX2_closes_38 (by decide) ?_
      exact v_zret (I := iX2_closes) rfl rfl dX2_closes_39 (kP_yes (by unfold kClose; simp only [hq]) h35.1 (hF2.tr (hF3.tr (hF4.tr h35.2))))
    · exact absurd c9 (by show ¬ nI (P2.length + 1) = 0; exact nI_ne0 (by omega) (by omega))
set_option maxRecDepth 100000 in
set_option maxHeartbeats 8000000 in
theorem m_X2_goesOnWith {G : fGm} {σ : fSt} {τ : fLt} {O P : List Int32} {k nm : Int32} {dg : Nat} {due : Bool} (hK : KR σ (O, P, k, dg, nm, due)) {i : Nat} (hi : i < 2) {b : Int32} (hb : 0 ≤ b ∧ b ≤ 255) (hz : szS (O, P, k, dg, nm, due) + 1 ≤ 60) (hd4 : dg ≤ 4) : MS G iX2_goesOnWith 6 [.ref 67, .int b, .ref (1010 + i)] σ τ (kP τ σ (kGo i b (O, P, k, dg, nm, due))) := by
  refine ms_of (by decide +kernel) (Nat.le_of_ble_eq_true rfl) ?_
  show VW _ _ _ _ _ _ 0 [(0, _), (1, _), (2, _)] []
  have hz60 : szS (O, P, k, dg, nm, due) ≤ 60 := by omega
  have J : ¬ (isD b = true ∧ 0 < dg ∧ dg < 4) → VW G iX2_goesOnWith (kP τ σ (kGo i b (O, P, k, dg, nm, due))) 6 σ τ 56 [(3, .int (if 48 ≤ b ∧ b ≤ 57 then 1 else 0)), (0, .ref 67), (1, .int b), (2, .ref (1010 + i))] [] := by
    intro hno
    show VW _ _ _ _ _ _ 56 [(3, _), (0, _), (1, _), (2, _)] []
    refine v_aload_n (I := iX2_goesOnWith) dX2_goesOnWith_56 rfl ?_
    refine v_callVvP (I := iX2_goesOnWith) (I' := iX2_endNumber) lk_X2_50 c_X2_endNumber dX2_goesOnWith_57 (m_X2_endNumber hK hz60 hd4) rfl rfl (by decide) (ae_67 _ _) rfl (by decide) (by decide) (Nat.le_of_ble_eq_true rfl) (fun s57 h57 => ?_)
    obtain ⟨hK1, hF1⟩ := h57
    have hez := kEnd_sz (O, P, k, dg, nm, due)
    have hgo : kGo i b (O, P, k, dg, nm, due) = kGoE i b (kEnd (O, P, k, dg, nm, due)) := by
      unfold kGo
      rw [if_neg hno]
    rw [hgo]
    generalize kEnd (O, P, k, dg, nm, due) = E at hK1 hez ⊢
    obtain ⟨O1, P1, k1, dg1, nm1, due1⟩ := E
    have hd1 : dg1 = 0 := hez.2
    subst hd1
    have hz1 : O1.length + P1.length + 0 ≤ szS (O, P, k, dg, nm, due) := hez.1
    refine v_aload_n (I := iX2_goesOnWith) dX2_goesOnWith_60 rfl ?_
    refine v_get (I := iX2_goesOnWith) g_X2_35 dX2_goesOnWith_61 (by decide) (ae_67 _ _) rfl ?_
    rw [hK1.du]
    refine v_if_ne (I := iX2_goesOnWith) (tgt := 86) dX2_goesOnWith_64 (by decide) (fun c64 => ?_) (fun c64 => ?_)
    · have hdu : due1 = true := by
        cases due1 with
        | true => rfl
        | false => exact absurd rfl c64
      subst hdu
      refine v_iload_n (I := iX2_goesOnWith) dX2_goesOnWith_86 rfl ?_
      refine v_bipush (I := iX2_goesOnWith) (v := 33) dX2_goesOnWith_87 (by decide) ?_
      refine v_icmp_eq (I := iX2_goesOnWith) (tgt := 98) dX2_goesOnWith_89 (by decide) (fun c89 => ?_) (fun c89 => ?_)
      · refine v_aload_n (I := iX2_goesOnWith) dX2_goesOnWith_98 rfl ?_
        refine v_iload_n (I := iX2_goesOnWith) dX2_goesOnWith_99 rfl ?_
        refine v_callViP (I := iX2_goesOnWith) (I' := iX2_opens) lk_X2_69 c_X2_opens dX2_goesOnWith_100 (m_X2_opens (b := b) hK1 (by omega)) rfl rfl (by decide) (ae_67 _ _) rfl (by decide) (by decide) (Nat.le_of_ble_eq_true rfl) (fun s100 h100 => ?_)
        exact v_zret (I := iX2_goesOnWith) rfl nar_b dX2_goesOnWith_103 (by unfold kGoE; rw [if_neg (fun h => nomatch h), if_pos (by first | exact Or.inl c89 | exact Or.inr c95 | exact Or.inl (Decidable.byContradiction fun h9 => h9 (by grind)) | grind)]; exact ⟨rfl, rfl, h100.1, hF1.tr h100.2⟩)
      · refine v_iload_n (I := iX2_goesOnWith) dX2_goesOnWith_92 rfl ?_
        refine v_bipush (I := iX2_goesOnWith) (v := 40) dX2_goesOnWith_93 (by decide) ?_
        refine v_icmp_ne (I := iX2_goesOnWith) (tgt := 104) dX2_goesOnWith_95 (by decide) (fun c95 => ?_) (fun c95 => ?_)
        · refine v_iload_n (I := iX2_goesOnWith) dX2_goesOnWith_104 rfl ?_
          refine v_if_eqB (I := iX2_goesOnWith) (tgt := 123) dX2_goesOnWith_105 (by decide) (fun c105 => ?_) (fun c105 => ?_)
          · refine v_aload_n (I := iX2_goesOnWith) dX2_goesOnWith_123 rfl ?_
            refine v_iload_n (I := iX2_goesOnWith) dX2_goesOnWith_124 rfl ?_
            refine v_i2c (I := iX2_goesOnWith) dX2_goesOnWith_125 ?_
            rw [i2c_in hb]
            refine v_callVS (I := iX2_goesOnWith) (I' := iJ0_indexOf_0f7a4) lk_X2_72 c_J0_indexOf_0f7a4 dX2_goesOnWith_126 (m_J0_indexOf_0f7a4 hi hb) rfl rfl hi rfl (by decide) (by decide) (Nat.le_of_ble_eq_true rfl) ?_
            refine v_istore (I := iX2_goesOnWith) (ls1 := [(4, _), (3, _), (0, _), (1, _), (2, _)]) dX2_goesOnWith_129 (by decide) rfl ?_
            refine v_iload (I := iX2_goesOnWith) dX2_goesOnWith_131 rfl ?_
            refine v_if_lt (I := iX2_goesOnWith) (tgt := 144) dX2_goesOnWith_133 (by decide) (fun c133 => ?_) (fun c133 => ?_)
            · refine v_iload (I := iX2_goesOnWith) dX2_goesOnWith_144 rfl ?_
              refine v_if_lt (I := iX2_goesOnWith) (tgt := 153) dX2_goesOnWith_146 (by decide) (fun c146 => ?_) (fun c146 => ?_)
              · refine v_iconst (I := iX2_goesOnWith) (v := 0) dX2_goesOnWith_153 (by decide) ?_
                exact v_zret (I := iX2_goesOnWith) rfl rfl dX2_goesOnWith_154 (by first | exact absurd c133 (by grind) | exact kP_yes (by unfold kGoE; rw [if_neg (fun h => nomatch h), if_neg (fun h => h.elim c89 c95), if_neg (fun h => c105 (isD_iff.mp h)), if_pos (by grind)]) h141.1 (hF1.tr h141.2) | exact kP_no (by unfold kGoE; rw [if_neg (fun h => nomatch h), if_neg (fun h => h.elim c89 c95), if_neg (fun h => c105 (isD_iff.mp h)), if_neg (by grind)]) hF1)
              · refine v_iconst (I := iX2_goesOnWith) (v := 1) dX2_goesOnWith_149 (by decide) ?_
                refine v_goto (I := iX2_goesOnWith) (tgt := 154) dX2_goesOnWith_150 (by decide) ?_
                exact v_zret (I := iX2_goesOnWith) rfl rfl dX2_goesOnWith_154 (by first | exact absurd c133 (by grind) | exact kP_yes (by unfold kGoE; rw [if_neg (fun h => nomatch h), if_neg (fun h => h.elim c89 c95), if_neg (fun h => c105 (isD_iff.mp h)), if_pos (by grind)]) h141.1 (hF1.tr h141.2) | exact kP_no (by unfold kGoE; rw [if_neg (fun h => nomatch h), if_neg (fun h => h.elim c89 c95), if_neg (fun h => c105 (isD_iff.mp h)), if_neg (by grind)]) hF1)
            · refine v_aload_n (I := iX2_goesOnWith) dX2_goesOnWith_136 rfl ?_
              refine v_iconst (I := iX2_goesOnWith) (v := -1) dX2_goesOnWith_137 (by decide) ?_
              refine v_iload (I := iX2_goesOnWith) dX2_goesOnWith_138 rfl ?_
              refine v_isub (I := iX2_goesOnWith) dX2_goesOnWith_140 ?_
              refine v_callVvP (I := iX2_goesOnWith) (I' := iX2_endOperand) lk_X2_78 c_X2_endOperand dX2_goesOnWith_141 (m_X2_endOperand (x := -1 - nmI i b) hK1 (by omega)) rfl rfl (by decide) (ae_67 _ _) rfl (by decide) (by decide) (Nat.le_of_ble_eq_true rfl) (fun s141 h141 => ?_)
              refine v_iload (I := iX2_goesOnWith) dX2_goesOnWith_144 rfl ?_
              refine v_if_lt (I := iX2_goesOnWith) (tgt := 153) dX2_goesOnWith_146 (by decide) (fun c146 => ?_) (fun c146 => ?_)
              · refine v_iconst (I := iX2_goesOnWith) (v := 0) dX2_goesOnWith_153 (by decide) ?_
                exact v_zret (I := iX2_goesOnWith) rfl rfl dX2_goesOnWith_154 (by first | exact absurd c133 (by grind) | exact kP_yes (by unfold kGoE; rw [if_neg (fun h => nomatch h), if_neg (fun h => h.elim c89 c95), if_neg (fun h => c105 (isD_iff.mp h)), if_pos (by grind)]) h141.1 (hF1.tr h141.2) | exact kP_no (by unfold kGoE; rw [if_neg (fun h => nomatch h), if_neg (fun h => h.elim c89 c95), if_neg (fun h => c105 (isD_iff.mp h)), if_neg (by grind)]) hF1)
              · refine v_iconst (I := iX2_goesOnWith) (v := 1) dX2_goesOnWith_149 (by decide) ?_
                refine v_goto (I := iX2_goesOnWith) (tgt := 154) dX2_goesOnWith_150 (by decide) ?_
                exact v_zret (I := iX2_goesOnWith) rfl rfl dX2_goesOnWith_154 (by first | exact absurd c133 (by grind) | exact kP_yes (by unfold kGoE; rw [if_neg (fun h => nomatch h), if_neg (fun h => h.elim c89 c95), if_neg (fun h => c105 (isD_iff.mp h)), if_pos (by grind)]) h141.1 (hF1.tr h141.2) | exact kP_no (by unfold kGoE; rw [if_neg (fun h => nomatch h), if_neg (fun h => h.elim c89 c95), if_neg (fun h => c105 (isD_iff.mp h)), if_neg (by grind)]) hF1)
          · refine v_aload_n (I := iX2_goesOnWith) dX2_goesOnWith_108 rfl ?_
            refine v_iload_n (I := iX2_goesOnWith) dX2_goesOnWith_109 rfl ?_
            refine v_bipush (I := iX2_goesOnWith) (v := 48) dX2_goesOnWith_110 (by decide) ?_
            refine v_isub (I := iX2_goesOnWith) dX2_goesOnWith_112 ?_
            refine v_putI (I := iX2_goesOnWith) p_X2_29 dX2_goesOnWith_113 (by decide) (ae_67 _ _) (ae_67 _ _) rfl rfl (by simp) ?_
            refine v_aload_n (I := iX2_goesOnWith) dX2_goesOnWith_116 rfl ?_
            refine v_iconst (I := iX2_goesOnWith) (v := 1) dX2_goesOnWith_117 (by decide) ?_
            refine v_putI (I := iX2_goesOnWith) p_X2_32 dX2_goesOnWith_118 (by decide) (ae_67 _ _) (ae_67 _ _) rfl rfl (by simp) ?_
            refine v_iconst (I := iX2_goesOnWith) (v := 1) dX2_goesOnWith_121 (by decide) ?_
            exact v_zret (I := iX2_goesOnWith) rfl rfl dX2_goesOnWith_122 (kP_yes (by unfold kGoE; rw [if_neg (fun h => nomatch h), if_neg (fun h => h.elim c89 c95), if_pos (isD_iff.mpr c105)]) ((hK1.f4 (b - 48)).f5 1) (hF1.tr ((FrK.up (by decide)).tr (FrK.up (by decide)))))
        · refine v_aload_n (I := iX2_goesOnWith) dX2_goesOnWith_98 rfl ?_
          refine v_iload_n (I := iX2_goesOnWith) dX2_goesOnWith_99 rfl ?_
          refine v_callViP (I := iX2_goesOnWith) (I' := iX2_opens) lk_X2_69 c_X2_opens dX2_goesOnWith_100 (m_X2_opens (b := b) hK1 (by omega)) rfl rfl (by decide) (ae_67 _ _) rfl (by decide) (by decide) (Nat.le_of_ble_eq_true rfl) (fun s100 h100 => ?_)
          exact v_zret (I := iX2_goesOnWith) rfl nar_b dX2_goesOnWith_103 (by unfold kGoE; rw [if_neg (fun h => nomatch h), if_pos (by first | exact Or.inl c89 | exact Or.inr c95 | exact Or.inl (Decidable.byContradiction fun h9 => h9 (by grind)) | grind)]; exact ⟨rfl, rfl, h100.1, hF1.tr h100.2⟩)
    · have hdu : due1 = false := by
        cases due1 with
        | false => rfl
        | true => exact absurd (show (1 : Int32) = 0 from c64) (by decide)
      subst hdu
      refine v_iload_n (I := iX2_goesOnWith) dX2_goesOnWith_67 rfl ?_
      refine v_bipush (I := iX2_goesOnWith) (v := 41) dX2_goesOnWith_68 (by decide) ?_
      refine v_icmp_ne (I := iX2_goesOnWith) (tgt := 80) dX2_goesOnWith_70 (by decide) (fun c70 => ?_) (fun c70 => ?_)
      · refine v_aload_n (I := iX2_goesOnWith) dX2_goesOnWith_80 rfl ?_
        refine v_iload_n (I := iX2_goesOnWith) dX2_goesOnWith_81 rfl ?_
        refine v_callViP (I := iX2_goesOnWith) (I' := iX2_joins) lk_X2_65 c_X2_joins dX2_goesOnWith_82 (m_X2_joins (b := b) hK1 (by omega)) rfl rfl (by decide) (ae_67 _ _) rfl (by decide) (by decide) (Nat.le_of_ble_eq_true rfl) (fun s82 h82 => ?_)
        exact v_zret (I := iX2_goesOnWith) rfl nar_b dX2_goesOnWith_85 (by unfold kGoE; rw [if_pos rfl, if_neg (by grind)]; exact ⟨rfl, rfl, h82.1, hF1.tr h82.2⟩)
      · refine v_aload_n (I := iX2_goesOnWith) dX2_goesOnWith_73 rfl ?_
        refine v_callViP (I := iX2_goesOnWith) (I' := iX2_closes) lk_X2_61 c_X2_closes dX2_goesOnWith_74 (m_X2_closes hK1 (by omega)) rfl rfl (by decide) (ae_67 _ _) rfl (by decide) (by decide) (Nat.le_of_ble_eq_true rfl) (fun s74 h74 => ?_)
        refine v_goto (I := iX2_goesOnWith) (tgt := 85) dX2_goesOnWith_77 (by decide) ?_
        exact v_zret (I := iX2_goesOnWith) rfl nar_b dX2_goesOnWith_85 (by unfold kGoE; rw [if_pos rfl, if_pos (by grind)]; exact ⟨rfl, rfl, h74.1, hF1.tr h74.2⟩)
  refine v_iload_n (I := iX2_goesOnWith) dX2_goesOnWith_0 rfl ?_
  refine v_bipush (I := iX2_goesOnWith) (v := 48) dX2_goesOnWith_1 (by decide) ?_
  refine v_bipush (I := iX2_goesOnWith) (v := 57) dX2_goesOnWith_3 (by decide) ?_
  refine v_callSi (I := iX2_goesOnWith) (I' := iX9_within) lk_X2_57 c_X9_within dX2_goesOnWith_5 (m_X9_within) rfl rfl (by decide) (by decide) (Nat.le_of_ble_eq_true rfl) ?_
  refine v_istore_n (I := iX2_goesOnWith) (ls1 := [(3, _), (0, _), (1, _), (2, _)]) dX2_goesOnWith_8 (by decide) rfl ?_
  refine v_iload_n (I := iX2_goesOnWith) dX2_goesOnWith_9 rfl ?_
  refine v_if_eqB (I := iX2_goesOnWith) (tgt := 56) dX2_goesOnWith_10 (by decide) (fun c10 => ?_) (fun c10 => ?_)
  · refine J (fun h9 => ?_)
    exact c10 (isD_iff.mp h9.1)
  · refine v_aload_n (I := iX2_goesOnWith) dX2_goesOnWith_13 rfl ?_
    refine v_get (I := iX2_goesOnWith) g_X2_32 dX2_goesOnWith_14 (by decide) (ae_67 _ _) rfl ?_
    rw [hK.dig]
    refine v_if_le (I := iX2_goesOnWith) (tgt := 56) dX2_goesOnWith_17 (by decide) (fun c17 => ?_) (fun c17 => ?_)
    · refine J (fun h9 => ?_)
      exact absurd c17 (nI_ge (a := 0) (b := dg) h9.2.1 (by omega))
    · refine v_aload_n (I := iX2_goesOnWith) dX2_goesOnWith_20 rfl ?_
      refine v_get (I := iX2_goesOnWith) g_X2_32 dX2_goesOnWith_21 (by decide) (ae_67 _ _) rfl ?_
      rw [hK.dig]
      refine v_iconst (I := iX2_goesOnWith) (v := 4) dX2_goesOnWith_24 (by decide) ?_
      refine v_icmp_ge (I := iX2_goesOnWith) (tgt := 56) dX2_goesOnWith_25 (by decide) (fun c25 => ?_) (fun c25 => ?_)
      · refine J (fun h9 => ?_)
        exact absurd c25 (by show ¬ (4 : Int32) ≤ nI dg; exact nI_ge (a := dg) (b := 4) h9.2.2 (by decide))
      · refine v_aload_n (I := iX2_goesOnWith) dX2_goesOnWith_28 rfl ?_
        refine v_aload_n (I := iX2_goesOnWith) dX2_goesOnWith_29 rfl ?_
        refine v_get (I := iX2_goesOnWith) g_X2_29 dX2_goesOnWith_30 (by decide) (ae_67 _ _) rfl ?_
        rw [hK.num]
        refine v_bipush (I := iX2_goesOnWith) (v := 10) dX2_goesOnWith_33 (by decide) ?_
        refine v_imul (I := iX2_goesOnWith) dX2_goesOnWith_35 ?_
        refine v_iload_n (I := iX2_goesOnWith) dX2_goesOnWith_36 rfl ?_
        refine v_iadd (I := iX2_goesOnWith) dX2_goesOnWith_37 ?_
        refine v_bipush (I := iX2_goesOnWith) (v := 48) dX2_goesOnWith_38 (by decide) ?_
        refine v_isub (I := iX2_goesOnWith) dX2_goesOnWith_40 ?_
        refine v_putI (I := iX2_goesOnWith) p_X2_29 dX2_goesOnWith_41 (by decide) (ae_67 _ _) (ae_67 _ _) rfl rfl (by simp) ?_
        refine v_aload_n (I := iX2_goesOnWith) dX2_goesOnWith_44 rfl ?_
        refine v_dup (I := iX2_goesOnWith) dX2_goesOnWith_45 rfl ?_
        refine v_get (I := iX2_goesOnWith) g_X2_32 dX2_goesOnWith_46 (by decide) (ae_67 _ _) rfl ?_
        rw [up2_j _ _ (by decide), hK.dig]
        refine v_iconst (I := iX2_goesOnWith) (v := 1) dX2_goesOnWith_49 (by decide) ?_
        refine v_iadd (I := iX2_goesOnWith) dX2_goesOnWith_50 ?_
        rw [show nI dg + 1 = nI (dg + 1) from nI_1 dg]
        refine v_putI (I := iX2_goesOnWith) p_X2_32 dX2_goesOnWith_51 (by decide) (ae_67 _ _) (ae_67 _ _) rfl rfl (by simp) ?_
        refine v_iconst (I := iX2_goesOnWith) (v := 1) dX2_goesOnWith_54 (by decide) ?_
        exact v_zret (I := iX2_goesOnWith) rfl rfl dX2_goesOnWith_55 (kP_yes (by unfold kGo; rw [if_pos ⟨isD_iff.mpr c10, by show 0 < dg; rcases Nat.eq_zero_or_pos dg with h9 | h9; exact absurd (show nI dg ≤ 0 by rw [h9]; decide) c17; exact h9, by show dg < 4; rcases Nat.lt_or_ge dg 4 with h9 | h9; exact h9; exact absurd (nI_le (a := 4) (b := dg) h9 (by omega)) c25⟩]) ((hK.f4 _).f5 (dg + 1)) ((FrK.up (by decide)).tr (FrK.up (by decide))))
