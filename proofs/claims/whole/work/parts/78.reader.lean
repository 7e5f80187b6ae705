/-- the class's reader in its cells -/
def KR (σ : fSt) (S : cS) : Prop := σ 68 1 = nI S.1.length ∧ Stk (σ 69) S.1 ∧ σ 67 2 = nI S.2.1.length ∧ Stk (σ 71) S.2.1 ∧ σ 67 3 = S.2.2.1 ∧ σ 67 4 = S.2.2.2.2.1 ∧ σ 67 5 = nI S.2.2.2.1 ∧ σ 67 6 = (if S.2.2.2.2.2 = true then 1 else 0)
def FrK (σ σ' : fSt) : Prop := ∀ q, q ≠ 67 → q ≠ 68 → q ≠ 69 → q ≠ 71 → σ' q = σ q
theorem FrK.rf {σ : fSt} : FrK σ σ := fun _ _ _ _ _ => rfl
theorem FrK.tr {σ σ1 σ2 : fSt} (h1 : FrK σ σ1) (h2 : FrK σ1 σ2) : FrK σ σ2 := fun q a b c d => (h2 q a b c d).trans (h1 q a b c d)
theorem FrK.up {σ : fSt} {k j : Nat} {x : Int32} (h : k = 67 ∨ k = 68 ∨ k = 69 ∨ k = 71) : FrK σ (up2 σ k j x) := fun q a b c d => up2_kf _ _ _ (by omega)
section KRS
variable {σ : fSt} {S : cS} {O P : List Int32} {k nm : Int32} {dg : Nat} {due : Bool}
theorem KR.len (h : KR σ S) : σ 68 1 = nI S.1.length := h.1
theorem KR.so (h : KR σ S) : Stk (σ 69) S.1 := h.2.1
theorem KR.pn (h : KR σ S) : σ 67 2 = nI S.2.1.length := h.2.2.1
theorem KR.sp (h : KR σ S) : Stk (σ 71) S.2.1 := h.2.2.2.1
theorem KR.op (h : KR σ S) : σ 67 3 = S.2.2.1 := h.2.2.2.2.1
theorem KR.num (h : KR σ S) : σ 67 4 = S.2.2.2.2.1 := h.2.2.2.2.2.1
theorem KR.dig (h : KR σ S) : σ 67 5 = nI S.2.2.2.1 := h.2.2.2.2.2.2.1
theorem KR.du (h : KR σ S) : σ 67 6 = (if S.2.2.2.2.2 = true then 1 else 0) := h.2.2.2.2.2.2.2
theorem KR.add (h : KR σ (O, P, k, dg, nm, due)) (x : Int32) : KR (up2 (up2 σ 69 O.length x) 68 1 (nI (O.length + 1))) (x :: O, P, k, dg, nm, due) := by
  obtain ⟨h1, h2, h3, h4, h5, h6, h7, h8⟩ := h
  refine ⟨up2_s _ _ _ _, ?_, ?_, ?_, ?_, ?_, ?_, ?_⟩
  · rw [up2_kf _ _ _ (by decide), up2_f]; exact h2.push
  all_goals rw [up2_kf _ _ _ (by decide), up2_kf _ _ _ (by decide)]; assumption
theorem KR.push (h : KR σ (O, P, k, dg, nm, due)) (x : Int32) : KR (up2 (up2 σ 71 P.length x) 67 2 (nI (P.length + 1))) (O, x :: P, k, dg, nm, due) := by
  obtain ⟨h1, h2, h3, h4, h5, h6, h7, h8⟩ := h
  refine ⟨?_, ?_, up2_s _ _ _ _, ?_, ?_, ?_, ?_, ?_⟩
  · rw [up2_kf _ _ _ (by decide), up2_kf _ _ _ (by decide)]; exact h1
  · rw [up2_kf _ _ _ (by decide), up2_kf _ _ _ (by decide)]; exact h2
  · rw [up2_kf _ _ _ (by decide), up2_f]; exact h4.push
  all_goals rw [up2_j _ _ (by decide), up2_k _ _ _ _ (by decide)]; assumption
theorem KR.pop {x : Int32} (h : KR σ (O, x :: P, k, dg, nm, due)) : KR (up2 σ 67 2 (nI P.length)) (O, P, k, dg, nm, due) := by
  obtain ⟨h1, h2, h3, h4, h5, h6, h7, h8⟩ := h
  refine ⟨?_, ?_, up2_s _ _ _ _, ?_, ?_, ?_, ?_, ?_⟩
  · rw [up2_kf _ _ _ (by decide)]; exact h1
  · rw [up2_kf _ _ _ (by decide)]; exact h2
  · rw [up2_kf _ _ _ (by decide)]; exact h4.2
  all_goals rw [up2_j _ _ (by decide)]; assumption
theorem KR.f3 (h : KR σ (O, P, k, dg, nm, due)) (k' : Int32) : KR (up2 σ 67 3 k') (O, P, k', dg, nm, due) := by
  obtain ⟨h1, h2, h3, h4, h5, h6, h7, h8⟩ := h
  refine ⟨?_, ?_, ?_, ?_, up2_s _ _ _ _, ?_, ?_, ?_⟩
  · rw [up2_kf _ _ _ (by decide)]; exact h1
  · rw [up2_kf _ _ _ (by decide)]; exact h2
  · rw [up2_j _ _ (by decide)]; exact h3
  · rw [up2_kf _ _ _ (by decide)]; exact h4
  all_goals rw [up2_j _ _ (by decide)]; assumption
theorem KR.f4 (h : KR σ (O, P, k, dg, nm, due)) (n' : Int32) : KR (up2 σ 67 4 n') (O, P, k, dg, n', due) := by
  obtain ⟨h1, h2, h3, h4, h5, h6, h7, h8⟩ := h
  refine ⟨?_, ?_, ?_, ?_, ?_, up2_s _ _ _ _, ?_, ?_⟩
  · rw [up2_kf _ _ _ (by decide)]; exact h1
  · rw [up2_kf _ _ _ (by decide)]; exact h2
  · rw [up2_j _ _ (by decide)]; exact h3
  · rw [up2_kf _ _ _ (by decide)]; exact h4
  all_goals rw [up2_j _ _ (by decide)]; assumption
theorem KR.f5 (h : KR σ (O, P, k, dg, nm, due)) (d' : Nat) : KR (up2 σ 67 5 (nI d')) (O, P, k, d', nm, due) := by
  obtain ⟨h1, h2, h3, h4, h5, h6, h7, h8⟩ := h
  refine ⟨?_, ?_, ?_, ?_, ?_, ?_, up2_s _ _ _ _, ?_⟩
  · rw [up2_kf _ _ _ (by decide)]; exact h1
  · rw [up2_kf _ _ _ (by decide)]; exact h2
  · rw [up2_j _ _ (by decide)]; exact h3
  · rw [up2_kf _ _ _ (by decide)]; exact h4
  all_goals rw [up2_j _ _ (by decide)]; assumption
theorem KR.f6 (h : KR σ (O, P, k, dg, nm, due)) (b : Bool) {x : Int32} (hx : x = if b = true then 1 else 0) : KR (up2 σ 67 6 x) (O, P, k, dg, nm, b) := by
  obtain ⟨h1, h2, h3, h4, h5, h6, h7, h8⟩ := h
  refine ⟨?_, ?_, ?_, ?_, ?_, ?_, ?_, (up2_s _ _ _ _).trans hx⟩
  · rw [up2_kf _ _ _ (by decide)]; exact h1
  · rw [up2_kf _ _ _ (by decide)]; exact h2
  · rw [up2_j _ _ (by decide)]; exact h3
  · rw [up2_kf _ _ _ (by decide)]; exact h4
  all_goals rw [up2_j _ _ (by decide)]; assumption
end KRS
theorem min60 {n : Nat} (h : n < 60) : (if nI (n + 1) < 60 then nI (n + 1) else 60) = nI (n + 1) := by
  by_cases e : nI (n + 1) < 60
  · rw [if_pos e]
  · rw [if_neg e]
    have : ¬ n + 1 < 60 := fun h9 => e (nI_lt (b := 60) h9 (by decide))
    rw [show n + 1 = 60 by omega]; rfl
theorem top_at {σ : fSt} {S : cS} (h : KR σ S) (hp : S.2.1.length ≤ 60) : rdA 60 (σ 71) (nI S.2.1.length - 1) = tp S.2.1 := by
  have hs := h.sp
  cases hP : S.2.1 with
  | nil => rfl
  | cons x P =>
    rw [hP] at hs hp
    rw [List.length_cons] at hp ⊢
    rw [nI_pred, rdA_in (by omega) (by decide)]
    exact hs.1
/-- how much the reader holds -/
def szS (S : cS) : Nat := S.1.length + S.2.1.length + (if 0 < S.2.2.2.1 then 1 else 0)
theorem kSet_len {r : Nat} : ∀ (P O : List Int32), (kSet r P O).1.length + (kSet r P O).2.length = O.length + P.length := by
  intro P
  induction P with
  | nil => intro O; rfl
  | cons x P ih =>
    intro O
    rw [kSet_c]
    by_cases h : r < rkN x
    · rw [if_pos h, ih, List.length_cons, List.length_cons]; omega
    · rw [if_neg h]
theorem kNot_len : ∀ (P O : List Int32) (k : Int32), (kNot P O k).1.length + (kNot P O k).2.1.length = O.length + P.length := by
  intro P
  induction P with
  | nil => intro O k; rfl
  | cons x P ih =>
    intro O k
    rw [kNot_c]
    by_cases h : x = 33
    · rw [if_pos h, ih, List.length_cons, List.length_cons]; omega
    · rw [if_neg h]
theorem kEnd_sz (S : cS) : szS (kEnd S) ≤ szS S ∧ (kEnd S).2.2.2.1 = 0 := by
  unfold kEnd szS
  by_cases h : 0 < S.2.2.2.1
  · rw [if_pos h, if_pos h]
    refine ⟨?_, rfl⟩
    have := kNot_len S.2.1 (S.2.2.2.2.1 :: S.1) S.2.2.1
    rw [List.length_cons] at this
    show (kNot S.2.1 (S.2.2.2.2.1 :: S.1) S.2.2.1).1.length + (kNot S.2.1 (S.2.2.2.2.1 :: S.1) S.2.2.1).2.1.length + 0 ≤ _
    omega
  · rw [if_neg h]
    exact ⟨Nat.le_refl _, by omega⟩
theorem kGo_sz {u : Nat} {b : Int32} {S S' : cS} (h : kGo u b S = some S') : szS S' ≤ szS S + 1 ∧ (S.2.2.2.1 ≤ 4 → S'.2.2.2.1 ≤ 4) := by
  unfold kGo at h
  by_cases h1 : isD b = true ∧ 0 < S.2.2.2.1 ∧ S.2.2.2.1 < 4
  · rw [if_pos h1] at h
    cases h
    refine ⟨?_, fun _ => by show S.2.2.2.1 + 1 ≤ 4; omega⟩
    unfold szS
    show S.1.length + S.2.1.length + (if 0 < S.2.2.2.1 + 1 then 1 else 0) ≤ _
    rw [if_pos (by omega)]
    omega
  · rw [if_neg h1] at h
    obtain ⟨hz, hd⟩ := kEnd_sz S
    generalize kEnd S = E at h hz hd
    have hE : szS E = E.1.length + E.2.1.length := by unfold szS; rw [hd]; rfl
    have fin : ∀ S9 : cS, S9.2.2.2.1 ≤ 1 → S9.1.length + S9.2.1.length + S9.2.2.2.1 ≤ E.1.length + E.2.1.length + 1 → szS S9 ≤ szS S + 1 ∧ (S.2.2.2.1 ≤ 4 → S9.2.2.2.1 ≤ 4) := by
      intro S9 h9 h8
      refine ⟨?_, fun _ => by omega⟩
      unfold szS
      unfold szS at hz hE
      split <;> omega
    unfold kGoE at h
    by_cases c1 : E.2.2.2.2.2 = false
    · rw [if_pos c1] at h
      by_cases c2 : b = 41
      · rw [if_pos c2] at h
        unfold kClose at h
        have hk := kSet_len (r := 0) E.2.1 E.1
        cases hq : (kSet 0 E.2.1 E.1).2 with
        | nil => rw [hq] at h; cases h
        | cons y P =>
          rw [hq] at h hk
          cases h
          rw [List.length_cons] at hk
          have hn := kNot_len P (kSet 0 E.2.1 E.1).1 (E.2.2.1 - 1)
          exact fin _ (by show E.2.2.2.1 ≤ 1; omega) (by show (kNot P (kSet 0 E.2.1 E.1).1 (E.2.2.1 - 1)).1.length + (kNot P (kSet 0 E.2.1 E.1).1 (E.2.2.1 - 1)).2.1.length + E.2.2.2.1 ≤ _; omega)
      · rw [if_neg c2] at h
        unfold kJoin at h
        by_cases c3 : rkN b = 0
        · rw [if_pos c3] at h; cases h
        rw [if_neg c3] at h
        by_cases c4 : rkN b = 3 ∧ rkN (tp (kSet (rkN b) E.2.1 E.1).2) = 3
        · rw [if_pos c4] at h; cases h
        rw [if_neg c4] at h
        cases h
        have k1 := kSet_len (r := rkN b) E.2.1 E.1
        have k2 := kSet_len (r := rkN b - 1) (kSet (rkN b) E.2.1 E.1).2 (kSet (rkN b) E.2.1 E.1).1
        exact fin _ (by show E.2.2.2.1 ≤ 1; omega) (by show (kSet (rkN b - 1) (kSet (rkN b) E.2.1 E.1).2 (kSet (rkN b) E.2.1 E.1).1).1.length + (b :: (kSet (rkN b - 1) (kSet (rkN b) E.2.1 E.1).2 (kSet (rkN b) E.2.1 E.1).1).2).length + E.2.2.2.1 ≤ _; rw [List.length_cons]; omega)
    · rw [if_neg c1] at h
      by_cases c2 : b = 33 ∨ b = 40
      · rw [if_pos c2] at h
        by_cases c3 : 5 ≤ E.2.2.1
        · rw [if_pos c3] at h; cases h
        rw [if_neg c3] at h
        cases h
        exact fin _ (by show E.2.2.2.1 ≤ 1; omega) (by show E.1.length + (b :: E.2.1).length + E.2.2.2.1 ≤ _; rw [List.length_cons]; omega)
      rw [if_neg c2] at h
      by_cases c3 : isD b = true
      · rw [if_pos c3] at h
        cases h
        exact fin _ (Nat.le_refl 1) (Nat.le_refl _)
      rw [if_neg c3] at h
      by_cases c4 : 0 ≤ nmI u b
      · rw [if_pos c4] at h
        cases h
        have hn := kNot_len E.2.1 ((-1 - nmI u b) :: E.1) E.2.2.1
        rw [List.length_cons] at hn
        exact fin _ (by show E.2.2.2.1 ≤ 1; omega) (by show (kNot E.2.1 ((-1 - nmI u b) :: E.1) E.2.2.1).1.length + (kNot E.2.1 ((-1 - nmI u b) :: E.1) E.2.2.1).2.1.length + E.2.2.2.1 ≤ _; omega)
      · rw [if_neg c4] at h; cases h
set_option maxRecDepth 100000 in
set_option maxHeartbeats 4000000 in
theorem m_X2_top {G : fGm} {σ : fSt} {τ : fLt} {S : cS} (hK : KR σ S) (hp : S.2.1.length ≤ 60) : MS G iX2_top 1 [.ref 67] σ τ (rT (some (.int (tp S.2.1))) σ τ) := by
  refine ms_of (by decide +kernel) (Nat.le_of_ble_eq_true rfl) ?_
  show VW _ _ _ _ _ _ 0 [(0, _)] []
  refine v_aload_n (I := iX2_top) dX2_top_0 rfl ?_
  refine v_get (I := iX2_top) g_X2_18 dX2_top_1 (by decide) (ae_67 _ _) rfl ?_
  refine v_aload_n (I := iX2_top) dX2_top_4 rfl ?_
  refine v_get (I := iX2_top) g_X2_22 dX2_top_5 (by decide) (ae_67 _ _) rfl ?_
  rw [hK.pn]
  refine v_iconst (I := iX2_top) (v := 1) dX2_top_8 (by decide) ?_
  refine v_isub (I := iX2_top) dX2_top_9 ?_
  refine v_callSi (I := iX2_top) (I' := iX9_at) lk_X2_42 c_X9_at dX2_top_10 (m_X9_at (by decide) (ae_71) (by decide)) rfl rfl (by decide) (by decide) (Nat.le_of_ble_eq_true rfl) ?_
  rw [top_at hK hp]
  exact v_iret (I := iX2_top) rfl dX2_top_13 ⟨by first | rfl | (simp only [*]; done) | (simp [*]; done), rfl, rfl⟩
set_option maxRecDepth 100000 in
set_option maxHeartbeats 4000000 in
theorem m_X2_rankOf {G : fGm} {σ : fSt} {τ : fLt} {b : Int32} : MS G iX2_rankOf 0 [.int b] σ τ (rT (some (.int (nI (rkN b)))) σ τ) := by
  refine ms_of (by decide +kernel) (Nat.le_of_ble_eq_true rfl) ?_
  show VW _ _ _ _ _ _ 0 [(0, _)] []
  refine v_iload_n (I := iX2_rankOf) dX2_rankOf_0 rfl ?_
  by_cases s1_37 : b = 37
  · refine v_lookIn (I := iX2_rankOf) (tgt := 100) (off := 99) (v := 37) dX2_rankOf_1 s1_37 (by decide) (by decide) (by decide) ?_
    refine v_iconst (I := iX2_rankOf) (v := 5) dX2_rankOf_100 (by decide) ?_
    exact v_iret (I := iX2_rankOf) rfl dX2_rankOf_101 ⟨by unfold rkN; first | (simp [*]; done) | (simp [*]; rfl), rfl, rfl⟩
  by_cases s1_38 : b = 38
  · refine v_lookIn (I := iX2_rankOf) (tgt := 94) (off := 93) (v := 38) dX2_rankOf_1 s1_38 (by decide) (by decide) (by decide) ?_
    refine v_iconst (I := iX2_rankOf) (v := 2) dX2_rankOf_94 (by decide) ?_
    exact v_iret (I := iX2_rankOf) rfl dX2_rankOf_95 ⟨by unfold rkN; first | (simp [*]; done) | (simp [*]; rfl), rfl, rfl⟩
  by_cases s1_42 : b = 42
  · refine v_lookIn (I := iX2_rankOf) (tgt := 100) (off := 99) (v := 42) dX2_rankOf_1 s1_42 (by decide) (by decide) (by decide) ?_
    refine v_iconst (I := iX2_rankOf) (v := 5) dX2_rankOf_100 (by decide) ?_
    exact v_iret (I := iX2_rankOf) rfl dX2_rankOf_101 ⟨by unfold rkN; first | (simp [*]; done) | (simp [*]; rfl), rfl, rfl⟩
  by_cases s1_43 : b = 43
  · refine v_lookIn (I := iX2_rankOf) (tgt := 98) (off := 97) (v := 43) dX2_rankOf_1 s1_43 (by decide) (by decide) (by decide) ?_
    refine v_iconst (I := iX2_rankOf) (v := 4) dX2_rankOf_98 (by decide) ?_
    exact v_iret (I := iX2_rankOf) rfl dX2_rankOf_99 ⟨by unfold rkN; first | (simp [*]; done) | (simp [*]; rfl), rfl, rfl⟩
  by_cases s1_45 : b = 45
  · refine v_lookIn (I := iX2_rankOf) (tgt := 98) (off := 97) (v := 45) dX2_rankOf_1 s1_45 (by decide) (by decide) (by decide) ?_
    refine v_iconst (I := iX2_rankOf) (v := 4) dX2_rankOf_98 (by decide) ?_
    exact v_iret (I := iX2_rankOf) rfl dX2_rankOf_99 ⟨by unfold rkN; first | (simp [*]; done) | (simp [*]; rfl), rfl, rfl⟩
  by_cases s1_47 : b = 47
  · refine v_lookIn (I := iX2_rankOf) (tgt := 100) (off := 99) (v := 47) dX2_rankOf_1 s1_47 (by decide) (by decide) (by decide) ?_
    refine v_iconst (I := iX2_rankOf) (v := 5) dX2_rankOf_100 (by decide) ?_
    exact v_iret (I := iX2_rankOf) rfl dX2_rankOf_101 ⟨by unfold rkN; first | (simp [*]; done) | (simp [*]; rfl), rfl, rfl⟩
  by_cases s1_60 : b = 60
  · refine v_lookIn (I := iX2_rankOf) (tgt := 96) (off := 95) (v := 60) dX2_rankOf_1 s1_60 (by decide) (by decide) (by decide) ?_
    refine v_iconst (I := iX2_rankOf) (v := 3) dX2_rankOf_96 (by decide) ?_
    exact v_iret (I := iX2_rankOf) rfl dX2_rankOf_97 ⟨by unfold rkN; first | (simp [*]; done) | (simp [*]; rfl), rfl, rfl⟩
  by_cases s1_61 : b = 61
  · refine v_lookIn (I := iX2_rankOf) (tgt := 96) (off := 95) (v := 61) dX2_rankOf_1 s1_61 (by decide) (by decide) (by decide) ?_
    refine v_iconst (I := iX2_rankOf) (v := 3) dX2_rankOf_96 (by decide) ?_
    exact v_iret (I := iX2_rankOf) rfl dX2_rankOf_97 ⟨by unfold rkN; first | (simp [*]; done) | (simp [*]; rfl), rfl, rfl⟩
  by_cases s1_62 : b = 62
  · refine v_lookIn (I := iX2_rankOf) (tgt := 96) (off := 95) (v := 62) dX2_rankOf_1 s1_62 (by decide) (by decide) (by decide) ?_
    refine v_iconst (I := iX2_rankOf) (v := 3) dX2_rankOf_96 (by decide) ?_
    exact v_iret (I := iX2_rankOf) rfl dX2_rankOf_97 ⟨by unfold rkN; first | (simp [*]; done) | (simp [*]; rfl), rfl, rfl⟩
  by_cases s1_124 : b = 124
  · refine v_lookIn (I := iX2_rankOf) (tgt := 92) (off := 91) (v := 124) dX2_rankOf_1 s1_124 (by decide) (by decide) (by decide) ?_
    refine v_iconst (I := iX2_rankOf) (v := 1) dX2_rankOf_92 (by decide) ?_
    exact v_iret (I := iX2_rankOf) rfl dX2_rankOf_93 ⟨by unfold rkN; first | (simp [*]; done) | (simp [*]; rfl), rfl, rfl⟩
  refine v_lookDef (I := iX2_rankOf) (tgt := 102) dX2_rankOf_1 (by decide) (by decide) (by simp [Op.lookupswitch.offset, i32_lk2 s1_37 (z := 37) (by decide), i32_lk2 s1_38 (z := 38) (by decide), i32_lk2 s1_42 (z := 42) (by decide), i32_lk2 s1_43 (z := 43) (by decide), i32_lk2 s1_45 (z := 45) (by decide), i32_lk2 s1_47 (z := 47) (by decide), i32_lk2 s1_60 (z := 60) (by decide), i32_lk2 s1_61 (z := 61) (by decide), i32_lk2 s1_62 (z := 62) (by decide), i32_lk2 s1_124 (z := 124) (by decide)]) ?_
  refine v_iconst (I := iX2_rankOf) (v := 0) dX2_rankOf_102 (by decide) ?_
  exact v_iret (I := iX2_rankOf) rfl dX2_rankOf_103 ⟨by unfold rkN; first | (simp [*]; done) | (simp [*]; rfl), rfl, rfl⟩
set_option maxRecDepth 100000 in
set_option maxHeartbeats 4000000 in
theorem m_X7_add {G : fGm} {σ : fSt} {τ : fLt} {n : Nat} {x : Int32} (hn : σ 68 1 = nI n) (hn6 : n < 60) : MS G iX7_add 1 [.ref 68, .int x] σ τ (rT none (up2 (up2 σ 69 n x) 68 1 (nI (n + 1))) τ) := by
  refine ms_of (by decide +kernel) (Nat.le_of_ble_eq_true rfl) ?_
  show VW _ _ _ _ _ _ 0 [(0, _), (1, _)] []
  refine v_aload_n (I := iX7_add) dX7_add_0 rfl ?_
  refine v_get (I := iX7_add) g_X7_15 dX7_add_1 (by decide) (ae_68 _ _) rfl ?_
  rw [hn]
  refine v_if_lt (I := iX7_add) (tgt := 39) dX7_add_4 (by decide) (fun c4 => ?_) (fun c4 => ?_)
  · exact absurd c4 (nI_pos (by omega))
  · refine v_aload_n (I := iX7_add) dX7_add_7 rfl ?_
    refine v_get (I := iX7_add) g_X7_15 dX7_add_8 (by decide) (ae_68 _ _) rfl ?_
    rw [hn]
    refine v_aload_n (I := iX7_add) dX7_add_11 rfl ?_
    refine v_get (I := iX7_add) g_X7_9 dX7_add_12 (by decide) (ae_68 _ _) rfl ?_
    refine v_alenI (I := iX7_add) dX7_add_15 (by decide) (ae_69 _ _) ?_
    refine v_icmp_ge (I := iX7_add) (tgt := 39) dX7_add_16 (by decide) (fun c16 => ?_) (fun c16 => ?_)
    · exact absurd c16 (by exact nI_ge (b := 60) (by omega) (by decide))
    · refine v_aload_n (I := iX7_add) dX7_add_19 rfl ?_
      refine v_get (I := iX7_add) g_X7_9 dX7_add_20 (by decide) (ae_68 _ _) rfl ?_
      refine v_aload_n (I := iX7_add) dX7_add_23 rfl ?_
      refine v_get (I := iX7_add) g_X7_15 dX7_add_24 (by decide) (ae_68 _ _) rfl ?_
      rw [hn]
      refine v_iload_n (I := iX7_add) dX7_add_27 rfl ?_
      refine v_iastN (I := iX7_add) (j := n) rfl hn6 (by decide) dX7_add_28 (by decide) (fun _ => ae_69 _ _) ?_
      refine v_aload_n (I := iX7_add) dX7_add_29 rfl ?_
      refine v_dup (I := iX7_add) dX7_add_30 rfl ?_
      refine v_get (I := iX7_add) g_X7_15 dX7_add_31 (by decide) (ae_68 _ _) rfl ?_
      rw [up2_kf _ _ _ (by decide), hn]
      refine v_iconst (I := iX7_add) (v := 1) dX7_add_34 (by decide) ?_
      refine v_iadd (I := iX7_add) dX7_add_35 ?_
      rw [nI_1]
      refine v_putI (I := iX7_add) p_X7_15 dX7_add_36 (by decide) (ae_68 _ _) (ae_68 _ _) rfl rfl (by simp) ?_
      exact v_vret (I := iX7_add) rfl dX7_add_39 ⟨by first | rfl | (simp only [*]; done) | (simp [*]; done), rfl, rfl⟩
set_option maxRecDepth 100000 in
set_option maxHeartbeats 4000000 in
theorem m_X2_push {G : fGm} {σ : fSt} {τ : fLt} {n : Nat} {x : Int32} (hn : σ 67 2 = nI n) (hn6 : n < 60) : MS G iX2_push 1 [.ref 67, .int x] σ τ (rT none (up2 (up2 σ 71 n x) 67 2 (nI (n + 1))) τ) := by
  refine ms_of (by decide +kernel) (Nat.le_of_ble_eq_true rfl) ?_
  show VW _ _ _ _ _ _ 0 [(0, _), (1, _)] []
  refine v_aload_n (I := iX2_push) dX2_push_0 rfl ?_
  refine v_get (I := iX2_push) g_X2_18 dX2_push_1 (by decide) (ae_67 _ _) rfl ?_
  refine v_aload_n (I := iX2_push) dX2_push_4 rfl ?_
  refine v_get (I := iX2_push) g_X2_22 dX2_push_5 (by decide) (ae_67 _ _) rfl ?_
  rw [hn]
  refine v_iload_n (I := iX2_push) dX2_push_8 rfl ?_
  refine v_callSi (I := iX2_push) (I' := iX9_exchange) lk_X2_97 c_X9_exchange dX2_push_9 (m_X9_exchange (by decide) (ae_71) (by decide)) rfl rfl (by decide) (by decide) (Nat.le_of_ble_eq_true rfl) ?_
  rw [wrA_in hn6 (by decide)]
  refine v_pop (I := iX2_push) dX2_push_12 rfl ?_
  refine v_aload_n (I := iX2_push) dX2_push_13 rfl ?_
  refine v_bipush (I := iX2_push) (v := 60) dX2_push_14 (by decide) ?_
  refine v_aload_n (I := iX2_push) dX2_push_16 rfl ?_
  refine v_get (I := iX2_push) g_X2_22 dX2_push_17 (by decide) (ae_67 _ _) rfl ?_
  rw [up2_kf _ _ _ (by decide), hn]
  refine v_iconst (I := iX2_push) (v := 1) dX2_push_20 (by decide) ?_
  refine v_iadd (I := iX2_push) dX2_push_21 ?_
  rw [nI_1]
  refine v_min (I := iX2_push) lm_X2_101 dX2_push_22 (by decide) (Nat.le_of_ble_eq_true rfl) ?_
  rw [min60 hn6]
  refine v_putI (I := iX2_push) p_X2_22 dX2_push_25 (by decide) (ae_67 _ _) (ae_67 _ _) rfl rfl (by simp) ?_
  exact v_vret (I := iX2_push) rfl dX2_push_28 ⟨by first | rfl | (simp only [*]; done) | (simp [*]; done), rfl, rfl⟩
set_option maxRecDepth 100000 in
set_option maxHeartbeats 8000000 in
theorem m_X2_settle {G : fGm} {σ : fSt} {τ : fLt} {O0 P0 : List Int32} {k nm : Int32} {dg : Nat} {due : Bool} {r : Nat} (hr : r ≤ 5) (hK : KR σ (O0, P0, k, dg, nm, due)) (hz : O0.length + P0.length ≤ 60) : MS G iX2_settle 3 [.ref 67, .int (nI r)] σ τ (rP none τ (fun σ' => KR σ' ((kSet r P0 O0).1, (kSet r P0 O0).2, k, dg, nm, due) ∧ FrK σ σ')) := by
  refine ms_of (by decide +kernel) (Nat.le_of_ble_eq_true rfl) ?_
  show VW _ _ _ _ _ _ 0 [(0, _), (1, _)] []
  have key : ∀ (P : List Int32) {O : List Int32} {σ9 : fSt}, KR σ9 (O, P, k, dg, nm, due) → O.length + P.length ≤ 60 → FrK σ σ9 → kSet r P O = kSet r P0 O0 → VW G iX2_settle (rP none τ (fun σ' => KR σ' ((kSet r P0 O0).1, (kSet r P0 O0).2, k, dg, nm, due) ∧ FrK σ σ')) 3 σ9 τ 0 [(0, .ref 67), (1, .int (nI r))] [] := by
    intro P
    induction P with
    | nil =>
      intro O σ9 hK9 hz9 hF9 hq
      show VW _ _ _ _ _ _ 0 [(0, _), (1, _)] []
      refine v_aload_n (I := iX2_settle) dX2_settle_0 rfl ?_
      refine v_get (I := iX2_settle) g_X2_22 dX2_settle_1 (by decide) (ae_67 _ _) rfl ?_
      rw [hK9.pn]
      refine v_if_le (I := iX2_settle) (tgt := 46) dX2_settle_4 (by decide) (fun c4 => ?_) (fun c4 => ?_)
      · exact v_vret (I := iX2_settle) rfl dX2_settle_46 ⟨rfl, rfl, by rw [← hq]; exact hK9, hF9⟩
      · exact absurd (show nI 0 ≤ 0 by decide) c4
    | cons x P ih =>
      intro O σ9 hK9 hz9 hF9 hq
      rw [List.length_cons] at hz9
      show VW _ _ _ _ _ _ 0 [(0, _), (1, _)] []
      refine v_aload_n (I := iX2_settle) dX2_settle_0 rfl ?_
      refine v_get (I := iX2_settle) g_X2_22 dX2_settle_1 (by decide) (ae_67 _ _) rfl ?_
      rw [hK9.pn]
      refine v_if_le (I := iX2_settle) (tgt := 46) dX2_settle_4 (by decide) (fun c4 => ?_) (fun c4 => ?_)
      · exact absurd c4 (by show ¬ nI (P.length + 1) ≤ 0; exact nI_ge (a := 0) (by omega) (by omega))
      · refine v_aload_n (I := iX2_settle) dX2_settle_7 rfl ?_
        refine v_callVi (I := iX2_settle) (I' := iX2_top) lk_X2_90 c_X2_top dX2_settle_8 (m_X2_top hK9 (by show (x :: P).length ≤ 60; rw [List.length_cons]; omega)) rfl rfl (by decide) (ae_67 _ _) rfl (by decide) (by decide) (Nat.le_of_ble_eq_true rfl) ?_
        rw [show tp (x :: P) = x from rfl]
        refine v_callSi (I := iX2_settle) (I' := iX2_rankOf) lk_X2_87 c_X2_rankOf dX2_settle_11 (m_X2_rankOf) rfl rfl (by decide) (by decide) (Nat.le_of_ble_eq_true rfl) ?_
        refine v_iload_n (I := iX2_settle) dX2_settle_14 rfl ?_
        refine v_icmp_le (I := iX2_settle) (tgt := 46) dX2_settle_15 (by decide) (fun c15 => ?_) (fun c15 => ?_)
        · have hrk : ¬ r < rkN x := fun h9 => absurd ((nI_leI (by have := rk_le x; omega) (by omega)).mp c15) (by omega)
          exact v_vret (I := iX2_settle) rfl dX2_settle_46 ⟨rfl, rfl, by rw [← hq, kSet_c, if_neg hrk]; exact hK9, hF9⟩
        · have hrk : r < rkN x := by
            rcases Nat.lt_or_ge r (rkN x) with h9 | h9
            · exact h9
            · exact absurd (nI_le h9 (by omega)) c15
          refine v_aload_n (I := iX2_settle) dX2_settle_18 rfl ?_
          refine v_get (I := iX2_settle) g_X2_12 dX2_settle_19 (by decide) (ae_67 _ _) rfl ?_
          refine v_sipush (I := iX2_settle) (v := 10000) dX2_settle_22 (by decide) ?_
          refine v_aload_n (I := iX2_settle) dX2_settle_25 rfl ?_
          refine v_callVi (I := iX2_settle) (I' := iX2_top) lk_X2_90 c_X2_top dX2_settle_26 (m_X2_top hK9 (by show (x :: P).length ≤ 60; rw [List.length_cons]; omega)) rfl rfl (by decide) (ae_67 _ _) rfl (by decide) (by decide) (Nat.le_of_ble_eq_true rfl) ?_
          rw [show tp (x :: P) = x from rfl]
          refine v_iadd (I := iX2_settle) dX2_settle_29 ?_
          refine v_callVv (I := iX2_settle) (I' := iX7_add) lk_X2_94 c_X7_add dX2_settle_30 (m_X7_add (n := O.length) hK9.len (by omega)) rfl rfl (by decide) (ae_68 _ _) rfl (by decide) (by decide) (Nat.le_of_ble_eq_true rfl) ?_
          have hK2 := hK9.add (10000 + x)
          have hF2 : FrK σ9 (up2 (up2 σ9 69 O.length (10000 + x)) 68 1 (nI (O.length + 1))) := (FrK.up (by decide)).tr (FrK.up (by decide))
          generalize up2 (up2 σ9 69 O.length (10000 + x)) 68 1 (nI (O.length + 1)) = σ2 at hK2 hF2 ⊢
          refine v_aload_n (I := iX2_settle) dX2_settle_33 rfl ?_
          refine v_dup (I := iX2_settle) dX2_settle_34 rfl ?_
          refine v_get (I := iX2_settle) g_X2_22 dX2_settle_35 (by decide) (ae_67 _ _) rfl ?_
          rw [hK2.pn]
          refine v_iconst (I := iX2_settle) (v := 1) dX2_settle_38 (by decide) ?_
          refine v_isub (I := iX2_settle) dX2_settle_39 ?_
          rw [show nI (((10000 + x) :: O, x :: P, k, dg, nm, due) : cS).2.1.length - 1 = nI P.length from nI_pred _]
          refine v_putI (I := iX2_settle) p_X2_22 dX2_settle_40 (by decide) (ae_67 _ _) (ae_67 _ _) rfl rfl (by simp) ?_
          have hK3 := hK2.pop
          have hF3 := hF9.tr (hF2.tr (FrK.up (k := 67) (j := 2) (x := nI P.length) (by decide)))
          refine v_goto (I := iX2_settle) (tgt := 0) dX2_settle_43 (by decide) ?_
          exact ih hK3 (by rw [List.length_cons]; omega) hF3 (by rw [← hq, kSet_c, if_pos hrk])
  exact key P0 hK hz FrK.rf rfl
set_option maxRecDepth 100000 in
set_option maxHeartbeats 8000000 in
theorem m_X2_settleNots {G : fGm} {σ : fSt} {τ : fLt} {O0 P0 : List Int32} {k0 nm : Int32} {dg : Nat} {due : Bool} (hK : KR σ (O0, P0, k0, dg, nm, due)) (hz : O0.length + P0.length ≤ 60) : MS G iX2_settleNots 3 [.ref 67] σ τ (rP none τ (fun σ' => KR σ' ((kNot P0 O0 k0).1, (kNot P0 O0 k0).2.1, (kNot P0 O0 k0).2.2, dg, nm, due) ∧ FrK σ σ')) := by
  refine ms_of (by decide +kernel) (Nat.le_of_ble_eq_true rfl) ?_
  show VW _ _ _ _ _ _ 0 [(0, _)] []
  have key : ∀ (P : List Int32) {O : List Int32} {k : Int32} {σ9 : fSt}, KR σ9 (O, P, k, dg, nm, due) → O.length + P.length ≤ 60 → FrK σ σ9 → kNot P O k = kNot P0 O0 k0 → VW G iX2_settleNots (rP none τ (fun σ' => KR σ' ((kNot P0 O0 k0).1, (kNot P0 O0 k0).2.1, (kNot P0 O0 k0).2.2, dg, nm, due) ∧ FrK σ σ')) 3 σ9 τ 0 [(0, .ref 67)] [] := by
    intro P
    induction P with
    | nil =>
      intro O k σ9 hK9 hz9 hF9 hq
      show VW _ _ _ _ _ _ 0 [(0, _)] []
      refine v_aload_n (I := iX2_settleNots) dX2_settleNots_0 rfl ?_
      refine v_get (I := iX2_settleNots) g_X2_22 dX2_settleNots_1 (by decide) (ae_67 _ _) rfl ?_
      rw [hK9.pn]
      refine v_if_le (I := iX2_settleNots) (tgt := 49) dX2_settleNots_4 (by decide) (fun c4 => ?_) (fun c4 => ?_)
      · exact v_vret (I := iX2_settleNots) rfl dX2_settleNots_49 ⟨rfl, rfl, by rw [← hq]; exact hK9, hF9⟩
      · exact absurd (show nI 0 ≤ 0 by decide) c4
    | cons x P ih =>
      intro O k σ9 hK9 hz9 hF9 hq
      rw [List.length_cons] at hz9
      show VW _ _ _ _ _ _ 0 [(0, _)] []
      refine v_aload_n (I := iX2_settleNots) dX2_settleNots_0 rfl ?_
      refine v_get (I := iX2_settleNots) g_X2_22 dX2_settleNots_1 (by decide) (ae_67 _ _) rfl ?_
      rw [hK9.pn]
      refine v_if_le (I := iX2_settleNots) (tgt := 49) dX2_settleNots_4 (by decide) (fun c4 => ?_) (fun c4 => ?_)
      · exact absurd c4 (by show ¬ nI (P.length + 1) ≤ 0; exact nI_ge (a := 0) (by omega) (by omega))
      · refine v_aload_n (I := iX2_settleNots) dX2_settleNots_7 rfl ?_
        refine v_callVi (I := iX2_settleNots) (I' := iX2_top) lk_X2_90 c_X2_top dX2_settleNots_8 (m_X2_top hK9 (by show (x :: P).length ≤ 60; rw [List.length_cons]; omega)) rfl rfl (by decide) (ae_67 _ _) rfl (by decide) (by decide) (Nat.le_of_ble_eq_true rfl) ?_
        rw [show tp (x :: P) = x from rfl]
        refine v_bipush (I := iX2_settleNots) (v := 33) dX2_settleNots_11 (by decide) ?_
        refine v_icmp_ne (I := iX2_settleNots) (tgt := 49) dX2_settleNots_13 (by decide) (fun c13 => ?_) (fun c13 => ?_)
        · exact v_vret (I := iX2_settleNots) rfl dX2_settleNots_49 ⟨rfl, rfl, by rw [← hq, kNot_c, if_neg c13]; exact hK9, hF9⟩
        · refine v_aload_n (I := iX2_settleNots) dX2_settleNots_16 rfl ?_
          refine v_get (I := iX2_settleNots) g_X2_12 dX2_settleNots_17 (by decide) (ae_67 _ _) rfl ?_
          refine v_sipush (I := iX2_settleNots) (v := 10033) dX2_settleNots_20 (by decide) ?_
          refine v_callVv (I := iX2_settleNots) (I' := iX7_add) lk_X2_94 c_X7_add dX2_settleNots_23 (m_X7_add (n := O.length) (x := 10033) hK9.len (by omega)) rfl rfl (by decide) (ae_68 _ _) rfl (by decide) (by decide) (Nat.le_of_ble_eq_true rfl) ?_
          have hK2 := hK9.add 10033
          have hF2 : FrK σ9 (up2 (up2 σ9 69 O.length 10033) 68 1 (nI (O.length + 1))) := (FrK.up (by decide)).tr (FrK.up (by decide))
          generalize up2 (up2 σ9 69 O.length 10033) 68 1 (nI (O.length + 1)) = σ2 at hK2 hF2 ⊢
          refine v_aload_n (I := iX2_settleNots) dX2_settleNots_26 rfl ?_
          refine v_dup (I := iX2_settleNots) dX2_settleNots_27 rfl ?_
          refine v_get (I := iX2_settleNots) g_X2_22 dX2_settleNots_28 (by decide) (ae_67 _ _) rfl ?_
          rw [hK2.pn]
          refine v_iconst (I := iX2_settleNots) (v := 1) dX2_settleNots_31 (by decide) ?_
          refine v_isub (I := iX2_settleNots) dX2_settleNots_32 ?_
          rw [show nI ((10033 :: O, x :: P, k, dg, nm, due) : cS).2.1.length - 1 = nI P.length from nI_pred _]
          refine v_putI (I := iX2_settleNots) p_X2_22 dX2_settleNots_33 (by decide) (ae_67 _ _) (ae_67 _ _) rfl rfl (by simp) ?_
          have hK3 := hK2.pop
          have hF3 : FrK σ9 (up2 σ2 67 2 (nI P.length)) := hF2.tr (FrK.up (by decide))
          generalize up2 σ2 67 2 (nI P.length) = σ3 at hK3 hF3 ⊢
          refine v_aload_n (I := iX2_settleNots) dX2_settleNots_36 rfl ?_
          refine v_dup (I := iX2_settleNots) dX2_settleNots_37 rfl ?_
          refine v_get (I := iX2_settleNots) g_X2_26 dX2_settleNots_38 (by decide) (ae_67 _ _) rfl ?_
          rw [hK3.op]
          refine v_iconst (I := iX2_settleNots) (v := 1) dX2_settleNots_41 (by decide) ?_
          refine v_isub (I := iX2_settleNots) dX2_settleNots_42 ?_
          refine v_putI (I := iX2_settleNots) p_X2_26 dX2_settleNots_43 (by decide) (ae_67 _ _) (ae_67 _ _) rfl rfl (by simp) ?_
          have hK4 := hK3.f3 (k - 1)
          have hF4 := hF9.tr (hF3.tr (FrK.up (k := 67) (j := 3) (x := k - 1) (by decide)))
          refine v_goto (I := iX2_settleNots) (tgt := 0) dX2_settleNots_46 (by decide) ?_
          exact ih hK4 (by rw [List.length_cons]; omega) hF4 (by rw [← hq, kNot_c, if_pos c13])
  exact key P0 hK hz FrK.rf rfl
set_option maxRecDepth 100000 in
set_option maxHeartbeats 8000000 in
theorem m_X2_endOperand {G : fGm} {σ : fSt} {τ : fLt} {O0 P0 : List Int32} {k0 nm x : Int32} {dg : Nat} {due : Bool} (hK : KR σ (O0, P0, k0, dg, nm, due)) (hz : O0.length + P0.length + 1 ≤ 60) : MS G iX2_endOperand 4 [.ref 67, .int x] σ τ (rP none τ (fun σ' => KR σ' ((kNot P0 (x :: O0) k0).1, (kNot P0 (x :: O0) k0).2.1, (kNot P0 (x :: O0) k0).2.2, dg, nm, false) ∧ FrK σ σ')) := by
  refine ms_of (by decide +kernel) (Nat.le_of_ble_eq_true rfl) ?_
  show VW _ _ _ _ _ _ 0 [(0, _), (1, _)] []
  refine v_aload_n (I := iX2_endOperand) dX2_endOperand_0 rfl ?_
  refine v_get (I := iX2_endOperand) g_X2_12 dX2_endOperand_1 (by decide) (ae_67 _ _) rfl ?_
  refine v_iload_n (I := iX2_endOperand) dX2_endOperand_4 rfl ?_
  refine v_callVv (I := iX2_endOperand) (I' := iX7_add) lk_X2_94 c_X7_add dX2_endOperand_5 (m_X7_add (n := O0.length) (x := x) hK.len (by omega)) rfl rfl (by decide) (ae_68 _ _) rfl (by decide) (by decide) (Nat.le_of_ble_eq_true rfl) ?_
  have hK2 := hK.add x
  have hF2 : FrK σ (up2 (up2 σ 69 O0.length x) 68 1 (nI (O0.length + 1))) := (FrK.up (by decide)).tr (FrK.up (by decide))
  generalize up2 (up2 σ 69 O0.length x) 68 1 (nI (O0.length + 1)) = σ2 at hK2 hF2 ⊢
  refine v_aload_n (I := iX2_endOperand) dX2_endOperand_8 rfl ?_
  refine v_callVvP (I := iX2_endOperand) (I' := iX2_settleNots) lk_X2_84 c_X2_settleNots dX2_endOperand_9 (m_X2_settleNots hK2 (by rw [List.length_cons]; omega)) rfl rfl (by decide) (ae_67 _ _) rfl (by decide) (by decide) (Nat.le_of_ble_eq_true rfl) (fun s9 h9 => ?_)
  refine v_aload_n (I := iX2_endOperand) dX2_endOperand_12 rfl ?_
  refine v_iconst (I := iX2_endOperand) (v := 0) dX2_endOperand_13 (by decide) ?_
  refine v_putI (I := iX2_endOperand) p_X2_35 dX2_endOperand_14 (by decide) (ae_67 _ _) (ae_67 _ _) rfl rfl (by simp) ?_
  exact v_vret (I := iX2_endOperand) rfl dX2_endOperand_17 ⟨rfl, rfl, h9.1.f6 false rfl, hF2.tr (h9.2.tr (FrK.up (by decide)))⟩
set_option maxRecDepth 100000 in
set_option maxHeartbeats 8000000 in
theorem m_X2_endNumber {G : fGm} {σ : fSt} {τ : fLt} {O0 P0 : List Int32} {k0 nm : Int32} {dg : Nat} {due : Bool} (hK : KR σ (O0, P0, k0, dg, nm, due)) (hz : szS (O0, P0, k0, dg, nm, due) ≤ 60) (hd4 : dg ≤ 4) : MS G iX2_endNumber 5 [.ref 67] σ τ (rP none τ (fun σ' => KR σ' (kEnd (O0, P0, k0, dg, nm, due)) ∧ FrK σ σ')) := by
  refine ms_of (by decide +kernel) (Nat.le_of_ble_eq_true rfl) ?_
  show VW _ _ _ _ _ _ 0 [(0, _)] []
  refine v_aload_n (I := iX2_endNumber) dX2_endNumber_0 rfl ?_
  refine v_get (I := iX2_endNumber) g_X2_32 dX2_endNumber_1 (by decide) (ae_67 _ _) rfl ?_
  rw [hK.dig]
  refine v_if_le (I := iX2_endNumber) (tgt := 20) dX2_endNumber_4 (by decide) (fun c4 => ?_) (fun c4 => ?_)
  · have hd0 : dg = 0 := by
      rcases Nat.eq_zero_or_pos dg with h9 | h9
      · exact h9
      · exact absurd c4 (nI_ge (a := 0) (b := dg) h9 (by omega))
    exact v_vret (I := iX2_endNumber) rfl dX2_endNumber_20 (by first | exact ⟨rfl, rfl, by unfold kEnd; rw [if_pos hd0]; exact h17.1, hF2.tr h17.2⟩ | exact ⟨rfl, rfl, by unfold kEnd; rw [if_neg (by show ¬ 0 < dg; omega)]; exact hK, FrK.rf⟩)
  · have hd0 : 0 < dg := by
      rcases Nat.eq_zero_or_pos dg with h9 | h9
      · subst h9; exact absurd (show nI 0 ≤ 0 by decide) c4
      · exact h9
    refine v_aload_n (I := iX2_endNumber) dX2_endNumber_7 rfl ?_
    refine v_iconst (I := iX2_endNumber) (v := 0) dX2_endNumber_8 (by decide) ?_
    refine v_putI (I := iX2_endNumber) p_X2_32 dX2_endNumber_9 (by decide) (ae_67 _ _) (ae_67 _ _) rfl rfl (by simp) ?_
    have hK2 := hK.f5 0
    have hF2 : FrK σ (up2 σ 67 5 (nI 0)) := FrK.up (by decide)
    rw [show (0 : Int32) = nI 0 from rfl]
    generalize up2 σ 67 5 (nI 0) = σ2 at hK2 hF2 ⊢
    refine v_aload_n (I := iX2_endNumber) dX2_endNumber_12 rfl ?_
    refine v_aload_n (I := iX2_endNumber) dX2_endNumber_13 rfl ?_
    refine v_get (I := iX2_endNumber) g_X2_29 dX2_endNumber_14 (by decide) (ae_67 _ _) rfl ?_
    rw [hK2.num]
    refine v_callVvP (I := iX2_endNumber) (I' := iX2_endOperand) lk_X2_78 c_X2_endOperand dX2_endNumber_17 (m_X2_endOperand hK2 (by unfold szS at hz; rw [if_pos hd0] at hz; exact hz)) rfl rfl (by decide) (ae_67 _ _) rfl (by decide) (by decide) (Nat.le_of_ble_eq_true rfl) (fun s17 h17 => ?_)
    exact v_vret (I := iX2_endNumber) rfl dX2_endNumber_20 (by first | exact ⟨rfl, rfl, by unfold kEnd; rw [if_pos hd0]; exact h17.1, hF2.tr h17.2⟩ | exact ⟨rfl, rfl, by unfold kEnd; rw [if_neg (by show ¬ 0 < dg; omega)]; exact hK, FrK.rf⟩)
