/-- the trace of a voice is kept -/
def trS (ρ : fSt) (s : vS) : fSt := up2 (va_up ρ 100 s.1) 87 21 (nI s.2.1)
def voiceR (ρ : fSt) (h v x : Int32) : Int32 × vS := sayF (gK (ρ 88) h.toNatClampNeg).toNatClampNeg h (gM (ρ 88) h.toNatClampNeg) 30 (gK (ρ 88) h.toNatClampNeg).toNatClampNeg v.toNatClampNeg x (ρ 100, 0, false)
def voiceS (ρ : fSt) (h v x : Int32) : Int32 × fSt := if (0 ≤ h ∧ h ≤ ρ 88 15 - 1) ∧ 0 ≤ v ∧ v ≤ 3 then
    (if (voiceR ρ h v x).2.2.2 = true then (errV 6, errS (trS ρ (voiceR ρ h v x).2) 6) else ((voiceR ρ h v x).1, trS ρ (voiceR ρ h v x).2)) else (errV 1, errS ρ 1)
theorem trS_k {ρ : fSt} {s : vS} {k : Nat} (h1 : k ≠ 87) (h2 : k ≠ 100) : trS ρ s k = ρ k := by simp [trS, up2, va_up, h1, h2]
theorem trS_21 {ρ : fSt} {s : vS} : trS ρ s 87 21 = nI s.2.1 := by simp [trS, up2, va_up]
theorem trS_3 {ρ : fSt} {s : vS} : trS ρ s 87 3 = ρ 87 3 := by simp [trS, up2, va_up]
theorem trS_100 {ρ : fSt} {s : vS} : trS ρ s 100 = s.1 := by simp [trS, up2, va_up]
theorem OKr_tr {ρ : fSt} {s : vS} (h : OKr ρ) (hs : s.2.1 ≤ 30) : OKr (trS ρ s) := by
  obtain ⟨h1, h2, h3, h4, h5, h6⟩ := h
  refine ⟨by rw [trS_k (by decide) (by decide)]; exact h1, by rw [trS_3, trS_k (by decide) (by decide)]; exact h2, by rw [trS_k (by decide) (by decide)]; exact h3, by rw [trS_21]; exact ⟨nI_pos' (by omega), nI_le (b := 30) hs (by decide)⟩, by rw [trS_k (by decide) (by decide)]; exact h5, by rw [trS_k (by decide) (by decide)]; exact h6⟩
theorem CR_tr {σ σ' ρ : fSt} {s : vS} (h : CR σ ρ) (hs : s.2.1 ≤ 30) (hk : ∀ k, k ≠ 85 → k ≠ 86 → σ' k = σ k) (h1 : σ' 85 1 = nI s.2.1) (h2 : σ' 86 = s.1) : CR σ' (trS ρ s) := by
  obtain ⟨g1, ⟨g2, g2'⟩, g3, g4, ⟨g5, g5'⟩, g6⟩ := h
  refine ⟨?_, ⟨by rw [hk 0 (by decide) (by decide), trS_3]; exact g2, fun hz => ?_⟩, fun e a b => ?_, fun s' hs' => ?_, ⟨by rw [h1, trS_21], fun j hj => by rw [h2, trS_100]⟩, OKr_tr g6 hs⟩
  · rw [trS_k (by decide) (by decide)]
    exact V_fr g1 fun c hc => hk _ (by unfold wc; omega) (by unfold wc; omega)
  · rw [trS_3] at hz
    rw [trS_k (by decide) (by decide)]
    exact V_fr (g2' hz) fun c hc => hk _ (by unfold wc; omega) (by unfold wc; omega)
  · rw [hk 84 (by decide) (by decide), trS_k (by decide) (by decide)]
    exact g3 e a b
  · rw [hk (sc s') (by unfold sc; omega) (by unfold sc; omega), hk (sc s' + 1) (by unfold sc; omega) (by unfold sc; omega), trS_k (by decide) (by decide), trS_k (by decide) (by decide), trS_k (by decide) (by decide)]
    exact g4 s' hs'
theorem RR_tr {σ σ' ρ : fSt} {s : vS} (h : RR σ ρ) (hs : s.2.1 ≤ 30) (hk : ∀ k, k ≠ 87 → k ≠ 100 → σ' k = σ k) (h1 : σ' 87 21 = nI s.2.1) (h3 : σ' 87 3 = σ 87 3) (h2 : σ' 100 = s.1) : RR σ' (trS ρ s) := by
  obtain ⟨g1, g2, g3, g4, g5, g6, g7, g8, g9, g10, g11, g12⟩ := h
  refine ⟨?_, ?_, ?_, ?_, ?_, h2.trans trS_100.symm, ?_, ?_, ?_, by rw [h3, trS_3]; exact g10, by rw [h1, trS_21], OKr_tr g12 hs⟩
  all_goals rw [hk _ (by decide) (by decide), trS_k (by decide) (by decide)]; assumption
theorem CR_86 {σ ρ : fSt} (h : CR σ ρ) : CR (va_up σ 86 (ρ 100)) ρ := by
  have hk : ∀ k, k ≠ 86 → va_up σ 86 (ρ 100) k = σ k := fun k hk => va_up_o _ _ hk
  obtain ⟨g1, ⟨g2, g2'⟩, g3, g4, ⟨g5, g5'⟩, g6⟩ := h
  refine ⟨V_fr g1 fun c hc => hk _ (by unfold wc; omega), ⟨by rw [hk 0 (by decide)]; exact g2, fun hz => V_fr (g2' hz) fun c hc => hk _ (by unfold wc; omega)⟩, fun e a b => by rw [hk 84 (by decide)]; exact g3 e a b, fun s' hs' => ?_, ⟨by rw [hk 85 (by decide)]; exact g5, fun j hj => by rw [va_up_s]⟩, g6⟩
  rw [hk (sc s') (by unfold sc; omega), hk (sc s' + 1) (by unfold sc; omega)]
  exact g4 s' hs'
theorem v4 {v : Int32} (h : 0 ≤ v ∧ v ≤ 3) : ∃ a, a < 4 ∧ v = nI a := in2_nI (by decide) ⟨h.1, by have := h.2; show v < 4; grind⟩
theorem k7 {k : Int32} (h : 0 ≤ k ∧ k ≤ 6) : ∃ a, a < 7 ∧ k = nI a := in2_nI (by decide) ⟨h.1, by have := h.2; show k < 7; grind⟩
theorem answer_st {σ : fSt} {k h m : Int32} : up2 (up2 (up2 (up2 (up2 σ 85 1 0) 85 2 0) 85 3 k) 85 4 h) 85 5 m = cvS (up2 (up2 (up2 σ 85 3 k) 85 4 h) 85 5 m) (σ 86, 0, false) := by
  funext q j
  by_cases e5 : q = 85
  · subst e5
    by_cases e1 : j = 1
    · subst e1; simp [rvS, cvS, up2, va_up]; rfl
    · by_cases e2 : j = 2
      · subst e2; simp [rvS, cvS, up2, va_up]
      · simp [rvS, cvS, up2, va_up, e1, e2]
  · by_cases e6 : q = 86
    · subst e6; simp [rvS, cvS, up2, va_up]
    · simp [rvS, cvS, up2, va_up, e5, e6]
set_option maxRecDepth 100000 in
set_option maxHeartbeats 8000000 in
theorem m_X6_answer {G : fGm} {σ : fSt} {τ : fLt} {h v x m : Int32} {q a ks : Nat} (hqx : h = nI q) (hq : q < 8) (hK : σ (wc 0 9) q = nI ks) (hks : ks < 7) (hM : σ (wc 0 10) q = m) (ha : v = nI a) (ha4 : a < 4) : MS G iX6_answer 33 [.ref 85, .ref (wc 0 8), .int h, .int v, .int x] σ τ
    (rT (some (.int (sayF ks h m 30 ks a x (σ 86, 0, false)).1)) (cvS (up2 (up2 (up2 σ 85 3 (nI ks)) 85 4 h) 85 5 m) (sayF ks h m 30 ks a x (σ 86, 0, false)).2) τ) := by
  have hE := @answer_st σ (nI ks) h m
  have hE3 : up2 (up2 (up2 σ 85 3 (nI ks)) 85 4 h) 85 5 m 85 3 = nI ks := by simp [up2, va_up]
  have hE4 : up2 (up2 (up2 σ 85 3 (nI ks)) 85 4 h) 85 5 m 85 4 = h := by simp [up2, va_up]
  have hE5 : up2 (up2 (up2 σ 85 3 (nI ks)) 85 4 h) 85 5 m 85 5 = m := by simp [up2, va_up]
  refine ms_of (by decide +kernel) (Nat.le_of_ble_eq_true rfl) ?_
  show VW _ _ _ _ _ _ 0 [(0, _), (1, _), (2, _), (3, _), (4, _)] []
  refine v_aload_n (I := iX6_answer) dX6_answer_0 rfl ?_
  refine v_iconst (I := iX6_answer) (v := 0) dX6_answer_1 (by decide) ?_
  refine v_putI (I := iX6_answer) p_X6_15 dX6_answer_2 (by decide) (ae_85 _ _) (ae_85 _ _) rfl rfl (by simp) ?_
  refine v_aload_n (I := iX6_answer) dX6_answer_5 rfl ?_
  refine v_iconst (I := iX6_answer) (v := 0) dX6_answer_6 (by decide) ?_
  refine v_putI (I := iX6_answer) p_X6_19 dX6_answer_7 (by decide) (ae_85 _ _) (ae_85 _ _) rfl rfl (by simp) ?_
  refine v_aload_n (I := iX6_answer) dX6_answer_10 rfl ?_
  refine v_aload_n (I := iX6_answer) dX6_answer_11 rfl ?_
  refine v_get (I := iX6_answer) g_X6_23 dX6_answer_12 (by decide) (ae_w8 (by decide) _ _) rfl ?_
  refine v_iload_n (I := iX6_answer) dX6_answer_15 rfl ?_
  refine v_callSi (I := iX6_answer) (I' := iX9_at) lk_X6_28 c_X9_at dX6_answer_16 (m_X9_at (by decide) (ae_w9 (by decide)) (by decide)) rfl rfl (by decide) (by decide) (Nat.le_of_ble_eq_true rfl) ?_
  rw [show rdA 8 (up2 (up2 σ 85 1 0) 85 2 0 (wc 0 9)) h = nI ks by rw [up2_kf _ _ _ (by decide), up2_kf _ _ _ (by decide), rdA_eq hqx hq (by decide)]; exact hK]
  refine v_putI (I := iX6_answer) p_X6_32 dX6_answer_19 (by decide) (ae_85 _ _) (ae_85 _ _) rfl rfl (by simp) ?_
  refine v_aload_n (I := iX6_answer) dX6_answer_22 rfl ?_
  refine v_iload_n (I := iX6_answer) dX6_answer_23 rfl ?_
  refine v_putI (I := iX6_answer) p_X6_35 dX6_answer_24 (by decide) (ae_85 _ _) (ae_85 _ _) rfl rfl (by simp) ?_
  refine v_aload_n (I := iX6_answer) dX6_answer_27 rfl ?_
  refine v_aload_n (I := iX6_answer) dX6_answer_28 rfl ?_
  refine v_get (I := iX6_answer) g_X6_38 dX6_answer_29 (by decide) (ae_w8 (by decide) _ _) rfl ?_
  refine v_iload_n (I := iX6_answer) dX6_answer_32 rfl ?_
  refine v_callSi (I := iX6_answer) (I' := iX9_at) lk_X6_28 c_X9_at dX6_answer_33 (m_X9_at (by decide) (ae_w10 (by decide)) (by decide)) rfl rfl (by decide) (by decide) (Nat.le_of_ble_eq_true rfl) ?_
  rw [show rdA 8 (up2 (up2 (up2 (up2 σ 85 1 0) 85 2 0) 85 3 (nI ks)) 85 4 h (wc 0 10)) h = m by rw [up2_kf _ _ _ (by decide), up2_kf _ _ _ (by decide), up2_kf _ _ _ (by decide), up2_kf _ _ _ (by decide), rdA_eq hqx hq (by decide)]; exact hM]
  refine v_putI (I := iX6_answer) p_X6_41 dX6_answer_36 (by decide) (ae_85 _ _) (ae_85 _ _) rfl rfl (by simp) ?_
  rw [hE]
  refine v_aload_n (I := iX6_answer) dX6_answer_39 rfl ?_
  refine v_aload_n (I := iX6_answer) dX6_answer_40 rfl ?_
  refine v_get (I := iX6_answer) g_X6_32 dX6_answer_41 (by decide) (ae_85 _ _) rfl ?_
  rw [cvS_o (by decide) (by decide), hE3]
  refine v_iload_n (I := iX6_answer) dX6_answer_44 rfl ?_
  refine v_iload (I := iX6_answer) dX6_answer_45 rfl ?_
  refine v_iconst (I := iX6_answer) (v := 0) dX6_answer_47 (by decide) ?_
  refine v_callSi (I := iX6_answer) (I' := iX6_say) lk_X6_44 c_X6_say dX6_answer_48 (m_X6_say hks 30 (k := ks) (a := a) (x := x) (s := (σ 86, 0, false)) (Nat.le_refl _) hE3 hE4 hE5 rfl hks ha ha4 rfl (by show 0 ≤ 30; decide)) rfl rfl (by decide) (by decide) (Nat.le_of_ble_eq_true rfl) ?_
  exact v_iret (I := iX6_answer) rfl dX6_answer_51 ⟨by first | rfl | (simp only [*]; done) | (simp [*]; done), rfl, rfl⟩
set_option maxRecDepth 100000 in
set_option maxHeartbeats 8000000 in
theorem m_X9_voice {G : fGm} {σ : fSt} {τ : fLt} {ρ : fSt} (hC : CR σ ρ) {h v x : Int32} : MS G iX9_voice 34 [.ref 0, .int h, .int v, .int x] σ τ (rC τ σ (voiceS ρ h v x)) := by
  refine ms_of (by decide +kernel) (Nat.le_of_ble_eq_true rfl) ?_
  show VW _ _ _ _ _ _ 0 [(0, _), (1, _), (2, _), (3, _)] []
  refine v_aload_n (I := iX9_voice) dX9_voice_0 rfl ?_
  refine v_iload_n (I := iX9_voice) dX9_voice_1 rfl ?_
  refine v_callVi (I := iX9_voice) (I' := iX9_isGoing) lk_X9_134 c_X9_isGoing dX9_voice_2 (m_X9_isGoing hC.1) rfl rfl (by decide) (ae_0 _ _) rfl (by decide) (by decide) (Nat.le_of_ble_eq_true rfl) ?_
  refine v_if_eqB (I := iX9_voice) (tgt := 17) dX9_voice_5 (by decide) (fun c5 => ?_) (fun c5 => ?_)
  · refine v_aload_n (I := iX9_voice) dX9_voice_17 rfl ?_
    refine v_iconst (I := iX9_voice) (v := 1) dX9_voice_18 (by decide) ?_
    refine v_callVi (I := iX9_voice) (I' := iX9_refused) lk_X9_62 c_X9_refused dX9_voice_19 (m_X9_refused (e := 1) (by decide) (by decide) (by decide)) rfl rfl (by decide) (ae_0 _ _) rfl (by decide) (by decide) (Nat.le_of_ble_eq_true rfl) ?_
    exact v_iret (I := iX9_voice) rfl dX9_voice_22 (by unfold voiceS; rw [if_neg (by grind)]; exact ⟨rfl, rfl, CR_err hC (by decide) (by decide), FC.up (by decide)⟩)
  · refine v_iload_n (I := iX9_voice) dX9_voice_8 rfl ?_
    refine v_iconst (I := iX9_voice) (v := 0) dX9_voice_9 (by decide) ?_
    refine v_iconst (I := iX9_voice) (v := 3) dX9_voice_10 (by decide) ?_
    refine v_callSi (I := iX9_voice) (I' := iX9_within) lk_X9_58 c_X9_within dX9_voice_11 (m_X9_within) rfl rfl (by decide) (by decide) (Nat.le_of_ble_eq_true rfl) ?_
    refine v_if_neB (I := iX9_voice) (tgt := 23) dX9_voice_14 (by decide) (fun c14 => ?_) (fun c14 => ?_)
    · have hb9 := B_n15 hC.2.2.2.2.2.1.1
      obtain ⟨q, hq, hqx⟩ := nI8 (x := h) (by grind)
      have hqc : h.toNatClampNeg = q := by rw [hqx]; exact nI_clamp (by omega)
      obtain ⟨a, ha4, hax⟩ := v4 (v := v) (by grind)
      have hac : v.toNatClampNeg = a := by rw [hax]; exact nI_clamp (by omega)
      obtain ⟨ks, hks, hke⟩ := k7 (kind_in hC.2.2.2.2.2.1.1 hq)
      have hkc : (gK (ρ 88) q).toNatClampNeg = ks := by rw [hke]; exact nI_clamp (by omega)
      have hgood : (0 ≤ h ∧ h ≤ ρ 88 15 - 1) ∧ 0 ≤ v ∧ v ≤ 3 := by grind
      have hvr : voiceR ρ h v x = sayF ks h (gM (ρ 88) q) 30 ks a x (ρ 100, 0, false) := by unfold voiceR; rw [hqc, hac, hkc]
      have hcnt : (voiceR ρ h v x).2.2.1 ≤ 30 := by rw [hvr]; exact say_cnt _ _ _ _ _ (by show 0 ≤ 30; decide)
      have hF9 : FC σ (va_up σ 86 (ρ 100)) := fun k hk => va_up_o _ _ (by omega)
      refine v_extI (I := iX9_voice) (σ2 := va_up σ 86 (ρ 100)) (k0 := 86) (n := 30) ae_86 (fun j hj => by rw [va_up_s]; exact hC.2.2.2.2.1.2 j hj) (fun k hk => (va_up_o _ _ hk).symm) ?_
      have hC1 := CR_86 hC
      have h86 : va_up σ 86 (ρ 100) 86 = ρ 100 := va_up_s _ _ _
      generalize va_up σ 86 (ρ 100) = σ1 at hC1 hF9 h86 ⊢
      refine v_aload_n (I := iX9_voice) dX9_voice_23 rfl ?_
      refine v_get (I := iX9_voice) g_X9_49 dX9_voice_24 (by decide) (ae_0 _ _) rfl ?_
      refine v_aload_n (I := iX9_voice) dX9_voice_27 rfl ?_
      refine v_get (I := iX9_voice) g_X9_10 dX9_voice_28 (by decide) (ae_0 _ _) rfl ?_
      refine v_get (I := iX9_voice) g_X9_120 dX9_voice_31 (by decide) (ae_w0 (by decide) _ _) rfl ?_
      refine v_iload_n (I := iX9_voice) dX9_voice_34 rfl ?_
      refine v_iload_n (I := iX9_voice) dX9_voice_35 rfl ?_
      refine v_iload_n (I := iX9_voice) dX9_voice_36 rfl ?_
      refine v_callVi (I := iX9_voice) (I' := iX6_answer) lk_X9_246 c_X6_answer dX9_voice_37 (m_X6_answer (ks := ks) hqx hq ((V_gk hC1.1 hq).trans hke) hks (V_gm hC1.1 hq) hax ha4) rfl rfl (by decide) (ae_85 _ _) rfl (by decide) (by decide) (Nat.le_of_ble_eq_true rfl) ?_
      rw [h86]
      show VW _ _ _ _ (cvS (up2 (up2 (up2 σ1 85 3 (nI ks)) 85 4 h) 85 5 (gM (ρ 88) q)) (sayF ks h (gM (ρ 88) q) 30 ks a x (ρ 100, 0, false)).2) _ _ _ [.int (sayF ks h (gM (ρ 88) q) 30 ks a x (ρ 100, 0, false)).1]
      rw [← hvr]
      have hp9 : cvS (up2 (up2 (up2 σ1 85 3 (nI ks)) 85 4 h) 85 5 (gM (ρ 88) q)) (voiceR ρ h v x).2 85 2 = _ := cvS_2
      have hC2 : CR (cvS (up2 (up2 (up2 σ1 85 3 (nI ks)) 85 4 h) 85 5 (gM (ρ 88) q)) (voiceR ρ h v x).2) (trS ρ (voiceR ρ h v x).2) := CR_tr hC1 hcnt (fun k h1 h2 => by simp [cvS, up2, va_up, h1, h2]) cvS_1 (by simp [cvS, va_up])
      have hF2 : FC σ (cvS (up2 (up2 (up2 σ1 85 3 (nI ks)) 85 4 h) 85 5 (gM (ρ 88) q)) (voiceR ρ h v x).2) := hF9.tr (fun k hk => by simp [cvS, up2, va_up, show k ≠ 85 by omega, show k ≠ 86 by omega])
      generalize cvS (up2 (up2 (up2 σ1 85 3 (nI ks)) 85 4 h) 85 5 (gM (ρ 88) q)) (voiceR ρ h v x).2 = σ2 at hp9 hC2 hF2 ⊢
      refine v_istore (I := iX9_voice) (ls1 := [(4, _), (0, _), (1, _), (2, _), (3, _)]) dX9_voice_40 (by decide) rfl ?_
      refine v_aload_n (I := iX9_voice) dX9_voice_42 rfl ?_
      refine v_get (I := iX9_voice) g_X9_49 dX9_voice_43 (by decide) (ae_0 _ _) rfl ?_
      refine v_get (I := iX9_voice) g_X9_250 dX9_voice_46 (by decide) (ae_85 _ _) rfl ?_
      rw [hp9]
      refine v_if_eq (I := iX9_voice) (tgt := 61) dX9_voice_49 (by decide) (fun c49 => ?_) (fun c49 => ?_)
      · have hpp : ¬ (voiceR ρ h v x).2.2.2 = true := fun h9 => by rw [if_pos h9] at c49; exact absurd c49 (by decide)
        refine v_iload (I := iX9_voice) dX9_voice_61 rfl ?_
        exact v_iret (I := iX9_voice) rfl dX9_voice_63 (by unfold voiceS; rw [if_pos hgood]; first | (rw [if_pos hpp]; exact ⟨rfl, rfl, CR_err hC2 (by decide) (by decide), hF2.tr (FC.up (by decide))⟩) | (rw [if_neg hpp]; exact ⟨rfl, rfl, hC2, hF2⟩))
      · have hpp : (voiceR ρ h v x).2.2.2 = true := Decidable.byContradiction fun h9 => c49 (by rw [if_neg h9])
        refine v_aload_n (I := iX9_voice) dX9_voice_52 rfl ?_
        refine v_bipush (I := iX9_voice) (v := 6) dX9_voice_53 (by decide) ?_
        refine v_callVi (I := iX9_voice) (I' := iX9_refused) lk_X9_62 c_X9_refused dX9_voice_55 (m_X9_refused (e := 6) (by decide) (by decide) (by decide)) rfl rfl (by decide) (ae_0 _ _) rfl (by decide) (by decide) (Nat.le_of_ble_eq_true rfl) ?_
        refine v_goto (I := iX9_voice) (tgt := 63) dX9_voice_58 (by decide) ?_
        exact v_iret (I := iX9_voice) rfl dX9_voice_63 (by unfold voiceS; rw [if_pos hgood]; first | (rw [if_pos hpp]; exact ⟨rfl, rfl, CR_err hC2 (by decide) (by decide), hF2.tr (FC.up (by decide))⟩) | (rw [if_neg hpp]; exact ⟨rfl, rfl, hC2, hF2⟩))
    · refine v_aload_n (I := iX9_voice) dX9_voice_17 rfl ?_
      refine v_iconst (I := iX9_voice) (v := 1) dX9_voice_18 (by decide) ?_
      refine v_callVi (I := iX9_voice) (I' := iX9_refused) lk_X9_62 c_X9_refused dX9_voice_19 (m_X9_refused (e := 1) (by decide) (by decide) (by decide)) rfl rfl (by decide) (ae_0 _ _) rfl (by decide) (by decide) (Nat.le_of_ble_eq_true rfl) ?_
      exact v_iret (I := iX9_voice) rfl dX9_voice_22 (by unfold voiceS; rw [if_neg (by grind)]; exact ⟨rfl, rfl, CR_err hC (by decide) (by decide), FC.up (by decide)⟩)
theorem voice_st {σ : fSt} {h : Int32} : up2 (up2 (up2 σ 87 21 0) 87 22 h) 87 23 0 = rvS (up2 σ 87 22 h) (σ 100, 0, false) := by
  funext q j
  by_cases e5 : q = 87
  · subst e5
    by_cases e1 : j = 23
    · subst e1; simp [rvS, cvS, up2, va_up]
    · by_cases e2 : j = 22
      · subst e2; simp [rvS, cvS, up2, va_up]
      · by_cases e3 : j = 21
        · subst e3; simp [rvS, cvS, up2, va_up]; rfl
        · simp [rvS, cvS, up2, va_up, e1, e2, e3]
  · by_cases e6 : q = 100
    · subst e6; simp [rvS, cvS, up2, va_up]
    · simp [rvS, cvS, up2, va_up, e5, e6]
set_option maxRecDepth 100000 in
set_option maxHeartbeats 8000000 in
theorem m_X10_voice {G : fGm} {σ : fSt} {τ : fLt} {ρ : fSt} (hR : RR σ ρ) {h v x : Int32} : MS G iX10_voice 20 [.ref 87, .int h, .int v, .int x] σ τ (rR τ σ (voiceS ρ h v x)) := by
  refine ms_of (by decide +kernel) (Nat.le_of_ble_eq_true rfl) ?_
  show VW _ _ _ _ _ _ 0 [(0, _), (1, _), (2, _), (3, _)] []
  refine v_aload_n (I := iX10_voice) dX10_voice_0 rfl ?_
  refine v_iload_n (I := iX10_voice) dX10_voice_1 rfl ?_
  refine v_bipush (I := iX10_voice) (v := 15) dX10_voice_2 (by decide) ?_
  refine v_callVi (I := iX10_voice) (I' := iX10_isOf) lk_X10_113 c_X10_isOf dX10_voice_4 (m_X10_isOf (c := 15) (by decide) (by decide)) rfl rfl (by decide) (ae_87 _ _) rfl (by decide) (by decide) (Nat.le_of_ble_eq_true rfl) ?_
  rw [hR.1]
  refine v_if_eqB (I := iX10_voice) (tgt := 19) dX10_voice_7 (by decide) (fun c7 => ?_) (fun c7 => ?_)
  · refine v_aload_n (I := iX10_voice) dX10_voice_19 rfl ?_
    refine v_ldc (I := iX10_voice) k_X10_91 dX10_voice_20 ?_
    refine v_callVi (I := iX10_voice) (I' := iX10_finding) lk_X10_92 c_X10_finding dX10_voice_22 (m_X10_findE (e := 1) (by decide) (by decide)) rfl rfl (by decide) (ae_87 _ _) rfl (by decide) (by decide) (Nat.le_of_ble_eq_true rfl) ?_
    exact v_iret (I := iX10_voice) rfl dX10_voice_25 (by unfold voiceS; rw [if_neg (by grind)]; exact ⟨rfl, rfl, RR_err hR, FR.up (by decide)⟩)
  · refine v_iload_n (I := iX10_voice) dX10_voice_10 rfl ?_
    refine v_iconst (I := iX10_voice) (v := 0) dX10_voice_11 (by decide) ?_
    refine v_iconst (I := iX10_voice) (v := 3) dX10_voice_12 (by decide) ?_
    refine v_callSi (I := iX10_voice) (I' := iX10_within) lk_X10_79 c_X10_within dX10_voice_13 (m_X10_within) rfl rfl (by decide) (by decide) (Nat.le_of_ble_eq_true rfl) ?_
    refine v_if_neB (I := iX10_voice) (tgt := 26) dX10_voice_16 (by decide) (fun c16 => ?_) (fun c16 => ?_)
    · have hb9 := B_n15 hR.2.2.2.2.2.2.2.2.2.2.2.1.1
      obtain ⟨q, hq, hqx⟩ := nI8 (x := h) (by grind)
      have hqc : h.toNatClampNeg = q := by rw [hqx]; exact nI_clamp (by omega)
      obtain ⟨a, ha4, hax⟩ := v4 (v := v) (by grind)
      have hac : v.toNatClampNeg = a := by rw [hax]; exact nI_clamp (by omega)
      obtain ⟨ks, hks, hke⟩ := k7 (kind_in hR.2.2.2.2.2.2.2.2.2.2.2.1.1 hq)
      have hkc : (gK (ρ 88) q).toNatClampNeg = ks := by rw [hke]; exact nI_clamp (by omega)
      have hgood : (0 ≤ h ∧ h ≤ ρ 88 15 - 1) ∧ 0 ≤ v ∧ v ≤ 3 := by grind
      have hvr : voiceR ρ h v x = sayF ks h (gM (ρ 88) q) 30 ks a x (ρ 100, 0, false) := by unfold voiceR; rw [hqc, hac, hkc]
      have hcnt : (voiceR ρ h v x).2.2.1 ≤ 30 := by rw [hvr]; exact say_cnt _ _ _ _ _ (by show 0 ≤ 30; decide)
      have hok6 := okF6 ks hks a ha4
      have hmono : sayF ks h (gM (ρ 88) q) 30 ks a x (ρ 100, 0, false) = sayF ks h (gM (ρ 88) q) 6 ks a x (ρ 100, 0, false) := say_mono 6 30 ks a x _ hok6 (by decide)
      rw [hmono] at hvr
      refine v_aload_n (I := iX10_voice) dX10_voice_26 rfl ?_
      refine v_iconst (I := iX10_voice) (v := 0) dX10_voice_27 (by decide) ?_
      refine v_putI (I := iX10_voice) p_X10_290 dX10_voice_28 (by decide) (ae_87 _ _) (ae_87 _ _) rfl rfl (by simp) ?_
      refine v_aload_n (I := iX10_voice) dX10_voice_31 rfl ?_
      refine v_iload_n (I := iX10_voice) dX10_voice_32 rfl ?_
      refine v_putI (I := iX10_voice) p_X10_293 dX10_voice_33 (by decide) (ae_87 _ _) (ae_87 _ _) rfl rfl (by simp) ?_
      refine v_aload_n (I := iX10_voice) dX10_voice_36 rfl ?_
      refine v_iconst (I := iX10_voice) (v := 0) dX10_voice_37 (by decide) ?_
      refine v_putI (I := iX10_voice) p_X10_302 dX10_voice_38 (by decide) (ae_87 _ _) (ae_87 _ _) rfl rfl (by simp) ?_
      rw [voice_st, hR.2.2.2.2.2.1]
      refine v_aload_n (I := iX10_voice) dX10_voice_41 rfl ?_
      refine v_iload_n (I := iX10_voice) dX10_voice_42 rfl ?_
      refine v_iload_n (I := iX10_voice) dX10_voice_43 rfl ?_
      refine v_callVi (I := iX10_voice) (I' := iX10_voiced) lk_X10_311 c_X10_voiced dX10_voice_44 (m_X10_voiced (σ := up2 σ 87 22 h) (q := q) (ks := ks) (m := gM (ρ 88) q) hks hq (by rw [up2_s]; exact hqx) (by rw [up2_kf _ _ _ (by decide), hR.1]; exact hke) (by rw [up2_kf _ _ _ (by decide), hR.1]; rfl) (RecB_all hks hq (by rw [up2_s]; exact hqx) (by rw [up2_kf _ _ _ (by decide), hR.1]; exact hke) (by rw [up2_kf _ _ _ (by decide), hR.1]; rfl) 6) (a := a) (x := x) (s := (ρ 100, 0, false)) hax ha4 (by show 0 ≤ 30; decide) hok6) rfl rfl (by decide) (ae_87 _ _) rfl (by decide) (by decide) (Nat.le_of_ble_eq_true rfl) ?_
      rw [← hqx, ← hvr]
      have hp9 : rvS (up2 σ 87 22 h) (voiceR ρ h v x).2 87 23 = _ := rvS_2
      have hR2 : RR (rvS (up2 σ 87 22 h) (voiceR ρ h v x).2) (trS ρ (voiceR ρ h v x).2) := RR_tr hR hcnt (fun k h1 h2 => by simp [rvS, up2, va_up, h1, h2]) rvS_1 (by simp [rvS, up2, va_up]) (by simp [rvS, va_up])
      have hF2 : FR σ (rvS (up2 σ 87 22 h) (voiceR ρ h v x).2) := fun k hk => by simp [rvS, up2, va_up, show k ≠ 87 by omega, show k ≠ 100 by omega]
      generalize rvS (up2 σ 87 22 h) (voiceR ρ h v x).2 = σ2 at hp9 hR2 hF2 ⊢
      refine v_istore (I := iX10_voice) (ls1 := [(4, _), (0, _), (1, _), (2, _), (3, _)]) dX10_voice_47 (by decide) rfl ?_
      refine v_aload_n (I := iX10_voice) dX10_voice_49 rfl ?_
      refine v_get (I := iX10_voice) g_X10_302 dX10_voice_50 (by decide) (ae_87 _ _) rfl ?_
      rw [hp9]
      refine v_if_eq (I := iX10_voice) (tgt := 66) dX10_voice_53 (by decide) (fun c53 => ?_) (fun c53 => ?_)
      · have hpp : ¬ (voiceR ρ h v x).2.2.2 = true := fun h9 => by rw [if_pos h9] at c53; exact absurd c53 (by decide)
        refine v_iload (I := iX10_voice) dX10_voice_66 rfl ?_
        exact v_iret (I := iX10_voice) rfl dX10_voice_68 (by unfold voiceS; rw [if_pos hgood]; first | (rw [if_pos hpp]; exact ⟨rfl, rfl, RR_err hR2, hF2.tr (FR.up (by decide))⟩) | (rw [if_neg hpp]; exact ⟨rfl, rfl, hR2, hF2⟩))
      · have hpp : (voiceR ρ h v x).2.2.2 = true := Decidable.byContradiction fun h9 => c53 (by rw [if_neg h9])
        refine v_aload_n (I := iX10_voice) dX10_voice_56 rfl ?_
        refine v_ldcw (I := iX10_voice) k_X10_314 dX10_voice_57 ?_
        refine v_callVi (I := iX10_voice) (I' := iX10_finding) lk_X10_92 c_X10_finding dX10_voice_60 (m_X10_findE (e := 6) (by decide) (by decide)) rfl rfl (by decide) (ae_87 _ _) rfl (by decide) (by decide) (Nat.le_of_ble_eq_true rfl) ?_
        refine v_goto (I := iX10_voice) (tgt := 68) dX10_voice_63 (by decide) ?_
        exact v_iret (I := iX10_voice) rfl dX10_voice_68 (by unfold voiceS; rw [if_pos hgood]; first | (rw [if_pos hpp]; exact ⟨rfl, rfl, RR_err hR2, hF2.tr (FR.up (by decide))⟩) | (rw [if_neg hpp]; exact ⟨rfl, rfl, hR2, hF2⟩))
    · refine v_aload_n (I := iX10_voice) dX10_voice_19 rfl ?_
      refine v_ldc (I := iX10_voice) k_X10_91 dX10_voice_20 ?_
      refine v_callVi (I := iX10_voice) (I' := iX10_finding) lk_X10_92 c_X10_finding dX10_voice_22 (m_X10_findE (e := 1) (by decide) (by decide)) rfl rfl (by decide) (ae_87 _ _) rfl (by decide) (by decide) (Nat.le_of_ble_eq_true rfl) ?_
      exact v_iret (I := iX10_voice) rfl dX10_voice_25 (by unfold voiceS; rw [if_neg (by grind)]; exact ⟨rfl, rfl, RR_err hR, FR.up (by decide)⟩)
