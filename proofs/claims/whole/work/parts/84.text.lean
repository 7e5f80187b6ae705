/-- a text comes to the row: its first i items so far -/
def gTx (g : gS) (u : Nat) (C : List Int32) (i : Nat) : gS := fun q => if q = 171 + 62 * u then nI C.length else if 171 + 62 * u + 1 ≤ q ∧ q < 171 + 62 * u + 1 + i then C.reverse.getD (q - (171 + 62 * u + 1)) 0 else g q
def txR (ρ : fSt) (u : Nat) : pR := pTxt (fun j => ρ 88 (87 + j)) (ρ 88 16).toNatClampNeg u
def textS (ρ : fSt) (u : Int32) : Int32 × fSt := if 0 ≤ u ∧ u ≤ 1 then
  (if (txR ρ u.toNatClampNeg).1 = false ∨ (txR ρ u.toNatClampNeg).2.1 < (ρ 88 16).toNatClampNeg then (-10 - nI (txR ρ u.toNatClampNeg).2.1, rowS ρ (va_up (ρ 88) 16 0))
   else (1, rowS ρ (gTx (va_up (ρ 88) 16 0) u.toNatClampNeg (txR ρ u.toNatClampNeg).2.2 (txR ρ u.toNatClampNeg).2.2.length))) else (errV 1, errS ρ 1)
theorem gTx_lo {g : gS} {u i q : Nat} {C : List Int32} (h : q < 171) : gTx g u C i q = g q := by
  unfold gTx
  rw [if_neg (by omega), if_neg (by omega)]
theorem gTx_len {g : gS} {u i : Nat} {C : List Int32} : gTx g u C i (171 + 62 * u) = nI C.length := by
  unfold gTx
  rw [if_pos rfl]
theorem gTx_at {g : gS} {u i j : Nat} {C : List Int32} (h : j < i) : gTx g u C i (171 + 62 * u + 1 + j) = C.reverse.getD j 0 := by
  unfold gTx
  rw [if_neg (by omega), if_pos (by omega)]
  congr 1
  omega
theorem gTx_s {g : gS} {u i : Nat} {C : List Int32} : va_up (gTx g u C i) (171 + 62 * u + 1 + i) (C.reverse.getD i 0) = gTx g u C (i + 1) := by
  funext q
  by_cases e : q = 171 + 62 * u + 1 + i
  · subst e
    rw [va_up_s, gTx_at (by omega)]
  · rw [va_up_o _ _ e]
    unfold gTx
    by_cases h1 : q = 171 + 62 * u
    · rw [if_pos h1, if_pos h1]
    · rw [if_neg h1, if_neg h1]
      by_cases h2 : 171 + 62 * u + 1 ≤ q ∧ q < 171 + 62 * u + 1 + i
      · rw [if_pos h2, if_pos (by omega)]
      · rw [if_neg h2, if_neg (by omega)]
theorem gTx_0 {g : gS} {u : Nat} {C : List Int32} : va_up g (171 + 62 * u) (nI C.length) = gTx g u C 0 := by
  funext q
  unfold gTx
  by_cases e : q = 171 + 62 * u
  · subst e
    rw [va_up_s, if_pos rfl]
  · rw [va_up_o _ _ e, if_neg e, if_neg (by omega)]
theorem Stk_at {f : Nat → Int32} : ∀ {L : List Int32}, Stk f L → ∀ j, j < L.length → f j = L.reverse.getD j 0 := by
  intro L
  induction L with
  | nil => intro _ j h; exact absurd h (Nat.not_lt_zero _)
  | cons x t ih =>
    intro h j hj
    rw [List.length_cons] at hj
    rw [List.reverse_cons, List.getD_eq_getElem?_getD]
    by_cases e : j = t.length
    · subst e
      rw [List.getElem?_append_right (by rw [List.length_reverse]; omega), List.length_reverse, Nat.sub_self]
      exact h.1
    · rw [List.getElem?_append_left (by rw [List.length_reverse]; omega), ← List.getD_eq_getElem?_getD]
      exact ih h.2 j (by omega)
theorem gTx_code {g : gS} {u : Nat} {C : List Int32} (hC : C.length ≤ 60) : gCode (gTx g u C C.length) u = C.reverse := by
  unfold gCode
  rw [gTx_len, nI_clamp (by omega)]
  apply List.ext_getElem?
  intro j
  rw [List.getElem?_map]
  by_cases h : j < C.length
  · rw [List.getElem?_range h]
    show some (gTx g u C C.length (171 + 62 * u + 1 + j)) = _
    rw [gTx_at h, List.getD_eq_getElem?_getD, List.getElem?_eq_getElem (by rw [List.length_reverse]; exact h)]
    rfl
  · rw [List.getElem?_eq_none (by rw [List.length_range]; omega), List.getElem?_eq_none (by rw [List.length_reverse]; omega)]
    rfl
theorem gTx_oth {g : gS} {u v i q : Nat} {C : List Int32} (hu : u < 2) (hv : v < 2) (hne : v ≠ u) (hi : i ≤ 60) (hq : 171 + 62 * v ≤ q ∧ q < 171 + 62 * v + 61) : gTx g u C i q = g q := by
  unfold gTx
  rw [if_neg (by omega), if_neg (by omega)]
theorem tOK_oth {g : gS} {u v : Nat} {C : List Int32} (hu : u < 2) (hv : v < 2) (hne : v ≠ u) (hC : C.length ≤ 60) (h : tOK g v) : tOK (gTx g u C C.length) v := by
  obtain ⟨n, hn, e, hr⟩ := h
  have e2 : gTx g u C C.length (171 + 62 * v) = g (171 + 62 * v) := gTx_oth hu hv hne hC (by omega)
  refine ⟨n, hn, e2.trans e, fun h0 => ?_⟩
  have : gCode (gTx g u C C.length) v = gCode g v := by
    unfold gCode
    rw [e2]
    apply List.map_congr_left
    intro j hj
    rw [List.mem_range, e, nI_clamp (by omega)] at hj
    exact gTx_oth hu hv hne hC (by omega)
  rw [this]
  exact hr h0
theorem tOK_tx {g : gS} {u : Nat} {C : List Int32} (hC : C.length ≤ 60) (hw : wfD C) : tOK (gTx g u C C.length) u := by
  refine ⟨C.length, hC, gTx_len, fun _ => ?_⟩
  rw [gTx_code hC]
  have := hw [] 0 rfl
  rwa [List.append_nil] at this
theorem IV_tx {g : gS} {u : Nat} {C : List Int32} (hu : u < 2) (h : IV g) (hC : C.length ≤ 60) (hw : wfD C) : IV (gTx g u C C.length) := by
  obtain ⟨h1, h2, h3, h4⟩ := h
  refine ⟨fun i hi => by rw [gTx_lo hi]; exact h1 i hi, ?_, ?_, ?_⟩
  · rcases (show u = 0 ∨ u = 1 by omega) with rfl | rfl
    · exact tOK_tx hC hw
    · exact tOK_oth (by decide) (by decide) (by decide) hC h2
  · rcases (show u = 0 ∨ u = 1 by omega) with rfl | rfl
    · exact tOK_oth (by decide) (by decide) (by decide) hC h3
    · exact tOK_tx hC hw
  · have e : ∀ q, q < 171 → gTx g u C C.length q = g q := fun q hq => gTx_lo hq
    refine ⟨fun h9 => ?_, fun h9 => ?_⟩
    · rw [e 15 (by decide)] at h9
      obtain ⟨a, b, c⟩ := h4.1 h9
      rw [e 11 (by decide), e 12 (by decide), e 15 (by decide)]
      exact ⟨a, b, fun j hj hl => by rw [e _ (by omega)]; exact c j hj hl⟩
    · rw [e 15 (by decide)] at h9
      rw [e 11 (by decide), e 12 (by decide)]
      exact h4.2 h9
theorem IV_16 {g : gS} (h : IV g) : IV (va_up g 16 0) := IV_up h ⟨by decide, by decide, by decide, by decide, fun j hj => by omega⟩ ⟨by decide, by decide⟩
theorem RR_row2 {σ σ' ρ : fSt} {g : gS} (h : RR σ ρ) (hI : IV g) (h88 : σ' 88 = g) (hk : ∀ k, k = 89 ∨ k = 91 ∨ k = 92 ∨ k = 93 ∨ k = 100 ∨ k = 101 ∨ k = 102 ∨ k = 103 → σ' k = σ k) (h3 : σ' 87 3 = σ 87 3) (h21 : σ' 87 21 = σ 87 21) : RR σ' (rowS ρ g) := by
  obtain ⟨g1, g2, g3, g4, g5, g6, g7, g8, g9, g10, g11, g12⟩ := h
  have hr : ∀ k, k ≠ 88 → rowS ρ g k = ρ k := fun k hk => va_up_o _ _ hk
  refine ⟨h88.trans (va_up_s _ _ _).symm, ?_, ?_, ?_, ?_, ?_, ?_, ?_, ?_, ?_, ?_, OKr_row g12 hI⟩
  · rw [hk 89 (by decide), hr 89 (by decide)]; exact g2
  · rw [hk 91 (by decide), hr 91 (by decide)]; exact g3
  · rw [hk 92 (by decide), hr 92 (by decide)]; exact g4
  · rw [hk 93 (by decide), hr 93 (by decide)]; exact g5
  · rw [hk 100 (by decide), hr 100 (by decide)]; exact g6
  · rw [hk 101 (by decide), hr 101 (by decide)]; exact g7
  · rw [hk 102 (by decide), hr 102 (by decide)]; exact g8
  · rw [hk 103 (by decide), hr 103 (by decide)]; exact g9
  · rw [h3, hr 87 (by decide)]; exact g10
  · rw [h21, hr 87 (by decide)]; exact g11
theorem tape_in {g : gS} (hB : B g) : ∀ j, j < 60 → 0 ≤ g (87 + j) ∧ g (87 + j) ≤ 255 := by
  intro j hj
  have h := hB (87 + j) (by omega)
  rw [bnd_tape j hj] at h
  exact h
theorem u2 {u : Int32} (h : 0 ≤ u ∧ u ≤ 1) : ∃ q, q < 2 ∧ u = nI q := in2_nI (by decide) ⟨h.1, by have := h.2; show u < 2; grind⟩
set_option maxRecDepth 100000 in
set_option maxHeartbeats 8000000 in
theorem m_X10_text {G : fGm} {σ : fSt} {τ : fLt} {ρ : fSt} (hR : RR σ ρ) {u : Int32} : MS G iX10_text 73 [.ref 87, .int u] σ τ (rR τ σ (textS ρ u)) := by
  refine ms_of (by decide +kernel) (Nat.le_of_ble_eq_true rfl) ?_
  show VW _ _ _ _ _ _ 0 [(0, _), (1, _)] []
  refine v_iload_n (I := iX10_text) dX10_text_0 rfl ?_
  refine v_iconst (I := iX10_text) (v := 0) dX10_text_1 (by decide) ?_
  refine v_iconst (I := iX10_text) (v := 1) dX10_text_2 (by decide) ?_
  refine v_callSi (I := iX10_text) (I' := iX10_within) lk_X10_79 c_X10_within dX10_text_3 (m_X10_within) rfl rfl (by decide) (by decide) (Nat.le_of_ble_eq_true rfl) ?_
  refine v_if_neB (I := iX10_text) (tgt := 16) dX10_text_6 (by decide) (fun c6 => ?_) (fun c6 => ?_)
  · have hgood : 0 ≤ u ∧ u ≤ 1 := by grind
    obtain ⟨q, hq, rfl⟩ := u2 hgood
    have hqc : (nI q).toNatClampNeg = q := nI_clamp (by omega)
    obtain ⟨N, hN, hNx⟩ : ∃ N, N < 61 ∧ ρ 88 16 = nI N := in2_nI (by decide) ⟨(B_n16 hR.2.2.2.2.2.2.2.2.2.2.2.1.1).1, by show ρ 88 16 < 61; have := (B_n16 hR.2.2.2.2.2.2.2.2.2.2.2.1.1).2; grind⟩
    have hNc : (ρ 88 16).toNatClampNeg = N := by rw [hNx]; exact nI_clamp (by omega)
    have htx : txR ρ q = pTxt (fun j => ρ 88 (87 + j)) N q := by unfold txR; rw [hNc]
    have hbd := pTxt_bd (fun j => ρ 88 (87 + j)) N q
    rw [← htx] at hbd
    refine v_aload_n (I := iX10_text) dX10_text_16 rfl ?_
    refine v_iload_n (I := iX10_text) dX10_text_17 rfl ?_
    refine v_putI (I := iX10_text) p_X10_196 dX10_text_18 (by decide) (ae_87 _ _) (ae_87 _ _) rfl rfl (by simp) ?_
    refine v_aload_n (I := iX10_text) dX10_text_21 rfl ?_
    refine v_iconst (I := iX10_text) (v := 0) dX10_text_22 (by decide) ?_
    refine v_putI (I := iX10_text) p_X10_165 dX10_text_23 (by decide) (ae_87 _ _) (ae_87 _ _) rfl rfl (by simp) ?_
    refine v_aload_n (I := iX10_text) dX10_text_26 rfl ?_
    refine v_iconst (I := iX10_text) (v := 0) dX10_text_27 (by decide) ?_
    refine v_putI (I := iX10_text) p_X10_206 dX10_text_28 (by decide) (ae_87 _ _) (ae_87 _ _) rfl rfl (by simp) ?_
    refine v_aload_n (I := iX10_text) dX10_text_31 rfl ?_
    refine v_iconst (I := iX10_text) (v := 0) dX10_text_32 (by decide) ?_
    refine v_putI (I := iX10_text) p_X10_161 dX10_text_33 (by decide) (ae_87 _ _) (ae_87 _ _) rfl rfl (by simp) ?_
    refine v_aload_n (I := iX10_text) dX10_text_36 rfl ?_
    refine v_iconst (I := iX10_text) (v := 0) dX10_text_37 (by decide) ?_
    refine v_putI (I := iX10_text) p_X10_172 dX10_text_38 (by decide) (ae_87 _ _) (ae_87 _ _) rfl rfl (by simp) ?_
    have hX : TX (up2 (up2 (up2 (up2 (up2 σ 87 10 (nI q)) 87 8 0) 87 9 0) 87 11 0) 87 13 0) N q := by
      refine ⟨?_, by omega, fun j hj => ?_, ?_, hq⟩
      · simp only [up2, va_up]; simp; rw [hR.1]; exact hNx
      · have : tpe (up2 (up2 (up2 (up2 (up2 σ 87 10 (nI q)) 87 8 0) 87 9 0) 87 11 0) 87 13 0) j = ρ 88 (87 + j) := by unfold tpe; rw [up2_kf _ _ _ (by decide), up2_kf _ _ _ (by decide), up2_kf _ _ _ (by decide), up2_kf _ _ _ (by decide), up2_kf _ _ _ (by decide), hR.1]
        rw [this]
        exact tape_in hR.2.2.2.2.2.2.2.2.2.2.2.1.1 j (by omega)
      · rw [up2_j _ _ (by decide), up2_j _ _ (by decide), up2_j _ _ (by decide), up2_j _ _ (by decide), up2_s]
    have hT0 : RT (up2 (up2 (up2 (up2 (up2 σ 87 10 (nI q)) 87 8 0) 87 9 0) 87 11 0) 87 13 0) (up2 (up2 (up2 (up2 (up2 σ 87 10 (nI q)) 87 8 0) 87 9 0) 87 11 0) 87 13 0) 0 0 [] := by
      refine ⟨?_, ?_, ?_, ?_, trivial, FrP.rf⟩ <;> simp [up2, va_up] <;> rfl
    have htp : tpe (up2 (up2 (up2 (up2 (up2 σ 87 10 (nI q)) 87 8 0) 87 9 0) 87 11 0) 87 13 0) = fun j => ρ 88 (87 + j) := by
      funext j
      unfold tpe
      rw [up2_kf _ _ _ (by decide), up2_kf _ _ _ (by decide), up2_kf _ _ _ (by decide), up2_kf _ _ _ (by decide), up2_kf _ _ _ (by decide), hR.1]
    have h16 : (up2 (up2 (up2 (up2 (up2 σ 87 10 (nI q)) 87 8 0) 87 9 0) 87 11 0) 87 13 0) 88 = ρ 88 := by
      rw [up2_kf _ _ _ (by decide), up2_kf _ _ _ (by decide), up2_kf _ _ _ (by decide), up2_kf _ _ _ (by decide), up2_kf _ _ _ (by decide), hR.1]
    have hF0 : (∀ k, k ≠ 87 → up2 (up2 (up2 (up2 (up2 σ 87 10 (nI q)) 87 8 0) 87 9 0) 87 11 0) 87 13 0 k = σ k) ∧ (∀ j, j ≠ 8 → j ≠ 9 → j ≠ 10 → j ≠ 11 → j ≠ 13 → up2 (up2 (up2 (up2 (up2 σ 87 10 (nI q)) 87 8 0) 87 9 0) 87 11 0) 87 13 0 87 j = σ 87 j) := by
      refine ⟨fun k hk => ?_, fun j a b c d e => ?_⟩
      · rw [up2_kf _ _ _ hk, up2_kf _ _ _ hk, up2_kf _ _ _ hk, up2_kf _ _ _ hk, up2_kf _ _ _ hk]
      · rw [up2_j _ _ e, up2_j _ _ d, up2_j _ _ b, up2_j _ _ a, up2_j _ _ c]
    have h10 : up2 (up2 (up2 (up2 (up2 σ 87 10 (nI q)) 87 8 0) 87 9 0) 87 11 0) 87 13 0 87 10 = nI q := hX.2.2.2.1
    generalize up2 (up2 (up2 (up2 (up2 σ 87 10 (nI q)) 87 8 0) 87 9 0) 87 11 0) 87 13 0 = σ1 at hX hT0 htp h16 hF0 h10 ⊢
    have htx1 : pEi (tpe σ1) N (pOne (tpe σ1) N q 5) 0 [] = txR ρ q := by rw [htp, htx]; rfl
    refine v_aload_n (I := iX10_text) dX10_text_41 rfl ?_
    refine v_callVvP (I := iX10_text) (I' := iX10_either) lk_X10_209 c_X10_either dX10_text_42 (m_X10_txt hX 0 [] σ1 τ hT0 (by omega) (Nat.le_refl 0)) rfl rfl (by decide) (ae_87 _ _) rfl (by decide) (by decide) (Nat.le_of_ble_eq_true rfl) (fun s42 h42 => ?_)
    rw [htx1] at h42
    by_cases hok : (txR ρ q).1 = true
    · refine v_aload_n (I := iX10_text) dX10_text_45 rfl ?_
      refine v_aload_n (I := iX10_text) dX10_text_46 rfl ?_
      refine v_get (I := iX10_text) g_X10_161 dX10_text_47 (by decide) (ae_87 _ _) rfl ?_
      rw [(h42.ok hok).2.2.1]
      refine v_if_ne (I := iX10_text) (tgt := 67) dX10_text_50 (by decide) (fun c50 => ?_) (fun c50 => ?_)
      · exact absurd rfl c50
      · refine v_aload_n (I := iX10_text) dX10_text_53 rfl ?_
        refine v_get (I := iX10_text) g_X10_165 dX10_text_54 (by decide) (ae_87 _ _) rfl ?_
        rw [(h42.ok hok).1]
        refine v_aload_n (I := iX10_text) dX10_text_57 rfl ?_
        refine v_get (I := iX10_text) g_X10_9 dX10_text_58 (by decide) (ae_87 _ _) rfl ?_
        refine v_bipush (I := iX10_text) (v := 16) dX10_text_61 (by decide) ?_
        refine v_ialdN (I := iX10_text) (j := 16) (by decide) (by decide) (by decide) dX10_text_63 (by decide) (ae_88 _ _) ?_
        rw [(h42.ok hok).n hX]
        refine v_icmp_ge (I := iX10_text) (tgt := 71) dX10_text_64 (by decide) (fun c64 => ?_) (fun c64 => ?_)
        · have hnl : ¬ (txR ρ q).2.1 < N := fun h9 => absurd (nI_lt h9 (by omega)) (Int32.not_lt.mpr c64)
          refine v_iconst (I := iX10_text) (v := 0) dX10_text_71 (by decide) ?_
          refine v_putI (I := iX10_text) p_X10_161 dX10_text_72 (by decide) (ae_87 _ _) (ae_87 _ _) rfl rfl (by simp) ?_
          have hR9 := (h42.ok hok).w0
          generalize up2 s42 87 11 0 = σ2 at hR9 ⊢
          have HS := hR9.2.2.2.2.2.1
          have HJ := hR9.2.2.2.2.2.2
          have hC60 : (txR ρ q).2.2.length ≤ 60 := by have := (hbd.2 hok).2; have := hbd.1; omega
          have hwf : wfD (txR ρ q).2.2 := by
            obtain ⟨_, f2⟩ := read_sim (fun j => ρ 88 (87 + j)) N q 0
            rw [← htx] at f2
            obtain ⟨S1, O1, P1, nm2, _, _, _, hw⟩ := f2 hok hnl
            exact hw
          have key : ∀ (m i : Nat) {σ9 : fSt} {y : Int32}, i + m = (txR ρ q).2.2.length → σ9 88 = gTx (va_up (ρ 88) 16 0) q (txR ρ q).2.2 i → (∀ k, k ≠ 88 → σ9 k = σ2 k) → y = nI i → VW G iX10_text (rR τ σ (textS ρ (nI q))) 73 σ9 τ 120 [(2, .int y), (0, .ref 87), (1, .int (nI q))] [] := by
            intro m
            induction m with
            | zero =>
              intro i σ9 y him h88 hk9 hy
              have him0 : i = (txR ρ q).2.2.length := him
              subst hy
              show VW _ _ _ _ _ _ 120 [(2, _), (0, _), (1, _)] []
              refine v_iload_n (I := iX10_text) dX10_text_120 rfl ?_
              refine v_aload_n (I := iX10_text) dX10_text_121 rfl ?_
              refine v_get (I := iX10_text) g_X10_172 dX10_text_122 (by decide) (ae_87 _ _) rfl ?_
              rw [hk9 87 (by decide), hR9.2.2.2.1]
              refine v_icmp_ge (I := iX10_text) (tgt := 160) dX10_text_125 (by decide) (fun c125 => ?_) (fun c125 => ?_)
              · refine v_iconst (I := iX10_text) (v := 1) dX10_text_160 (by decide) ?_
                exact v_iret (I := iX10_text) rfl dX10_text_161 (by
                unfold textS
                rw [if_pos hgood, hqc, hNc, if_neg (fun h9 => h9.elim (fun h8 => absurd (hok.symm.trans h8) (by decide)) hnl)]
                refine ⟨rfl, rfl, RR_row2 hR (IV_tx hq (IV_16 hR.2.2.2.2.2.2.2.2.2.2.2.1) hC60 hwf) (by rw [h88, him0]) ?_ ?_ ?_, ?_⟩
                · intro k hk
                  rw [hk9 k (by rcases hk with h9 | h9 | h9 | h9 | h9 | h9 | h9 | h9 <;> omega), HS k (by rcases hk with h9 | h9 | h9 | h9 | h9 | h9 | h9 | h9 <;> omega) (by rcases hk with h9 | h9 | h9 | h9 | h9 | h9 | h9 | h9 <;> omega)]
                  exact hF0.1 k (by rcases hk with h9 | h9 | h9 | h9 | h9 | h9 | h9 | h9 <;> omega)
                · rw [hk9 87 (by decide), HJ 3 (by decide) (by decide) (by decide) (by decide)]; exact hF0.2 3 (by decide) (by decide) (by decide) (by decide) (by decide)
                · rw [hk9 87 (by decide), HJ 21 (by decide) (by decide) (by decide) (by decide)]; exact hF0.2 21 (by decide) (by decide) (by decide) (by decide) (by decide)
                · intro k hk
                  rw [hk9 k (by omega), HS k (by omega) (by omega)]
                  exact hF0.1 k (by omega))
              · exact absurd (by rw [him0]; exact Int32.le_refl _) c125
            | succ m ih =>
              intro i σ9 y him h88 hk9 hy
              subst hy
              show VW _ _ _ _ _ _ 120 [(2, _), (0, _), (1, _)] []
              refine v_iload_n (I := iX10_text) dX10_text_120 rfl ?_
              refine v_aload_n (I := iX10_text) dX10_text_121 rfl ?_
              refine v_get (I := iX10_text) g_X10_172 dX10_text_122 (by decide) (ae_87 _ _) rfl ?_
              rw [hk9 87 (by decide), hR9.2.2.2.1]
              refine v_icmp_ge (I := iX10_text) (tgt := 160) dX10_text_125 (by decide) (fun c125 => ?_) (fun c125 => ?_)
              · exact absurd c125 (by exact nI_ge (by omega) (by omega))
              · refine v_aload_n (I := iX10_text) dX10_text_128 rfl ?_
                refine v_get (I := iX10_text) g_X10_9 dX10_text_129 (by decide) (ae_87 _ _) rfl ?_
                refine v_sipush (I := iX10_text) (v := 171) dX10_text_132 (by decide) ?_
                refine v_bipush (I := iX10_text) (v := 62) dX10_text_135 (by decide) ?_
                refine v_aload_n (I := iX10_text) dX10_text_137 rfl ?_
                refine v_get (I := iX10_text) g_X10_196 dX10_text_138 (by decide) (ae_87 _ _) rfl ?_
                rw [hk9 87 (by decide), HJ 10 (by decide) (by decide) (by decide) (by decide), h10]
                refine v_imul (I := iX10_text) dX10_text_141 ?_
                refine v_iadd (I := iX10_text) dX10_text_142 ?_
                refine v_iconst (I := iX10_text) (v := 1) dX10_text_143 (by decide) ?_
                refine v_iadd (I := iX10_text) dX10_text_144 ?_
                refine v_iload_n (I := iX10_text) dX10_text_145 rfl ?_
                refine v_iadd (I := iX10_text) dX10_text_146 ?_
                refine v_aload_n (I := iX10_text) dX10_text_147 rfl ?_
                refine v_get (I := iX10_text) g_X10_38 dX10_text_148 (by decide) (ae_87 _ _) rfl ?_
                refine v_iload_n (I := iX10_text) dX10_text_151 rfl ?_
                refine v_ialdN (I := iX10_text) (j := i) rfl (by omega) (by decide) dX10_text_152 (by decide) (ae_95 _ _) ?_
                rw [hk9 95 (by decide), Stk_at hR9.2.2.2.2.1 i (by omega)]
                refine v_iastN (I := iX10_text) (j := (171 + 62 * q + 1 + i)) (by rw [show (171 : Int32) = nI 171 from rfl, show (62 : Int32) = nI 62 from rfl, pk_mul, nI_add, nI_1, nI_add]) (by omega) (by decide) dX10_text_153 (by decide) (fun _ => ae_88 _ _) ?_
                refine v_iinc (I := iX10_text) (ls1 := [(2, _), (0, _), (1, _)]) dX10_text_154 rfl rfl (by decide) rfl ?_
                refine v_goto (I := iX10_text) (tgt := 120) dX10_text_157 (by decide) ?_
                exact ih (i + 1) (by omega) (by rw [up2_f, h88]; exact gTx_s) (fun k hk => (up2_kf _ _ _ hk).trans (hk9 k hk)) (nI_1 i)
          refine v_aload_n (I := iX10_text) dX10_text_75 rfl ?_
          refine v_get (I := iX10_text) g_X10_9 dX10_text_76 (by decide) (ae_87 _ _) rfl ?_
          refine v_bipush (I := iX10_text) (v := 16) dX10_text_79 (by decide) ?_
          refine v_iconst (I := iX10_text) (v := 0) dX10_text_81 (by decide) ?_
          refine v_iastN (I := iX10_text) (j := 16) (by decide) (by decide) (by decide) dX10_text_82 (by decide) (fun _ => ae_88 _ _) ?_
          refine v_aload_n (I := iX10_text) dX10_text_83 rfl ?_
          refine v_get (I := iX10_text) g_X10_161 dX10_text_84 (by decide) (ae_87 _ _) rfl ?_
          rw [up2_k _ _ _ _ (by decide), hR9.2.2.1]
          refine v_if_eq (I := iX10_text) (tgt := 98) dX10_text_87 (by decide) (fun c87 => ?_) (fun c87 => ?_)
          · refine v_aload_n (I := iX10_text) dX10_text_98 rfl ?_
            refine v_get (I := iX10_text) g_X10_9 dX10_text_99 (by decide) (ae_87 _ _) rfl ?_
            refine v_sipush (I := iX10_text) (v := 171) dX10_text_102 (by decide) ?_
            refine v_bipush (I := iX10_text) (v := 62) dX10_text_105 (by decide) ?_
            refine v_aload_n (I := iX10_text) dX10_text_107 rfl ?_
            refine v_get (I := iX10_text) g_X10_196 dX10_text_108 (by decide) (ae_87 _ _) rfl ?_
            rw [up2_k _ _ _ _ (by decide), HJ 10 (by decide) (by decide) (by decide) (by decide), h10]
            refine v_imul (I := iX10_text) dX10_text_111 ?_
            refine v_iadd (I := iX10_text) dX10_text_112 ?_
            refine v_aload_n (I := iX10_text) dX10_text_113 rfl ?_
            refine v_get (I := iX10_text) g_X10_172 dX10_text_114 (by decide) (ae_87 _ _) rfl ?_
            rw [up2_k _ _ _ _ (by decide), hR9.2.2.2.1]
            refine v_iastN (I := iX10_text) (j := (171 + 62 * q)) (by rw [show (171 : Int32) = nI 171 from rfl, show (62 : Int32) = nI 62 from rfl, pk_mul, nI_add]) (by omega) (by decide) dX10_text_117 (by decide) (fun _ => ae_88 _ _) ?_
            refine v_iconst (I := iX10_text) (v := 0) dX10_text_118 (by decide) ?_
            refine v_istore_n (I := iX10_text) (ls1 := [(2, _), (0, _), (1, _)]) dX10_text_119 (by decide) rfl ?_
            exact key (txR ρ q).2.2.length 0 (by omega) (by rw [up2_f, up2_f, HS 88 (by decide) (by decide), h16]; exact gTx_0) (fun k hk => (up2_kf _ _ _ hk).trans (up2_kf _ _ _ hk)) rfl
          · exact absurd rfl c87
        · have hlt : (txR ρ q).2.1 < N := by
            rcases Nat.lt_or_ge (txR ρ q).2.1 N with h9 | h9
            · exact h9
            · exact absurd (nI_le h9 (by have := hbd.1; omega)) c64
          refine v_iconst (I := iX10_text) (v := 1) dX10_text_67 (by decide) ?_
          refine v_goto (I := iX10_text) (tgt := 72) dX10_text_68 (by decide) ?_
          refine v_putI (I := iX10_text) p_X10_161 dX10_text_72 (by decide) (ae_87 _ _) (ae_87 _ _) rfl rfl (by simp) ?_
          have hfa : (txR ρ q).1 = false ∨ (txR ρ q).2.1 < N := Or.inr hlt
          have hW9 := (h42.ok hok).w1
          have HS := hW9.2.2.1
          have HJ := hW9.2.2.2
          generalize up2 s42 87 11 1 = σ2 at hW9 HS HJ ⊢
          refine v_aload_n (I := iX10_text) dX10_text_75 rfl ?_
          refine v_get (I := iX10_text) g_X10_9 dX10_text_76 (by decide) (ae_87 _ _) rfl ?_
          refine v_bipush (I := iX10_text) (v := 16) dX10_text_79 (by decide) ?_
          refine v_iconst (I := iX10_text) (v := 0) dX10_text_81 (by decide) ?_
          refine v_iastN (I := iX10_text) (j := 16) (by decide) (by decide) (by decide) dX10_text_82 (by decide) (fun _ => ae_88 _ _) ?_
          refine v_aload_n (I := iX10_text) dX10_text_83 rfl ?_
          refine v_get (I := iX10_text) g_X10_161 dX10_text_84 (by decide) (ae_87 _ _) rfl ?_
          rw [up2_k _ _ _ _ (by decide), hW9.1]
          refine v_if_eq (I := iX10_text) (tgt := 98) dX10_text_87 (by decide) (fun c87 => ?_) (fun c87 => ?_)
          · exact absurd c87 (by decide)
          · refine v_bipush (I := iX10_text) (v := -10) dX10_text_90 (by decide) ?_
            refine v_aload_n (I := iX10_text) dX10_text_92 rfl ?_
            refine v_get (I := iX10_text) g_X10_165 dX10_text_93 (by decide) (ae_87 _ _) rfl ?_
            rw [up2_k _ _ _ _ (by decide), hW9.2.1]
            refine v_isub (I := iX10_text) dX10_text_96 ?_
            exact v_iret (I := iX10_text) rfl dX10_text_97 (by
      unfold textS
      rw [if_pos hgood, hqc, hNc, if_pos hfa]
      refine ⟨rfl, rfl, RR_row2 hR (IV_16 hR.2.2.2.2.2.2.2.2.2.2.2.1) ?_ ?_ ?_ ?_, ?_⟩
      · rw [up2_f, HS 88 (by decide) (by decide), h16]
      · intro k hk
        rw [up2_kf _ _ _ (by rcases hk with h9 | h9 | h9 | h9 | h9 | h9 | h9 | h9 <;> omega), HS k (by rcases hk with h9 | h9 | h9 | h9 | h9 | h9 | h9 | h9 <;> omega) (by rcases hk with h9 | h9 | h9 | h9 | h9 | h9 | h9 | h9 <;> omega)]
        exact hF0.1 k (by rcases hk with h9 | h9 | h9 | h9 | h9 | h9 | h9 | h9 <;> omega)
      · rw [up2_k _ _ _ _ (by decide), HJ 3 (by decide) (by decide) (by decide) (by decide)]; exact hF0.2 3 (by decide) (by decide) (by decide) (by decide) (by decide)
      · rw [up2_k _ _ _ _ (by decide), HJ 21 (by decide) (by decide) (by decide) (by decide)]; exact hF0.2 21 (by decide) (by decide) (by decide) (by decide) (by decide)
      · intro k hk
        rw [up2_kf _ _ _ (by omega), HS k (by omega) (by omega)]
        exact hF0.1 k (by omega))
    · refine v_aload_n (I := iX10_text) dX10_text_45 rfl ?_
      refine v_aload_n (I := iX10_text) dX10_text_46 rfl ?_
      refine v_get (I := iX10_text) g_X10_161 dX10_text_47 (by decide) (ae_87 _ _) rfl ?_
      rw [(h42.no hok).1]
      refine v_if_ne (I := iX10_text) (tgt := 67) dX10_text_50 (by decide) (fun c50 => ?_) (fun c50 => ?_)
      · refine v_iconst (I := iX10_text) (v := 1) dX10_text_67 (by decide) ?_
        refine v_goto (I := iX10_text) (tgt := 72) dX10_text_68 (by decide) ?_
        refine v_putI (I := iX10_text) p_X10_161 dX10_text_72 (by decide) (ae_87 _ _) (ae_87 _ _) rfl rfl (by simp) ?_
        have hfa : (txR ρ q).1 = false ∨ (txR ρ q).2.1 < N := Or.inl (b_not hok)
        have hW9 := (h42.no hok).w1
        have HS := hW9.2.2.1
        have HJ := hW9.2.2.2
        generalize up2 s42 87 11 1 = σ2 at hW9 HS HJ ⊢
        refine v_aload_n (I := iX10_text) dX10_text_75 rfl ?_
        refine v_get (I := iX10_text) g_X10_9 dX10_text_76 (by decide) (ae_87 _ _) rfl ?_
        refine v_bipush (I := iX10_text) (v := 16) dX10_text_79 (by decide) ?_
        refine v_iconst (I := iX10_text) (v := 0) dX10_text_81 (by decide) ?_
        refine v_iastN (I := iX10_text) (j := 16) (by decide) (by decide) (by decide) dX10_text_82 (by decide) (fun _ => ae_88 _ _) ?_
        refine v_aload_n (I := iX10_text) dX10_text_83 rfl ?_
        refine v_get (I := iX10_text) g_X10_161 dX10_text_84 (by decide) (ae_87 _ _) rfl ?_
        rw [up2_k _ _ _ _ (by decide), hW9.1]
        refine v_if_eq (I := iX10_text) (tgt := 98) dX10_text_87 (by decide) (fun c87 => ?_) (fun c87 => ?_)
        · exact absurd c87 (by decide)
        · refine v_bipush (I := iX10_text) (v := -10) dX10_text_90 (by decide) ?_
          refine v_aload_n (I := iX10_text) dX10_text_92 rfl ?_
          refine v_get (I := iX10_text) g_X10_165 dX10_text_93 (by decide) (ae_87 _ _) rfl ?_
          rw [up2_k _ _ _ _ (by decide), hW9.2.1]
          refine v_isub (I := iX10_text) dX10_text_96 ?_
          exact v_iret (I := iX10_text) rfl dX10_text_97 (by
      unfold textS
      rw [if_pos hgood, hqc, hNc, if_pos hfa]
      refine ⟨rfl, rfl, RR_row2 hR (IV_16 hR.2.2.2.2.2.2.2.2.2.2.2.1) ?_ ?_ ?_ ?_, ?_⟩
      · rw [up2_f, HS 88 (by decide) (by decide), h16]
      · intro k hk
        rw [up2_kf _ _ _ (by rcases hk with h9 | h9 | h9 | h9 | h9 | h9 | h9 | h9 <;> omega), HS k (by rcases hk with h9 | h9 | h9 | h9 | h9 | h9 | h9 | h9 <;> omega) (by rcases hk with h9 | h9 | h9 | h9 | h9 | h9 | h9 | h9 <;> omega)]
        exact hF0.1 k (by rcases hk with h9 | h9 | h9 | h9 | h9 | h9 | h9 | h9 <;> omega)
      · rw [up2_k _ _ _ _ (by decide), HJ 3 (by decide) (by decide) (by decide) (by decide)]; exact hF0.2 3 (by decide) (by decide) (by decide) (by decide) (by decide)
      · rw [up2_k _ _ _ _ (by decide), HJ 21 (by decide) (by decide) (by decide) (by decide)]; exact hF0.2 21 (by decide) (by decide) (by decide) (by decide) (by decide)
      · intro k hk
        rw [up2_kf _ _ _ (by omega), HS k (by omega) (by omega)]
        exact hF0.1 k (by omega))
      · exact absurd c50 (by decide)
  · refine v_aload_n (I := iX10_text) dX10_text_9 rfl ?_
    refine v_ldc (I := iX10_text) k_X10_91 dX10_text_10 ?_
    refine v_callVi (I := iX10_text) (I' := iX10_finding) lk_X10_92 c_X10_finding dX10_text_12 (m_X10_findE (e := 1) (by decide) (by decide)) rfl rfl (by decide) (ae_87 _ _) rfl (by decide) (by decide) (Nat.le_of_ble_eq_true rfl) ?_
    exact v_iret (I := iX10_text) rfl dX10_text_15 (by unfold textS; rw [if_neg (by grind)]; exact ⟨rfl, rfl, RR_err hR, FR.up (by decide)⟩)
