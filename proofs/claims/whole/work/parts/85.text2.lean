theorem kLoop_congr {T T' : Nat → Int32} {u : Nat} : ∀ (n i : Nat) (S : cS), (∀ j, i ≤ j → j < i + n → T j = T' j) → kLoop T u n i S = kLoop T' u n i S := by
  intro n
  induction n with
  | zero => intro i S _; rfl
  | succ n ih =>
    intro i S h
    unfold kLoop
    rw [h i (Nat.le_refl _) (by omega)]
    cases kGo u (T' i) S with
    | none => rfl
    | some S' => exact ih (i + 1) S' fun j h1 h2 => h j (by omega) (by omega)
theorem V_tx {w : Nat} {σ σ' : fSt} {g : gS} {u : Nat} {C : List Int32} (h : V w σ g) (hI : IV g) (hu : u < 2) (hC : C.length ≤ 60) (hk : ∀ k, k ≠ wc w (12 + 3 * u) → k ≠ wc w (13 + 3 * u) → σ' k = σ k) (h1 : σ' (wc w (12 + 3 * u)) 1 = nI C.length) (h2 : ∀ j, j < C.length → σ' (wc w (13 + 3 * u)) j = tC (C.reverse.getD j 0)) : V w σ' (gTx g u C C.length) := by
  have own : VX w σ' (gTx g u C C.length) u := by
    refine ⟨h1.trans gTx_len.symm, fun j hj => ?_⟩
    rw [gTx_len, nI_clamp (by omega)] at hj
    rw [gTx_at hj]
    exact h2 j hj
  have oth : ∀ v, v < 2 → v ≠ u → VX w σ g v → tOK g v → VX w σ' (gTx g u C C.length) v := by
    intro v hv hne hx ht
    obtain ⟨n, hn, e, _⟩ := ht
    have e2 : gTx g u C C.length (171 + 62 * v) = g (171 + 62 * v) := gTx_oth hu hv hne hC (by omega)
    refine ⟨?_, fun j hj => ?_⟩
    · rw [hk _ (by unfold wc; omega) (by unfold wc; omega), e2]; exact hx.1
    · rw [e2] at hj
      have hj2 := hj
      rw [e, nI_clamp (by omega)] at hj2
      rw [hk _ (by unfold wc; omega) (by unfold wc; omega), gTx_oth hu hv hne hC (by omega)]
      exact hx.2 j hj
  refine ⟨fun i hi => ?_, ?_, ?_⟩
  · have hl := loc_lt i hi
    rw [gTx_lo hi, hk _ (by unfold wc; omega) (by unfold wc; omega)]
    exact h.1 i hi
  · rcases (show u = 0 ∨ u = 1 by omega) with rfl | rfl
    · exact own
    · exact oth 0 (by decide) (by decide) h.2.1 hI.2.1
  · rcases (show u = 0 ∨ u = 1 by omega) with rfl | rfl
    · exact oth 1 (by decide) (by decide) h.2.2 hI.2.2.1
    · exact own
theorem FrK.C {σ σ' : fSt} (h : FrK σ σ') : FC σ σ' := fun k hk => h k (by omega) (by omega) (by omega) (by omega)
theorem getD_map {C : List Int32} {j : Nat} (h : j < C.length) : (C.map tC).reverse.getD j 0 = tC (C.reverse.getD j 0) := by
  rw [← List.map_reverse, List.getD_eq_getElem?_getD, List.getD_eq_getElem?_getD, List.getElem?_map, List.getElem?_eq_getElem (by rw [List.length_reverse]; exact h)]
  rfl
set_option maxRecDepth 100000 in
set_option maxHeartbeats 4000000 in
theorem m_X7_becomeT12 {G : fGm} {σ : fSt} {τ : fLt}  : MS G iX7_become 2 [.ref (wc 0 12), .ref 68] σ τ (rT none (up2 (va_up σ (wc 0 13) (σ 69)) (wc 0 12) 1 (σ 68 1)) τ) := by
  refine ms_of (by decide +kernel) (Nat.le_of_ble_eq_true rfl) ?_
  show VW _ _ _ _ _ _ 0 [(0, _), (1, _)] []
  refine v_aload_n (I := iX7_become) dX7_become_0 rfl ?_
  refine v_get (I := iX7_become) g_X7_9 dX7_become_1 (by decide) (ae_68 _ _) rfl ?_
  refine v_aload_n (I := iX7_become) dX7_become_4 rfl ?_
  refine v_get (I := iX7_become) g_X7_9 dX7_become_5 (by decide) (ae_w12 (by decide) _ _) rfl ?_
  refine v_callSv (I := iX7_become) (I' := iX9_copy) lk_X7_22 c_X9_copy dX7_become_8 (m_X9_copy (by decide) (by decide) (ae_69) (ae_w13 (by decide)) (by decide)) rfl rfl (by decide) (by decide) (Nat.le_of_ble_eq_true rfl) ?_
  refine v_aload_n (I := iX7_become) dX7_become_11 rfl ?_
  refine v_aload_n (I := iX7_become) dX7_become_12 rfl ?_
  refine v_get (I := iX7_become) g_X7_15 dX7_become_13 (by decide) (ae_68 _ _) rfl ?_
  refine v_putI (I := iX7_become) p_X7_15 dX7_become_16 (by decide) (ae_w12 (by decide) _ _) (ae_w12 (by decide) _ _) rfl rfl (by simp) ?_
  exact v_vret (I := iX7_become) rfl dX7_become_19 ⟨rfl, by rw [va_up_o _ _ (by decide)], rfl⟩
set_option maxRecDepth 100000 in
set_option maxHeartbeats 4000000 in
theorem m_X7_becomeT15 {G : fGm} {σ : fSt} {τ : fLt}  : MS G iX7_become 2 [.ref (wc 0 15), .ref 68] σ τ (rT none (up2 (va_up σ (wc 0 16) (σ 69)) (wc 0 15) 1 (σ 68 1)) τ) := by
  refine ms_of (by decide +kernel) (Nat.le_of_ble_eq_true rfl) ?_
  show VW _ _ _ _ _ _ 0 [(0, _), (1, _)] []
  refine v_aload_n (I := iX7_become) dX7_become_0 rfl ?_
  refine v_get (I := iX7_become) g_X7_9 dX7_become_1 (by decide) (ae_68 _ _) rfl ?_
  refine v_aload_n (I := iX7_become) dX7_become_4 rfl ?_
  refine v_get (I := iX7_become) g_X7_9 dX7_become_5 (by decide) (ae_w15 (by decide) _ _) rfl ?_
  refine v_callSv (I := iX7_become) (I' := iX9_copy) lk_X7_22 c_X9_copy dX7_become_8 (m_X9_copy (by decide) (by decide) (ae_69) (ae_w16 (by decide)) (by decide)) rfl rfl (by decide) (by decide) (Nat.le_of_ble_eq_true rfl) ?_
  refine v_aload_n (I := iX7_become) dX7_become_11 rfl ?_
  refine v_aload_n (I := iX7_become) dX7_become_12 rfl ?_
  refine v_get (I := iX7_become) g_X7_15 dX7_become_13 (by decide) (ae_68 _ _) rfl ?_
  refine v_putI (I := iX7_become) p_X7_15 dX7_become_16 (by decide) (ae_w15 (by decide) _ _) (ae_w15 (by decide) _ _) rfl rfl (by simp) ?_
  exact v_vret (I := iX7_become) rfl dX7_become_19 ⟨rfl, by rw [va_up_o _ _ (by decide)], rfl⟩
set_option maxRecDepth 100000 in
set_option maxHeartbeats 8000000 in
theorem m_X9_text {G : fGm} {σ : fSt} {τ : fLt} {ρ : fSt} (hC : CR σ ρ) {u : Int32} : MS G iX9_text 8 [.ref 0, .int u] σ τ (rC τ σ (textS ρ u)) := by
  refine ms_of (by decide +kernel) (Nat.le_of_ble_eq_true rfl) ?_
  show VW _ _ _ _ _ _ 0 [(0, _), (1, _)] []
  refine v_iload_n (I := iX9_text) dX9_text_0 rfl ?_
  refine v_iconst (I := iX9_text) (v := 0) dX9_text_1 (by decide) ?_
  refine v_iconst (I := iX9_text) (v := 1) dX9_text_2 (by decide) ?_
  refine v_callSi (I := iX9_text) (I' := iX9_within) lk_X9_58 c_X9_within dX9_text_3 (m_X9_within) rfl rfl (by decide) (by decide) (Nat.le_of_ble_eq_true rfl) ?_
  refine v_if_neB (I := iX9_text) (tgt := 15) dX9_text_6 (by decide) (fun c6 => ?_) (fun c6 => ?_)
  have hgood : 0 ≤ u ∧ u ≤ 1 := by grind
  rcases (show u = 0 ∨ u = 1 by grind) with hu | hu
  · subst hu
    have hu9 : (0 : Int32).toNatClampNeg = 0 := rfl
    obtain ⟨N, hN, hNx⟩ : ∃ N, N < 61 ∧ ρ 88 16 = nI N := in2_nI (by decide) ⟨(B_n16 hC.2.2.2.2.2.1.1).1, by show ρ 88 16 < 61; have := (B_n16 hC.2.2.2.2.2.1.1).2; grind⟩
    have hNc : (ρ 88 16).toNatClampNeg = N := by rw [hNx]; exact nI_clamp (by omega)
    have htx : txR ρ 0 = pTxt (fun j => ρ 88 (87 + j)) N 0 := by unfold txR; rw [hNc]
    have hbd := pTxt_bd (fun j => ρ 88 (87 + j)) N 0
    rw [← htx] at hbd
    have hTT : ∀ j, j < N → σ (wc 0 18) j = ρ 88 (87 + j) := fun j hj => by
      have := V_rd hC.1 (87 + j) (by omega)
      rw [loc_tape j (by omega)] at this
      exact this
    have hlc : kLoop (σ (wc 0 18)) 0 N 0 ([], [], 0, 0, σ 67 4, true) = kLoop (fun j => ρ 88 (87 + j)) 0 N 0 ([], [], 0, 0, σ 67 4, true) := kLoop_congr N 0 _ (fun j _ hj => hTT j (by omega))
    obtain ⟨rs1, rs2⟩ := read_sim (fun j => ρ 88 (87 + j)) N 0 (σ 67 4)
    rw [← hlc, ← htx] at rs1 rs2
    refine v_aload_n (I := iX9_text) dX9_text_15 rfl ?_
    refine v_get (I := iX9_text) g_X9_25 dX9_text_16 (by decide) (ae_0 _ _) rfl ?_
    refine v_aload_n (I := iX9_text) dX9_text_19 rfl ?_
    refine v_get (I := iX9_text) g_X9_10 dX9_text_20 (by decide) (ae_0 _ _) rfl ?_
    refine v_get (I := iX9_text) g_X9_170 dX9_text_23 (by decide) (ae_w0 (by decide) _ _) rfl ?_
    refine v_aload_n (I := iX9_text) dX9_text_26 rfl ?_
    refine v_get (I := iX9_text) g_X9_10 dX9_text_27 (by decide) (ae_0 _ _) rfl ?_
    refine v_get (I := iX9_text) g_X9_167 dX9_text_30 (by decide) (ae_w0 (by decide) _ _) rfl ?_
    rw [V_n16 hC.1, hNx]
    refine v_iload_n (I := iX9_text) dX9_text_33 rfl ?_
    refine v_if_ne (I := iX9_text) (tgt := 42) dX9_text_34 (by decide) (fun c34 => ?_) (fun c34 => ?_)
    · exact absurd rfl c34
    · refine v_ldcS_0 (I := iX9_text) rfl dX9_text_37 ?_
      refine v_goto (I := iX9_text) (tgt := 44) dX9_text_39 (by decide) ?_
      refine v_callViP (I := iX9_text) (I' := iX2_read) lk_X9_177 c_X2_read dX9_text_44 (m_X2_read (u := 0) (N := N) (by decide) (by omega) (fun j hj => by rw [hTT j hj]; exact tape_in hC.2.2.2.2.2.1.1 j (by omega))) rfl rfl (by decide) (ae_67 _ _) rfl (by decide) (by decide) (Nat.le_of_ble_eq_true rfl) (fun s44 h44 => ?_)
      obtain ⟨hF9, hKR⟩ := h44
      have hC9 : CR s44 ρ := CR_scr hC (fun k hk => hF9 k (by omega) (by omega) (by omega) (by omega))
      have hVt : V 0 (up2 s44 (wc 0 0) 7 0) (va_up (ρ 88) 16 0) := V_up 16 (by decide) hC9.1
      have hFt : FrW 0 s44 (up2 s44 (wc 0 0) 7 0) := FrW.up (by decide)
      refine v_istore_n (I := iX9_text) (ls1 := [(2, _), (0, _), (1, _)]) dX9_text_47 (by decide) rfl ?_
      refine v_aload_n (I := iX9_text) dX9_text_48 rfl ?_
      refine v_get (I := iX9_text) g_X9_10 dX9_text_49 (by decide) (ae_0 _ _) rfl ?_
      refine v_iconst (I := iX9_text) (v := 0) dX9_text_52 (by decide) ?_
      refine v_putI (I := iX9_text) p_X9_167 dX9_text_53 (by decide) (ae_w0 (by decide) _ _) (ae_w0 (by decide) _ _) rfl rfl (by simp) ?_
      refine v_iload_n (I := iX9_text) dX9_text_56 rfl ?_
      refine v_if_lt (I := iX9_text) (tgt := 65) dX9_text_57 (by decide) (fun c57 => ?_) (fun c57 => ?_)
      · have hfa : ¬ ((txR ρ 0).1 = false ∨ (txR ρ 0).2.1 < N) := fun h9 => by
          have e := rs1 h9
          have c9 : rdV (kLoop (σ (wc 0 18)) 0 N 0 ([], [], 0, 0, σ 67 4, true)) < 0 := by first | exact c57 | exact Int32.not_le.mp c57
          unfold rdV at c9
          rw [e] at c9
          exact absurd c9 (nI_pos (by have := hbd.1; omega))
        have hok : (txR ρ 0).1 = true := by
          cases h9 : (txR ρ 0).1 with
          | true => rfl
          | false => exact absurd (Or.inl h9) hfa
        obtain ⟨S1, O1, P1, nm2, r1, r2, r3, hwf⟩ := rs2 hok (fun h9 => hfa (Or.inr h9))
        have hC60 : (txR ρ 0).2.2.length ≤ 60 := by have := (hbd.2 hok).2; have := hbd.1; omega
        have hfn : kFault (kLoop (σ (wc 0 18)) 0 N 0 ([], [], 0, 0, σ 67 4, true)) = none := by
          rw [r1]
          unfold kFault
          rw [if_neg (fun h => nomatch h)]
          have : ¬ kBad S1 = true := by unfold kBad; rw [r2]; exact (show ¬ (false || decide ((0 : Int32) < 0)) = true by decide)
          rw [if_neg this]
        have hKf := hKR hfn
        rw [r1] at hKf
        have hfe : kFin S1 = ((txR ρ 0).2.2.map tC, [], 0, 0, nm2, false) := by
          unfold kFin
          rw [r2]
          show ((kSet 0 P1 O1).1, (kSet 0 P1 O1).2, _) = _
          rw [r3]
        have hKf : KR s44 (kFin S1) := hKf
        rw [hfe] at hKf
        have hln : s44 68 1 = nI (txR ρ 0).2.2.length := by rw [hKf.len]; congr 1; exact List.length_map _
        have hsk : Stk (s44 69) ((txR ρ 0).2.2.map tC) := hKf.so
        have hF3 : FrW 0 (up2 s44 (wc 0 0) 7 0) (up2 (va_up (up2 s44 (wc 0 0) 7 0) (wc 0 13) (up2 s44 (wc 0 0) 7 0 69)) (wc 0 12) 1 (up2 s44 (wc 0 0) 7 0 68 1)) := fun k hk => by rw [up2_kf _ _ _ (hk 12 (by decide)), va_up_o _ _ (hk 13 (by decide))]
        refine v_aload_n (I := iX9_text) dX9_text_65 rfl ?_
        refine v_get (I := iX9_text) g_X9_10 dX9_text_66 (by decide) (ae_0 _ _) rfl ?_
        refine v_iload_n (I := iX9_text) dX9_text_69 rfl ?_
        refine v_callVr (I := iX9_text) (I' := iX8_textOf) lk_X9_181 c_X8_textOf dX9_text_70 (m_X8_textOf0 (by decide) rfl) rfl rfl (by decide) (ae_w0 (by decide) _ _) rfl (by decide) (by decide) (Nat.le_of_ble_eq_true rfl) ?_
        refine v_aload_n (I := iX9_text) dX9_text_73 rfl ?_
        refine v_get (I := iX9_text) g_X9_25 dX9_text_74 (by decide) (ae_0 _ _) rfl ?_
        refine v_get (I := iX9_text) g_X9_185 dX9_text_77 (by decide) (ae_67 _ _) rfl ?_
        refine v_callVv (I := iX9_text) (I' := iX7_become) lk_X9_189 c_X7_become dX9_text_80 (m_X7_becomeT12) rfl rfl (by decide) (ae_w12 (by decide) _ _) rfl (by decide) (by decide) (Nat.le_of_ble_eq_true rfl) ?_
        refine v_iconst (I := iX9_text) (v := 1) dX9_text_83 (by decide) ?_
        exact v_iret (I := iX9_text) rfl dX9_text_84 (by
      unfold textS
      rw [if_pos hgood, hu9, hNc, if_neg hfa]
      refine ⟨rfl, rfl, CR_row hC9 (V_tx (u := 0) hVt (IV_16 hC.2.2.2.2.2.1) (by decide) hC60 ?_ ?_ ?_) (hFt.tr hF3) (IV_tx (by decide) (IV_16 hC.2.2.2.2.2.1) hC60 hwf), hF9.C.tr (FrW.C (by decide) (hFt.tr hF3))⟩
      · intro k h1 h2
        rw [up2_kf _ _ _ h1, va_up_o _ _ h2]
      · rw [up2_s, up2_kf _ _ _ (by decide)]; exact hln
      · intro j hj
        rw [up2_kf _ _ _ (by decide), va_up_s, up2_kf _ _ _ (by decide), Stk_at hsk j (by rw [List.length_map]; exact hj), getD_map hj])
      · have hfa : (txR ρ 0).1 = false ∨ (txR ρ 0).2.1 < N := by
          by_cases h8 : (txR ρ 0).1 = false ∨ (txR ρ 0).2.1 < N
          · exact h8
          · have hok : (txR ρ 0).1 = true := by
              cases h9 : (txR ρ 0).1 with
              | true => rfl
              | false => exact absurd (Or.inl h9) h8
            obtain ⟨S1, O1, P1, nm2, r1, r2, r3, hwf⟩ := rs2 hok (fun h9 => h8 (Or.inr h9))
            have c9 : ¬ rdV (kLoop (σ (wc 0 18)) 0 N 0 ([], [], 0, 0, σ 67 4, true)) < 0 := by first | exact c57 | exact Int32.not_lt.mpr c57
            refine absurd ?_ c9
            unfold rdV
            rw [r1]
            unfold kFault
            rw [if_neg (fun h => nomatch h)]
            have : ¬ kBad S1 = true := by unfold kBad; rw [r2]; exact (show ¬ (false || decide ((0 : Int32) < 0)) = true by decide)
            rw [if_neg this]
            decide
        have hrd : rdV (kLoop (σ (wc 0 18)) 0 N 0 ([], [], 0, 0, σ 67 4, true)) = nI (txR ρ 0).2.1 := by
          unfold rdV
          rw [rs1 hfa]
        refine v_bipush (I := iX9_text) (v := -10) dX9_text_60 (by decide) ?_
        refine v_iload_n (I := iX9_text) dX9_text_62 rfl ?_
        refine v_isub (I := iX9_text) dX9_text_63 ?_
        exact v_iret (I := iX9_text) rfl dX9_text_64 (by unfold textS; rw [if_pos hgood, hu9, hNc, if_pos hfa]; exact ⟨by show _ = some (Value.int (-10 - nI (txR ρ 0).2.1)); rw [hrd], rfl, CR_row hC9 hVt hFt (IV_16 hC.2.2.2.2.2.1), hF9.C.tr (FrW.C (by decide) hFt)⟩)
  · subst hu
    have hu9 : (1 : Int32).toNatClampNeg = 1 := rfl
    obtain ⟨N, hN, hNx⟩ : ∃ N, N < 61 ∧ ρ 88 16 = nI N := in2_nI (by decide) ⟨(B_n16 hC.2.2.2.2.2.1.1).1, by show ρ 88 16 < 61; have := (B_n16 hC.2.2.2.2.2.1.1).2; grind⟩
    have hNc : (ρ 88 16).toNatClampNeg = N := by rw [hNx]; exact nI_clamp (by omega)
    have htx : txR ρ 1 = pTxt (fun j => ρ 88 (87 + j)) N 1 := by unfold txR; rw [hNc]
    have hbd := pTxt_bd (fun j => ρ 88 (87 + j)) N 1
    rw [← htx] at hbd
    have hTT : ∀ j, j < N → σ (wc 0 18) j = ρ 88 (87 + j) := fun j hj => by
      have := V_rd hC.1 (87 + j) (by omega)
      rw [loc_tape j (by omega)] at this
      exact this
    have hlc : kLoop (σ (wc 0 18)) 1 N 0 ([], [], 0, 0, σ 67 4, true) = kLoop (fun j => ρ 88 (87 + j)) 1 N 0 ([], [], 0, 0, σ 67 4, true) := kLoop_congr N 0 _ (fun j _ hj => hTT j (by omega))
    obtain ⟨rs1, rs2⟩ := read_sim (fun j => ρ 88 (87 + j)) N 1 (σ 67 4)
    rw [← hlc, ← htx] at rs1 rs2
    refine v_aload_n (I := iX9_text) dX9_text_15 rfl ?_
    refine v_get (I := iX9_text) g_X9_25 dX9_text_16 (by decide) (ae_0 _ _) rfl ?_
    refine v_aload_n (I := iX9_text) dX9_text_19 rfl ?_
    refine v_get (I := iX9_text) g_X9_10 dX9_text_20 (by decide) (ae_0 _ _) rfl ?_
    refine v_get (I := iX9_text) g_X9_170 dX9_text_23 (by decide) (ae_w0 (by decide) _ _) rfl ?_
    refine v_aload_n (I := iX9_text) dX9_text_26 rfl ?_
    refine v_get (I := iX9_text) g_X9_10 dX9_text_27 (by decide) (ae_0 _ _) rfl ?_
    refine v_get (I := iX9_text) g_X9_167 dX9_text_30 (by decide) (ae_w0 (by decide) _ _) rfl ?_
    rw [V_n16 hC.1, hNx]
    refine v_iload_n (I := iX9_text) dX9_text_33 rfl ?_
    refine v_if_ne (I := iX9_text) (tgt := 42) dX9_text_34 (by decide) (fun c34 => ?_) (fun c34 => ?_)
    · refine v_ldcS_1 (I := iX9_text) rfl dX9_text_42 ?_
      refine v_callViP (I := iX9_text) (I' := iX2_read) lk_X9_177 c_X2_read dX9_text_44 (m_X2_read (u := 1) (N := N) (by decide) (by omega) (fun j hj => by rw [hTT j hj]; exact tape_in hC.2.2.2.2.2.1.1 j (by omega))) rfl rfl (by decide) (ae_67 _ _) rfl (by decide) (by decide) (Nat.le_of_ble_eq_true rfl) (fun s44 h44 => ?_)
      obtain ⟨hF9, hKR⟩ := h44
      have hC9 : CR s44 ρ := CR_scr hC (fun k hk => hF9 k (by omega) (by omega) (by omega) (by omega))
      have hVt : V 0 (up2 s44 (wc 0 0) 7 0) (va_up (ρ 88) 16 0) := V_up 16 (by decide) hC9.1
      have hFt : FrW 0 s44 (up2 s44 (wc 0 0) 7 0) := FrW.up (by decide)
      refine v_istore_n (I := iX9_text) (ls1 := [(2, _), (0, _), (1, _)]) dX9_text_47 (by decide) rfl ?_
      refine v_aload_n (I := iX9_text) dX9_text_48 rfl ?_
      refine v_get (I := iX9_text) g_X9_10 dX9_text_49 (by decide) (ae_0 _ _) rfl ?_
      refine v_iconst (I := iX9_text) (v := 0) dX9_text_52 (by decide) ?_
      refine v_putI (I := iX9_text) p_X9_167 dX9_text_53 (by decide) (ae_w0 (by decide) _ _) (ae_w0 (by decide) _ _) rfl rfl (by simp) ?_
      refine v_iload_n (I := iX9_text) dX9_text_56 rfl ?_
      refine v_if_lt (I := iX9_text) (tgt := 65) dX9_text_57 (by decide) (fun c57 => ?_) (fun c57 => ?_)
      · have hfa : ¬ ((txR ρ 1).1 = false ∨ (txR ρ 1).2.1 < N) := fun h9 => by
          have e := rs1 h9
          have c9 : rdV (kLoop (σ (wc 0 18)) 1 N 0 ([], [], 0, 0, σ 67 4, true)) < 0 := by first | exact c57 | exact Int32.not_le.mp c57
          unfold rdV at c9
          rw [e] at c9
          exact absurd c9 (nI_pos (by have := hbd.1; omega))
        have hok : (txR ρ 1).1 = true := by
          cases h9 : (txR ρ 1).1 with
          | true => rfl
          | false => exact absurd (Or.inl h9) hfa
        obtain ⟨S1, O1, P1, nm2, r1, r2, r3, hwf⟩ := rs2 hok (fun h9 => hfa (Or.inr h9))
        have hC60 : (txR ρ 1).2.2.length ≤ 60 := by have := (hbd.2 hok).2; have := hbd.1; omega
        have hfn : kFault (kLoop (σ (wc 0 18)) 1 N 0 ([], [], 0, 0, σ 67 4, true)) = none := by
          rw [r1]
          unfold kFault
          rw [if_neg (fun h => nomatch h)]
          have : ¬ kBad S1 = true := by unfold kBad; rw [r2]; exact (show ¬ (false || decide ((0 : Int32) < 0)) = true by decide)
          rw [if_neg this]
        have hKf := hKR hfn
        rw [r1] at hKf
        have hfe : kFin S1 = ((txR ρ 1).2.2.map tC, [], 0, 0, nm2, false) := by
          unfold kFin
          rw [r2]
          show ((kSet 0 P1 O1).1, (kSet 0 P1 O1).2, _) = _
          rw [r3]
        have hKf : KR s44 (kFin S1) := hKf
        rw [hfe] at hKf
        have hln : s44 68 1 = nI (txR ρ 1).2.2.length := by rw [hKf.len]; congr 1; exact List.length_map _
        have hsk : Stk (s44 69) ((txR ρ 1).2.2.map tC) := hKf.so
        have hF3 : FrW 0 (up2 s44 (wc 0 0) 7 0) (up2 (va_up (up2 s44 (wc 0 0) 7 0) (wc 0 16) (up2 s44 (wc 0 0) 7 0 69)) (wc 0 15) 1 (up2 s44 (wc 0 0) 7 0 68 1)) := fun k hk => by rw [up2_kf _ _ _ (hk 15 (by decide)), va_up_o _ _ (hk 16 (by decide))]
        refine v_aload_n (I := iX9_text) dX9_text_65 rfl ?_
        refine v_get (I := iX9_text) g_X9_10 dX9_text_66 (by decide) (ae_0 _ _) rfl ?_
        refine v_iload_n (I := iX9_text) dX9_text_69 rfl ?_
        refine v_callVr (I := iX9_text) (I' := iX8_textOf) lk_X9_181 c_X8_textOf dX9_text_70 (m_X8_textOf1 (by decide) rfl) rfl rfl (by decide) (ae_w0 (by decide) _ _) rfl (by decide) (by decide) (Nat.le_of_ble_eq_true rfl) ?_
        refine v_aload_n (I := iX9_text) dX9_text_73 rfl ?_
        refine v_get (I := iX9_text) g_X9_25 dX9_text_74 (by decide) (ae_0 _ _) rfl ?_
        refine v_get (I := iX9_text) g_X9_185 dX9_text_77 (by decide) (ae_67 _ _) rfl ?_
        refine v_callVv (I := iX9_text) (I' := iX7_become) lk_X9_189 c_X7_become dX9_text_80 (m_X7_becomeT15) rfl rfl (by decide) (ae_w15 (by decide) _ _) rfl (by decide) (by decide) (Nat.le_of_ble_eq_true rfl) ?_
        refine v_iconst (I := iX9_text) (v := 1) dX9_text_83 (by decide) ?_
        exact v_iret (I := iX9_text) rfl dX9_text_84 (by
      unfold textS
      rw [if_pos hgood, hu9, hNc, if_neg hfa]
      refine ⟨rfl, rfl, CR_row hC9 (V_tx (u := 1) hVt (IV_16 hC.2.2.2.2.2.1) (by decide) hC60 ?_ ?_ ?_) (hFt.tr hF3) (IV_tx (by decide) (IV_16 hC.2.2.2.2.2.1) hC60 hwf), hF9.C.tr (FrW.C (by decide) (hFt.tr hF3))⟩
      · intro k h1 h2
        rw [up2_kf _ _ _ h1, va_up_o _ _ h2]
      · rw [up2_s, up2_kf _ _ _ (by decide)]; exact hln
      · intro j hj
        rw [up2_kf _ _ _ (by decide), va_up_s, up2_kf _ _ _ (by decide), Stk_at hsk j (by rw [List.length_map]; exact hj), getD_map hj])
      · have hfa : (txR ρ 1).1 = false ∨ (txR ρ 1).2.1 < N := by
          by_cases h8 : (txR ρ 1).1 = false ∨ (txR ρ 1).2.1 < N
          · exact h8
          · have hok : (txR ρ 1).1 = true := by
              cases h9 : (txR ρ 1).1 with
              | true => rfl
              | false => exact absurd (Or.inl h9) h8
            obtain ⟨S1, O1, P1, nm2, r1, r2, r3, hwf⟩ := rs2 hok (fun h9 => h8 (Or.inr h9))
            have c9 : ¬ rdV (kLoop (σ (wc 0 18)) 1 N 0 ([], [], 0, 0, σ 67 4, true)) < 0 := by first | exact c57 | exact Int32.not_lt.mpr c57
            refine absurd ?_ c9
            unfold rdV
            rw [r1]
            unfold kFault
            rw [if_neg (fun h => nomatch h)]
            have : ¬ kBad S1 = true := by unfold kBad; rw [r2]; exact (show ¬ (false || decide ((0 : Int32) < 0)) = true by decide)
            rw [if_neg this]
            decide
        have hrd : rdV (kLoop (σ (wc 0 18)) 1 N 0 ([], [], 0, 0, σ 67 4, true)) = nI (txR ρ 1).2.1 := by
          unfold rdV
          rw [rs1 hfa]
        refine v_bipush (I := iX9_text) (v := -10) dX9_text_60 (by decide) ?_
        refine v_iload_n (I := iX9_text) dX9_text_62 rfl ?_
        refine v_isub (I := iX9_text) dX9_text_63 ?_
        exact v_iret (I := iX9_text) rfl dX9_text_64 (by unfold textS; rw [if_pos hgood, hu9, hNc, if_pos hfa]; exact ⟨by show _ = some (Value.int (-10 - nI (txR ρ 1).2.1)); rw [hrd], rfl, CR_row hC9 hVt hFt (IV_16 hC.2.2.2.2.2.1), hF9.C.tr (FrW.C (by decide) hFt)⟩)
    · exact absurd c34 (by decide)
  · refine v_aload_n (I := iX9_text) dX9_text_9 rfl ?_
    refine v_iconst (I := iX9_text) (v := 1) dX9_text_10 (by decide) ?_
    refine v_callVi (I := iX9_text) (I' := iX9_refused) lk_X9_62 c_X9_refused dX9_text_11 (m_X9_refused (e := 1) (by decide) (by decide) (by decide)) rfl rfl (by decide) (ae_0 _ _) rfl (by decide) (by decide) (Nat.le_of_ble_eq_true rfl) ?_
    exact v_iret (I := iX9_text) rfl dX9_text_14 (by unfold textS; rw [if_neg (by grind)]; exact ⟨rfl, rfl, CR_err hC (by decide) (by decide), FC.up (by decide)⟩)
