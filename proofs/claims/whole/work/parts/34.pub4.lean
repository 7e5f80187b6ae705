def gAdd (g : gS) (n : Nat) (k m t : Int32) : gS := va_up (va_up (va_up (va_up g (63 + 3 * n + 0) k) (63 + 3 * n + 1) m) (63 + 3 * n + 2) t) 15 (g 15 + 1)
theorem gAdd_o {g : gS} {n i : Nat} {k m t : Int32} (h : i < 63 ∨ 87 ≤ i) (h15 : i ≠ 15) (hn : n < 8) : gAdd g n k m t i = g i := by
  unfold gAdd
  rw [va_up_o _ _ h15, va_up_o _ _ (by omega), va_up_o _ _ (by omega), va_up_o _ _ (by omega)]
theorem IV_add {g : gS} {n : Nat} {k m t : Int32} (hg : IV g) (hn : g 15 = nI n) (hn8 : n < 8) (hk : 0 ≤ k ∧ k ≤ 6) (hm : 0 ≤ m ∧ m ≤ 99) (ht : 1 ≤ t ∧ t ≤ 60) : IV (if n = 0 then gCome (gAdd g n k m t) 0 else gAdd g n k m t) := by
  have b := bnd_going n hn8
  obtain ⟨ht1, ht2⟩ := ht
  have hB : B (gAdd g n k m t) := by
    unfold gAdd
    refine B_up (B_up (B_up (B_up hg.1 fun _ => by rw [b.1]; exact hk) fun _ => by rw [b.2.1]; exact hm) fun _ => by rw [b.2.2]; exact ⟨by show (0 : Int32) ≤ t; grind, ht2⟩) fun _ => ?_
    show (0 : Int32) ≤ _ ∧ _ ≤ (8 : Int32)
    rw [hn, nI_1]
    exact ⟨nI_pos' (by omega), nI_le (b := 8) (by omega) (by decide)⟩
  have h0 : tOK (gAdd g n k m t) 0 := tOK_congr (by decide) (fun j hj => gAdd_o (by omega) (by omega) hn8) hg.2.1
  have h1 : tOK (gAdd g n k m t) 1 := tOK_congr (by decide) (fun j hj => gAdd_o (by omega) (by omega) hn8) hg.2.2.1
  have e15 : gAdd g n k m t 15 = nI (n + 1) := by unfold gAdd; rw [va_up_s, hn, nI_1]
  have hp : 0 < gAdd g n k m t 15 := by rw [e15]; exact nI_lt (a := 0) (by omega) (by omega)
  have hT : ∀ j, j < 8 → nI j < gAdd g n k m t 15 → 1 ≤ gAdd g n k m t (63 + 3 * j + 2) := by
    intro j hj hl
    rw [e15] at hl
    have hl := (nI_ltI (by omega) (by omega)).mp hl
    unfold gAdd
    rw [va_up_o _ _ (by omega)]
    by_cases e : j = n
    · subst e; rw [va_up_s]; exact ht1
    · rw [va_up_o _ _ (by omega), va_up_o _ _ (by omega), va_up_o _ _ (by omega)]
      exact (hg.2.2.2.1 (by rw [hn]; exact nI_lt (a := 0) (by omega) (by omega))).2.2 j hj (by rw [hn]; exact nI_lt (by omega) (by omega))
  by_cases hz : n = 0
  · rw [if_pos hz]
    exact IV_come (i := 0) hB h0 h1 hp (by decide) hp hT
  · rw [if_neg hz]
    have hr := hg.2.2.2.1 (by rw [hn]; exact nI_lt (a := 0) (by omega) (by omega))
    refine ⟨hB, h0, h1, ⟨fun _ => ⟨?_, ?_, hT⟩, fun h => ?_⟩⟩
    · rw [gAdd_o (by omega) (by decide) hn8, e15]
      have h9 := hr.1
      rw [hn] at h9
      have : nI n < nI (n + 1) := nI_lt (by omega) (by omega)
      grind
    · rw [gAdd_o (by omega) (by decide) hn8]
      exact hr.2.1
    · rw [h] at hp
      exact absurd hp (by decide)
def goingS (ρ : fSt) (km t : Int32) : Int32 × fSt := if (0 ≤ km ∧ km ≤ 699) ∧ 1 ≤ t ∧ t ≤ 60 then (if ρ 88 15 < 8 then (ρ 88 15, rowS ρ (if ρ 88 15 = 0 then gCome (gAdd (ρ 88) (ρ 88 15).toNatClampNeg (km / 100) (rem32 km 100) t) 0 else gAdd (ρ 88) (ρ 88 15).toNatClampNeg (km / 100) (rem32 km 100) t)) else (errV 4, errS ρ 4)) else (errV 1, errS ρ 1)
theorem km_in {km : Int32} (h : 0 ≤ km ∧ km ≤ 699) : (0 ≤ km / 100 ∧ km / 100 ≤ 6) ∧ 0 ≤ rem32 km 100 ∧ rem32 km 100 ≤ 99 := by
  obtain ⟨j, hj, rfl⟩ := in2_nI (x := km) (n := 700) (by decide) ⟨h.1, by have := h.2; show km < 700; grind⟩
  have h3 : nI j / 100 = nI (j / 100) := pk_div (d := 100) (by omega) (by decide) (by decide)
  have h4 : rem32 (nI j) 100 = nI (j % 100) := rem_nI (n := 100) (by omega) (by decide) (by decide)
  rw [h3, h4]
  exact ⟨⟨nI_pos' (by omega), nI_le (b := 6) (by omega) (by decide)⟩, nI_pos' (by omega), nI_le (b := 99) (by omega) (by decide)⟩
set_option maxRecDepth 100000 in
set_option maxHeartbeats 4000000 in
theorem m_X1_add {G : fGm} {σ : fSt} {τ : fLt} {w n : Nat} {g : gS} {k m t : Int32} (hw : w < 3) (hV : V w σ g) (hn : g 15 = nI n) (hn8 : n < 8) : MS G iX1_add 1 [.ref (wc w 8), .int k, .int m, .int t] σ τ (rW (some (.int (g 15))) τ w σ (gAdd g n k m t)) := by
  refine ms_of (by decide +kernel) (Nat.le_of_ble_eq_true rfl) ?_
  show VW _ _ _ _ _ _ 0 [(0, _), (1, _), (2, _), (3, _)] []
  refine v_aload_n (I := iX1_add) dX1_add_0 rfl ?_
  refine v_get (I := iX1_add) g_X1_21 dX1_add_1 (wc_lt hw (by decide)) (ae_w8 hw _ _) rfl ?_
  rw [V_n15 hV]
  refine v_istore (I := iX1_add) (ls1 := [(4, _), (0, _), (1, _), (2, _), (3, _)]) dX1_add_4 (by decide) rfl ?_
  refine v_aload_n (I := iX1_add) dX1_add_6 rfl ?_
  refine v_get (I := iX1_add) g_X1_9 dX1_add_7 (wc_lt hw (by decide)) (ae_w8 hw _ _) rfl ?_
  refine v_iload (I := iX1_add) dX1_add_10 rfl ?_
  refine v_iload_n (I := iX1_add) dX1_add_12 rfl ?_
  refine v_callSi (I := iX1_add) (I' := iX9_exchange) lk_X1_29 c_X9_exchange dX1_add_13 (m_X9_exchange (wc_lt hw (by decide)) (ae_w9 hw) (by decide)) rfl rfl (by decide) (by decide) (Nat.le_of_ble_eq_true rfl) ?_
  rw [wrA_eq (j := n) hn hn8 (by decide)]
  refine v_pop (I := iX1_add) dX1_add_16 rfl ?_
  refine v_aload_n (I := iX1_add) dX1_add_17 rfl ?_
  refine v_get (I := iX1_add) g_X1_15 dX1_add_18 (wc_lt hw (by decide)) (ae_w8 hw _ _) rfl ?_
  refine v_iload (I := iX1_add) dX1_add_21 rfl ?_
  refine v_iload_n (I := iX1_add) dX1_add_23 rfl ?_
  refine v_callSi (I := iX1_add) (I' := iX9_exchange) lk_X1_29 c_X9_exchange dX1_add_24 (m_X9_exchange (wc_lt hw (by decide)) (ae_w10 hw) (by decide)) rfl rfl (by decide) (by decide) (Nat.le_of_ble_eq_true rfl) ?_
  rw [wrA_eq (j := n) hn hn8 (by decide)]
  refine v_pop (I := iX1_add) dX1_add_27 rfl ?_
  refine v_aload_n (I := iX1_add) dX1_add_28 rfl ?_
  refine v_get (I := iX1_add) g_X1_18 dX1_add_29 (wc_lt hw (by decide)) (ae_w8 hw _ _) rfl ?_
  refine v_iload (I := iX1_add) dX1_add_32 rfl ?_
  refine v_iload_n (I := iX1_add) dX1_add_34 rfl ?_
  refine v_callSi (I := iX1_add) (I' := iX9_exchange) lk_X1_29 c_X9_exchange dX1_add_35 (m_X9_exchange (wc_lt hw (by decide)) (ae_w11 hw) (by decide)) rfl rfl (by decide) (by decide) (Nat.le_of_ble_eq_true rfl) ?_
  rw [wrA_eq (j := n) hn hn8 (by decide)]
  refine v_pop (I := iX1_add) dX1_add_38 rfl ?_
  refine v_aload_n (I := iX1_add) dX1_add_39 rfl ?_
  refine v_bipush (I := iX1_add) (v := 8) dX1_add_40 (by decide) ?_
  refine v_iload (I := iX1_add) dX1_add_42 rfl ?_
  refine v_iconst (I := iX1_add) (v := 1) dX1_add_44 (by decide) ?_
  refine v_iadd (I := iX1_add) dX1_add_45 ?_
  refine v_min (I := iX1_add) lm_X1_33 dX1_add_46 (by decide) (Nat.le_of_ble_eq_true rfl) ?_
  rw [show (if g 15 + 1 < 8 then g 15 + 1 else 8) = g 15 + 1 by rw [hn, nI_1]; have : nI (n + 1) ≤ 8 := nI_le (b := 8) (by omega) (by decide); grind]
  refine v_putI (I := iX1_add) p_X1_21 dX1_add_49 (wc_lt hw (by decide)) (ae_w8 hw _ _) (ae_w8 hw _ _) rfl rfl (by simp) ?_
  refine v_iload (I := iX1_add) dX1_add_52 rfl ?_
  exact v_iret (I := iX1_add) rfl dX1_add_54 ⟨rfl, rfl, V_up 15 (by decide) (V_goingU (V_goingU (V_goingU hV hn8).1 hn8).2.1 hn8).2.2, ((((FrW.up (by decide)).tr (FrW.up (by decide))).tr (FrW.up (by decide))).tr (FrW.up (by decide)))⟩
theorem gAdd15 {g : gS} {n : Nat} {k m t : Int32} (hn : g 15 = nI n) : gAdd g n k m t 15 = nI (n + 1) := by unfold gAdd; rw [va_up_s, hn, nI_1]
set_option maxRecDepth 100000 in
set_option maxHeartbeats 4000000 in
theorem m_X9_going {G : fGm} {σ : fSt} {τ : fLt} {ρ : fSt} (hC : CR σ ρ) {km t : Int32} : MS G iX9_going 2 [.ref 0, .int km, .int t] σ τ (rC τ σ (goingS ρ km t)) := by
  refine ms_of (by decide +kernel) (Nat.le_of_ble_eq_true rfl) ?_
  show VW _ _ _ _ _ _ 0 [(0, _), (1, _), (2, _)] []
  refine v_iload_n (I := iX9_going) dX9_going_0 rfl ?_
  refine v_iconst (I := iX9_going) (v := 0) dX9_going_1 (by decide) ?_
  refine v_sipush (I := iX9_going) (v := 699) dX9_going_2 (by decide) ?_
  refine v_callSi (I := iX9_going) (I' := iX9_within) lk_X9_58 c_X9_within dX9_going_5 (m_X9_within) rfl rfl (by decide) (by decide) (Nat.le_of_ble_eq_true rfl) ?_
  refine v_if_eqB (I := iX9_going) (tgt := 21) dX9_going_8 (by decide) (fun c8 => ?_) (fun c8 => ?_)
  · refine v_aload_n (I := iX9_going) dX9_going_21 rfl ?_
    refine v_iconst (I := iX9_going) (v := 1) dX9_going_22 (by decide) ?_
    refine v_callVi (I := iX9_going) (I' := iX9_refused) lk_X9_62 c_X9_refused dX9_going_23 (m_X9_refused (e := 1) (by decide) (by decide) (by decide)) rfl rfl (by decide) (ae_0 _ _) rfl (by decide) (by decide) (Nat.le_of_ble_eq_true rfl) ?_
    exact v_iret (I := iX9_going) rfl dX9_going_26 (by unfold goingS; rw [if_neg (by grind)]; exact ⟨rfl, rfl, CR_err hC (by decide) (by decide), FC.up (by decide)⟩)
  · refine v_iload_n (I := iX9_going) dX9_going_11 rfl ?_
    refine v_iconst (I := iX9_going) (v := 1) dX9_going_12 (by decide) ?_
    refine v_bipush (I := iX9_going) (v := 60) dX9_going_13 (by decide) ?_
    refine v_callSi (I := iX9_going) (I' := iX9_within) lk_X9_58 c_X9_within dX9_going_15 (m_X9_within) rfl rfl (by decide) (by decide) (Nat.le_of_ble_eq_true rfl) ?_
    refine v_if_neB (I := iX9_going) (tgt := 27) dX9_going_18 (by decide) (fun c18 => ?_) (fun c18 => ?_)
    · refine v_aload_n (I := iX9_going) dX9_going_27 rfl ?_
      refine v_get (I := iX9_going) g_X9_10 dX9_going_28 (by decide) (ae_0 _ _) rfl ?_
      refine v_get (I := iX9_going) g_X9_120 dX9_going_31 (by decide) (ae_w0 (by decide) _ _) rfl ?_
      refine v_get (I := iX9_going) g_X9_124 dX9_going_34 (by decide) (ae_w8 (by decide) _ _) rfl ?_
      rw [V_n15 hC.1]
      refine v_bipush (I := iX9_going) (v := 8) dX9_going_37 (by decide) ?_
      refine v_icmp_lt (I := iX9_going) (tgt := 48) dX9_going_39 (by decide) (fun c39 => ?_) (fun c39 => ?_)
      · obtain ⟨n, hn8, hn⟩ : ∃ n, n < 8 ∧ ρ 88 15 = nI n := in2_nI (by decide) ⟨(B_n15 hC.2.2.2.2.2.1.1).1, by show ρ 88 15 < 8; have := (B_n15 hC.2.2.2.2.2.1.1).2; grind⟩
        have hnc : (ρ 88 15).toNatClampNeg = n := by rw [hn]; exact nI_clamp (by omega)
        have hkm := km_in (km := km) (by grind)
        have hIV := IV_add (k := km / 100) (m := rem32 km 100) (t := t) hC.2.2.2.2.2.1 hn hn8 hkm.1 hkm.2 (by grind)
        refine v_aload_n (I := iX9_going) dX9_going_48 rfl ?_
        refine v_get (I := iX9_going) g_X9_10 dX9_going_49 (by decide) (ae_0 _ _) rfl ?_
        refine v_get (I := iX9_going) g_X9_120 dX9_going_52 (by decide) (ae_w0 (by decide) _ _) rfl ?_
        refine v_iload_n (I := iX9_going) dX9_going_55 rfl ?_
        refine v_bipush (I := iX9_going) (v := 100) dX9_going_56 (by decide) ?_
        refine v_idiv (I := iX9_going) dX9_going_58 (by decide) ?_
        refine v_iload_n (I := iX9_going) dX9_going_59 rfl ?_
        refine v_bipush (I := iX9_going) (v := 100) dX9_going_60 (by decide) ?_
        refine v_irem (I := iX9_going) dX9_going_62 (by decide) ?_
        refine v_iload_n (I := iX9_going) dX9_going_63 rfl ?_
        refine v_callViP (I := iX9_going) (I' := iX1_add) lk_X9_127 c_X1_add dX9_going_64 (m_X1_add (by decide) hC.1 hn hn8) rfl rfl (by decide) (ae_w8 (by decide) _ _) rfl (by decide) (by decide) (Nat.le_of_ble_eq_true rfl) (fun s64 h64 => ?_)
        refine v_istore_n (I := iX9_going) (ls1 := [(3, _), (0, _), (1, _), (2, _)]) dX9_going_67 (by decide) rfl ?_
        refine v_iload_n (I := iX9_going) dX9_going_68 rfl ?_
        refine v_if_ne (I := iX9_going) (tgt := 80) dX9_going_69 (by decide) (fun c69 => ?_) (fun c69 => ?_)
        · have hz : ¬ n = 0 := fun h9 => c69 (by rw [hn, h9]; rfl)
          have h150 : ¬ ρ 88 15 = 0 := c69
          rw [if_neg hz] at hIV
          refine v_iload_n (I := iX9_going) dX9_going_80 rfl ?_
          exact v_iret (I := iX9_going) rfl dX9_going_81 (by
      unfold goingS
      rw [if_pos (by grind), if_pos (by grind), hnc]
      first
      | (rw [if_neg h150]; exact ⟨rfl, rfl, CR_row hC h64.1 h64.2 hIV, FrW.C (by decide) h64.2⟩)
      | (rw [if_pos h150]; exact ⟨rfl, rfl, CR_row hC h77.1 (h64.2.tr h77.2) hIV, FrW.C (by decide) (h64.2.tr h77.2)⟩))
        · have hz : n = 0 := by
            rcases Nat.eq_zero_or_pos n with h9 | h9
            · exact h9
            · exact absurd (hn.symm.trans c69) (nI_ne0 h9 (by omega))
          have h150 : ρ 88 15 = 0 := c69
          rw [if_pos hz] at hIV
          refine v_aload_n (I := iX9_going) dX9_going_72 rfl ?_
          refine v_get (I := iX9_going) g_X9_10 dX9_going_73 (by decide) (ae_0 _ _) rfl ?_
          refine v_iconst (I := iX9_going) (v := 0) dX9_going_76 (by decide) ?_
          refine v_callVvP (I := iX9_going) (I' := iX8_come) lk_X9_130 c_X8_come dX9_going_77 (m_X8_come (i := 0) (by decide) h64.1 rfl (by decide) (Or.inr (by rw [gAdd15 hn]; exact nI_lt (a := 0) (by omega) (by omega)))) rfl rfl (by decide) (ae_w0 (by decide) _ _) rfl (by decide) (by decide) (Nat.le_of_ble_eq_true rfl) (fun s77 h77 => ?_)
          refine v_iload_n (I := iX9_going) dX9_going_80 rfl ?_
          exact v_iret (I := iX9_going) rfl dX9_going_81 (by
      unfold goingS
      rw [if_pos (by grind), if_pos (by grind), hnc]
      first
      | (rw [if_neg h150]; exact ⟨rfl, rfl, CR_row hC h64.1 h64.2 hIV, FrW.C (by decide) h64.2⟩)
      | (rw [if_pos h150]; exact ⟨rfl, rfl, CR_row hC h77.1 (h64.2.tr h77.2) hIV, FrW.C (by decide) (h64.2.tr h77.2)⟩))
      · refine v_aload_n (I := iX9_going) dX9_going_42 rfl ?_
        refine v_iconst (I := iX9_going) (v := 4) dX9_going_43 (by decide) ?_
        refine v_callVi (I := iX9_going) (I' := iX9_refused) lk_X9_62 c_X9_refused dX9_going_44 (m_X9_refused (e := 4) (by decide) (by decide) (by decide)) rfl rfl (by decide) (ae_0 _ _) rfl (by decide) (by decide) (Nat.le_of_ble_eq_true rfl) ?_
        exact v_iret (I := iX9_going) rfl dX9_going_47 (by unfold goingS; rw [if_pos (by grind)]; rw [if_neg (by grind)]; exact ⟨rfl, rfl, CR_err hC (by decide) (by decide), FC.up (by decide)⟩)
    · refine v_aload_n (I := iX9_going) dX9_going_21 rfl ?_
      refine v_iconst (I := iX9_going) (v := 1) dX9_going_22 (by decide) ?_
      refine v_callVi (I := iX9_going) (I' := iX9_refused) lk_X9_62 c_X9_refused dX9_going_23 (m_X9_refused (e := 1) (by decide) (by decide) (by decide)) rfl rfl (by decide) (ae_0 _ _) rfl (by decide) (by decide) (Nat.le_of_ble_eq_true rfl) ?_
      exact v_iret (I := iX9_going) rfl dX9_going_26 (by unfold goingS; rw [if_neg (by grind)]; exact ⟨rfl, rfl, CR_err hC (by decide) (by decide), FC.up (by decide)⟩)
set_option maxRecDepth 100000 in
set_option maxHeartbeats 4000000 in
theorem m_X10_going {G : fGm} {σ : fSt} {τ : fLt} {ρ : fSt} (hR : RR σ ρ) {km t : Int32} : MS G iX10_going 2 [.ref 87, .int km, .int t] σ τ (rR τ σ (goingS ρ km t)) := by
  refine ms_of (by decide +kernel) (Nat.le_of_ble_eq_true rfl) ?_
  show VW _ _ _ _ _ _ 0 [(0, _), (1, _), (2, _)] []
  have hb9 := B_n15 hR.2.2.2.2.2.2.2.2.2.2.2.1.1
  refine v_iload_n (I := iX10_going) dX10_going_0 rfl ?_
  refine v_iconst (I := iX10_going) (v := 0) dX10_going_1 (by decide) ?_
  refine v_sipush (I := iX10_going) (v := 699) dX10_going_2 (by decide) ?_
  refine v_callSi (I := iX10_going) (I' := iX10_within) lk_X10_79 c_X10_within dX10_going_5 (m_X10_within) rfl rfl (by decide) (by decide) (Nat.le_of_ble_eq_true rfl) ?_
  refine v_if_eqB (I := iX10_going) (tgt := 21) dX10_going_8 (by decide) (fun c8 => ?_) (fun c8 => ?_)
  · refine v_aload_n (I := iX10_going) dX10_going_21 rfl ?_
    refine v_ldc (I := iX10_going) k_X10_91 dX10_going_22 ?_
    refine v_callVi (I := iX10_going) (I' := iX10_finding) lk_X10_92 c_X10_finding dX10_going_24 (m_X10_findE (e := 1) (by decide) (by decide)) rfl rfl (by decide) (ae_87 _ _) rfl (by decide) (by decide) (Nat.le_of_ble_eq_true rfl) ?_
    exact v_iret (I := iX10_going) rfl dX10_going_27 (by unfold goingS; rw [if_neg (by grind)]; exact ⟨rfl, rfl, RR_err hR, FR.up (by decide)⟩)
  · refine v_iload_n (I := iX10_going) dX10_going_11 rfl ?_
    refine v_iconst (I := iX10_going) (v := 1) dX10_going_12 (by decide) ?_
    refine v_bipush (I := iX10_going) (v := 60) dX10_going_13 (by decide) ?_
    refine v_callSi (I := iX10_going) (I' := iX10_within) lk_X10_79 c_X10_within dX10_going_15 (m_X10_within) rfl rfl (by decide) (by decide) (Nat.le_of_ble_eq_true rfl) ?_
    refine v_if_neB (I := iX10_going) (tgt := 28) dX10_going_18 (by decide) (fun c18 => ?_) (fun c18 => ?_)
    · refine v_aload_n (I := iX10_going) dX10_going_28 rfl ?_
      refine v_get (I := iX10_going) g_X10_9 dX10_going_29 (by decide) (ae_87 _ _) rfl ?_
      refine v_bipush (I := iX10_going) (v := 15) dX10_going_32 (by decide) ?_
      refine v_ialdN (I := iX10_going) (j := 15) (by decide) (by decide) (by decide) dX10_going_34 (by decide) (ae_88 _ _) ?_
      rw [hR.1]
      refine v_istore_n (I := iX10_going) (ls1 := [(3, _), (0, _), (1, _), (2, _)]) dX10_going_35 (by decide) rfl ?_
      refine v_iload_n (I := iX10_going) dX10_going_36 rfl ?_
      refine v_bipush (I := iX10_going) (v := 8) dX10_going_37 (by decide) ?_
      refine v_icmp_ne (I := iX10_going) (tgt := 49) dX10_going_39 (by decide) (fun c39 => ?_) (fun c39 => ?_)
      · obtain ⟨n, hn8, hn⟩ : ∃ n, n < 8 ∧ ρ 88 15 = nI n := in2_nI (by decide) ⟨(B_n15 hR.2.2.2.2.2.2.2.2.2.2.2.1.1).1, by show ρ 88 15 < 8; have := (B_n15 hR.2.2.2.2.2.2.2.2.2.2.2.1.1).2; grind⟩
        have hnc : (ρ 88 15).toNatClampNeg = n := by rw [hn]; exact nI_clamp (by omega)
        have hkm := km_in (km := km) (by grind)
        have hIV := IV_add (k := km / 100) (m := rem32 km 100) (t := t) hR.2.2.2.2.2.2.2.2.2.2.2.1 hn hn8 hkm.1 hkm.2 (by grind)
        refine v_aload_n (I := iX10_going) dX10_going_49 rfl ?_
        refine v_get (I := iX10_going) g_X10_9 dX10_going_50 (by decide) (ae_87 _ _) rfl ?_
        refine v_bipush (I := iX10_going) (v := 63) dX10_going_53 (by decide) ?_
        refine v_iconst (I := iX10_going) (v := 3) dX10_going_55 (by decide) ?_
        refine v_iload_n (I := iX10_going) dX10_going_56 rfl ?_
        refine v_imul (I := iX10_going) dX10_going_57 ?_
        refine v_iadd (I := iX10_going) dX10_going_58 ?_
        refine v_iconst (I := iX10_going) (v := 0) dX10_going_59 (by decide) ?_
        refine v_iadd (I := iX10_going) dX10_going_60 ?_
        refine v_iload_n (I := iX10_going) dX10_going_61 rfl ?_
        refine v_bipush (I := iX10_going) (v := 100) dX10_going_62 (by decide) ?_
        refine v_idiv (I := iX10_going) dX10_going_64 (by decide) ?_
        refine v_iastN (I := iX10_going) (j := _) (by rw [hn]; exact ix3 63 63 rfl n 0) (by omega) (by decide) dX10_going_65 (by decide) (fun _ => ae_88 _ _) ?_
        refine v_aload_n (I := iX10_going) dX10_going_66 rfl ?_
        refine v_get (I := iX10_going) g_X10_9 dX10_going_67 (by decide) (ae_87 _ _) rfl ?_
        refine v_bipush (I := iX10_going) (v := 63) dX10_going_70 (by decide) ?_
        refine v_iconst (I := iX10_going) (v := 3) dX10_going_72 (by decide) ?_
        refine v_iload_n (I := iX10_going) dX10_going_73 rfl ?_
        refine v_imul (I := iX10_going) dX10_going_74 ?_
        refine v_iadd (I := iX10_going) dX10_going_75 ?_
        refine v_iconst (I := iX10_going) (v := 1) dX10_going_76 (by decide) ?_
        refine v_iadd (I := iX10_going) dX10_going_77 ?_
        refine v_iload_n (I := iX10_going) dX10_going_78 rfl ?_
        refine v_bipush (I := iX10_going) (v := 100) dX10_going_79 (by decide) ?_
        refine v_irem (I := iX10_going) dX10_going_81 (by decide) ?_
        refine v_iastN (I := iX10_going) (j := _) (by rw [hn]; exact ix3 63 63 rfl n 1) (by omega) (by decide) dX10_going_82 (by decide) (fun _ => ae_88 _ _) ?_
        refine v_aload_n (I := iX10_going) dX10_going_83 rfl ?_
        refine v_get (I := iX10_going) g_X10_9 dX10_going_84 (by decide) (ae_87 _ _) rfl ?_
        refine v_bipush (I := iX10_going) (v := 63) dX10_going_87 (by decide) ?_
        refine v_iconst (I := iX10_going) (v := 3) dX10_going_89 (by decide) ?_
        refine v_iload_n (I := iX10_going) dX10_going_90 rfl ?_
        refine v_imul (I := iX10_going) dX10_going_91 ?_
        refine v_iadd (I := iX10_going) dX10_going_92 ?_
        refine v_iconst (I := iX10_going) (v := 2) dX10_going_93 (by decide) ?_
        refine v_iadd (I := iX10_going) dX10_going_94 ?_
        refine v_iload_n (I := iX10_going) dX10_going_95 rfl ?_
        refine v_iastN (I := iX10_going) (j := _) (by rw [hn]; exact ix3 63 63 rfl n 2) (by omega) (by decide) dX10_going_96 (by decide) (fun _ => ae_88 _ _) ?_
        refine v_aload_n (I := iX10_going) dX10_going_97 rfl ?_
        refine v_get (I := iX10_going) g_X10_9 dX10_going_98 (by decide) (ae_87 _ _) rfl ?_
        refine v_bipush (I := iX10_going) (v := 15) dX10_going_101 (by decide) ?_
        refine v_dup2_11 (I := iX10_going) dX10_going_103 rfl rfl ?_
        refine v_ialdN (I := iX10_going) (j := 15) (by decide) (by decide) (by decide) dX10_going_104 (by decide) (ae_88 _ _) ?_
        refine v_iconst (I := iX10_going) (v := 1) dX10_going_105 (by decide) ?_
        refine v_iadd (I := iX10_going) dX10_going_106 ?_
        refine v_iastN (I := iX10_going) (j := 15) (by decide) (by decide) (by decide) dX10_going_107 (by decide) (fun _ => ae_88 _ _) ?_
        have e9 : up2 (up2 (up2 (up2 σ 88 (63 + 3 * n + 0) (km / 100)) 88 (63 + 3 * n + 1) (km - km / 100 * 100)) 88 (63 + 3 * n + 2) t) 88 15 (up2 (up2 (up2 σ 88 (63 + 3 * n + 0) (km / 100)) 88 (63 + 3 * n + 1) (km - km / 100 * 100)) 88 (63 + 3 * n + 2) t 88 15 + 1) = va_up σ 88 (gAdd (ρ 88) n (km / 100) (rem32 km 100) t) := by
          simp only [up2_f, va_up_s, up2, va_up_va, gAdd]
          rw [va_up_o _ _ (show 15 ≠ 63 + 3 * n + 2 by omega), va_up_o _ _ (show 15 ≠ 63 + 3 * n + 1 by omega), va_up_o _ _ (show 15 ≠ 63 + 3 * n + 0 by omega), hR.1]
          rfl
        rw [e9]
        refine v_iload_n (I := iX10_going) dX10_going_108 rfl ?_
        refine v_if_ne (I := iX10_going) (tgt := 117) dX10_going_109 (by decide) (fun c109 => ?_) (fun c109 => ?_)
        · have hz : ¬ n = 0 := fun h9 => c109 (by rw [hn, h9]; rfl)
          have h150 : ¬ ρ 88 15 = 0 := c109
          rw [if_neg hz] at hIV
          refine v_iload_n (I := iX10_going) dX10_going_117 rfl ?_
          exact v_iret (I := iX10_going) rfl dX10_going_118 (by
      unfold goingS
      rw [if_pos (by grind), if_pos (by grind), hnc]
      first
      | (rw [if_neg h150]; exact ⟨rfl, rfl, RR_row hR hIV, FR.va (by decide)⟩)
      | (rw [if_pos h150]; exact ⟨rfl, rfl, by rw [va_up_s, va_up_va]; exact RR_row hR hIV, (FR.va (by decide)).tr (FR.va (by decide))⟩))
        · have hz : n = 0 := by
            rcases Nat.eq_zero_or_pos n with h9 | h9
            · exact h9
            · exact absurd (hn.symm.trans c109) (nI_ne0 h9 (by omega))
          have h150 : ρ 88 15 = 0 := c109
          rw [if_pos hz] at hIV
          refine v_aload_n (I := iX10_going) dX10_going_112 rfl ?_
          refine v_iconst (I := iX10_going) (v := 0) dX10_going_113 (by decide) ?_
          refine v_callVv (I := iX10_going) (I' := iX10_comesNow) lk_X10_128 c_X10_comesNow dX10_going_114 (m_X10_comesNow (i := 0) rfl (by decide)) rfl rfl (by decide) (ae_87 _ _) rfl (by decide) (by decide) (Nat.le_of_ble_eq_true rfl) ?_
          refine v_iload_n (I := iX10_going) dX10_going_117 rfl ?_
          exact v_iret (I := iX10_going) rfl dX10_going_118 (by
      unfold goingS
      rw [if_pos (by grind), if_pos (by grind), hnc]
      first
      | (rw [if_neg h150]; exact ⟨rfl, rfl, RR_row hR hIV, FR.va (by decide)⟩)
      | (rw [if_pos h150]; exact ⟨rfl, rfl, by rw [va_up_s, va_up_va]; exact RR_row hR hIV, (FR.va (by decide)).tr (FR.va (by decide))⟩))
      · refine v_aload_n (I := iX10_going) dX10_going_42 rfl ?_
        refine v_ldc (I := iX10_going) k_X10_100 dX10_going_43 ?_
        refine v_callVi (I := iX10_going) (I' := iX10_finding) lk_X10_92 c_X10_finding dX10_going_45 (m_X10_findE (e := 4) (by decide) (by decide)) rfl rfl (by decide) (ae_87 _ _) rfl (by decide) (by decide) (Nat.le_of_ble_eq_true rfl) ?_
        exact v_iret (I := iX10_going) rfl dX10_going_48 (by unfold goingS; rw [if_pos (by grind)]; rw [if_neg (by grind)]; exact ⟨rfl, rfl, RR_err hR, FR.up (by decide)⟩)
    · refine v_aload_n (I := iX10_going) dX10_going_21 rfl ?_
      refine v_ldc (I := iX10_going) k_X10_91 dX10_going_22 ?_
      refine v_callVi (I := iX10_going) (I' := iX10_finding) lk_X10_92 c_X10_finding dX10_going_24 (m_X10_findE (e := 1) (by decide) (by decide)) rfl rfl (by decide) (ae_87 _ _) rfl (by decide) (by decide) (Nat.le_of_ble_eq_true rfl) ?_
      exact v_iret (I := iX10_going) rfl dX10_going_27 (by unfold goingS; rw [if_neg (by grind)]; exact ⟨rfl, rfl, RR_err hR, FR.up (by decide)⟩)
