def goingIsS (ρ : fSt) (h w : Int32) : Int32 × fSt := if (0 ≤ h ∧ h ≤ ρ 88 15 - 1) ∧ 0 ≤ w ∧ w ≤ 6 then
    (if w = 0 then gK (ρ 88) h.toNatClampNeg else if w = 1 then gM (ρ 88) h.toNatClampNeg else if w = 2 then gTn (ρ 88) h.toNatClampNeg else if w = 3 then gSways (ρ 88) h.toNatClampNeg else if w = 4 then gStride (ρ 88) h.toNatClampNeg else if w = 5 then gPace (ρ 88) h.toNatClampNeg else gCatch (ρ 88) h.toNatClampNeg, ρ) else (errV 1, errS ρ 1)
set_option maxRecDepth 100000 in
set_option maxHeartbeats 4000000 in
theorem m_X9_goingIs {G : fGm} {σ : fSt} {τ : fLt} {ρ : fSt} (hC : CR σ ρ) {h w : Int32} : MS G iX9_goingIs 5 [.ref 0, .int h, .int w] σ τ (rC τ σ (goingIsS ρ h w)) := by
  refine ms_of (by decide +kernel) (Nat.le_of_ble_eq_true rfl) ?_
  show VW _ _ _ _ _ _ 0 [(0, _), (1, _), (2, _)] []
  refine v_aload_n (I := iX9_goingIs) dX9_goingIs_0 rfl ?_
  refine v_iload_n (I := iX9_goingIs) dX9_goingIs_1 rfl ?_
  refine v_callVi (I := iX9_goingIs) (I' := iX9_isGoing) lk_X9_134 c_X9_isGoing dX9_goingIs_2 (m_X9_isGoing hC.1) rfl rfl (by decide) (ae_0 _ _) rfl (by decide) (by decide) (Nat.le_of_ble_eq_true rfl) ?_
  refine v_if_eqB (I := iX9_goingIs) (tgt := 18) dX9_goingIs_5 (by decide) (fun c5 => ?_) (fun c5 => ?_)
  · refine v_aload_n (I := iX9_goingIs) dX9_goingIs_18 rfl ?_
    refine v_iconst (I := iX9_goingIs) (v := 1) dX9_goingIs_19 (by decide) ?_
    refine v_callVi (I := iX9_goingIs) (I' := iX9_refused) lk_X9_62 c_X9_refused dX9_goingIs_20 (m_X9_refused (e := 1) (by decide) (by decide) (by decide)) rfl rfl (by decide) (ae_0 _ _) rfl (by decide) (by decide) (Nat.le_of_ble_eq_true rfl) ?_
    exact v_iret (I := iX9_goingIs) rfl dX9_goingIs_23 (by unfold goingIsS; rw [if_neg (by grind)]; exact ⟨rfl, rfl, CR_err hC (by decide) (by decide), FC.up (by decide)⟩)
  · refine v_iload_n (I := iX9_goingIs) dX9_goingIs_8 rfl ?_
    refine v_iconst (I := iX9_goingIs) (v := 0) dX9_goingIs_9 (by decide) ?_
    refine v_bipush (I := iX9_goingIs) (v := 6) dX9_goingIs_10 (by decide) ?_
    refine v_callSi (I := iX9_goingIs) (I' := iX9_within) lk_X9_58 c_X9_within dX9_goingIs_12 (m_X9_within) rfl rfl (by decide) (by decide) (Nat.le_of_ble_eq_true rfl) ?_
    refine v_if_neB (I := iX9_goingIs) (tgt := 24) dX9_goingIs_15 (by decide) (fun c15 => ?_) (fun c15 => ?_)
    · have hb9 := B_n15 hC.2.2.2.2.2.1.1
      obtain ⟨q, hq, hqx⟩ := nI8 (x := h) (by grind)
      have hqc : h.toNatClampNeg = q := by rw [hqx]; exact nI_clamp (by omega)
      refine v_aload_n (I := iX9_goingIs) dX9_goingIs_24 rfl ?_
      refine v_get (I := iX9_goingIs) g_X9_10 dX9_goingIs_25 (by decide) (ae_0 _ _) rfl ?_
      refine v_iload_n (I := iX9_goingIs) dX9_goingIs_28 rfl ?_
      refine v_callVr (I := iX9_goingIs) (I' := iX8_gaitOf) lk_X9_137 c_X8_gaitOf dX9_goingIs_29 (m_X8_gaitOf (by decide) hC.1 hC.2.2.2.2.2.1.1 hqx hq) rfl rfl (by decide) (ae_w0 (by decide) _ _) rfl (by decide) (by decide) (Nat.le_of_ble_eq_true rfl) ?_
      have hC1 : CR (gaitS 0 σ (ρ 88) q) ρ := CR_same hC (gaitS_V hC.1) gaitS_F
      have hF1 : FC σ (gaitS 0 σ (ρ 88) q) := FrW.C (by decide) gaitS_F
      obtain ⟨q0, q1, q2, q3⟩ := gaitS_0 (w := 0) (i := q) (σ := σ) (g := ρ 88)
      generalize gaitS 0 σ (ρ 88) q = σ1 at hC1 hF1 q0 q1 q2 q3 ⊢
      refine v_astore_n (I := iX9_goingIs) (ls1 := [(3, _), (0, _), (1, _), (2, _)]) dX9_goingIs_32 (by decide) rfl ?_
      refine v_iload_n (I := iX9_goingIs) dX9_goingIs_33 rfl ?_
      by_cases s34_0 : w = 0
      · refine v_tabIn (I := iX9_goingIs) (tgt := 72) (off := 38) (v := 0) dX9_goingIs_34 s34_0 (by decide) (by decide) (by decide) (by decide) ?_
        refine v_aload_n (I := iX9_goingIs) dX9_goingIs_72 rfl ?_
        refine v_get (I := iX9_goingIs) g_X9_10 dX9_goingIs_73 (by decide) (ae_0 _ _) rfl ?_
        refine v_get (I := iX9_goingIs) g_X9_120 dX9_goingIs_76 (by decide) (ae_w0 (by decide) _ _) rfl ?_
        refine v_get (I := iX9_goingIs) g_X9_141 dX9_goingIs_79 (by decide) (ae_w8 (by decide) _ _) rfl ?_
        refine v_iload_n (I := iX9_goingIs) dX9_goingIs_82 rfl ?_
        refine v_callSi (I := iX9_goingIs) (I' := iX9_at) lk_X9_104 c_X9_at dX9_goingIs_83 (m_X9_at (by decide) (ae_w9 (by decide)) (by decide)) rfl rfl (by decide) (by decide) (Nat.le_of_ble_eq_true rfl) ?_
        rw [rdA_eq hqx hq (by decide), show σ1 (wc 0 9) q = gK (ρ 88) q from V_gk hC1.1 hq]
        exact v_iret (I := iX9_goingIs) rfl dX9_goingIs_86 (by unfold goingIsS; rw [if_pos (by grind), hqc]; exact ⟨by simp [*], rfl, hC1, hF1⟩)
      by_cases s34_1 : w = 1
      · refine v_tabIn (I := iX9_goingIs) (tgt := 87) (off := 53) (v := 1) dX9_goingIs_34 s34_1 (by decide) (by decide) (by decide) (by decide) ?_
        refine v_aload_n (I := iX9_goingIs) dX9_goingIs_87 rfl ?_
        refine v_get (I := iX9_goingIs) g_X9_10 dX9_goingIs_88 (by decide) (ae_0 _ _) rfl ?_
        refine v_get (I := iX9_goingIs) g_X9_120 dX9_goingIs_91 (by decide) (ae_w0 (by decide) _ _) rfl ?_
        refine v_get (I := iX9_goingIs) g_X9_144 dX9_goingIs_94 (by decide) (ae_w8 (by decide) _ _) rfl ?_
        refine v_iload_n (I := iX9_goingIs) dX9_goingIs_97 rfl ?_
        refine v_callSi (I := iX9_goingIs) (I' := iX9_at) lk_X9_104 c_X9_at dX9_goingIs_98 (m_X9_at (by decide) (ae_w10 (by decide)) (by decide)) rfl rfl (by decide) (by decide) (Nat.le_of_ble_eq_true rfl) ?_
        rw [rdA_eq hqx hq (by decide), show σ1 (wc 0 10) q = gM (ρ 88) q from V_gm hC1.1 hq]
        exact v_iret (I := iX9_goingIs) rfl dX9_goingIs_101 (by unfold goingIsS; rw [if_pos (by grind), hqc]; exact ⟨by simp [*], rfl, hC1, hF1⟩)
      by_cases s34_2 : w = 2
      · refine v_tabIn (I := iX9_goingIs) (tgt := 102) (off := 68) (v := 2) dX9_goingIs_34 s34_2 (by decide) (by decide) (by decide) (by decide) ?_
        refine v_aload_n (I := iX9_goingIs) dX9_goingIs_102 rfl ?_
        refine v_get (I := iX9_goingIs) g_X9_10 dX9_goingIs_103 (by decide) (ae_0 _ _) rfl ?_
        refine v_get (I := iX9_goingIs) g_X9_120 dX9_goingIs_106 (by decide) (ae_w0 (by decide) _ _) rfl ?_
        refine v_get (I := iX9_goingIs) g_X9_147 dX9_goingIs_109 (by decide) (ae_w8 (by decide) _ _) rfl ?_
        refine v_iload_n (I := iX9_goingIs) dX9_goingIs_112 rfl ?_
        refine v_callSi (I := iX9_goingIs) (I' := iX9_at) lk_X9_104 c_X9_at dX9_goingIs_113 (m_X9_at (by decide) (ae_w11 (by decide)) (by decide)) rfl rfl (by decide) (by decide) (Nat.le_of_ble_eq_true rfl) ?_
        rw [rdA_eq hqx hq (by decide), show σ1 (wc 0 11) q = gTn (ρ 88) q from V_gt hC1.1 hq]
        exact v_iret (I := iX9_goingIs) rfl dX9_goingIs_116 (by unfold goingIsS; rw [if_pos (by grind), hqc]; exact ⟨by simp [*], rfl, hC1, hF1⟩)
      by_cases s34_3 : w = 3
      · refine v_tabIn (I := iX9_goingIs) (tgt := 117) (off := 83) (v := 3) dX9_goingIs_34 s34_3 (by decide) (by decide) (by decide) (by decide) ?_
        refine v_aload_n (I := iX9_goingIs) dX9_goingIs_117 rfl ?_
        refine v_get (I := iX9_goingIs) g_X9_150 dX9_goingIs_118 (by decide) (ae_w20 (by decide) _ _) rfl ?_
        rw [q0]
        exact v_iret (I := iX9_goingIs) rfl dX9_goingIs_121 (by unfold goingIsS; rw [if_pos (by grind), hqc]; exact ⟨by simp [*], rfl, hC1, hF1⟩)
      by_cases s34_4 : w = 4
      · refine v_tabIn (I := iX9_goingIs) (tgt := 122) (off := 88) (v := 4) dX9_goingIs_34 s34_4 (by decide) (by decide) (by decide) (by decide) ?_
        refine v_aload_n (I := iX9_goingIs) dX9_goingIs_122 rfl ?_
        refine v_get (I := iX9_goingIs) g_X9_155 dX9_goingIs_123 (by decide) (ae_w20 (by decide) _ _) rfl ?_
        rw [q1]
        exact v_iret (I := iX9_goingIs) rfl dX9_goingIs_126 (by unfold goingIsS; rw [if_pos (by grind), hqc]; exact ⟨by simp [*], rfl, hC1, hF1⟩)
      by_cases s34_5 : w = 5
      · refine v_tabIn (I := iX9_goingIs) (tgt := 127) (off := 93) (v := 5) dX9_goingIs_34 s34_5 (by decide) (by decide) (by decide) (by decide) ?_
        refine v_aload_n (I := iX9_goingIs) dX9_goingIs_127 rfl ?_
        refine v_get (I := iX9_goingIs) g_X9_158 dX9_goingIs_128 (by decide) (ae_w20 (by decide) _ _) rfl ?_
        rw [q2]
        exact v_iret (I := iX9_goingIs) rfl dX9_goingIs_131 (by unfold goingIsS; rw [if_pos (by grind), hqc]; exact ⟨by simp [*], rfl, hC1, hF1⟩)
      refine v_tabDef (I := iX9_goingIs) (tgt := 132) dX9_goingIs_34 (by decide) (fun off h1 h2 ho => ?_) (by decide) ?_
      · obtain ⟨j, hj, hjx⟩ := i32_rng (n := 6) h1 h2 (by decide)
        match j, hj with
        | 0, _ => exact absurd (hjx.trans (by decide)) s34_0
        | 1, _ => exact absurd (hjx.trans (by decide)) s34_1
        | 2, _ => exact absurd (hjx.trans (by decide)) s34_2
        | 3, _ => exact absurd (hjx.trans (by decide)) s34_3
        | 4, _ => exact absurd (hjx.trans (by decide)) s34_4
        | 5, _ => exact absurd (hjx.trans (by decide)) s34_5
        | j + 6, h => omega
      refine v_aload_n (I := iX9_goingIs) dX9_goingIs_132 rfl ?_
      refine v_get (I := iX9_goingIs) g_X9_161 dX9_goingIs_133 (by decide) (ae_w20 (by decide) _ _) rfl ?_
      rw [q3]
      exact v_iret (I := iX9_goingIs) rfl dX9_goingIs_136 (by unfold goingIsS; rw [if_pos (by grind), hqc]; exact ⟨by simp [*], rfl, hC1, hF1⟩)
    · refine v_aload_n (I := iX9_goingIs) dX9_goingIs_18 rfl ?_
      refine v_iconst (I := iX9_goingIs) (v := 1) dX9_goingIs_19 (by decide) ?_
      refine v_callVi (I := iX9_goingIs) (I' := iX9_refused) lk_X9_62 c_X9_refused dX9_goingIs_20 (m_X9_refused (e := 1) (by decide) (by decide) (by decide)) rfl rfl (by decide) (ae_0 _ _) rfl (by decide) (by decide) (Nat.le_of_ble_eq_true rfl) ?_
      exact v_iret (I := iX9_goingIs) rfl dX9_goingIs_23 (by unfold goingIsS; rw [if_neg (by grind)]; exact ⟨rfl, rfl, CR_err hC (by decide) (by decide), FC.up (by decide)⟩)
set_option maxRecDepth 100000 in
set_option maxHeartbeats 4000000 in
theorem m_X10_goingIs {G : fGm} {σ : fSt} {τ : fLt} {ρ : fSt} (hR : RR σ ρ) {h w : Int32} : MS G iX10_goingIs 5 [.ref 87, .int h, .int w] σ τ (rR τ σ (goingIsS ρ h w)) := by
  refine ms_of (by decide +kernel) (Nat.le_of_ble_eq_true rfl) ?_
  show VW _ _ _ _ _ _ 0 [(0, _), (1, _), (2, _)] []
  refine v_aload_n (I := iX10_goingIs) dX10_goingIs_0 rfl ?_
  refine v_iload_n (I := iX10_goingIs) dX10_goingIs_1 rfl ?_
  refine v_bipush (I := iX10_goingIs) (v := 15) dX10_goingIs_2 (by decide) ?_
  refine v_callVi (I := iX10_goingIs) (I' := iX10_isOf) lk_X10_113 c_X10_isOf dX10_goingIs_4 (m_X10_isOf (c := 15) (by decide) (by decide)) rfl rfl (by decide) (ae_87 _ _) rfl (by decide) (by decide) (Nat.le_of_ble_eq_true rfl) ?_
  rw [hR.1]
  refine v_if_neB (I := iX10_goingIs) (tgt := 17) dX10_goingIs_7 (by decide) (fun c7 => ?_) (fun c7 => ?_)
  · have hb9 := B_n15 hR.2.2.2.2.2.2.2.2.2.2.2.1.1
    obtain ⟨q, hq, hqx⟩ := nI8 (x := h) (by grind)
    have hqc : h.toNatClampNeg = q := by rw [hqx]; exact nI_clamp (by omega)
    refine v_iload_n (I := iX10_goingIs) dX10_goingIs_17 rfl ?_
    by_cases s18_0 : w = 0
    · refine v_tabIn (I := iX10_goingIs) (tgt := 60) (off := 42) (v := 0) dX10_goingIs_18 s18_0 (by decide) (by decide) (by decide) (by decide) ?_
      have hwf : w = nI w.toNatClampNeg := by first | (rw [s18_0]; rfl) | (rw [s18_1]; rfl) | (rw [s18_2]; rfl)
      have hwl : w.toNatClampNeg < 3 := by first | (rw [s18_0]; decide) | (rw [s18_1]; decide) | (rw [s18_2]; decide)
      have hwc : w.toNatClampNeg = 0 ∧ w = 0 ∨ w.toNatClampNeg = 1 ∧ w = 1 ∨ w.toNatClampNeg = 2 ∧ w = 2 := by first | exact Or.inl ⟨by rw [s18_0]; rfl, s18_0⟩ | exact Or.inr (Or.inl ⟨by rw [s18_1]; rfl, s18_1⟩) | exact Or.inr (Or.inr ⟨by rw [s18_2]; rfl, s18_2⟩)
      refine v_aload_n (I := iX10_goingIs) dX10_goingIs_60 rfl ?_
      refine v_iload_n (I := iX10_goingIs) dX10_goingIs_61 rfl ?_
      refine v_iload_n (I := iX10_goingIs) dX10_goingIs_62 rfl ?_
      refine v_callVi (I := iX10_goingIs) (I' := iX10_goingOf) lk_X10_125 c_X10_goingOf dX10_goingIs_63 (m_X10_goingOf (f := w.toNatClampNeg) hqx hq hwf hwl) rfl rfl (by decide) (ae_87 _ _) rfl (by decide) (by decide) (Nat.le_of_ble_eq_true rfl) ?_
      exact v_iret (I := iX10_goingIs) rfl dX10_goingIs_66 (by unfold goingIsS; rw [if_pos (by grind), hqc, hR.1]; exact ⟨by rcases hwc with ⟨e1, e2⟩ | ⟨e1, e2⟩ | ⟨e1, e2⟩ <;> (rw [e1, e2]; rfl), rfl, hR, FR.rf⟩)
    by_cases s18_1 : w = 1
    · refine v_tabIn (I := iX10_goingIs) (tgt := 60) (off := 42) (v := 1) dX10_goingIs_18 s18_1 (by decide) (by decide) (by decide) (by decide) ?_
      have hwf : w = nI w.toNatClampNeg := by first | (rw [s18_0]; rfl) | (rw [s18_1]; rfl) | (rw [s18_2]; rfl)
      have hwl : w.toNatClampNeg < 3 := by first | (rw [s18_0]; decide) | (rw [s18_1]; decide) | (rw [s18_2]; decide)
      have hwc : w.toNatClampNeg = 0 ∧ w = 0 ∨ w.toNatClampNeg = 1 ∧ w = 1 ∨ w.toNatClampNeg = 2 ∧ w = 2 := by first | exact Or.inl ⟨by rw [s18_0]; rfl, s18_0⟩ | exact Or.inr (Or.inl ⟨by rw [s18_1]; rfl, s18_1⟩) | exact Or.inr (Or.inr ⟨by rw [s18_2]; rfl, s18_2⟩)
      refine v_aload_n (I := iX10_goingIs) dX10_goingIs_60 rfl ?_
      refine v_iload_n (I := iX10_goingIs) dX10_goingIs_61 rfl ?_
      refine v_iload_n (I := iX10_goingIs) dX10_goingIs_62 rfl ?_
      refine v_callVi (I := iX10_goingIs) (I' := iX10_goingOf) lk_X10_125 c_X10_goingOf dX10_goingIs_63 (m_X10_goingOf (f := w.toNatClampNeg) hqx hq hwf hwl) rfl rfl (by decide) (ae_87 _ _) rfl (by decide) (by decide) (Nat.le_of_ble_eq_true rfl) ?_
      exact v_iret (I := iX10_goingIs) rfl dX10_goingIs_66 (by unfold goingIsS; rw [if_pos (by grind), hqc, hR.1]; exact ⟨by rcases hwc with ⟨e1, e2⟩ | ⟨e1, e2⟩ | ⟨e1, e2⟩ <;> (rw [e1, e2]; rfl), rfl, hR, FR.rf⟩)
    by_cases s18_2 : w = 2
    · refine v_tabIn (I := iX10_goingIs) (tgt := 60) (off := 42) (v := 2) dX10_goingIs_18 s18_2 (by decide) (by decide) (by decide) (by decide) ?_
      have hwf : w = nI w.toNatClampNeg := by first | (rw [s18_0]; rfl) | (rw [s18_1]; rfl) | (rw [s18_2]; rfl)
      have hwl : w.toNatClampNeg < 3 := by first | (rw [s18_0]; decide) | (rw [s18_1]; decide) | (rw [s18_2]; decide)
      have hwc : w.toNatClampNeg = 0 ∧ w = 0 ∨ w.toNatClampNeg = 1 ∧ w = 1 ∨ w.toNatClampNeg = 2 ∧ w = 2 := by first | exact Or.inl ⟨by rw [s18_0]; rfl, s18_0⟩ | exact Or.inr (Or.inl ⟨by rw [s18_1]; rfl, s18_1⟩) | exact Or.inr (Or.inr ⟨by rw [s18_2]; rfl, s18_2⟩)
      refine v_aload_n (I := iX10_goingIs) dX10_goingIs_60 rfl ?_
      refine v_iload_n (I := iX10_goingIs) dX10_goingIs_61 rfl ?_
      refine v_iload_n (I := iX10_goingIs) dX10_goingIs_62 rfl ?_
      refine v_callVi (I := iX10_goingIs) (I' := iX10_goingOf) lk_X10_125 c_X10_goingOf dX10_goingIs_63 (m_X10_goingOf (f := w.toNatClampNeg) hqx hq hwf hwl) rfl rfl (by decide) (ae_87 _ _) rfl (by decide) (by decide) (Nat.le_of_ble_eq_true rfl) ?_
      exact v_iret (I := iX10_goingIs) rfl dX10_goingIs_66 (by unfold goingIsS; rw [if_pos (by grind), hqc, hR.1]; exact ⟨by rcases hwc with ⟨e1, e2⟩ | ⟨e1, e2⟩ | ⟨e1, e2⟩ <;> (rw [e1, e2]; rfl), rfl, hR, FR.rf⟩)
    by_cases s18_3 : w = 3
    · refine v_tabIn (I := iX10_goingIs) (tgt := 67) (off := 49) (v := 3) dX10_goingIs_18 s18_3 (by decide) (by decide) (by decide) (by decide) ?_
      refine v_aload_n (I := iX10_goingIs) dX10_goingIs_67 rfl ?_
      refine v_iload_n (I := iX10_goingIs) dX10_goingIs_68 rfl ?_
      refine v_callVi (I := iX10_goingIs) (I' := iX10_swaysOf) lk_X10_143 c_X10_swaysOf dX10_goingIs_69 (m_X10_swaysOf (by rw [hR.1]; exact hR.2.2.2.2.2.2.2.2.2.2.2.1.1) hqx hq) rfl rfl (by decide) (ae_87 _ _) rfl (by decide) (by decide) (Nat.le_of_ble_eq_true rfl) ?_
      exact v_iret (I := iX10_goingIs) rfl dX10_goingIs_72 (by unfold goingIsS; rw [if_pos (by grind), hqc, hR.1]; exact ⟨by rw [s18_3]; rfl, rfl, hR, FR.rf⟩)
    by_cases s18_4 : w = 4
    · refine v_tabIn (I := iX10_goingIs) (tgt := 73) (off := 55) (v := 4) dX10_goingIs_18 s18_4 (by decide) (by decide) (by decide) (by decide) ?_
      refine v_aload_n (I := iX10_goingIs) dX10_goingIs_73 rfl ?_
      refine v_iload_n (I := iX10_goingIs) dX10_goingIs_74 rfl ?_
      refine v_callVi (I := iX10_goingIs) (I' := iX10_strideOf) lk_X10_146 c_X10_strideOf dX10_goingIs_75 (m_X10_strideOf (by rw [hR.1]; exact hR.2.2.2.2.2.2.2.2.2.2.2.1.1) hqx hq) rfl rfl (by decide) (ae_87 _ _) rfl (by decide) (by decide) (Nat.le_of_ble_eq_true rfl) ?_
      exact v_iret (I := iX10_goingIs) rfl dX10_goingIs_78 (by unfold goingIsS; rw [if_pos (by grind), hqc, hR.1]; exact ⟨by rw [s18_4]; rfl, rfl, hR, FR.rf⟩)
    by_cases s18_5 : w = 5
    · refine v_tabIn (I := iX10_goingIs) (tgt := 79) (off := 61) (v := 5) dX10_goingIs_18 s18_5 (by decide) (by decide) (by decide) (by decide) ?_
      refine v_aload_n (I := iX10_goingIs) dX10_goingIs_79 rfl ?_
      refine v_iload_n (I := iX10_goingIs) dX10_goingIs_80 rfl ?_
      refine v_callVi (I := iX10_goingIs) (I' := iX10_paceOf) lk_X10_149 c_X10_paceOf dX10_goingIs_81 (m_X10_paceOf (by rw [hR.1]; exact hR.2.2.2.2.2.2.2.2.2.2.2.1.1) hqx hq) rfl rfl (by decide) (ae_87 _ _) rfl (by decide) (by decide) (Nat.le_of_ble_eq_true rfl) ?_
      exact v_iret (I := iX10_goingIs) rfl dX10_goingIs_84 (by unfold goingIsS; rw [if_pos (by grind), hqc, hR.1]; exact ⟨by rw [s18_5]; rfl, rfl, hR, FR.rf⟩)
    by_cases s18_6 : w = 6
    · refine v_tabIn (I := iX10_goingIs) (tgt := 85) (off := 67) (v := 6) dX10_goingIs_18 s18_6 (by decide) (by decide) (by decide) (by decide) ?_
      refine v_aload_n (I := iX10_goingIs) dX10_goingIs_85 rfl ?_
      refine v_iload_n (I := iX10_goingIs) dX10_goingIs_86 rfl ?_
      refine v_callVi (I := iX10_goingIs) (I' := iX10_catchOf) lk_X10_152 c_X10_catchOf dX10_goingIs_87 (m_X10_catchOf (by rw [hR.1]; exact hR.2.2.2.2.2.2.2.2.2.2.2.1.1) hqx hq) rfl rfl (by decide) (ae_87 _ _) rfl (by decide) (by decide) (Nat.le_of_ble_eq_true rfl) ?_
      exact v_iret (I := iX10_goingIs) rfl dX10_goingIs_90 (by unfold goingIsS; rw [if_pos (by grind), hqc, hR.1]; exact ⟨by rw [s18_6]; rfl, rfl, hR, FR.rf⟩)
    refine v_tabDef (I := iX10_goingIs) (tgt := 91) dX10_goingIs_18 (by decide) (fun off h1 h2 ho => ?_) (by decide) ?_
    · obtain ⟨j, hj, hjx⟩ := i32_rng (n := 7) h1 h2 (by decide)
      match j, hj with
      | 0, _ => exact absurd (hjx.trans (by decide)) s18_0
      | 1, _ => exact absurd (hjx.trans (by decide)) s18_1
      | 2, _ => exact absurd (hjx.trans (by decide)) s18_2
      | 3, _ => exact absurd (hjx.trans (by decide)) s18_3
      | 4, _ => exact absurd (hjx.trans (by decide)) s18_4
      | 5, _ => exact absurd (hjx.trans (by decide)) s18_5
      | 6, _ => exact absurd (hjx.trans (by decide)) s18_6
      | j + 7, h => omega
    refine v_aload_n (I := iX10_goingIs) dX10_goingIs_91 rfl ?_
    refine v_ldc (I := iX10_goingIs) k_X10_91 dX10_goingIs_92 ?_
    refine v_callVi (I := iX10_goingIs) (I' := iX10_finding) lk_X10_92 c_X10_finding dX10_goingIs_94 (m_X10_findE (e := 1) (by decide) (by decide)) rfl rfl (by decide) (ae_87 _ _) rfl (by decide) (by decide) (Nat.le_of_ble_eq_true rfl) ?_
    exact v_iret (I := iX10_goingIs) rfl dX10_goingIs_97 (by unfold goingIsS; rw [if_neg (by grind)]; exact ⟨rfl, rfl, RR_err hR, FR.up (by decide)⟩)
  · refine v_aload_n (I := iX10_goingIs) dX10_goingIs_10 rfl ?_
    refine v_ldc (I := iX10_goingIs) k_X10_91 dX10_goingIs_11 ?_
    refine v_callVi (I := iX10_goingIs) (I' := iX10_finding) lk_X10_92 c_X10_finding dX10_goingIs_13 (m_X10_findE (e := 1) (by decide) (by decide)) rfl rfl (by decide) (ae_87 _ _) rfl (by decide) (by decide) (Nat.le_of_ble_eq_true rfl) ?_
    exact v_iret (I := iX10_goingIs) rfl dX10_goingIs_16 (by unfold goingIsS; rw [if_neg (fun h9 => c7 h9.1)]; exact ⟨rfl, rfl, RR_err hR, FR.up (by decide)⟩)
def und : Nat → Int32 → Int32 → Bool
  | 0, _, _ => false
  | n + 1, k, t => if k < 0 then false else if k = t then true else und n ((sTb 3).getD k.toNatClampNeg 0) t
def asS (ρ : fSt) (h t : Int32) : Int32 × fSt := if (0 ≤ h ∧ h ≤ ρ 88 15 - 1) ∧ 0 ≤ t ∧ t ≤ 6 then (if und 7 (gK (ρ 88) h.toNatClampNeg) t = true then (gM (ρ 88) h.toNatClampNeg, ρ) else (errV 5, errS ρ 5)) else (errV 1, errS ρ 1)
def kOK (k : Int32) : Prop := -1 ≤ k ∧ k ≤ 6
theorem abv_in {k : Int32} (h : 0 ≤ k ∧ k ≤ 6) : rdA (sTb 3).length (fun q => (sTb 3).getD q 0) k = (sTb 3).getD k.toNatClampNeg 0 ∧ kOK ((sTb 3).getD k.toNatClampNeg 0) := by
  obtain ⟨j, hj, rfl⟩ := in2_nI (x := k) (n := 7) (by decide) ⟨h.1, by have := h.2; show k < 7; grind⟩
  rw [nI_clamp (by omega)]
  refine ⟨rdA_eq rfl hj (by decide), ?_⟩
  rcases (show j = 0 ∨ j = 1 ∨ j = 2 ∨ j = 3 ∨ j = 4 ∨ j = 5 ∨ j = 6 by omega) with rfl | rfl | rfl | rfl | rfl | rfl | rfl <;> exact ⟨by decide, by decide⟩
set_option maxRecDepth 100000 in
set_option maxHeartbeats 8000000 in
theorem m_X9_as {G : fGm} {σ : fSt} {τ : fLt} {ρ : fSt} (hC : CR σ ρ) {h t : Int32} : MS G iX9_as 2 [.ref 0, .int h, .int t] σ τ (rC τ σ (asS ρ h t)) := by
  refine ms_of (by decide +kernel) (Nat.le_of_ble_eq_true rfl) ?_
  show VW _ _ _ _ _ _ 0 [(0, _), (1, _), (2, _)] []
  refine v_aload_n (I := iX9_as) dX9_as_0 rfl ?_
  refine v_iload_n (I := iX9_as) dX9_as_1 rfl ?_
  refine v_callVi (I := iX9_as) (I' := iX9_isGoing) lk_X9_134 c_X9_isGoing dX9_as_2 (m_X9_isGoing hC.1) rfl rfl (by decide) (ae_0 _ _) rfl (by decide) (by decide) (Nat.le_of_ble_eq_true rfl) ?_
  refine v_if_eqB (I := iX9_as) (tgt := 18) dX9_as_5 (by decide) (fun c5 => ?_) (fun c5 => ?_)
  · refine v_aload_n (I := iX9_as) dX9_as_18 rfl ?_
    refine v_iconst (I := iX9_as) (v := 1) dX9_as_19 (by decide) ?_
    refine v_callVi (I := iX9_as) (I' := iX9_refused) lk_X9_62 c_X9_refused dX9_as_20 (m_X9_refused (e := 1) (by decide) (by decide) (by decide)) rfl rfl (by decide) (ae_0 _ _) rfl (by decide) (by decide) (Nat.le_of_ble_eq_true rfl) ?_
    exact v_iret (I := iX9_as) rfl dX9_as_23 (by unfold asS; rw [if_neg (by grind)]; exact ⟨rfl, rfl, CR_err hC (by decide) (by decide), FC.up (by decide)⟩)
  · refine v_iload_n (I := iX9_as) dX9_as_8 rfl ?_
    refine v_iconst (I := iX9_as) (v := 0) dX9_as_9 (by decide) ?_
    refine v_bipush (I := iX9_as) (v := 6) dX9_as_10 (by decide) ?_
    refine v_callSi (I := iX9_as) (I' := iX9_within) lk_X9_58 c_X9_within dX9_as_12 (m_X9_within) rfl rfl (by decide) (by decide) (Nat.le_of_ble_eq_true rfl) ?_
    refine v_if_neB (I := iX9_as) (tgt := 24) dX9_as_15 (by decide) (fun c15 => ?_) (fun c15 => ?_)
    · have hb9 := B_n15 hC.2.2.2.2.2.1.1
      obtain ⟨q, hq, hqx⟩ := nI8 (x := h) (by grind)
      have hqc : h.toNatClampNeg = q := by rw [hqx]; exact nI_clamp (by omega)
      have hgood : (0 ≤ h ∧ h ≤ ρ 88 15 - 1) ∧ 0 ≤ t ∧ t ≤ 6 := by grind
      have key : ∀ (m i : Nat) {o x : Int32}, i + m = 7 → kOK o → und m o t = und 7 (gK (ρ 88) q) t → x = nI i → VW G iX9_as (rC τ σ (asS ρ h t)) 2 σ τ 42 [(4, .int x), (3, .int o), (0, .ref 0), (1, .int h), (2, .int t)] [] := by
        intro m
        induction m with
        | zero =>
          intro i o x him ho hu hx
          show VW _ _ _ _ _ _ 42 [(4, _), (3, _), (0, _), (1, _), (2, _)] []
          refine v_iload (I := iX9_as) dX9_as_42 rfl ?_
          refine v_bipush (I := iX9_as) (v := 7) dX9_as_44 (by decide) ?_
          refine v_icmp_ge (I := iX9_as) (tgt := 87) dX9_as_46 (by decide) (fun c46 => ?_) (fun c46 => ?_)
          · refine v_aload_n (I := iX9_as) dX9_as_87 rfl ?_
            refine v_iconst (I := iX9_as) (v := 5) dX9_as_88 (by decide) ?_
            refine v_callVi (I := iX9_as) (I' := iX9_refused) lk_X9_62 c_X9_refused dX9_as_89 (m_X9_refused (e := 5) (by decide) (by decide) (by decide)) rfl rfl (by decide) (ae_0 _ _) rfl (by decide) (by decide) (Nat.le_of_ble_eq_true rfl) ?_
            exact v_iret (I := iX9_as) rfl dX9_as_92 (by unfold asS; rw [if_pos hgood, hqc, if_neg (by rw [← hu]; exact Bool.false_ne_true)]; exact ⟨rfl, rfl, CR_err hC (by decide) (by decide), FC.up (by decide)⟩)
          · exact absurd (by rw [hx]; exact nI_le (a := 7) (by omega) (by omega)) c46
        | succ m ih =>
          intro i o x him ho hu hx
          show VW _ _ _ _ _ _ 42 [(4, _), (3, _), (0, _), (1, _), (2, _)] []
          refine v_iload (I := iX9_as) dX9_as_42 rfl ?_
          refine v_bipush (I := iX9_as) (v := 7) dX9_as_44 (by decide) ?_
          refine v_icmp_ge (I := iX9_as) (tgt := 87) dX9_as_46 (by decide) (fun c46 => ?_) (fun c46 => ?_)
          · exact absurd c46 (by rw [hx]; exact nI_ge (b := 7) (by omega) (by decide))
          · refine v_iload_n (I := iX9_as) dX9_as_49 rfl ?_
            refine v_if_lt (I := iX9_as) (tgt := 87) dX9_as_50 (by decide) (fun c50 => ?_) (fun c50 => ?_)
            · refine v_aload_n (I := iX9_as) dX9_as_87 rfl ?_
              refine v_iconst (I := iX9_as) (v := 5) dX9_as_88 (by decide) ?_
              refine v_callVi (I := iX9_as) (I' := iX9_refused) lk_X9_62 c_X9_refused dX9_as_89 (m_X9_refused (e := 5) (by decide) (by decide) (by decide)) rfl rfl (by decide) (ae_0 _ _) rfl (by decide) (by decide) (Nat.le_of_ble_eq_true rfl) ?_
              exact v_iret (I := iX9_as) rfl dX9_as_92 (by unfold asS; rw [if_pos hgood, hqc, if_neg (by rw [← hu]; unfold und; rw [if_pos c50]; exact Bool.false_ne_true)]; exact ⟨rfl, rfl, CR_err hC (by decide) (by decide), FC.up (by decide)⟩)
            · have habv := abv_in (k := o) (by have := ho.2; grind)
              refine v_iload_n (I := iX9_as) dX9_as_53 rfl ?_
              refine v_iload_n (I := iX9_as) dX9_as_54 rfl ?_
              refine v_icmp_ne (I := iX9_as) (tgt := 73) dX9_as_55 (by decide) (fun c55 => ?_) (fun c55 => ?_)
              · refine v_gets (I := iX9_as) (i := 3) (by decide) fl_X9_164 dX9_as_73 ?_
                refine v_iload_n (I := iX9_as) dX9_as_76 rfl ?_
                refine v_callSi (I := iX9_as) (I' := iX9_at) lk_X9_104 c_X9_at dX9_as_77 (m_X9_at_tab (j := 3) (by decide)) rfl rfl (by decide) (by decide) (Nat.le_of_ble_eq_true rfl) ?_
                rw [habv.1]
                refine v_istore_n (I := iX9_as) (ls1 := [(3, _), (4, _), (0, _), (1, _), (2, _)]) dX9_as_80 (by decide) rfl ?_
                refine v_iinc (I := iX9_as) (ls1 := [(4, _), (3, _), (0, _), (1, _), (2, _)]) dX9_as_81 rfl rfl (by decide) rfl ?_
                refine v_goto (I := iX9_as) (tgt := 42) dX9_as_84 (by decide) ?_
                refine v_pick (I := iX9_as) (ls1 := [(4, _), (3, _), (0, _), (1, _), (2, _)]) [0, 1, 2, 3, 4] rfl ?_
                exact ih (i + 1) (by omega) habv.2 (by rw [← hu]; show und m _ _ = und (m + 1) o t; conv => rhs; unfold und; rw [if_neg c50, if_neg c55]) (by rw [hx]; exact nI_1 i)
              · refine v_aload_n (I := iX9_as) dX9_as_58 rfl ?_
                refine v_get (I := iX9_as) g_X9_10 dX9_as_59 (by decide) (ae_0 _ _) rfl ?_
                refine v_get (I := iX9_as) g_X9_120 dX9_as_62 (by decide) (ae_w0 (by decide) _ _) rfl ?_
                refine v_get (I := iX9_as) g_X9_144 dX9_as_65 (by decide) (ae_w8 (by decide) _ _) rfl ?_
                refine v_iload_n (I := iX9_as) dX9_as_68 rfl ?_
                refine v_callSi (I := iX9_as) (I' := iX9_at) lk_X9_104 c_X9_at dX9_as_69 (m_X9_at (by decide) (ae_w10 (by decide)) (by decide)) rfl rfl (by decide) (by decide) (Nat.le_of_ble_eq_true rfl) ?_
                rw [rdA_eq hqx hq (by decide), show σ (wc 0 10) q = gM (ρ 88) q from V_gm hC.1 hq]
                exact v_iret (I := iX9_as) rfl dX9_as_72 (by unfold asS; rw [if_pos hgood, hqc, if_pos (by rw [← hu]; unfold und; rw [if_neg c50, if_pos c55])]; exact ⟨rfl, rfl, hC, FC.rf⟩)
      refine v_aload_n (I := iX9_as) dX9_as_24 rfl ?_
      refine v_get (I := iX9_as) g_X9_10 dX9_as_25 (by decide) (ae_0 _ _) rfl ?_
      refine v_get (I := iX9_as) g_X9_120 dX9_as_28 (by decide) (ae_w0 (by decide) _ _) rfl ?_
      refine v_get (I := iX9_as) g_X9_141 dX9_as_31 (by decide) (ae_w8 (by decide) _ _) rfl ?_
      refine v_iload_n (I := iX9_as) dX9_as_34 rfl ?_
      refine v_callSi (I := iX9_as) (I' := iX9_at) lk_X9_104 c_X9_at dX9_as_35 (m_X9_at (by decide) (ae_w9 (by decide)) (by decide)) rfl rfl (by decide) (by decide) (Nat.le_of_ble_eq_true rfl) ?_
      rw [rdA_eq hqx hq (by decide), show σ (wc 0 9) q = gK (ρ 88) q from V_gk hC.1 hq]
      refine v_istore_n (I := iX9_as) (ls1 := [(3, _), (0, _), (1, _), (2, _)]) dX9_as_38 (by decide) rfl ?_
      refine v_iconst (I := iX9_as) (v := 0) dX9_as_39 (by decide) ?_
      refine v_istore (I := iX9_as) (ls1 := [(4, _), (3, _), (0, _), (1, _), (2, _)]) dX9_as_40 (by decide) rfl ?_
      exact key 7 0 rfl (by have h9 := kind_in hC.2.2.2.2.2.1.1 hq; exact ⟨by have := h9.1; grind, h9.2⟩) rfl rfl
    · refine v_aload_n (I := iX9_as) dX9_as_18 rfl ?_
      refine v_iconst (I := iX9_as) (v := 1) dX9_as_19 (by decide) ?_
      refine v_callVi (I := iX9_as) (I' := iX9_refused) lk_X9_62 c_X9_refused dX9_as_20 (m_X9_refused (e := 1) (by decide) (by decide) (by decide)) rfl rfl (by decide) (ae_0 _ _) rfl (by decide) (by decide) (Nat.le_of_ble_eq_true rfl) ?_
      exact v_iret (I := iX9_as) rfl dX9_as_23 (by unfold asS; rw [if_neg (by grind)]; exact ⟨rfl, rfl, CR_err hC (by decide) (by decide), FC.up (by decide)⟩)
set_option maxRecDepth 100000 in
set_option maxHeartbeats 4000000 in
theorem m_X10_above {G : fGm} {σ : fSt} {τ : fLt} {k : Int32} (hk : 0 ≤ k ∧ k ≤ 6) : MS G iX10_above 0 [.int k] σ τ (rT (some (.int ((sTb 3).getD k.toNatClampNeg 0))) σ τ) := by
  refine ms_of (by decide +kernel) (Nat.le_of_ble_eq_true rfl) ?_
  show VW _ _ _ _ _ _ 0 [(0, _)] []
  have hv : k = 0 ∨ k = 1 ∨ k = 2 ∨ k = 3 ∨ k = 4 ∨ k = 5 ∨ k = 6 := by grind
  refine v_iload_n (I := iX10_above) dX10_above_0 rfl ?_
  refine v_if_ne (I := iX10_above) (tgt := 8) dX10_above_1 (by decide) (fun c1 => ?_) (fun c1 => ?_)
  · refine v_iload_n (I := iX10_above) dX10_above_8 rfl ?_
    refine v_iconst (I := iX10_above) (v := 2) dX10_above_9 (by decide) ?_
    refine v_icmp_ne (I := iX10_above) (tgt := 17) dX10_above_10 (by decide) (fun c10 => ?_) (fun c10 => ?_)
    · refine v_iload_n (I := iX10_above) dX10_above_17 rfl ?_
      refine v_iconst (I := iX10_above) (v := 4) dX10_above_18 (by decide) ?_
      refine v_icmp_eq (I := iX10_above) (tgt := 27) dX10_above_19 (by decide) (fun c19 => ?_) (fun c19 => ?_)
      · refine v_iconst (I := iX10_above) (v := 3) dX10_above_27 (by decide) ?_
        refine v_goto (I := iX10_above) (tgt := 32) dX10_above_28 (by decide) ?_
        exact v_iret (I := iX10_above) rfl dX10_above_32 ⟨by rcases hv with rfl | rfl | rfl | rfl | rfl | rfl | rfl <;> first | rfl | (exfalso; revert c1; decide) | (exfalso; grind), rfl, rfl⟩
      · refine v_iload_n (I := iX10_above) dX10_above_22 rfl ?_
        refine v_iconst (I := iX10_above) (v := 5) dX10_above_23 (by decide) ?_
        refine v_icmp_ne (I := iX10_above) (tgt := 31) dX10_above_24 (by decide) (fun c24 => ?_) (fun c24 => ?_)
        · refine v_iconst (I := iX10_above) (v := 0) dX10_above_31 (by decide) ?_
          exact v_iret (I := iX10_above) rfl dX10_above_32 ⟨by rcases hv with rfl | rfl | rfl | rfl | rfl | rfl | rfl <;> first | rfl | (exfalso; revert c1; decide) | (exfalso; grind), rfl, rfl⟩
        · refine v_iconst (I := iX10_above) (v := 3) dX10_above_27 (by decide) ?_
          refine v_goto (I := iX10_above) (tgt := 32) dX10_above_28 (by decide) ?_
          exact v_iret (I := iX10_above) rfl dX10_above_32 ⟨by rcases hv with rfl | rfl | rfl | rfl | rfl | rfl | rfl <;> first | rfl | (exfalso; revert c1; decide) | (exfalso; grind), rfl, rfl⟩
    · refine v_iconst (I := iX10_above) (v := 1) dX10_above_13 (by decide) ?_
      refine v_goto (I := iX10_above) (tgt := 32) dX10_above_14 (by decide) ?_
      exact v_iret (I := iX10_above) rfl dX10_above_32 ⟨by rcases hv with rfl | rfl | rfl | rfl | rfl | rfl | rfl <;> first | rfl | (exfalso; revert c1; decide) | (exfalso; grind), rfl, rfl⟩
  · refine v_iconst (I := iX10_above) (v := -1) dX10_above_4 (by decide) ?_
    refine v_goto (I := iX10_above) (tgt := 32) dX10_above_5 (by decide) ?_
    exact v_iret (I := iX10_above) rfl dX10_above_32 ⟨by rcases hv with rfl | rfl | rfl | rfl | rfl | rfl | rfl <;> first | rfl | (exfalso; revert c1; decide) | (exfalso; grind), rfl, rfl⟩
theorem und_st : ∀ j, j < 7 → ∀ t : Int32, und 4 (nI j) t = und 7 (nI j) t := by
  intro j hj t
  rcases (show j = 0 ∨ j = 1 ∨ j = 2 ∨ j = 3 ∨ j = 4 ∨ j = 5 ∨ j = 6 by omega) with rfl | rfl | rfl | rfl | rfl | rfl | rfl <;> rfl
theorem und_fin : ∀ j, j < 7 → (sTb 3).getD j 0 < 0 ∨ (sTb 3).getD ((sTb 3).getD j 0).toNatClampNeg 0 < 0 ∨ (sTb 3).getD ((sTb 3).getD ((sTb 3).getD j 0).toNatClampNeg 0).toNatClampNeg 0 < 0 := by decide
/-- how far a kind is from the end of its chain -/
def dep : Nat → Int32 → Prop
  | 0, _ => False
  | n + 1, k => k < 0 ∨ dep n ((sTb 3).getD k.toNatClampNeg 0)
theorem dep4 {k : Int32} (h : 0 ≤ k ∧ k ≤ 6) : dep 4 k := by
  obtain ⟨j, hj, rfl⟩ := in2_nI (x := k) (n := 7) (by decide) ⟨h.1, by have := h.2; show k < 7; grind⟩
  rcases und_fin j hj with h1 | h1 | h1
  · exact Or.inr (Or.inl (by rw [nI_clamp (by omega)]; exact h1))
  · exact Or.inr (Or.inr (Or.inl (by rw [nI_clamp (by omega)]; exact h1)))
  · exact Or.inr (Or.inr (Or.inr (Or.inl (by rw [nI_clamp (by omega)]; exact h1))))
theorem und_mono {t : Int32} : ∀ (n : Nat) {k : Int32}, dep n k → ∀ m, und n k t = und (n + m) k t := by
  intro n
  induction n with
  | zero => intro k h; exact absurd h (fun h => h)
  | succ n ih =>
    intro k h m
    rw [Nat.add_right_comm]
    unfold und
    split
    · rfl
    · split
      · rfl
      · rcases h with h | h
        · contradiction
        · exact ih h m
set_option maxRecDepth 100000 in
set_option maxHeartbeats 8000000 in
theorem m_X10_as {G : fGm} {σ : fSt} {τ : fLt} {ρ : fSt} (hR : RR σ ρ) {h t : Int32} : MS G iX10_as 2 [.ref 87, .int h, .int t] σ τ (rR τ σ (asS ρ h t)) := by
  refine ms_of (by decide +kernel) (Nat.le_of_ble_eq_true rfl) ?_
  show VW _ _ _ _ _ _ 0 [(0, _), (1, _), (2, _)] []
  refine v_aload_n (I := iX10_as) dX10_as_0 rfl ?_
  refine v_iload_n (I := iX10_as) dX10_as_1 rfl ?_
  refine v_bipush (I := iX10_as) (v := 15) dX10_as_2 (by decide) ?_
  refine v_callVi (I := iX10_as) (I' := iX10_isOf) lk_X10_113 c_X10_isOf dX10_as_4 (m_X10_isOf (c := 15) (by decide) (by decide)) rfl rfl (by decide) (ae_87 _ _) rfl (by decide) (by decide) (Nat.le_of_ble_eq_true rfl) ?_
  rw [hR.1]
  refine v_if_eqB (I := iX10_as) (tgt := 20) dX10_as_7 (by decide) (fun c7 => ?_) (fun c7 => ?_)
  · refine v_aload_n (I := iX10_as) dX10_as_20 rfl ?_
    refine v_ldc (I := iX10_as) k_X10_91 dX10_as_21 ?_
    refine v_callVi (I := iX10_as) (I' := iX10_finding) lk_X10_92 c_X10_finding dX10_as_23 (m_X10_findE (e := 1) (by decide) (by decide)) rfl rfl (by decide) (ae_87 _ _) rfl (by decide) (by decide) (Nat.le_of_ble_eq_true rfl) ?_
    exact v_iret (I := iX10_as) rfl dX10_as_26 (by unfold asS; rw [if_neg (by grind)]; exact ⟨rfl, rfl, RR_err hR, FR.up (by decide)⟩)
  · refine v_iload_n (I := iX10_as) dX10_as_10 rfl ?_
    refine v_iconst (I := iX10_as) (v := 0) dX10_as_11 (by decide) ?_
    refine v_bipush (I := iX10_as) (v := 6) dX10_as_12 (by decide) ?_
    refine v_callSi (I := iX10_as) (I' := iX10_within) lk_X10_79 c_X10_within dX10_as_14 (m_X10_within) rfl rfl (by decide) (by decide) (Nat.le_of_ble_eq_true rfl) ?_
    refine v_if_neB (I := iX10_as) (tgt := 27) dX10_as_17 (by decide) (fun c17 => ?_) (fun c17 => ?_)
    · have hb9 := B_n15 hR.2.2.2.2.2.2.2.2.2.2.2.1.1
      obtain ⟨q, hq, hqx⟩ := nI8 (x := h) (by grind)
      have hqc : h.toNatClampNeg = q := by rw [hqx]; exact nI_clamp (by omega)
      have hk9 := kind_in hR.2.2.2.2.2.2.2.2.2.2.2.1.1 hq
      have hgood : (0 ≤ h ∧ h ≤ ρ 88 15 - 1) ∧ 0 ≤ t ∧ t ≤ 6 := by grind
      have key : ∀ (m : Nat) {o : Int32}, dep m o → kOK o → und m o t = und 7 (gK (ρ 88) q) t → VW G iX10_as (rR τ σ (asS ρ h t)) 2 σ τ 34 [(3, .int o), (0, .ref 87), (1, .int h), (2, .int t)] [] := by
        intro m
        induction m with
        | zero => intro o hd; exact absurd hd (fun h => h)
        | succ m ih =>
          intro o hd ho hu
          show VW _ _ _ _ _ _ 34 [(3, _), (0, _), (1, _), (2, _)] []
          refine v_iload_n (I := iX10_as) dX10_as_34 rfl ?_
          refine v_if_lt (I := iX10_as) (tgt := 51) dX10_as_35 (by decide) (fun c35 => ?_) (fun c35 => ?_)
          · refine v_iload_n (I := iX10_as) dX10_as_51 rfl ?_
            refine v_if_ge (I := iX10_as) (tgt := 64) dX10_as_52 (by decide) (fun c52 => ?_) (fun c52 => ?_)
            · refine v_aload_n (I := iX10_as) dX10_as_64 rfl ?_
              refine v_iload_n (I := iX10_as) dX10_as_65 rfl ?_
              refine v_iconst (I := iX10_as) (v := 1) dX10_as_66 (by decide) ?_
              refine v_callVi (I := iX10_as) (I' := iX10_goingOf) lk_X10_125 c_X10_goingOf dX10_as_67 (m_X10_goingOf (f := 1) hqx hq (by decide) (by decide)) rfl rfl (by decide) (ae_87 _ _) rfl (by decide) (by decide) (Nat.le_of_ble_eq_true rfl) ?_
              exact v_iret (I := iX10_as) rfl dX10_as_70 (by
            unfold asS
            rw [if_pos hgood, hqc]
            first
            | (rw [if_pos (by rw [← hu]; unfold und; rw [if_neg c35, if_pos c40]), hR.1]; exact ⟨rfl, rfl, hR, FR.rf⟩)
            | (rw [if_neg (by rw [← hu]; unfold und; rw [if_pos c35]; exact Bool.false_ne_true)]; exact ⟨rfl, rfl, RR_err hR, FR.up (by decide)⟩)
            | (exfalso; grind))
            · refine v_aload_n (I := iX10_as) dX10_as_55 rfl ?_
              refine v_ldc (I := iX10_as) k_X10_158 dX10_as_56 ?_
              refine v_callVi (I := iX10_as) (I' := iX10_finding) lk_X10_92 c_X10_finding dX10_as_58 (m_X10_findE (e := 5) (by decide) (by decide)) rfl rfl (by decide) (ae_87 _ _) rfl (by decide) (by decide) (Nat.le_of_ble_eq_true rfl) ?_
              refine v_goto (I := iX10_as) (tgt := 70) dX10_as_61 (by decide) ?_
              exact v_iret (I := iX10_as) rfl dX10_as_70 (by
            unfold asS
            rw [if_pos hgood, hqc]
            first
            | (rw [if_pos (by rw [← hu]; unfold und; rw [if_neg c35, if_pos c40]), hR.1]; exact ⟨rfl, rfl, hR, FR.rf⟩)
            | (rw [if_neg (by rw [← hu]; unfold und; rw [if_pos c35]; exact Bool.false_ne_true)]; exact ⟨rfl, rfl, RR_err hR, FR.up (by decide)⟩)
            | (exfalso; grind))
          · have habv := abv_in (k := o) (by have := ho.2; grind)
            refine v_iload_n (I := iX10_as) dX10_as_38 rfl ?_
            refine v_iload_n (I := iX10_as) dX10_as_39 rfl ?_
            refine v_icmp_eq (I := iX10_as) (tgt := 51) dX10_as_40 (by decide) (fun c40 => ?_) (fun c40 => ?_)
            · refine v_iload_n (I := iX10_as) dX10_as_51 rfl ?_
              refine v_if_ge (I := iX10_as) (tgt := 64) dX10_as_52 (by decide) (fun c52 => ?_) (fun c52 => ?_)
              · refine v_aload_n (I := iX10_as) dX10_as_64 rfl ?_
                refine v_iload_n (I := iX10_as) dX10_as_65 rfl ?_
                refine v_iconst (I := iX10_as) (v := 1) dX10_as_66 (by decide) ?_
                refine v_callVi (I := iX10_as) (I' := iX10_goingOf) lk_X10_125 c_X10_goingOf dX10_as_67 (m_X10_goingOf (f := 1) hqx hq (by decide) (by decide)) rfl rfl (by decide) (ae_87 _ _) rfl (by decide) (by decide) (Nat.le_of_ble_eq_true rfl) ?_
                exact v_iret (I := iX10_as) rfl dX10_as_70 (by
            unfold asS
            rw [if_pos hgood, hqc]
            first
            | (rw [if_pos (by rw [← hu]; unfold und; rw [if_neg c35, if_pos c40]), hR.1]; exact ⟨rfl, rfl, hR, FR.rf⟩)
            | (rw [if_neg (by rw [← hu]; unfold und; rw [if_pos c35]; exact Bool.false_ne_true)]; exact ⟨rfl, rfl, RR_err hR, FR.up (by decide)⟩)
            | (exfalso; grind))
              · refine v_aload_n (I := iX10_as) dX10_as_55 rfl ?_
                refine v_ldc (I := iX10_as) k_X10_158 dX10_as_56 ?_
                refine v_callVi (I := iX10_as) (I' := iX10_finding) lk_X10_92 c_X10_finding dX10_as_58 (m_X10_findE (e := 5) (by decide) (by decide)) rfl rfl (by decide) (ae_87 _ _) rfl (by decide) (by decide) (Nat.le_of_ble_eq_true rfl) ?_
                refine v_goto (I := iX10_as) (tgt := 70) dX10_as_61 (by decide) ?_
                exact v_iret (I := iX10_as) rfl dX10_as_70 (by
            unfold asS
            rw [if_pos hgood, hqc]
            first
            | (rw [if_pos (by rw [← hu]; unfold und; rw [if_neg c35, if_pos c40]), hR.1]; exact ⟨rfl, rfl, hR, FR.rf⟩)
            | (rw [if_neg (by rw [← hu]; unfold und; rw [if_pos c35]; exact Bool.false_ne_true)]; exact ⟨rfl, rfl, RR_err hR, FR.up (by decide)⟩)
            | (exfalso; grind))
            · refine v_iload_n (I := iX10_as) dX10_as_43 rfl ?_
              refine v_callSi (I := iX10_as) (I' := iX10_above) lk_X10_155 c_X10_above dX10_as_44 (m_X10_above (by have := ho.2; grind)) rfl rfl (by decide) (by decide) (Nat.le_of_ble_eq_true rfl) ?_
              refine v_istore_n (I := iX10_as) (ls1 := [(3, _), (0, _), (1, _), (2, _)]) dX10_as_47 (by decide) rfl ?_
              refine v_goto (I := iX10_as) (tgt := 34) dX10_as_48 (by decide) ?_
              exact ih (by rcases hd with h9 | h9; exact absurd h9 c35; exact h9) habv.2 (by rw [← hu]; conv => rhs; unfold und; rw [if_neg c35, if_neg c40])
      refine v_aload_n (I := iX10_as) dX10_as_27 rfl ?_
      refine v_iload_n (I := iX10_as) dX10_as_28 rfl ?_
      refine v_iconst (I := iX10_as) (v := 0) dX10_as_29 (by decide) ?_
      refine v_callVi (I := iX10_as) (I' := iX10_goingOf) lk_X10_125 c_X10_goingOf dX10_as_30 (m_X10_goingOf (f := 0) hqx hq (by decide) (by decide)) rfl rfl (by decide) (ae_87 _ _) rfl (by decide) (by decide) (Nat.le_of_ble_eq_true rfl) ?_
      rw [hR.1]
      rw [show ρ 88 (63 + 3 * q + 0) = gK (ρ 88) q from rfl]
      refine v_istore_n (I := iX10_as) (ls1 := [(3, _), (0, _), (1, _), (2, _)]) dX10_as_33 (by decide) rfl ?_
      exact key 4 (dep4 hk9) ⟨by have := hk9.1; grind, hk9.2⟩ (und_mono 4 (dep4 hk9) 3)
    · refine v_aload_n (I := iX10_as) dX10_as_20 rfl ?_
      refine v_ldc (I := iX10_as) k_X10_91 dX10_as_21 ?_
      refine v_callVi (I := iX10_as) (I' := iX10_finding) lk_X10_92 c_X10_finding dX10_as_23 (m_X10_findE (e := 1) (by decide) (by decide)) rfl rfl (by decide) (ae_87 _ _) rfl (by decide) (by decide) (Nat.le_of_ble_eq_true rfl) ?_
      exact v_iret (I := iX10_as) rfl dX10_as_26 (by unfold asS; rw [if_neg (by grind)]; exact ⟨rfl, rfl, RR_err hR, FR.up (by decide)⟩)
