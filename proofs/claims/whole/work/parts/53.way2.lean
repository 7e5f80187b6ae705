set_option maxRecDepth 100000 in
set_option maxHeartbeats 4000000 in
theorem m_X9_way {G : fGm} {σ : fSt} {τ : fLt} {ρ : fSt} (hC : CR σ ρ) {a b : Int32} : MS G iX9_way 3 [.ref 0, .int a, .int b] σ τ (rC τ σ (wayS ρ a b)) := by
  refine ms_of (by decide +kernel) (Nat.le_of_ble_eq_true rfl) ?_
  show VW _ _ _ _ _ _ 0 [(0, _), (1, _), (2, _)] []
  refine v_aload_n (I := iX9_way) dX9_way_0 rfl ?_
  refine v_iload_n (I := iX9_way) dX9_way_1 rfl ?_
  refine v_callVi (I := iX9_way) (I' := iX9_isHold) lk_X9_93 c_X9_isHold dX9_way_2 (m_X9_isHold hC.1) rfl rfl (by decide) (ae_0 _ _) rfl (by decide) (by decide) (Nat.le_of_ble_eq_true rfl) ?_
  refine v_if_eqB (I := iX9_way) (tgt := 16) dX9_way_5 (by decide) (fun c5 => ?_) (fun c5 => ?_)
  · refine v_aload_n (I := iX9_way) dX9_way_16 rfl ?_
    refine v_iconst (I := iX9_way) (v := 1) dX9_way_17 (by decide) ?_
    refine v_callVi (I := iX9_way) (I' := iX9_refused) lk_X9_62 c_X9_refused dX9_way_18 (m_X9_refused (e := 1) (by decide) (by decide) (by decide)) rfl rfl (by decide) (ae_0 _ _) rfl (by decide) (by decide) (Nat.le_of_ble_eq_true rfl) ?_
    exact v_iret (I := iX9_way) rfl dX9_way_21 (by unfold wayS; rw [if_neg (by grind)]; exact ⟨rfl, rfl, CR_err hC (by decide) (by decide), FC.up (by decide)⟩)
  · refine v_aload_n (I := iX9_way) dX9_way_8 rfl ?_
    refine v_iload_n (I := iX9_way) dX9_way_9 rfl ?_
    refine v_callVi (I := iX9_way) (I' := iX9_isHold) lk_X9_93 c_X9_isHold dX9_way_10 (m_X9_isHold hC.1) rfl rfl (by decide) (ae_0 _ _) rfl (by decide) (by decide) (Nat.le_of_ble_eq_true rfl) ?_
    refine v_if_neB (I := iX9_way) (tgt := 22) dX9_way_13 (by decide) (fun c13 => ?_) (fun c13 => ?_)
    · have hg : (0 ≤ a ∧ a ≤ ρ 88 14 - 1) ∧ 0 ≤ b ∧ b ≤ ρ 88 14 - 1 := by grind
      obtain ⟨N, hN8, hN, hNc⟩ := n14_nI hC.2.2.2.2.2.1.1
      have hN0 := nI_pos' (n := N) (by omega)
      rw [hN] at hg
      obtain ⟨p, hp8, hpx⟩ := nI8 (x := a) (by have h9 := nI_le (a := N) (b := 8) (by omega) (by decide); have h8 : nI N ≤ 8 := h9; grind)
      have hpc : a.toNatClampNeg = p := by rw [hpx]; exact nI_clamp (by omega)
      have hpN : p < N := (nI_ltI (by omega) (by omega)).mp (by rw [← hpx]; grind)
      obtain ⟨r, hr8, hrx⟩ := nI8 (x := b) (by have h9 := nI_le (a := N) (b := 8) (by omega) (by decide); have h8 : nI N ≤ 8 := h9; grind)
      have hrc : b.toNatClampNeg = r := by rw [hrx]; exact nI_clamp (by omega)
      have hrN : r < N := (nI_ltI (by omega) (by omega)).mp (by rw [← hrx]; grind)
      refine v_aload_n (I := iX9_way) dX9_way_22 rfl ?_
      refine v_get (I := iX9_way) g_X9_10 dX9_way_23 (by decide) (ae_0 _ _) rfl ?_
      refine v_get (I := iX9_way) g_X9_66 dX9_way_26 (by decide) (ae_w0 (by decide) _ _) rfl ?_
      refine v_get (I := iX9_way) g_X9_222 dX9_way_29 (by decide) (ae_w2 (by decide) _ _) rfl ?_
      refine v_iload_n (I := iX9_way) dX9_way_32 rfl ?_
      refine v_callSi (I := iX9_way) (I' := iX9_at) lk_X9_104 c_X9_at dX9_way_33 (m_X9_at (by decide) (ae_w5 (by decide)) (by decide)) rfl rfl (by decide) (by decide) (Nat.le_of_ble_eq_true rfl) ?_
      rw [rdA_eq hpx hp8 (by decide), V_hcell hC.1 hp8, show ρ 88 (39 + 3 * p + 0) = gHc (ρ 88) p from rfl]
      refine v_istore_n (I := iX9_way) (ls1 := [(3, _), (0, _), (1, _), (2, _)]) dX9_way_36 (by decide) rfl ?_
      refine v_aload_n (I := iX9_way) dX9_way_37 rfl ?_
      refine v_get (I := iX9_way) g_X9_10 dX9_way_38 (by decide) (ae_0 _ _) rfl ?_
      refine v_get (I := iX9_way) g_X9_66 dX9_way_41 (by decide) (ae_w0 (by decide) _ _) rfl ?_
      refine v_get (I := iX9_way) g_X9_222 dX9_way_44 (by decide) (ae_w2 (by decide) _ _) rfl ?_
      refine v_iload_n (I := iX9_way) dX9_way_47 rfl ?_
      refine v_callSi (I := iX9_way) (I' := iX9_at) lk_X9_104 c_X9_at dX9_way_48 (m_X9_at (by decide) (ae_w5 (by decide)) (by decide)) rfl rfl (by decide) (by decide) (Nat.le_of_ble_eq_true rfl) ?_
      rw [rdA_eq hrx hr8 (by decide), V_hcell hC.1 hr8, show ρ 88 (39 + 3 * r + 0) = gHc (ρ 88) r from rfl]
      refine v_istore (I := iX9_way) (ls1 := [(4, _), (3, _), (0, _), (1, _), (2, _)]) dX9_way_51 (by decide) rfl ?_
      refine v_iload_n (I := iX9_way) dX9_way_53 rfl ?_
      refine v_iload (I := iX9_way) dX9_way_54 rfl ?_
      refine v_max (I := iX9_way) lm_X9_225 dX9_way_56 (by decide) (Nat.le_of_ble_eq_true rfl) ?_
      rw [show (if (gHc (ρ 88) p) < (gHc (ρ 88) r) then (gHc (ρ 88) r) else (gHc (ρ 88) p)) = mx (gHc (ρ 88) p) (gHc (ρ 88) r) from rfl]
      refine v_istore (I := iX9_way) (ls1 := [(5, _), (4, _), (3, _), (0, _), (1, _), (2, _)]) dX9_way_59 (by decide) rfl ?_
      refine v_iload_n (I := iX9_way) dX9_way_61 rfl ?_
      refine v_iload (I := iX9_way) dX9_way_62 rfl ?_
      refine v_min (I := iX9_way) lm_X9_230 dX9_way_64 (by decide) (Nat.le_of_ble_eq_true rfl) ?_
      rw [show (if (gHc (ρ 88) r) < (gHc (ρ 88) p) then (gHc (ρ 88) r) else (gHc (ρ 88) p)) = mn (gHc (ρ 88) p) (gHc (ρ 88) r) from rfl]
      refine v_istore (I := iX9_way) (ls1 := [(6, _), (5, _), (4, _), (3, _), (0, _), (1, _), (2, _)]) dX9_way_67 (by decide) rfl ?_
      refine v_iconst (I := iX9_way) (v := 0) dX9_way_69 (by decide) ?_
      refine v_istore (I := iX9_way) (ls1 := [(7, _), (6, _), (5, _), (4, _), (3, _), (0, _), (1, _), (2, _)]) dX9_way_70 (by decide) rfl ?_
      have key : ∀ (m k : Nat) {σ9 : fSt} {y c x4 x3 : Int32}, k + m = N → V 0 σ9 (ρ 88) → FrW 0 σ σ9 → wayN (ρ 88) (mx (gHc (ρ 88) p) (gHc (ρ 88) r)) m c = wayN (ρ 88) (mx (gHc (ρ 88) p) (gHc (ρ 88) r)) N (mn (gHc (ρ 88) p) (gHc (ρ 88) r)) → y = nI k → VW G iX9_way (rC τ σ (wayS ρ a b)) 3 σ9 τ 72 [(7, .int y), (6, .int c), (5, .int (mx (gHc (ρ 88) p) (gHc (ρ 88) r))), (4, .int x4), (3, .int x3), (0, .ref 0), (1, .int a), (2, .int b)] [] := by
        intro m
        induction m with
        | zero =>
          intro k σ9 y c x4 x3 hkm hV9 hF9 he hk
          have hkN : k = N := hkm
          show VW _ _ _ _ _ _ 72 [(7, _), (6, _), (5, _), (4, _), (3, _), (0, _), (1, _), (2, _)] []
          refine v_iload (I := iX9_way) dX9_way_72 rfl ?_
          refine v_aload_n (I := iX9_way) dX9_way_74 rfl ?_
          refine v_get (I := iX9_way) g_X9_10 dX9_way_75 (by decide) (ae_0 _ _) rfl ?_
          refine v_get (I := iX9_way) g_X9_66 dX9_way_78 (by decide) (ae_w0 (by decide) _ _) rfl ?_
          refine v_get (I := iX9_way) g_X9_86 dX9_way_81 (by decide) (ae_w2 (by decide) _ _) rfl ?_
          rw [V_n14 hV9, hN]
          refine v_icmp_ge (I := iX9_way) (tgt := 135) dX9_way_84 (by decide) (fun c84 => ?_) (fun c84 => ?_)
          · refine v_iconst (I := iX9_way) (v := 1) dX9_way_135 (by decide) ?_
            exact v_iret (I := iX9_way) rfl dX9_way_136 (by unfold wayS; rw [hN, if_pos hg, hpc, hrc, ← hN, hNc, ← he]; exact ⟨rfl, rfl, CR_same hC hV9 hF9, FrW.C (by decide) hF9⟩)
          · exact absurd (by rw [hk, hkN]; exact Int32.le_refl _) c84
        | succ m ih =>
          intro k σ9 y c x4 x3 hkm hV9 hF9 he hk
          subst hk
          show VW _ _ _ _ _ _ 72 [(7, _), (6, _), (5, _), (4, _), (3, _), (0, _), (1, _), (2, _)] []
          refine v_iload (I := iX9_way) dX9_way_72 rfl ?_
          refine v_aload_n (I := iX9_way) dX9_way_74 rfl ?_
          refine v_get (I := iX9_way) g_X9_10 dX9_way_75 (by decide) (ae_0 _ _) rfl ?_
          refine v_get (I := iX9_way) g_X9_66 dX9_way_78 (by decide) (ae_w0 (by decide) _ _) rfl ?_
          refine v_get (I := iX9_way) g_X9_86 dX9_way_81 (by decide) (ae_w2 (by decide) _ _) rfl ?_
          rw [V_n14 hV9, hN]
          refine v_icmp_ge (I := iX9_way) (tgt := 135) dX9_way_84 (by decide) (fun c84 => ?_) (fun c84 => ?_)
          · exact absurd c84 (by exact nI_ge (by omega) (by omega))
          · refine v_iload (I := iX9_way) dX9_way_87 rfl ?_
            refine v_iload (I := iX9_way) dX9_way_89 rfl ?_
            refine v_icmp_ge (I := iX9_way) (tgt := 135) dX9_way_91 (by decide) (fun c91 => ?_) (fun c91 => ?_)
            · refine v_iconst (I := iX9_way) (v := 1) dX9_way_135 (by decide) ?_
              exact v_iret (I := iX9_way) rfl dX9_way_136 (by unfold wayS; rw [hN, if_pos hg, hpc, hrc, ← hN, hNc, ← he, wayN, if_neg (by grind)]; exact ⟨rfl, rfl, CR_same hC hV9 hF9, FrW.C (by decide) hF9⟩)
            · refine v_aload_n (I := iX9_way) dX9_way_94 rfl ?_
              refine v_get (I := iX9_way) g_X9_10 dX9_way_95 (by decide) (ae_0 _ _) rfl ?_
              refine v_get (I := iX9_way) g_X9_66 dX9_way_98 (by decide) (ae_w0 (by decide) _ _) rfl ?_
              refine v_iload (I := iX9_way) dX9_way_101 rfl ?_
              refine v_callVi (I := iX9_way) (I' := iX3_nextCell) lk_X9_233 c_X3_nextCell dX9_way_103 (m_X3_nextCell (by decide) hV9 hC.2.2.2.2.2.1.1) rfl rfl (by decide) (ae_w2 (by decide) _ _) rfl (by decide) (by decide) (Nat.le_of_ble_eq_true rfl) ?_
              refine v_istore (I := iX9_way) (ls1 := [(8, _), (7, _), (6, _), (5, _), (4, _), (3, _), (0, _), (1, _), (2, _)]) dX9_way_106 (by decide) rfl ?_
              refine v_aload_n (I := iX9_way) dX9_way_108 rfl ?_
              refine v_get (I := iX9_way) g_X9_10 dX9_way_109 (by decide) (ae_0 _ _) rfl ?_
              refine v_iload (I := iX9_way) dX9_way_112 rfl ?_
              refine v_iload (I := iX9_way) dX9_way_114 rfl ?_
              refine v_isub (I := iX9_way) dX9_way_116 ?_
              refine v_callViP (I := iX9_way) (I' := iX8_dares) lk_X9_236 c_X8_dares dX9_way_117 (m_X8_dares (by decide) hV9 hC.2.2.2.2.2.1.2.2.1) rfl rfl (by decide) (ae_w0 (by decide) _ _) rfl (by decide) (by decide) (Nat.le_of_ble_eq_true rfl) (fun s117 h117 => ?_)
              refine v_if_neB (I := iX9_way) (tgt := 125) dX9_way_120 (by decide) (fun c120 => ?_) (fun c120 => ?_)
              · refine v_iload (I := iX9_way) dX9_way_125 rfl ?_
                refine v_istore (I := iX9_way) (ls1 := [(6, _), (8, _), (7, _), (5, _), (4, _), (3, _), (0, _), (1, _), (2, _)]) dX9_way_127 (by decide) rfl ?_
                refine v_iinc (I := iX9_way) (ls1 := [(7, _), (6, _), (8, _), (5, _), (4, _), (3, _), (0, _), (1, _), (2, _)]) dX9_way_129 rfl rfl (by decide) rfl ?_
                refine v_goto (I := iX9_way) (tgt := 72) dX9_way_132 (by decide) ?_
                refine v_pick (I := iX9_way) (ls1 := [(7, _), (6, _), (5, _), (4, _), (3, _), (0, _), (1, _), (2, _)]) [0, 1, 3, 4, 5, 6, 7, 8] rfl ?_
                exact ih (k + 1) (by omega) h117.1 (hF9.tr h117.2) (by rw [← he, wayN, if_pos (by grind), if_pos c120]) (by exact nI_1 k)
              · refine v_iconst (I := iX9_way) (v := 0) dX9_way_123 (by decide) ?_
                exact v_iret (I := iX9_way) rfl dX9_way_124 (by unfold wayS; rw [hN, if_pos hg, hpc, hrc, ← hN, hNc, ← he, wayN, if_pos (by grind), if_neg c120]; exact ⟨rfl, rfl, CR_same hC h117.1 (hF9.tr h117.2), FrW.C (by decide) (hF9.tr h117.2)⟩)
      exact key N 0 (by omega) hC.1 FrW.rf rfl rfl
    · refine v_aload_n (I := iX9_way) dX9_way_16 rfl ?_
      refine v_iconst (I := iX9_way) (v := 1) dX9_way_17 (by decide) ?_
      refine v_callVi (I := iX9_way) (I' := iX9_refused) lk_X9_62 c_X9_refused dX9_way_18 (m_X9_refused (e := 1) (by decide) (by decide) (by decide)) rfl rfl (by decide) (ae_0 _ _) rfl (by decide) (by decide) (Nat.le_of_ble_eq_true rfl) ?_
      exact v_iret (I := iX9_way) rfl dX9_way_21 (by unfold wayS; rw [if_neg (by grind)]; exact ⟨rfl, rfl, CR_err hC (by decide) (by decide), FC.up (by decide)⟩)
set_option maxRecDepth 100000 in
set_option maxHeartbeats 4000000 in
theorem m_X10_way {G : fGm} {σ : fSt} {τ : fLt} {ρ : fSt} (hR : RR σ ρ) {a b : Int32} : MS G iX10_way 4 [.ref 87, .int a, .int b] σ τ (rR τ σ (wayS ρ a b)) := by
  refine ms_of (by decide +kernel) (Nat.le_of_ble_eq_true rfl) ?_
  show VW _ _ _ _ _ _ 0 [(0, _), (1, _), (2, _)] []
  refine v_aload_n (I := iX10_way) dX10_way_0 rfl ?_
  refine v_iload_n (I := iX10_way) dX10_way_1 rfl ?_
  refine v_bipush (I := iX10_way) (v := 14) dX10_way_2 (by decide) ?_
  refine v_callVi (I := iX10_way) (I' := iX10_isOf) lk_X10_113 c_X10_isOf dX10_way_4 (m_X10_isOf (c := 14) (by decide) (by decide)) rfl rfl (by decide) (ae_87 _ _) rfl (by decide) (by decide) (Nat.le_of_ble_eq_true rfl) ?_
  rw [hR.1]
  refine v_if_eqB (I := iX10_way) (tgt := 20) dX10_way_7 (by decide) (fun c7 => ?_) (fun c7 => ?_)
  · refine v_aload_n (I := iX10_way) dX10_way_20 rfl ?_
    refine v_ldc (I := iX10_way) k_X10_91 dX10_way_21 ?_
    refine v_callVi (I := iX10_way) (I' := iX10_finding) lk_X10_92 c_X10_finding dX10_way_23 (m_X10_findE (e := 1) (by decide) (by decide)) rfl rfl (by decide) (ae_87 _ _) rfl (by decide) (by decide) (Nat.le_of_ble_eq_true rfl) ?_
    exact v_iret (I := iX10_way) rfl dX10_way_26 (by unfold wayS; rw [if_neg (by grind)]; exact ⟨rfl, rfl, RR_err hR, FR.up (by decide)⟩)
  · refine v_aload_n (I := iX10_way) dX10_way_10 rfl ?_
    refine v_iload_n (I := iX10_way) dX10_way_11 rfl ?_
    refine v_bipush (I := iX10_way) (v := 14) dX10_way_12 (by decide) ?_
    refine v_callVi (I := iX10_way) (I' := iX10_isOf) lk_X10_113 c_X10_isOf dX10_way_14 (m_X10_isOf (c := 14) (by decide) (by decide)) rfl rfl (by decide) (ae_87 _ _) rfl (by decide) (by decide) (Nat.le_of_ble_eq_true rfl) ?_
    rw [hR.1]
    refine v_if_neB (I := iX10_way) (tgt := 27) dX10_way_17 (by decide) (fun c17 => ?_) (fun c17 => ?_)
    · have hg : (0 ≤ a ∧ a ≤ ρ 88 14 - 1) ∧ 0 ≤ b ∧ b ≤ ρ 88 14 - 1 := by grind
      obtain ⟨N, hN8, hN, hNc⟩ := n14_nI hR.2.2.2.2.2.2.2.2.2.2.2.1.1
      have hN0 := nI_pos' (n := N) (by omega)
      rw [hN] at hg
      obtain ⟨p, hp8, hpx⟩ := nI8 (x := a) (by have h9 := nI_le (a := N) (b := 8) (by omega) (by decide); have h8 : nI N ≤ 8 := h9; grind)
      have hpc : a.toNatClampNeg = p := by rw [hpx]; exact nI_clamp (by omega)
      have hpN : p < N := (nI_ltI (by omega) (by omega)).mp (by rw [← hpx]; grind)
      obtain ⟨r, hr8, hrx⟩ := nI8 (x := b) (by have h9 := nI_le (a := N) (b := 8) (by omega) (by decide); have h8 : nI N ≤ 8 := h9; grind)
      have hrc : b.toNatClampNeg = r := by rw [hrx]; exact nI_clamp (by omega)
      have hrN : r < N := (nI_ltI (by omega) (by omega)).mp (by rw [← hrx]; grind)
      refine v_aload_n (I := iX10_way) dX10_way_27 rfl ?_
      refine v_iload_n (I := iX10_way) dX10_way_28 rfl ?_
      refine v_iconst (I := iX10_way) (v := 0) dX10_way_29 (by decide) ?_
      refine v_callVi (I := iX10_way) (I' := iX10_holdOf) lk_X10_104 c_X10_holdOf dX10_way_30 (m_X10_holdOf (h := p) (f := 0) hpx hp8 rfl (by decide)) rfl rfl (by decide) (ae_87 _ _) rfl (by decide) (by decide) (Nat.le_of_ble_eq_true rfl) ?_
      rw [hR.1, show ρ 88 (39 + 3 * p + 0) = gHc (ρ 88) p from rfl]
      refine v_aload_n (I := iX10_way) dX10_way_33 rfl ?_
      refine v_iload_n (I := iX10_way) dX10_way_34 rfl ?_
      refine v_iconst (I := iX10_way) (v := 0) dX10_way_35 (by decide) ?_
      refine v_callVi (I := iX10_way) (I' := iX10_holdOf) lk_X10_104 c_X10_holdOf dX10_way_36 (m_X10_holdOf (h := r) (f := 0) hrx hr8 rfl (by decide)) rfl rfl (by decide) (ae_87 _ _) rfl (by decide) (by decide) (Nat.le_of_ble_eq_true rfl) ?_
      rw [hR.1, show ρ 88 (39 + 3 * r + 0) = gHc (ρ 88) r from rfl]
      refine v_min (I := iX10_way) lm_X10_70 dX10_way_39 (by decide) (Nat.le_of_ble_eq_true rfl) ?_
      rw [show (if (gHc (ρ 88) r) < (gHc (ρ 88) p) then (gHc (ρ 88) r) else (gHc (ρ 88) p)) = mn (gHc (ρ 88) p) (gHc (ρ 88) r) from rfl]
      refine v_istore_n (I := iX10_way) (ls1 := [(3, _), (0, _), (1, _), (2, _)]) dX10_way_42 (by decide) rfl ?_
      refine v_aload_n (I := iX10_way) dX10_way_43 rfl ?_
      refine v_iload_n (I := iX10_way) dX10_way_44 rfl ?_
      refine v_iconst (I := iX10_way) (v := 0) dX10_way_45 (by decide) ?_
      refine v_callVi (I := iX10_way) (I' := iX10_holdOf) lk_X10_104 c_X10_holdOf dX10_way_46 (m_X10_holdOf (h := p) (f := 0) hpx hp8 rfl (by decide)) rfl rfl (by decide) (ae_87 _ _) rfl (by decide) (by decide) (Nat.le_of_ble_eq_true rfl) ?_
      rw [hR.1, show ρ 88 (39 + 3 * p + 0) = gHc (ρ 88) p from rfl]
      refine v_aload_n (I := iX10_way) dX10_way_49 rfl ?_
      refine v_iload_n (I := iX10_way) dX10_way_50 rfl ?_
      refine v_iconst (I := iX10_way) (v := 0) dX10_way_51 (by decide) ?_
      refine v_callVi (I := iX10_way) (I' := iX10_holdOf) lk_X10_104 c_X10_holdOf dX10_way_52 (m_X10_holdOf (h := r) (f := 0) hrx hr8 rfl (by decide)) rfl rfl (by decide) (ae_87 _ _) rfl (by decide) (by decide) (Nat.le_of_ble_eq_true rfl) ?_
      rw [hR.1, show ρ 88 (39 + 3 * r + 0) = gHc (ρ 88) r from rfl]
      refine v_max (I := iX10_way) lm_X10_76 dX10_way_55 (by decide) (Nat.le_of_ble_eq_true rfl) ?_
      rw [show (if (gHc (ρ 88) p) < (gHc (ρ 88) r) then (gHc (ρ 88) r) else (gHc (ρ 88) p)) = mx (gHc (ρ 88) p) (gHc (ρ 88) r) from rfl]
      refine v_istore (I := iX10_way) (ls1 := [(4, _), (3, _), (0, _), (1, _), (2, _)]) dX10_way_58 (by decide) rfl ?_
      refine v_iconst (I := iX10_way) (v := 1) dX10_way_60 (by decide) ?_
      refine v_istore (I := iX10_way) (ls1 := [(5, _), (4, _), (3, _), (0, _), (1, _), (2, _)]) dX10_way_61 (by decide) rfl ?_
      obtain ⟨h1, hh1, hE⟩ : ∃ h1, h1 < N ∧ (mx (gHc (ρ 88) p) (gHc (ρ 88) r)) = gHc (ρ 88) h1 := by
        unfold mx
        split
        · exact ⟨r, hrN, rfl⟩
        · exact ⟨p, hpN, rfl⟩
      have key : ∀ (m : Nat) {σ9 : fSt} {c : Int32}, cntB (ρ 88) c N ≤ m → -1 ≤ c → Fr2 σ σ9 → wayN (ρ 88) (mx (gHc (ρ 88) p) (gHc (ρ 88) r)) m c = wayN (ρ 88) (mx (gHc (ρ 88) p) (gHc (ρ 88) r)) N (mn (gHc (ρ 88) p) (gHc (ρ 88) r)) → VW G iX10_way (rR τ σ (wayS ρ a b)) 4 σ9 τ 63 [(5, .int 1), (4, .int (mx (gHc (ρ 88) p) (gHc (ρ 88) r))), (3, .int c), (0, .ref 87), (1, .int a), (2, .int b)] [] := by
        intro m
        induction m with
        | zero =>
          intro σ9 c hcn hc hF9 he
          show VW _ _ _ _ _ _ 63 [(5, _), (4, _), (3, _), (0, _), (1, _), (2, _)] []
          refine v_iload_n (I := iX10_way) dX10_way_63 rfl ?_
          refine v_iload (I := iX10_way) dX10_way_64 rfl ?_
          refine v_icmp_ge (I := iX10_way) (tgt := 97) dX10_way_66 (by decide) (fun c66 => ?_) (fun c66 => ?_)
          · refine v_iload (I := iX10_way) dX10_way_97 rfl ?_
            refine v_if_eq (I := iX10_way) (tgt := 106) dX10_way_99 (by decide) (fun c99 => ?_) (fun c99 => ?_)
            · exact absurd c99 (by decide)
            · refine v_iconst (I := iX10_way) (v := 1) dX10_way_102 (by decide) ?_
              refine v_goto (I := iX10_way) (tgt := 107) dX10_way_103 (by decide) ?_
              exact v_iret (I := iX10_way) rfl dX10_way_107 (by unfold wayS; rw [hN, if_pos hg, hpc, hrc, ← hN, hNc, ← he]; exact ⟨rfl, rfl, RR_of hR (fun k hk => hF9 k (by omega) (by omega)) (by rw [hF9 87 (by decide) (by decide)]) (by rw [hF9 87 (by decide) (by decide)]), fun k hk => hF9 k (by omega) (by omega)⟩)
          · exact absurd (cnt_pos (n := N) (show c < gHc (ρ 88) h1 by rw [← hE]; grind) hh1) (by omega)
        | succ m ih =>
          intro σ9 c hcm hc hF9 he
          have h88 : σ9 88 = ρ 88 := (hF9 88 (by decide) (by decide)).trans hR.1
          show VW _ _ _ _ _ _ 63 [(5, _), (4, _), (3, _), (0, _), (1, _), (2, _)] []
          refine v_iload_n (I := iX10_way) dX10_way_63 rfl ?_
          refine v_iload (I := iX10_way) dX10_way_64 rfl ?_
          refine v_icmp_ge (I := iX10_way) (tgt := 97) dX10_way_66 (by decide) (fun c66 => ?_) (fun c66 => ?_)
          · refine v_iload (I := iX10_way) dX10_way_97 rfl ?_
            refine v_if_eq (I := iX10_way) (tgt := 106) dX10_way_99 (by decide) (fun c99 => ?_) (fun c99 => ?_)
            · exact absurd c99 (by decide)
            · refine v_iconst (I := iX10_way) (v := 1) dX10_way_102 (by decide) ?_
              refine v_goto (I := iX10_way) (tgt := 107) dX10_way_103 (by decide) ?_
              exact v_iret (I := iX10_way) rfl dX10_way_107 (by unfold wayS; rw [hN, if_pos hg, hpc, hrc, ← hN, hNc, ← he, wayN, if_neg (by grind)]; exact ⟨rfl, rfl, RR_of hR (fun k hk => hF9 k (by omega) (by omega)) (by rw [hF9 87 (by decide) (by decide)]) (by rw [hF9 87 (by decide) (by decide)]), fun k hk => hF9 k (by omega) (by omega)⟩)
          · have hlt : c < (mx (gHc (ρ 88) p) (gHc (ρ 88) r)) := by grind
            obtain ⟨n1, hn1N, hn1, hc1, hcn⟩ := nxt_cell hc hNc hh1 (show c < gHc (ρ 88) h1 by rw [← hE]; exact hlt)
            refine v_iload (I := iX10_way) dX10_way_69 rfl ?_
            refine v_if_eq (I := iX10_way) (tgt := 97) dX10_way_71 (by decide) (fun c71 => ?_) (fun c71 => ?_)
            · exact absurd c71 (by decide)
            · refine v_aload_n (I := iX10_way) dX10_way_74 rfl ?_
              refine v_iload_n (I := iX10_way) dX10_way_75 rfl ?_
              refine v_callVi (I := iX10_way) (I' := iX10_nextCell) lk_X10_284 c_X10_nextCell dX10_way_76 (m_X10_nextCell (by rw [h88]; exact hR.2.2.2.2.2.2.2.2.2.2.2.1.1)) rfl rfl (by decide) (ae_87 _ _) rfl (by decide) (by decide) (Nat.le_of_ble_eq_true rfl) ?_
              rw [h88]
              refine v_istore (I := iX10_way) (ls1 := [(6, _), (5, _), (4, _), (3, _), (0, _), (1, _), (2, _)]) dX10_way_79 (by decide) rfl ?_
              refine v_aload_n (I := iX10_way) dX10_way_81 rfl ?_
              refine v_iload (I := iX10_way) dX10_way_82 rfl ?_
              refine v_iload_n (I := iX10_way) dX10_way_84 rfl ?_
              refine v_isub (I := iX10_way) dX10_way_85 ?_
              refine v_callViP (I := iX10_way) (I' := iX10_dares) lk_X10_287 c_X10_dares dX10_way_86 (m_X10_dares (by rw [h88]; exact hR.2.2.2.2.2.2.2.2.2.2.2.1.2.2.1)) rfl rfl (by decide) (ae_87 _ _) rfl (by decide) (by decide) (Nat.le_of_ble_eq_true rfl) (fun s86 h86 => ?_)
              rw [h88]
              have hFk : Fr2 σ s86 := fun k a9 b9 => (h86 k a9 b9).trans (hF9 k a9 b9)
              refine v_istore (I := iX10_way) (ls1 := [(5, _), (6, _), (4, _), (3, _), (0, _), (1, _), (2, _)]) dX10_way_89 (by decide) rfl ?_
              refine v_iload (I := iX10_way) dX10_way_91 rfl ?_
              refine v_istore_n (I := iX10_way) (ls1 := [(3, _), (5, _), (6, _), (4, _), (0, _), (1, _), (2, _)]) dX10_way_93 (by decide) rfl ?_
              refine v_goto (I := iX10_way) (tgt := 63) dX10_way_94 (by decide) ?_
              refine v_pick (I := iX10_way) (ls1 := [(5, _), (4, _), (3, _), (0, _), (1, _), (2, _)]) [1, 3, 0, 4, 5, 6] rfl ?_
              by_cases hd : gDaresI (ρ 88) (gNxt (ρ 88) c - c) = true
              · rw [if_pos hd]
                exact ih (by omega) (by rw [hn1]; grind) hFk (by rw [← he, wayN, if_pos hlt, if_pos hd])
              · rw [if_neg hd]
                refine v_iload_n (I := iX10_way) dX10_way_63 rfl ?_
                refine v_iload (I := iX10_way) dX10_way_64 rfl ?_
                refine v_icmp_ge (I := iX10_way) (tgt := 97) dX10_way_66 (by decide) (fun c66 => ?_) (fun c66 => ?_)
                · refine v_iload (I := iX10_way) dX10_way_97 rfl ?_
                  refine v_if_eq (I := iX10_way) (tgt := 106) dX10_way_99 (by decide) (fun c99 => ?_) (fun c99 => ?_)
                  · refine v_iconst (I := iX10_way) (v := 0) dX10_way_106 (by decide) ?_
                    exact v_iret (I := iX10_way) rfl dX10_way_107 (by unfold wayS; rw [hN, if_pos hg, hpc, hrc, ← hN, hNc, ← he, wayN, if_pos hlt, if_neg hd]; exact ⟨rfl, rfl, RR_of hR (fun k hk => hFk k (by omega) (by omega)) (by rw [hFk 87 (by decide) (by decide)]) (by rw [hFk 87 (by decide) (by decide)]), fun k hk => hFk k (by omega) (by omega)⟩)
                  · exact absurd rfl c99
                · refine v_iload (I := iX10_way) dX10_way_69 rfl ?_
                  refine v_if_eq (I := iX10_way) (tgt := 97) dX10_way_71 (by decide) (fun c71 => ?_) (fun c71 => ?_)
                  · refine v_iload (I := iX10_way) dX10_way_97 rfl ?_
                    refine v_if_eq (I := iX10_way) (tgt := 106) dX10_way_99 (by decide) (fun c99 => ?_) (fun c99 => ?_)
                    · refine v_iconst (I := iX10_way) (v := 0) dX10_way_106 (by decide) ?_
                      exact v_iret (I := iX10_way) rfl dX10_way_107 (by unfold wayS; rw [hN, if_pos hg, hpc, hrc, ← hN, hNc, ← he, wayN, if_pos hlt, if_neg hd]; exact ⟨rfl, rfl, RR_of hR (fun k hk => hFk k (by omega) (by omega)) (by rw [hFk 87 (by decide) (by decide)]) (by rw [hFk 87 (by decide) (by decide)]), fun k hk => hFk k (by omega) (by omega)⟩)
                    · exact absurd rfl c99
                  · exact absurd rfl c71
      have hcell : ∀ h, h < 8 → 0 ≤ gHc (ρ 88) h := fun h hh => by
        have h9 := hR.2.2.2.2.2.2.2.2.2.2.2.1.1 (39 + 3 * h + 0) (by omega)
        rw [(bnd_hold h hh).1] at h9
        exact h9.1
      exact key N (cnt_le N) (by have h1 := hcell p hp8; have h2 := hcell r hr8; unfold mn; split <;> grind) (fun _ _ _ => rfl) rfl
    · refine v_aload_n (I := iX10_way) dX10_way_20 rfl ?_
      refine v_ldc (I := iX10_way) k_X10_91 dX10_way_21 ?_
      refine v_callVi (I := iX10_way) (I' := iX10_finding) lk_X10_92 c_X10_finding dX10_way_23 (m_X10_findE (e := 1) (by decide) (by decide)) rfl rfl (by decide) (ae_87 _ _) rfl (by decide) (by decide) (Nat.le_of_ble_eq_true rfl) ?_
      exact v_iret (I := iX10_way) rfl dX10_way_26 (by unfold wayS; rw [if_neg (by grind)]; exact ⟨rfl, rfl, RR_err hR, FR.up (by decide)⟩)
