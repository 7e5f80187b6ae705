set_option maxRecDepth 100000 in
set_option maxHeartbeats 4000000 in
theorem m_X10_go {G : fGm} {σ : fSt} {τ : fLt} {ρ : fSt} (hR : RR σ ρ) {n : Int32} : MS G iX10_go 8 [.ref 87, .int n] σ τ (rR τ σ (goS ρ n)) := by
  refine ms_of (by decide +kernel) (Nat.le_of_ble_eq_true rfl) ?_
  show VW _ _ _ _ _ _ 0 [(0, _), (1, _)] []
  refine v_iload_n (I := iX10_go) dX10_go_0 rfl ?_
  refine v_callSi (I := iX10_go) (I' := iX10_isAhead) lk_X10_264 c_X10_isAhead dX10_go_1 (m_X10_isAhead) rfl rfl (by decide) (by decide) (Nat.le_of_ble_eq_true rfl) ?_
  refine v_if_neB (I := iX10_go) (tgt := 14) dX10_go_4 (by decide) (fun c4 => ?_) (fun c4 => ?_)
  · refine v_aload_n (I := iX10_go) dX10_go_14 rfl ?_
    refine v_get (I := iX10_go) g_X10_9 dX10_go_15 (by decide) (ae_87 _ _) rfl ?_
    refine v_bipush (I := iX10_go) (v := 15) dX10_go_18 (by decide) ?_
    refine v_ialdN (I := iX10_go) (j := 15) (by decide) (by decide) (by decide) dX10_go_20 (by decide) (ae_88 _ _) ?_
    rw [hR.1]
    refine v_if_ne (I := iX10_go) (tgt := 32) dX10_go_21 (by decide) (fun c21 => ?_) (fun c21 => ?_)
    · refine v_aload_n (I := iX10_go) dX10_go_32 rfl ?_
      refine v_get (I := iX10_go) g_X10_9 dX10_go_33 (by decide) (ae_87 _ _) rfl ?_
      refine v_aload_n (I := iX10_go) dX10_go_36 rfl ?_
      refine v_get (I := iX10_go) g_X10_16 dX10_go_37 (by decide) (ae_87 _ _) rfl ?_
      refine v_callSv (I := iX10_go) (I' := iX10_copy) lk_X10_83 c_X10_copy dX10_go_40 (m_X10_copy (by decide) (by decide) (ae_88) (ae_90) (by decide)) rfl rfl (by decide) (by decide) (Nat.le_of_ble_eq_true rfl) ?_
      refine v_iconst (I := iX10_go) (v := -1) dX10_go_43 (by decide) ?_
      refine v_istore_n (I := iX10_go) (ls1 := [(2, _), (0, _), (1, _)]) dX10_go_44 (by decide) rfl ?_
      refine v_iconst (I := iX10_go) (v := 0) dX10_go_45 (by decide) ?_
      refine v_istore_n (I := iX10_go) (ls1 := [(3, _), (2, _), (0, _), (1, _)]) dX10_go_46 (by decide) rfl ?_
      refine v_iconst (I := iX10_go) (v := 0) dX10_go_47 (by decide) ?_
      refine v_istore (I := iX10_go) (ls1 := [(4, _), (3, _), (2, _), (0, _), (1, _)]) dX10_go_48 (by decide) rfl ?_
      obtain ⟨q, hq, hqx⟩ : ∃ q, q < 201 ∧ n = nI q := in2_nI (by decide) ⟨by grind, by show n < 201; grind⟩
      have hqc : n.toNatClampNeg = q := by rw [hqx]; exact nI_clamp (by omega)
      have hgn := gNow_x hR.2.2.2.2.2.2.2.2.2.2.2.1.1
      obtain ⟨hgx, hg8⟩ := hgn
      have key : ∀ (m k : Nat) {σ9 : fSt} {y x2 x3 : Int32}, k + m = 7 → σ9 88 = ρ 88 → σ9 90 = ρ 88 → FrB σ σ9 → y = nI k → x3 = aL (goF (ρ 88) q) (0) (argN gtB (goF (ρ 88) q) k) → x2 = aB (-1) (argN gtB (goF (ρ 88) q) k) → VW G iX10_go (rR τ σ (goS ρ n)) 8 σ9 τ 50 [(4, .int y), (3, .int x3), (2, .int x2), (0, .ref 87), (1, .int n)] [] := by
        intro m
        induction m with
        | zero =>
          intro k σ9 y x2 x3 hkm h88 h90 hF9 hk hx3 hx2
          have hkN : k = 7 := hkm
          skip
          show VW _ _ _ _ _ _ 50 [(4, _), (3, _), (2, _), (0, _), (1, _)] []
          refine v_iload (I := iX10_go) dX10_go_50 rfl ?_
          refine v_bipush (I := iX10_go) (v := 6) dX10_go_52 (by decide) ?_
          refine v_icmp_gt (I := iX10_go) (tgt := 129) dX10_go_54 (by decide) (fun c54 => ?_) (fun c54 => ?_)
          · refine v_iload_n (I := iX10_go) dX10_go_129 rfl ?_
            exact v_iret (I := iX10_go) rfl dX10_go_130 (by unfold goS; rw [if_pos (by grind), if_neg (by grind), hqc, ← hkN]; exact ⟨by rw [hx2, aB_s (by omega)], rfl, RR_b2 hR h88 h90 hF9, hF9.R⟩)
          · exact absurd (by rw [hk, hkN]; decide) c54
        | succ m ih =>
          intro k σ9 y x2 x3 hkm h88 h90 hF9 hk hx3 hx2
          have hk8 : k < 7 := by omega
          have hy := hk
          subst hy
          have hk : nI k = nI k := rfl
          show VW _ _ _ _ _ _ 50 [(4, _), (3, _), (2, _), (0, _), (1, _)] []
          refine v_iload (I := iX10_go) dX10_go_50 rfl ?_
          refine v_bipush (I := iX10_go) (v := 6) dX10_go_52 (by decide) ?_
          refine v_icmp_gt (I := iX10_go) (tgt := 129) dX10_go_54 (by decide) (fun c54 => ?_) (fun c54 => ?_)
          · exact absurd c54 (by rw [hk]; have h7 : nI k ≤ 6 := nI_le (b := 6) (by omega) (by decide); generalize nI k = y at *; grind)
          · refine v_aload_n (I := iX10_go) dX10_go_57 rfl ?_
            refine v_get (I := iX10_go) g_X10_9 dX10_go_58 (by decide) (ae_87 _ _) rfl ?_
            refine v_bipush (I := iX10_go) (v := 63) dX10_go_61 (by decide) ?_
            refine v_iconst (I := iX10_go) (v := 3) dX10_go_63 (by decide) ?_
            refine v_aload_n (I := iX10_go) dX10_go_64 rfl ?_
            refine v_get (I := iX10_go) g_X10_9 dX10_go_65 (by decide) (ae_87 _ _) rfl ?_
            refine v_bipush (I := iX10_go) (v := 11) dX10_go_68 (by decide) ?_
            refine v_ialdN (I := iX10_go) (j := 11) (by decide) (by decide) (by decide) dX10_go_70 (by decide) (ae_88 _ _) ?_
            rw [h88]
            refine v_imul (I := iX10_go) dX10_go_71 ?_
            refine v_iadd (I := iX10_go) dX10_go_72 ?_
            refine v_iconst (I := iX10_go) (v := 0) dX10_go_73 (by decide) ?_
            refine v_iadd (I := iX10_go) dX10_go_74 ?_
            refine v_iload (I := iX10_go) dX10_go_75 rfl ?_
            refine v_iastN (I := iX10_go) (j := (63 + 3 * gNow (ρ 88) + 0)) (by rw [hgx]; exact ix3 63 63 rfl _ 0) (by omega) (by decide) dX10_go_77 (by decide) (fun _ => ae_88 _ _) ?_
            refine v_aload_n (I := iX10_go) dX10_go_78 rfl ?_
            refine v_iload_n (I := iX10_go) dX10_go_79 rfl ?_
            refine v_callVvP (I := iX10_go) (I' := iX10_tenthsGo) lk_X10_261 c_X10_tenthsGo dX10_go_80 (m_X10_tenthsGo (by rw [up2_f, h88]; exact IV_go hR.2.2.2.2.2.2.2.2.2.2.2.1 hk8) hqx (by omega)) rfl rfl (by decide) (ae_87 _ _) rfl (by decide) (by decide) (Nat.le_of_ble_eq_true rfl) (fun s80 h80 => ?_)
            have hg : s80 88 = gTenths (va_up (ρ 88) (63 + 3 * gNow (ρ 88) + 0) (nI k)) q := by rw [h80.1, up2_f, h88]
            have h90k : s80 90 = ρ 88 := h80.2.b90.trans h90
            have hFk := hF9.step h80.2
            refine v_aload_n (I := iX10_go) dX10_go_83 rfl ?_
            refine v_aload_n (I := iX10_go) dX10_go_84 rfl ?_
            refine v_get (I := iX10_go) g_X10_9 dX10_go_85 (by decide) (ae_87 _ _) rfl ?_
            refine v_bipush (I := iX10_go) (v := 10) dX10_go_88 (by decide) ?_
            refine v_ialdN (I := iX10_go) (j := 10) (by decide) (by decide) (by decide) dX10_go_90 (by decide) (ae_88 _ _) ?_
            rw [hg]
            refine v_bipush (I := iX10_go) (v := 10) dX10_go_91 (by decide) ?_
            refine v_aload_n (I := iX10_go) dX10_go_93 rfl ?_
            refine v_get (I := iX10_go) g_X10_9 dX10_go_94 (by decide) (ae_87 _ _) rfl ?_
            refine v_bipush (I := iX10_go) (v := 7) dX10_go_97 (by decide) ?_
            refine v_ialdN (I := iX10_go) (j := 7) (by decide) (by decide) (by decide) dX10_go_99 (by decide) (ae_88 _ _) ?_
            rw [hg]
            refine v_imul (I := iX10_go) dX10_go_100 ?_
            refine v_isub (I := iX10_go) dX10_go_101 ?_
            rw [show gTenths _ q 10 - 10 * gTenths _ q 7 = goF (ρ 88) q k from rfl]
            refine v_callVi (I := iX10_go) (I' := iX10_putBack) lk_X10_267 c_X10_putBack dX10_go_102 (m_X10_putBack) rfl rfl (by decide) (ae_87 _ _) rfl (by decide) (by decide) (Nat.le_of_ble_eq_true rfl) ?_
            refine v_istore (I := iX10_go) (ls1 := [(5, _), (4, _), (3, _), (2, _), (0, _), (1, _)]) dX10_go_105 (by decide) rfl ?_
            refine v_iload_n (I := iX10_go) dX10_go_107 rfl ?_
            refine v_if_lt (I := iX10_go) (tgt := 117) dX10_go_108 (by decide) (fun c108 => ?_) (fun c108 => ?_)
            · have ha : argN gtB (goF (ρ 88) q) (k + 1) = some k := arg_t1 (by omega) (by rw [← hx2]; exact c108)
              have e3 : (goF (ρ 88) q) k = aL (goF (ρ 88) q) 0 (argN gtB (goF (ρ 88) q) (k + 1)) := by rw [ha]; rfl
              have e2 : nI k = aB (-1) (argN gtB (goF (ρ 88) q) (k + 1)) := by rw [ha]; exact hk
              refine v_iload (I := iX10_go) dX10_go_117 rfl ?_
              refine v_istore_n (I := iX10_go) (ls1 := [(2, _), (5, _), (4, _), (3, _), (0, _), (1, _)]) dX10_go_119 (by decide) rfl ?_
              refine v_iload (I := iX10_go) dX10_go_120 rfl ?_
              refine v_istore_n (I := iX10_go) (ls1 := [(3, _), (2, _), (5, _), (4, _), (0, _), (1, _)]) dX10_go_122 (by decide) rfl ?_
              refine v_iinc (I := iX10_go) (ls1 := [(4, _), (3, _), (2, _), (5, _), (0, _), (1, _)]) dX10_go_123 rfl rfl (by decide) rfl ?_
              refine v_goto (I := iX10_go) (tgt := 50) dX10_go_126 (by decide) ?_
              refine v_pick (I := iX10_go) (ls1 := [(4, _), (3, _), (2, _), (0, _), (1, _)]) [0, 1, 2, 4, 5] rfl ?_
              exact ih (k + 1) (by omega) (va_up_s _ _ _ |>.trans h90k) ((va_up_o _ _ (by decide)).trans h90k) hFk (by rw [hk]; exact nI_1 k) e3 e2
            · refine v_iload (I := iX10_go) dX10_go_111 rfl ?_
              refine v_iload_n (I := iX10_go) dX10_go_113 rfl ?_
              refine v_icmp_le (I := iX10_go) (tgt := 123) dX10_go_114 (by decide) (fun c114 => ?_) (fun c114 => ?_)
              · have ha : argN gtB (goF (ρ 88) q) (k + 1) = argN gtB (goF (ρ 88) q) k := arg_f1 (z := 0) (by omega) (by rw [← hx2]; exact c108) (by rw [← hx3]; unfold gtB; grind)
                have e3 : x3 = aL (goF (ρ 88) q) 0 (argN gtB (goF (ρ 88) q) (k + 1)) := by rw [ha]; exact hx3
                have e2 : x2 = aB (-1) (argN gtB (goF (ρ 88) q) (k + 1)) := by rw [ha]; exact hx2
                refine v_iinc (I := iX10_go) (ls1 := [(4, _), (5, _), (3, _), (2, _), (0, _), (1, _)]) dX10_go_123 rfl rfl (by decide) rfl ?_
                refine v_goto (I := iX10_go) (tgt := 50) dX10_go_126 (by decide) ?_
                refine v_pick (I := iX10_go) (ls1 := [(4, _), (3, _), (2, _), (0, _), (1, _)]) [0, 2, 3, 4, 5] rfl ?_
                exact ih (k + 1) (by omega) (va_up_s _ _ _ |>.trans h90k) ((va_up_o _ _ (by decide)).trans h90k) hFk (by rw [hk]; exact nI_1 k) e3 e2
              · have ha : argN gtB (goF (ρ 88) q) (k + 1) = some k := arg_t (z := 0) (by rw [← hx3]; unfold gtB; grind)
                have e3 : (goF (ρ 88) q) k = aL (goF (ρ 88) q) 0 (argN gtB (goF (ρ 88) q) (k + 1)) := by rw [ha]; rfl
                have e2 : nI k = aB (-1) (argN gtB (goF (ρ 88) q) (k + 1)) := by rw [ha]; exact hk
                refine v_iload (I := iX10_go) dX10_go_117 rfl ?_
                refine v_istore_n (I := iX10_go) (ls1 := [(2, _), (5, _), (4, _), (3, _), (0, _), (1, _)]) dX10_go_119 (by decide) rfl ?_
                refine v_iload (I := iX10_go) dX10_go_120 rfl ?_
                refine v_istore_n (I := iX10_go) (ls1 := [(3, _), (2, _), (5, _), (4, _), (0, _), (1, _)]) dX10_go_122 (by decide) rfl ?_
                refine v_iinc (I := iX10_go) (ls1 := [(4, _), (3, _), (2, _), (5, _), (0, _), (1, _)]) dX10_go_123 rfl rfl (by decide) rfl ?_
                refine v_goto (I := iX10_go) (tgt := 50) dX10_go_126 (by decide) ?_
                refine v_pick (I := iX10_go) (ls1 := [(4, _), (3, _), (2, _), (0, _), (1, _)]) [0, 1, 2, 4, 5] rfl ?_
                exact ih (k + 1) (by omega) (va_up_s _ _ _ |>.trans h90k) ((va_up_o _ _ (by decide)).trans h90k) hFk (by rw [hk]; exact nI_1 k) e3 e2
      exact key 7 0 (by omega) ((va_up_o _ _ (by decide)).trans hR.1) ((va_up_s _ _ _).trans hR.1) (fun k _ b _ _ => va_up_o _ _ b) rfl rfl rfl
    · refine v_aload_n (I := iX10_go) dX10_go_24 rfl ?_
      refine v_ldcw (I := iX10_go) k_X10_260 dX10_go_25 ?_
      refine v_callVi (I := iX10_go) (I' := iX10_finding) lk_X10_92 c_X10_finding dX10_go_28 (m_X10_findE (e := 3) (by decide) (by decide)) rfl rfl (by decide) (ae_87 _ _) rfl (by decide) (by decide) (Nat.le_of_ble_eq_true rfl) ?_
      exact v_iret (I := iX10_go) rfl dX10_go_31 (by unfold goS; rw [if_pos (by grind), if_pos (by grind)]; exact ⟨rfl, rfl, RR_err hR, FR.up (by decide)⟩)
  · refine v_aload_n (I := iX10_go) dX10_go_7 rfl ?_
    refine v_ldc (I := iX10_go) k_X10_91 dX10_go_8 ?_
    refine v_callVi (I := iX10_go) (I' := iX10_finding) lk_X10_92 c_X10_finding dX10_go_10 (m_X10_findE (e := 1) (by decide) (by decide)) rfl rfl (by decide) (ae_87 _ _) rfl (by decide) (by decide) (Nat.le_of_ble_eq_true rfl) ?_
    exact v_iret (I := iX10_go) rfl dX10_go_13 (by unfold goS; rw [if_neg (by grind)]; exact ⟨rfl, rfl, RR_err hR, FR.up (by decide)⟩)
