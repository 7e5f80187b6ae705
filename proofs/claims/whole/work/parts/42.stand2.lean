set_option maxRecDepth 100000 in
set_option maxHeartbeats 4000000 in
theorem m_X10_stand {G : fGm} {σ : fSt} {τ : fLt} {ρ : fSt} (hR : RR σ ρ) {h n : Int32} : MS G iX10_stand 8 [.ref 87, .int h, .int n] σ τ (rR τ σ (standS ρ h n)) := by
  refine ms_of (by decide +kernel) (Nat.le_of_ble_eq_true rfl) ?_
  show VW _ _ _ _ _ _ 0 [(0, _), (1, _), (2, _)] []
  refine v_aload_n (I := iX10_stand) dX10_stand_0 rfl ?_
  refine v_iload_n (I := iX10_stand) dX10_stand_1 rfl ?_
  refine v_bipush (I := iX10_stand) (v := 14) dX10_stand_2 (by decide) ?_
  refine v_callVi (I := iX10_stand) (I' := iX10_isOf) lk_X10_113 c_X10_isOf dX10_stand_4 (m_X10_isOf (c := 14) (by decide) (by decide)) rfl rfl (by decide) (ae_87 _ _) rfl (by decide) (by decide) (Nat.le_of_ble_eq_true rfl) ?_
  rw [hR.1]
  refine v_if_eqB (I := iX10_stand) (tgt := 20) dX10_stand_7 (by decide) (fun c7 => ?_) (fun c7 => ?_)
  · refine v_aload_n (I := iX10_stand) dX10_stand_20 rfl ?_
    refine v_ldc (I := iX10_stand) k_X10_91 dX10_stand_21 ?_
    refine v_callVi (I := iX10_stand) (I' := iX10_finding) lk_X10_92 c_X10_finding dX10_stand_23 (m_X10_findE (e := 1) (by decide) (by decide)) rfl rfl (by decide) (ae_87 _ _) rfl (by decide) (by decide) (Nat.le_of_ble_eq_true rfl) ?_
    exact v_iret (I := iX10_stand) rfl dX10_stand_26 (by unfold standS; rw [if_neg (by grind)]; exact ⟨rfl, rfl, RR_err hR, FR.up (by decide)⟩)
  · refine v_iload_n (I := iX10_stand) dX10_stand_10 rfl ?_
    refine v_iconst (I := iX10_stand) (v := 0) dX10_stand_11 (by decide) ?_
    refine v_bipush (I := iX10_stand) (v := 60) dX10_stand_12 (by decide) ?_
    refine v_callSi (I := iX10_stand) (I' := iX10_within) lk_X10_79 c_X10_within dX10_stand_14 (m_X10_within) rfl rfl (by decide) (by decide) (Nat.le_of_ble_eq_true rfl) ?_
    refine v_if_neB (I := iX10_stand) (tgt := 27) dX10_stand_17 (by decide) (fun c17 => ?_) (fun c17 => ?_)
    · refine v_aload_n (I := iX10_stand) dX10_stand_27 rfl ?_
      refine v_get (I := iX10_stand) g_X10_9 dX10_stand_28 (by decide) (ae_87 _ _) rfl ?_
      refine v_aload_n (I := iX10_stand) dX10_stand_31 rfl ?_
      refine v_get (I := iX10_stand) g_X10_16 dX10_stand_32 (by decide) (ae_87 _ _) rfl ?_
      refine v_callSv (I := iX10_stand) (I' := iX10_copy) lk_X10_83 c_X10_copy dX10_stand_35 (m_X10_copy (by decide) (by decide) (ae_88) (ae_90) (by decide)) rfl rfl (by decide) (by decide) (Nat.le_of_ble_eq_true rfl) ?_
      refine v_iconst (I := iX10_stand) (v := -1) dX10_stand_38 (by decide) ?_
      refine v_istore_n (I := iX10_stand) (ls1 := [(3, _), (0, _), (1, _), (2, _)]) dX10_stand_39 (by decide) rfl ?_
      refine v_iconst (I := iX10_stand) (v := 0) dX10_stand_40 (by decide) ?_
      refine v_istore (I := iX10_stand) (ls1 := [(4, _), (3, _), (0, _), (1, _), (2, _)]) dX10_stand_41 (by decide) rfl ?_
      refine v_iconst (I := iX10_stand) (v := 0) dX10_stand_43 (by decide) ?_
      refine v_istore (I := iX10_stand) (ls1 := [(5, _), (4, _), (3, _), (0, _), (1, _), (2, _)]) dX10_stand_44 (by decide) rfl ?_
      obtain ⟨q, hq, hqx⟩ : ∃ q, q < 61 ∧ n = nI q := in2_nI (by decide) ⟨by grind, by show n < 61; grind⟩
      have hqc : n.toNatClampNeg = q := by rw [hqx]; exact nI_clamp (by omega)
      have hb9 := B_n14 hR.2.2.2.2.2.2.2.2.2.2.2.1.1
      obtain ⟨p, hp, hpx⟩ := nI8 (x := h) (by grind)
      have hpc : h.toNatClampNeg = p := by rw [hpx]; exact nI_clamp (by omega)
      have key : ∀ (m k : Nat) {σ9 : fSt} {y x2 x3 : Int32}, k + m = 100 → σ9 88 = ρ 88 → σ9 90 = ρ 88 → FrB σ σ9 → y = nI k → x3 = aL (standF (ρ 88) p q) (0) (argN gtB (standF (ρ 88) p q) k) → x2 = aB (-1) (argN gtB (standF (ρ 88) p q) k) → VW G iX10_stand (rR τ σ (standS ρ h n)) 8 σ9 τ 46 [(5, .int y), (4, .int x3), (3, .int x2), (0, .ref 87), (1, .int h), (2, .int n)] [] := by
        intro m
        induction m with
        | zero =>
          intro k σ9 y x2 x3 hkm h88 h90 hF9 hk hx3 hx2
          have hkN : k = 100 := hkm
          skip
          show VW _ _ _ _ _ _ 46 [(5, _), (4, _), (3, _), (0, _), (1, _), (2, _)] []
          refine v_iload (I := iX10_stand) dX10_stand_46 rfl ?_
          refine v_bipush (I := iX10_stand) (v := 100) dX10_stand_48 (by decide) ?_
          refine v_icmp_ge (I := iX10_stand) (tgt := 110) dX10_stand_50 (by decide) (fun c50 => ?_) (fun c50 => ?_)
          · refine v_iload_n (I := iX10_stand) dX10_stand_110 rfl ?_
            exact v_iret (I := iX10_stand) rfl dX10_stand_111 (by unfold standS; rw [if_pos (by grind), hqc, hpc, ← hkN]; exact ⟨by rw [hx2, aB_s (by omega)], rfl, RR_b2 hR h88 h90 hF9, hF9.R⟩)
          · exact absurd (by rw [hk, hkN]; decide) c50
        | succ m ih =>
          intro k σ9 y x2 x3 hkm h88 h90 hF9 hk hx3 hx2
          have hk8 : k < 100 := by omega
          have hy := hk
          subst hy
          have hk : nI k = nI k := rfl
          show VW _ _ _ _ _ _ 46 [(5, _), (4, _), (3, _), (0, _), (1, _), (2, _)] []
          refine v_iload (I := iX10_stand) dX10_stand_46 rfl ?_
          refine v_bipush (I := iX10_stand) (v := 100) dX10_stand_48 (by decide) ?_
          refine v_icmp_ge (I := iX10_stand) (tgt := 110) dX10_stand_50 (by decide) (fun c50 => ?_) (fun c50 => ?_)
          · exact absurd c50 (by rw [hk]; exact nI_ge (a := k) (b := 100) (by omega) (by decide))
          · refine v_aload_n (I := iX10_stand) dX10_stand_53 rfl ?_
            refine v_get (I := iX10_stand) g_X10_9 dX10_stand_54 (by decide) (ae_87 _ _) rfl ?_
            refine v_bipush (I := iX10_stand) (v := 39) dX10_stand_57 (by decide) ?_
            refine v_iconst (I := iX10_stand) (v := 3) dX10_stand_59 (by decide) ?_
            refine v_iload_n (I := iX10_stand) dX10_stand_60 rfl ?_
            refine v_imul (I := iX10_stand) dX10_stand_61 ?_
            refine v_iadd (I := iX10_stand) dX10_stand_62 ?_
            refine v_iconst (I := iX10_stand) (v := 0) dX10_stand_63 (by decide) ?_
            refine v_iadd (I := iX10_stand) dX10_stand_64 ?_
            refine v_iload (I := iX10_stand) dX10_stand_65 rfl ?_
            refine v_iastN (I := iX10_stand) (j := (39 + 3 * p + 0)) (by rw [hpx]; exact ix3 39 39 rfl p 0) (by omega) (by decide) dX10_stand_67 (by decide) (fun _ => ae_88 _ _) ?_
            refine v_aload_n (I := iX10_stand) dX10_stand_68 rfl ?_
            refine v_iload_n (I := iX10_stand) dX10_stand_69 rfl ?_
            refine v_callVvP (I := iX10_stand) (I' := iX10_tenthsGo) lk_X10_261 c_X10_tenthsGo dX10_stand_70 (m_X10_tenthsGo (by rw [up2_f, h88]; exact IV_standF hR.2.2.2.2.2.2.2.2.2.2.2.1 hp hk8) hqx (by omega)) rfl rfl (by decide) (ae_87 _ _) rfl (by decide) (by decide) (Nat.le_of_ble_eq_true rfl) (fun s70 h70 => ?_)
            have hg : s70 88 = gTenths (va_up (ρ 88) (39 + 3 * p + 0) (nI k)) q := by rw [h70.1, up2_f, h88]
            have h90k : s70 90 = ρ 88 := h70.2.b90.trans h90
            have hFk := hF9.step h70.2
            refine v_aload_n (I := iX10_stand) dX10_stand_73 rfl ?_
            refine v_aload_n (I := iX10_stand) dX10_stand_74 rfl ?_
            refine v_get (I := iX10_stand) g_X10_9 dX10_stand_75 (by decide) (ae_87 _ _) rfl ?_
            refine v_bipush (I := iX10_stand) (v := 10) dX10_stand_78 (by decide) ?_
            refine v_ialdN (I := iX10_stand) (j := 10) (by decide) (by decide) (by decide) dX10_stand_80 (by decide) (ae_88 _ _) ?_
            rw [hg, show gTenths _ q 10 = standF (ρ 88) p q k from rfl]
            refine v_callVi (I := iX10_stand) (I' := iX10_putBack) lk_X10_267 c_X10_putBack dX10_stand_81 (m_X10_putBack) rfl rfl (by decide) (ae_87 _ _) rfl (by decide) (by decide) (Nat.le_of_ble_eq_true rfl) ?_
            refine v_istore (I := iX10_stand) (ls1 := [(6, _), (5, _), (4, _), (3, _), (0, _), (1, _), (2, _)]) dX10_stand_84 (by decide) rfl ?_
            refine v_iload_n (I := iX10_stand) dX10_stand_86 rfl ?_
            refine v_if_lt (I := iX10_stand) (tgt := 97) dX10_stand_87 (by decide) (fun c87 => ?_) (fun c87 => ?_)
            · have ha : argN gtB (standF (ρ 88) p q) (k + 1) = some k := arg_t1 (by omega) (by rw [← hx2]; exact c87)
              have e3 : (standF (ρ 88) p q) k = aL (standF (ρ 88) p q) 0 (argN gtB (standF (ρ 88) p q) (k + 1)) := by rw [ha]; rfl
              have e2 : nI k = aB (-1) (argN gtB (standF (ρ 88) p q) (k + 1)) := by rw [ha]; exact hk
              refine v_iload (I := iX10_stand) dX10_stand_97 rfl ?_
              refine v_istore_n (I := iX10_stand) (ls1 := [(3, _), (6, _), (5, _), (4, _), (0, _), (1, _), (2, _)]) dX10_stand_99 (by decide) rfl ?_
              refine v_iload (I := iX10_stand) dX10_stand_100 rfl ?_
              refine v_istore (I := iX10_stand) (ls1 := [(4, _), (3, _), (6, _), (5, _), (0, _), (1, _), (2, _)]) dX10_stand_102 (by decide) rfl ?_
              refine v_iinc (I := iX10_stand) (ls1 := [(5, _), (4, _), (3, _), (6, _), (0, _), (1, _), (2, _)]) dX10_stand_104 rfl rfl (by decide) rfl ?_
              refine v_goto (I := iX10_stand) (tgt := 46) dX10_stand_107 (by decide) ?_
              refine v_pick (I := iX10_stand) (ls1 := [(5, _), (4, _), (3, _), (0, _), (1, _), (2, _)]) [0, 1, 2, 4, 5, 6] rfl ?_
              exact ih (k + 1) (by omega) (va_up_s _ _ _ |>.trans h90k) ((va_up_o _ _ (by decide)).trans h90k) hFk (by rw [hk]; exact nI_1 k) e3 e2
            · refine v_iload (I := iX10_stand) dX10_stand_90 rfl ?_
              refine v_iload (I := iX10_stand) dX10_stand_92 rfl ?_
              refine v_icmp_le (I := iX10_stand) (tgt := 104) dX10_stand_94 (by decide) (fun c94 => ?_) (fun c94 => ?_)
              · have ha : argN gtB (standF (ρ 88) p q) (k + 1) = argN gtB (standF (ρ 88) p q) k := arg_f1 (z := 0) (by omega) (by rw [← hx2]; exact c87) (by rw [← hx3]; unfold gtB; grind)
                have e3 : x3 = aL (standF (ρ 88) p q) 0 (argN gtB (standF (ρ 88) p q) (k + 1)) := by rw [ha]; exact hx3
                have e2 : x2 = aB (-1) (argN gtB (standF (ρ 88) p q) (k + 1)) := by rw [ha]; exact hx2
                refine v_iinc (I := iX10_stand) (ls1 := [(5, _), (6, _), (4, _), (3, _), (0, _), (1, _), (2, _)]) dX10_stand_104 rfl rfl (by decide) rfl ?_
                refine v_goto (I := iX10_stand) (tgt := 46) dX10_stand_107 (by decide) ?_
                refine v_pick (I := iX10_stand) (ls1 := [(5, _), (4, _), (3, _), (0, _), (1, _), (2, _)]) [0, 2, 3, 4, 5, 6] rfl ?_
                exact ih (k + 1) (by omega) (va_up_s _ _ _ |>.trans h90k) ((va_up_o _ _ (by decide)).trans h90k) hFk (by rw [hk]; exact nI_1 k) e3 e2
              · have ha : argN gtB (standF (ρ 88) p q) (k + 1) = some k := arg_t (z := 0) (by rw [← hx3]; unfold gtB; grind)
                have e3 : (standF (ρ 88) p q) k = aL (standF (ρ 88) p q) 0 (argN gtB (standF (ρ 88) p q) (k + 1)) := by rw [ha]; rfl
                have e2 : nI k = aB (-1) (argN gtB (standF (ρ 88) p q) (k + 1)) := by rw [ha]; exact hk
                refine v_iload (I := iX10_stand) dX10_stand_97 rfl ?_
                refine v_istore_n (I := iX10_stand) (ls1 := [(3, _), (6, _), (5, _), (4, _), (0, _), (1, _), (2, _)]) dX10_stand_99 (by decide) rfl ?_
                refine v_iload (I := iX10_stand) dX10_stand_100 rfl ?_
                refine v_istore (I := iX10_stand) (ls1 := [(4, _), (3, _), (6, _), (5, _), (0, _), (1, _), (2, _)]) dX10_stand_102 (by decide) rfl ?_
                refine v_iinc (I := iX10_stand) (ls1 := [(5, _), (4, _), (3, _), (6, _), (0, _), (1, _), (2, _)]) dX10_stand_104 rfl rfl (by decide) rfl ?_
                refine v_goto (I := iX10_stand) (tgt := 46) dX10_stand_107 (by decide) ?_
                refine v_pick (I := iX10_stand) (ls1 := [(5, _), (4, _), (3, _), (0, _), (1, _), (2, _)]) [0, 1, 2, 4, 5, 6] rfl ?_
                exact ih (k + 1) (by omega) (va_up_s _ _ _ |>.trans h90k) ((va_up_o _ _ (by decide)).trans h90k) hFk (by rw [hk]; exact nI_1 k) e3 e2
      exact key 100 0 (by omega) ((va_up_o _ _ (by decide)).trans hR.1) ((va_up_s _ _ _).trans hR.1) (fun k _ b _ _ => va_up_o _ _ b) rfl rfl rfl
    · refine v_aload_n (I := iX10_stand) dX10_stand_20 rfl ?_
      refine v_ldc (I := iX10_stand) k_X10_91 dX10_stand_21 ?_
      refine v_callVi (I := iX10_stand) (I' := iX10_finding) lk_X10_92 c_X10_finding dX10_stand_23 (m_X10_findE (e := 1) (by decide) (by decide)) rfl rfl (by decide) (ae_87 _ _) rfl (by decide) (by decide) (Nat.le_of_ble_eq_true rfl) ?_
      exact v_iret (I := iX10_stand) rfl dX10_stand_26 (by unfold standS; rw [if_neg (by grind)]; exact ⟨rfl, rfl, RR_err hR, FR.up (by decide)⟩)
