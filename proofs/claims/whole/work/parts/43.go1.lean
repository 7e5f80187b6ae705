set_option maxRecDepth 100000 in
set_option maxHeartbeats 4000000 in
theorem m_X9_go {G : fGm} {σ : fSt} {τ : fLt} {ρ : fSt} (hC : CR σ ρ) {n : Int32} : MS G iX9_go 8 [.ref 0, .int n] σ τ (rC τ σ (goS ρ n)) := by
  refine ms_of (by decide +kernel) (Nat.le_of_ble_eq_true rfl) ?_
  show VW _ _ _ _ _ _ 0 [(0, _), (1, _)] []
  refine v_iload_n (I := iX9_go) dX9_go_0 rfl ?_
  refine v_iconst (I := iX9_go) (v := 0) dX9_go_1 (by decide) ?_
  refine v_sipush (I := iX9_go) (v := 200) dX9_go_2 (by decide) ?_
  refine v_callSi (I := iX9_go) (I' := iX9_within) lk_X9_58 c_X9_within dX9_go_5 (m_X9_within) rfl rfl (by decide) (by decide) (Nat.le_of_ble_eq_true rfl) ?_
  refine v_if_neB (I := iX9_go) (tgt := 17) dX9_go_8 (by decide) (fun c8 => ?_) (fun c8 => ?_)
  · refine v_aload_n (I := iX9_go) dX9_go_17 rfl ?_
    refine v_get (I := iX9_go) g_X9_10 dX9_go_18 (by decide) (ae_0 _ _) rfl ?_
    refine v_get (I := iX9_go) g_X9_120 dX9_go_21 (by decide) (ae_w0 (by decide) _ _) rfl ?_
    refine v_get (I := iX9_go) g_X9_124 dX9_go_24 (by decide) (ae_w8 (by decide) _ _) rfl ?_
    rw [V_n15 hC.1]
    refine v_if_ne (I := iX9_go) (tgt := 36) dX9_go_27 (by decide) (fun c27 => ?_) (fun c27 => ?_)
    · refine v_iconst (I := iX9_go) (v := 0) dX9_go_36 (by decide) ?_
      refine v_istore_n (I := iX9_go) (ls1 := [(2, _), (0, _), (1, _)]) dX9_go_37 (by decide) rfl ?_
      refine v_ldc (I := iX9_go) k_X9_245 dX9_go_38 ?_
      refine v_istore_n (I := iX9_go) (ls1 := [(3, _), (2, _), (0, _), (1, _)]) dX9_go_40 (by decide) rfl ?_
      refine v_iconst (I := iX9_go) (v := 0) dX9_go_41 (by decide) ?_
      refine v_istore (I := iX9_go) (ls1 := [(4, _), (3, _), (2, _), (0, _), (1, _)]) dX9_go_42 (by decide) rfl ?_
      obtain ⟨q, hq, hqx⟩ : ∃ q, q < 201 ∧ n = nI q := in2_nI (by decide) ⟨by grind, by show n < 201; grind⟩
      have hqc : n.toNatClampNeg = q := by rw [hqx]; exact nI_clamp (by omega)
      have hgn := gNow_x hC.2.2.2.2.2.1.1
      obtain ⟨hgx, hg8⟩ := hgn
      have key : ∀ (m k : Nat) {σ9 : fSt} {y x2 x3 : Int32}, k + m = 7 → FrW 2 σ σ9 → y = nI k → x3 = aL (goF (ρ 88) q) ((-2147483648)) (argN gtB (goF (ρ 88) q) k) → x2 = aB 0 (argN gtB (goF (ρ 88) q) k) → VW G iX9_go (rC τ σ (goS ρ n)) 8 σ9 τ 44 [(4, .int y), (3, .int x3), (2, .int x2), (0, .ref 0), (1, .int n)] [] := by
        intro m
        induction m with
        | zero =>
          intro k σ9 y x2 x3 hkm hF9 hk hx3 hx2
          have hkN : k = 7 := hkm
          have hV9 := (CR_ahead hC hF9).1
          show VW _ _ _ _ _ _ 44 [(4, _), (3, _), (2, _), (0, _), (1, _)] []
          refine v_iload (I := iX9_go) dX9_go_44 rfl ?_
          refine v_bipush (I := iX9_go) (v := 7) dX9_go_46 (by decide) ?_
          refine v_icmp_ge (I := iX9_go) (tgt := 140) dX9_go_48 (by decide) (fun c48 => ?_) (fun c48 => ?_)
          · refine v_iload_n (I := iX9_go) dX9_go_140 rfl ?_
            exact v_iret (I := iX9_go) rfl dX9_go_141 (by unfold goS; rw [if_pos (by grind), if_neg (by grind), hqc, ← hkN, ← hx2]; exact ⟨rfl, rfl, CR_ahead hC hF9, FrW.C (by decide) hF9⟩)
          · exact absurd (by rw [hk, hkN]; decide) c48
        | succ m ih =>
          intro k σ9 y x2 x3 hkm hF9 hk hx3 hx2
          have hV9 := (CR_ahead hC hF9).1
          have hk8 : k < 7 := by omega
          have hy := hk
          subst hy
          have hk : nI k = nI k := rfl
          show VW _ _ _ _ _ _ 44 [(4, _), (3, _), (2, _), (0, _), (1, _)] []
          refine v_iload (I := iX9_go) dX9_go_44 rfl ?_
          refine v_bipush (I := iX9_go) (v := 7) dX9_go_46 (by decide) ?_
          refine v_icmp_ge (I := iX9_go) (tgt := 140) dX9_go_48 (by decide) (fun c48 => ?_) (fun c48 => ?_)
          · exact absurd c48 (by rw [hk]; exact nI_ge (a := k) (b := 7) (by omega) (by decide))
          · refine v_aload_n (I := iX9_go) dX9_go_51 rfl ?_
            refine v_get (I := iX9_go) g_X9_19 dX9_go_52 (by decide) (ae_0 _ _) rfl ?_
            refine v_aload_n (I := iX9_go) dX9_go_55 rfl ?_
            refine v_get (I := iX9_go) g_X9_10 dX9_go_56 (by decide) (ae_0 _ _) rfl ?_
            refine v_callVvP (I := iX9_go) (I' := iX8_become) lk_X9_204 c_X8_become dX9_go_59 (m_X8_become_20) rfl rfl (by decide) (ae_w0 (by decide) _ _) rfl (by decide) (by decide) (Nat.le_of_ble_eq_true rfl) (fun s59 h59 => ?_)
            refine v_aload_n (I := iX9_go) dX9_go_62 rfl ?_
            refine v_get (I := iX9_go) g_X9_19 dX9_go_63 (by decide) (ae_0 _ _) rfl ?_
            refine v_get (I := iX9_go) g_X9_120 dX9_go_66 (by decide) (ae_w0 (by decide) _ _) rfl ?_
            refine v_get (I := iX9_go) g_X9_141 dX9_go_69 (by decide) (ae_w8 (by decide) _ _) rfl ?_
            refine v_aload_n (I := iX9_go) dX9_go_72 rfl ?_
            refine v_get (I := iX9_go) g_X9_10 dX9_go_73 (by decide) (ae_0 _ _) rfl ?_
            refine v_get (I := iX9_go) g_X9_114 dX9_go_76 (by decide) (ae_w0 (by decide) _ _) rfl ?_
            refine v_bipush (I := iX9_go) (v := 11) dX9_go_79 (by decide) ?_
            refine v_ialdN (I := iX9_go) (j := 11) (by decide) (by decide) (by decide) dX9_go_81 (by decide) (ae_w1 (by decide) _ _) ?_
            rw [V_child (CR_ahead hC (hF9.tr h59.2)).1 (by decide)]
            refine v_iload (I := iX9_go) dX9_go_82 rfl ?_
            refine v_callSi (I := iX9_go) (I' := iX9_exchange) lk_X9_78 c_X9_exchange dX9_go_84 (m_X9_exchange (by decide) (ae_w9 (by decide)) (by decide)) rfl rfl (by decide) (by decide) (Nat.le_of_ble_eq_true rfl) ?_
            rw [wrA_eq hgx hg8 (by decide)]
            have hVp := (V_goingU (x := nI k) (h59.1 _ hV9) hg8).1
            refine v_pop (I := iX9_go) dX9_go_87 rfl ?_
            refine v_aload_n (I := iX9_go) dX9_go_88 rfl ?_
            refine v_get (I := iX9_go) g_X9_19 dX9_go_89 (by decide) (ae_0 _ _) rfl ?_
            refine v_iload_n (I := iX9_go) dX9_go_92 rfl ?_
            refine v_callVvP (I := iX9_go) (I' := iX8_pass) lk_X9_198 c_X8_pass dX9_go_93 (m_X8_pass (by decide) hVp (IV_go hC.2.2.2.2.2.1 hk8) hqx (by omega)) rfl rfl (by decide) (ae_w0 (by decide) _ _) rfl (by decide) (by decide) (Nat.le_of_ble_eq_true rfl) (fun s93 h93 => ?_)
            have hFk : FrW 2 σ s93 := (hF9.tr (h59.2.tr (FrW.up (by decide)))).tr h93.2
            refine v_aload_n (I := iX9_go) dX9_go_96 rfl ?_
            refine v_get (I := iX9_go) g_X9_19 dX9_go_97 (by decide) (ae_0 _ _) rfl ?_
            refine v_get (I := iX9_go) g_X9_114 dX9_go_100 (by decide) (ae_w0 (by decide) _ _) rfl ?_
            refine v_bipush (I := iX9_go) (v := 10) dX9_go_103 (by decide) ?_
            refine v_ialdN (I := iX9_go) (j := 10) (by decide) (by decide) (by decide) dX9_go_105 (by decide) (ae_w1 (by decide) _ _) ?_
            rw [V_child h93.1 (by decide)]
            refine v_bipush (I := iX9_go) (v := 10) dX9_go_106 (by decide) ?_
            refine v_aload_n (I := iX9_go) dX9_go_108 rfl ?_
            refine v_get (I := iX9_go) g_X9_19 dX9_go_109 (by decide) (ae_0 _ _) rfl ?_
            refine v_get (I := iX9_go) g_X9_114 dX9_go_112 (by decide) (ae_w0 (by decide) _ _) rfl ?_
            refine v_bipush (I := iX9_go) (v := 7) dX9_go_115 (by decide) ?_
            refine v_ialdN (I := iX9_go) (j := 7) (by decide) (by decide) (by decide) dX9_go_117 (by decide) (ae_w1 (by decide) _ _) ?_
            rw [V_child h93.1 (by decide)]
            refine v_imul (I := iX9_go) dX9_go_118 ?_
            refine v_isub (I := iX9_go) dX9_go_119 ?_
            rw [show gTenths _ q 10 - 10 * gTenths _ q 7 = goF (ρ 88) q k from rfl]
            refine v_istore (I := iX9_go) (ls1 := [(5, _), (4, _), (3, _), (2, _), (0, _), (1, _)]) dX9_go_120 (by decide) rfl ?_
            refine v_iload (I := iX9_go) dX9_go_122 rfl ?_
            refine v_iload_n (I := iX9_go) dX9_go_124 rfl ?_
            refine v_icmp_le (I := iX9_go) (tgt := 134) dX9_go_125 (by decide) (fun c125 => ?_) (fun c125 => ?_)
            · have ha : argN gtB (goF (ρ 88) q) (k + 1) = argN gtB (goF (ρ 88) q) k := arg_f (z := (-2147483648)) (by rw [← hx3]; unfold gtB; grind) (goF_z hC.2.2.2.2.2.1 hk8)
              have e3 : x3 = aL (goF (ρ 88) q) ((-2147483648)) (argN gtB (goF (ρ 88) q) (k + 1)) := by rw [ha]; exact hx3
              have e2 : x2 = aB 0 (argN gtB (goF (ρ 88) q) (k + 1)) := by rw [ha]; exact hx2
              refine v_iinc (I := iX9_go) (ls1 := [(4, _), (5, _), (3, _), (2, _), (0, _), (1, _)]) dX9_go_134 rfl rfl (by decide) rfl ?_
              refine v_goto (I := iX9_go) (tgt := 44) dX9_go_137 (by decide) ?_
              refine v_pick (I := iX9_go) (ls1 := [(4, _), (3, _), (2, _), (0, _), (1, _)]) [0, 2, 3, 4, 5] rfl ?_
              exact ih (k + 1) (by omega) hFk (by rw [hk]; exact nI_1 k) e3 e2
            · have ha : argN gtB (goF (ρ 88) q) (k + 1) = some k := arg_t (z := (-2147483648)) (by rw [← hx3]; unfold gtB; grind)
              have e3 : (goF (ρ 88) q) k = aL (goF (ρ 88) q) ((-2147483648)) (argN gtB (goF (ρ 88) q) (k + 1)) := by rw [ha]; rfl
              have e2 : nI k = aB 0 (argN gtB (goF (ρ 88) q) (k + 1)) := by rw [ha]; exact hk
              refine v_iload (I := iX9_go) dX9_go_128 rfl ?_
              refine v_istore_n (I := iX9_go) (ls1 := [(3, _), (5, _), (4, _), (2, _), (0, _), (1, _)]) dX9_go_130 (by decide) rfl ?_
              refine v_iload (I := iX9_go) dX9_go_131 rfl ?_
              refine v_istore_n (I := iX9_go) (ls1 := [(2, _), (3, _), (5, _), (4, _), (0, _), (1, _)]) dX9_go_133 (by decide) rfl ?_
              refine v_iinc (I := iX9_go) (ls1 := [(4, _), (2, _), (3, _), (5, _), (0, _), (1, _)]) dX9_go_134 rfl rfl (by decide) rfl ?_
              refine v_goto (I := iX9_go) (tgt := 44) dX9_go_137 (by decide) ?_
              refine v_pick (I := iX9_go) (ls1 := [(4, _), (3, _), (2, _), (0, _), (1, _)]) [0, 2, 1, 4, 5] rfl ?_
              exact ih (k + 1) (by omega) hFk (by rw [hk]; exact nI_1 k) e3 e2
      exact key 7 0 (by omega) FrW.rf rfl aL_0 aB_0
    · refine v_aload_n (I := iX9_go) dX9_go_30 rfl ?_
      refine v_iconst (I := iX9_go) (v := 3) dX9_go_31 (by decide) ?_
      refine v_callVi (I := iX9_go) (I' := iX9_refused) lk_X9_62 c_X9_refused dX9_go_32 (m_X9_refused (e := 3) (by decide) (by decide) (by decide)) rfl rfl (by decide) (ae_0 _ _) rfl (by decide) (by decide) (Nat.le_of_ble_eq_true rfl) ?_
      exact v_iret (I := iX9_go) rfl dX9_go_35 (by unfold goS; rw [if_pos (by grind), if_pos (by grind)]; exact ⟨rfl, rfl, CR_err hC (by decide) (by decide), FC.up (by decide)⟩)
  · refine v_aload_n (I := iX9_go) dX9_go_11 rfl ?_
    refine v_iconst (I := iX9_go) (v := 1) dX9_go_12 (by decide) ?_
    refine v_callVi (I := iX9_go) (I' := iX9_refused) lk_X9_62 c_X9_refused dX9_go_13 (m_X9_refused (e := 1) (by decide) (by decide) (by decide)) rfl rfl (by decide) (ae_0 _ _) rfl (by decide) (by decide) (Nat.le_of_ble_eq_true rfl) ?_
    exact v_iret (I := iX9_go) rfl dX9_go_16 (by unfold goS; rw [if_neg (by grind)]; exact ⟨rfl, rfl, CR_err hC (by decide) (by decide), FC.up (by decide)⟩)
