set_option maxRecDepth 100000 in
set_option maxHeartbeats 4000000 in
theorem m_X9_stand {G : fGm} {σ : fSt} {τ : fLt} {ρ : fSt} (hC : CR σ ρ) {h n : Int32} : MS G iX9_stand 8 [.ref 0, .int h, .int n] σ τ (rC τ σ (standS ρ h n)) := by
  refine ms_of (by decide +kernel) (Nat.le_of_ble_eq_true rfl) ?_
  show VW _ _ _ _ _ _ 0 [(0, _), (1, _), (2, _)] []
  refine v_aload_n (I := iX9_stand) dX9_stand_0 rfl ?_
  refine v_iload_n (I := iX9_stand) dX9_stand_1 rfl ?_
  refine v_callVi (I := iX9_stand) (I' := iX9_isHold) lk_X9_93 c_X9_isHold dX9_stand_2 (m_X9_isHold hC.1) rfl rfl (by decide) (ae_0 _ _) rfl (by decide) (by decide) (Nat.le_of_ble_eq_true rfl) ?_
  refine v_if_eqB (I := iX9_stand) (tgt := 18) dX9_stand_5 (by decide) (fun c5 => ?_) (fun c5 => ?_)
  · refine v_aload_n (I := iX9_stand) dX9_stand_18 rfl ?_
    refine v_iconst (I := iX9_stand) (v := 1) dX9_stand_19 (by decide) ?_
    refine v_callVi (I := iX9_stand) (I' := iX9_refused) lk_X9_62 c_X9_refused dX9_stand_20 (m_X9_refused (e := 1) (by decide) (by decide) (by decide)) rfl rfl (by decide) (ae_0 _ _) rfl (by decide) (by decide) (Nat.le_of_ble_eq_true rfl) ?_
    exact v_iret (I := iX9_stand) rfl dX9_stand_23 (by unfold standS; rw [if_neg (by grind)]; exact ⟨rfl, rfl, CR_err hC (by decide) (by decide), FC.up (by decide)⟩)
  · refine v_iload_n (I := iX9_stand) dX9_stand_8 rfl ?_
    refine v_iconst (I := iX9_stand) (v := 0) dX9_stand_9 (by decide) ?_
    refine v_bipush (I := iX9_stand) (v := 60) dX9_stand_10 (by decide) ?_
    refine v_callSi (I := iX9_stand) (I' := iX9_within) lk_X9_58 c_X9_within dX9_stand_12 (m_X9_within) rfl rfl (by decide) (by decide) (Nat.le_of_ble_eq_true rfl) ?_
    refine v_if_neB (I := iX9_stand) (tgt := 24) dX9_stand_15 (by decide) (fun c15 => ?_) (fun c15 => ?_)
    · refine v_iconst (I := iX9_stand) (v := 0) dX9_stand_24 (by decide) ?_
      refine v_istore_n (I := iX9_stand) (ls1 := [(3, _), (0, _), (1, _), (2, _)]) dX9_stand_25 (by decide) rfl ?_
      refine v_iconst (I := iX9_stand) (v := -1) dX9_stand_26 (by decide) ?_
      refine v_istore (I := iX9_stand) (ls1 := [(4, _), (3, _), (0, _), (1, _), (2, _)]) dX9_stand_27 (by decide) rfl ?_
      refine v_iconst (I := iX9_stand) (v := 0) dX9_stand_29 (by decide) ?_
      refine v_istore (I := iX9_stand) (ls1 := [(5, _), (4, _), (3, _), (0, _), (1, _), (2, _)]) dX9_stand_30 (by decide) rfl ?_
      obtain ⟨q, hq, hqx⟩ : ∃ q, q < 61 ∧ n = nI q := in2_nI (by decide) ⟨by grind, by show n < 61; grind⟩
      have hqc : n.toNatClampNeg = q := by rw [hqx]; exact nI_clamp (by omega)
      have hb9 := B_n14 hC.2.2.2.2.2.1.1
      obtain ⟨p, hp, hpx⟩ := nI8 (x := h) (by grind)
      have hpc : h.toNatClampNeg = p := by rw [hpx]; exact nI_clamp (by omega)
      have key : ∀ (m k : Nat) {σ9 : fSt} {y x2 x3 : Int32}, k + m = 100 → FrW 2 σ σ9 → y = nI k → x3 = aL (standF (ρ 88) p q) ((-1)) (argN gtB (standF (ρ 88) p q) k) → x2 = aB 0 (argN gtB (standF (ρ 88) p q) k) → VW G iX9_stand (rC τ σ (standS ρ h n)) 8 σ9 τ 32 [(5, .int y), (4, .int x3), (3, .int x2), (0, .ref 0), (1, .int h), (2, .int n)] [] := by
        intro m
        induction m with
        | zero =>
          intro k σ9 y x2 x3 hkm hF9 hk hx3 hx2
          have hkN : k = 100 := hkm
          have hV9 := (CR_ahead hC hF9).1
          show VW _ _ _ _ _ _ 32 [(5, _), (4, _), (3, _), (0, _), (1, _), (2, _)] []
          refine v_iload (I := iX9_stand) dX9_stand_32 rfl ?_
          refine v_bipush (I := iX9_stand) (v := 100) dX9_stand_34 (by decide) ?_
          refine v_icmp_ge (I := iX9_stand) (tgt := 111) dX9_stand_36 (by decide) (fun c36 => ?_) (fun c36 => ?_)
          · refine v_iload_n (I := iX9_stand) dX9_stand_111 rfl ?_
            exact v_iret (I := iX9_stand) rfl dX9_stand_112 (by unfold standS; rw [if_pos (by grind), hqc, hpc, ← hkN, ← hx2]; exact ⟨rfl, rfl, CR_ahead hC hF9, FrW.C (by decide) hF9⟩)
          · exact absurd (by rw [hk, hkN]; decide) c36
        | succ m ih =>
          intro k σ9 y x2 x3 hkm hF9 hk hx3 hx2
          have hV9 := (CR_ahead hC hF9).1
          have hk8 : k < 100 := by omega
          have hy := hk
          subst hy
          have hk : nI k = nI k := rfl
          show VW _ _ _ _ _ _ 32 [(5, _), (4, _), (3, _), (0, _), (1, _), (2, _)] []
          refine v_iload (I := iX9_stand) dX9_stand_32 rfl ?_
          refine v_bipush (I := iX9_stand) (v := 100) dX9_stand_34 (by decide) ?_
          refine v_icmp_ge (I := iX9_stand) (tgt := 111) dX9_stand_36 (by decide) (fun c36 => ?_) (fun c36 => ?_)
          · exact absurd c36 (by rw [hk]; exact nI_ge (a := k) (b := 100) (by omega) (by decide))
          · refine v_aload_n (I := iX9_stand) dX9_stand_39 rfl ?_
            refine v_get (I := iX9_stand) g_X9_19 dX9_stand_40 (by decide) (ae_0 _ _) rfl ?_
            refine v_aload_n (I := iX9_stand) dX9_stand_43 rfl ?_
            refine v_get (I := iX9_stand) g_X9_10 dX9_stand_44 (by decide) (ae_0 _ _) rfl ?_
            refine v_callVvP (I := iX9_stand) (I' := iX8_become) lk_X9_204 c_X8_become dX9_stand_47 (m_X8_become_20) rfl rfl (by decide) (ae_w0 (by decide) _ _) rfl (by decide) (by decide) (Nat.le_of_ble_eq_true rfl) (fun s47 h47 => ?_)
            refine v_aload_n (I := iX9_stand) dX9_stand_50 rfl ?_
            refine v_get (I := iX9_stand) g_X9_19 dX9_stand_51 (by decide) (ae_0 _ _) rfl ?_
            refine v_get (I := iX9_stand) g_X9_66 dX9_stand_54 (by decide) (ae_w0 (by decide) _ _) rfl ?_
            refine v_get (I := iX9_stand) g_X9_222 dX9_stand_57 (by decide) (ae_w2 (by decide) _ _) rfl ?_
            refine v_iload_n (I := iX9_stand) dX9_stand_60 rfl ?_
            refine v_iload (I := iX9_stand) dX9_stand_61 rfl ?_
            refine v_callSi (I := iX9_stand) (I' := iX9_exchange) lk_X9_78 c_X9_exchange dX9_stand_63 (m_X9_exchange (by decide) (ae_w5 (by decide)) (by decide)) rfl rfl (by decide) (by decide) (Nat.le_of_ble_eq_true rfl) ?_
            rw [wrA_eq hpx hp (by decide)]
            have hVp := (V_holdU (x := nI k) (h47.1 _ hV9) hp).1
            refine v_pop (I := iX9_stand) dX9_stand_66 rfl ?_
            refine v_aload_n (I := iX9_stand) dX9_stand_67 rfl ?_
            refine v_get (I := iX9_stand) g_X9_19 dX9_stand_68 (by decide) (ae_0 _ _) rfl ?_
            refine v_iload_n (I := iX9_stand) dX9_stand_71 rfl ?_
            refine v_callVvP (I := iX9_stand) (I' := iX8_pass) lk_X9_198 c_X8_pass dX9_stand_72 (m_X8_pass (by decide) hVp (IV_standF hC.2.2.2.2.2.1 hp hk8) hqx (by omega)) rfl rfl (by decide) (ae_w0 (by decide) _ _) rfl (by decide) (by decide) (Nat.le_of_ble_eq_true rfl) (fun s72 h72 => ?_)
            have hFk : FrW 2 σ s72 := (hF9.tr (h47.2.tr (FrW.up (by decide)))).tr h72.2
            refine v_aload_n (I := iX9_stand) dX9_stand_75 rfl ?_
            refine v_get (I := iX9_stand) g_X9_19 dX9_stand_76 (by decide) (ae_0 _ _) rfl ?_
            refine v_get (I := iX9_stand) g_X9_114 dX9_stand_79 (by decide) (ae_w0 (by decide) _ _) rfl ?_
            refine v_bipush (I := iX9_stand) (v := 10) dX9_stand_82 (by decide) ?_
            refine v_ialdN (I := iX9_stand) (j := 10) (by decide) (by decide) (by decide) dX9_stand_84 (by decide) (ae_w1 (by decide) _ _) ?_
            rw [V_child h72.1 (by decide), show gTenths _ q 10 = standF (ρ 88) p q k from rfl]
            refine v_iload (I := iX9_stand) dX9_stand_85 rfl ?_
            refine v_icmp_le (I := iX9_stand) (tgt := 105) dX9_stand_87 (by decide) (fun c87 => ?_) (fun c87 => ?_)
            · have ha : argN gtB (standF (ρ 88) p q) (k + 1) = argN gtB (standF (ρ 88) p q) k := arg_f (z := (-1)) (by rw [← hx3]; unfold gtB; grind) (standF_z hC.2.2.2.2.2.1 hp hk8)
              have e3 : x3 = aL (standF (ρ 88) p q) ((-1)) (argN gtB (standF (ρ 88) p q) (k + 1)) := by rw [ha]; exact hx3
              have e2 : x2 = aB 0 (argN gtB (standF (ρ 88) p q) (k + 1)) := by rw [ha]; exact hx2
              refine v_iinc (I := iX9_stand) (ls1 := [(5, _), (4, _), (3, _), (0, _), (1, _), (2, _)]) dX9_stand_105 rfl rfl (by decide) rfl ?_
              refine v_goto (I := iX9_stand) (tgt := 32) dX9_stand_108 (by decide) ?_
              refine v_pick (I := iX9_stand) (ls1 := [(5, _), (4, _), (3, _), (0, _), (1, _), (2, _)]) [0, 1, 2, 3, 4, 5] rfl ?_
              exact ih (k + 1) (by omega) hFk (by rw [hk]; exact nI_1 k) e3 e2
            · have ha : argN gtB (standF (ρ 88) p q) (k + 1) = some k := arg_t (z := (-1)) (by rw [← hx3]; unfold gtB; grind)
              have e3 : (standF (ρ 88) p q) k = aL (standF (ρ 88) p q) ((-1)) (argN gtB (standF (ρ 88) p q) (k + 1)) := by rw [ha]; rfl
              have e2 : nI k = aB 0 (argN gtB (standF (ρ 88) p q) (k + 1)) := by rw [ha]; exact hk
              refine v_aload_n (I := iX9_stand) dX9_stand_90 rfl ?_
              refine v_get (I := iX9_stand) g_X9_19 dX9_stand_91 (by decide) (ae_0 _ _) rfl ?_
              refine v_get (I := iX9_stand) g_X9_114 dX9_stand_94 (by decide) (ae_w0 (by decide) _ _) rfl ?_
              refine v_bipush (I := iX9_stand) (v := 10) dX9_stand_97 (by decide) ?_
              refine v_ialdN (I := iX9_stand) (j := 10) (by decide) (by decide) (by decide) dX9_stand_99 (by decide) (ae_w1 (by decide) _ _) ?_
              rw [V_child h72.1 (by decide), show gTenths _ q 10 = standF (ρ 88) p q k from rfl]
              refine v_istore (I := iX9_stand) (ls1 := [(4, _), (5, _), (3, _), (0, _), (1, _), (2, _)]) dX9_stand_100 (by decide) rfl ?_
              refine v_iload (I := iX9_stand) dX9_stand_102 rfl ?_
              refine v_istore_n (I := iX9_stand) (ls1 := [(3, _), (4, _), (5, _), (0, _), (1, _), (2, _)]) dX9_stand_104 (by decide) rfl ?_
              refine v_iinc (I := iX9_stand) (ls1 := [(5, _), (3, _), (4, _), (0, _), (1, _), (2, _)]) dX9_stand_105 rfl rfl (by decide) rfl ?_
              refine v_goto (I := iX9_stand) (tgt := 32) dX9_stand_108 (by decide) ?_
              refine v_pick (I := iX9_stand) (ls1 := [(5, _), (4, _), (3, _), (0, _), (1, _), (2, _)]) [0, 2, 1, 3, 4, 5] rfl ?_
              exact ih (k + 1) (by omega) hFk (by rw [hk]; exact nI_1 k) e3 e2
      exact key 100 0 (by omega) FrW.rf rfl rfl rfl
    · refine v_aload_n (I := iX9_stand) dX9_stand_18 rfl ?_
      refine v_iconst (I := iX9_stand) (v := 1) dX9_stand_19 (by decide) ?_
      refine v_callVi (I := iX9_stand) (I' := iX9_refused) lk_X9_62 c_X9_refused dX9_stand_20 (m_X9_refused (e := 1) (by decide) (by decide) (by decide)) rfl rfl (by decide) (ae_0 _ _) rfl (by decide) (by decide) (Nat.le_of_ble_eq_true rfl) ?_
      exact v_iret (I := iX9_stand) rfl dX9_stand_23 (by unfold standS; rw [if_neg (by grind)]; exact ⟨rfl, rfl, CR_err hC (by decide) (by decide), FC.up (by decide)⟩)
