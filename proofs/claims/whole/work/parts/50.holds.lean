abbrev mayH (a b : Int32) : Prop := (0 ≤ a ∧ a ≤ 99) ∧ 0 ≤ b ∧ b ≤ 99
/-- holds of a sheet, told one after another -/
def holdsR (W : Nat → Int32) (N : Nat) : Nat → Nat → gS → Int32 × gS
  | 0, k, g => (nI k, g)
  | m + 1, k, g => if nI (2 * k + 1) < nI N ∧ g 14 < 8 ∧ mayH (W (2 * k)) (W (2 * k + 1)) then holdsR W N m (k + 1) (gStand g (g 14).toNatClampNeg (W (2 * k)) (W (2 * k + 1))) else (nI k, g)
def holdsS (ρ : fSt) (s : Int32) : Int32 × fSt := if 0 ≤ s ∧ s ≤ 3 then (if ρ 101 s.toNatClampNeg = 0 then (errV 2, errS ρ 2) else ((holdsR (fun j => ρ 103 (24 * s.toNatClampNeg + j)) (ρ 102 s.toNatClampNeg).toNatClampNeg 13 0 (ρ 88)).1, rowS ρ (holdsR (fun j => ρ 103 (24 * s.toNatClampNeg + j)) (ρ 102 s.toNatClampNeg).toNatClampNeg 13 0 (ρ 88)).2)) else (errV 1, errS ρ 1)
theorem FrW.s0 {σ s : fSt} (h : FrW 0 σ s) {q : Nat} (hq : q < 4) : s (sc q) = σ (sc q) ∧ s (sc q + 1) = σ (sc q + 1) := ⟨h _ fun c hc => by unfold sc wc; omega, h _ fun c hc => by unfold sc wc; omega⟩
set_option maxRecDepth 100000 in
set_option maxHeartbeats 8000000 in
theorem m_X9_holds {G : fGm} {σ : fSt} {τ : fLt} {ρ : fSt} (hC : CR σ ρ) {s : Int32} : MS G iX9_holds 2 [.ref 0, .int s] σ τ (rC τ σ (holdsS ρ s)) := by
  refine ms_of (by decide +kernel) (Nat.le_of_ble_eq_true rfl) ?_
  show VW _ _ _ _ _ _ 0 [(0, _), (1, _)] []
  by_cases hs : 0 ≤ s ∧ s ≤ 3
  · obtain ⟨q, hq, hqx⟩ : ∃ q, q < 4 ∧ s = nI q := in2_nI (by decide) ⟨hs.1, by show s < 4; have := hs.2; grind⟩
    have hqc : s.toNatClampNeg = q := by rw [hqx]; exact nI_clamp (by omega)
    have hSH := CR_sh hC hq
    obtain ⟨N, hN8, hN⟩ := sz_nI hC.2.2.2.2.2 hq
    have hNc : (ρ 102 q).toNatClampNeg = N := by rw [hN]; exact nI_clamp (by omega)
    refine v_aload_n (I := iX9_holds) dX9_holds_0 rfl ?_
    refine v_iload_n (I := iX9_holds) dX9_holds_1 rfl ?_
    refine v_callVr (I := iX9_holds) (I' := iX9_sheetAt) lk_X9_258 c_X9_sheetAt dX9_holds_2 (m_X9_sheetAt hqx hq) rfl rfl (by decide) (ae_0 _ _) rfl (by decide) (by decide) (Nat.le_of_ble_eq_true rfl) ?_
    refine v_astore_n (I := iX9_holds) (ls1 := [(2, _), (0, _), (1, _)]) dX9_holds_5 (by decide) rfl ?_
    refine v_aload_n (I := iX9_holds) dX9_holds_6 rfl ?_
    refine v_ifnonnull (I := iX9_holds) (tgt := 16) dX9_holds_7 (by decide) ?_
    refine v_aload_n (I := iX9_holds) dX9_holds_16 rfl ?_
    refine v_get (I := iX9_holds) g_X9_266 dX9_holds_17 (sc_lt hq) (ae_s0 hq _ _) rfl ?_
    rw [hSH.1]
    refine v_if_ne (I := iX9_holds) (tgt := 29) dX9_holds_20 (by decide) (fun c20 => ?_) (fun c20 => ?_)
    · refine v_iconst (I := iX9_holds) (v := 0) dX9_holds_29 (by decide) ?_
      refine v_istore_n (I := iX9_holds) (ls1 := [(3, _), (2, _), (0, _), (1, _)]) dX9_holds_30 (by decide) rfl ?_
      refine v_iconst (I := iX9_holds) (v := 0) dX9_holds_31 (by decide) ?_
      refine v_istore (I := iX9_holds) (ls1 := [(4, _), (3, _), (2, _), (0, _), (1, _)]) dX9_holds_32 (by decide) rfl ?_
      have key : ∀ (m k : Nat) {g9 : gS} {σ9 : fSt} {y x3 : Int32}, k + m = 13 → k ≤ 12 → V 0 σ9 g9 → IV g9 → FrW 0 σ σ9 → holdsR (fun j => ρ 103 (24 * q + j)) N m k g9 = holdsR (fun j => ρ 103 (24 * q + j)) N 13 0 (ρ 88) → y = nI (2 * k) → x3 = nI k → VW G iX9_holds (rC τ σ (holdsS ρ s)) 2 σ9 τ 34 [(4, .int y), (3, .int x3), (2, .ref (sc q)), (0, .ref 0), (1, .int s)] [] := by
        intro m
        induction m with
        | zero => intro k g9 σ9 y x3 hkm hk12; exact absurd hkm (by omega)
        | succ m ih =>
          intro k g9 σ9 y x3 hkm hk12 hV9 hI9 hF9 he hk hx3
          subst hk
          subst hx3
          show VW _ _ _ _ _ _ 34 [(4, _), (3, _), (2, _), (0, _), (1, _)] []
          refine v_iload (I := iX9_holds) dX9_holds_34 rfl ?_
          refine v_iconst (I := iX9_holds) (v := 1) dX9_holds_36 (by decide) ?_
          refine v_iadd (I := iX9_holds) dX9_holds_37 ?_
          rw [show nI (2 * k) + 1 = nI (2 * k + 1) from nI_1 _]
          refine v_aload_n (I := iX9_holds) dX9_holds_38 rfl ?_
          refine v_get (I := iX9_holds) g_X9_269 dX9_holds_39 (sc_lt hq) (ae_s0 hq _ _) rfl ?_
          rw [(hF9.s0 hq).1, hSH.2.1 c20, hN]
          refine v_icmp_ge (I := iX9_holds) (tgt := 121) dX9_holds_42 (by decide) (fun c42 => ?_) (fun c42 => ?_)
          · have hlt9 : ¬ nI (2 * k + 1) < nI N := by grind
            refine v_iload_n (I := iX9_holds) dX9_holds_121 rfl ?_
            exact v_iret (I := iX9_holds) rfl dX9_holds_122 (by have hw : holdsR (fun j => ρ 103 (24 * q + j)) N 13 0 (ρ 88) = (nI k, g9) := (by rw [← he, holdsR, if_neg (by first | (exact fun h9 => absurd h9.1 hlt9) | (exact fun h9 => absurd h9.2.1 hc14) | (exact fun h9 => absurd h9.2.2 hmay))]); unfold holdsS; rw [if_pos hs, hqc, if_neg c20, hNc, hw]; exact ⟨rfl, rfl, CR_row hC hV9 hF9 hI9, FrW.C (by decide) hF9⟩)
          · have hcc : nI (2 * k + 1) < nI N := by grind
            have hlt : 2 * k + 1 < N := (nI_ltI (by omega) (by omega)).mp hcc
            refine v_aload_n (I := iX9_holds) dX9_holds_45 rfl ?_
            refine v_get (I := iX9_holds) g_X9_270 dX9_holds_46 (sc_lt hq) (ae_s0 hq _ _) rfl ?_
            refine v_iload (I := iX9_holds) dX9_holds_49 rfl ?_
            refine v_callSi (I := iX9_holds) (I' := iX9_at) lk_X9_104 c_X9_at dX9_holds_51 (m_X9_at (sc1_lt hq) (ae_s1 hq) (by decide)) rfl rfl (by decide) (by decide) (Nat.le_of_ble_eq_true rfl) ?_
            rw [rdA_in (by omega) (by decide), (hF9.s0 hq).2, hSH.2.2 _ (by omega)]
            refine v_istore (I := iX9_holds) (ls1 := [(5, _), (4, _), (3, _), (2, _), (0, _), (1, _)]) dX9_holds_54 (by decide) rfl ?_
            refine v_aload_n (I := iX9_holds) dX9_holds_56 rfl ?_
            refine v_get (I := iX9_holds) g_X9_270 dX9_holds_57 (sc_lt hq) (ae_s0 hq _ _) rfl ?_
            refine v_iload (I := iX9_holds) dX9_holds_60 rfl ?_
            refine v_iconst (I := iX9_holds) (v := 1) dX9_holds_62 (by decide) ?_
            refine v_iadd (I := iX9_holds) dX9_holds_63 ?_
            rw [show nI (2 * k) + 1 = nI (2 * k + 1) from nI_1 _]
            refine v_callSi (I := iX9_holds) (I' := iX9_at) lk_X9_104 c_X9_at dX9_holds_64 (m_X9_at (sc1_lt hq) (ae_s1 hq) (by decide)) rfl rfl (by decide) (by decide) (Nat.le_of_ble_eq_true rfl) ?_
            rw [rdA_in (by omega) (by decide), (hF9.s0 hq).2, hSH.2.2 _ (by omega)]
            refine v_istore (I := iX9_holds) (ls1 := [(6, _), (5, _), (4, _), (3, _), (2, _), (0, _), (1, _)]) dX9_holds_67 (by decide) rfl ?_
            refine v_iload (I := iX9_holds) dX9_holds_69 rfl ?_
            refine v_iload (I := iX9_holds) dX9_holds_71 rfl ?_
            refine v_callSi (I := iX9_holds) (I' := iX3_mayStand) lk_X9_82 c_X3_mayStand dX9_holds_73 (m_X3_mayStand) rfl rfl (by decide) (by decide) (Nat.le_of_ble_eq_true rfl) ?_
            refine v_if_eqB (I := iX9_holds) (tgt := 121) dX9_holds_76 (by decide) (fun c76 => ?_) (fun c76 => ?_)
            · have hmay : ¬ mayH ((fun j => ρ 103 (24 * q + j)) (2 * k)) ((fun j => ρ 103 (24 * q + j)) (2 * k + 1)) := c76
              refine v_iload_n (I := iX9_holds) dX9_holds_121 rfl ?_
              exact v_iret (I := iX9_holds) rfl dX9_holds_122 (by have hw : holdsR (fun j => ρ 103 (24 * q + j)) N 13 0 (ρ 88) = (nI k, g9) := (by rw [← he, holdsR, if_neg (by first | (exact fun h9 => absurd h9.1 hlt9) | (exact fun h9 => absurd h9.2.1 hc14) | (exact fun h9 => absurd h9.2.2 hmay))]); unfold holdsS; rw [if_pos hs, hqc, if_neg c20, hNc, hw]; exact ⟨rfl, rfl, CR_row hC hV9 hF9 hI9, FrW.C (by decide) hF9⟩)
            · have hmay : mayH ((fun j => ρ 103 (24 * q + j)) (2 * k)) ((fun j => ρ 103 (24 * q + j)) (2 * k + 1)) := c76
              refine v_aload_n (I := iX9_holds) dX9_holds_79 rfl ?_
              refine v_get (I := iX9_holds) g_X9_10 dX9_holds_80 (by decide) (ae_0 _ _) rfl ?_
              refine v_get (I := iX9_holds) g_X9_66 dX9_holds_83 (by decide) (ae_w0 (by decide) _ _) rfl ?_
              refine v_get (I := iX9_holds) g_X9_86 dX9_holds_86 (by decide) (ae_w2 (by decide) _ _) rfl ?_
              rw [V_n14 hV9]
              refine v_bipush (I := iX9_holds) (v := 8) dX9_holds_89 (by decide) ?_
              refine v_icmp_lt (I := iX9_holds) (tgt := 97) dX9_holds_91 (by decide) (fun c91 => ?_) (fun c91 => ?_)
              · obtain ⟨n9, hn8, hn⟩ : ∃ n, n < 8 ∧ g9 14 = nI n := in2_nI (by decide) ⟨(B_n14 hI9.1).1, by show g9 14 < 8; exact c91⟩
                have hnc : (g9 14).toNatClampNeg = n9 := by rw [hn]; exact nI_clamp (by omega)
                refine v_aload_n (I := iX9_holds) dX9_holds_97 rfl ?_
                refine v_get (I := iX9_holds) g_X9_10 dX9_holds_98 (by decide) (ae_0 _ _) rfl ?_
                refine v_get (I := iX9_holds) g_X9_66 dX9_holds_101 (by decide) (ae_w0 (by decide) _ _) rfl ?_
                refine v_iload (I := iX9_holds) dX9_holds_104 rfl ?_
                refine v_iload (I := iX9_holds) dX9_holds_106 rfl ?_
                refine v_callViP (I := iX9_holds) (I' := iX3_add) lk_X9_89 c_X3_add dX9_holds_108 (m_X3_add (by decide) hV9 hn hn8) rfl rfl (by decide) (ae_w2 (by decide) _ _) rfl (by decide) (by decide) (Nat.le_of_ble_eq_true rfl) (fun s108 h108 => ?_)
                refine v_pop (I := iX9_holds) dX9_holds_111 rfl ?_
                refine v_iinc (I := iX9_holds) (ls1 := [(3, _), (6, _), (5, _), (4, _), (2, _), (0, _), (1, _)]) dX9_holds_112 rfl rfl (by decide) rfl ?_
                refine v_iinc (I := iX9_holds) (ls1 := [(4, _), (3, _), (6, _), (5, _), (2, _), (0, _), (1, _)]) dX9_holds_115 rfl rfl (by decide) rfl ?_
                refine v_goto (I := iX9_holds) (tgt := 34) dX9_holds_118 (by decide) ?_
                refine v_pick (I := iX9_holds) (ls1 := [(4, _), (3, _), (2, _), (0, _), (1, _)]) [0, 1, 4, 5, 6] rfl ?_
                exact ih (k + 1) (by omega) (by omega) h108.1 (IV_stand hI9 hn hn8 hmay.1 hmay.2) (hF9.tr h108.2) (by rw [← he, holdsR, if_pos ⟨hcc, c91, hmay⟩, hnc]) (by exact nI_add (2 * k) 2) (by exact nI_1 k)
              · have hc14 : ¬ g9 14 < 8 := c91
                refine v_goto (I := iX9_holds) (tgt := 121) dX9_holds_94 (by decide) ?_
                refine v_iload_n (I := iX9_holds) dX9_holds_121 rfl ?_
                exact v_iret (I := iX9_holds) rfl dX9_holds_122 (by have hw : holdsR (fun j => ρ 103 (24 * q + j)) N 13 0 (ρ 88) = (nI k, g9) := (by rw [← he, holdsR, if_neg (by first | (exact fun h9 => absurd h9.1 hlt9) | (exact fun h9 => absurd h9.2.1 hc14) | (exact fun h9 => absurd h9.2.2 hmay))]); unfold holdsS; rw [if_pos hs, hqc, if_neg c20, hNc, hw]; exact ⟨rfl, rfl, CR_row hC hV9 hF9 hI9, FrW.C (by decide) hF9⟩)
      exact key 13 0 (by omega) (by omega) hC.1 hC.2.2.2.2.2.1 FrW.rf rfl rfl rfl
    · refine v_aload_n (I := iX9_holds) dX9_holds_23 rfl ?_
      refine v_iconst (I := iX9_holds) (v := 2) dX9_holds_24 (by decide) ?_
      refine v_callVi (I := iX9_holds) (I' := iX9_refused) lk_X9_62 c_X9_refused dX9_holds_25 (m_X9_refused (e := 2) (by decide) (by decide) (by decide)) rfl rfl (by decide) (ae_0 _ _) rfl (by decide) (by decide) (Nat.le_of_ble_eq_true rfl) ?_
      exact v_iret (I := iX9_holds) rfl dX9_holds_28 (by unfold holdsS; rw [if_pos hs, hqc, if_pos c20]; exact ⟨rfl, rfl, CR_err hC (by decide) (by decide), FC.up (by decide)⟩)
  · skip
    refine v_aload_n (I := iX9_holds) dX9_holds_0 rfl ?_
    refine v_iload_n (I := iX9_holds) dX9_holds_1 rfl ?_
    refine v_callVE (I := iX9_holds) (I' := iX9_sheetAt) lk_X9_258 c_X9_sheetAt dX9_holds_2 (m_X9_sheetAt0 hs) rfl rfl (by decide) (ae_0 _ _) rfl (by decide) (by decide) (Nat.le_of_ble_eq_true rfl) ?_
    refine v_astore_nN (I := iX9_holds) (ls1 := [(2, _), (0, _), (1, _)]) dX9_holds_5 (by decide) rfl ?_
    refine v_aload_nN (I := iX9_holds) dX9_holds_6 rfl ?_
    refine v_ifnonnullN (I := iX9_holds) dX9_holds_7 ?_
    refine v_aload_n (I := iX9_holds) dX9_holds_10 rfl ?_
    refine v_iconst (I := iX9_holds) (v := 1) dX9_holds_11 (by decide) ?_
    refine v_callVi (I := iX9_holds) (I' := iX9_refused) lk_X9_62 c_X9_refused dX9_holds_12 (m_X9_refused (e := 1) (by decide) (by decide) (by decide)) rfl rfl (by decide) (ae_0 _ _) rfl (by decide) (by decide) (Nat.le_of_ble_eq_true rfl) ?_
    exact v_iret (I := iX9_holds) rfl dX9_holds_15 (by unfold holdsS; rw [if_neg hs]; exact ⟨rfl, rfl, CR_err hC (by decide) (by decide), FC.up (by decide)⟩)
set_option maxRecDepth 100000 in
set_option maxHeartbeats 4000000 in
theorem m_X10_holds {G : fGm} {σ : fSt} {τ : fLt} {ρ : fSt} (hR : RR σ ρ) {s : Int32} : MS G iX10_holds 2 [.ref 87, .int s] σ τ (rR τ σ (holdsS ρ s)) := by
  refine ms_of (by decide +kernel) (Nat.le_of_ble_eq_true rfl) ?_
  show VW _ _ _ _ _ _ 0 [(0, _), (1, _)] []
  refine v_iload_n (I := iX10_holds) dX10_holds_0 rfl ?_
  refine v_callSi (I := iX10_holds) (I' := iX10_isSheet) lk_X10_315 c_X10_isSheet dX10_holds_1 (m_X10_isSheet) rfl rfl (by decide) (by decide) (Nat.le_of_ble_eq_true rfl) ?_
  refine v_if_neB (I := iX10_holds) (tgt := 14) dX10_holds_4 (by decide) (fun c4 => ?_) (fun c4 => ?_)
  · obtain ⟨q, hq, hqx⟩ : ∃ q, q < 4 ∧ s = nI q := in2_nI (by decide) ⟨by grind, by show s < 4; grind⟩
    have hqc : s.toNatClampNeg = q := by rw [hqx]; exact nI_clamp (by omega)
    obtain ⟨N, hN8, hN⟩ := sz_nI hR.2.2.2.2.2.2.2.2.2.2.2 hq
    have hNc : (ρ 102 q).toNatClampNeg = N := by rw [hN]; exact nI_clamp (by omega)
    refine v_aload_n (I := iX10_holds) dX10_holds_14 rfl ?_
    refine v_get (I := iX10_holds) g_X10_57 dX10_holds_15 (by decide) (ae_87 _ _) rfl ?_
    refine v_iload_n (I := iX10_holds) dX10_holds_18 rfl ?_
    refine v_ialdN (I := iX10_holds) (j := q) hqx hq (by decide) dX10_holds_19 (by decide) (ae_101 _ _) ?_
    rw [hR.2.2.2.2.2.2.1]
    refine v_if_ne (I := iX10_holds) (tgt := 30) dX10_holds_20 (by decide) (fun c20 => ?_) (fun c20 => ?_)
    · refine v_iconst (I := iX10_holds) (v := 0) dX10_holds_30 (by decide) ?_
      refine v_istore_n (I := iX10_holds) (ls1 := [(2, _), (0, _), (1, _)]) dX10_holds_31 (by decide) rfl ?_
      refine v_bipush (I := iX10_holds) (v := 24) dX10_holds_32 (by decide) ?_
      refine v_iload_n (I := iX10_holds) dX10_holds_34 rfl ?_
      refine v_imul (I := iX10_holds) dX10_holds_35 ?_
      refine v_istore_n (I := iX10_holds) (ls1 := [(3, _), (2, _), (0, _), (1, _)]) dX10_holds_36 (by decide) rfl ?_
      have key : ∀ (m k : Nat) {g9 : gS} {σ9 : fSt} {y x3 : Int32}, k + m = 13 → k ≤ 12 → σ9 = va_up σ 88 g9 → IV g9 → holdsR (fun j => ρ 103 (24 * q + j)) N m k g9 = holdsR (fun j => ρ 103 (24 * q + j)) N 13 0 (ρ 88) → y = nI (24 * q + 2 * k) → x3 = nI k → VW G iX10_holds (rR τ σ (holdsS ρ s)) 2 σ9 τ 37 [(3, .int y), (2, .int x3), (0, .ref 87), (1, .int s)] [] := by
        intro m
        induction m with
        | zero => intro k g9 σ9 y x3 hkm hk12; exact absurd hkm (by omega)
        | succ m ih =>
          intro k g9 σ9 y x3 hkm hk12 hs9 hI9 he hk hx3
          subst hs9
          subst hk
          subst hx3
          show VW _ _ _ _ _ _ 37 [(3, _), (2, _), (0, _), (1, _)] []
          refine v_iconst (I := iX10_holds) (v := 2) dX10_holds_37 (by decide) ?_
          refine v_iload_n (I := iX10_holds) dX10_holds_38 rfl ?_
          refine v_imul (I := iX10_holds) dX10_holds_39 ?_
          refine v_iconst (I := iX10_holds) (v := 2) dX10_holds_40 (by decide) ?_
          refine v_iadd (I := iX10_holds) dX10_holds_41 ?_
          rw [show (2 : Int32) * nI k + 2 = nI (2 * k + 2) by rw [show (2 : Int32) = nI 2 from rfl, pk_mul, nI_add]]
          refine v_aload_n (I := iX10_holds) dX10_holds_42 rfl ?_
          refine v_get (I := iX10_holds) g_X10_60 dX10_holds_43 (by decide) (ae_87 _ _) rfl ?_
          refine v_iload_n (I := iX10_holds) dX10_holds_46 rfl ?_
          refine v_ialdN (I := iX10_holds) (j := q) hqx hq (by decide) dX10_holds_47 (by decide) (ae_102 _ _) ?_
          rw [va_up_o _ _ (by decide), hR.2.2.2.2.2.2.2.1, hN]
          refine v_icmp_gt (I := iX10_holds) (tgt := 114) dX10_holds_48 (by decide) (fun c48 => ?_) (fun c48 => ?_)
          · have hlt9 : ¬ nI (2 * k + 1) < nI N := fun h9 => by
              have h1 := (nI_ltI (by omega) (by omega)).mp h9
              have h2 := (nI_ltI (by omega) (by omega)).mp (show nI N < nI (2 * k + 2) from c48)
              omega
            refine v_iload_n (I := iX10_holds) dX10_holds_114 rfl ?_
            exact v_iret (I := iX10_holds) rfl dX10_holds_115 (by have hw : holdsR (fun j => ρ 103 (24 * q + j)) N 13 0 (ρ 88) = (nI k, g9) := (by rw [← he, holdsR, if_neg (by first | (exact fun h9 => absurd h9.1 hlt9) | (exact fun h9 => absurd h9.2.1 hc14) | (exact fun h9 => absurd h9.2.2 hmay))]); unfold holdsS; rw [if_pos (by grind), hqc, if_neg c20, hNc, hw]; exact ⟨rfl, rfl, RR_row hR hI9, FR.va (by decide)⟩)
          · have hlt : 2 * k + 1 < N := by
              rcases Nat.lt_or_ge (2 * k + 1) N with h9 | h9
              · exact h9
              · exact absurd (nI_lt (a := N) (b := 2 * k + 2) (by omega) (by omega)) (by grind)
            have hcc : nI (2 * k + 1) < nI N := nI_lt hlt (by omega)
            refine v_aload_n (I := iX10_holds) dX10_holds_51 rfl ?_
            refine v_get (I := iX10_holds) g_X10_9 dX10_holds_52 (by decide) (ae_87 _ _) rfl ?_
            refine v_bipush (I := iX10_holds) (v := 14) dX10_holds_55 (by decide) ?_
            refine v_ialdN (I := iX10_holds) (j := 14) (by decide) (by decide) (by decide) dX10_holds_57 (by decide) (ae_88 _ _) ?_
            rw [va_up_s]
            refine v_bipush (I := iX10_holds) (v := 8) dX10_holds_58 (by decide) ?_
            refine v_icmp_ge (I := iX10_holds) (tgt := 114) dX10_holds_60 (by decide) (fun c60 => ?_) (fun c60 => ?_)
            · have hc14 : ¬ g9 14 < 8 := by grind
              refine v_iload_n (I := iX10_holds) dX10_holds_114 rfl ?_
              exact v_iret (I := iX10_holds) rfl dX10_holds_115 (by have hw : holdsR (fun j => ρ 103 (24 * q + j)) N 13 0 (ρ 88) = (nI k, g9) := (by rw [← he, holdsR, if_neg (by first | (exact fun h9 => absurd h9.1 hlt9) | (exact fun h9 => absurd h9.2.1 hc14) | (exact fun h9 => absurd h9.2.2 hmay))]); unfold holdsS; rw [if_pos (by grind), hqc, if_neg c20, hNc, hw]; exact ⟨rfl, rfl, RR_row hR hI9, FR.va (by decide)⟩)
            · have c91 : g9 14 < 8 := by grind
              obtain ⟨n9, hn8, hn⟩ : ∃ n, n < 8 ∧ g9 14 = nI n := in2_nI (by decide) ⟨(B_n14 hI9.1).1, by show g9 14 < 8; exact c91⟩
              have hnc : (g9 14).toNatClampNeg = n9 := by rw [hn]; exact nI_clamp (by omega)
              refine v_aload_n (I := iX10_holds) dX10_holds_63 rfl ?_
              refine v_get (I := iX10_holds) g_X10_63 dX10_holds_64 (by decide) (ae_87 _ _) rfl ?_
              refine v_iload_n (I := iX10_holds) dX10_holds_67 rfl ?_
              refine v_ialdN (I := iX10_holds) (j := (24 * q + 2 * k)) rfl (by omega) (by decide) dX10_holds_68 (by decide) (ae_103 _ _) ?_
              rw [va_up_o _ _ (by decide), hR.2.2.2.2.2.2.2.2.1]
              refine v_aload_n (I := iX10_holds) dX10_holds_69 rfl ?_
              refine v_get (I := iX10_holds) g_X10_63 dX10_holds_70 (by decide) (ae_87 _ _) rfl ?_
              refine v_iload_n (I := iX10_holds) dX10_holds_73 rfl ?_
              refine v_iconst (I := iX10_holds) (v := 1) dX10_holds_74 (by decide) ?_
              refine v_iadd (I := iX10_holds) dX10_holds_75 ?_
              refine v_ialdN (I := iX10_holds) (j := (24 * q + (2 * k + 1))) (by exact nI_add (24 * q + 2 * k) 1) (by omega) (by decide) dX10_holds_76 (by decide) (ae_103 _ _) ?_
              rw [va_up_o _ _ (by decide), hR.2.2.2.2.2.2.2.2.1]
              refine v_callSi (I := iX10_holds) (I' := iX10_isAsTold) lk_X10_96 c_X10_isAsTold dX10_holds_77 (m_X10_isAsTold) rfl rfl (by decide) (by decide) (Nat.le_of_ble_eq_true rfl) ?_
              refine v_if_neB (I := iX10_holds) (tgt := 85) dX10_holds_80 (by decide) (fun c80 => ?_) (fun c80 => ?_)
              · have hmay : mayH ((fun j => ρ 103 (24 * q + j)) (2 * k)) ((fun j => ρ 103 (24 * q + j)) (2 * k + 1)) := c80
                refine v_aload_n (I := iX10_holds) dX10_holds_85 rfl ?_
                refine v_aload_n (I := iX10_holds) dX10_holds_86 rfl ?_
                refine v_get (I := iX10_holds) g_X10_63 dX10_holds_87 (by decide) (ae_87 _ _) rfl ?_
                refine v_iload_n (I := iX10_holds) dX10_holds_90 rfl ?_
                refine v_ialdN (I := iX10_holds) (j := (24 * q + 2 * k)) rfl (by omega) (by decide) dX10_holds_91 (by decide) (ae_103 _ _) ?_
                rw [va_up_o _ _ (by decide), hR.2.2.2.2.2.2.2.2.1]
                refine v_aload_n (I := iX10_holds) dX10_holds_92 rfl ?_
                refine v_get (I := iX10_holds) g_X10_63 dX10_holds_93 (by decide) (ae_87 _ _) rfl ?_
                refine v_iload_n (I := iX10_holds) dX10_holds_96 rfl ?_
                refine v_iconst (I := iX10_holds) (v := 1) dX10_holds_97 (by decide) ?_
                refine v_iadd (I := iX10_holds) dX10_holds_98 ?_
                refine v_ialdN (I := iX10_holds) (j := (24 * q + (2 * k + 1))) (by exact nI_add (24 * q + 2 * k) 1) (by omega) (by decide) dX10_holds_99 (by decide) (ae_103 _ _) ?_
                rw [va_up_o _ _ (by decide), hR.2.2.2.2.2.2.2.2.1]
                refine v_callVi (I := iX10_holds) (I' := iX10_stands) lk_X10_101 c_X10_stands dX10_holds_100 (m_X10_stands (by rw [va_up_s]; exact hn) hn8) rfl rfl (by decide) (ae_87 _ _) rfl (by decide) (by decide) (Nat.le_of_ble_eq_true rfl) ?_
                rw [va_up_s, va_va]
                refine v_istore (I := iX10_holds) (ls1 := [(4, _), (3, _), (2, _), (0, _), (1, _)]) dX10_holds_103 (by decide) rfl ?_
                refine v_iinc (I := iX10_holds) (ls1 := [(2, _), (4, _), (3, _), (0, _), (1, _)]) dX10_holds_105 rfl rfl (by decide) rfl ?_
                refine v_iinc (I := iX10_holds) (ls1 := [(3, _), (2, _), (4, _), (0, _), (1, _)]) dX10_holds_108 rfl rfl (by decide) rfl ?_
                refine v_goto (I := iX10_holds) (tgt := 37) dX10_holds_111 (by decide) ?_
                refine v_pick (I := iX10_holds) (ls1 := [(3, _), (2, _), (0, _), (1, _)]) [0, 1, 3, 4] rfl ?_
                exact ih (k + 1) (by omega) (by omega) rfl (IV_stand hI9 hn hn8 hmay.1 hmay.2) (by rw [← he, holdsR, if_pos ⟨hcc, c91, hmay⟩, hnc]) (by exact nI_add (24 * q + 2 * k) 2) (by exact nI_1 k)
              · have hmay : ¬ mayH ((fun j => ρ 103 (24 * q + j)) (2 * k)) ((fun j => ρ 103 (24 * q + j)) (2 * k + 1)) := c80
                refine v_iload_n (I := iX10_holds) dX10_holds_83 rfl ?_
                exact v_iret (I := iX10_holds) rfl dX10_holds_84 (by have hw : holdsR (fun j => ρ 103 (24 * q + j)) N 13 0 (ρ 88) = (nI k, g9) := (by rw [← he, holdsR, if_neg (by first | (exact fun h9 => absurd h9.1 hlt9) | (exact fun h9 => absurd h9.2.1 hc14) | (exact fun h9 => absurd h9.2.2 hmay))]); unfold holdsS; rw [if_pos (by grind), hqc, if_neg c20, hNc, hw]; exact ⟨rfl, rfl, RR_row hR hI9, FR.va (by decide)⟩)
      exact key 13 0 (by omega) (by omega) (by rw [← hR.1, va_self]) hR.2.2.2.2.2.2.2.2.2.2.2.1 rfl (by rw [hqx, show (24 : Int32) = nI 24 from rfl, pk_mul]; rfl) rfl
    · refine v_aload_n (I := iX10_holds) dX10_holds_23 rfl ?_
      refine v_ldc (I := iX10_holds) k_X10_124 dX10_holds_24 ?_
      refine v_callVi (I := iX10_holds) (I' := iX10_finding) lk_X10_92 c_X10_finding dX10_holds_26 (m_X10_findE (e := 2) (by decide) (by decide)) rfl rfl (by decide) (ae_87 _ _) rfl (by decide) (by decide) (Nat.le_of_ble_eq_true rfl) ?_
      exact v_iret (I := iX10_holds) rfl dX10_holds_29 (by unfold holdsS; rw [if_pos (by grind), hqc, if_pos c20]; exact ⟨rfl, rfl, RR_err hR, FR.up (by decide)⟩)
  · refine v_aload_n (I := iX10_holds) dX10_holds_7 rfl ?_
    refine v_ldc (I := iX10_holds) k_X10_91 dX10_holds_8 ?_
    refine v_callVi (I := iX10_holds) (I' := iX10_finding) lk_X10_92 c_X10_finding dX10_holds_10 (m_X10_findE (e := 1) (by decide) (by decide)) rfl rfl (by decide) (ae_87 _ _) rfl (by decide) (by decide) (Nat.le_of_ble_eq_true rfl) ?_
    exact v_iret (I := iX10_holds) rfl dX10_holds_13 (by unfold holdsS; rw [if_neg (by grind)]; exact ⟨rfl, rfl, RR_err hR, FR.up (by decide)⟩)
