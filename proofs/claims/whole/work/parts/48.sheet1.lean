def lowB (b v : Int32) : Int32 := if b = 8 then v.toInt8.toInt32 else if b = 16 then v.toInt16.toInt32 else v
def putN (ρ : fSt) (q j : Nat) (x : Int32) : fSt := up2 ρ 103 (24 * q + j) x
def putS (ρ : fSt) (s i v : Int32) : Int32 × fSt := if 0 ≤ s ∧ s ≤ 3 then (if ρ 101 s.toNatClampNeg = 0 then (errV 2, errS ρ 2) else if 0 ≤ i ∧ i ≤ ρ 102 s.toNatClampNeg - 1 then (1, putN ρ s.toNatClampNeg i.toNatClampNeg (lowB (ρ 101 s.toNatClampNeg) v)) else (errV 1, errS ρ 1)) else (errV 1, errS ρ 1)
theorem OKr_sh {ρ ρ' : fSt} (h : OKr ρ) (hr : ∀ k, k ≠ 101 → k ≠ 102 → k ≠ 103 → ρ' k = ρ k) (h102 : ∀ s, s < 4 → 0 ≤ ρ' 102 s ∧ ρ' 102 s ≤ 24) : OKr ρ' := by
  unfold OKr at *
  rw [hr 88 (by decide) (by decide) (by decide), hr 87 (by decide) (by decide) (by decide), hr 89 (by decide) (by decide) (by decide), hr 92 (by decide) (by decide) (by decide), hr 93 (by decide) (by decide) (by decide)]
  exact ⟨h.1, h.2.1, h102, h.2.2.2⟩
theorem CR_sheet {σ σ' ρ ρ' : fSt} (h : CR σ ρ) (hk : ∀ k, k < 76 ∨ 84 ≤ k → σ' k = σ k) (hr : ∀ k, k ≠ 101 → k ≠ 102 → k ≠ 103 → ρ' k = ρ k)
    (hS : ∀ s, s < 4 → σ' (sc s) 1 = ρ' 101 s ∧ (ρ' 101 s ≠ 0 → σ' (sc s) 2 = ρ' 102 s) ∧ ∀ j, j < 24 → σ' (sc s + 1) j = ρ' 103 (24 * s + j)) (h102 : ∀ s, s < 4 → 0 ≤ ρ' 102 s ∧ ρ' 102 s ≤ 24) : CR σ' ρ' := by
  obtain ⟨h1, ⟨h2, h2'⟩, h3, h4, ⟨h5, h5'⟩, h6⟩ := h
  refine ⟨?_, ⟨?_, fun hz => ?_⟩, fun e a b => ?_, hS, ⟨?_, fun j hj => ?_⟩, OKr_sh h6 hr h102⟩
  · rw [hr 88 (by decide) (by decide) (by decide)]; exact V_fr h1 fun c hc => hk _ (by unfold wc; omega)
  · rw [hr 87 (by decide) (by decide) (by decide), hk 0 (by decide)]; exact h2
  · rw [hr 87 (by decide) (by decide) (by decide)] at hz
    rw [hr 89 (by decide) (by decide) (by decide)]; exact V_fr (h2' hz) fun c hc => hk _ (by unfold wc; omega)
  · rw [hr 91 (by decide) (by decide) (by decide), hk 84 (by decide)]; exact h3 e a b
  · rw [hr 87 (by decide) (by decide) (by decide), hk 85 (by decide)]; exact h5
  · rw [hr 100 (by decide) (by decide) (by decide), hk 86 (by decide)]; exact h5' j hj
theorem RR_sheet {σ σ' ρ ρ' : fSt} (h : RR σ ρ) (hk : ∀ k, k ≠ 101 → k ≠ 102 → k ≠ 103 → k ≠ 104 → σ' k = σ k) (hr : ∀ k, k ≠ 101 → k ≠ 102 → k ≠ 103 → ρ' k = ρ k)
    (e1 : σ' 101 = ρ' 101) (e2 : σ' 102 = ρ' 102) (e3 : σ' 103 = ρ' 103) (h102 : ∀ s, s < 4 → 0 ≤ ρ' 102 s ∧ ρ' 102 s ≤ 24) : RR σ' ρ' := by
  obtain ⟨h1, h2, h3, h4, h5, h6, h7, h8, h9, h10, h11, h12⟩ := h
  have g : ∀ k, k ≠ 101 → k ≠ 102 → k ≠ 103 → k ≠ 104 → σ k = ρ k → σ' k = ρ' k := fun k a b c d e => (hk k a b c d).trans (e.trans (hr k a b c).symm)
  exact ⟨g 88 (by decide) (by decide) (by decide) (by decide) h1, g 89 (by decide) (by decide) (by decide) (by decide) h2, g 91 (by decide) (by decide) (by decide) (by decide) h3, g 92 (by decide) (by decide) (by decide) (by decide) h4, g 93 (by decide) (by decide) (by decide) (by decide) h5, g 100 (by decide) (by decide) (by decide) (by decide) h6, e1, e2, e3, by rw [hk 87 (by decide) (by decide) (by decide) (by decide), hr 87 (by decide) (by decide) (by decide)]; exact h10, by rw [hk 87 (by decide) (by decide) (by decide) (by decide), hr 87 (by decide) (by decide) (by decide)]; exact h11, OKr_sh h12 hr h102⟩
theorem CR_put {σ ρ : fSt} (h : CR σ ρ) {q j : Nat} {x : Int32} (hq : q < 4) (hj : j < 24) : CR (up2 σ (sc q + 1) j x) (putN ρ q j x) := by
  have hr : ∀ k, k ≠ 103 → putN ρ q j x k = ρ k := fun k hk => up2_kf _ _ _ hk
  refine CR_sheet h (fun k hk => up2_kf _ _ _ (by unfold sc; omega)) (fun k _ _ c => hr k c) (fun s hs => ?_) (fun s hs => ?_)
  · have h4 := CR_sh h hs
    rw [hr 101 (by decide), hr 102 (by decide), up2_kf _ _ _ (show sc s ≠ sc q + 1 by unfold sc; omega)]
    refine ⟨h4.1, h4.2.1, fun i hi => ?_⟩
    unfold putN
    by_cases e : s = q
    · subst e
      by_cases e2 : i = j
      · subst e2; rw [up2_s, up2_s]
      · rw [up2_j _ _ e2, up2_j _ _ (by omega)]; exact h4.2.2 i hi
    · rw [up2_kf _ _ _ (show sc s + 1 ≠ sc q + 1 by unfold sc; omega), up2_j _ _ (by omega)]; exact h4.2.2 i hi
  · rw [hr 102 (by decide)]; exact h.2.2.2.2.2.2.2.1 s hs
theorem RR_put {σ ρ : fSt} (h : RR σ ρ) {q j : Nat} {x : Int32} : RR (up2 σ 103 (24 * q + j) x) (putN ρ q j x) := by
  have h12 := h.2.2.2.2.2.2.2.2.2.2.2
  refine RR_sheet h (fun k _ _ c _ => up2_kf _ _ _ c) (fun k _ _ c => up2_kf _ _ _ c) ?_ ?_ ?_ (fun s hs => ?_)
  · rw [show putN ρ q j x 101 = ρ 101 from up2_kf _ _ _ (by decide), up2_kf _ _ _ (by decide)]; exact h.2.2.2.2.2.2.1
  · rw [show putN ρ q j x 102 = ρ 102 from up2_kf _ _ _ (by decide), up2_kf _ _ _ (by decide)]; exact h.2.2.2.2.2.2.2.1
  · unfold putN; rw [up2_f, up2_f, h.2.2.2.2.2.2.2.2.1]
  · rw [show putN ρ q j x 102 = ρ 102 from up2_kf _ _ _ (by decide)]; exact h12.2.2.1 s hs
set_option maxRecDepth 100000 in
set_option maxHeartbeats 4000000 in
theorem m_X5_lowestBits {G : fGm} {σ : fSt} {τ : fLt} {q : Nat} {v : Int32} (hq : q < 4) : MS G iX5_lowestBits 0 [.ref (sc q), .int v] σ τ (rT (some (.int (lowB (σ (sc q) 1) v))) σ τ) := by
  refine ms_of (by decide +kernel) (Nat.le_of_ble_eq_true rfl) ?_
  show VW _ _ _ _ _ _ 0 [(0, _), (1, _)] []
  refine v_aload_n (I := iX5_lowestBits) dX5_lowestBits_0 rfl ?_
  refine v_get (I := iX5_lowestBits) g_X5_15 dX5_lowestBits_1 (sc_lt hq) (ae_s0 hq _ _) rfl ?_
  refine v_bipush (I := iX5_lowestBits) (v := 8) dX5_lowestBits_4 (by decide) ?_
  refine v_icmp_ne (I := iX5_lowestBits) (tgt := 14) dX5_lowestBits_6 (by decide) (fun c6 => ?_) (fun c6 => ?_)
  · refine v_aload_n (I := iX5_lowestBits) dX5_lowestBits_14 rfl ?_
    refine v_get (I := iX5_lowestBits) g_X5_15 dX5_lowestBits_15 (sc_lt hq) (ae_s0 hq _ _) rfl ?_
    refine v_bipush (I := iX5_lowestBits) (v := 16) dX5_lowestBits_18 (by decide) ?_
    refine v_icmp_ne (I := iX5_lowestBits) (tgt := 28) dX5_lowestBits_20 (by decide) (fun c20 => ?_) (fun c20 => ?_)
    · refine v_iload_n (I := iX5_lowestBits) dX5_lowestBits_28 rfl ?_
      exact v_iret (I := iX5_lowestBits) rfl dX5_lowestBits_29 ⟨by unfold lowB; first | rw [if_pos c6] | rw [if_neg c6, if_pos c20] | rw [if_neg c6, if_neg c20], rfl, rfl⟩
    · refine v_iload_n (I := iX5_lowestBits) dX5_lowestBits_23 rfl ?_
      refine v_i2s (I := iX5_lowestBits) dX5_lowestBits_24 ?_
      refine v_goto (I := iX5_lowestBits) (tgt := 29) dX5_lowestBits_25 (by decide) ?_
      exact v_iret (I := iX5_lowestBits) rfl dX5_lowestBits_29 ⟨by unfold lowB; first | rw [if_pos c6] | rw [if_neg c6, if_pos c20] | rw [if_neg c6, if_neg c20], rfl, rfl⟩
  · refine v_iload_n (I := iX5_lowestBits) dX5_lowestBits_9 rfl ?_
    refine v_i2b (I := iX5_lowestBits) dX5_lowestBits_10 ?_
    refine v_goto (I := iX5_lowestBits) (tgt := 29) dX5_lowestBits_11 (by decide) ?_
    exact v_iret (I := iX5_lowestBits) rfl dX5_lowestBits_29 ⟨by unfold lowB; first | rw [if_pos c6] | rw [if_neg c6, if_pos c20] | rw [if_neg c6, if_neg c20], rfl, rfl⟩
set_option maxRecDepth 100000 in
set_option maxHeartbeats 8000000 in
theorem m_X9_put {G : fGm} {σ : fSt} {τ : fLt} {ρ : fSt} (hC : CR σ ρ) {s i v : Int32} : MS G iX9_put 2 [.ref 0, .int s, .int i, .int v] σ τ (rC τ σ (putS ρ s i v)) := by
  refine ms_of (by decide +kernel) (Nat.le_of_ble_eq_true rfl) ?_
  show VW _ _ _ _ _ _ 0 [(0, _), (1, _), (2, _), (3, _)] []
  by_cases hs : 0 ≤ s ∧ s ≤ 3
  · obtain ⟨q, hq, hqx⟩ : ∃ q, q < 4 ∧ s = nI q := in2_nI (by decide) ⟨hs.1, by show s < 4; have := hs.2; grind⟩
    have hqc : s.toNatClampNeg = q := by rw [hqx]; exact nI_clamp (by omega)
    have hSH := CR_sh hC hq
    obtain ⟨N, hN8, hN⟩ := sz_nI hC.2.2.2.2.2 hq
    have hNc : (ρ 102 q).toNatClampNeg = N := by rw [hN]; exact nI_clamp (by omega)
    refine v_aload_n (I := iX9_put) dX9_put_0 rfl ?_
    refine v_iload_n (I := iX9_put) dX9_put_1 rfl ?_
    refine v_callVr (I := iX9_put) (I' := iX9_sheetAt) lk_X9_258 c_X9_sheetAt dX9_put_2 (m_X9_sheetAt hqx hq) rfl rfl (by decide) (ae_0 _ _) rfl (by decide) (by decide) (Nat.le_of_ble_eq_true rfl) ?_
    refine v_astore (I := iX9_put) (ls1 := [(4, _), (0, _), (1, _), (2, _), (3, _)]) dX9_put_5 (by decide) rfl ?_
    refine v_aload (I := iX9_put) dX9_put_7 rfl ?_
    refine v_ifnonnull (I := iX9_put) (tgt := 18) dX9_put_9 (by decide) ?_
    refine v_aload (I := iX9_put) dX9_put_18 rfl ?_
    refine v_get (I := iX9_put) g_X9_266 dX9_put_20 (sc_lt hq) (ae_s0 hq _ _) rfl ?_
    rw [hSH.1]
    refine v_if_ne (I := iX9_put) (tgt := 32) dX9_put_23 (by decide) (fun c23 => ?_) (fun c23 => ?_)
    · refine v_iload_n (I := iX9_put) dX9_put_32 rfl ?_
      refine v_iconst (I := iX9_put) (v := 0) dX9_put_33 (by decide) ?_
      refine v_aload (I := iX9_put) dX9_put_34 rfl ?_
      refine v_get (I := iX9_put) g_X9_269 dX9_put_36 (sc_lt hq) (ae_s0 hq _ _) rfl ?_
      rw [hSH.2.1 c23, hN]
      refine v_iconst (I := iX9_put) (v := 1) dX9_put_39 (by decide) ?_
      refine v_isub (I := iX9_put) dX9_put_40 ?_
      refine v_callSi (I := iX9_put) (I' := iX9_within) lk_X9_58 c_X9_within dX9_put_41 (m_X9_within) rfl rfl (by decide) (by decide) (Nat.le_of_ble_eq_true rfl) ?_
      refine v_if_neB (I := iX9_put) (tgt := 53) dX9_put_44 (by decide) (fun c44 => ?_) (fun c44 => ?_)
      · have hp0 := nI_pos' (n := N) (by omega)
        obtain ⟨j, hj, hjx⟩ : ∃ j, j < 24 ∧ i = nI j := in2_nI (by decide) ⟨by grind, by show i < 24; have := nI_le (a := N) (b := 24) (by omega) (by decide); have h24 : nI N ≤ 24 := this; grind⟩
        have hjc : i.toNatClampNeg = j := by rw [hjx]; exact nI_clamp (by omega)
        refine v_aload (I := iX9_put) dX9_put_53 rfl ?_
        refine v_get (I := iX9_put) g_X9_270 dX9_put_55 (sc_lt hq) (ae_s0 hq _ _) rfl ?_
        refine v_iload_n (I := iX9_put) dX9_put_58 rfl ?_
        refine v_aload (I := iX9_put) dX9_put_59 rfl ?_
        refine v_iload_n (I := iX9_put) dX9_put_61 rfl ?_
        refine v_callVi (I := iX9_put) (I' := iX5_lowestBits) lk_X9_271 c_X5_lowestBits dX9_put_62 (m_X5_lowestBits hq) rfl rfl (sc_lt hq) (ae_s0 hq _ _) rfl (by decide) (by decide) (Nat.le_of_ble_eq_true rfl) ?_
        rw [hSH.1]
        refine v_callSi (I := iX9_put) (I' := iX9_exchange) lk_X9_78 c_X9_exchange dX9_put_65 (m_X9_exchange (sc1_lt hq) (ae_s1 hq) (by decide)) rfl rfl (by decide) (by decide) (Nat.le_of_ble_eq_true rfl) ?_
        rw [wrA_eq hjx hj (by decide)]
        refine v_pop (I := iX9_put) dX9_put_68 rfl ?_
        refine v_iconst (I := iX9_put) (v := 1) dX9_put_69 (by decide) ?_
        exact v_iret (I := iX9_put) rfl dX9_put_70 (by unfold putS; rw [if_pos hs, hqc, if_neg c23, if_pos (by rw [hN]; grind), hjc]; exact ⟨rfl, rfl, CR_put hC hq hj, FC.up (by unfold sc; omega)⟩)
      · refine v_aload_n (I := iX9_put) dX9_put_47 rfl ?_
        refine v_iconst (I := iX9_put) (v := 1) dX9_put_48 (by decide) ?_
        refine v_callVi (I := iX9_put) (I' := iX9_refused) lk_X9_62 c_X9_refused dX9_put_49 (m_X9_refused (e := 1) (by decide) (by decide) (by decide)) rfl rfl (by decide) (ae_0 _ _) rfl (by decide) (by decide) (Nat.le_of_ble_eq_true rfl) ?_
        exact v_iret (I := iX9_put) rfl dX9_put_52 (by unfold putS; rw [if_pos hs, hqc, if_neg c23, if_neg (by rw [hN]; grind)]; exact ⟨rfl, rfl, CR_err hC (by decide) (by decide), FC.up (by decide)⟩)
    · refine v_aload_n (I := iX9_put) dX9_put_26 rfl ?_
      refine v_iconst (I := iX9_put) (v := 2) dX9_put_27 (by decide) ?_
      refine v_callVi (I := iX9_put) (I' := iX9_refused) lk_X9_62 c_X9_refused dX9_put_28 (m_X9_refused (e := 2) (by decide) (by decide) (by decide)) rfl rfl (by decide) (ae_0 _ _) rfl (by decide) (by decide) (Nat.le_of_ble_eq_true rfl) ?_
      exact v_iret (I := iX9_put) rfl dX9_put_31 (by unfold putS; rw [if_pos hs, hqc, if_pos c23]; exact ⟨rfl, rfl, CR_err hC (by decide) (by decide), FC.up (by decide)⟩)
  · skip
    refine v_aload_n (I := iX9_put) dX9_put_0 rfl ?_
    refine v_iload_n (I := iX9_put) dX9_put_1 rfl ?_
    refine v_callVE (I := iX9_put) (I' := iX9_sheetAt) lk_X9_258 c_X9_sheetAt dX9_put_2 (m_X9_sheetAt0 hs) rfl rfl (by decide) (ae_0 _ _) rfl (by decide) (by decide) (Nat.le_of_ble_eq_true rfl) ?_
    refine v_astoreN (I := iX9_put) (ls1 := [(4, _), (0, _), (1, _), (2, _), (3, _)]) dX9_put_5 (by decide) rfl ?_
    refine v_aloadN (I := iX9_put) dX9_put_7 rfl ?_
    refine v_ifnonnullN (I := iX9_put) dX9_put_9 ?_
    refine v_aload_n (I := iX9_put) dX9_put_12 rfl ?_
    refine v_iconst (I := iX9_put) (v := 1) dX9_put_13 (by decide) ?_
    refine v_callVi (I := iX9_put) (I' := iX9_refused) lk_X9_62 c_X9_refused dX9_put_14 (m_X9_refused (e := 1) (by decide) (by decide) (by decide)) rfl rfl (by decide) (ae_0 _ _) rfl (by decide) (by decide) (Nat.le_of_ble_eq_true rfl) ?_
    exact v_iret (I := iX9_put) rfl dX9_put_17 (by unfold putS; rw [if_neg hs]; exact ⟨rfl, rfl, CR_err hC (by decide) (by decide), FC.up (by decide)⟩)
set_option maxRecDepth 100000 in
set_option maxHeartbeats 4000000 in
theorem m_X10_put {G : fGm} {σ : fSt} {τ : fLt} {ρ : fSt} (hR : RR σ ρ) {s i v : Int32} : MS G iX10_put 2 [.ref 87, .int s, .int i, .int v] σ τ (rR τ σ (putS ρ s i v)) := by
  refine ms_of (by decide +kernel) (Nat.le_of_ble_eq_true rfl) ?_
  show VW _ _ _ _ _ _ 0 [(0, _), (1, _), (2, _), (3, _)] []
  refine v_iload_n (I := iX10_put) dX10_put_0 rfl ?_
  refine v_callSi (I := iX10_put) (I' := iX10_isSheet) lk_X10_315 c_X10_isSheet dX10_put_1 (m_X10_isSheet) rfl rfl (by decide) (by decide) (Nat.le_of_ble_eq_true rfl) ?_
  refine v_if_neB (I := iX10_put) (tgt := 14) dX10_put_4 (by decide) (fun c4 => ?_) (fun c4 => ?_)
  · obtain ⟨q, hq, hqx⟩ : ∃ q, q < 4 ∧ s = nI q := in2_nI (by decide) ⟨by grind, by show s < 4; grind⟩
    have hqc : s.toNatClampNeg = q := by rw [hqx]; exact nI_clamp (by omega)
    obtain ⟨N, hN8, hN⟩ := sz_nI hR.2.2.2.2.2.2.2.2.2.2.2 hq
    have hNc : (ρ 102 q).toNatClampNeg = N := by rw [hN]; exact nI_clamp (by omega)
    refine v_aload_n (I := iX10_put) dX10_put_14 rfl ?_
    refine v_get (I := iX10_put) g_X10_57 dX10_put_15 (by decide) (ae_87 _ _) rfl ?_
    refine v_iload_n (I := iX10_put) dX10_put_18 rfl ?_
    refine v_ialdN (I := iX10_put) (j := q) hqx hq (by decide) dX10_put_19 (by decide) (ae_101 _ _) ?_
    rw [hR.2.2.2.2.2.2.1]
    refine v_if_ne (I := iX10_put) (tgt := 30) dX10_put_20 (by decide) (fun c20 => ?_) (fun c20 => ?_)
    · refine v_iload_n (I := iX10_put) dX10_put_30 rfl ?_
      refine v_iconst (I := iX10_put) (v := 0) dX10_put_31 (by decide) ?_
      refine v_aload_n (I := iX10_put) dX10_put_32 rfl ?_
      refine v_get (I := iX10_put) g_X10_60 dX10_put_33 (by decide) (ae_87 _ _) rfl ?_
      refine v_iload_n (I := iX10_put) dX10_put_36 rfl ?_
      refine v_ialdN (I := iX10_put) (j := q) hqx hq (by decide) dX10_put_37 (by decide) (ae_102 _ _) ?_
      rw [hR.2.2.2.2.2.2.2.1, hN]
      refine v_iconst (I := iX10_put) (v := 1) dX10_put_38 (by decide) ?_
      refine v_isub (I := iX10_put) dX10_put_39 ?_
      refine v_callSi (I := iX10_put) (I' := iX10_within) lk_X10_79 c_X10_within dX10_put_40 (m_X10_within) rfl rfl (by decide) (by decide) (Nat.le_of_ble_eq_true rfl) ?_
      refine v_if_neB (I := iX10_put) (tgt := 53) dX10_put_43 (by decide) (fun c43 => ?_) (fun c43 => ?_)
      · have hp0 := nI_pos' (n := N) (by omega)
        obtain ⟨j, hj, hjx⟩ : ∃ j, j < 24 ∧ i = nI j := in2_nI (by decide) ⟨by grind, by show i < 24; have := nI_le (a := N) (b := 24) (by omega) (by decide); have h24 : nI N ≤ 24 := this; grind⟩
        have hjc : i.toNatClampNeg = j := by rw [hjx]; exact nI_clamp (by omega)
        refine v_aload_n (I := iX10_put) dX10_put_53 rfl ?_
        refine v_get (I := iX10_put) g_X10_63 dX10_put_54 (by decide) (ae_87 _ _) rfl ?_
        refine v_bipush (I := iX10_put) (v := 24) dX10_put_57 (by decide) ?_
        refine v_iload_n (I := iX10_put) dX10_put_59 rfl ?_
        refine v_imul (I := iX10_put) dX10_put_60 ?_
        refine v_iload_n (I := iX10_put) dX10_put_61 rfl ?_
        refine v_iadd (I := iX10_put) dX10_put_62 ?_
        refine v_aload_n (I := iX10_put) dX10_put_63 rfl ?_
        refine v_get (I := iX10_put) g_X10_57 dX10_put_64 (by decide) (ae_87 _ _) rfl ?_
        refine v_iload_n (I := iX10_put) dX10_put_67 rfl ?_
        refine v_ialdN (I := iX10_put) (j := q) hqx hq (by decide) dX10_put_68 (by decide) (ae_101 _ _) ?_
        rw [hR.2.2.2.2.2.2.1]
        refine v_bipush (I := iX10_put) (v := 8) dX10_put_69 (by decide) ?_
        refine v_icmp_ne (I := iX10_put) (tgt := 79) dX10_put_71 (by decide) (fun c71 => ?_) (fun c71 => ?_)
        · refine v_aload_n (I := iX10_put) dX10_put_79 rfl ?_
          refine v_get (I := iX10_put) g_X10_57 dX10_put_80 (by decide) (ae_87 _ _) rfl ?_
          refine v_iload_n (I := iX10_put) dX10_put_83 rfl ?_
          refine v_ialdN (I := iX10_put) (j := q) hqx hq (by decide) dX10_put_84 (by decide) (ae_101 _ _) ?_
          rw [hR.2.2.2.2.2.2.1]
          refine v_bipush (I := iX10_put) (v := 16) dX10_put_85 (by decide) ?_
          refine v_icmp_ne (I := iX10_put) (tgt := 95) dX10_put_87 (by decide) (fun c87 => ?_) (fun c87 => ?_)
          · refine v_iload_n (I := iX10_put) dX10_put_95 rfl ?_
            refine v_iastN (I := iX10_put) (j := (24 * q + j)) (by rw [hqx, hjx, show (24 : Int32) = nI 24 from rfl, pk_mul, nI_add]) (by omega) (by decide) dX10_put_96 (by decide) (fun _ => ae_103 _ _) ?_
            refine v_iconst (I := iX10_put) (v := 1) dX10_put_97 (by decide) ?_
            exact v_iret (I := iX10_put) rfl dX10_put_98 (by unfold putS; rw [if_pos (by grind), hqc, if_neg c20, if_pos (by rw [hN]; grind), hjc]; refine ⟨rfl, rfl, ?_, FR.up (by decide)⟩; first | (have e9 : lowB (ρ 101 q) v = v.toInt8.toInt32 := if_pos c71; rw [e9]; exact RR_put hR) | (have e9 : lowB (ρ 101 q) v = v.toInt16.toInt32 := (if_neg c71).trans (if_pos c87); rw [e9]; exact RR_put hR) | (have e9 : lowB (ρ 101 q) v = v := (if_neg c71).trans (if_neg c87); rw [e9]; exact RR_put hR))
          · refine v_iload_n (I := iX10_put) dX10_put_90 rfl ?_
            refine v_i2s (I := iX10_put) dX10_put_91 ?_
            refine v_goto (I := iX10_put) (tgt := 96) dX10_put_92 (by decide) ?_
            refine v_iastN (I := iX10_put) (j := (24 * q + j)) (by rw [hqx, hjx, show (24 : Int32) = nI 24 from rfl, pk_mul, nI_add]) (by omega) (by decide) dX10_put_96 (by decide) (fun _ => ae_103 _ _) ?_
            refine v_iconst (I := iX10_put) (v := 1) dX10_put_97 (by decide) ?_
            exact v_iret (I := iX10_put) rfl dX10_put_98 (by unfold putS; rw [if_pos (by grind), hqc, if_neg c20, if_pos (by rw [hN]; grind), hjc]; refine ⟨rfl, rfl, ?_, FR.up (by decide)⟩; first | (have e9 : lowB (ρ 101 q) v = v.toInt8.toInt32 := if_pos c71; rw [e9]; exact RR_put hR) | (have e9 : lowB (ρ 101 q) v = v.toInt16.toInt32 := (if_neg c71).trans (if_pos c87); rw [e9]; exact RR_put hR) | (have e9 : lowB (ρ 101 q) v = v := (if_neg c71).trans (if_neg c87); rw [e9]; exact RR_put hR))
        · refine v_iload_n (I := iX10_put) dX10_put_74 rfl ?_
          refine v_i2b (I := iX10_put) dX10_put_75 ?_
          refine v_goto (I := iX10_put) (tgt := 96) dX10_put_76 (by decide) ?_
          refine v_iastN (I := iX10_put) (j := (24 * q + j)) (by rw [hqx, hjx, show (24 : Int32) = nI 24 from rfl, pk_mul, nI_add]) (by omega) (by decide) dX10_put_96 (by decide) (fun _ => ae_103 _ _) ?_
          refine v_iconst (I := iX10_put) (v := 1) dX10_put_97 (by decide) ?_
          exact v_iret (I := iX10_put) rfl dX10_put_98 (by unfold putS; rw [if_pos (by grind), hqc, if_neg c20, if_pos (by rw [hN]; grind), hjc]; refine ⟨rfl, rfl, ?_, FR.up (by decide)⟩; first | (have e9 : lowB (ρ 101 q) v = v.toInt8.toInt32 := if_pos c71; rw [e9]; exact RR_put hR) | (have e9 : lowB (ρ 101 q) v = v.toInt16.toInt32 := (if_neg c71).trans (if_pos c87); rw [e9]; exact RR_put hR) | (have e9 : lowB (ρ 101 q) v = v := (if_neg c71).trans (if_neg c87); rw [e9]; exact RR_put hR))
      · refine v_aload_n (I := iX10_put) dX10_put_46 rfl ?_
        refine v_ldc (I := iX10_put) k_X10_91 dX10_put_47 ?_
        refine v_callVi (I := iX10_put) (I' := iX10_finding) lk_X10_92 c_X10_finding dX10_put_49 (m_X10_findE (e := 1) (by decide) (by decide)) rfl rfl (by decide) (ae_87 _ _) rfl (by decide) (by decide) (Nat.le_of_ble_eq_true rfl) ?_
        exact v_iret (I := iX10_put) rfl dX10_put_52 (by unfold putS; rw [if_pos (by grind), hqc, if_neg c20, if_neg (by rw [hN]; grind)]; exact ⟨rfl, rfl, RR_err hR, FR.up (by decide)⟩)
    · refine v_aload_n (I := iX10_put) dX10_put_23 rfl ?_
      refine v_ldc (I := iX10_put) k_X10_124 dX10_put_24 ?_
      refine v_callVi (I := iX10_put) (I' := iX10_finding) lk_X10_92 c_X10_finding dX10_put_26 (m_X10_findE (e := 2) (by decide) (by decide)) rfl rfl (by decide) (ae_87 _ _) rfl (by decide) (by decide) (Nat.le_of_ble_eq_true rfl) ?_
      exact v_iret (I := iX10_put) rfl dX10_put_29 (by unfold putS; rw [if_pos (by grind), hqc, if_pos c20]; exact ⟨rfl, rfl, RR_err hR, FR.up (by decide)⟩)
  · refine v_aload_n (I := iX10_put) dX10_put_7 rfl ?_
    refine v_ldc (I := iX10_put) k_X10_91 dX10_put_8 ?_
    refine v_callVi (I := iX10_put) (I' := iX10_finding) lk_X10_92 c_X10_finding dX10_put_10 (m_X10_findE (e := 1) (by decide) (by decide)) rfl rfl (by decide) (ae_87 _ _) rfl (by decide) (by decide) (Nat.le_of_ble_eq_true rfl) ?_
    exact v_iret (I := iX10_put) rfl dX10_put_13 (by unfold putS; rw [if_neg (by grind)]; exact ⟨rfl, rfl, RR_err hR, FR.up (by decide)⟩)
