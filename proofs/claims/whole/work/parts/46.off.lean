def offT (a c : Int32) : Int64 := if (if 0 < a.toInt64 - c.toInt64 then a.toInt64 - c.toInt64 else -(a.toInt64 - c.toInt64)) < 1000 then (if 0 < a.toInt64 - c.toInt64 then a.toInt64 - c.toInt64 else -(a.toInt64 - c.toInt64)) else 1000
/-- by how much m more numbers are off -/
def offR (W : Nat → Int32) : Nat → Nat → gS → Int32
  | 0, _, _ => 0
  | m + 1, k, g => (offT (W k) (gTenths g 1 0)).toInt32 + offR W m (k + 1) (gTenths g 1)
theorem offR_congr {W W' : Nat → Int32} : ∀ (m k : Nat) {g : gS}, (∀ j, j < k + m → W j = W' j) → offR W m k g = offR W' m k g := by
  intro m
  induction m with
  | zero => intro k g _; rfl
  | succ m ih =>
    intro k g h
    show (offT (W k) _).toInt32 + _ = (offT (W' k) _).toInt32 + _
    rw [h k (by omega), ih (k + 1) fun j hj => h j (by omega)]
theorem FrW.s2 {σ s : fSt} (h : FrW 2 σ s) {q : Nat} (hq : q < 4) : s (sc q) = σ (sc q) ∧ s (sc q + 1) = σ (sc q + 1) := ⟨h _ fun c hc => by unfold sc wc; omega, h _ fun c hc => by unfold sc wc; omega⟩
theorem off_step {x : Int64} {a c : Int32} {r t : Int32} (h : x.toInt32 + ((offT a c).toInt32 + r) = t) : (x + offT a c).toInt32 + r = t := by
  rw [← h, Int64.toInt32_add, Int32.add_assoc]
set_option maxRecDepth 100000 in
set_option maxHeartbeats 8000000 in
theorem m_X9_offAhead {G : fGm} {σ : fSt} {τ : fLt} {g : gS} {q N : Nat} (hq : q < 4) (hV : V 2 σ g) (hI : IV g) (hN : σ (sc q) 2 = nI N) (hN8 : N ≤ 24) : MS G iX9_offAhead 7 [.ref 0, .ref (sc q)] σ τ (rP (some (.int (offR (σ (sc q + 1)) N 0 g))) τ (FrW 2 σ)) := by
  refine ms_of (by decide +kernel) (Nat.le_of_ble_eq_true rfl) ?_
  show VW _ _ _ _ _ _ 0 [(0, _), (1, _)] []
  have key : ∀ (m k : Nat) {g9 : gS} {σ9 : fSt} {y : Int32} {x2 : Int64}, k + m = N → V 2 σ9 g9 → IV g9 → FrW 2 σ σ9 → x2.toInt32 + offR (σ (sc q + 1)) m k g9 = offR (σ (sc q + 1)) N 0 g → y = nI k → VW G iX9_offAhead (rP (some (.int (offR (σ (sc q + 1)) N 0 g))) τ (FrW 2 σ)) 7 σ9 τ 5 [(4, .int y), (2, .long x2), (0, .ref 0), (1, .ref (sc q))] [] := by
    intro m
    induction m with
    | zero =>
      intro k g9 σ9 y x2 hkm hV9 hI9 hF9 he hk
      have hkN : k = N := hkm
      show VW _ _ _ _ _ _ 5 [(4, _), (2, _), (0, _), (1, _)] []
      refine v_iload (I := iX9_offAhead) dX9_offAhead_5 rfl ?_
      refine v_aload_n (I := iX9_offAhead) dX9_offAhead_7 rfl ?_
      refine v_get (I := iX9_offAhead) g_X9_269 dX9_offAhead_8 (sc_lt hq) (ae_s0 hq _ _) rfl ?_
      rw [(hF9.s2 hq).1, hN]
      refine v_icmp_ge (I := iX9_offAhead) (tgt := 64) dX9_offAhead_11 (by decide) (fun c11 => ?_) (fun c11 => ?_)
      · refine v_lload_n (I := iX9_offAhead) dX9_offAhead_64 rfl ?_
        refine v_l2i (I := iX9_offAhead) dX9_offAhead_65 ?_
        exact v_iret (I := iX9_offAhead) rfl dX9_offAhead_66 ⟨by rw [← he]; show _ = some (Value.int (x2.toInt32 + 0)); rw [Int32.add_zero], rfl, hF9⟩
      · exact absurd (by rw [hk, hkN]; exact Int32.le_refl _) c11
    | succ m ih =>
      intro k g9 σ9 y x2 hkm hV9 hI9 hF9 he hk
      subst hk
      show VW _ _ _ _ _ _ 5 [(4, _), (2, _), (0, _), (1, _)] []
      refine v_iload (I := iX9_offAhead) dX9_offAhead_5 rfl ?_
      refine v_aload_n (I := iX9_offAhead) dX9_offAhead_7 rfl ?_
      refine v_get (I := iX9_offAhead) g_X9_269 dX9_offAhead_8 (sc_lt hq) (ae_s0 hq _ _) rfl ?_
      rw [(hF9.s2 hq).1, hN]
      refine v_icmp_ge (I := iX9_offAhead) (tgt := 64) dX9_offAhead_11 (by decide) (fun c11 => ?_) (fun c11 => ?_)
      · exact absurd c11 (by exact nI_ge (by omega) (by omega))
      · refine v_aload_n (I := iX9_offAhead) dX9_offAhead_14 rfl ?_
        refine v_get (I := iX9_offAhead) g_X9_19 dX9_offAhead_15 (by decide) (ae_0 _ _) rfl ?_
        refine v_callVvP (I := iX9_offAhead) (I' := iX8_passTenth) lk_X9_293 c_X8_passTenth dX9_offAhead_18 (m_X8_passTenth (by decide) hV9 hI9) rfl rfl (by decide) (ae_w0 (by decide) _ _) rfl (by decide) (by decide) (Nat.le_of_ble_eq_true rfl) (fun s18 h18 => ?_)
        have hFk : FrW 2 σ s18 := hF9.tr h18.2
        refine v_aload_n (I := iX9_offAhead) dX9_offAhead_21 rfl ?_
        refine v_get (I := iX9_offAhead) g_X9_270 dX9_offAhead_22 (sc_lt hq) (ae_s0 hq _ _) rfl ?_
        refine v_iload (I := iX9_offAhead) dX9_offAhead_25 rfl ?_
        refine v_callSi (I := iX9_offAhead) (I' := iX9_at) lk_X9_104 c_X9_at dX9_offAhead_27 (m_X9_at (sc1_lt hq) (ae_s1 hq) (by decide)) rfl rfl (by decide) (by decide) (Nat.le_of_ble_eq_true rfl) ?_
        rw [rdA_in (by omega) (by decide), (hFk.s2 hq).2]
        refine v_i2l (I := iX9_offAhead) dX9_offAhead_30 ?_
        refine v_aload_n (I := iX9_offAhead) dX9_offAhead_31 rfl ?_
        refine v_get (I := iX9_offAhead) g_X9_19 dX9_offAhead_32 (by decide) (ae_0 _ _) rfl ?_
        refine v_get (I := iX9_offAhead) g_X9_114 dX9_offAhead_35 (by decide) (ae_w0 (by decide) _ _) rfl ?_
        refine v_iconst (I := iX9_offAhead) (v := 0) dX9_offAhead_38 (by decide) ?_
        refine v_ialdN (I := iX9_offAhead) (j := 0) (by decide) (by decide) (by decide) dX9_offAhead_39 (by decide) (ae_w1 (by decide) _ _) ?_
        rw [V_child h18.1 (by decide)]
        refine v_i2l (I := iX9_offAhead) dX9_offAhead_40 ?_
        refine v_lsub (I := iX9_offAhead) dX9_offAhead_41 ?_
        refine v_absL (I := iX9_offAhead) lm_X9_297 dX9_offAhead_42 (by decide) (Nat.le_of_ble_eq_true rfl) ?_
        refine v_lstore (I := iX9_offAhead) (ls1 := [(5, _), (4, _), (2, _), (0, _), (1, _)]) dX9_offAhead_45 (by decide) rfl ?_
        refine v_lload_n (I := iX9_offAhead) dX9_offAhead_47 rfl ?_
        refine v_ldc2 (I := iX9_offAhead) k_X9_300 dX9_offAhead_48 ?_
        refine v_lload (I := iX9_offAhead) dX9_offAhead_51 rfl ?_
        refine v_minL (I := iX9_offAhead) lm_X9_302 dX9_offAhead_53 (by decide) (Nat.le_of_ble_eq_true rfl) ?_
        refine v_ladd (I := iX9_offAhead) dX9_offAhead_56 ?_
        rw [show (if (if 0 < (σ (sc q + 1) k).toInt64 - (gTenths g9 1 0).toInt64 then (σ (sc q + 1) k).toInt64 - (gTenths g9 1 0).toInt64 else -((σ (sc q + 1) k).toInt64 - (gTenths g9 1 0).toInt64)) < 1000 then (if 0 < (σ (sc q + 1) k).toInt64 - (gTenths g9 1 0).toInt64 then (σ (sc q + 1) k).toInt64 - (gTenths g9 1 0).toInt64 else -((σ (sc q + 1) k).toInt64 - (gTenths g9 1 0).toInt64)) else 1000) = offT (σ (sc q + 1) k) (gTenths g9 1 0) from rfl]
        refine v_lstore_n (I := iX9_offAhead) (ls1 := [(2, _), (5, _), (4, _), (0, _), (1, _)]) dX9_offAhead_57 (by decide) rfl ?_
        refine v_iinc (I := iX9_offAhead) (ls1 := [(4, _), (2, _), (5, _), (0, _), (1, _)]) dX9_offAhead_58 rfl rfl (by decide) rfl ?_
        refine v_goto (I := iX9_offAhead) (tgt := 5) dX9_offAhead_61 (by decide) ?_
        refine v_pick (I := iX9_offAhead) (ls1 := [(4, _), (2, _), (0, _), (1, _)]) [0, 1, 3, 4] rfl ?_
        exact ih (k + 1) (by omega) h18.1 (IV_tenths 1 hI9) hFk (off_step he) (by exact nI_1 k)
  refine v_lconst (I := iX9_offAhead) (v := 0) dX9_offAhead_0 (by decide) ?_
  refine v_lstore_n (I := iX9_offAhead) (ls1 := [(2, _), (0, _), (1, _)]) dX9_offAhead_1 (by decide) rfl ?_
  refine v_iconst (I := iX9_offAhead) (v := 0) dX9_offAhead_2 (by decide) ?_
  refine v_istore (I := iX9_offAhead) (ls1 := [(4, _), (2, _), (0, _), (1, _)]) dX9_offAhead_3 (by decide) rfl ?_
  exact key N 0 (by omega) hV hI FrW.rf (by rw [show (0 : Int64).toInt32 = 0 from rfl, Int32.zero_add]) rfl
set_option maxRecDepth 100000 in
set_option maxHeartbeats 8000000 in
theorem m_X10_offOf {G : fGm} {σ : fSt} {τ : fLt} {x : Int32} {q N : Nat} (hx : x = nI q) (hq : q < 4) (hI : IV (σ 88)) (hN : σ 102 q = nI N) (hN8 : N ≤ 24) : MS G iX10_offOf 8 [.ref 87, .int x] σ τ (rP (some (.int (offR (fun j => σ 103 (24 * q + j)) N 0 (σ 88)))) τ (fun s => s 88 = σ 90 ∧ s 90 = σ 90 ∧ FrB σ s)) := by
  refine ms_of (by decide +kernel) (Nat.le_of_ble_eq_true rfl) ?_
  show VW _ _ _ _ _ _ 0 [(0, _), (1, _)] []
  have key : ∀ (m k : Nat) {σ9 : fSt} {y x2 : Int32}, k + m = N → IV (σ9 88) → σ9 90 = σ 90 → FrB σ σ9 → x2 + offR (fun j => σ 103 (24 * q + j)) m k (σ9 88) = offR (fun j => σ 103 (24 * q + j)) N 0 (σ 88) → y = nI k → VW G iX10_offOf (rP (some (.int (offR (fun j => σ 103 (24 * q + j)) N 0 (σ 88)))) τ (fun s => s 88 = σ 90 ∧ s 90 = σ 90 ∧ FrB σ s)) 8 σ9 τ 4 [(3, .int y), (2, .int x2), (0, .ref 87), (1, .int x)] [] := by
    intro m
    induction m with
    | zero =>
      intro k σ9 y x2 hkm hI9 h90 hF9 he hk
      have hkN : k = N := hkm
      show VW _ _ _ _ _ _ 4 [(3, _), (2, _), (0, _), (1, _)] []
      refine v_iload_n (I := iX10_offOf) dX10_offOf_4 rfl ?_
      refine v_aload_n (I := iX10_offOf) dX10_offOf_5 rfl ?_
      refine v_get (I := iX10_offOf) g_X10_60 dX10_offOf_6 (by decide) (ae_87 _ _) rfl ?_
      refine v_iload_n (I := iX10_offOf) dX10_offOf_9 rfl ?_
      refine v_ialdN (I := iX10_offOf) (j := q) hx (by omega) (by decide) dX10_offOf_10 (by decide) (ae_102 _ _) ?_
      rw [hF9 102 (by decide) (by decide) (by decide) (by decide), hN]
      refine v_icmp_ge (I := iX10_offOf) (tgt := 62) dX10_offOf_11 (by decide) (fun c11 => ?_) (fun c11 => ?_)
      · refine v_aload_n (I := iX10_offOf) dX10_offOf_62 rfl ?_
        refine v_iload_n (I := iX10_offOf) dX10_offOf_63 rfl ?_
        refine v_callVi (I := iX10_offOf) (I' := iX10_putBack) lk_X10_267 c_X10_putBack dX10_offOf_64 (m_X10_putBack) rfl rfl (by decide) (ae_87 _ _) rfl (by decide) (by decide) (Nat.le_of_ble_eq_true rfl) ?_
        exact v_iret (I := iX10_offOf) rfl dX10_offOf_67 ⟨by rw [← he]; show _ = some (Value.int (x2 + 0)); rw [Int32.add_zero], rfl, (va_up_s _ _ _).trans h90, (va_up_o _ _ (by decide)).trans h90, fun k a b c d => (va_up_o _ _ a).trans (hF9 k a b c d)⟩
      · exact absurd (by rw [hk, hkN]; exact Int32.le_refl _) c11
    | succ m ih =>
      intro k σ9 y x2 hkm hI9 h90 hF9 he hk
      subst hk
      show VW _ _ _ _ _ _ 4 [(3, _), (2, _), (0, _), (1, _)] []
      refine v_iload_n (I := iX10_offOf) dX10_offOf_4 rfl ?_
      refine v_aload_n (I := iX10_offOf) dX10_offOf_5 rfl ?_
      refine v_get (I := iX10_offOf) g_X10_60 dX10_offOf_6 (by decide) (ae_87 _ _) rfl ?_
      refine v_iload_n (I := iX10_offOf) dX10_offOf_9 rfl ?_
      refine v_ialdN (I := iX10_offOf) (j := q) hx (by omega) (by decide) dX10_offOf_10 (by decide) (ae_102 _ _) ?_
      rw [hF9 102 (by decide) (by decide) (by decide) (by decide), hN]
      refine v_icmp_ge (I := iX10_offOf) (tgt := 62) dX10_offOf_11 (by decide) (fun c11 => ?_) (fun c11 => ?_)
      · exact absurd c11 (by exact nI_ge (by omega) (by omega))
      · refine v_aload_n (I := iX10_offOf) dX10_offOf_14 rfl ?_
        refine v_iconst (I := iX10_offOf) (v := 1) dX10_offOf_15 (by decide) ?_
        refine v_callVvP (I := iX10_offOf) (I' := iX10_tenthsGo) lk_X10_261 c_X10_tenthsGo dX10_offOf_16 (m_X10_tenthsGo (n := 1) hI9 rfl (by decide)) rfl rfl (by decide) (ae_87 _ _) rfl (by decide) (by decide) (Nat.le_of_ble_eq_true rfl) (fun s16 h16 => ?_)
        have hFk : FrB σ s16 := fun k a b c d => (h16.2 k a c d).trans (hF9 k a b c d)
        refine v_aload_n (I := iX10_offOf) dX10_offOf_19 rfl ?_
        refine v_get (I := iX10_offOf) g_X10_63 dX10_offOf_20 (by decide) (ae_87 _ _) rfl ?_
        refine v_bipush (I := iX10_offOf) (v := 24) dX10_offOf_23 (by decide) ?_
        refine v_iload_n (I := iX10_offOf) dX10_offOf_25 rfl ?_
        refine v_imul (I := iX10_offOf) dX10_offOf_26 ?_
        refine v_iload_n (I := iX10_offOf) dX10_offOf_27 rfl ?_
        refine v_iadd (I := iX10_offOf) dX10_offOf_28 ?_
        refine v_ialdN (I := iX10_offOf) (j := (24 * q + k)) (by rw [hx, show (24 : Int32) = nI 24 from rfl, pk_mul, nI_add]) (by omega) (by decide) dX10_offOf_29 (by decide) (ae_103 _ _) ?_
        rw [hFk 103 (by decide) (by decide) (by decide) (by decide)]
        refine v_i2l (I := iX10_offOf) dX10_offOf_30 ?_
        refine v_aload_n (I := iX10_offOf) dX10_offOf_31 rfl ?_
        refine v_get (I := iX10_offOf) g_X10_9 dX10_offOf_32 (by decide) (ae_87 _ _) rfl ?_
        refine v_iconst (I := iX10_offOf) (v := 0) dX10_offOf_35 (by decide) ?_
        refine v_ialdN (I := iX10_offOf) (j := 0) (by decide) (by decide) (by decide) dX10_offOf_36 (by decide) (ae_88 _ _) ?_
        rw [h16.1]
        refine v_i2l (I := iX10_offOf) dX10_offOf_37 ?_
        refine v_lsub (I := iX10_offOf) dX10_offOf_38 ?_
        refine v_absL (I := iX10_offOf) lm_X10_318 dX10_offOf_39 (by decide) (Nat.le_of_ble_eq_true rfl) ?_
        refine v_lstore (I := iX10_offOf) (ls1 := [(4, _), (3, _), (2, _), (0, _), (1, _)]) dX10_offOf_42 (by decide) rfl ?_
        refine v_iload_n (I := iX10_offOf) dX10_offOf_44 rfl ?_
        refine v_ldc2 (I := iX10_offOf) k_X10_321 dX10_offOf_45 ?_
        refine v_lload (I := iX10_offOf) dX10_offOf_48 rfl ?_
        refine v_minL (I := iX10_offOf) lm_X10_323 dX10_offOf_50 (by decide) (Nat.le_of_ble_eq_true rfl) ?_
        refine v_l2i (I := iX10_offOf) dX10_offOf_53 ?_
        refine v_iadd (I := iX10_offOf) dX10_offOf_54 ?_
        refine v_istore_n (I := iX10_offOf) (ls1 := [(2, _), (4, _), (3, _), (0, _), (1, _)]) dX10_offOf_55 (by decide) rfl ?_
        refine v_iinc (I := iX10_offOf) (ls1 := [(3, _), (2, _), (4, _), (0, _), (1, _)]) dX10_offOf_56 rfl rfl (by decide) rfl ?_
        refine v_goto (I := iX10_offOf) (tgt := 4) dX10_offOf_59 (by decide) ?_
        refine v_pick (I := iX10_offOf) (ls1 := [(3, _), (2, _), (0, _), (1, _)]) [0, 1, 3, 4] rfl ?_
        exact ih (k + 1) (by omega) (by rw [h16.1]; exact IV_tenths 1 hI9) ((h16.2 90 (by decide) (by decide) (by decide)).trans h90) hFk (by rw [h16.1, ← he]; exact Int32.add_assoc _ _ _) (by exact nI_1 k)
  refine v_iconst (I := iX10_offOf) (v := 0) dX10_offOf_0 (by decide) ?_
  refine v_istore_n (I := iX10_offOf) (ls1 := [(2, _), (0, _), (1, _)]) dX10_offOf_1 (by decide) rfl ?_
  refine v_iconst (I := iX10_offOf) (v := 0) dX10_offOf_2 (by decide) ?_
  refine v_istore_n (I := iX10_offOf) (ls1 := [(3, _), (2, _), (0, _), (1, _)]) dX10_offOf_3 (by decide) rfl ?_
  exact key N 0 (by omega) hI rfl (fun _ _ _ _ _ => rfl) (Int32.zero_add _) rfl
set_option maxRecDepth 100000 in
set_option maxHeartbeats 4000000 in
theorem m_X9_sheetAt {G : fGm} {σ : fSt} {τ : fLt} {x : Int32} {q : Nat} (hx : x = nI q) (hq : q < 4) : MS G iX9_sheetAt 0 [.ref 0, .int x] σ τ (rT (some (.ref (sc q))) σ τ) := by
  refine ms_of (by decide +kernel) (Nat.le_of_ble_eq_true rfl) ?_
  show VW _ _ _ _ _ _ 0 [(0, _), (1, _)] []
  refine v_iload_n (I := iX9_sheetAt) dX9_sheetAt_0 rfl ?_
  refine v_if_lt (I := iX9_sheetAt) (tgt := 22) dX9_sheetAt_1 (by decide) (fun c1 => ?_) (fun c1 => ?_)
  · exact absurd c1 (by rw [hx]; have := nI_pos' (n := q) (by omega); grind)
  · refine v_iload_n (I := iX9_sheetAt) dX9_sheetAt_4 rfl ?_
    refine v_aload_n (I := iX9_sheetAt) dX9_sheetAt_5 rfl ?_
    refine v_get (I := iX9_sheetAt) g_X9_38 dX9_sheetAt_6 (by decide) (ae_0 _ _) rfl ?_
    refine v_alenQ (I := iX9_sheetAt) dX9_sheetAt_9 (by decide) (ae_75 _ _) ?_
    refine v_icmp_ge (I := iX9_sheetAt) (tgt := 22) dX9_sheetAt_10 (by decide) (fun c10 => ?_) (fun c10 => ?_)
    · exact absurd c10 (by rw [hx]; have h9 : nI q < nI 4 := nI_lt (by omega) (by decide); generalize nI q = y at *; grind)
    · refine v_aload_n (I := iX9_sheetAt) dX9_sheetAt_13 rfl ?_
      refine v_get (I := iX9_sheetAt) g_X9_38 dX9_sheetAt_14 (by decide) (ae_0 _ _) rfl ?_
      refine v_iload_n (I := iX9_sheetAt) dX9_sheetAt_17 rfl ?_
      refine v_aald (I := iX9_sheetAt) (q := sc q) (t := 0) (j := q) (by decide) hx hq (by decide) rfl dX9_sheetAt_18 (by decide) (ae_75 _ _) ?_
      refine v_goto (I := iX9_sheetAt) (tgt := 23) dX9_sheetAt_19 (by decide) ?_
      exact v_aret (I := iX9_sheetAt) rfl (Or.inl ⟨_, rfl⟩) dX9_sheetAt_23 ⟨rfl, rfl, rfl⟩
set_option maxRecDepth 100000 in
set_option maxHeartbeats 4000000 in
theorem m_X9_sheetAt0 {G : fGm} {σ : fSt} {τ : fLt} {x : Int32} (hx : ¬ (0 ≤ x ∧ x ≤ 3)) : MS G iX9_sheetAt 0 [.ref 0, .int x] σ τ (rT (some .null) σ τ) := by
  refine ms_of (by decide +kernel) (Nat.le_of_ble_eq_true rfl) ?_
  show VW _ _ _ _ _ _ 0 [(0, _), (1, _)] []
  refine v_iload_n (I := iX9_sheetAt) dX9_sheetAt_0 rfl ?_
  refine v_if_lt (I := iX9_sheetAt) (tgt := 22) dX9_sheetAt_1 (by decide) (fun c1 => ?_) (fun c1 => ?_)
  · refine v_null (I := iX9_sheetAt) dX9_sheetAt_22 ?_
    exact v_aretN (I := iX9_sheetAt) rfl (Or.inl ⟨_, rfl⟩) dX9_sheetAt_23 ⟨rfl, rfl, rfl⟩
  · refine v_iload_n (I := iX9_sheetAt) dX9_sheetAt_4 rfl ?_
    refine v_aload_n (I := iX9_sheetAt) dX9_sheetAt_5 rfl ?_
    refine v_get (I := iX9_sheetAt) g_X9_38 dX9_sheetAt_6 (by decide) (ae_0 _ _) rfl ?_
    refine v_alenQ (I := iX9_sheetAt) dX9_sheetAt_9 (by decide) (ae_75 _ _) ?_
    refine v_icmp_ge (I := iX9_sheetAt) (tgt := 22) dX9_sheetAt_10 (by decide) (fun c10 => ?_) (fun c10 => ?_)
    · refine v_null (I := iX9_sheetAt) dX9_sheetAt_22 ?_
      exact v_aretN (I := iX9_sheetAt) rfl (Or.inl ⟨_, rfl⟩) dX9_sheetAt_23 ⟨rfl, rfl, rfl⟩
    · exact absurd (show 0 ≤ x ∧ x ≤ 3 by have h4 : ¬ (4 : Int32) ≤ x := c10; grind) hx
set_option maxRecDepth 100000 in
set_option maxHeartbeats 4000000 in
theorem m_X10_isSheet {G : fGm} {σ : fSt} {τ : fLt} {n : Int32} : MS G iX10_isSheet 1 [.int n] σ τ (rT (some (.int (if 0 ≤ n ∧ n ≤ 3 then 1 else 0))) σ τ) := by
  refine ms_of (by decide +kernel) (Nat.le_of_ble_eq_true rfl) ?_
  show VW _ _ _ _ _ _ 0 [(0, _)] []
  refine v_iload_n (I := iX10_isSheet) dX10_isSheet_0 rfl ?_
  refine v_iconst (I := iX10_isSheet) (v := 0) dX10_isSheet_1 (by decide) ?_
  refine v_iconst (I := iX10_isSheet) (v := 3) dX10_isSheet_2 (by decide) ?_
  refine v_callSi (I := iX10_isSheet) (I' := iX10_within) lk_X10_79 c_X10_within dX10_isSheet_3 (m_X10_within) rfl rfl (by decide) (by decide) (Nat.le_of_ble_eq_true rfl) ?_
  exact v_zret (I := iX10_isSheet) rfl nar_b dX10_isSheet_6 ⟨by first | rfl | (simp only [*]; done) | (simp [*]; done), rfl, rfl⟩
def offS (ρ : fSt) (s : Int32) : Int32 × fSt := if 0 ≤ s ∧ s ≤ 3 then (if ρ 101 s.toNatClampNeg = 0 then (errV 2, errS ρ 2) else (offR (fun j => ρ 103 (24 * s.toNatClampNeg + j)) (ρ 102 s.toNatClampNeg).toNatClampNeg 0 (ρ 88), ρ)) else (errV 1, errS ρ 1)
/-- a sheet of the class -/
theorem CR_sh {σ ρ : fSt} (h : CR σ ρ) {q : Nat} (hq : q < 4) : σ (sc q) 1 = ρ 101 q ∧ (ρ 101 q ≠ 0 → σ (sc q) 2 = ρ 102 q) ∧ ∀ j, j < 24 → σ (sc q + 1) j = ρ 103 (24 * q + j) := h.2.2.2.1 q hq
theorem sz_nI {ρ : fSt} (h : OKr ρ) {q : Nat} (hq : q < 4) : ∃ N, N ≤ 24 ∧ ρ 102 q = nI N := by
  have h1 := h.2.2.1 q hq
  obtain ⟨N, hN, e⟩ := in2_nI (x := ρ 102 q) (n := 25) (by decide) ⟨h1.1, by have := h1.2; show ρ 102 q < 25; grind⟩
  exact ⟨N, by omega, e⟩
set_option maxRecDepth 100000 in
set_option maxHeartbeats 8000000 in
theorem m_X9_off {G : fGm} {σ : fSt} {τ : fLt} {ρ : fSt} (hC : CR σ ρ) {s : Int32} : MS G iX9_off 8 [.ref 0, .int s] σ τ (rC τ σ (offS ρ s)) := by
  refine ms_of (by decide +kernel) (Nat.le_of_ble_eq_true rfl) ?_
  show VW _ _ _ _ _ _ 0 [(0, _), (1, _)] []
  by_cases hs : 0 ≤ s ∧ s ≤ 3
  · obtain ⟨q, hq, hqx⟩ : ∃ q, q < 4 ∧ s = nI q := in2_nI (by decide) ⟨hs.1, by show s < 4; have := hs.2; grind⟩
    have hqc : s.toNatClampNeg = q := by rw [hqx]; exact nI_clamp (by omega)
    have hSH := CR_sh hC hq
    obtain ⟨N, hN8, hN⟩ := sz_nI hC.2.2.2.2.2 hq
    have hNc : (ρ 102 q).toNatClampNeg = N := by rw [hN]; exact nI_clamp (by omega)
    refine v_aload_n (I := iX9_off) dX9_off_0 rfl ?_
    refine v_iload_n (I := iX9_off) dX9_off_1 rfl ?_
    refine v_callVr (I := iX9_off) (I' := iX9_sheetAt) lk_X9_258 c_X9_sheetAt dX9_off_2 (m_X9_sheetAt hqx hq) rfl rfl (by decide) (ae_0 _ _) rfl (by decide) (by decide) (Nat.le_of_ble_eq_true rfl) ?_
    refine v_astore_n (I := iX9_off) (ls1 := [(2, _), (0, _), (1, _)]) dX9_off_5 (by decide) rfl ?_
    refine v_aload_n (I := iX9_off) dX9_off_6 rfl ?_
    refine v_ifnonnull (I := iX9_off) (tgt := 16) dX9_off_7 (by decide) ?_
    refine v_aload_n (I := iX9_off) dX9_off_16 rfl ?_
    refine v_get (I := iX9_off) g_X9_266 dX9_off_17 (sc_lt hq) (ae_s0 hq _ _) rfl ?_
    rw [hSH.1]
    refine v_if_ne (I := iX9_off) (tgt := 29) dX9_off_20 (by decide) (fun c20 => ?_) (fun c20 => ?_)
    · refine v_aload_n (I := iX9_off) dX9_off_29 rfl ?_
      refine v_get (I := iX9_off) g_X9_19 dX9_off_30 (by decide) (ae_0 _ _) rfl ?_
      refine v_aload_n (I := iX9_off) dX9_off_33 rfl ?_
      refine v_get (I := iX9_off) g_X9_10 dX9_off_34 (by decide) (ae_0 _ _) rfl ?_
      refine v_callVvP (I := iX9_off) (I' := iX8_become) lk_X9_204 c_X8_become dX9_off_37 (m_X8_become_20) rfl rfl (by decide) (ae_w0 (by decide) _ _) rfl (by decide) (by decide) (Nat.le_of_ble_eq_true rfl) (fun s37 h37 => ?_)
      have hNq : s37 (sc q) 2 = nI N := by rw [(FrW.s2 h37.2 hq).1, hSH.2.1 c20, hN]
      refine v_aload_n (I := iX9_off) dX9_off_40 rfl ?_
      refine v_aload_n (I := iX9_off) dX9_off_41 rfl ?_
      refine v_callViP (I := iX9_off) (I' := iX9_offAhead) lk_X9_283 c_X9_offAhead dX9_off_42 (m_X9_offAhead hq (h37.1 _ hC.1) hC.2.2.2.2.2.1 hNq hN8) rfl rfl (by decide) (ae_0 _ _) rfl (by decide) (by decide) (Nat.le_of_ble_eq_true rfl) (fun s42 h42 => ?_)
      exact v_iret (I := iX9_off) rfl dX9_off_45 (by unfold offS; rw [if_pos hs, hqc, if_neg c20, hNc, ← offR_congr (W := s37 (sc q + 1)) N 0 (fun j hj => by rw [(FrW.s2 h37.2 hq).2]; exact hSH.2.2 j (by omega))]; exact ⟨rfl, rfl, CR_ahead hC (h37.2.tr h42), FrW.C (by decide) (h37.2.tr h42)⟩)
    · refine v_aload_n (I := iX9_off) dX9_off_23 rfl ?_
      refine v_iconst (I := iX9_off) (v := 2) dX9_off_24 (by decide) ?_
      refine v_callVi (I := iX9_off) (I' := iX9_refused) lk_X9_62 c_X9_refused dX9_off_25 (m_X9_refused (e := 2) (by decide) (by decide) (by decide)) rfl rfl (by decide) (ae_0 _ _) rfl (by decide) (by decide) (Nat.le_of_ble_eq_true rfl) ?_
      exact v_iret (I := iX9_off) rfl dX9_off_28 (by unfold offS; rw [if_pos hs, hqc, if_pos c20]; exact ⟨rfl, rfl, CR_err hC (by decide) (by decide), FC.up (by decide)⟩)
  · skip
    refine v_aload_n (I := iX9_off) dX9_off_0 rfl ?_
    refine v_iload_n (I := iX9_off) dX9_off_1 rfl ?_
    refine v_callVE (I := iX9_off) (I' := iX9_sheetAt) lk_X9_258 c_X9_sheetAt dX9_off_2 (m_X9_sheetAt0 hs) rfl rfl (by decide) (ae_0 _ _) rfl (by decide) (by decide) (Nat.le_of_ble_eq_true rfl) ?_
    refine v_astore_nN (I := iX9_off) (ls1 := [(2, _), (0, _), (1, _)]) dX9_off_5 (by decide) rfl ?_
    refine v_aload_nN (I := iX9_off) dX9_off_6 rfl ?_
    refine v_ifnonnullN (I := iX9_off) dX9_off_7 ?_
    refine v_aload_n (I := iX9_off) dX9_off_10 rfl ?_
    refine v_iconst (I := iX9_off) (v := 1) dX9_off_11 (by decide) ?_
    refine v_callVi (I := iX9_off) (I' := iX9_refused) lk_X9_62 c_X9_refused dX9_off_12 (m_X9_refused (e := 1) (by decide) (by decide) (by decide)) rfl rfl (by decide) (ae_0 _ _) rfl (by decide) (by decide) (Nat.le_of_ble_eq_true rfl) ?_
    exact v_iret (I := iX9_off) rfl dX9_off_15 (by unfold offS; rw [if_neg hs]; exact ⟨rfl, rfl, CR_err hC (by decide) (by decide), FC.up (by decide)⟩)
set_option maxRecDepth 100000 in
set_option maxHeartbeats 4000000 in
theorem m_X10_off {G : fGm} {σ : fSt} {τ : fLt} {ρ : fSt} (hR : RR σ ρ) {s : Int32} : MS G iX10_off 9 [.ref 87, .int s] σ τ (rR τ σ (offS ρ s)) := by
  refine ms_of (by decide +kernel) (Nat.le_of_ble_eq_true rfl) ?_
  show VW _ _ _ _ _ _ 0 [(0, _), (1, _)] []
  refine v_iload_n (I := iX10_off) dX10_off_0 rfl ?_
  refine v_callSi (I := iX10_off) (I' := iX10_isSheet) lk_X10_315 c_X10_isSheet dX10_off_1 (m_X10_isSheet) rfl rfl (by decide) (by decide) (Nat.le_of_ble_eq_true rfl) ?_
  refine v_if_neB (I := iX10_off) (tgt := 14) dX10_off_4 (by decide) (fun c4 => ?_) (fun c4 => ?_)
  · obtain ⟨q, hq, hqx⟩ : ∃ q, q < 4 ∧ s = nI q := in2_nI (by decide) ⟨by grind, by show s < 4; grind⟩
    have hqc : s.toNatClampNeg = q := by rw [hqx]; exact nI_clamp (by omega)
    obtain ⟨N, hN8, hN⟩ := sz_nI hR.2.2.2.2.2.2.2.2.2.2.2 hq
    have hNc : (ρ 102 q).toNatClampNeg = N := by rw [hN]; exact nI_clamp (by omega)
    refine v_aload_n (I := iX10_off) dX10_off_14 rfl ?_
    refine v_get (I := iX10_off) g_X10_57 dX10_off_15 (by decide) (ae_87 _ _) rfl ?_
    refine v_iload_n (I := iX10_off) dX10_off_18 rfl ?_
    refine v_ialdN (I := iX10_off) (j := q) hqx hq (by decide) dX10_off_19 (by decide) (ae_101 _ _) ?_
    rw [hR.2.2.2.2.2.2.1]
    refine v_if_ne (I := iX10_off) (tgt := 30) dX10_off_20 (by decide) (fun c20 => ?_) (fun c20 => ?_)
    · refine v_aload_n (I := iX10_off) dX10_off_30 rfl ?_
      refine v_get (I := iX10_off) g_X10_9 dX10_off_31 (by decide) (ae_87 _ _) rfl ?_
      refine v_aload_n (I := iX10_off) dX10_off_34 rfl ?_
      refine v_get (I := iX10_off) g_X10_16 dX10_off_35 (by decide) (ae_87 _ _) rfl ?_
      refine v_callSv (I := iX10_off) (I' := iX10_copy) lk_X10_83 c_X10_copy dX10_off_38 (m_X10_copy (by decide) (by decide) (ae_88) (ae_90) (by decide)) rfl rfl (by decide) (by decide) (Nat.le_of_ble_eq_true rfl) ?_
      have h88 : va_up σ 90 (σ 88) 88 = ρ 88 := (va_up_o _ _ (by decide)).trans hR.1
      have h90 : va_up σ 90 (σ 88) 90 = ρ 88 := (va_up_s _ _ _).trans hR.1
      have hsz : va_up σ 90 (σ 88) 102 q = nI N := by rw [va_up_o _ _ (by decide), hR.2.2.2.2.2.2.2.1, hN]
      refine v_aload_n (I := iX10_off) dX10_off_41 rfl ?_
      refine v_iload_n (I := iX10_off) dX10_off_42 rfl ?_
      refine v_callViP (I := iX10_off) (I' := iX10_offOf) lk_X10_325 c_X10_offOf dX10_off_43 (m_X10_offOf hqx hq (by rw [h88]; exact hR.2.2.2.2.2.2.2.2.2.2.2.1) hsz hN8) rfl rfl (by decide) (ae_87 _ _) rfl (by decide) (by decide) (Nat.le_of_ble_eq_true rfl) (fun s43 h43 => ?_)
      exact v_iret (I := iX10_off) rfl dX10_off_46 (by unfold offS; rw [if_pos (by grind), hqc, if_neg c20, hNc]; have hFk : FrB σ s43 := fun k a b c d => (h43.2.2 k a b c d).trans (va_up_o _ _ b); exact ⟨by rw [h88, va_up_o _ _ (by decide), hR.2.2.2.2.2.2.2.2.1], rfl, RR_b2 hR (h43.1.trans h90) (h43.2.1.trans h90) hFk, hFk.R⟩)
    · refine v_aload_n (I := iX10_off) dX10_off_23 rfl ?_
      refine v_ldc (I := iX10_off) k_X10_124 dX10_off_24 ?_
      refine v_callVi (I := iX10_off) (I' := iX10_finding) lk_X10_92 c_X10_finding dX10_off_26 (m_X10_findE (e := 2) (by decide) (by decide)) rfl rfl (by decide) (ae_87 _ _) rfl (by decide) (by decide) (Nat.le_of_ble_eq_true rfl) ?_
      exact v_iret (I := iX10_off) rfl dX10_off_29 (by unfold offS; rw [if_pos (by grind), hqc, if_pos c20]; exact ⟨rfl, rfl, RR_err hR, FR.up (by decide)⟩)
  · refine v_aload_n (I := iX10_off) dX10_off_7 rfl ?_
    refine v_ldc (I := iX10_off) k_X10_91 dX10_off_8 ?_
    refine v_callVi (I := iX10_off) (I' := iX10_finding) lk_X10_92 c_X10_finding dX10_off_10 (m_X10_findE (e := 1) (by decide) (by decide)) rfl rfl (by decide) (ae_87 _ _) rfl (by decide) (by decide) (Nat.le_of_ble_eq_true rfl) ?_
    exact v_iret (I := iX10_off) rfl dX10_off_13 (by unfold offS; rw [if_neg (by grind)]; exact ⟨rfl, rfl, RR_err hR, FR.up (by decide)⟩)
