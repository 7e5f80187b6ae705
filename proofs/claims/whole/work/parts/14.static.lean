def hld (v lo hi : Int32) : Int32 := if lo < (if v < hi then v else hi) then (if v < hi then v else hi) else lo
set_option maxRecDepth 100000 in
set_option maxHeartbeats 4000000 in
theorem m_X9_within {G : fGm} {σ : fSt} {τ : fLt} {a b c : Int32} : MS G iX9_within 0 [.int a, .int b, .int c] σ τ (rT (some (.int (if b ≤ a ∧ a ≤ c then 1 else 0))) σ τ) := by
  refine ms_of (by decide +kernel) (Nat.le_of_ble_eq_true rfl) ?_
  show VW _ _ _ _ _ _ 0 [(0, _), (1, _), (2, _)] []
  refine v_iload_n (I := iX9_within) dX9_within_0 rfl ?_
  refine v_iload_n (I := iX9_within) dX9_within_1 rfl ?_
  refine v_icmp_lt (I := iX9_within) (tgt := 14) dX9_within_2 (by decide) (fun c2 => ?_) (fun c2 => ?_)
  · refine v_iconst (I := iX9_within) (v := 0) dX9_within_14 (by decide) ?_
    exact v_zret (I := iX9_within) rfl rfl dX9_within_15 ⟨by grind, rfl, rfl⟩
  · refine v_iload_n (I := iX9_within) dX9_within_5 rfl ?_
    refine v_iload_n (I := iX9_within) dX9_within_6 rfl ?_
    refine v_icmp_gt (I := iX9_within) (tgt := 14) dX9_within_7 (by decide) (fun c7 => ?_) (fun c7 => ?_)
    · refine v_iconst (I := iX9_within) (v := 0) dX9_within_14 (by decide) ?_
      exact v_zret (I := iX9_within) rfl rfl dX9_within_15 ⟨by grind, rfl, rfl⟩
    · refine v_iconst (I := iX9_within) (v := 1) dX9_within_10 (by decide) ?_
      refine v_goto (I := iX9_within) (tgt := 15) dX9_within_11 (by decide) ?_
      exact v_zret (I := iX9_within) rfl rfl dX9_within_15 ⟨by grind, rfl, rfl⟩
set_option maxRecDepth 100000 in
set_option maxHeartbeats 4000000 in
theorem m_X9_held {G : fGm} {σ : fSt} {τ : fLt} {a b c : Int32} : MS G iX9_held 1 [.int a, .int b, .int c] σ τ (rT (some (.int (hld a b c))) σ τ) := by
  refine ms_of (by decide +kernel) (Nat.le_of_ble_eq_true rfl) ?_
  show VW _ _ _ _ _ _ 0 [(0, _), (1, _), (2, _)] []
  refine v_iload_n (I := iX9_held) dX9_held_0 rfl ?_
  refine v_iload_n (I := iX9_held) dX9_held_1 rfl ?_
  refine v_iload_n (I := iX9_held) dX9_held_2 rfl ?_
  refine v_min (I := iX9_held) lm_X9_230 dX9_held_3 (by decide) (Nat.le_of_ble_eq_true rfl) ?_
  refine v_max (I := iX9_held) lm_X9_225 dX9_held_6 (by decide) (Nat.le_of_ble_eq_true rfl) ?_
  exact v_iret (I := iX9_held) rfl dX9_held_9 ⟨by first | rfl | (simp only [*]; done) | (simp [*]; done), rfl, rfl⟩
set_option maxRecDepth 100000 in
set_option maxHeartbeats 4000000 in
theorem m_X10_within {G : fGm} {σ : fSt} {τ : fLt} {a b c : Int32} : MS G iX10_within 0 [.int a, .int b, .int c] σ τ (rT (some (.int (if b ≤ a ∧ a ≤ c then 1 else 0))) σ τ) := by
  refine ms_of (by decide +kernel) (Nat.le_of_ble_eq_true rfl) ?_
  show VW _ _ _ _ _ _ 0 [(0, _), (1, _), (2, _)] []
  refine v_iload_n (I := iX10_within) dX10_within_0 rfl ?_
  refine v_iload_n (I := iX10_within) dX10_within_1 rfl ?_
  refine v_icmp_lt (I := iX10_within) (tgt := 14) dX10_within_2 (by decide) (fun c2 => ?_) (fun c2 => ?_)
  · refine v_iconst (I := iX10_within) (v := 0) dX10_within_14 (by decide) ?_
    exact v_zret (I := iX10_within) rfl rfl dX10_within_15 ⟨by grind, rfl, rfl⟩
  · refine v_iload_n (I := iX10_within) dX10_within_5 rfl ?_
    refine v_iload_n (I := iX10_within) dX10_within_6 rfl ?_
    refine v_icmp_gt (I := iX10_within) (tgt := 14) dX10_within_7 (by decide) (fun c7 => ?_) (fun c7 => ?_)
    · refine v_iconst (I := iX10_within) (v := 0) dX10_within_14 (by decide) ?_
      exact v_zret (I := iX10_within) rfl rfl dX10_within_15 ⟨by grind, rfl, rfl⟩
    · refine v_iconst (I := iX10_within) (v := 1) dX10_within_10 (by decide) ?_
      refine v_goto (I := iX10_within) (tgt := 15) dX10_within_11 (by decide) ?_
      exact v_zret (I := iX10_within) rfl rfl dX10_within_15 ⟨by grind, rfl, rfl⟩
set_option maxRecDepth 100000 in
set_option maxHeartbeats 4000000 in
theorem m_X10_held {G : fGm} {σ : fSt} {τ : fLt} {a b c : Int32} : MS G iX10_held 1 [.int a, .int b, .int c] σ τ (rT (some (.int (hld a b c))) σ τ) := by
  refine ms_of (by decide +kernel) (Nat.le_of_ble_eq_true rfl) ?_
  show VW _ _ _ _ _ _ 0 [(0, _), (1, _), (2, _)] []
  refine v_iload_n (I := iX10_held) dX10_held_0 rfl ?_
  refine v_iload_n (I := iX10_held) dX10_held_1 rfl ?_
  refine v_iload_n (I := iX10_held) dX10_held_2 rfl ?_
  refine v_min (I := iX10_held) lm_X10_70 dX10_held_3 (by decide) (Nat.le_of_ble_eq_true rfl) ?_
  refine v_max (I := iX10_held) lm_X10_76 dX10_held_6 (by decide) (Nat.le_of_ble_eq_true rfl) ?_
  exact v_iret (I := iX10_held) rfl dX10_held_9 ⟨by first | rfl | (simp only [*]; done) | (simp [*]; done), rfl, rfl⟩
set_option maxRecDepth 100000 in
set_option maxHeartbeats 4000000 in
theorem m_X9_at {G : fGm} {σ : fSt} {τ : fLt} {k n : Nat} {i : Int32} (hk : k < 105) (ha : ∀ f g, aent k f g = aI n f) (hn : n < 2 ^ 31) : MS G iX9_at 0 [.ref k, .int i] σ τ (rT (some (.int (rdA n (σ k) i))) σ τ) := by
  refine ms_of (by decide +kernel) (Nat.le_of_ble_eq_true rfl) ?_
  show VW _ _ _ _ _ _ 0 [(0, _), (1, _)] []
  refine v_iload_n (I := iX9_at) dX9_at_0 rfl ?_
  refine v_if_lt (I := iX9_at) (tgt := 16) dX9_at_1 (by decide) (fun c1 => ?_) (fun c1 => ?_)
  · refine v_iconst (I := iX9_at) (v := 0) dX9_at_16 (by decide) ?_
    exact v_iret (I := iX9_at) rfl dX9_at_17 ⟨by unfold rdA; grind, rfl, rfl⟩
  · refine v_iload_n (I := iX9_at) dX9_at_4 rfl ?_
    refine v_aload_n (I := iX9_at) dX9_at_5 rfl ?_
    refine v_alenI (I := iX9_at) dX9_at_6 hk (ha _ _) ?_
    refine v_icmp_ge (I := iX9_at) (tgt := 16) dX9_at_7 (by decide) (fun c7 => ?_) (fun c7 => ?_)
    · refine v_iconst (I := iX9_at) (v := 0) dX9_at_16 (by decide) ?_
      exact v_iret (I := iX9_at) rfl dX9_at_17 ⟨by unfold rdA; grind, rfl, rfl⟩
    · refine v_aload_n (I := iX9_at) dX9_at_10 rfl ?_
      refine v_iload_n (I := iX9_at) dX9_at_11 rfl ?_
      refine v_iald (I := iX9_at) dX9_at_12 hk (ha _ _) (vp_in2 hn ⟨Int32.not_lt.mp c1, Int32.not_le.mp c7⟩) ?_
      refine v_goto (I := iX9_at) (tgt := 17) dX9_at_13 (by decide) ?_
      exact v_iret (I := iX9_at) rfl dX9_at_17 ⟨by unfold rdA; grind, rfl, rfl⟩
set_option maxRecDepth 100000 in
set_option maxHeartbeats 4000000 in
theorem m_X9_at_tab {G : fGm} {σ : fSt} {τ : fLt} {j : Nat} {i : Int32} (hj : j < 5) : MS G iX9_at 0 [.ref (1000 + j), .int i] σ τ (rT (some (.int (rdA (sTb j).length (fun q => (sTb j).getD q 0) i))) σ τ) := by
  refine ms_of (by decide +kernel) (Nat.le_of_ble_eq_true rfl) ?_
  show VW _ _ _ _ _ _ 0 [(0, _), (1, _)] []
  refine v_iload_n (I := iX9_at) dX9_at_0 rfl ?_
  refine v_if_lt (I := iX9_at) (tgt := 16) dX9_at_1 (by decide) (fun c1 => ?_) (fun c1 => ?_)
  · refine v_iconst (I := iX9_at) (v := 0) dX9_at_16 (by decide) ?_
    exact v_iret (I := iX9_at) rfl dX9_at_17 ⟨by unfold rdA; grind, rfl, rfl⟩
  · refine v_iload_n (I := iX9_at) dX9_at_4 rfl ?_
    refine v_aload_n (I := iX9_at) dX9_at_5 rfl ?_
    refine v_tablen (I := iX9_at) (i := j) hj dX9_at_6 ?_
    refine v_icmp_ge (I := iX9_at) (tgt := 16) dX9_at_7 (by decide) (fun c7 => ?_) (fun c7 => ?_)
    · refine v_iconst (I := iX9_at) (v := 0) dX9_at_16 (by decide) ?_
      exact v_iret (I := iX9_at) rfl dX9_at_17 ⟨by unfold rdA; grind, rfl, rfl⟩
    · refine v_aload_n (I := iX9_at) dX9_at_10 rfl ?_
      refine v_iload_n (I := iX9_at) dX9_at_11 rfl ?_
      refine v_tabldX (I := iX9_at) hj dX9_at_12 (Int32.not_lt.mp c1) (Int32.not_le.mp c7) ?_
      refine v_goto (I := iX9_at) (tgt := 17) dX9_at_13 (by decide) ?_
      exact v_iret (I := iX9_at) rfl dX9_at_17 ⟨by unfold rdA; grind, rfl, rfl⟩
set_option maxRecDepth 100000 in
set_option maxHeartbeats 4000000 in
theorem m_X9_exchange {G : fGm} {σ : fSt} {τ : fLt} {v : Int32} {k n : Nat} {i : Int32} (hk : k < 105) (ha : ∀ f g, aent k f g = aI n f) (hn : n < 2 ^ 31) : MS G iX9_exchange 0 [.ref k, .int i, .int v] σ τ (rT (some (.int (rdA n (σ k) i))) (wrA σ k n i v) τ) := by
  refine ms_of (by decide +kernel) (Nat.le_of_ble_eq_true rfl) ?_
  show VW _ _ _ _ _ _ 0 [(0, _), (1, _), (2, _)] []
  refine v_iload_n (I := iX9_exchange) dX9_exchange_0 rfl ?_
  refine v_if_lt (I := iX9_exchange) (tgt := 10) dX9_exchange_1 (by decide) (fun c1 => ?_) (fun c1 => ?_)
  · refine v_iconst (I := iX9_exchange) (v := 0) dX9_exchange_10 (by decide) ?_
    exact v_iret (I := iX9_exchange) rfl dX9_exchange_11 ⟨by unfold rdA; grind, by unfold wrA; grind, rfl⟩
  · refine v_iload_n (I := iX9_exchange) dX9_exchange_4 rfl ?_
    refine v_aload_n (I := iX9_exchange) dX9_exchange_5 rfl ?_
    refine v_alenI (I := iX9_exchange) dX9_exchange_6 hk (ha _ _) ?_
    refine v_icmp_lt (I := iX9_exchange) (tgt := 12) dX9_exchange_7 (by decide) (fun c7 => ?_) (fun c7 => ?_)
    · refine v_aload_n (I := iX9_exchange) dX9_exchange_12 rfl ?_
      refine v_iload_n (I := iX9_exchange) dX9_exchange_13 rfl ?_
      refine v_iald (I := iX9_exchange) dX9_exchange_14 hk (ha _ _) (vp_in2 hn ⟨Int32.not_lt.mp c1, c7⟩) ?_
      refine v_istore_n (I := iX9_exchange) (ls1 := [(3, _), (0, _), (1, _), (2, _)]) dX9_exchange_15 (by decide) rfl ?_
      refine v_aload_n (I := iX9_exchange) dX9_exchange_16 rfl ?_
      refine v_iload_n (I := iX9_exchange) dX9_exchange_17 rfl ?_
      refine v_iload_n (I := iX9_exchange) dX9_exchange_18 rfl ?_
      refine v_iast (I := iX9_exchange) dX9_exchange_19 hk (fun _ => ha _ _) (vp_in2 hn ⟨Int32.not_lt.mp c1, c7⟩) ?_
      refine v_iload_n (I := iX9_exchange) dX9_exchange_20 rfl ?_
      exact v_iret (I := iX9_exchange) rfl dX9_exchange_21 ⟨by unfold rdA; grind, by unfold wrA; grind, rfl⟩
    · refine v_iconst (I := iX9_exchange) (v := 0) dX9_exchange_10 (by decide) ?_
      exact v_iret (I := iX9_exchange) rfl dX9_exchange_11 ⟨by unfold rdA; grind, by unfold wrA; grind, rfl⟩
