theorem tst1 {x : Int32} (h : x ≤ 99) (h0 : 0 ≤ x) : 0 ≤ x / 10 ∧ x / 10 ≤ 9 := by grind
theorem tst2 {a b : Int32} (h : a < b) : ¬ b ≤ a := by grind
theorem tst3 {a b c : Int32} (h : a < b) (h2 : b ≤ c) : a ≤ c := by grind
theorem tst4 {a : Int32} (h : 0 ≤ a) (h2 : a ≤ 100) : a + 1 ≤ 101 := by grind
theorem tst5 {a : Int32} (h : 0 ≤ a) (h2 : a ≤ 100) : a + 1 - 1 = a := by grind
def hld (v lo hi : Int32) : Int32 := if lo < (if v < hi then v else hi) then (if v < hi then v else hi) else lo
set_option maxRecDepth 100000 in
set_option maxHeartbeats 4000000 in
theorem m_X9_within {G : fGm} {σ : fSt} {τ : fLt} {a b c : Int32} : MS G iX9_within 0 [.int a, .int b, .int c] σ τ (rT (some (.int (if b ≤ a ∧ a ≤ c then 1 else 0))) σ τ) := by
  refine ms_of (by decide +kernel) (Nat.le_of_ble_eq_true rfl) ?_
  show VW _ _ _ _ _ _ 0 [(0, _), (1, _), (2, _)] []
  refine v_iload_n dX9_within_0 rfl ?_
  refine v_iload_n dX9_within_1 rfl ?_
  refine v_icmp_lt (tgt := 14) dX9_within_2 (by decide) (fun c2 => ?_) (fun c2 => ?_)
  · refine v_iconst (v := 0) dX9_within_14 (by decide) ?_
    exact v_zret rfl rfl dX9_within_15 ⟨by grind, rfl, rfl⟩
  · refine v_iload_n dX9_within_5 rfl ?_
    refine v_iload_n dX9_within_6 rfl ?_
    refine v_icmp_gt (tgt := 14) dX9_within_7 (by decide) (fun c7 => ?_) (fun c7 => ?_)
    · refine v_iconst (v := 0) dX9_within_14 (by decide) ?_
      exact v_zret rfl rfl dX9_within_15 ⟨by grind, rfl, rfl⟩
    · refine v_iconst (v := 1) dX9_within_10 (by decide) ?_
      refine v_goto (tgt := 15) dX9_within_11 (by decide) ?_
      exact v_zret rfl rfl dX9_within_15 ⟨by grind, rfl, rfl⟩
set_option maxRecDepth 100000 in
set_option maxHeartbeats 4000000 in
theorem m_X9_held {G : fGm} {σ : fSt} {τ : fLt} {a b c : Int32} : MS G iX9_held 1 [.int a, .int b, .int c] σ τ (rT (some (.int (hld a b c))) σ τ) := by
  refine ms_of (by decide +kernel) (Nat.le_of_ble_eq_true rfl) ?_
  show VW _ _ _ _ _ _ 0 [(0, _), (1, _), (2, _)] []
  refine v_iload_n dX9_held_0 rfl ?_
  refine v_iload_n dX9_held_1 rfl ?_
  refine v_iload_n dX9_held_2 rfl ?_
  refine v_min lm_X9_230 dX9_held_3 (by decide) (Nat.le_of_ble_eq_true rfl) ?_
  refine v_max lm_X9_225 dX9_held_6 (by decide) (Nat.le_of_ble_eq_true rfl) ?_
  exact v_iret rfl dX9_held_9 ⟨by first | rfl | (simp only [*]; done) | (simp [*]; done), rfl, rfl⟩
set_option maxRecDepth 100000 in
set_option maxHeartbeats 4000000 in
theorem m_X10_within {G : fGm} {σ : fSt} {τ : fLt} {a b c : Int32} : MS G iX10_within 0 [.int a, .int b, .int c] σ τ (rT (some (.int (if b ≤ a ∧ a ≤ c then 1 else 0))) σ τ) := by
  refine ms_of (by decide +kernel) (Nat.le_of_ble_eq_true rfl) ?_
  show VW _ _ _ _ _ _ 0 [(0, _), (1, _), (2, _)] []
  refine v_iload_n dX10_within_0 rfl ?_
  refine v_iload_n dX10_within_1 rfl ?_
  refine v_icmp_lt (tgt := 14) dX10_within_2 (by decide) (fun c2 => ?_) (fun c2 => ?_)
  · refine v_iconst (v := 0) dX10_within_14 (by decide) ?_
    exact v_zret rfl rfl dX10_within_15 ⟨by grind, rfl, rfl⟩
  · refine v_iload_n dX10_within_5 rfl ?_
    refine v_iload_n dX10_within_6 rfl ?_
    refine v_icmp_gt (tgt := 14) dX10_within_7 (by decide) (fun c7 => ?_) (fun c7 => ?_)
    · refine v_iconst (v := 0) dX10_within_14 (by decide) ?_
      exact v_zret rfl rfl dX10_within_15 ⟨by grind, rfl, rfl⟩
    · refine v_iconst (v := 1) dX10_within_10 (by decide) ?_
      refine v_goto (tgt := 15) dX10_within_11 (by decide) ?_
      exact v_zret rfl rfl dX10_within_15 ⟨by grind, rfl, rfl⟩
set_option maxRecDepth 100000 in
set_option maxHeartbeats 4000000 in
theorem m_X10_held {G : fGm} {σ : fSt} {τ : fLt} {a b c : Int32} : MS G iX10_held 1 [.int a, .int b, .int c] σ τ (rT (some (.int (hld a b c))) σ τ) := by
  refine ms_of (by decide +kernel) (Nat.le_of_ble_eq_true rfl) ?_
  show VW _ _ _ _ _ _ 0 [(0, _), (1, _), (2, _)] []
  refine v_iload_n dX10_held_0 rfl ?_
  refine v_iload_n dX10_held_1 rfl ?_
  refine v_iload_n dX10_held_2 rfl ?_
  refine v_min lm_X10_70 dX10_held_3 (by decide) (Nat.le_of_ble_eq_true rfl) ?_
  refine v_max lm_X10_76 dX10_held_6 (by decide) (Nat.le_of_ble_eq_true rfl) ?_
  exact v_iret rfl dX10_held_9 ⟨by first | rfl | (simp only [*]; done) | (simp [*]; done), rfl, rfl⟩
