set_option maxRecDepth 100000 in
set_option maxHeartbeats 4000000 in
theorem m_X10_finding {G : fGm} {σ : fSt} {τ : fLt} {x : Int32} {j : Nat} (hx : -1000000000 - x = nI j) (hj : j < 7) : MS G iX10_finding 0 [.ref 87, .int x] σ τ (rT (some (.int x)) (up2 σ 91 j (σ 91 j + 1)) τ) := by
  refine ms_of (by decide +kernel) (Nat.le_of_ble_eq_true rfl) ?_
  show VW _ _ _ _ _ _ 0 [(0, _), (1, _)] []
  refine v_aload_n (I := iX10_finding) dX10_finding_0 rfl ?_
  refine v_get (I := iX10_finding) g_X10_19 dX10_finding_1 (by decide) (ae_87 _ _) rfl ?_
  refine v_ldc (I := iX10_finding) k_X10_69 dX10_finding_4 ?_
  refine v_iload_n (I := iX10_finding) dX10_finding_6 rfl ?_
  refine v_isub (I := iX10_finding) dX10_finding_7 ?_
  refine v_dup2_11 (I := iX10_finding) dX10_finding_8 rfl rfl ?_
  refine v_ialdN (I := iX10_finding) (j := j) hx hj (by decide) dX10_finding_9 (by decide) (ae_91 _ _) ?_
  refine v_iconst (I := iX10_finding) (v := 1) dX10_finding_10 (by decide) ?_
  refine v_iadd (I := iX10_finding) dX10_finding_11 ?_
  refine v_iastN (I := iX10_finding) (j := j) hx hj (by decide) dX10_finding_12 (by decide) (fun _ => ae_91 _ _) ?_
  refine v_iload_n (I := iX10_finding) dX10_finding_13 rfl ?_
  exact v_iret (I := iX10_finding) rfl dX10_finding_14 ⟨by first | rfl | (simp only [*]; done) | (simp [*]; done), rfl, rfl⟩
set_option maxRecDepth 100000 in
set_option maxHeartbeats 4000000 in
theorem m_X10_isOf {G : fGm} {σ : fSt} {τ : fLt} {k x : Int32} {c : Nat} (hx : x = nI c) (hc : c < 295) : MS G iX10_isOf 1 [.ref 87, .int k, .int x] σ τ (rT (some (.int (if 0 ≤ k ∧ k ≤ σ 88 c - 1 then 1 else 0))) σ τ) := by
  refine ms_of (by decide +kernel) (Nat.le_of_ble_eq_true rfl) ?_
  show VW _ _ _ _ _ _ 0 [(0, _), (1, _), (2, _)] []
  refine v_iload_n (I := iX10_isOf) dX10_isOf_0 rfl ?_
  refine v_iconst (I := iX10_isOf) (v := 0) dX10_isOf_1 (by decide) ?_
  refine v_aload_n (I := iX10_isOf) dX10_isOf_2 rfl ?_
  refine v_get (I := iX10_isOf) g_X10_9 dX10_isOf_3 (by decide) (ae_87 _ _) rfl ?_
  refine v_iload_n (I := iX10_isOf) dX10_isOf_6 rfl ?_
  refine v_ialdN (I := iX10_isOf) (j := c) hx hc (by decide) dX10_isOf_7 (by decide) (ae_88 _ _) ?_
  refine v_iconst (I := iX10_isOf) (v := 1) dX10_isOf_8 (by decide) ?_
  refine v_isub (I := iX10_isOf) dX10_isOf_9 ?_
  refine v_callSi (I := iX10_isOf) (I' := iX10_within) lk_X10_79 c_X10_within dX10_isOf_10 (m_X10_within) rfl rfl (by decide) (by decide) (Nat.le_of_ble_eq_true rfl) ?_
  exact v_zret (I := iX10_isOf) rfl nar_b dX10_isOf_13 ⟨by first | rfl | (simp only [*]; done) | (simp [*]; done), rfl, rfl⟩
def cpF (n : Nat) (f g : Nat → Int32) : Nat → Int32 := fun j => if j < n then f j else g j
theorem cpF_0 (f g : Nat → Int32) : cpF 0 f g = g := by funext j; simp [cpF]
theorem up2_cpF {σ : fSt} {p q n : Nat} (hpq : p ≠ q) : up2 (va_up σ q (cpF n (σ p) (σ q))) q n ((va_up σ q (cpF n (σ p) (σ q))) p n) = va_up σ q (cpF (n + 1) (σ p) (σ q)) := by
  funext k j
  by_cases hk : k = q
  · subst hk
    rw [up2_f, va_up_s, va_up_s]
    by_cases hj : j = n
    · subst hj
      simp [va_up, cpF, hpq]
    · simp only [va_up, if_neg hj, cpF]
      by_cases h : j < n
      · rw [if_pos h, if_pos (by omega)]
      · rw [if_neg h, if_neg (by omega)]
  · rw [up2_kf _ _ _ hk, va_up_o _ _ hk, va_up_o _ _ hk]
set_option maxRecDepth 100000 in
set_option maxHeartbeats 4000000 in
theorem m_X10_copy {G : fGm} {σ : fSt} {τ : fLt} {p q : Nat} (hp : p < 105) (hq : q < 105) (ha : ∀ f g, aent p f g = aI 295 f) (hb : ∀ f g, aent q f g = aI 295 f) (hpq : p ≠ q) : MS G iX10_copy 0 [.ref p, .ref q] σ τ (rT none (va_up σ q (σ p)) τ) := by
  refine ms_of (by decide +kernel) (Nat.le_of_ble_eq_true rfl) ?_
  show VW _ _ _ _ _ _ 0 [(0, _), (1, _)] []
  have key : ∀ (m n : Nat), n ≤ 295 → 295 < n + m → ∀ {x : Int32}, x = nI n → VW G iX10_copy (rT none (va_up σ q (σ p)) τ) 0 (va_up σ q (cpF n (σ p) (σ q))) τ 2 [(2, .int x), (0, .ref p), (1, .ref q)] [] := by
    intro m
    induction m with
    | zero => intro n h1 h2; omega
    | succ m ih =>
    intro n h1 h2 x hx
    show VW _ _ _ _ _ _ 2 [(2, _), (0, _), (1, _)] []
    refine v_iload_n (I := iX10_copy) dX10_copy_2 rfl ?_
    refine v_sipush (I := iX10_copy) (v := 295) dX10_copy_3 (by decide) ?_
    refine v_icmp_ge (I := iX10_copy) (tgt := 21) dX10_copy_6 (by decide) (fun c6 => ?_) (fun c6 => ?_)
    · have hn9 : n = 295 := by
        rcases Nat.lt_or_ge n 295 with h9 | h9
        · exact absurd c6 (by rw [hx]; exact nI_ge (b := 295) h9 (by decide))
        · omega
      subst hn9
      refine v_extI (I := iX10_copy) (σ2 := va_up σ q (σ p)) (fun f g => hb f g) (fun j hj => by rw [va_up_s, va_up_s]; simp [cpF, hj]) (fun k hk => by rw [va_up_o _ _ hk, va_up_o _ _ hk]) ?_
      exact v_vret (I := iX10_copy) rfl dX10_copy_21 ⟨rfl, rfl, rfl⟩
    · have hn9 : n < 295 := by
        rcases Nat.lt_or_ge n 295 with h9 | h9
        · exact h9
        · exact absurd (by rw [hx]; exact nI_le (a := 295) h9 (by omega)) c6
      refine v_aload_n (I := iX10_copy) dX10_copy_9 rfl ?_
      refine v_iload_n (I := iX10_copy) dX10_copy_10 rfl ?_
      refine v_aload_n (I := iX10_copy) dX10_copy_11 rfl ?_
      refine v_iload_n (I := iX10_copy) dX10_copy_12 rfl ?_
      refine v_ialdN (I := iX10_copy) (j := n) hx hn9 (by decide) dX10_copy_13 hp (ha _ _) ?_
      refine v_iastN (I := iX10_copy) (j := n) hx hn9 (by decide) dX10_copy_14 hq (fun _ => hb _ _) ?_
      refine v_iinc (I := iX10_copy) (ls1 := [(2, _), (0, _), (1, _)]) dX10_copy_15 rfl rfl (by decide) rfl ?_
      refine v_goto (I := iX10_copy) (tgt := 2) dX10_copy_18 (by decide) ?_
      rw [up2_cpF hpq]
      exact ih (n + 1) (by omega) (by omega) (by rw [hx]; exact nI_1 n)
  refine v_iconst (I := iX10_copy) (v := 0) dX10_copy_0 (by decide) ?_
  refine v_istore_n (I := iX10_copy) (ls1 := [(2, _), (0, _), (1, _)]) dX10_copy_1 (by decide) rfl ?_
  have h0 : va_up σ q (cpF 0 (σ p) (σ q)) = σ := by
    rw [cpF_0]
    funext k
    by_cases hk : k = q
    · subst hk; rw [va_up_s]
    · rw [va_up_o _ _ hk]
  have h1 := key 296 0 (by decide) (by decide) (x := 0) rfl
  rw [h0] at h1
  exact h1
set_option maxRecDepth 100000 in
set_option maxHeartbeats 4000000 in
theorem m_X10_become {G : fGm} {σ : fSt} {τ : fLt} {x v : Int32} {j : Nat} (hx : x = nI j) (hj : j < 295) : MS G iX10_become 0 [.ref 87, .int x, .int v] σ τ (rT (some (.int (σ 88 j))) (up2 σ 88 j v) τ) := by
  refine ms_of (by decide +kernel) (Nat.le_of_ble_eq_true rfl) ?_
  show VW _ _ _ _ _ _ 0 [(0, _), (1, _), (2, _)] []
  refine v_aload_n (I := iX10_become) dX10_become_0 rfl ?_
  refine v_get (I := iX10_become) g_X10_9 dX10_become_1 (by decide) (ae_87 _ _) rfl ?_
  refine v_iload_n (I := iX10_become) dX10_become_4 rfl ?_
  refine v_ialdN (I := iX10_become) (j := j) hx hj (by decide) dX10_become_5 (by decide) (ae_88 _ _) ?_
  refine v_istore_n (I := iX10_become) (ls1 := [(3, _), (0, _), (1, _), (2, _)]) dX10_become_6 (by decide) rfl ?_
  refine v_aload_n (I := iX10_become) dX10_become_7 rfl ?_
  refine v_get (I := iX10_become) g_X10_9 dX10_become_8 (by decide) (ae_87 _ _) rfl ?_
  refine v_iload_n (I := iX10_become) dX10_become_11 rfl ?_
  refine v_iload_n (I := iX10_become) dX10_become_12 rfl ?_
  refine v_iastN (I := iX10_become) (j := j) hx hj (by decide) dX10_become_13 (by decide) (fun _ => ae_88 _ _) ?_
  refine v_iload_n (I := iX10_become) dX10_become_14 rfl ?_
  exact v_iret (I := iX10_become) rfl dX10_become_15 ⟨by first | rfl | (simp only [*]; done) | (simp [*]; done), rfl, rfl⟩
set_option maxRecDepth 100000 in
set_option maxHeartbeats 4000000 in
theorem m_X10_putBack {G : fGm} {σ : fSt} {τ : fLt} {v : Int32} : MS G iX10_putBack 1 [.ref 87, .int v] σ τ (rT (some (.int v)) (va_up σ 88 (σ 90)) τ) := by
  refine ms_of (by decide +kernel) (Nat.le_of_ble_eq_true rfl) ?_
  show VW _ _ _ _ _ _ 0 [(0, _), (1, _)] []
  refine v_aload_n (I := iX10_putBack) dX10_putBack_0 rfl ?_
  refine v_get (I := iX10_putBack) g_X10_16 dX10_putBack_1 (by decide) (ae_87 _ _) rfl ?_
  refine v_aload_n (I := iX10_putBack) dX10_putBack_4 rfl ?_
  refine v_get (I := iX10_putBack) g_X10_9 dX10_putBack_5 (by decide) (ae_87 _ _) rfl ?_
  refine v_callSv (I := iX10_putBack) (I' := iX10_copy) lk_X10_83 c_X10_copy dX10_putBack_8 (m_X10_copy (by decide) (by decide) (ae_90) (ae_88) (by decide)) rfl rfl (by decide) (by decide) (Nat.le_of_ble_eq_true rfl) ?_
  refine v_iload_n (I := iX10_putBack) dX10_putBack_11 rfl ?_
  exact v_iret (I := iX10_putBack) rfl dX10_putBack_12 ⟨by first | rfl | (simp only [*]; done) | (simp [*]; done), rfl, rfl⟩
set_option maxRecDepth 100000 in
set_option maxHeartbeats 4000000 in
theorem m_X10_more {G : fGm} {σ : fSt} {τ : fLt} {x b : Int32} {j : Nat} (hx : x = nI j) (hj : j < 295) : MS G iX10_more 1 [.ref 87, .int x, .int b] σ τ (rT none (va_up σ 88 (gMore (σ 88) j b)) τ) := by
  refine ms_of (by decide +kernel) (Nat.le_of_ble_eq_true rfl) ?_
  show VW _ _ _ _ _ _ 0 [(0, _), (1, _), (2, _)] []
  refine v_aload_n (I := iX10_more) dX10_more_0 rfl ?_
  refine v_get (I := iX10_more) g_X10_9 dX10_more_1 (by decide) (ae_87 _ _) rfl ?_
  refine v_iload_n (I := iX10_more) dX10_more_4 rfl ?_
  refine v_ldc (I := iX10_more) k_X10_87 dX10_more_5 ?_
  refine v_aload_n (I := iX10_more) dX10_more_7 rfl ?_
  refine v_get (I := iX10_more) g_X10_9 dX10_more_8 (by decide) (ae_87 _ _) rfl ?_
  refine v_iload_n (I := iX10_more) dX10_more_11 rfl ?_
  refine v_ialdN (I := iX10_more) (j := j) hx hj (by decide) dX10_more_12 (by decide) (ae_88 _ _) ?_
  refine v_iload_n (I := iX10_more) dX10_more_13 rfl ?_
  refine v_iadd (I := iX10_more) dX10_more_14 ?_
  refine v_min (I := iX10_more) lm_X10_70 dX10_more_15 (by decide) (Nat.le_of_ble_eq_true rfl) ?_
  refine v_iastN (I := iX10_more) (j := j) hx hj (by decide) dX10_more_18 (by decide) (fun _ => ae_88 _ _) ?_
  exact v_vret (I := iX10_more) rfl dX10_more_19 ⟨by first | rfl | (simp only [*]; done) | (simp [*]; done), rfl, rfl⟩
set_option maxRecDepth 100000 in
set_option maxHeartbeats 4000000 in
theorem m_X10_slip {G : fGm} {σ : fSt} {τ : fLt} (hB : B (σ 88)) : MS G iX10_slip 0 [.ref 87] σ τ (rT (some (.int (gSlip (σ 88)))) σ τ) := by
  refine ms_of (by decide +kernel) (Nat.le_of_ble_eq_true rfl) ?_
  show VW _ _ _ _ _ _ 0 [(0, _)] []
  refine v_aload_n (I := iX10_slip) dX10_slip_0 rfl ?_
  refine v_get (I := iX10_slip) g_X10_9 dX10_slip_1 (by decide) (ae_87 _ _) rfl ?_
  refine v_bipush (I := iX10_slip) (v := 19) dX10_slip_4 (by decide) ?_
  refine v_iconst (I := iX10_slip) (v := 2) dX10_slip_6 (by decide) ?_
  refine v_aload_n (I := iX10_slip) dX10_slip_7 rfl ?_
  refine v_get (I := iX10_slip) g_X10_9 dX10_slip_8 (by decide) (ae_87 _ _) rfl ?_
  refine v_iconst (I := iX10_slip) (v := 0) dX10_slip_11 (by decide) ?_
  refine v_ialdN (I := iX10_slip) (j := 0) (by decide) (by decide) (by decide) dX10_slip_12 (by decide) (ae_88 _ _) ?_
  refine v_bipush (I := iX10_slip) (v := 10) dX10_slip_13 (by decide) ?_
  refine v_idiv (I := iX10_slip) dX10_slip_15 (by decide) ?_
  refine v_imul (I := iX10_slip) dX10_slip_16 ?_
  refine v_iadd (I := iX10_slip) dX10_slip_17 ?_
  refine v_ialdN (I := iX10_slip) (j := _) (gc10_ix0 hB) (by have := gc10_lt hB; omega) (by decide) dX10_slip_18 (by decide) (ae_88 _ _) ?_
  exact v_iret (I := iX10_slip) rfl dX10_slip_19 ⟨by first | rfl | (simp only [*]; done) | (simp [*]; done), rfl, rfl⟩
set_option maxRecDepth 100000 in
set_option maxHeartbeats 4000000 in
theorem m_X10_slope {G : fGm} {σ : fSt} {τ : fLt} (hB : B (σ 88)) : MS G iX10_slope 0 [.ref 87] σ τ (rT (some (.int (gSlope (σ 88)))) σ τ) := by
  refine ms_of (by decide +kernel) (Nat.le_of_ble_eq_true rfl) ?_
  show VW _ _ _ _ _ _ 0 [(0, _)] []
  refine v_aload_n (I := iX10_slope) dX10_slope_0 rfl ?_
  refine v_get (I := iX10_slope) g_X10_9 dX10_slope_1 (by decide) (ae_87 _ _) rfl ?_
  refine v_bipush (I := iX10_slope) (v := 19) dX10_slope_4 (by decide) ?_
  refine v_iconst (I := iX10_slope) (v := 2) dX10_slope_6 (by decide) ?_
  refine v_aload_n (I := iX10_slope) dX10_slope_7 rfl ?_
  refine v_get (I := iX10_slope) g_X10_9 dX10_slope_8 (by decide) (ae_87 _ _) rfl ?_
  refine v_iconst (I := iX10_slope) (v := 0) dX10_slope_11 (by decide) ?_
  refine v_ialdN (I := iX10_slope) (j := 0) (by decide) (by decide) (by decide) dX10_slope_12 (by decide) (ae_88 _ _) ?_
  refine v_bipush (I := iX10_slope) (v := 10) dX10_slope_13 (by decide) ?_
  refine v_idiv (I := iX10_slope) dX10_slope_15 (by decide) ?_
  refine v_imul (I := iX10_slope) dX10_slope_16 ?_
  refine v_iadd (I := iX10_slope) dX10_slope_17 ?_
  refine v_iconst (I := iX10_slope) (v := 1) dX10_slope_18 (by decide) ?_
  refine v_iadd (I := iX10_slope) dX10_slope_19 ?_
  refine v_ialdN (I := iX10_slope) (j := _) (gc10_ix hB 1 (by decide)) (by have := gc10_lt hB; omega) (by decide) dX10_slope_20 (by decide) (ae_88 _ _) ?_
  exact v_iret (I := iX10_slope) rfl dX10_slope_21 ⟨by first | rfl | (simp only [*]; done) | (simp [*]; done), rfl, rfl⟩
set_option maxRecDepth 100000 in
set_option maxHeartbeats 4000000 in
theorem m_X10_holdOf {G : fGm} {σ : fSt} {τ : fLt} {x y : Int32} {h f : Nat} (hx : x = nI h) (hh : h < 8) (hy : y = nI f) (hf : f < 3) : MS G iX10_holdOf 0 [.ref 87, .int x, .int y] σ τ (rT (some (.int (σ 88 (39 + 3 * h + f)))) σ τ) := by
  refine ms_of (by decide +kernel) (Nat.le_of_ble_eq_true rfl) ?_
  show VW _ _ _ _ _ _ 0 [(0, _), (1, _), (2, _)] []
  refine v_aload_n (I := iX10_holdOf) dX10_holdOf_0 rfl ?_
  refine v_get (I := iX10_holdOf) g_X10_9 dX10_holdOf_1 (by decide) (ae_87 _ _) rfl ?_
  refine v_bipush (I := iX10_holdOf) (v := 39) dX10_holdOf_4 (by decide) ?_
  refine v_iconst (I := iX10_holdOf) (v := 3) dX10_holdOf_6 (by decide) ?_
  refine v_iload_n (I := iX10_holdOf) dX10_holdOf_7 rfl ?_
  refine v_imul (I := iX10_holdOf) dX10_holdOf_8 ?_
  refine v_iadd (I := iX10_holdOf) dX10_holdOf_9 ?_
  refine v_iload_n (I := iX10_holdOf) dX10_holdOf_10 rfl ?_
  refine v_iadd (I := iX10_holdOf) dX10_holdOf_11 ?_
  refine v_ialdN (I := iX10_holdOf) (j := _) (by rw [hx, hy]; exact ix3 39 39 rfl h f) (by omega) (by decide) dX10_holdOf_12 (by decide) (ae_88 _ _) ?_
  exact v_iret (I := iX10_holdOf) rfl dX10_holdOf_13 ⟨by first | rfl | (simp only [*]; done) | (simp [*]; done), rfl, rfl⟩
set_option maxRecDepth 100000 in
set_option maxHeartbeats 4000000 in
theorem m_X10_goingOf {G : fGm} {σ : fSt} {τ : fLt} {x y : Int32} {i f : Nat} (hx : x = nI i) (hi : i < 8) (hy : y = nI f) (hf : f < 3) : MS G iX10_goingOf 0 [.ref 87, .int x, .int y] σ τ (rT (some (.int (σ 88 (63 + 3 * i + f)))) σ τ) := by
  refine ms_of (by decide +kernel) (Nat.le_of_ble_eq_true rfl) ?_
  show VW _ _ _ _ _ _ 0 [(0, _), (1, _), (2, _)] []
  refine v_aload_n (I := iX10_goingOf) dX10_goingOf_0 rfl ?_
  refine v_get (I := iX10_goingOf) g_X10_9 dX10_goingOf_1 (by decide) (ae_87 _ _) rfl ?_
  refine v_bipush (I := iX10_goingOf) (v := 63) dX10_goingOf_4 (by decide) ?_
  refine v_iconst (I := iX10_goingOf) (v := 3) dX10_goingOf_6 (by decide) ?_
  refine v_iload_n (I := iX10_goingOf) dX10_goingOf_7 rfl ?_
  refine v_imul (I := iX10_goingOf) dX10_goingOf_8 ?_
  refine v_iadd (I := iX10_goingOf) dX10_goingOf_9 ?_
  refine v_iload_n (I := iX10_goingOf) dX10_goingOf_10 rfl ?_
  refine v_iadd (I := iX10_goingOf) dX10_goingOf_11 ?_
  refine v_ialdN (I := iX10_goingOf) (j := _) (by rw [hx, hy]; exact ix3 63 63 rfl i f) (by omega) (by decide) dX10_goingOf_12 (by decide) (ae_88 _ _) ?_
  exact v_iret (I := iX10_goingOf) rfl dX10_goingOf_13 ⟨by first | rfl | (simp only [*]; done) | (simp [*]; done), rfl, rfl⟩
set_option maxRecDepth 100000 in
set_option maxHeartbeats 4000000 in
theorem m_X10_isAsTold {G : fGm} {σ : fSt} {τ : fLt} {a b : Int32} : MS G iX10_isAsTold 1 [.int a, .int b] σ τ (rT (some (.int (if (0 ≤ a ∧ a ≤ 99) ∧ 0 ≤ b ∧ b ≤ 99 then 1 else 0))) σ τ) := by
  refine ms_of (by decide +kernel) (Nat.le_of_ble_eq_true rfl) ?_
  show VW _ _ _ _ _ _ 0 [(0, _), (1, _)] []
  refine v_iload_n (I := iX10_isAsTold) dX10_isAsTold_0 rfl ?_
  refine v_iconst (I := iX10_isAsTold) (v := 0) dX10_isAsTold_1 (by decide) ?_
  refine v_bipush (I := iX10_isAsTold) (v := 99) dX10_isAsTold_2 (by decide) ?_
  refine v_callSi (I := iX10_isAsTold) (I' := iX10_within) lk_X10_79 c_X10_within dX10_isAsTold_4 (m_X10_within) rfl rfl (by decide) (by decide) (Nat.le_of_ble_eq_true rfl) ?_
  refine v_if_eqB (I := iX10_isAsTold) (tgt := 24) dX10_isAsTold_7 (by decide) (fun c7 => ?_) (fun c7 => ?_)
  · refine v_iconst (I := iX10_isAsTold) (v := 0) dX10_isAsTold_24 (by decide) ?_
    exact v_zret (I := iX10_isAsTold) rfl rfl dX10_isAsTold_25 ⟨by grind, rfl, rfl⟩
  · refine v_iload_n (I := iX10_isAsTold) dX10_isAsTold_10 rfl ?_
    refine v_iconst (I := iX10_isAsTold) (v := 0) dX10_isAsTold_11 (by decide) ?_
    refine v_bipush (I := iX10_isAsTold) (v := 99) dX10_isAsTold_12 (by decide) ?_
    refine v_callSi (I := iX10_isAsTold) (I' := iX10_within) lk_X10_79 c_X10_within dX10_isAsTold_14 (m_X10_within) rfl rfl (by decide) (by decide) (Nat.le_of_ble_eq_true rfl) ?_
    refine v_if_eqB (I := iX10_isAsTold) (tgt := 24) dX10_isAsTold_17 (by decide) (fun c17 => ?_) (fun c17 => ?_)
    · refine v_iconst (I := iX10_isAsTold) (v := 0) dX10_isAsTold_24 (by decide) ?_
      exact v_zret (I := iX10_isAsTold) rfl rfl dX10_isAsTold_25 ⟨by grind, rfl, rfl⟩
    · refine v_iconst (I := iX10_isAsTold) (v := 1) dX10_isAsTold_20 (by decide) ?_
      refine v_goto (I := iX10_isAsTold) (tgt := 25) dX10_isAsTold_21 (by decide) ?_
      exact v_zret (I := iX10_isAsTold) rfl rfl dX10_isAsTold_25 ⟨by grind, rfl, rfl⟩
theorem up2_va (σ : fSt) (k j : Nat) (f : Nat → Int32) (x : Int32) : up2 (va_up σ k f) k j x = va_up σ k (va_up f j x) := by
  funext k' j'
  by_cases h : k' = k <;> simp [up2, va_up, h]
theorem va_up_va {α : Type} (f : Nat → α) (k : Nat) (x y : α) : va_up (va_up f k x) k y = va_up f k y := by
  funext j
  by_cases h : j = k <;> simp [va_up, h]
theorem va_up_self' (σ : fSt) (k : Nat) : va_up σ k (σ k) = σ := by
  funext j
  by_cases h : j = k
  · subst h; simp [va_up]
  · simp [va_up, h]
def gStand (g : gS) (n : Nat) (c h : Int32) : gS := va_up (va_up (va_up (va_up g (39 + 3 * n + 0) c) (39 + 3 * n + 1) h) (39 + 3 * n + 2) 0) 14 (g 14 + 1)
set_option maxRecDepth 100000 in
set_option maxHeartbeats 4000000 in
theorem m_X10_stands {G : fGm} {σ : fSt} {τ : fLt} {a b : Int32} {n : Nat} (hn : σ 88 14 = nI n) (hn8 : n < 8) : MS G iX10_stands 0 [.ref 87, .int a, .int b] σ τ (rT (some (.int (σ 88 14))) (va_up σ 88 (gStand (σ 88) n a b)) τ) := by
  refine ms_of (by decide +kernel) (Nat.le_of_ble_eq_true rfl) ?_
  show VW _ _ _ _ _ _ 0 [(0, _), (1, _), (2, _)] []
  refine v_aload_n (I := iX10_stands) dX10_stands_0 rfl ?_
  refine v_get (I := iX10_stands) g_X10_9 dX10_stands_1 (by decide) (ae_87 _ _) rfl ?_
  refine v_bipush (I := iX10_stands) (v := 14) dX10_stands_4 (by decide) ?_
  refine v_ialdN (I := iX10_stands) (j := 14) (by decide) (by decide) (by decide) dX10_stands_6 (by decide) (ae_88 _ _) ?_
  refine v_istore_n (I := iX10_stands) (ls1 := [(3, _), (0, _), (1, _), (2, _)]) dX10_stands_7 (by decide) rfl ?_
  refine v_aload_n (I := iX10_stands) dX10_stands_8 rfl ?_
  refine v_get (I := iX10_stands) g_X10_9 dX10_stands_9 (by decide) (ae_87 _ _) rfl ?_
  refine v_bipush (I := iX10_stands) (v := 39) dX10_stands_12 (by decide) ?_
  refine v_iconst (I := iX10_stands) (v := 3) dX10_stands_14 (by decide) ?_
  refine v_iload_n (I := iX10_stands) dX10_stands_15 rfl ?_
  refine v_imul (I := iX10_stands) dX10_stands_16 ?_
  refine v_iadd (I := iX10_stands) dX10_stands_17 ?_
  refine v_iconst (I := iX10_stands) (v := 0) dX10_stands_18 (by decide) ?_
  refine v_iadd (I := iX10_stands) dX10_stands_19 ?_
  refine v_iload_n (I := iX10_stands) dX10_stands_20 rfl ?_
  refine v_iastN (I := iX10_stands) (j := _) (by rw [hn]; exact ix3 39 39 rfl n 0) (by omega) (by decide) dX10_stands_21 (by decide) (fun _ => ae_88 _ _) ?_
  refine v_aload_n (I := iX10_stands) dX10_stands_22 rfl ?_
  refine v_get (I := iX10_stands) g_X10_9 dX10_stands_23 (by decide) (ae_87 _ _) rfl ?_
  refine v_bipush (I := iX10_stands) (v := 39) dX10_stands_26 (by decide) ?_
  refine v_iconst (I := iX10_stands) (v := 3) dX10_stands_28 (by decide) ?_
  refine v_iload_n (I := iX10_stands) dX10_stands_29 rfl ?_
  refine v_imul (I := iX10_stands) dX10_stands_30 ?_
  refine v_iadd (I := iX10_stands) dX10_stands_31 ?_
  refine v_iconst (I := iX10_stands) (v := 1) dX10_stands_32 (by decide) ?_
  refine v_iadd (I := iX10_stands) dX10_stands_33 ?_
  refine v_iload_n (I := iX10_stands) dX10_stands_34 rfl ?_
  refine v_iastN (I := iX10_stands) (j := _) (by rw [hn]; exact ix3 39 39 rfl n 1) (by omega) (by decide) dX10_stands_35 (by decide) (fun _ => ae_88 _ _) ?_
  refine v_aload_n (I := iX10_stands) dX10_stands_36 rfl ?_
  refine v_get (I := iX10_stands) g_X10_9 dX10_stands_37 (by decide) (ae_87 _ _) rfl ?_
  refine v_bipush (I := iX10_stands) (v := 39) dX10_stands_40 (by decide) ?_
  refine v_iconst (I := iX10_stands) (v := 3) dX10_stands_42 (by decide) ?_
  refine v_iload_n (I := iX10_stands) dX10_stands_43 rfl ?_
  refine v_imul (I := iX10_stands) dX10_stands_44 ?_
  refine v_iadd (I := iX10_stands) dX10_stands_45 ?_
  refine v_iconst (I := iX10_stands) (v := 2) dX10_stands_46 (by decide) ?_
  refine v_iadd (I := iX10_stands) dX10_stands_47 ?_
  refine v_iconst (I := iX10_stands) (v := 0) dX10_stands_48 (by decide) ?_
  refine v_iastN (I := iX10_stands) (j := _) (by rw [hn]; exact ix3 39 39 rfl n 2) (by omega) (by decide) dX10_stands_49 (by decide) (fun _ => ae_88 _ _) ?_
  refine v_aload_n (I := iX10_stands) dX10_stands_50 rfl ?_
  refine v_get (I := iX10_stands) g_X10_9 dX10_stands_51 (by decide) (ae_87 _ _) rfl ?_
  refine v_bipush (I := iX10_stands) (v := 14) dX10_stands_54 (by decide) ?_
  refine v_dup2_11 (I := iX10_stands) dX10_stands_56 rfl rfl ?_
  refine v_ialdN (I := iX10_stands) (j := 14) (by decide) (by decide) (by decide) dX10_stands_57 (by decide) (ae_88 _ _) ?_
  refine v_iconst (I := iX10_stands) (v := 1) dX10_stands_58 (by decide) ?_
  refine v_iadd (I := iX10_stands) dX10_stands_59 ?_
  refine v_iastN (I := iX10_stands) (j := 14) (by decide) (by decide) (by decide) dX10_stands_60 (by decide) (fun _ => ae_88 _ _) ?_
  refine v_iload_n (I := iX10_stands) dX10_stands_61 rfl ?_
  exact v_iret (I := iX10_stands) rfl dX10_stands_62 ⟨rfl, by simp only [up2_f, va_up_s, up2, va_up_va, gStand]; rw [va_up_o _ _ (show 14 ≠ 39 + 3 * n + 2 by omega), va_up_o _ _ (show 14 ≠ 39 + 3 * n + 1 by omega), va_up_o _ _ (show 14 ≠ 39 + 3 * n + 0 by omega)], rfl⟩
set_option maxRecDepth 100000 in
set_option maxHeartbeats 4000000 in
theorem m_X10_distance {G : fGm} {σ : fSt} {τ : fLt} {x : Int32} {h : Nat} (hx : x = nI h) (hh : h < 8) : MS G iX10_distance 1 [.ref 87, .int x] σ τ (rT (some (.int (gDist (σ 88) h))) σ τ) := by
  refine ms_of (by decide +kernel) (Nat.le_of_ble_eq_true rfl) ?_
  show VW _ _ _ _ _ _ 0 [(0, _), (1, _)] []
  refine v_aload_n (I := iX10_distance) dX10_distance_0 rfl ?_
  refine v_iload_n (I := iX10_distance) dX10_distance_1 rfl ?_
  refine v_iconst (I := iX10_distance) (v := 0) dX10_distance_2 (by decide) ?_
  refine v_callVi (I := iX10_distance) (I' := iX10_holdOf) lk_X10_104 c_X10_holdOf dX10_distance_3 (m_X10_holdOf (f := 0) hx hh (by decide) (by decide)) rfl rfl (by decide) (ae_87 _ _) rfl (by decide) (by decide) (Nat.le_of_ble_eq_true rfl) ?_
  refine v_aload_n (I := iX10_distance) dX10_distance_6 rfl ?_
  refine v_get (I := iX10_distance) g_X10_9 dX10_distance_7 (by decide) (ae_87 _ _) rfl ?_
  refine v_iconst (I := iX10_distance) (v := 0) dX10_distance_10 (by decide) ?_
  refine v_ialdN (I := iX10_distance) (j := 0) (by decide) (by decide) (by decide) dX10_distance_11 (by decide) (ae_88 _ _) ?_
  refine v_isub (I := iX10_distance) dX10_distance_12 ?_
  refine v_abs (I := iX10_distance) lm_X10_107 dX10_distance_13 (by decide) (Nat.le_of_ble_eq_true rfl) ?_
  exact v_iret (I := iX10_distance) rfl dX10_distance_16 ⟨by first | rfl | (simp only [*]; done) | (simp [*]; done), rfl, rfl⟩
set_option maxRecDepth 100000 in
set_option maxHeartbeats 4000000 in
theorem m_X10_isAtHand {G : fGm} {σ : fSt} {τ : fLt} {x : Int32} {h : Nat} (hx : x = nI h) (hh : h < 8) : MS G iX10_isAtHand 2 [.ref 87, .int x] σ τ (rT (some (.int (if gDist (σ 88) h ≤ σ 88 2 then 1 else 0))) σ τ) := by
  refine ms_of (by decide +kernel) (Nat.le_of_ble_eq_true rfl) ?_
  show VW _ _ _ _ _ _ 0 [(0, _), (1, _)] []
  refine v_aload_n (I := iX10_isAtHand) dX10_isAtHand_0 rfl ?_
  refine v_iload_n (I := iX10_isAtHand) dX10_isAtHand_1 rfl ?_
  refine v_callVi (I := iX10_isAtHand) (I' := iX10_distance) lk_X10_110 c_X10_distance dX10_isAtHand_2 (m_X10_distance hx hh) rfl rfl (by decide) (ae_87 _ _) rfl (by decide) (by decide) (Nat.le_of_ble_eq_true rfl) ?_
  refine v_aload_n (I := iX10_isAtHand) dX10_isAtHand_5 rfl ?_
  refine v_get (I := iX10_isAtHand) g_X10_9 dX10_isAtHand_6 (by decide) (ae_87 _ _) rfl ?_
  refine v_iconst (I := iX10_isAtHand) (v := 2) dX10_isAtHand_9 (by decide) ?_
  refine v_ialdN (I := iX10_isAtHand) (j := 2) (by decide) (by decide) (by decide) dX10_isAtHand_10 (by decide) (ae_88 _ _) ?_
  refine v_icmp_gt (I := iX10_isAtHand) (tgt := 18) dX10_isAtHand_11 (by decide) (fun c11 => ?_) (fun c11 => ?_)
  · refine v_iconst (I := iX10_isAtHand) (v := 0) dX10_isAtHand_18 (by decide) ?_
    exact v_zret (I := iX10_isAtHand) rfl rfl dX10_isAtHand_19 ⟨by grind, rfl, rfl⟩
  · refine v_iconst (I := iX10_isAtHand) (v := 1) dX10_isAtHand_14 (by decide) ?_
    refine v_goto (I := iX10_isAtHand) (tgt := 19) dX10_isAtHand_15 (by decide) ?_
    exact v_zret (I := iX10_isAtHand) rfl rfl dX10_isAtHand_19 ⟨by grind, rfl, rfl⟩
