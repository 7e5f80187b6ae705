/-- a body begins: the trace of at most 30 -/
def bgR (σ : fSt) (c : Nat) (b : Int32) : fSt := if c < 30 then up2 (up2 σ 100 c b) 87 21 (nI (c + 1)) else σ
def bgC (σ : fSt) (c : Nat) (b : Int32) : fSt := if c < 30 then up2 (up2 σ 86 c b) 85 1 (nI (c + 1)) else σ
set_option maxRecDepth 100000 in
set_option maxHeartbeats 4000000 in
theorem m_X10_began {G : fGm} {σ : fSt} {τ : fLt} {b : Int32} {c : Nat} (hc : σ 87 21 = nI c) (hc30 : c ≤ 30) : MS G iX10_began 0 [.ref 87, .int b] σ τ (rT none (bgR σ c b) τ) := by
  refine ms_of (by decide +kernel) (Nat.le_of_ble_eq_true rfl) ?_
  show VW _ _ _ _ _ _ 0 [(0, _), (1, _)] []
  refine v_aload_n (I := iX10_began) dX10_began_0 rfl ?_
  refine v_get (I := iX10_began) g_X10_290 dX10_began_1 (by decide) (ae_87 _ _) rfl ?_
  rw [hc]
  refine v_bipush (I := iX10_began) (v := 30) dX10_began_4 (by decide) ?_
  refine v_icmp_ge (I := iX10_began) (tgt := 29) dX10_began_6 (by decide) (fun c6 => ?_) (fun c6 => ?_)
  · have hge : ¬ c < 30 := fun h9 => by
      have h8 : nI c < 30 := nI_lt (b := 30) h9 (by decide)
      grind
    exact v_vret (I := iX10_began) rfl dX10_began_29 (by unfold bgR; first | (rw [if_pos hlt]; exact ⟨rfl, rfl, rfl⟩) | (rw [if_neg hge]; exact ⟨rfl, rfl, rfl⟩))
  · have hlt : c < 30 := (nI_ltI (by omega) (by omega)).mp (by show nI c < 30; grind)
    refine v_aload_n (I := iX10_began) dX10_began_9 rfl ?_
    refine v_get (I := iX10_began) g_X10_54 dX10_began_10 (by decide) (ae_87 _ _) rfl ?_
    refine v_aload_n (I := iX10_began) dX10_began_13 rfl ?_
    refine v_get (I := iX10_began) g_X10_290 dX10_began_14 (by decide) (ae_87 _ _) rfl ?_
    rw [hc]
    refine v_iload_n (I := iX10_began) dX10_began_17 rfl ?_
    refine v_iastN (I := iX10_began) (j := c) rfl hlt (by decide) dX10_began_18 (by decide) (fun _ => ae_100 _ _) ?_
    refine v_aload_n (I := iX10_began) dX10_began_19 rfl ?_
    refine v_dup (I := iX10_began) dX10_began_20 rfl ?_
    refine v_get (I := iX10_began) g_X10_290 dX10_began_21 (by decide) (ae_87 _ _) rfl ?_
    rw [up2_kf _ _ _ (by decide), hc]
    refine v_iconst (I := iX10_began) (v := 1) dX10_began_24 (by decide) ?_
    refine v_iadd (I := iX10_began) dX10_began_25 ?_
    rw [nI_1]
    refine v_putI (I := iX10_began) p_X10_290 dX10_began_26 (by decide) (ae_87 _ _) (ae_87 _ _) rfl rfl (by simp) ?_
    exact v_vret (I := iX10_began) rfl dX10_began_29 (by unfold bgR; first | (rw [if_pos hlt]; exact ⟨rfl, rfl, rfl⟩) | (rw [if_neg hge]; exact ⟨rfl, rfl, rfl⟩))
set_option maxRecDepth 100000 in
set_option maxHeartbeats 4000000 in
theorem m_X6_begin {G : fGm} {σ : fSt} {τ : fLt} {b : Int32} {c : Nat} (hc : σ 85 1 = nI c) (hc30 : c ≤ 30) : MS G iX6_begin 1 [.ref 85, .int b] σ τ (rT none (bgC σ c b) τ) := by
  refine ms_of (by decide +kernel) (Nat.le_of_ble_eq_true rfl) ?_
  show VW _ _ _ _ _ _ 0 [(0, _), (1, _)] []
  refine v_aload_n (I := iX6_begin) dX6_begin_0 rfl ?_
  refine v_get (I := iX6_begin) g_X6_15 dX6_begin_1 (by decide) (ae_85 _ _) rfl ?_
  rw [hc]
  refine v_bipush (I := iX6_begin) (v := 30) dX6_begin_4 (by decide) ?_
  refine v_icmp_ge (I := iX6_begin) (tgt := 32) dX6_begin_6 (by decide) (fun c6 => ?_) (fun c6 => ?_)
  · have hge : ¬ c < 30 := fun h9 => by
      have h8 : nI c < 30 := nI_lt (b := 30) h9 (by decide)
      grind
    exact v_vret (I := iX6_begin) rfl dX6_begin_32 (by unfold bgC; first | (rw [if_pos hlt]; exact ⟨rfl, rfl, rfl⟩) | (rw [if_neg hge]; exact ⟨rfl, rfl, rfl⟩))
  · have hlt : c < 30 := (nI_ltI (by omega) (by omega)).mp (by show nI c < 30; grind)
    refine v_aload_n (I := iX6_begin) dX6_begin_9 rfl ?_
    refine v_get (I := iX6_begin) g_X6_9 dX6_begin_10 (by decide) (ae_85 _ _) rfl ?_
    refine v_aload_n (I := iX6_begin) dX6_begin_13 rfl ?_
    refine v_get (I := iX6_begin) g_X6_15 dX6_begin_14 (by decide) (ae_85 _ _) rfl ?_
    rw [hc]
    refine v_iload_n (I := iX6_begin) dX6_begin_17 rfl ?_
    refine v_callSi (I := iX6_begin) (I' := iX9_exchange) lk_X6_62 c_X9_exchange dX6_begin_18 (m_X9_exchange (by decide) (ae_86) (by decide)) rfl rfl (by decide) (by decide) (Nat.le_of_ble_eq_true rfl) ?_
    rw [wrA_in hlt (by decide)]
    refine v_pop (I := iX6_begin) dX6_begin_21 rfl ?_
    refine v_aload_n (I := iX6_begin) dX6_begin_22 rfl ?_
    refine v_dup (I := iX6_begin) dX6_begin_23 rfl ?_
    refine v_get (I := iX6_begin) g_X6_15 dX6_begin_24 (by decide) (ae_85 _ _) rfl ?_
    rw [up2_kf _ _ _ (by decide), hc]
    refine v_iconst (I := iX6_begin) (v := 1) dX6_begin_27 (by decide) ?_
    refine v_iadd (I := iX6_begin) dX6_begin_28 ?_
    rw [nI_1]
    refine v_putI (I := iX6_begin) p_X6_15 dX6_begin_29 (by decide) (ae_85 _ _) (ae_85 _ _) rfl rfl (by simp) ?_
    exact v_vret (I := iX6_begin) rfl dX6_begin_32 (by unfold bgC; first | (rw [if_pos hlt]; exact ⟨rfl, rfl, rfl⟩) | (rw [if_neg hge]; exact ⟨rfl, rfl, rfl⟩))
set_option maxRecDepth 100000 in
set_option maxHeartbeats 4000000 in
theorem m_X6_divided {G : fGm} {σ : fSt} {τ : fLt} {x y : Int32} (hy : ¬ y = 0) : MS G iX6_divided 0 [.ref 85, .int x, .int y] σ τ (rT (some (.int (x / y))) σ τ) := by
  refine ms_of (by decide +kernel) (Nat.le_of_ble_eq_true rfl) ?_
  show VW _ _ _ _ _ _ 0 [(0, _), (1, _), (2, _)] []
  refine v_iload_n (I := iX6_divided) dX6_divided_0 rfl ?_
  refine v_if_ne (I := iX6_divided) (tgt := 11) dX6_divided_1 (by decide) (fun c1 => ?_) (fun c1 => ?_)
  · refine v_iload_n (I := iX6_divided) dX6_divided_11 rfl ?_
    refine v_iload_n (I := iX6_divided) dX6_divided_12 rfl ?_
    refine v_idiv (I := iX6_divided) dX6_divided_13 hy ?_
    exact v_iret (I := iX6_divided) rfl dX6_divided_14 ⟨by first | rfl | (simp only [*]; done) | (simp [*]; done), rfl, rfl⟩
  · exact absurd c1 hy
set_option maxRecDepth 100000 in
set_option maxHeartbeats 4000000 in
theorem m_X6_divided0 {G : fGm} {σ : fSt} {τ : fLt} {x y : Int32} (hy : y = 0) : MS G iX6_divided 0 [.ref 85, .int x, .int y] σ τ (rT (some (.int 0)) (up2 σ 85 2 1) τ) := by
  refine ms_of (by decide +kernel) (Nat.le_of_ble_eq_true rfl) ?_
  show VW _ _ _ _ _ _ 0 [(0, _), (1, _), (2, _)] []
  refine v_iload_n (I := iX6_divided) dX6_divided_0 rfl ?_
  refine v_if_ne (I := iX6_divided) (tgt := 11) dX6_divided_1 (by decide) (fun c1 => ?_) (fun c1 => ?_)
  · exact absurd hy c1
  · refine v_aload_n (I := iX6_divided) dX6_divided_4 rfl ?_
    refine v_iconst (I := iX6_divided) (v := 1) dX6_divided_5 (by decide) ?_
    refine v_putI (I := iX6_divided) p_X6_19 dX6_divided_6 (by decide) (ae_85 _ _) (ae_85 _ _) rfl rfl (by simp) ?_
    refine v_iconst (I := iX6_divided) (v := 0) dX6_divided_9 (by decide) ?_
    exact v_iret (I := iX6_divided) rfl dX6_divided_10 ⟨by first | rfl | (simp only [*]; done) | (simp [*]; done), rfl, rfl⟩
