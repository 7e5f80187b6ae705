/-- the next cell behind x in which one of n holds stands -/
def nxN (g : gS) (x : Int32) : Nat → Int32
  | 0 => -1
  | n + 1 => if x < g (39 + 3 * n + 0) ∧ (nxN g x n < 0 ∨ g (39 + 3 * n + 0) < nxN g x n) then g (39 + 3 * n + 0) else nxN g x n
def gNxt (g : gS) (x : Int32) : Int32 := nxN g x (g 14).toNatClampNeg
theorem nx_t {g : gS} {x y : Int32} {k : Nat} (hy : y = nxN g x k) (h1 : x < g (39 + 3 * k + 0)) (h2 : y < 0 ∨ g (39 + 3 * k + 0) < y) : g (39 + 3 * k + 0) = nxN g x (k + 1) := by
  rw [nxN, if_pos ⟨h1, by rw [← hy]; exact h2⟩]
theorem nx_f {g : gS} {x y : Int32} {k : Nat} (hy : y = nxN g x k) (h : ¬ (x < g (39 + 3 * k + 0) ∧ (y < 0 ∨ g (39 + 3 * k + 0) < y))) : y = nxN g x (k + 1) := by
  rw [nxN, if_neg (by rw [← hy]; exact h)]
  exact hy
theorem n14_nI {g : gS} (hB : B g) : ∃ N, N ≤ 8 ∧ g 14 = nI N ∧ (g 14).toNatClampNeg = N := by
  obtain ⟨N, hN8, hN⟩ := B_nat hB 14 8 (by decide) (by decide) (by decide)
  exact ⟨N, hN8, hN, by rw [hN]; exact nI_clamp (by omega)⟩
set_option maxRecDepth 100000 in
set_option maxHeartbeats 8000000 in
theorem m_X3_nextCell {G : fGm} {σ : fSt} {τ : fLt} {w : Nat} {g : gS} (hw : w < 3) (hV : V w σ g) (hB : B g) {x : Int32} : MS G iX3_nextCell 1 [.ref (wc w 2), .int x] σ τ (rT (some (.int (gNxt g x))) σ τ) := by
  refine ms_of (by decide +kernel) (Nat.le_of_ble_eq_true rfl) ?_
  show VW _ _ _ _ _ _ 0 [(0, _), (1, _)] []
  obtain ⟨N, hN8, hN, hNc⟩ := n14_nI hB
  have key : ∀ (m k : Nat) {y x2 : Int32}, k + m = N → y = nI k → x2 = nxN g x k → VW G iX3_nextCell (rT (some (.int (gNxt g x))) σ τ) 1 σ τ 4 [(3, .int y), (2, .int x2), (0, .ref (wc w 2)), (1, .int x)] [] := by
    intro m
    induction m with
    | zero =>
      intro k y x2 hkm hk hx2
      have hkN : k = N := hkm
      show VW _ _ _ _ _ _ 4 [(3, _), (2, _), (0, _), (1, _)] []
      refine v_iload_n (I := iX3_nextCell) dX3_nextCell_4 rfl ?_
      refine v_aload_n (I := iX3_nextCell) dX3_nextCell_5 rfl ?_
      refine v_get (I := iX3_nextCell) g_X3_27 dX3_nextCell_6 (wc_lt hw (by decide)) (ae_w2 hw _ _) rfl ?_
      rw [V_n14 hV, hN]
      refine v_icmp_ge (I := iX3_nextCell) (tgt := 47) dX3_nextCell_9 (by decide) (fun c9 => ?_) (fun c9 => ?_)
      · refine v_iload_n (I := iX3_nextCell) dX3_nextCell_47 rfl ?_
        exact v_iret (I := iX3_nextCell) rfl dX3_nextCell_48 ⟨by rw [hx2, hkN, ← hNc]; rfl, rfl, rfl⟩
      · exact absurd (by rw [hk, hkN]; exact Int32.le_refl _) c9
    | succ m ih =>
      intro k y x2 hkm hk hx2
      subst hk
      show VW _ _ _ _ _ _ 4 [(3, _), (2, _), (0, _), (1, _)] []
      refine v_iload_n (I := iX3_nextCell) dX3_nextCell_4 rfl ?_
      refine v_aload_n (I := iX3_nextCell) dX3_nextCell_5 rfl ?_
      refine v_get (I := iX3_nextCell) g_X3_27 dX3_nextCell_6 (wc_lt hw (by decide)) (ae_w2 hw _ _) rfl ?_
      rw [V_n14 hV, hN]
      refine v_icmp_ge (I := iX3_nextCell) (tgt := 47) dX3_nextCell_9 (by decide) (fun c9 => ?_) (fun c9 => ?_)
      · exact absurd c9 (by exact nI_ge (by omega) (by omega))
      · refine v_aload_n (I := iX3_nextCell) dX3_nextCell_12 rfl ?_
        refine v_get (I := iX3_nextCell) g_X3_18 dX3_nextCell_13 (wc_lt hw (by decide)) (ae_w2 hw _ _) rfl ?_
        refine v_iload_n (I := iX3_nextCell) dX3_nextCell_16 rfl ?_
        refine v_callSi (I := iX3_nextCell) (I' := iX9_at) lk_X3_49 c_X9_at dX3_nextCell_17 (m_X9_at (wc_lt hw (by decide)) (ae_w5 hw) (by decide)) rfl rfl (by decide) (by decide) (Nat.le_of_ble_eq_true rfl) ?_
        rw [rdA_in (by omega) (by decide), V_hcell hV (by omega)]
        refine v_istore (I := iX3_nextCell) (ls1 := [(4, _), (3, _), (2, _), (0, _), (1, _)]) dX3_nextCell_20 (by decide) rfl ?_
        refine v_iload (I := iX3_nextCell) dX3_nextCell_22 rfl ?_
        refine v_iload_n (I := iX3_nextCell) dX3_nextCell_24 rfl ?_
        refine v_icmp_le (I := iX3_nextCell) (tgt := 41) dX3_nextCell_25 (by decide) (fun c25 => ?_) (fun c25 => ?_)
        · have e2 : x2 = nxN g x (k + 1) := nx_f hx2 (by grind)
          refine v_iinc (I := iX3_nextCell) (ls1 := [(3, _), (4, _), (2, _), (0, _), (1, _)]) dX3_nextCell_41 rfl rfl (by decide) rfl ?_
          refine v_goto (I := iX3_nextCell) (tgt := 4) dX3_nextCell_44 (by decide) ?_
          refine v_pick (I := iX3_nextCell) (ls1 := [(3, _), (2, _), (0, _), (1, _)]) [0, 2, 3, 4] rfl ?_
          exact ih (k + 1) (by omega) (by exact nI_1 k) e2
        · have hxc : x < g (39 + 3 * k + 0) := by grind
          refine v_iload_n (I := iX3_nextCell) dX3_nextCell_28 rfl ?_
          refine v_if_lt (I := iX3_nextCell) (tgt := 38) dX3_nextCell_29 (by decide) (fun c29 => ?_) (fun c29 => ?_)
          · have e2 : g (39 + 3 * k + 0) = nxN g x (k + 1) := nx_t hx2 hxc (Or.inl c29)
            refine v_iload (I := iX3_nextCell) dX3_nextCell_38 rfl ?_
            refine v_istore_n (I := iX3_nextCell) (ls1 := [(2, _), (4, _), (3, _), (0, _), (1, _)]) dX3_nextCell_40 (by decide) rfl ?_
            refine v_iinc (I := iX3_nextCell) (ls1 := [(3, _), (2, _), (4, _), (0, _), (1, _)]) dX3_nextCell_41 rfl rfl (by decide) rfl ?_
            refine v_goto (I := iX3_nextCell) (tgt := 4) dX3_nextCell_44 (by decide) ?_
            refine v_pick (I := iX3_nextCell) (ls1 := [(3, _), (2, _), (0, _), (1, _)]) [0, 1, 3, 4] rfl ?_
            exact ih (k + 1) (by omega) (by exact nI_1 k) e2
          · refine v_iload (I := iX3_nextCell) dX3_nextCell_32 rfl ?_
            refine v_iload_n (I := iX3_nextCell) dX3_nextCell_34 rfl ?_
            refine v_icmp_ge (I := iX3_nextCell) (tgt := 41) dX3_nextCell_35 (by decide) (fun c35 => ?_) (fun c35 => ?_)
            · have e2 : x2 = nxN g x (k + 1) := nx_f hx2 (by grind)
              refine v_iinc (I := iX3_nextCell) (ls1 := [(3, _), (4, _), (2, _), (0, _), (1, _)]) dX3_nextCell_41 rfl rfl (by decide) rfl ?_
              refine v_goto (I := iX3_nextCell) (tgt := 4) dX3_nextCell_44 (by decide) ?_
              refine v_pick (I := iX3_nextCell) (ls1 := [(3, _), (2, _), (0, _), (1, _)]) [0, 2, 3, 4] rfl ?_
              exact ih (k + 1) (by omega) (by exact nI_1 k) e2
            · have e2 : g (39 + 3 * k + 0) = nxN g x (k + 1) := nx_t hx2 hxc (Or.inr (by grind))
              refine v_iload (I := iX3_nextCell) dX3_nextCell_38 rfl ?_
              refine v_istore_n (I := iX3_nextCell) (ls1 := [(2, _), (4, _), (3, _), (0, _), (1, _)]) dX3_nextCell_40 (by decide) rfl ?_
              refine v_iinc (I := iX3_nextCell) (ls1 := [(3, _), (2, _), (4, _), (0, _), (1, _)]) dX3_nextCell_41 rfl rfl (by decide) rfl ?_
              refine v_goto (I := iX3_nextCell) (tgt := 4) dX3_nextCell_44 (by decide) ?_
              refine v_pick (I := iX3_nextCell) (ls1 := [(3, _), (2, _), (0, _), (1, _)]) [0, 1, 3, 4] rfl ?_
              exact ih (k + 1) (by omega) (by exact nI_1 k) e2
  refine v_iconst (I := iX3_nextCell) (v := -1) dX3_nextCell_0 (by decide) ?_
  refine v_istore_n (I := iX3_nextCell) (ls1 := [(2, _), (0, _), (1, _)]) dX3_nextCell_1 (by decide) rfl ?_
  refine v_iconst (I := iX3_nextCell) (v := 0) dX3_nextCell_2 (by decide) ?_
  refine v_istore_n (I := iX3_nextCell) (ls1 := [(3, _), (2, _), (0, _), (1, _)]) dX3_nextCell_3 (by decide) rfl ?_
  exact key N 0 (by omega) rfl rfl
set_option maxRecDepth 100000 in
set_option maxHeartbeats 8000000 in
theorem m_X10_nextCell {G : fGm} {σ : fSt} {τ : fLt} (hB : B (σ 88)) {x : Int32} : MS G iX10_nextCell 2 [.ref 87, .int x] σ τ (rT (some (.int (gNxt (σ 88) x))) σ τ) := by
  refine ms_of (by decide +kernel) (Nat.le_of_ble_eq_true rfl) ?_
  show VW _ _ _ _ _ _ 0 [(0, _), (1, _)] []
  obtain ⟨N, hN8, hN, hNc⟩ := n14_nI hB
  have key : ∀ (m k : Nat) {y x2 : Int32}, k + m = N → y = nI k → x2 = nxN (σ 88) x k → VW G iX10_nextCell (rT (some (.int (gNxt (σ 88) x))) σ τ) 2 σ τ 4 [(3, .int y), (2, .int x2), (0, .ref 87), (1, .int x)] [] := by
    intro m
    induction m with
    | zero =>
      intro k y x2 hkm hk hx2
      have hkN : k = N := hkm
      show VW _ _ _ _ _ _ 4 [(3, _), (2, _), (0, _), (1, _)] []
      refine v_iload_n (I := iX10_nextCell) dX10_nextCell_4 rfl ?_
      refine v_aload_n (I := iX10_nextCell) dX10_nextCell_5 rfl ?_
      refine v_get (I := iX10_nextCell) g_X10_9 dX10_nextCell_6 (by decide) (ae_87 _ _) rfl ?_
      refine v_bipush (I := iX10_nextCell) (v := 14) dX10_nextCell_9 (by decide) ?_
      refine v_ialdN (I := iX10_nextCell) (j := 14) (by decide) (by decide) (by decide) dX10_nextCell_11 (by decide) (ae_88 _ _) ?_
      rw [hN]
      refine v_icmp_ge (I := iX10_nextCell) (tgt := 52) dX10_nextCell_12 (by decide) (fun c12 => ?_) (fun c12 => ?_)
      · refine v_iload_n (I := iX10_nextCell) dX10_nextCell_52 rfl ?_
        exact v_iret (I := iX10_nextCell) rfl dX10_nextCell_53 ⟨by rw [hx2, hkN, ← hNc]; rfl, rfl, rfl⟩
      · exact absurd (by rw [hk, hkN]; exact Int32.le_refl _) c12
    | succ m ih =>
      intro k y x2 hkm hk hx2
      subst hk
      show VW _ _ _ _ _ _ 4 [(3, _), (2, _), (0, _), (1, _)] []
      refine v_iload_n (I := iX10_nextCell) dX10_nextCell_4 rfl ?_
      refine v_aload_n (I := iX10_nextCell) dX10_nextCell_5 rfl ?_
      refine v_get (I := iX10_nextCell) g_X10_9 dX10_nextCell_6 (by decide) (ae_87 _ _) rfl ?_
      refine v_bipush (I := iX10_nextCell) (v := 14) dX10_nextCell_9 (by decide) ?_
      refine v_ialdN (I := iX10_nextCell) (j := 14) (by decide) (by decide) (by decide) dX10_nextCell_11 (by decide) (ae_88 _ _) ?_
      rw [hN]
      refine v_icmp_ge (I := iX10_nextCell) (tgt := 52) dX10_nextCell_12 (by decide) (fun c12 => ?_) (fun c12 => ?_)
      · exact absurd c12 (by exact nI_ge (by omega) (by omega))
      · refine v_aload_n (I := iX10_nextCell) dX10_nextCell_15 rfl ?_
        refine v_iload_n (I := iX10_nextCell) dX10_nextCell_16 rfl ?_
        refine v_iconst (I := iX10_nextCell) (v := 0) dX10_nextCell_17 (by decide) ?_
        refine v_callVi (I := iX10_nextCell) (I' := iX10_holdOf) lk_X10_104 c_X10_holdOf dX10_nextCell_18 (m_X10_holdOf (h := k) (f := 0) rfl (by omega) rfl (by decide)) rfl rfl (by decide) (ae_87 _ _) rfl (by decide) (by decide) (Nat.le_of_ble_eq_true rfl) ?_
        refine v_istore (I := iX10_nextCell) (ls1 := [(4, _), (3, _), (2, _), (0, _), (1, _)]) dX10_nextCell_21 (by decide) rfl ?_
        refine v_iload (I := iX10_nextCell) dX10_nextCell_23 rfl ?_
        refine v_iload_n (I := iX10_nextCell) dX10_nextCell_25 rfl ?_
        refine v_icmp_le (I := iX10_nextCell) (tgt := 44) dX10_nextCell_26 (by decide) (fun c26 => ?_) (fun c26 => ?_)
        · have e2 : x2 = nxN (σ 88) x (k + 1) := nx_f hx2 (by grind)
          refine v_iload_n (I := iX10_nextCell) dX10_nextCell_44 rfl ?_
          refine v_istore_n (I := iX10_nextCell) (ls1 := [(2, _), (4, _), (3, _), (0, _), (1, _)]) dX10_nextCell_45 (by decide) rfl ?_
          refine v_iinc (I := iX10_nextCell) (ls1 := [(3, _), (2, _), (4, _), (0, _), (1, _)]) dX10_nextCell_46 rfl rfl (by decide) rfl ?_
          refine v_goto (I := iX10_nextCell) (tgt := 4) dX10_nextCell_49 (by decide) ?_
          refine v_pick (I := iX10_nextCell) (ls1 := [(3, _), (2, _), (0, _), (1, _)]) [0, 1, 3, 4] rfl ?_
          exact ih (k + 1) (by omega) (by exact nI_1 k) e2
        · have hxc : x < (σ 88) (39 + 3 * k + 0) := by grind
          refine v_iload_n (I := iX10_nextCell) dX10_nextCell_29 rfl ?_
          refine v_if_lt (I := iX10_nextCell) (tgt := 39) dX10_nextCell_30 (by decide) (fun c30 => ?_) (fun c30 => ?_)
          · have e2 : (σ 88) (39 + 3 * k + 0) = nxN (σ 88) x (k + 1) := nx_t hx2 hxc (Or.inl c30)
            refine v_iload (I := iX10_nextCell) dX10_nextCell_39 rfl ?_
            refine v_goto (I := iX10_nextCell) (tgt := 45) dX10_nextCell_41 (by decide) ?_
            refine v_istore_n (I := iX10_nextCell) (ls1 := [(2, _), (4, _), (3, _), (0, _), (1, _)]) dX10_nextCell_45 (by decide) rfl ?_
            refine v_iinc (I := iX10_nextCell) (ls1 := [(3, _), (2, _), (4, _), (0, _), (1, _)]) dX10_nextCell_46 rfl rfl (by decide) rfl ?_
            refine v_goto (I := iX10_nextCell) (tgt := 4) dX10_nextCell_49 (by decide) ?_
            refine v_pick (I := iX10_nextCell) (ls1 := [(3, _), (2, _), (0, _), (1, _)]) [0, 1, 3, 4] rfl ?_
            exact ih (k + 1) (by omega) (by exact nI_1 k) e2
          · refine v_iload (I := iX10_nextCell) dX10_nextCell_33 rfl ?_
            refine v_iload_n (I := iX10_nextCell) dX10_nextCell_35 rfl ?_
            refine v_icmp_ge (I := iX10_nextCell) (tgt := 44) dX10_nextCell_36 (by decide) (fun c36 => ?_) (fun c36 => ?_)
            · have e2 : x2 = nxN (σ 88) x (k + 1) := nx_f hx2 (by grind)
              refine v_iload_n (I := iX10_nextCell) dX10_nextCell_44 rfl ?_
              refine v_istore_n (I := iX10_nextCell) (ls1 := [(2, _), (4, _), (3, _), (0, _), (1, _)]) dX10_nextCell_45 (by decide) rfl ?_
              refine v_iinc (I := iX10_nextCell) (ls1 := [(3, _), (2, _), (4, _), (0, _), (1, _)]) dX10_nextCell_46 rfl rfl (by decide) rfl ?_
              refine v_goto (I := iX10_nextCell) (tgt := 4) dX10_nextCell_49 (by decide) ?_
              refine v_pick (I := iX10_nextCell) (ls1 := [(3, _), (2, _), (0, _), (1, _)]) [0, 1, 3, 4] rfl ?_
              exact ih (k + 1) (by omega) (by exact nI_1 k) e2
            · have e2 : (σ 88) (39 + 3 * k + 0) = nxN (σ 88) x (k + 1) := nx_t hx2 hxc (Or.inr (by grind))
              refine v_iload (I := iX10_nextCell) dX10_nextCell_39 rfl ?_
              refine v_goto (I := iX10_nextCell) (tgt := 45) dX10_nextCell_41 (by decide) ?_
              refine v_istore_n (I := iX10_nextCell) (ls1 := [(2, _), (4, _), (3, _), (0, _), (1, _)]) dX10_nextCell_45 (by decide) rfl ?_
              refine v_iinc (I := iX10_nextCell) (ls1 := [(3, _), (2, _), (4, _), (0, _), (1, _)]) dX10_nextCell_46 rfl rfl (by decide) rfl ?_
              refine v_goto (I := iX10_nextCell) (tgt := 4) dX10_nextCell_49 (by decide) ?_
              refine v_pick (I := iX10_nextCell) (ls1 := [(3, _), (2, _), (0, _), (1, _)]) [0, 1, 3, 4] rfl ?_
              exact ih (k + 1) (by omega) (by exact nI_1 k) e2
  refine v_iconst (I := iX10_nextCell) (v := -1) dX10_nextCell_0 (by decide) ?_
  refine v_istore_n (I := iX10_nextCell) (ls1 := [(2, _), (0, _), (1, _)]) dX10_nextCell_1 (by decide) rfl ?_
  refine v_iconst (I := iX10_nextCell) (v := 0) dX10_nextCell_2 (by decide) ?_
  refine v_istore_n (I := iX10_nextCell) (ls1 := [(3, _), (2, _), (0, _), (1, _)]) dX10_nextCell_3 (by decide) rfl ?_
  exact key N 0 (by omega) rfl rfl
