/-- the reference's parser in its cells: what stays -/
def FrP (σ0 σ : fSt) : Prop := (∀ q, q ≠ 87 → q ≠ 95 → σ q = σ0 q) ∧ ∀ j, j ≠ 8 → j ≠ 9 → j ≠ 11 → j ≠ 13 → σ 87 j = σ0 87 j
def RT (σ0 σ : fSt) (a : Nat) (kn : Nat) (C : List Int32) : Prop := σ 87 8 = nI a ∧ σ 87 9 = nI kn ∧ σ 87 11 = 0 ∧ σ 87 13 = nI C.length ∧ Stk (σ 95) C ∧ FrP σ0 σ
def RW (σ0 σ : fSt) (a : Nat) : Prop := σ 87 11 = 1 ∧ σ 87 8 = nI a ∧ FrP σ0 σ
def RP (σ0 : fSt) (kn : Nat) (r : pR) (σ : fSt) : Prop := if r.1 = true then RT σ0 σ r.2.1 kn r.2.2 else RW σ0 σ r.2.1
def tpe (σ0 : fSt) : Nat → Int32 := fun j => σ0 88 (87 + j)
def TX (σ0 : fSt) (N u : Nat) : Prop := σ0 88 16 = nI N ∧ N ≤ 60 ∧ (∀ j, j < N → 0 ≤ tpe σ0 j ∧ tpe σ0 j ≤ 255) ∧ σ0 87 10 = nI u ∧ u < 2
theorem FrP.rf {σ : fSt} : FrP σ σ := ⟨fun _ _ _ => rfl, fun _ _ _ _ _ => rfl⟩
theorem FrP.up {σ0 σ : fSt} (h : FrP σ0 σ) {j : Nat} {x : Int32} (hj : j = 8 ∨ j = 9 ∨ j = 11 ∨ j = 13) : FrP σ0 (up2 σ 87 j x) := ⟨fun q a b => (up2_kf _ _ _ a).trans (h.1 q a b), fun i a b c d => (up2_j _ _ (by omega)).trans (h.2 i a b c d)⟩
theorem FrP.up5 {σ0 σ : fSt} (h : FrP σ0 σ) {j : Nat} {x : Int32} : FrP σ0 (up2 σ 95 j x) := ⟨fun q a b => (up2_kf _ _ _ b).trans (h.1 q a b), fun i a b c d => (up2_k _ _ _ _ (by decide)).trans (h.2 i a b c d)⟩
section RTS
variable {σ0 σ : fSt} {a kn N u : Nat} {C : List Int32}
theorem RT.at_ (h : RT σ0 σ a kn C) (b : Nat) : RT σ0 (up2 σ 87 8 (nI b)) b kn C := by
  obtain ⟨h1, h2, h3, h4, h5, h6⟩ := h
  exact ⟨up2_s _ _ _ _, (up2_j _ _ (by decide)).trans h2, (up2_j _ _ (by decide)).trans h3, (up2_j _ _ (by decide)).trans h4, by rw [up2_kf _ _ _ (by decide)]; exact h5, h6.up (by decide)⟩
theorem RT.op_ (h : RT σ0 σ a kn C) (b : Nat) : RT σ0 (up2 σ 87 9 (nI b)) a b C := by
  obtain ⟨h1, h2, h3, h4, h5, h6⟩ := h
  exact ⟨(up2_j _ _ (by decide)).trans h1, up2_s _ _ _ _, (up2_j _ _ (by decide)).trans h3, (up2_j _ _ (by decide)).trans h4, by rw [up2_kf _ _ _ (by decide)]; exact h5, h6.up (by decide)⟩
theorem RT.w0 (h : RT σ0 σ a kn C) : RT σ0 (up2 σ 87 11 0) a kn C := by
  obtain ⟨h1, h2, h3, h4, h5, h6⟩ := h
  exact ⟨(up2_j _ _ (by decide)).trans h1, (up2_j _ _ (by decide)).trans h2, up2_s _ _ _ _, (up2_j _ _ (by decide)).trans h4, by rw [up2_kf _ _ _ (by decide)]; exact h5, h6.up (by decide)⟩
theorem RT.w1 (h : RT σ0 σ a kn C) : RW σ0 (up2 σ 87 11 1) a := ⟨up2_s _ _ _ _, (up2_j _ _ (by decide)).trans h.1, h.2.2.2.2.2.up (by decide)⟩
theorem RT.code (h : RT σ0 σ a kn C) (v : Int32) : RT σ0 (up2 (up2 σ 95 C.length v) 87 13 (nI (C.length + 1))) a kn (v :: C) := by
  obtain ⟨h1, h2, h3, h4, h5, h6⟩ := h
  refine ⟨?_, ?_, ?_, up2_s _ _ _ _, ?_, h6.up5.up (by decide)⟩
  · rw [up2_j _ _ (by decide), up2_k _ _ _ _ (by decide)]; exact h1
  · rw [up2_j _ _ (by decide), up2_k _ _ _ _ (by decide)]; exact h2
  · rw [up2_j _ _ (by decide), up2_k _ _ _ _ (by decide)]; exact h3
  · rw [up2_kf _ _ _ (by decide), up2_f]; exact h5.push
theorem RW.op_ (h : RW σ0 σ a) (x : Int32) : RW σ0 (up2 σ 87 9 x) a := ⟨(up2_j _ _ (by decide)).trans h.1, (up2_j _ _ (by decide)).trans h.2.1, h.2.2.up (by decide)⟩
theorem RW.w1 (h : RW σ0 σ a) : RW σ0 (up2 σ 87 11 1) a := ⟨up2_s _ _ _ _, (up2_j _ _ (by decide)).trans h.2.1, h.2.2.up (by decide)⟩
theorem RT.n (h : RT σ0 σ a kn C) (hX : TX σ0 N u) : σ 88 16 = nI N := by rw [h.2.2.2.2.2.1 88 (by decide) (by decide)]; exact hX.1
theorem RP.ok {r : pR} (h : RP σ0 kn r σ) (hr : r.1 = true) : RT σ0 σ r.2.1 kn r.2.2 := by unfold RP at h; rw [if_pos hr] at h; exact h
theorem RP.no {r : pR} (h : RP σ0 kn r σ) (hr : ¬ r.1 = true) : RW σ0 σ r.2.1 := by unfold RP at h; rw [if_neg hr] at h; exact h
theorem RP.of {r : pR} (h : RT σ0 σ r.2.1 kn r.2.2) (hr : r.1 = true) : RP σ0 kn r σ := by unfold RP; rw [if_pos hr]; exact h
theorem RP.of0 {r : pR} (h : RW σ0 σ r.2.1) (hr : r.1 = false) : RP σ0 kn r σ := by unfold RP; rw [if_neg (by rw [hr]; exact fun h => nomatch h)]; exact h
end RTS
/-- the last place of a byte -/
def lsF (i : Nat) (x : Int32) : Nat → Nat → Int32 → Int32
  | 0, _, f => f
  | m + 1, j, f => lsF i x m (j + 1) (if (kByt.getD i []).getD j 0 = x then nI j else f)
theorem lsF_0 (b : Int32) : lsF 0 b 5 0 (-1) = nmI 0 b := by
  show (if (104 : Int32) = b then nI 4 else if (108 : Int32) = b then nI 3 else if (119 : Int32) = b then nI 2 else if (115 : Int32) = b then nI 1 else if (102 : Int32) = b then nI 0 else -1) = if b = 102 then 0 else if b = 115 then 1 else if b = 119 then 2 else if b = 108 then 3 else if b = 104 then 4 else -1
  by_cases h1 : b = 102
  · subst h1; rfl
  by_cases h2 : b = 115
  · subst h2; rfl
  by_cases h3 : b = 119
  · subst h3; rfl
  by_cases h4 : b = 108
  · subst h4; rfl
  by_cases h5 : b = 104
  · subst h5; rfl
  rw [if_neg h1, if_neg h2, if_neg h3, if_neg h4, if_neg h5, if_neg (Ne.symm h5), if_neg (Ne.symm h4), if_neg (Ne.symm h3), if_neg (Ne.symm h2), if_neg (Ne.symm h1)]
theorem lsF_1 (b : Int32) : lsF 1 b 4 0 (-1) = nmI 1 b := by
  show (if (108 : Int32) = b then nI 3 else if (119 : Int32) = b then nI 2 else if (114 : Int32) = b then nI 1 else if (103 : Int32) = b then nI 0 else -1) = if b = 103 then 0 else if b = 114 then 1 else if b = 119 then 2 else if b = 108 then 3 else -1
  by_cases h1 : b = 103
  · subst h1; rfl
  by_cases h2 : b = 114
  · subst h2; rfl
  by_cases h3 : b = 119
  · subst h3; rfl
  by_cases h4 : b = 108
  · subst h4; rfl
  rw [if_neg h1, if_neg h2, if_neg h3, if_neg h4, if_neg (Ne.symm h4), if_neg (Ne.symm h3), if_neg (Ne.symm h2), if_neg (Ne.symm h1)]
theorem lsF_nm {u : Nat} (hi : u < 2) (b : Int32) : lsF u b (kLen.getD u 0) 0 (-1) = nmI u b := by
  rcases (show u = 0 ∨ u = 1 by omega) with rfl | rfl
  · exact lsF_0 b
  · exact lsF_1 b
set_option maxRecDepth 100000 in
set_option maxHeartbeats 4000000 in
theorem m_X10_here {G : fGm} {σ : fSt} {τ : fLt} {σ0 : fSt} {N u : Nat} (hX : TX σ0 N u) {a kn : Nat} {C : List Int32} (hR : RT σ0 σ a kn C) (ha : a ≤ N) : MS G iX10_here 0 [.ref 87] σ τ (rT (some (.int (hrB (tpe σ0) N a))) σ τ) := by
  refine ms_of (by decide +kernel) (Nat.le_of_ble_eq_true rfl) ?_
  show VW _ _ _ _ _ _ 0 [(0, _)] []
  refine v_aload_n (I := iX10_here) dX10_here_0 rfl ?_
  refine v_get (I := iX10_here) g_X10_161 dX10_here_1 (by decide) (ae_87 _ _) rfl ?_
  rw [hR.2.2.1]
  refine v_if_ne (I := iX10_here) (tgt := 36) dX10_here_4 (by decide) (fun c4 => ?_) (fun c4 => ?_)
  · exact absurd rfl c4
  · refine v_aload_n (I := iX10_here) dX10_here_7 rfl ?_
    refine v_get (I := iX10_here) g_X10_165 dX10_here_8 (by decide) (ae_87 _ _) rfl ?_
    rw [hR.1]
    refine v_aload_n (I := iX10_here) dX10_here_11 rfl ?_
    refine v_get (I := iX10_here) g_X10_9 dX10_here_12 (by decide) (ae_87 _ _) rfl ?_
    refine v_bipush (I := iX10_here) (v := 16) dX10_here_15 (by decide) ?_
    refine v_ialdN (I := iX10_here) (j := 16) (by decide) (by decide) (by decide) dX10_here_17 (by decide) (ae_88 _ _) ?_
    rw [hR.n hX]
    refine v_icmp_ge (I := iX10_here) (tgt := 36) dX10_here_18 (by decide) (fun c18 => ?_) (fun c18 => ?_)
    · have hge : ¬ a < N := fun h9 => absurd (nI_lt h9 (by have := hX.2.1; omega)) (Int32.not_lt.mpr c18)
      refine v_iconst (I := iX10_here) (v := -1) dX10_here_36 (by decide) ?_
      exact v_iret (I := iX10_here) rfl dX10_here_37 (by unfold hrB; first | (rw [if_pos hlt]; exact ⟨rfl, rfl, rfl⟩) | (rw [if_neg hge]; exact ⟨rfl, rfl, rfl⟩))
    · have hlt : a < N := by
        rcases Nat.lt_or_ge a N with h9 | h9
        · exact h9
        · exact absurd (nI_le h9 (by have := hX.2.1; omega)) c18
      refine v_aload_n (I := iX10_here) dX10_here_21 rfl ?_
      refine v_get (I := iX10_here) g_X10_9 dX10_here_22 (by decide) (ae_87 _ _) rfl ?_
      refine v_bipush (I := iX10_here) (v := 87) dX10_here_25 (by decide) ?_
      refine v_aload_n (I := iX10_here) dX10_here_27 rfl ?_
      refine v_get (I := iX10_here) g_X10_165 dX10_here_28 (by decide) (ae_87 _ _) rfl ?_
      rw [hR.1]
      refine v_iadd (I := iX10_here) dX10_here_31 ?_
      rw [show (87 : Int32) = nI 87 from rfl, nI_add]
      refine v_ialdN (I := iX10_here) (j := (87 + a)) rfl (by have := hX.2.1; omega) (by decide) dX10_here_32 (by decide) (ae_88 _ _) ?_
      rw [hR.2.2.2.2.2.1 88 (by decide) (by decide)]
      refine v_goto (I := iX10_here) (tgt := 37) dX10_here_33 (by decide) ?_
      exact v_iret (I := iX10_here) rfl dX10_here_37 (by unfold hrB; first | (rw [if_pos hlt]; exact ⟨rfl, rfl, rfl⟩) | (rw [if_neg hge]; exact ⟨rfl, rfl, rfl⟩))
set_option maxRecDepth 100000 in
set_option maxHeartbeats 4000000 in
theorem m_X10_hereW {G : fGm} {σ : fSt} {τ : fLt} {σ0 : fSt} {a : Nat} (hW : RW σ0 σ a) : MS G iX10_here 0 [.ref 87] σ τ (rT (some (.int (-1))) σ τ) := by
  refine ms_of (by decide +kernel) (Nat.le_of_ble_eq_true rfl) ?_
  show VW _ _ _ _ _ _ 0 [(0, _)] []
  refine v_aload_n (I := iX10_here) dX10_here_0 rfl ?_
  refine v_get (I := iX10_here) g_X10_161 dX10_here_1 (by decide) (ae_87 _ _) rfl ?_
  rw [hW.1]
  refine v_if_ne (I := iX10_here) (tgt := 36) dX10_here_4 (by decide) (fun c4 => ?_) (fun c4 => ?_)
  · refine v_iconst (I := iX10_here) (v := -1) dX10_here_36 (by decide) ?_
    exact v_iret (I := iX10_here) rfl dX10_here_37 ⟨by first | rfl | (simp only [*]; done) | (simp [*]; done), rfl, rfl⟩
  · exact absurd c4 (by decide)
set_option maxRecDepth 100000 in
set_option maxHeartbeats 4000000 in
theorem m_X10_takes {G : fGm} {σ : fSt} {τ : fLt} {σ0 : fSt} {N u : Nat} (hX : TX σ0 N u) {a kn : Nat} {C : List Int32} (hR : RT σ0 σ a kn C) (ha : a ≤ N) {c : Int32} : MS G iX10_takes 1 [.ref 87, .int c] σ τ (rP (some (.int (if hrB (tpe σ0) N a = c then 1 else 0))) τ (fun σ' => RT σ0 σ' (if hrB (tpe σ0) N a = c then a + 1 else a) kn C)) := by
  refine ms_of (by decide +kernel) (Nat.le_of_ble_eq_true rfl) ?_
  show VW _ _ _ _ _ _ 0 [(0, _), (1, _)] []
  refine v_aload_n (I := iX10_takes) dX10_takes_0 rfl ?_
  refine v_callVi (I := iX10_takes) (I' := iX10_here) lk_X10_169 c_X10_here dX10_takes_1 (m_X10_here hX hR ha) rfl rfl (by decide) (ae_87 _ _) rfl (by decide) (by decide) (Nat.le_of_ble_eq_true rfl) ?_
  refine v_iload_n (I := iX10_takes) dX10_takes_4 rfl ?_
  refine v_icmp_ne (I := iX10_takes) (tgt := 12) dX10_takes_5 (by decide) (fun c5 => ?_) (fun c5 => ?_)
  · refine v_iconst (I := iX10_takes) (v := 0) dX10_takes_12 (by decide) ?_
    refine v_istore_n (I := iX10_takes) (ls1 := [(2, _), (0, _), (1, _)]) dX10_takes_13 (by decide) rfl ?_
    refine v_aload_n (I := iX10_takes) dX10_takes_14 rfl ?_
    refine v_dup (I := iX10_takes) dX10_takes_15 rfl ?_
    refine v_get (I := iX10_takes) g_X10_165 dX10_takes_16 (by decide) (ae_87 _ _) rfl ?_
    rw [hR.1]
    refine v_iload_n (I := iX10_takes) dX10_takes_19 rfl ?_
    refine v_if_eq (I := iX10_takes) (tgt := 27) dX10_takes_20 (by decide) (fun c20 => ?_) (fun c20 => ?_)
    · refine v_iconst (I := iX10_takes) (v := 0) dX10_takes_27 (by decide) ?_
      refine v_iadd (I := iX10_takes) dX10_takes_28 ?_
      first | rw [nI_1 a] | rw [show nI a + 0 = nI a by grind]
      refine v_putI (I := iX10_takes) p_X10_165 dX10_takes_29 (by decide) (ae_87 _ _) (ae_87 _ _) rfl rfl (by simp) ?_
      refine v_iload_n (I := iX10_takes) dX10_takes_32 rfl ?_
      exact v_zret (I := iX10_takes) rfl rfl dX10_takes_33 (by first | (rw [if_pos c5, if_pos c5]; first | exact absurd c20 (by decide) | exact ⟨rfl, rfl, hR.at_ (a + 1)⟩) | (rw [if_neg c5, if_neg c5]; first | exact absurd rfl c20 | exact ⟨rfl, rfl, hR.at_ a⟩))
    · refine v_iconst (I := iX10_takes) (v := 1) dX10_takes_23 (by decide) ?_
      refine v_goto (I := iX10_takes) (tgt := 28) dX10_takes_24 (by decide) ?_
      refine v_iadd (I := iX10_takes) dX10_takes_28 ?_
      first | rw [nI_1 a] | rw [show nI a + 0 = nI a by grind]
      refine v_putI (I := iX10_takes) p_X10_165 dX10_takes_29 (by decide) (ae_87 _ _) (ae_87 _ _) rfl rfl (by simp) ?_
      refine v_iload_n (I := iX10_takes) dX10_takes_32 rfl ?_
      exact v_zret (I := iX10_takes) rfl rfl dX10_takes_33 (by first | (rw [if_pos c5, if_pos c5]; first | exact absurd c20 (by decide) | exact ⟨rfl, rfl, hR.at_ (a + 1)⟩) | (rw [if_neg c5, if_neg c5]; first | exact absurd rfl c20 | exact ⟨rfl, rfl, hR.at_ a⟩))
  · refine v_iconst (I := iX10_takes) (v := 1) dX10_takes_8 (by decide) ?_
    refine v_goto (I := iX10_takes) (tgt := 13) dX10_takes_9 (by decide) ?_
    refine v_istore_n (I := iX10_takes) (ls1 := [(2, _), (0, _), (1, _)]) dX10_takes_13 (by decide) rfl ?_
    refine v_aload_n (I := iX10_takes) dX10_takes_14 rfl ?_
    refine v_dup (I := iX10_takes) dX10_takes_15 rfl ?_
    refine v_get (I := iX10_takes) g_X10_165 dX10_takes_16 (by decide) (ae_87 _ _) rfl ?_
    rw [hR.1]
    refine v_iload_n (I := iX10_takes) dX10_takes_19 rfl ?_
    refine v_if_eq (I := iX10_takes) (tgt := 27) dX10_takes_20 (by decide) (fun c20 => ?_) (fun c20 => ?_)
    · refine v_iconst (I := iX10_takes) (v := 0) dX10_takes_27 (by decide) ?_
      refine v_iadd (I := iX10_takes) dX10_takes_28 ?_
      first | rw [nI_1 a] | rw [show nI a + 0 = nI a by grind]
      refine v_putI (I := iX10_takes) p_X10_165 dX10_takes_29 (by decide) (ae_87 _ _) (ae_87 _ _) rfl rfl (by simp) ?_
      refine v_iload_n (I := iX10_takes) dX10_takes_32 rfl ?_
      exact v_zret (I := iX10_takes) rfl rfl dX10_takes_33 (by first | (rw [if_pos c5, if_pos c5]; first | exact absurd c20 (by decide) | exact ⟨rfl, rfl, hR.at_ (a + 1)⟩) | (rw [if_neg c5, if_neg c5]; first | exact absurd rfl c20 | exact ⟨rfl, rfl, hR.at_ a⟩))
    · refine v_iconst (I := iX10_takes) (v := 1) dX10_takes_23 (by decide) ?_
      refine v_goto (I := iX10_takes) (tgt := 28) dX10_takes_24 (by decide) ?_
      refine v_iadd (I := iX10_takes) dX10_takes_28 ?_
      first | rw [nI_1 a] | rw [show nI a + 0 = nI a by grind]
      refine v_putI (I := iX10_takes) p_X10_165 dX10_takes_29 (by decide) (ae_87 _ _) (ae_87 _ _) rfl rfl (by simp) ?_
      refine v_iload_n (I := iX10_takes) dX10_takes_32 rfl ?_
      exact v_zret (I := iX10_takes) rfl rfl dX10_takes_33 (by first | (rw [if_pos c5, if_pos c5]; first | exact absurd c20 (by decide) | exact ⟨rfl, rfl, hR.at_ (a + 1)⟩) | (rw [if_neg c5, if_neg c5]; first | exact absurd rfl c20 | exact ⟨rfl, rfl, hR.at_ a⟩))
set_option maxRecDepth 100000 in
set_option maxHeartbeats 4000000 in
theorem m_X10_takesW {G : fGm} {σ : fSt} {τ : fLt} {σ0 : fSt} {a : Nat} (hW : RW σ0 σ a) {c : Int32} (hc : c ≠ -1) : MS G iX10_takes 1 [.ref 87, .int c] σ τ (rP (some (.int 0)) τ (fun σ' => RW σ0 σ' a)) := by
  refine ms_of (by decide +kernel) (Nat.le_of_ble_eq_true rfl) ?_
  show VW _ _ _ _ _ _ 0 [(0, _), (1, _)] []
  refine v_aload_n (I := iX10_takes) dX10_takes_0 rfl ?_
  refine v_callVi (I := iX10_takes) (I' := iX10_here) lk_X10_169 c_X10_here dX10_takes_1 (m_X10_hereW hW) rfl rfl (by decide) (ae_87 _ _) rfl (by decide) (by decide) (Nat.le_of_ble_eq_true rfl) ?_
  refine v_iload_n (I := iX10_takes) dX10_takes_4 rfl ?_
  refine v_icmp_ne (I := iX10_takes) (tgt := 12) dX10_takes_5 (by decide) (fun c5 => ?_) (fun c5 => ?_)
  · refine v_iconst (I := iX10_takes) (v := 0) dX10_takes_12 (by decide) ?_
    refine v_istore_n (I := iX10_takes) (ls1 := [(2, _), (0, _), (1, _)]) dX10_takes_13 (by decide) rfl ?_
    refine v_aload_n (I := iX10_takes) dX10_takes_14 rfl ?_
    refine v_dup (I := iX10_takes) dX10_takes_15 rfl ?_
    refine v_get (I := iX10_takes) g_X10_165 dX10_takes_16 (by decide) (ae_87 _ _) rfl ?_
    rw [hW.2.1]
    refine v_iload_n (I := iX10_takes) dX10_takes_19 rfl ?_
    refine v_if_eq (I := iX10_takes) (tgt := 27) dX10_takes_20 (by decide) (fun c20 => ?_) (fun c20 => ?_)
    · refine v_iconst (I := iX10_takes) (v := 0) dX10_takes_27 (by decide) ?_
      refine v_iadd (I := iX10_takes) dX10_takes_28 ?_
      rw [show nI a + 0 = nI a by grind]
      refine v_putI (I := iX10_takes) p_X10_165 dX10_takes_29 (by decide) (ae_87 _ _) (ae_87 _ _) rfl rfl (by simp) ?_
      refine v_iload_n (I := iX10_takes) dX10_takes_32 rfl ?_
      exact v_zret (I := iX10_takes) rfl rfl dX10_takes_33 ⟨rfl, rfl, (up2_j _ _ (by decide)).trans hW.1, up2_s _ _ _ _, hW.2.2.up (by decide)⟩
    · exact absurd rfl c20
  · exact absurd c5.symm hc
set_option maxRecDepth 100000 in
set_option maxHeartbeats 4000000 in
theorem m_X10_codes {G : fGm} {σ : fSt} {τ : fLt} {σ0 : fSt} {a kn : Nat} {C : List Int32} {v : Int32} (hR : RT σ0 σ a kn C) (hC : C.length < 60) : MS G iX10_codes 0 [.ref 87, .int v] σ τ (rP none τ (fun σ' => RT σ0 σ' a kn (v :: C))) := by
  refine ms_of (by decide +kernel) (Nat.le_of_ble_eq_true rfl) ?_
  show VW _ _ _ _ _ _ 0 [(0, _), (1, _)] []
  refine v_aload_n (I := iX10_codes) dX10_codes_0 rfl ?_
  refine v_get (I := iX10_codes) g_X10_161 dX10_codes_1 (by decide) (ae_87 _ _) rfl ?_
  rw [hR.2.2.1]
  refine v_if_ne (I := iX10_codes) (tgt := 27) dX10_codes_4 (by decide) (fun c4 => ?_) (fun c4 => ?_)
  · exact absurd rfl c4
  · refine v_aload_n (I := iX10_codes) dX10_codes_7 rfl ?_
    refine v_get (I := iX10_codes) g_X10_38 dX10_codes_8 (by decide) (ae_87 _ _) rfl ?_
    refine v_aload_n (I := iX10_codes) dX10_codes_11 rfl ?_
    refine v_get (I := iX10_codes) g_X10_172 dX10_codes_12 (by decide) (ae_87 _ _) rfl ?_
    rw [hR.2.2.2.1]
    refine v_iload_n (I := iX10_codes) dX10_codes_15 rfl ?_
    refine v_iastN (I := iX10_codes) (j := C.length) rfl hC (by decide) dX10_codes_16 (by decide) (fun _ => ae_95 _ _) ?_
    refine v_aload_n (I := iX10_codes) dX10_codes_17 rfl ?_
    refine v_dup (I := iX10_codes) dX10_codes_18 rfl ?_
    refine v_get (I := iX10_codes) g_X10_172 dX10_codes_19 (by decide) (ae_87 _ _) rfl ?_
    rw [up2_kf _ _ _ (by decide), hR.2.2.2.1]
    refine v_iconst (I := iX10_codes) (v := 1) dX10_codes_22 (by decide) ?_
    refine v_iadd (I := iX10_codes) dX10_codes_23 ?_
    rw [nI_1]
    refine v_putI (I := iX10_codes) p_X10_172 dX10_codes_24 (by decide) (ae_87 _ _) (ae_87 _ _) rfl rfl (by simp) ?_
    exact v_vret (I := iX10_codes) rfl dX10_codes_27 ⟨rfl, rfl, hR.code v⟩
set_option maxRecDepth 100000 in
set_option maxHeartbeats 4000000 in
theorem m_X10_codesW {G : fGm} {σ : fSt} {τ : fLt} {σ0 : fSt} {a : Nat} (hW : RW σ0 σ a) {v : Int32} : MS G iX10_codes 0 [.ref 87, .int v] σ τ (rP none τ (fun σ' => RW σ0 σ' a)) := by
  refine ms_of (by decide +kernel) (Nat.le_of_ble_eq_true rfl) ?_
  show VW _ _ _ _ _ _ 0 [(0, _), (1, _)] []
  refine v_aload_n (I := iX10_codes) dX10_codes_0 rfl ?_
  refine v_get (I := iX10_codes) g_X10_161 dX10_codes_1 (by decide) (ae_87 _ _) rfl ?_
  rw [hW.1]
  refine v_if_ne (I := iX10_codes) (tgt := 27) dX10_codes_4 (by decide) (fun c4 => ?_) (fun c4 => ?_)
  · exact v_vret (I := iX10_codes) rfl dX10_codes_27 ⟨rfl, rfl, hW⟩
  · exact absurd c4 (by decide)
set_option maxRecDepth 100000 in
set_option maxHeartbeats 8000000 in
theorem m_X10_nameOf {G : fGm} {σ : fSt} {τ : fLt} {u : Nat} {b : Int32} (hi : u < 2) (hU : σ 87 10 = nI u) : MS G iX10_nameOf 4 [.ref 87, .int b] σ τ (rT (some (.int (nmI u b))) σ τ) := by
  refine ms_of (by decide +kernel) (Nat.le_of_ble_eq_true rfl) ?_
  show VW _ _ _ _ _ _ 0 [(0, _), (1, _)] []
  have key : ∀ (m j : Nat) {f y : Int32}, j + m = kLen.getD u 0 → lsF u b m j f = nmI u b → y = nI j → VW G iX10_nameOf (rT (some (.int (nmI u b))) σ τ) 4 σ τ 4 [(3, .int y), (2, .int f), (0, .ref 87), (1, .int b)] [] := by
    intro m
    induction m with
    | zero =>
      intro j f y hjm he hy
      have hjm0 : j = kLen.getD u 0 := hjm
      subst hy
      show VW _ _ _ _ _ _ 4 [(3, _), (2, _), (0, _), (1, _)] []
      refine v_iload_n (I := iX10_nameOf) dX10_nameOf_4 rfl ?_
      refine v_aload_n (I := iX10_nameOf) dX10_nameOf_5 rfl ?_
      refine v_get (I := iX10_nameOf) g_X10_34 dX10_nameOf_6 (by decide) (ae_87 _ _) rfl ?_
      refine v_aload_n (I := iX10_nameOf) dX10_nameOf_9 rfl ?_
      refine v_get (I := iX10_nameOf) g_X10_196 dX10_nameOf_10 (by decide) (ae_87 _ _) rfl ?_
      rw [hU]
      refine v_aald (I := iX10_nameOf) (q := 1010 + u) (t := 1) (j := u) (by decide) rfl hi (by decide) rfl dX10_nameOf_13 (by decide) (ae_94 _ _) ?_
      refine v_callVS (I := iX10_nameOf) (I' := iJ0_length_8abf5) lk_X10_199 c_J0_length_8abf5 dX10_nameOf_14 (m_J0_length_8abf5 hi) rfl rfl hi rfl (by decide) (by decide) (Nat.le_of_ble_eq_true rfl) ?_
      refine v_icmp_ge (I := iX10_nameOf) (tgt := 49) dX10_nameOf_17 (by decide) (fun c17 => ?_) (fun c17 => ?_)
      · refine v_iload_n (I := iX10_nameOf) dX10_nameOf_49 rfl ?_
        exact v_iret (I := iX10_nameOf) rfl dX10_nameOf_50 ⟨by rw [← he]; rfl, rfl, rfl⟩
      · exact absurd (by rw [hjm0]; exact Int32.le_refl _) c17
    | succ m ih =>
      intro j f y hjm he hy
      subst hy
      show VW _ _ _ _ _ _ 4 [(3, _), (2, _), (0, _), (1, _)] []
      refine v_iload_n (I := iX10_nameOf) dX10_nameOf_4 rfl ?_
      refine v_aload_n (I := iX10_nameOf) dX10_nameOf_5 rfl ?_
      refine v_get (I := iX10_nameOf) g_X10_34 dX10_nameOf_6 (by decide) (ae_87 _ _) rfl ?_
      refine v_aload_n (I := iX10_nameOf) dX10_nameOf_9 rfl ?_
      refine v_get (I := iX10_nameOf) g_X10_196 dX10_nameOf_10 (by decide) (ae_87 _ _) rfl ?_
      rw [hU]
      refine v_aald (I := iX10_nameOf) (q := 1010 + u) (t := 1) (j := u) (by decide) rfl hi (by decide) rfl dX10_nameOf_13 (by decide) (ae_94 _ _) ?_
      refine v_callVS (I := iX10_nameOf) (I' := iJ0_length_8abf5) lk_X10_199 c_J0_length_8abf5 dX10_nameOf_14 (m_J0_length_8abf5 hi) rfl rfl hi rfl (by decide) (by decide) (Nat.le_of_ble_eq_true rfl) ?_
      refine v_icmp_ge (I := iX10_nameOf) (tgt := 49) dX10_nameOf_17 (by decide) (fun c17 => ?_) (fun c17 => ?_)
      · exact absurd c17 (by exact nI_ge (by omega) (kLen_lt u hi))
      · refine v_aload_n (I := iX10_nameOf) dX10_nameOf_20 rfl ?_
        refine v_get (I := iX10_nameOf) g_X10_34 dX10_nameOf_21 (by decide) (ae_87 _ _) rfl ?_
        refine v_aload_n (I := iX10_nameOf) dX10_nameOf_24 rfl ?_
        refine v_get (I := iX10_nameOf) g_X10_196 dX10_nameOf_25 (by decide) (ae_87 _ _) rfl ?_
        rw [hU]
        refine v_aald (I := iX10_nameOf) (q := 1010 + u) (t := 1) (j := u) (by decide) rfl hi (by decide) rfl dX10_nameOf_28 (by decide) (ae_94 _ _) ?_
        refine v_iload_n (I := iX10_nameOf) dX10_nameOf_29 rfl ?_
        refine v_callVS (I := iX10_nameOf) (I' := iJ0_charAt_5068e) lk_X10_202 c_J0_charAt_5068e dX10_nameOf_30 (m_J0_charAt_5068e hi (show j < kLen.getD u 0 by omega)) rfl rfl hi rfl (by decide) (by decide) (Nat.le_of_ble_eq_true rfl) ?_
        refine v_iload_n (I := iX10_nameOf) dX10_nameOf_33 rfl ?_
        refine v_icmp_ne (I := iX10_nameOf) (tgt := 41) dX10_nameOf_34 (by decide) (fun c34 => ?_) (fun c34 => ?_)
        · refine v_iload_n (I := iX10_nameOf) dX10_nameOf_41 rfl ?_
          refine v_istore_n (I := iX10_nameOf) (ls1 := [(2, _), (3, _), (0, _), (1, _)]) dX10_nameOf_42 (by decide) rfl ?_
          refine v_iinc (I := iX10_nameOf) (ls1 := [(3, _), (2, _), (0, _), (1, _)]) dX10_nameOf_43 rfl rfl (by decide) rfl ?_
          refine v_goto (I := iX10_nameOf) (tgt := 4) dX10_nameOf_46 (by decide) ?_
          refine v_pick (I := iX10_nameOf) (ls1 := [(3, _), (2, _), (0, _), (1, _)]) [0, 1, 2, 3] rfl ?_
          exact ih (j + 1) (by omega) (by rw [← he]; show lsF u b m (j + 1) _ = lsF u b m (j + 1) (if (kByt.getD u []).getD j 0 = b then nI j else f); first | rw [if_pos c34] | rw [if_neg c34]) (nI_1 j)
        · refine v_iload_n (I := iX10_nameOf) dX10_nameOf_37 rfl ?_
          refine v_goto (I := iX10_nameOf) (tgt := 42) dX10_nameOf_38 (by decide) ?_
          refine v_istore_n (I := iX10_nameOf) (ls1 := [(2, _), (3, _), (0, _), (1, _)]) dX10_nameOf_42 (by decide) rfl ?_
          refine v_iinc (I := iX10_nameOf) (ls1 := [(3, _), (2, _), (0, _), (1, _)]) dX10_nameOf_43 rfl rfl (by decide) rfl ?_
          refine v_goto (I := iX10_nameOf) (tgt := 4) dX10_nameOf_46 (by decide) ?_
          refine v_pick (I := iX10_nameOf) (ls1 := [(3, _), (2, _), (0, _), (1, _)]) [0, 1, 2, 3] rfl ?_
          exact ih (j + 1) (by omega) (by rw [← he]; show lsF u b m (j + 1) _ = lsF u b m (j + 1) (if (kByt.getD u []).getD j 0 = b then nI j else f); first | rw [if_pos c34] | rw [if_neg c34]) (nI_1 j)
  refine v_iconst (I := iX10_nameOf) (v := -1) dX10_nameOf_0 (by decide) ?_
  refine v_istore_n (I := iX10_nameOf) (ls1 := [(2, _), (0, _), (1, _)]) dX10_nameOf_1 (by decide) rfl ?_
  refine v_iconst (I := iX10_nameOf) (v := 0) dX10_nameOf_2 (by decide) ?_
  refine v_istore_n (I := iX10_nameOf) (ls1 := [(3, _), (2, _), (0, _), (1, _)]) dX10_nameOf_3 (by decide) rfl ?_
  exact key _ 0 (by omega) (lsF_nm hi b) rfl
