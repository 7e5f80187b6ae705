def byC (w : Int64) (k : Int32) : Int32 := (w.toUInt64 >>> ((8 * k).toInt64.toUInt64 &&& Int64.toUInt64 63)).toInt64.toInt32 &&& 255
theorem bit255 {m j : Nat} (hm : 8 ≤ m) (h : j < m) : (BitVec.ofNat m 255).getLsbD j = decide (j < 8) := by
  rw [BitVec.getLsbD_ofNat, show (255 : Nat) = 2 ^ 8 - 1 from rfl, Nat.testBit_two_pow_sub_one]
  simp [h]
theorem by_key (w : BitVec 64) (s : Nat) (hs : s < 57) : (BitVec.sshiftRight w s &&& 255#64).setWidth 32 = (w >>> s).setWidth 32 &&& 255#32 := by
  apply BitVec.eq_of_getLsbD_eq
  intro j hj
  rw [BitVec.getLsbD_setWidth, BitVec.getLsbD_and, BitVec.getLsbD_and, BitVec.getLsbD_setWidth, bit255 (m := 64) (by decide) (by omega), bit255 (m := 32) (by decide) hj]
  by_cases h8 : j < 8
  · have h1 : ¬ 64 ≤ j := by omega
    have h2 : s + j < 64 := by omega
    simp [hj, h8, BitVec.getLsbD_sshiftRight, BitVec.getLsbD_ushiftRight, h1, h2]
  · simp [h8]
theorem by_eq1 (w y : Int64) (u : UInt64) (s : Nat) (hs : s < 57) (h1 : (y.toBitVec.smod 64).toNat = s) (h2 : (u.toBitVec % 64).toNat = s) : ((w >>> y) &&& 255).toInt32 = (w.toUInt64 >>> u).toInt64.toInt32 &&& 255 := by
  apply Int32.toBitVec_inj.mp
  have e1 : ((w >>> y) &&& 255).toInt32.toBitVec = BitVec.signExtend 32 (BitVec.sshiftRight w.toBitVec (y.toBitVec.smod 64).toNat &&& 255#64) := rfl
  have e2 : ((w.toUInt64 >>> u).toInt64.toInt32 &&& 255).toBitVec = BitVec.signExtend 32 (w.toBitVec >>> (u.toBitVec % 64).toNat) &&& 255#32 := rfl
  rw [e1, e2, h1, h2, BitVec.signExtend_eq_setWidth_of_le _ (by decide), BitVec.signExtend_eq_setWidth_of_le _ (by decide)]
  exact by_key w.toBitVec s hs
theorem by_eq (w : Int64) : ∀ k, k < 8 → ((w >>> ((8 * nI k).toInt64 &&& 63)) &&& 255).toInt32 = byC w (nI k) := by
  intro k hk
  refine by_eq1 w _ _ (8 * k) (by omega) ?_ ?_
  · revert k; decide +kernel
  · revert k; decide +kernel
theorem by_in (w : Int64) (k : Int32) : 0 ≤ byC w k ∧ byC w k ≤ 255 := by
  unfold byC
  generalize (w.toUInt64 >>> ((8 * k).toInt64.toUInt64 &&& Int64.toUInt64 63)).toInt64.toInt32 = x
  have h1 : (x &&& 255).toBitVec = x.toBitVec &&& 255#32 := rfl
  have h2 : (x &&& 255).toBitVec.toNat ≤ 255 := by rw [h1, BitVec.toNat_and]; exact Nat.and_le_right
  obtain ⟨j, hj, e⟩ : ∃ j : Nat, j ≤ 255 ∧ x &&& 255 = nI j := ⟨_, h2, by apply Int32.toBitVec_inj.mp; show _ = BitVec.ofNat 32 _; rw [BitVec.ofNat_toNat]; exact (BitVec.setWidth_eq _).symm⟩
  rw [e]
  exact ⟨nI_pos' (by omega), nI_le (b := 255) hj (by decide)⟩
theorem B_n16 {g : gS} (hB : B g) : 0 ≤ g 16 ∧ g 16 ≤ 60 := hB 16 (by decide)
theorem bnd_tape : ∀ q, q < 60 → bnd (87 + q) = (0, 255) := by decide +kernel
def gFd1 (w : Int64) (k : Nat) (g : gS) : gS := va_up (va_up g (87 + (g 16).toNatClampNeg) (byC w (nI k))) 16 (g 16 + 1)
def gFd (w : Int64) : Nat → Nat → gS → gS
  | 0, _, g => g
  | m + 1, k, g => gFd w m (k + 1) (gFd1 w k g)
def feedS (ρ : fSt) (w : Int64) (n : Int32) : Int32 × fSt := if 1 ≤ n ∧ n ≤ 8 then (if n ≤ 60 - ρ 88 16 then (gFd w n.toNatClampNeg 0 (ρ 88) 16, rowS ρ (gFd w n.toNatClampNeg 0 (ρ 88))) else (errV 4, errS ρ 4)) else (errV 1, errS ρ 1)
theorem IV_fd1 {g : gS} {w : Int64} {k q : Nat} (h : IV g) (hn : g 16 = nI q) (hq : q < 60) : IV (gFd1 w k g) ∧ gFd1 w k g 16 = nI (q + 1) := by
  unfold gFd1
  rw [hn, nI_clamp (by omega)]
  refine ⟨IV_up (IV_up h ⟨by omega, by omega, by omega, by omega, fun j hj => by omega⟩ (by rw [bnd_tape q hq]; exact by_in w _)) ⟨by decide, by decide, by decide, by decide, fun j hj => by omega⟩ ?_, by rw [va_up_s, nI_1]⟩
  show (0 : Int32) ≤ _ ∧ _ ≤ (60 : Int32)
  rw [nI_1]
  exact ⟨nI_pos' (by omega), nI_le (b := 60) (by omega) (by decide)⟩
theorem V_fd1 {v : Nat} {σ : fSt} {g : gS} {w : Int64} {k q : Nat} (h : V v σ g) (hn : g 16 = nI q) (hq : q < 60) : V v (up2 (up2 σ (wc v 18) q (byC w (nI k))) (wc v 0) 7 (nI q + 1)) (gFd1 w k g) := by
  unfold gFd1
  rw [hn, nI_clamp (by omega)]
  have h1 := V_up (87 + q) (x := byC w (nI k)) (by omega) h
  rw [loc_tape q hq] at h1
  exact V_up 16 (by decide) h1
set_option maxRecDepth 100000 in
set_option maxHeartbeats 8000000 in
theorem m_X9_feed {G : fGm} {σ : fSt} {τ : fLt} {ρ : fSt} (hC : CR σ ρ) {w : Int64} {n : Int32} : MS G iX9_feed 2 [.ref 0, .long w, .int n] σ τ (rC τ σ (feedS ρ w n)) := by
  refine ms_of (by decide +kernel) (Nat.le_of_ble_eq_true rfl) ?_
  show VW _ _ _ _ _ _ 0 [(0, _), (1, _), (3, _)] []
  refine v_iload_n (I := iX9_feed) dX9_feed_0 rfl ?_
  refine v_iconst (I := iX9_feed) (v := 1) dX9_feed_1 (by decide) ?_
  refine v_bipush (I := iX9_feed) (v := 8) dX9_feed_2 (by decide) ?_
  refine v_callSi (I := iX9_feed) (I' := iX9_within) lk_X9_58 c_X9_within dX9_feed_4 (m_X9_within) rfl rfl (by decide) (by decide) (Nat.le_of_ble_eq_true rfl) ?_
  refine v_if_neB (I := iX9_feed) (tgt := 16) dX9_feed_7 (by decide) (fun c7 => ?_) (fun c7 => ?_)
  · have hgood : 1 ≤ n ∧ n ≤ 8 := by grind
    obtain ⟨N, hN9, rfl⟩ := in2_nI (x := n) (n := 9) (by decide) ⟨by grind, by have := hgood.2; show n < 9; grind⟩
    refine v_iload_n (I := iX9_feed) dX9_feed_16 rfl ?_
    refine v_bipush (I := iX9_feed) (v := 60) dX9_feed_17 (by decide) ?_
    refine v_aload_n (I := iX9_feed) dX9_feed_19 rfl ?_
    refine v_get (I := iX9_feed) g_X9_10 dX9_feed_20 (by decide) (ae_0 _ _) rfl ?_
    refine v_get (I := iX9_feed) g_X9_167 dX9_feed_23 (by decide) (ae_w0 (by decide) _ _) rfl ?_
    refine v_isub (I := iX9_feed) dX9_feed_26 ?_
    rw [V_n16 hC.1]
    refine v_icmp_le (I := iX9_feed) (tgt := 36) dX9_feed_27 (by decide) (fun c27 => ?_) (fun c27 => ?_)
    · have hfull : nI N ≤ 60 - ρ 88 16 := c27
      obtain ⟨q0, hq0, hqx⟩ : ∃ q, q < 61 ∧ ρ 88 16 = nI q := in2_nI (by decide) ⟨(B_n16 hC.2.2.2.2.2.1.1).1, by show ρ 88 16 < 61; have := (B_n16 hC.2.2.2.2.2.1.1).2; grind⟩
      have hN1 : 1 ≤ N ∧ N ≤ 8 := by
        have a := hgood.1
        have b := hgood.2
        constructor
        · rcases Nat.eq_zero_or_pos N with h9 | h9
          · subst h9; exact absurd a (by decide)
          · exact h9
        · omega
      have hNc : (nI N).toNatClampNeg = N := nI_clamp (by omega)
      have hqN : q0 + N ≤ 60 := by
        have hle : nI N ≤ 60 - nI q0 := by rw [← hqx]; exact hfull
        rw [show (60 : Int32) = nI 60 from rfl, pk_sub (by omega)] at hle
        have := (nI_leI (by omega) (by omega)).mp hle
        omega
      have key : ∀ (m i : Nat) {σ9 : fSt} {g9 : gS} {y : Int32}, i + m = N → gFd w m i g9 = gFd w N 0 (ρ 88) → V 0 σ9 g9 → IV g9 → g9 16 = nI (q0 + i) → FrW 0 σ σ9 → y = nI i → VW G iX9_feed (rC τ σ (feedS ρ w (nI N))) 2 σ9 τ 39 [(4, .int y), (0, .ref 0), (1, .long w), (3, .int (nI N))] [] := by
        intro m
        induction m with
        | zero =>
          intro i σ9 g9 y hin hgo hV9 hI9 hq9 hF9 hy
          have hin0 : i = N := hin
          have hgo : g9 = gFd w N 0 (ρ 88) := hgo
          subst hy
          show VW _ _ _ _ _ _ 39 [(4, _), (0, _), (1, _), (3, _)] []
          refine v_iload (I := iX9_feed) dX9_feed_39 rfl ?_
          refine v_iload_n (I := iX9_feed) dX9_feed_41 rfl ?_
          refine v_icmp_ge (I := iX9_feed) (tgt := 94) dX9_feed_42 (by decide) (fun c42 => ?_) (fun c42 => ?_)
          · refine v_aload_n (I := iX9_feed) dX9_feed_94 rfl ?_
            refine v_get (I := iX9_feed) g_X9_10 dX9_feed_95 (by decide) (ae_0 _ _) rfl ?_
            refine v_get (I := iX9_feed) g_X9_167 dX9_feed_98 (by decide) (ae_w0 (by decide) _ _) rfl ?_
            rw [V_n16 hV9]
            exact v_iret (I := iX9_feed) rfl dX9_feed_101 (by unfold feedS; rw [if_pos hgood, if_pos hfull, hNc]; exact ⟨by rw [← hgo], rfl, CR_row hC (by rw [← hgo]; exact hV9) hF9 (by rw [← hgo]; exact hI9), FrW.C (by decide) hF9⟩)
          · exact absurd (by rw [hin0]; exact Int32.le_refl _) c42
        | succ m ih =>
          intro i σ9 g9 y hin hgo hV9 hI9 hq9 hF9 hy
          subst hy
          show VW _ _ _ _ _ _ 39 [(4, _), (0, _), (1, _), (3, _)] []
          refine v_iload (I := iX9_feed) dX9_feed_39 rfl ?_
          refine v_iload_n (I := iX9_feed) dX9_feed_41 rfl ?_
          refine v_icmp_ge (I := iX9_feed) (tgt := 94) dX9_feed_42 (by decide) (fun c42 => ?_) (fun c42 => ?_)
          · exact absurd c42 (by exact nI_ge (by omega) (by omega))
          · refine v_aload_n (I := iX9_feed) dX9_feed_45 rfl ?_
            refine v_get (I := iX9_feed) g_X9_10 dX9_feed_46 (by decide) (ae_0 _ _) rfl ?_
            refine v_get (I := iX9_feed) g_X9_170 dX9_feed_49 (by decide) (ae_w0 (by decide) _ _) rfl ?_
            refine v_aload_n (I := iX9_feed) dX9_feed_52 rfl ?_
            refine v_get (I := iX9_feed) g_X9_10 dX9_feed_53 (by decide) (ae_0 _ _) rfl ?_
            refine v_get (I := iX9_feed) g_X9_167 dX9_feed_56 (by decide) (ae_w0 (by decide) _ _) rfl ?_
            rw [V_n16 hV9, hq9]
            refine v_lload_n (I := iX9_feed) dX9_feed_59 rfl ?_
            refine v_bipush (I := iX9_feed) (v := 8) dX9_feed_60 (by decide) ?_
            refine v_iload (I := iX9_feed) dX9_feed_62 rfl ?_
            refine v_imul (I := iX9_feed) dX9_feed_64 ?_
            refine v_lushr (I := iX9_feed) dX9_feed_65 ?_
            refine v_l2i (I := iX9_feed) dX9_feed_66 ?_
            refine v_sipush (I := iX9_feed) (v := 255) dX9_feed_67 (by decide) ?_
            refine v_iand (I := iX9_feed) dX9_feed_70 ?_
            rw [show (w.toUInt64 >>> ((8 * nI i).toInt64.toUInt64 &&& Int64.toUInt64 63)).toInt64.toInt32 &&& 255 = byC w (nI i) from rfl]
            refine v_callSi (I := iX9_feed) (I' := iX9_exchange) lk_X9_78 c_X9_exchange dX9_feed_71 (m_X9_exchange (by decide) (ae_w18 (by decide)) (by decide)) rfl rfl (by decide) (by decide) (Nat.le_of_ble_eq_true rfl) ?_
            rw [wrA_in (by omega) (by decide)]
            refine v_pop (I := iX9_feed) dX9_feed_74 rfl ?_
            refine v_aload_n (I := iX9_feed) dX9_feed_75 rfl ?_
            refine v_get (I := iX9_feed) g_X9_10 dX9_feed_76 (by decide) (ae_0 _ _) rfl ?_
            refine v_dup (I := iX9_feed) dX9_feed_79 rfl ?_
            refine v_get (I := iX9_feed) g_X9_167 dX9_feed_80 (by decide) (ae_w0 (by decide) _ _) rfl ?_
            rw [up2_k _ _ _ _ (wc_ne (by decide)), V_n16 hV9, hq9]
            refine v_iconst (I := iX9_feed) (v := 1) dX9_feed_83 (by decide) ?_
            refine v_iadd (I := iX9_feed) dX9_feed_84 ?_
            refine v_putI (I := iX9_feed) p_X9_167 dX9_feed_85 (by decide) (ae_w0 (by decide) _ _) (ae_w0 (by decide) _ _) rfl rfl (by simp) ?_
            refine v_iinc (I := iX9_feed) (ls1 := [(4, _), (0, _), (1, _), (3, _)]) dX9_feed_88 rfl rfl (by decide) rfl ?_
            refine v_goto (I := iX9_feed) (tgt := 39) dX9_feed_91 (by decide) ?_
            exact ih (i + 1) (g9 := gFd1 w i g9) (by omega) (by rw [← hgo]; rfl) (V_fd1 hV9 hq9 (by omega)) (IV_fd1 hI9 hq9 (by omega)).1 (by rw [(IV_fd1 hI9 hq9 (by omega)).2]; rfl) (hF9.tr ((FrW.up (by decide)).tr (FrW.up (by decide)))) (nI_1 i)
      refine v_iconst (I := iX9_feed) (v := 0) dX9_feed_36 (by decide) ?_
      refine v_istore (I := iX9_feed) (ls1 := [(4, _), (0, _), (1, _), (3, _)]) dX9_feed_37 (by decide) rfl ?_
      exact key N 0 (by omega) rfl hC.1 hC.2.2.2.2.2.1 hqx FrW.rf rfl
    · refine v_aload_n (I := iX9_feed) dX9_feed_30 rfl ?_
      refine v_iconst (I := iX9_feed) (v := 4) dX9_feed_31 (by decide) ?_
      refine v_callVi (I := iX9_feed) (I' := iX9_refused) lk_X9_62 c_X9_refused dX9_feed_32 (m_X9_refused (e := 4) (by decide) (by decide) (by decide)) rfl rfl (by decide) (ae_0 _ _) rfl (by decide) (by decide) (Nat.le_of_ble_eq_true rfl) ?_
      exact v_iret (I := iX9_feed) rfl dX9_feed_35 (by unfold feedS; rw [if_pos hgood, if_neg c27]; exact ⟨rfl, rfl, CR_err hC (by decide) (by decide), FC.up (by decide)⟩)
  · refine v_aload_n (I := iX9_feed) dX9_feed_10 rfl ?_
    refine v_iconst (I := iX9_feed) (v := 1) dX9_feed_11 (by decide) ?_
    refine v_callVi (I := iX9_feed) (I' := iX9_refused) lk_X9_62 c_X9_refused dX9_feed_12 (m_X9_refused (e := 1) (by decide) (by decide) (by decide)) rfl rfl (by decide) (ae_0 _ _) rfl (by decide) (by decide) (Nat.le_of_ble_eq_true rfl) ?_
    exact v_iret (I := iX9_feed) rfl dX9_feed_15 (by unfold feedS; rw [if_neg (by grind)]; exact ⟨rfl, rfl, CR_err hC (by decide) (by decide), FC.up (by decide)⟩)
set_option maxRecDepth 100000 in
set_option maxHeartbeats 8000000 in
theorem m_X10_feed {G : fGm} {σ : fSt} {τ : fLt} {ρ : fSt} (hR : RR σ ρ) {w : Int64} {n : Int32} : MS G iX10_feed 2 [.ref 87, .long w, .int n] σ τ (rR τ σ (feedS ρ w n)) := by
  refine ms_of (by decide +kernel) (Nat.le_of_ble_eq_true rfl) ?_
  show VW _ _ _ _ _ _ 0 [(0, _), (1, _), (3, _)] []
  have hb9 := B_n16 hR.2.2.2.2.2.2.2.2.2.2.2.1.1
  refine v_iload_n (I := iX10_feed) dX10_feed_0 rfl ?_
  refine v_iconst (I := iX10_feed) (v := 1) dX10_feed_1 (by decide) ?_
  refine v_bipush (I := iX10_feed) (v := 8) dX10_feed_2 (by decide) ?_
  refine v_callSi (I := iX10_feed) (I' := iX10_within) lk_X10_79 c_X10_within dX10_feed_4 (m_X10_within) rfl rfl (by decide) (by decide) (Nat.le_of_ble_eq_true rfl) ?_
  refine v_if_neB (I := iX10_feed) (tgt := 17) dX10_feed_7 (by decide) (fun c7 => ?_) (fun c7 => ?_)
  · have hgood : 1 ≤ n ∧ n ≤ 8 := by grind
    obtain ⟨N, hN9, rfl⟩ := in2_nI (x := n) (n := 9) (by decide) ⟨by grind, by have := hgood.2; show n < 9; grind⟩
    refine v_aload_n (I := iX10_feed) dX10_feed_17 rfl ?_
    refine v_get (I := iX10_feed) g_X10_9 dX10_feed_18 (by decide) (ae_87 _ _) rfl ?_
    refine v_bipush (I := iX10_feed) (v := 16) dX10_feed_21 (by decide) ?_
    refine v_ialdN (I := iX10_feed) (j := 16) (by decide) (by decide) (by decide) dX10_feed_23 (by decide) (ae_88 _ _) ?_
    rw [hR.1]
    refine v_iload_n (I := iX10_feed) dX10_feed_24 rfl ?_
    refine v_iadd (I := iX10_feed) dX10_feed_25 ?_
    refine v_bipush (I := iX10_feed) (v := 60) dX10_feed_26 (by decide) ?_
    refine v_icmp_le (I := iX10_feed) (tgt := 38) dX10_feed_28 (by decide) (fun c28 => ?_) (fun c28 => ?_)
    · have hfull : nI N ≤ 60 - ρ 88 16 := by grind
      obtain ⟨q0, hq0, hqx⟩ : ∃ q, q < 61 ∧ ρ 88 16 = nI q := in2_nI (by decide) ⟨(B_n16 hR.2.2.2.2.2.2.2.2.2.2.2.1.1).1, by show ρ 88 16 < 61; have := (B_n16 hR.2.2.2.2.2.2.2.2.2.2.2.1.1).2; grind⟩
      have hN1 : 1 ≤ N ∧ N ≤ 8 := by
        have a := hgood.1
        have b := hgood.2
        constructor
        · rcases Nat.eq_zero_or_pos N with h9 | h9
          · subst h9; exact absurd a (by decide)
          · exact h9
        · omega
      have hNc : (nI N).toNatClampNeg = N := nI_clamp (by omega)
      have hqN : q0 + N ≤ 60 := by
        have hle : nI N ≤ 60 - nI q0 := by rw [← hqx]; exact hfull
        rw [show (60 : Int32) = nI 60 from rfl, pk_sub (by omega)] at hle
        have := (nI_leI (by omega) (by omega)).mp hle
        omega
      have key : ∀ (m i : Nat) {g9 : gS} {y : Int32}, i + m = N → gFd w m i g9 = gFd w N 0 (ρ 88) → IV g9 → g9 16 = nI (q0 + i) → y = nI i → VW G iX10_feed (rR τ σ (feedS ρ w (nI N))) 2 (va_up σ 88 g9) τ 41 [(4, .int y), (0, .ref 87), (1, .long w), (3, .int (nI N))] [] := by
        intro m
        induction m with
        | zero =>
          intro i g9 y hin hgo hI9 hq9 hy
          have hin0 : i = N := hin
          have hgo : g9 = gFd w N 0 (ρ 88) := hgo
          subst hy
          show VW _ _ _ _ _ _ 41 [(4, _), (0, _), (1, _), (3, _)] []
          refine v_iload (I := iX10_feed) dX10_feed_41 rfl ?_
          refine v_iload_n (I := iX10_feed) dX10_feed_43 rfl ?_
          refine v_icmp_ge (I := iX10_feed) (tgt := 91) dX10_feed_44 (by decide) (fun c44 => ?_) (fun c44 => ?_)
          · refine v_aload_n (I := iX10_feed) dX10_feed_91 rfl ?_
            refine v_get (I := iX10_feed) g_X10_9 dX10_feed_92 (by decide) (ae_87 _ _) rfl ?_
            refine v_bipush (I := iX10_feed) (v := 16) dX10_feed_95 (by decide) ?_
            refine v_ialdN (I := iX10_feed) (j := 16) (by decide) (by decide) (by decide) dX10_feed_97 (by decide) (ae_88 _ _) ?_
            rw [va_up_s]
            exact v_iret (I := iX10_feed) rfl dX10_feed_98 (by unfold feedS; rw [if_pos hgood, if_pos hfull, hNc]; exact ⟨by rw [← hgo], rfl, by rw [hgo]; exact RR_row hR (by rw [← hgo]; exact hI9), FR.va (by decide)⟩)
          · exact absurd (by rw [hin0]; exact Int32.le_refl _) c44
        | succ m ih =>
          intro i g9 y hin hgo hI9 hq9 hy
          subst hy
          show VW _ _ _ _ _ _ 41 [(4, _), (0, _), (1, _), (3, _)] []
          refine v_iload (I := iX10_feed) dX10_feed_41 rfl ?_
          refine v_iload_n (I := iX10_feed) dX10_feed_43 rfl ?_
          refine v_icmp_ge (I := iX10_feed) (tgt := 91) dX10_feed_44 (by decide) (fun c44 => ?_) (fun c44 => ?_)
          · exact absurd c44 (by exact nI_ge (by omega) (by omega))
          · refine v_aload_n (I := iX10_feed) dX10_feed_47 rfl ?_
            refine v_get (I := iX10_feed) g_X10_9 dX10_feed_48 (by decide) (ae_87 _ _) rfl ?_
            refine v_bipush (I := iX10_feed) (v := 87) dX10_feed_51 (by decide) ?_
            refine v_aload_n (I := iX10_feed) dX10_feed_53 rfl ?_
            refine v_get (I := iX10_feed) g_X10_9 dX10_feed_54 (by decide) (ae_87 _ _) rfl ?_
            refine v_bipush (I := iX10_feed) (v := 16) dX10_feed_57 (by decide) ?_
            refine v_ialdN (I := iX10_feed) (j := 16) (by decide) (by decide) (by decide) dX10_feed_59 (by decide) (ae_88 _ _) ?_
            rw [va_up_s, hq9]
            refine v_iadd (I := iX10_feed) dX10_feed_60 ?_
            rw [show (87 : Int32) = nI 87 from rfl, nI_add]
            refine v_lload_n (I := iX10_feed) dX10_feed_61 rfl ?_
            refine v_bipush (I := iX10_feed) (v := 8) dX10_feed_62 (by decide) ?_
            refine v_iload (I := iX10_feed) dX10_feed_64 rfl ?_
            refine v_imul (I := iX10_feed) dX10_feed_66 ?_
            refine v_lshr (I := iX10_feed) dX10_feed_67 ?_
            refine v_ldc2 (I := iX10_feed) k_X10_159 dX10_feed_68 ?_
            refine v_land (I := iX10_feed) dX10_feed_71 ?_
            refine v_l2i (I := iX10_feed) dX10_feed_72 ?_
            rw [by_eq w i (by omega)]
            refine v_iastN (I := iX10_feed) (j := (87 + (q0 + i))) rfl (by omega) (by decide) dX10_feed_73 (by decide) (fun _ => ae_88 _ _) ?_
            refine v_aload_n (I := iX10_feed) dX10_feed_74 rfl ?_
            refine v_get (I := iX10_feed) g_X10_9 dX10_feed_75 (by decide) (ae_87 _ _) rfl ?_
            refine v_bipush (I := iX10_feed) (v := 16) dX10_feed_78 (by decide) ?_
            refine v_dup2_11 (I := iX10_feed) dX10_feed_80 rfl rfl ?_
            refine v_ialdN (I := iX10_feed) (j := 16) (by decide) (by decide) (by decide) dX10_feed_81 (by decide) (ae_88 _ _) ?_
            rw [show up2 (va_up σ 88 g9) 88 (87 + (q0 + i)) (byC w (nI i)) 88 16 = nI (q0 + i) by rw [up2_j _ _ (show 16 ≠ 87 + (q0 + i) by omega), va_up_s, hq9]]
            refine v_iconst (I := iX10_feed) (v := 1) dX10_feed_82 (by decide) ?_
            refine v_iadd (I := iX10_feed) dX10_feed_83 ?_
            refine v_iastN (I := iX10_feed) (j := 16) (by decide) (by decide) (by decide) dX10_feed_84 (by decide) (fun _ => ae_88 _ _) ?_
            rw [show up2 (up2 (va_up σ 88 g9) 88 (87 + (q0 + i)) (byC w (nI i))) 88 16 (nI (q0 + i) + 1) = va_up σ 88 (gFd1 w i g9) by
              unfold gFd1
              rw [hq9, nI_clamp (by omega)]
              simp only [up2, va_up_s, va_up_va]]
            refine v_iinc (I := iX10_feed) (ls1 := [(4, _), (0, _), (1, _), (3, _)]) dX10_feed_85 rfl rfl (by decide) rfl ?_
            refine v_goto (I := iX10_feed) (tgt := 41) dX10_feed_88 (by decide) ?_
            exact ih (i + 1) (g9 := gFd1 w i g9) (by omega) (by rw [← hgo]; rfl) (IV_fd1 hI9 hq9 (by omega)).1 (by rw [(IV_fd1 hI9 hq9 (by omega)).2]; rfl) (nI_1 i)
      refine v_iconst (I := iX10_feed) (v := 0) dX10_feed_38 (by decide) ?_
      refine v_istore (I := iX10_feed) (ls1 := [(4, _), (0, _), (1, _), (3, _)]) dX10_feed_39 (by decide) rfl ?_
      have hz := key N 0 (by omega) rfl hR.2.2.2.2.2.2.2.2.2.2.2.1 hqx rfl
      rw [show va_up σ 88 (ρ 88) = σ by rw [← hR.1]; exact va_self σ 88] at hz
      exact hz
    · refine v_aload_n (I := iX10_feed) dX10_feed_31 rfl ?_
      refine v_ldc (I := iX10_feed) k_X10_100 dX10_feed_32 ?_
      refine v_callVi (I := iX10_feed) (I' := iX10_finding) lk_X10_92 c_X10_finding dX10_feed_34 (m_X10_findE (e := 4) (by decide) (by decide)) rfl rfl (by decide) (ae_87 _ _) rfl (by decide) (by decide) (Nat.le_of_ble_eq_true rfl) ?_
      exact v_iret (I := iX10_feed) rfl dX10_feed_37 (by unfold feedS; rw [if_pos hgood, if_neg (by grind)]; exact ⟨rfl, rfl, RR_err hR, FR.up (by decide)⟩)
  · refine v_aload_n (I := iX10_feed) dX10_feed_10 rfl ?_
    refine v_ldc (I := iX10_feed) k_X10_91 dX10_feed_11 ?_
    refine v_callVi (I := iX10_feed) (I' := iX10_finding) lk_X10_92 c_X10_finding dX10_feed_13 (m_X10_findE (e := 1) (by decide) (by decide)) rfl rfl (by decide) (ae_87 _ _) rfl (by decide) (by decide) (Nat.le_of_ble_eq_true rfl) ?_
    exact v_iret (I := iX10_feed) rfl dX10_feed_16 (by unfold feedS; rw [if_neg (by grind)]; exact ⟨rfl, rfl, RR_err hR, FR.up (by decide)⟩)
