abbrev hasC (N i n : Int32) : Prop := 0 ≤ i ∧ 0 ≤ n ∧ i ≤ N ∧ n ≤ N - i
def moveN (ρ : fSt) (q i r j c : Nat) : fSt := va_up ρ 103 (va_cpy (ρ 103) (ρ 103) (24 * q + i) (24 * r + j) c)
def moveS (ρ : fSt) (s i o j n : Int32) : Int32 × fSt := if ¬ ((0 ≤ s ∧ s ≤ 3) ∧ 0 ≤ o ∧ o ≤ 3) then (errV 1, errS ρ 1) else if ρ 101 s.toNatClampNeg = 0 ∨ ρ 101 o.toNatClampNeg = 0 then (errV 2, errS ρ 2) else if ρ 101 s.toNatClampNeg ≠ ρ 101 o.toNatClampNeg then (errV 5, errS ρ 5) else if hasC (ρ 102 s.toNatClampNeg) i n ∧ hasC (ρ 102 o.toNatClampNeg) j n then (n, moveN ρ s.toNatClampNeg i.toNatClampNeg o.toNatClampNeg j.toNatClampNeg n.toNatClampNeg) else (errV 1, errS ρ 1)
theorem cpy_at (f g : Nat → Int32) (a b c x : Nat) : va_cpy f g a b c x = if b ≤ x ∧ x < b + c then f (a + (x - b)) else g x := rfl
theorem CR_move {σ ρ : fSt} (h : CR σ ρ) {q r i j c : Nat} (hq : q < 4) (hr : r < 4) (hi : i + c ≤ 24) (hj : j + c ≤ 24) : CR (va_up σ (sc r + 1) (va_cpy (σ (sc q + 1)) (σ (sc r + 1)) i j c)) (moveN ρ q i r j c) := by
  have hk : ∀ k, k ≠ 103 → moveN ρ q i r j c k = ρ k := fun k hk => va_up_o _ _ hk
  refine CR_sheet h (fun k hk => va_up_o _ _ (by unfold sc; omega)) (fun k _ _ c => hk k c) (fun s hs => ?_) (fun s hs => ?_)
  · have h4 := CR_sh h hs
    have hQ := CR_sh h hq
    rw [hk 101 (by decide), hk 102 (by decide), va_up_o _ _ (show sc s ≠ sc r + 1 by unfold sc; omega)]
    refine ⟨h4.1, h4.2.1, fun x hx => ?_⟩
    unfold moveN
    rw [va_up_s, cpy_at]
    by_cases e : s = r
    · subst e
      rw [va_up_s, cpy_at]
      by_cases e2 : j ≤ x ∧ x < j + c
      · rw [if_pos e2, if_pos (by omega), hQ.2.2 _ (by omega)]
        congr 1
        omega
      · rw [if_neg e2, if_neg (by omega)]; exact h4.2.2 x hx
    · rw [va_up_o _ _ (show sc s + 1 ≠ sc r + 1 by unfold sc; omega), if_neg (by omega)]; exact h4.2.2 x hx
  · rw [hk 102 (by decide)]; exact h.2.2.2.2.2.2.2.1 s hs
theorem has_nat {N : Nat} {i n : Int32} (hN : N ≤ 24) (h : hasC (nI N) i n) : ∃ a c, i = nI a ∧ n = nI c ∧ a + c ≤ N := by
  obtain ⟨h1, h2, h3, h4⟩ := h
  have hN1 : nI N ≤ 24 := nI_le (b := 24) (by omega) (by decide)
  have hN0 := nI_pos' (n := N) (by omega)
  obtain ⟨a, ha, e1⟩ := in2_nI (x := i) (n := 25) (by decide) ⟨h1, by show i < 25; grind⟩
  obtain ⟨c, hc, e2⟩ := in2_nI (x := n) (n := 25) (by decide) ⟨h2, by show n < 25; grind⟩
  refine ⟨a, c, e1, e2, ?_⟩
  rcases Nat.lt_or_ge N (a + c) with h9 | h9
  · have h8 : nI N < nI (a + c) := nI_lt h9 (by omega)
    rw [← nI_add, ← e1, ← e2] at h8
    grind
  · exact h9
theorem VW_cast {G : fGm} {I : fMI} {Q : Option Value → fSt → fLt → Prop} {d : Nat} {σ : fSt} {τ : fLt} {pc k1 k2 : Nat} {ls : List (Nat × Value)} {st : List Value} {a b c : Int32} {a1 b1 c1 : Nat} (ha : a = nI a1) (hb : b = nI b1) (hc : c = nI c1)
    (kk : VW G I Q d σ τ pc ls (.int (nI c1) :: .int (nI b1) :: .ref k2 :: .int (nI a1) :: .ref k1 :: st)) : VW G I Q d σ τ pc ls (.int c :: .int b :: .ref k2 :: .int a :: .ref k1 :: st) := by
  rw [ha, hb, hc]
  exact kk
set_option maxRecDepth 100000 in
set_option maxHeartbeats 8000000 in
theorem m_X9_move {G : fGm} {σ : fSt} {τ : fLt} {ρ : fSt} (hC : CR σ ρ) {s i o j n : Int32} : MS G iX9_move 2 [.ref 0, .int s, .int i, .int o, .int j, .int n] σ τ (rC τ σ (moveS ρ s i o j n)) := by
  refine ms_of (by decide +kernel) (Nat.le_of_ble_eq_true rfl) ?_
  show VW _ _ _ _ _ _ 0 [(0, _), (1, _), (2, _), (3, _), (4, _), (5, _)] []
  by_cases hs : 0 ≤ s ∧ s ≤ 3 <;> by_cases ho : 0 ≤ o ∧ o ≤ 3
  · skip
    obtain ⟨q, hq, hqx⟩ : ∃ q, q < 4 ∧ s = nI q := in2_nI (by decide) ⟨hs.1, by show s < 4; have := hs.2; grind⟩
    have hqc : s.toNatClampNeg = q := by rw [hqx]; exact nI_clamp (by omega)
    obtain ⟨r, hr, hrx⟩ : ∃ q, q < 4 ∧ o = nI q := in2_nI (by decide) ⟨ho.1, by show o < 4; have := ho.2; grind⟩
    have hrc : o.toNatClampNeg = r := by rw [hrx]; exact nI_clamp (by omega)
    have hSq := CR_sh hC hq
    have hSr := CR_sh hC hr
    obtain ⟨N, hN8, hN⟩ := sz_nI hC.2.2.2.2.2 hq
    obtain ⟨M, hM8, hM⟩ := sz_nI hC.2.2.2.2.2 hr
    refine v_aload_n (I := iX9_move) dX9_move_0 rfl ?_
    refine v_iload_n (I := iX9_move) dX9_move_1 rfl ?_
    refine v_callVr (I := iX9_move) (I' := iX9_sheetAt) lk_X9_258 c_X9_sheetAt dX9_move_2 (m_X9_sheetAt hqx hq) rfl rfl (by decide) (ae_0 _ _) rfl (by decide) (by decide) (Nat.le_of_ble_eq_true rfl) ?_
    refine v_astore (I := iX9_move) (ls1 := [(6, _), (0, _), (1, _), (2, _), (3, _), (4, _), (5, _)]) dX9_move_5 (by decide) rfl ?_
    refine v_aload_n (I := iX9_move) dX9_move_7 rfl ?_
    refine v_iload_n (I := iX9_move) dX9_move_8 rfl ?_
    refine v_callVr (I := iX9_move) (I' := iX9_sheetAt) lk_X9_258 c_X9_sheetAt dX9_move_9 (m_X9_sheetAt hrx hr) rfl rfl (by decide) (ae_0 _ _) rfl (by decide) (by decide) (Nat.le_of_ble_eq_true rfl) ?_
    refine v_astore (I := iX9_move) (ls1 := [(7, _), (6, _), (0, _), (1, _), (2, _), (3, _), (4, _), (5, _)]) dX9_move_12 (by decide) rfl ?_
    refine v_aload (I := iX9_move) dX9_move_14 rfl ?_
    refine v_ifnull (I := iX9_move) dX9_move_16 ?_
    refine v_aload (I := iX9_move) dX9_move_19 rfl ?_
    refine v_ifnonnull (I := iX9_move) (tgt := 30) dX9_move_21 (by decide) ?_
    refine v_aload (I := iX9_move) dX9_move_30 rfl ?_
    refine v_get (I := iX9_move) g_X9_266 dX9_move_32 (sc_lt hq) (ae_s0 hq _ _) rfl ?_
    rw [hSq.1]
    refine v_if_eq (I := iX9_move) (tgt := 46) dX9_move_35 (by decide) (fun c35 => ?_) (fun c35 => ?_)
    · refine v_aload_n (I := iX9_move) dX9_move_46 rfl ?_
      refine v_iconst (I := iX9_move) (v := 2) dX9_move_47 (by decide) ?_
      refine v_callVi (I := iX9_move) (I' := iX9_refused) lk_X9_62 c_X9_refused dX9_move_48 (m_X9_refused (e := 2) (by decide) (by decide) (by decide)) rfl rfl (by decide) (ae_0 _ _) rfl (by decide) (by decide) (Nat.le_of_ble_eq_true rfl) ?_
      exact v_iret (I := iX9_move) rfl dX9_move_51 (by unfold moveS; (first | (rw [if_neg (fun h9 => h9 ⟨hs, ho⟩), hqc, hrc, if_pos (Or.inl c35)]) | (rw [if_neg (fun h9 => h9 ⟨hs, ho⟩), hqc, hrc, if_pos (Or.inr c43)])); exact ⟨rfl, rfl, CR_err hC (by decide) (by decide), FC.up (by decide)⟩)
    · refine v_aload (I := iX9_move) dX9_move_38 rfl ?_
      refine v_get (I := iX9_move) g_X9_266 dX9_move_40 (sc_lt hr) (ae_s0 hr _ _) rfl ?_
      rw [hSr.1]
      refine v_if_ne (I := iX9_move) (tgt := 52) dX9_move_43 (by decide) (fun c43 => ?_) (fun c43 => ?_)
      · refine v_aload (I := iX9_move) dX9_move_52 rfl ?_
        refine v_get (I := iX9_move) g_X9_266 dX9_move_54 (sc_lt hq) (ae_s0 hq _ _) rfl ?_
        rw [hSq.1]
        refine v_aload (I := iX9_move) dX9_move_57 rfl ?_
        refine v_get (I := iX9_move) g_X9_266 dX9_move_59 (sc_lt hr) (ae_s0 hr _ _) rfl ?_
        rw [hSr.1]
        refine v_icmp_eq (I := iX9_move) (tgt := 71) dX9_move_62 (by decide) (fun c62 => ?_) (fun c62 => ?_)
        · refine v_aload (I := iX9_move) dX9_move_71 rfl ?_
          refine v_iload_n (I := iX9_move) dX9_move_73 rfl ?_
          refine v_iload (I := iX9_move) dX9_move_74 rfl ?_
          refine v_callVi (I := iX9_move) (I' := iX5_has) lk_X9_274 c_X5_has dX9_move_76 (m_X5_has hq) rfl rfl (sc_lt hq) (ae_s0 hq _ _) rfl (by decide) (by decide) (Nat.le_of_ble_eq_true rfl) ?_
          rw [hSq.2.1 c35, hN]
          refine v_if_eqB (I := iX9_move) (tgt := 94) dX9_move_79 (by decide) (fun c79 => ?_) (fun c79 => ?_)
          · refine v_aload_n (I := iX9_move) dX9_move_94 rfl ?_
            refine v_iconst (I := iX9_move) (v := 1) dX9_move_95 (by decide) ?_
            refine v_callVi (I := iX9_move) (I' := iX9_refused) lk_X9_62 c_X9_refused dX9_move_96 (m_X9_refused (e := 1) (by decide) (by decide) (by decide)) rfl rfl (by decide) (ae_0 _ _) rfl (by decide) (by decide) (Nat.le_of_ble_eq_true rfl) ?_
            exact v_iret (I := iX9_move) rfl dX9_move_99 (by unfold moveS; rw [if_neg (fun h9 => h9 ⟨hs, ho⟩), hqc, hrc, if_neg (by grind), if_neg (by grind), hN, hM, if_neg (by first | exact fun h9 => c79 h9.1 | exact fun h9 => c91 h9.2)]; exact ⟨rfl, rfl, CR_err hC (by decide) (by decide), FC.up (by decide)⟩)
          · refine v_aload (I := iX9_move) dX9_move_82 rfl ?_
            refine v_iload (I := iX9_move) dX9_move_84 rfl ?_
            refine v_iload (I := iX9_move) dX9_move_86 rfl ?_
            refine v_callVi (I := iX9_move) (I' := iX5_has) lk_X9_274 c_X5_has dX9_move_88 (m_X5_has hr) rfl rfl (sc_lt hr) (ae_s0 hr _ _) rfl (by decide) (by decide) (Nat.le_of_ble_eq_true rfl) ?_
            rw [hSr.2.1 c43, hM]
            refine v_if_neB (I := iX9_move) (tgt := 100) dX9_move_91 (by decide) (fun c91 => ?_) (fun c91 => ?_)
            · obtain ⟨i1, c1, hi1, hn1, hsp⟩ := has_nat hN8 c79
              obtain ⟨j1, c2, hj1, hn2, hdp⟩ := has_nat hM8 c91
              have hcc : c2 = c1 := by
                have h1 : c1 = n.toNatClampNeg := by rw [hn1]; exact (nI_clamp (by omega)).symm
                have h2 : c2 = n.toNatClampNeg := by rw [hn2]; exact (nI_clamp (by omega)).symm
                omega
              subst hcc
              have hic : i.toNatClampNeg = i1 := by rw [hi1]; exact nI_clamp (by omega)
              have hjc : j.toNatClampNeg = j1 := by rw [hj1]; exact nI_clamp (by omega)
              have hnc : n.toNatClampNeg = c2 := by rw [hn1]; exact nI_clamp (by omega)
              have hH1 : hasC (nI N) i n := c79
              have hH2 : hasC (nI M) j n := c91
              refine v_aload (I := iX9_move) dX9_move_100 rfl ?_
              refine v_get (I := iX9_move) g_X9_270 dX9_move_102 (sc_lt hq) (ae_s0 hq _ _) rfl ?_
              refine v_iload_n (I := iX9_move) dX9_move_105 rfl ?_
              refine v_aload (I := iX9_move) dX9_move_106 rfl ?_
              refine v_get (I := iX9_move) g_X9_270 dX9_move_108 (sc_lt hr) (ae_s0 hr _ _) rfl ?_
              refine v_iload (I := iX9_move) dX9_move_111 rfl ?_
              refine v_iload (I := iX9_move) dX9_move_113 rfl ?_
              refine VW_cast (a := i) (b := j) (c := n) hi1 hj1 hn1 ?_
              refine v_copyi (I := iX9_move) lm_X9_277 dX9_move_115 (sc1_lt hq) (sc1_lt hr) (ae_s1 hq) (ae_s1 hr) (by decide) (by omega) (by omega) (by decide) (Nat.le_of_ble_eq_true rfl) ?_
              refine v_iload (I := iX9_move) dX9_move_118 rfl ?_
              exact v_iret (I := iX9_move) rfl dX9_move_120 (by unfold moveS; rw [if_neg (fun h9 => h9 ⟨hs, ho⟩), hqc, hrc, if_neg (by grind), if_neg (by grind), hN, hM, if_pos ⟨hH1, hH2⟩, hic, hjc, hnc]; exact ⟨rfl, rfl, CR_move hC hq hr (by omega) (by omega), fun k hk => va_up_o _ _ (by unfold sc; omega)⟩)
            · refine v_aload_n (I := iX9_move) dX9_move_94 rfl ?_
              refine v_iconst (I := iX9_move) (v := 1) dX9_move_95 (by decide) ?_
              refine v_callVi (I := iX9_move) (I' := iX9_refused) lk_X9_62 c_X9_refused dX9_move_96 (m_X9_refused (e := 1) (by decide) (by decide) (by decide)) rfl rfl (by decide) (ae_0 _ _) rfl (by decide) (by decide) (Nat.le_of_ble_eq_true rfl) ?_
              exact v_iret (I := iX9_move) rfl dX9_move_99 (by unfold moveS; rw [if_neg (fun h9 => h9 ⟨hs, ho⟩), hqc, hrc, if_neg (by grind), if_neg (by grind), hN, hM, if_neg (by first | exact fun h9 => c79 h9.1 | exact fun h9 => c91 h9.2)]; exact ⟨rfl, rfl, CR_err hC (by decide) (by decide), FC.up (by decide)⟩)
        · refine v_aload_n (I := iX9_move) dX9_move_65 rfl ?_
          refine v_iconst (I := iX9_move) (v := 5) dX9_move_66 (by decide) ?_
          refine v_callVi (I := iX9_move) (I' := iX9_refused) lk_X9_62 c_X9_refused dX9_move_67 (m_X9_refused (e := 5) (by decide) (by decide) (by decide)) rfl rfl (by decide) (ae_0 _ _) rfl (by decide) (by decide) (Nat.le_of_ble_eq_true rfl) ?_
          exact v_iret (I := iX9_move) rfl dX9_move_70 (by unfold moveS; rw [if_neg (fun h9 => h9 ⟨hs, ho⟩), hqc, hrc, if_neg (by grind), if_pos c62]; exact ⟨rfl, rfl, CR_err hC (by decide) (by decide), FC.up (by decide)⟩)
      · refine v_aload_n (I := iX9_move) dX9_move_46 rfl ?_
        refine v_iconst (I := iX9_move) (v := 2) dX9_move_47 (by decide) ?_
        refine v_callVi (I := iX9_move) (I' := iX9_refused) lk_X9_62 c_X9_refused dX9_move_48 (m_X9_refused (e := 2) (by decide) (by decide) (by decide)) rfl rfl (by decide) (ae_0 _ _) rfl (by decide) (by decide) (Nat.le_of_ble_eq_true rfl) ?_
        exact v_iret (I := iX9_move) rfl dX9_move_51 (by unfold moveS; (first | (rw [if_neg (fun h9 => h9 ⟨hs, ho⟩), hqc, hrc, if_pos (Or.inl c35)]) | (rw [if_neg (fun h9 => h9 ⟨hs, ho⟩), hqc, hrc, if_pos (Or.inr c43)])); exact ⟨rfl, rfl, CR_err hC (by decide) (by decide), FC.up (by decide)⟩)
  · skip
    obtain ⟨q, hq, hqx⟩ : ∃ q, q < 4 ∧ s = nI q := in2_nI (by decide) ⟨hs.1, by show s < 4; have := hs.2; grind⟩
    have hqc : s.toNatClampNeg = q := by rw [hqx]; exact nI_clamp (by omega)
    refine v_aload_n (I := iX9_move) dX9_move_0 rfl ?_
    refine v_iload_n (I := iX9_move) dX9_move_1 rfl ?_
    refine v_callVr (I := iX9_move) (I' := iX9_sheetAt) lk_X9_258 c_X9_sheetAt dX9_move_2 (m_X9_sheetAt hqx hq) rfl rfl (by decide) (ae_0 _ _) rfl (by decide) (by decide) (Nat.le_of_ble_eq_true rfl) ?_
    refine v_astore (I := iX9_move) (ls1 := [(6, _), (0, _), (1, _), (2, _), (3, _), (4, _), (5, _)]) dX9_move_5 (by decide) rfl ?_
    refine v_aload_n (I := iX9_move) dX9_move_7 rfl ?_
    refine v_iload_n (I := iX9_move) dX9_move_8 rfl ?_
    refine v_callVE (I := iX9_move) (I' := iX9_sheetAt) lk_X9_258 c_X9_sheetAt dX9_move_9 (m_X9_sheetAt0 ho) rfl rfl (by decide) (ae_0 _ _) rfl (by decide) (by decide) (Nat.le_of_ble_eq_true rfl) ?_
    refine v_astoreN (I := iX9_move) (ls1 := [(7, _), (6, _), (0, _), (1, _), (2, _), (3, _), (4, _), (5, _)]) dX9_move_12 (by decide) rfl ?_
    refine v_aload (I := iX9_move) dX9_move_14 rfl ?_
    refine v_ifnull (I := iX9_move) dX9_move_16 ?_
    refine v_aloadN (I := iX9_move) dX9_move_19 rfl ?_
    refine v_ifnonnullN (I := iX9_move) dX9_move_21 ?_
    refine v_aload_n (I := iX9_move) dX9_move_24 rfl ?_
    refine v_iconst (I := iX9_move) (v := 1) dX9_move_25 (by decide) ?_
    refine v_callVi (I := iX9_move) (I' := iX9_refused) lk_X9_62 c_X9_refused dX9_move_26 (m_X9_refused (e := 1) (by decide) (by decide) (by decide)) rfl rfl (by decide) (ae_0 _ _) rfl (by decide) (by decide) (Nat.le_of_ble_eq_true rfl) ?_
    exact v_iret (I := iX9_move) rfl dX9_move_29 (by unfold moveS; rw [if_pos (fun h9 => ho h9.2)]; exact ⟨rfl, rfl, CR_err hC (by decide) (by decide), FC.up (by decide)⟩)
  · skip
    obtain ⟨r, hr, hrx⟩ : ∃ q, q < 4 ∧ o = nI q := in2_nI (by decide) ⟨ho.1, by show o < 4; have := ho.2; grind⟩
    have hrc : o.toNatClampNeg = r := by rw [hrx]; exact nI_clamp (by omega)
    refine v_aload_n (I := iX9_move) dX9_move_0 rfl ?_
    refine v_iload_n (I := iX9_move) dX9_move_1 rfl ?_
    refine v_callVE (I := iX9_move) (I' := iX9_sheetAt) lk_X9_258 c_X9_sheetAt dX9_move_2 (m_X9_sheetAt0 hs) rfl rfl (by decide) (ae_0 _ _) rfl (by decide) (by decide) (Nat.le_of_ble_eq_true rfl) ?_
    refine v_astoreN (I := iX9_move) (ls1 := [(6, _), (0, _), (1, _), (2, _), (3, _), (4, _), (5, _)]) dX9_move_5 (by decide) rfl ?_
    refine v_aload_n (I := iX9_move) dX9_move_7 rfl ?_
    refine v_iload_n (I := iX9_move) dX9_move_8 rfl ?_
    refine v_callVr (I := iX9_move) (I' := iX9_sheetAt) lk_X9_258 c_X9_sheetAt dX9_move_9 (m_X9_sheetAt hrx hr) rfl rfl (by decide) (ae_0 _ _) rfl (by decide) (by decide) (Nat.le_of_ble_eq_true rfl) ?_
    refine v_astore (I := iX9_move) (ls1 := [(7, _), (6, _), (0, _), (1, _), (2, _), (3, _), (4, _), (5, _)]) dX9_move_12 (by decide) rfl ?_
    refine v_aloadN (I := iX9_move) dX9_move_14 rfl ?_
    refine v_ifnullN (I := iX9_move) (tgt := 24) dX9_move_16 (by decide) ?_
    refine v_aload_n (I := iX9_move) dX9_move_24 rfl ?_
    refine v_iconst (I := iX9_move) (v := 1) dX9_move_25 (by decide) ?_
    refine v_callVi (I := iX9_move) (I' := iX9_refused) lk_X9_62 c_X9_refused dX9_move_26 (m_X9_refused (e := 1) (by decide) (by decide) (by decide)) rfl rfl (by decide) (ae_0 _ _) rfl (by decide) (by decide) (Nat.le_of_ble_eq_true rfl) ?_
    exact v_iret (I := iX9_move) rfl dX9_move_29 (by unfold moveS; rw [if_pos (fun h9 => hs h9.1)]; exact ⟨rfl, rfl, CR_err hC (by decide) (by decide), FC.up (by decide)⟩)
  · skip
    refine v_aload_n (I := iX9_move) dX9_move_0 rfl ?_
    refine v_iload_n (I := iX9_move) dX9_move_1 rfl ?_
    refine v_callVE (I := iX9_move) (I' := iX9_sheetAt) lk_X9_258 c_X9_sheetAt dX9_move_2 (m_X9_sheetAt0 hs) rfl rfl (by decide) (ae_0 _ _) rfl (by decide) (by decide) (Nat.le_of_ble_eq_true rfl) ?_
    refine v_astoreN (I := iX9_move) (ls1 := [(6, _), (0, _), (1, _), (2, _), (3, _), (4, _), (5, _)]) dX9_move_5 (by decide) rfl ?_
    refine v_aload_n (I := iX9_move) dX9_move_7 rfl ?_
    refine v_iload_n (I := iX9_move) dX9_move_8 rfl ?_
    refine v_callVE (I := iX9_move) (I' := iX9_sheetAt) lk_X9_258 c_X9_sheetAt dX9_move_9 (m_X9_sheetAt0 ho) rfl rfl (by decide) (ae_0 _ _) rfl (by decide) (by decide) (Nat.le_of_ble_eq_true rfl) ?_
    refine v_astoreN (I := iX9_move) (ls1 := [(7, _), (6, _), (0, _), (1, _), (2, _), (3, _), (4, _), (5, _)]) dX9_move_12 (by decide) rfl ?_
    refine v_aloadN (I := iX9_move) dX9_move_14 rfl ?_
    refine v_ifnullN (I := iX9_move) (tgt := 24) dX9_move_16 (by decide) ?_
    refine v_aload_n (I := iX9_move) dX9_move_24 rfl ?_
    refine v_iconst (I := iX9_move) (v := 1) dX9_move_25 (by decide) ?_
    refine v_callVi (I := iX9_move) (I' := iX9_refused) lk_X9_62 c_X9_refused dX9_move_26 (m_X9_refused (e := 1) (by decide) (by decide) (by decide)) rfl rfl (by decide) (ae_0 _ _) rfl (by decide) (by decide) (Nat.le_of_ble_eq_true rfl) ?_
    exact v_iret (I := iX9_move) rfl dX9_move_29 (by unfold moveS; rw [if_pos (fun h9 => hs h9.1)]; exact ⟨rfl, rfl, CR_err hC (by decide) (by decide), FC.up (by decide)⟩)
