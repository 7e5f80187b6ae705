theorem cmp_z {x y : Int64} : lg_cmp x y = 0 ↔ x = y := by
  unfold lg_cmp
  by_cases h : x > y
  · rw [if_pos h]
    exact ⟨fun h9 => absurd h9 (by decide), fun h9 => absurd h (by rw [h9]; exact Int64.lt_irrefl)⟩
  · rw [if_neg h]
    by_cases h2 : x = y
    · rw [if_pos h2]
      exact ⟨fun _ => h2, fun _ => rfl⟩
    · rw [if_neg h2]
      exact ⟨fun h9 => absurd h9 (by decide), fun h9 => absurd h9 h2⟩
theorem lN_z {r : Nat} (h : r < 2 ^ 34) : lg_cmp (lN r) 0 = 0 ↔ r = 0 := by
  have h0 : r < 2 ^ 63 := Nat.lt_trans h (by decide)
  have e := pk_lEQ (a := r) (b := 0) h0 (by decide)
  exact cmp_z.trans e
section VWL
variable {G : fGm} {I : fMI} {Q : Option Value → fSt → fLt → Prop} {d : Nat} {σ : fSt} {τ : fLt} {pc : Nat} {ls : List (Nat × Value)} {st : List Value}
/-- a whole row of longs is copied into another -/
theorem v_copyL {k1 k2 n idx : Nat} (hw : Cond.methodLink I.1.cls idx arraycopyName ∈ W0) (hd : decode I.2.1 pc = .ok (.invokestatic idx, 3)) (hk1 : k1 < 105) (hk2 : k2 < 105) (ha1 : ∀ f g, aent k1 f g = aJ n g) (ha2 : ∀ f g, aent k2 f g = aJ n g) (hn : n < 2 ^ 31) (h1 : 1 ≤ d) (hs : (st.map fun v => v.category).sum ≤ 8)
    (kk : VW G I Q d σ (va_up τ k2 (τ k1)) (pc + 3) ls st) : VW G I Q d σ τ pc ls (.int (nI n) :: .int 0 :: .ref k2 :: .int 0 :: .ref k1 :: st) := by
  have kk2 : VW G I Q d σ (va_up τ k2 (va_cpy (τ k1) (τ k2) 0 0 n)) (pc + 3) ls st := by
    refine v_extJ ha2 (fun j hj => ?_) (fun k hk => ?_) kk
    · rw [va_up_s, va_up_s]
      show (if 0 ≤ j ∧ j < 0 + n then τ k1 (0 + (j - 0)) else τ k2 j) = τ k1 j
      rw [if_pos ⟨Nat.zero_le _, by omega⟩]
      congr 1
      omega
    · rw [va_up_o _ _ hk, va_up_o _ _ hk]
  intro p e s m args below meth c H locs L C hP hS hL
  obtain ⟨hx, hb, hr, hml, hts, hown, hlocks, hK, hRo, hI⟩ := id C
  have hnf : nativeFrameWords "java/lang/System" "arraycopy" 5 + 11 ≤ 50 := by decide +kernel
  have e0 : (0 : Int32).toNatClampNeg = 0 := rfl
  have en : (nI n).toNatClampNeg = n := nI_clamp hn
  refine va_copyl hx hb (hml.trans hL.1.symm) hown (hts _ hw) (hts _ wm_arraycopy.1) (hts _ wm_arraycopy.2.1) (hts _ wm_arraycopy.2.2) hK hP (pic_D hI σ τ) hS k1 k2 1 1 (ty := .long) (pic_at hk1 (ha1 _ _)) (pic_at hk2 (ha2 _ _)) (gT1 G) (gT1 G) rfl (sp := 0) (dp := 0) (n := nI n) (by decide) (by decide) (nI_pos hn) (by rw [e0, en]; omega) (by rw [e0, en]; omega) (fun i hi => rfl) h1 (by rw [cV_cats]; show _ ≤ 64 * d; omega) hd (fun H1 locs1 hP1 hD1 hS1 => ?_)
  refine kk2 _ _ _ _ _ _ _ _ _ _ _ C ?_ hS1 hL
  rw [e0, en] at hP1
  rw [pic_set (σ' := σ) (τ' := va_up τ k2 (va_cpy (τ k1) (τ k2) 0 0 n)) hk2 ?_ ?_] at hP1
  · exact hP1
  · show _ = cE G (aent k2 (σ k2) (va_up τ k2 _ k2))
    rw [va_up_s, ha2]
    rfl
  · intro i hi
    exact ⟨rfl, va_up_o _ _ hi⟩
end VWL
theorem lF_up' {τ : fLt} {k j r : Nat} {T : Nat → Nat} : up2L (va_up τ k (lF T)) k j (va_up τ k (lF T) k j + lN r) = va_up τ k (lF (va_up T j (T j + r))) := by
  rw [show va_up τ k (lF T) k j = lN (T j) by rw [va_up_s]; rfl]
  exact lF_up
set_option maxRecDepth 100000 in
set_option maxHeartbeats 8000000 in
theorem m_X4_clear {G : fGm} {σ : fSt} {τ : fLt} {c : Nat} (hk : c < 105) (ha : ∀ f g, aent c f g = aJ 199 g) : MS G iX4_clear 0 [.ref c] σ τ (rT none σ (va_up τ c (lF fun _ => 0))) := by
  refine ms_of (by decide +kernel) (Nat.le_of_ble_eq_true rfl) ?_
  show VW _ _ _ _ _ _ 0 [(0, _)] []
  have key : ∀ (m i : Nat) {τ9 : fLt} {y : Int32}, i + m = 199 → (∀ k, k ≠ c → τ9 k = τ k) → (∀ j, j < i → τ9 c j = 0) → y = nI i → VW G iX4_clear (rT none σ (va_up τ c (lF fun _ => 0))) 0 σ τ9 2 [(1, .int y), (0, .ref c)] [] := by
    intro m
    induction m with
    | zero =>
      intro i τ9 y hin hfr hz hy
      have hin0 : i = 199 := hin
      subst hy
      show VW _ _ _ _ _ _ 2 [(1, _), (0, _)] []
      refine v_iload_n (I := iX4_clear) dX4_clear_2 rfl ?_
      refine v_aload_n (I := iX4_clear) dX4_clear_3 rfl ?_
      refine v_alenJ (I := iX4_clear) dX4_clear_4 hk (ha _ _) ?_
      refine v_icmp_ge (I := iX4_clear) (tgt := 18) dX4_clear_5 (by decide) (fun c5 => ?_) (fun c5 => ?_)
      · refine v_extJ (I := iX4_clear) (τ2 := va_up τ c (lF fun _ => 0)) (k0 := c) (n := 199) ha (fun j hj => by rw [va_up_s]; exact hz j (by omega)) (fun k hk => by rw [va_up_o _ _ hk]; exact hfr k hk) ?_
        exact v_vret (I := iX4_clear) rfl dX4_clear_18 ⟨by first | rfl | (simp only [*]; done) | (simp [*]; done), rfl, rfl⟩
      · exact absurd (by rw [hin0]; exact Int32.le_refl _) c5
    | succ m ih =>
      intro i τ9 y hin hfr hz hy
      subst hy
      show VW _ _ _ _ _ _ 2 [(1, _), (0, _)] []
      refine v_iload_n (I := iX4_clear) dX4_clear_2 rfl ?_
      refine v_aload_n (I := iX4_clear) dX4_clear_3 rfl ?_
      refine v_alenJ (I := iX4_clear) dX4_clear_4 hk (ha _ _) ?_
      refine v_icmp_ge (I := iX4_clear) (tgt := 18) dX4_clear_5 (by decide) (fun c5 => ?_) (fun c5 => ?_)
      · exact absurd c5 (by exact nI_ge (by omega) (by omega))
      · refine v_aload_n (I := iX4_clear) dX4_clear_8 rfl ?_
        refine v_iload_n (I := iX4_clear) dX4_clear_9 rfl ?_
        refine v_lconst (I := iX4_clear) (v := 0) dX4_clear_10 (by decide) ?_
        refine v_lastN (I := iX4_clear) (j := i) rfl (by omega) (by decide) dX4_clear_11 hk (fun _ => ha _ _) ?_
        refine v_iinc (I := iX4_clear) (ls1 := [(1, _), (0, _)]) dX4_clear_12 rfl rfl (by decide) rfl ?_
        refine v_goto (I := iX4_clear) (tgt := 2) dX4_clear_15 (by decide) ?_
        exact ih (i + 1) (by omega) (fun k hk => (va_up_o _ _ hk).trans (hfr k hk)) (fun j hj => by
          unfold up2L
          rw [va_up_s]
          by_cases e : j = i
          · subst e; rw [va_up_s]
          · rw [va_up_o _ _ e]; exact hz j (by omega)) (nI_1 i)
  refine v_iconst (I := iX4_clear) (v := 0) dX4_clear_0 (by decide) ?_
  refine v_istore_n (I := iX4_clear) (ls1 := [(1, _), (0, _)]) dX4_clear_1 (by decide) rfl ?_
  exact key 199 0 rfl (fun _ _ => rfl) (fun j hj => by omega) rfl
set_option maxRecDepth 100000 in
set_option maxHeartbeats 4000000 in
theorem m_X4_bring {G : fGm} {σ : fSt} {τ : fLt} {c j : Nat} {l : Int32} {r : Int64} (hk : c < 105) (ha : ∀ f g, aent c f g = aJ 199 g) (hl : l + 99 = nI j) (hj : j < 199) : MS G iX4_bring 0 [.ref c, .int l, .long r] σ τ (rT none σ (up2L τ c j (τ c j + r))) := by
  refine ms_of (by decide +kernel) (Nat.le_of_ble_eq_true rfl) ?_
  show VW _ _ _ _ _ _ 0 [(0, _), (1, _), (2, _)] []
  refine v_iload_n (I := iX4_bring) dX4_bring_0 rfl ?_
  refine v_bipush (I := iX4_bring) (v := 99) dX4_bring_1 (by decide) ?_
  refine v_iadd (I := iX4_bring) dX4_bring_3 ?_
  rw [hl]
  refine v_istore (I := iX4_bring) (ls1 := [(4, _), (0, _), (1, _), (2, _)]) dX4_bring_4 (by decide) rfl ?_
  refine v_iload (I := iX4_bring) dX4_bring_6 rfl ?_
  refine v_if_lt (I := iX4_bring) (tgt := 26) dX4_bring_8 (by decide) (fun c8 => ?_) (fun c8 => ?_)
  · exact absurd c8 (nI_pos (by omega))
  · refine v_iload (I := iX4_bring) dX4_bring_11 rfl ?_
    refine v_aload_n (I := iX4_bring) dX4_bring_13 rfl ?_
    refine v_alenJ (I := iX4_bring) dX4_bring_14 hk (ha _ _) ?_
    refine v_icmp_ge (I := iX4_bring) (tgt := 26) dX4_bring_15 (by decide) (fun c15 => ?_) (fun c15 => ?_)
    · exact absurd c15 (by exact nI_ge (by omega) (by omega))
    · refine v_aload_n (I := iX4_bring) dX4_bring_18 rfl ?_
      refine v_iload (I := iX4_bring) dX4_bring_19 rfl ?_
      refine v_dup2_11 (I := iX4_bring) dX4_bring_21 rfl rfl ?_
      refine v_laldN (I := iX4_bring) (j := j) rfl hj (by decide) dX4_bring_22 hk (ha _ _) ?_
      refine v_lload_n (I := iX4_bring) dX4_bring_23 rfl ?_
      refine v_ladd (I := iX4_bring) dX4_bring_24 ?_
      refine v_lastN (I := iX4_bring) (j := j) rfl hj (by decide) dX4_bring_25 hk (fun _ => ha _ _) ?_
      exact v_vret (I := iX4_bring) rfl dX4_bring_26 ⟨by first | rfl | (simp only [*]; done) | (simp [*]; done), rfl, rfl⟩
set_option maxRecDepth 100000 in
set_option maxHeartbeats 8000000 in
theorem m_X4_spread {G : fGm} {σ : fSt} {τ : fLt} {g : gS} {i s : Nat} {st : Bool} {R : Nat → Nat} (hV : V 2 σ g) (hB : B g) (hs : s ≤ 9) (h0 : σ (wc 2 20) 0 = nI s) (h3 : σ (wc 2 20) 3 = gCatch g i) (hR : ∀ j, j < 199 → τ 73 j = lN (R j)) (hRb : ∀ j, j < 199 → R j < 2 ^ 34) : MS G iX4_spread 3 [.ref 72, .ref (wc 2 0), .ref (wc 2 20), .int (if st = true then 1 else 0)] σ τ (rT (some (.long (lN (wAll (gSlope g) (gBy g i) st s R 199).2))) σ (va_up τ 74 (lF (wAll (gSlope g) (gBy g i) st s R 199).1))) := by
  refine ms_of (by decide +kernel) (Nat.le_of_ble_eq_true rfl) ?_
  show VW _ _ _ _ _ _ 0 [(0, _), (1, _), (2, _), (3, _)] []
  have key : ∀ (m k : Nat) {y : Int32} {x : Int64}, k + m = 199 → y = nI k → x = lN (wAll (gSlope g) (gBy g i) st s R k).2 → VW G iX4_spread (rT (some (.long (lN (wAll (gSlope g) (gBy g i) st s R 199).2))) σ (va_up τ 74 (lF (wAll (gSlope g) (gBy g i) st s R 199).1))) 3 σ (va_up τ 74 (lF (wAll (gSlope g) (gBy g i) st s R k).1)) 13 [(6, .int y), (4, .long x), (0, .ref 72), (1, .ref (wc 2 0)), (2, .ref (wc 2 20)), (3, .int (if st = true then 1 else 0))] [] := by
    intro m
    induction m with
    | zero =>
      intro k y x hin hy hx
      have hin0 : k = 199 := hin
      subst hy hx
      show VW _ _ _ _ _ _ 13 [(6, _), (4, _), (0, _), (1, _), (2, _), (3, _)] []
      refine v_iload (I := iX4_spread) dX4_spread_13 rfl ?_
      refine v_aload_n (I := iX4_spread) dX4_spread_15 rfl ?_
      refine v_get (I := iX4_spread) g_X4_18 dX4_spread_16 (by decide) (ae_72 _ _) rfl ?_
      refine v_alenJ (I := iX4_spread) dX4_spread_19 (by decide) (ae_73 _ _) ?_
      refine v_icmp_ge (I := iX4_spread) (tgt := 136) dX4_spread_20 (by decide) (fun c20 => ?_) (fun c20 => ?_)
      · refine v_lload (I := iX4_spread) dX4_spread_136 rfl ?_
        subst hin0
        exact v_lret (I := iX4_spread) rfl dX4_spread_138 ⟨by first | rfl | (simp only [*]; done) | (simp [*]; done), rfl, rfl⟩
      · exact absurd (by rw [hin0]; exact Int32.le_refl _) c20
    | succ m ih =>
      intro k y x hin hy hx
      subst hy hx
      show VW _ _ _ _ _ _ 13 [(6, _), (4, _), (0, _), (1, _), (2, _), (3, _)] []
      refine v_iload (I := iX4_spread) dX4_spread_13 rfl ?_
      refine v_aload_n (I := iX4_spread) dX4_spread_15 rfl ?_
      refine v_get (I := iX4_spread) g_X4_18 dX4_spread_16 (by decide) (ae_72 _ _) rfl ?_
      refine v_alenJ (I := iX4_spread) dX4_spread_19 (by decide) (ae_73 _ _) ?_
      refine v_icmp_ge (I := iX4_spread) (tgt := 136) dX4_spread_20 (by decide) (fun c20 => ?_) (fun c20 => ?_)
      · exact absurd c20 (by exact nI_ge (by omega) (by omega))
      · refine v_aload_n (I := iX4_spread) dX4_spread_23 rfl ?_
        refine v_get (I := iX4_spread) g_X4_18 dX4_spread_24 (by decide) (ae_72 _ _) rfl ?_
        refine v_iload (I := iX4_spread) dX4_spread_27 rfl ?_
        refine v_laldN (I := iX4_spread) (j := k) rfl (by omega) (by decide) dX4_spread_29 (by decide) (ae_73 _ _) ?_
        rw [show va_up τ 74 (lF (wAll (gSlope g) (gBy g i) st s R k).1) 73 k = lN (R k) by rw [va_up_o _ _ (by decide)]; exact hR k (by omega)]
        refine v_lconst (I := iX4_spread) (v := 0) dX4_spread_30 (by decide) ?_
        refine v_lcmp (I := iX4_spread) dX4_spread_31 ?_
        refine v_if_ne (I := iX4_spread) (tgt := 38) dX4_spread_32 (by decide) (fun c32 => ?_) (fun c32 => ?_)
        · have hr0 : ¬ R k = 0 := fun h9 => c32 ((lN_z (hRb k (by omega))).mpr h9)
          have hw1 : wRow (gSlope g) (gBy g i) st s (R k) k (2 * s + 1) (wAll (gSlope g) (gBy g i) st s R k) = wAll (gSlope g) (gBy g i) st s R (k + 1) := by
            show _ = (if R k = 0 then _ else _)
            rw [if_neg hr0]
          have key2 : ∀ (m2 e : Nat) {dv : Int32} {x2 : Int64}, e + m2 = 2 * s + 1 → dv = nI e - nI s → x2 = lN (wRow (gSlope g) (gBy g i) st s (R k) k (e) (wAll (gSlope g) (gBy g i) st s R k)).2 → VW G iX4_spread (rT (some (.long (lN (wAll (gSlope g) (gBy g i) st s R 199).2))) σ (va_up τ 74 (lF (wAll (gSlope g) (gBy g i) st s R 199).1))) 3 σ (va_up τ 74 (lF (wRow (gSlope g) (gBy g i) st s (R k) k (e) (wAll (gSlope g) (gBy g i) st s R k)).1)) 45 [(7, .int dv), (6, .int (nI k)), (4, .long x2), (0, .ref 72), (1, .ref (wc 2 0)), (2, .ref (wc 2 20)), (3, .int (if st = true then 1 else 0))] [] := by
            intro m2
            induction m2 with
            | zero =>
              intro e dv x2 he hd hx
              have he0 : e = 2 * s + 1 := he
              subst hd hx he0
              show VW _ _ _ _ _ _ 45 [(7, _), (6, _), (4, _), (0, _), (1, _), (2, _), (3, _)] []
              refine v_iload (I := iX4_spread) dX4_spread_45 rfl ?_
              refine v_aload_n (I := iX4_spread) dX4_spread_47 rfl ?_
              refine v_get (I := iX4_spread) g_X4_47 dX4_spread_48 (by decide) (ae_w20 (by decide) _ _) rfl ?_
              rw [h0]
              refine v_icmp_gt (I := iX4_spread) (tgt := 130) dX4_spread_51 (by decide) (fun c51 => ?_) (fun c51 => ?_)
              · refine v_iinc (I := iX4_spread) (ls1 := [(6, _), (7, _), (4, _), (0, _), (1, _), (2, _), (3, _)]) dX4_spread_130 rfl rfl (by decide) rfl ?_
                refine v_goto (I := iX4_spread) (tgt := 13) dX4_spread_133 (by decide) ?_
                refine v_pick (I := iX4_spread) (ls1 := [(6, _), (4, _), (0, _), (1, _), (2, _), (3, _)]) [0, 2, 3, 4, 5, 6] rfl ?_
                rw [hw1]
                exact ih (k + 1) (by omega) (nI_1 k) rfl
              · exact absurd ((nd_le s (by omega) (2 * s + 1) (by omega)).mpr (by omega)) c51
            | succ m2 ih2 =>
              intro e dv x2 he hd hx
              subst hd hx
              show VW _ _ _ _ _ _ 45 [(7, _), (6, _), (4, _), (0, _), (1, _), (2, _), (3, _)] []
              refine v_iload (I := iX4_spread) dX4_spread_45 rfl ?_
              refine v_aload_n (I := iX4_spread) dX4_spread_47 rfl ?_
              refine v_get (I := iX4_spread) g_X4_47 dX4_spread_48 (by decide) (ae_w20 (by decide) _ _) rfl ?_
              rw [h0]
              refine v_icmp_gt (I := iX4_spread) (tgt := 130) dX4_spread_51 (by decide) (fun c51 => ?_) (fun c51 => ?_)
              · exact absurd ((nd_le s (by omega) e (by omega)).mp c51) (by omega)
              · refine v_aload_n (I := iX4_spread) dX4_spread_54 rfl ?_
                refine v_iload (I := iX4_spread) dX4_spread_55 rfl ?_
                refine v_bipush (I := iX4_spread) (v := 99) dX4_spread_57 (by decide) ?_
                refine v_isub (I := iX4_spread) dX4_spread_59 ?_
                refine v_iload (I := iX4_spread) dX4_spread_60 rfl ?_
                refine v_callVi (I := iX4_spread) (I' := iX8_leant) lk_X4_70 c_X8_leant dX4_spread_62 (m_X8_leant (by decide) hV hB) rfl rfl (by decide) (ae_w0 (by decide) _ _) rfl (by decide) (by decide) (Nat.le_of_ble_eq_true rfl) ?_
                rw [show nI k - 99 + (nI k - 99) / 5 + (nI e - nI s) + gSlope g = wLean (gSlope g) s k e from rfl]
                refine v_istore (I := iX4_spread) (ls1 := [(8, _), (7, _), (6, _), (4, _), (0, _), (1, _), (2, _), (3, _)]) dX4_spread_65 (by decide) rfl ?_
                refine v_iload (I := iX4_spread) dX4_spread_67 rfl ?_
                refine v_bipush (I := iX4_spread) (v := -99) dX4_spread_69 (by decide) ?_
                refine v_bipush (I := iX4_spread) (v := 99) dX4_spread_71 (by decide) ?_
                refine v_callSi (I := iX4_spread) (I' := iX9_within) lk_X4_74 c_X9_within dX4_spread_73 (m_X9_within) rfl rfl (by decide) (by decide) (Nat.le_of_ble_eq_true rfl) ?_
                refine v_if_neB (I := iX4_spread) (tgt := 94) dX4_spread_76 (by decide) (fun c76 => ?_) (fun c76 => ?_)
                · obtain ⟨j, hj, e1, e2, e3⟩ := wTo_ix (st := st) (gBy_in g i) c76
                  have hE : wRow (gSlope g) (gBy g i) st s (R k) k (e + 1) (wAll (gSlope g) (gBy g i) st s R k) = (va_up (wRow (gSlope g) (gBy g i) st s (R k) k (e) (wAll (gSlope g) (gBy g i) st s R k)).1 j ((wRow (gSlope g) (gBy g i) st s (R k) k (e) (wAll (gSlope g) (gBy g i) st s R k)).1 j + R k), (wRow (gSlope g) (gBy g i) st s (R k) k (e) (wAll (gSlope g) (gBy g i) st s R k)).2) := by
                    show wOne _ _ _ _ _ _ _ _ = _
                    unfold wOne
                    rw [if_pos c76, e2]
                  refine v_aload_n (I := iX4_spread) dX4_spread_94 rfl ?_
                  refine v_get (I := iX4_spread) g_X4_22 dX4_spread_95 (by decide) (ae_72 _ _) rfl ?_
                  refine v_iload_n (I := iX4_spread) dX4_spread_98 rfl ?_
                  refine v_if_eqB (I := iX4_spread) (tgt := 112) dX4_spread_99 (by decide) (fun c99 => ?_) (fun c99 => ?_)
                  · refine v_iload (I := iX4_spread) dX4_spread_112 rfl ?_
                    rw [show wLean (gSlope g) s k e = wTo st (gBy g i) (wLean (gSlope g) s k e) from (by unfold wTo; rw [if_neg c99])]
                    refine v_aload_n (I := iX4_spread) dX4_spread_114 rfl ?_
                    refine v_get (I := iX4_spread) g_X4_18 dX4_spread_115 (by decide) (ae_72 _ _) rfl ?_
                    refine v_iload (I := iX4_spread) dX4_spread_118 rfl ?_
                    refine v_laldN (I := iX4_spread) (j := k) rfl (by omega) (by decide) dX4_spread_120 (by decide) (ae_73 _ _) ?_
                    rw [show va_up τ 74 (lF (wRow (gSlope g) (gBy g i) st s (R k) k (e) (wAll (gSlope g) (gBy g i) st s R k)).1) 73 k = lN (R k) by rw [va_up_o _ _ (by decide)]; exact hR k (by omega)]
                    refine v_callSv (I := iX4_spread) (I' := iX4_bring) lk_X4_35 c_X4_bring dX4_spread_121 (m_X4_bring (c := 74) (j := j) (by decide) ae_74 e1 hj) rfl rfl (by decide) (by decide) (Nat.le_of_ble_eq_true rfl) ?_
                    rw [lF_up']
                    refine v_iinc (I := iX4_spread) (ls1 := [(7, _), (8, _), (6, _), (4, _), (0, _), (1, _), (2, _), (3, _)]) dX4_spread_124 rfl rfl (by decide) rfl ?_
                    refine v_goto (I := iX4_spread) (tgt := 45) dX4_spread_127 (by decide) ?_
                    refine v_pick (I := iX4_spread) (ls1 := [(7, _), (6, _), (4, _), (0, _), (1, _), (2, _), (3, _)]) [0, 2, 3, 4, 5, 6, 7] rfl ?_
                    have z9 := ih2 (e + 1) (dv := nI e - nI s + 1) (x2 := lN (wRow (gSlope g) (gBy g i) st s (R k) k (e + 1) (wAll (gSlope g) (gBy g i) st s R k)).2) (by omega) nd_1 rfl
                    rw [hE] at z9
                    exact z9
                  · refine v_aload_n (I := iX4_spread) dX4_spread_102 rfl ?_
                    refine v_iload (I := iX4_spread) dX4_spread_103 rfl ?_
                    refine v_aload_n (I := iX4_spread) dX4_spread_105 rfl ?_
                    refine v_callVi (I := iX4_spread) (I' := iX8_caught) lk_X4_78 c_X8_caught dX4_spread_106 (m_X8_caught (by decide) hV hB h3) rfl rfl (by decide) (ae_w0 (by decide) _ _) rfl (by decide) (by decide) (Nat.le_of_ble_eq_true rfl) ?_
                    rw [show gNearer (wLean (gSlope g) s k e) (if 0 < gCatch g i - 2 * gSlip g then gCatch g i - 2 * gSlip g else 0) = wTo st (gBy g i) (wLean (gSlope g) s k e) from (by unfold wTo; rw [if_pos c99]; rfl)]
                    refine v_goto (I := iX4_spread) (tgt := 114) dX4_spread_109 (by decide) ?_
                    refine v_aload_n (I := iX4_spread) dX4_spread_114 rfl ?_
                    refine v_get (I := iX4_spread) g_X4_18 dX4_spread_115 (by decide) (ae_72 _ _) rfl ?_
                    refine v_iload (I := iX4_spread) dX4_spread_118 rfl ?_
                    refine v_laldN (I := iX4_spread) (j := k) rfl (by omega) (by decide) dX4_spread_120 (by decide) (ae_73 _ _) ?_
                    rw [show va_up τ 74 (lF (wRow (gSlope g) (gBy g i) st s (R k) k (e) (wAll (gSlope g) (gBy g i) st s R k)).1) 73 k = lN (R k) by rw [va_up_o _ _ (by decide)]; exact hR k (by omega)]
                    refine v_callSv (I := iX4_spread) (I' := iX4_bring) lk_X4_35 c_X4_bring dX4_spread_121 (m_X4_bring (c := 74) (j := j) (by decide) ae_74 e1 hj) rfl rfl (by decide) (by decide) (Nat.le_of_ble_eq_true rfl) ?_
                    rw [lF_up']
                    refine v_iinc (I := iX4_spread) (ls1 := [(7, _), (8, _), (6, _), (4, _), (0, _), (1, _), (2, _), (3, _)]) dX4_spread_124 rfl rfl (by decide) rfl ?_
                    refine v_goto (I := iX4_spread) (tgt := 45) dX4_spread_127 (by decide) ?_
                    refine v_pick (I := iX4_spread) (ls1 := [(7, _), (6, _), (4, _), (0, _), (1, _), (2, _), (3, _)]) [0, 2, 3, 4, 5, 6, 7] rfl ?_
                    have z9 := ih2 (e + 1) (dv := nI e - nI s + 1) (x2 := lN (wRow (gSlope g) (gBy g i) st s (R k) k (e + 1) (wAll (gSlope g) (gBy g i) st s R k)).2) (by omega) nd_1 rfl
                    rw [hE] at z9
                    exact z9
                · have hE : wRow (gSlope g) (gBy g i) st s (R k) k (e + 1) (wAll (gSlope g) (gBy g i) st s R k) = ((wRow (gSlope g) (gBy g i) st s (R k) k (e) (wAll (gSlope g) (gBy g i) st s R k)).1, (wRow (gSlope g) (gBy g i) st s (R k) k (e) (wAll (gSlope g) (gBy g i) st s R k)).2 + R k) := by
                    show wOne _ _ _ _ _ _ _ _ = _
                    unfold wOne
                    rw [if_neg c76]
                  refine v_lload (I := iX4_spread) dX4_spread_79 rfl ?_
                  refine v_aload_n (I := iX4_spread) dX4_spread_81 rfl ?_
                  refine v_get (I := iX4_spread) g_X4_18 dX4_spread_82 (by decide) (ae_72 _ _) rfl ?_
                  refine v_iload (I := iX4_spread) dX4_spread_85 rfl ?_
                  refine v_laldN (I := iX4_spread) (j := k) rfl (by omega) (by decide) dX4_spread_87 (by decide) (ae_73 _ _) ?_
                  rw [show va_up τ 74 (lF (wRow (gSlope g) (gBy g i) st s (R k) k (e) (wAll (gSlope g) (gBy g i) st s R k)).1) 73 k = lN (R k) by rw [va_up_o _ _ (by decide)]; exact hR k (by omega)]
                  refine v_ladd (I := iX4_spread) dX4_spread_88 ?_
                  rw [lN_add]
                  refine v_lstore (I := iX4_spread) (ls1 := [(4, _), (8, _), (7, _), (6, _), (0, _), (1, _), (2, _), (3, _)]) dX4_spread_89 (by decide) rfl ?_
                  refine v_goto (I := iX4_spread) (tgt := 124) dX4_spread_91 (by decide) ?_
                  refine v_iinc (I := iX4_spread) (ls1 := [(7, _), (4, _), (8, _), (6, _), (0, _), (1, _), (2, _), (3, _)]) dX4_spread_124 rfl rfl (by decide) rfl ?_
                  refine v_goto (I := iX4_spread) (tgt := 45) dX4_spread_127 (by decide) ?_
                  refine v_pick (I := iX4_spread) (ls1 := [(7, _), (6, _), (4, _), (0, _), (1, _), (2, _), (3, _)]) [0, 3, 1, 4, 5, 6, 7] rfl ?_
                  have z9 := ih2 (e + 1) (dv := nI e - nI s + 1) (x2 := lN (wRow (gSlope g) (gBy g i) st s (R k) k (e + 1) (wAll (gSlope g) (gBy g i) st s R k)).2) (by omega) nd_1 rfl
                  rw [hE] at z9
                  exact z9
          refine v_aload_n (I := iX4_spread) dX4_spread_38 rfl ?_
          refine v_get (I := iX4_spread) g_X4_47 dX4_spread_39 (by decide) (ae_w20 (by decide) _ _) rfl ?_
          rw [h0]
          refine v_ineg (I := iX4_spread) dX4_spread_42 ?_
          refine v_istore (I := iX4_spread) (ls1 := [(7, _), (6, _), (4, _), (0, _), (1, _), (2, _), (3, _)]) dX4_spread_43 (by decide) rfl ?_
          exact key2 (2 * s + 1) 0 (by omega) (nd_0 s (by omega)) rfl
        · have hr0 : R k = 0 := (lN_z (hRb k (by omega))).mp c32
          have hw0 : wAll (gSlope g) (gBy g i) st s R (k + 1) = wAll (gSlope g) (gBy g i) st s R k := by
            show (if R k = 0 then _ else _) = _
            rw [if_pos hr0]
          refine v_goto (I := iX4_spread) (tgt := 130) dX4_spread_35 (by decide) ?_
          refine v_iinc (I := iX4_spread) (ls1 := [(6, _), (4, _), (0, _), (1, _), (2, _), (3, _)]) dX4_spread_130 rfl rfl (by decide) rfl ?_
          refine v_goto (I := iX4_spread) (tgt := 13) dX4_spread_133 (by decide) ?_
          refine v_pick (I := iX4_spread) (ls1 := [(6, _), (4, _), (0, _), (1, _), (2, _), (3, _)]) [0, 1, 2, 3, 4, 5] rfl ?_
          rw [← hw0]
          exact ih (k + 1) (by omega) (nI_1 k) (by rw [hw0])
  refine v_lconst (I := iX4_spread) (v := 0) dX4_spread_0 (by decide) ?_
  refine v_lstore (I := iX4_spread) (ls1 := [(4, _), (0, _), (1, _), (2, _), (3, _)]) dX4_spread_1 (by decide) rfl ?_
  refine v_aload_n (I := iX4_spread) dX4_spread_3 rfl ?_
  refine v_get (I := iX4_spread) g_X4_22 dX4_spread_4 (by decide) (ae_72 _ _) rfl ?_
  refine v_callSv (I := iX4_spread) (I' := iX4_clear) lk_X4_25 c_X4_clear dX4_spread_7 (m_X4_clear (c := 74) (by decide) ae_74) rfl rfl (by decide) (by decide) (Nat.le_of_ble_eq_true rfl) ?_
  refine v_iconst (I := iX4_spread) (v := 0) dX4_spread_10 (by decide) ?_
  refine v_istore (I := iX4_spread) (ls1 := [(6, _), (4, _), (0, _), (1, _), (2, _), (3, _)]) dX4_spread_11 (by decide) rfl ?_
  exact key 199 0 rfl rfl rfl
