theorem i64_in (a : Int32) : (-2147483648 : Int64) ≤ a.toInt64 ∧ a.toInt64 ≤ 2147483647 := by
  rw [Int64.le_iff_toInt_le, Int64.le_iff_toInt_le, Int32.toInt_toInt64]
  have h1 := a.le_toInt
  have h2 := a.toInt_lt
  refine ⟨?_, ?_⟩
  · show (-2147483648 : Int) ≤ _
    omega
  · show _ ≤ (2147483647 : Int)
    omega
theorem offT_in (a c : Int32) : 0 ≤ offT a c ∧ offT a c ≤ 1000 := by
  have ha := i64_in a
  have hc := i64_in c
  unfold offT
  generalize a.toInt64 = x at *
  generalize c.toInt64 = y at *
  grind
theorem sm32 : ∀ t, t ≤ 1000 → (Int64.ofNat t).toInt32 = nI t := by decide +kernel
theorem offT_nI (a c : Int32) : ∃ t, t ≤ 1000 ∧ (offT a c).toInt32 = nI t := by
  obtain ⟨h1, h2⟩ := offT_in a c
  generalize offT a c = v at *
  rw [Int64.le_iff_toInt_le] at h1 h2
  have h1 : (0 : Int) ≤ v.toInt := h1
  have h2 : v.toInt ≤ (1000 : Int) := h2
  refine ⟨v.toInt.toNat, by omega, ?_⟩
  rw [← sm32 _ (by omega)]
  congr 1
  apply Int64.toInt.inj
  rw [Int64.toInt_ofNat_of_lt (by omega)]
  omega
theorem offR_nI {W : Nat → Int32} : ∀ (m k : Nat) {g : gS}, ∃ t, t ≤ 1000 * m ∧ offR W m k g = nI t := by
  intro m
  induction m with
  | zero => intro k g; exact ⟨0, by omega, rfl⟩
  | succ m ih =>
    intro k g
    obtain ⟨t, ht, e⟩ := offT_nI (W k) (gTenths g 1 0)
    obtain ⟨r, hr, e2⟩ := ih (k + 1) (g := gTenths g 1)
    refine ⟨t + r, by omega, ?_⟩
    show (offT (W k) (gTenths g 1 0)).toInt32 + _ = _
    rw [e, e2, nI_add]
def guessF (g : gS) (W : Nat → Int32) (N w : Nat) : Int32 := offR W N 0 (va_up g 5 (nI w))
theorem guessF_z {g : gS} {W : Nat → Int32} {N w : Nat} (h : N ≤ 24) : ltB (guessF g W N w) 2147483647 = true := by
  obtain ⟨t, ht, e⟩ := offR_nI (W := W) N 0 (g := va_up g 5 (nI w))
  unfold ltB guessF
  rw [e]
  exact decide_eq_true (nI_lt (b := 2147483647) (by omega) (by decide))
theorem IV_5 {g : gS} (h : IV g) {k : Nat} (hk : k < 61) : IV (va_up g 5 (nI k)) := IV_up h ⟨by decide, by decide, by decide, by decide, fun j hj => by omega⟩ ⟨nI_pos' (by omega), nI_le (b := 60) (by omega) (by decide)⟩
theorem arg_t0 {R : Int32 → Int32 → Bool} {f : Nat → Int32} {k : Nat} (h : nI k = 0) (hk : k < 1000) : argN R f (k + 1) = some k := by
  rcases Nat.eq_zero_or_pos k with rfl | h9
  · rfl
  · exact absurd h (nI_ne0 h9 (by omega))
theorem arg_f2 {R : Int32 → Int32 → Bool} {f : Nat → Int32} {n : Nat} {z : Int32} (h0 : ¬ nI n = 0) (h : ¬ R (f n) (aL f z (argN R f n)) = true) : argN R f (n + 1) = argN R f n := by
  have hn : 0 < n := by
    rcases Nat.eq_zero_or_pos n with rfl | h9
    · exact absurd rfl h0
    · exact h9
  show (match argN R f n with | none => some n | some b => if R (f n) (f b) = true then some n else some b) = argN R f n
  cases e : argN R f n with
  | none => exact absurd e (arg_s hn)
  | some b => rw [e] at h; exact if_neg h
def guessS (ρ : fSt) (s : Int32) : Int32 × fSt := if 0 ≤ s ∧ s ≤ 3 then (if ρ 101 s.toNatClampNeg = 0 then (errV 2, errS ρ 2) else (aB 0 (argN ltB (guessF (ρ 88) (fun j => ρ 103 (24 * s.toNatClampNeg + j)) (ρ 102 s.toNatClampNeg).toNatClampNeg) 61), ρ)) else (errV 1, errS ρ 1)
set_option maxRecDepth 100000 in
set_option maxHeartbeats 8000000 in
theorem m_X9_guess {G : fGm} {σ : fSt} {τ : fLt} {ρ : fSt} (hC : CR σ ρ) {s : Int32} : MS G iX9_guess 8 [.ref 0, .int s] σ τ (rC τ σ (guessS ρ s)) := by
  refine ms_of (by decide +kernel) (Nat.le_of_ble_eq_true rfl) ?_
  show VW _ _ _ _ _ _ 0 [(0, _), (1, _)] []
  by_cases hs : 0 ≤ s ∧ s ≤ 3
  · obtain ⟨q, hq, hqx⟩ : ∃ q, q < 4 ∧ s = nI q := in2_nI (by decide) ⟨hs.1, by show s < 4; have := hs.2; grind⟩
    have hqc : s.toNatClampNeg = q := by rw [hqx]; exact nI_clamp (by omega)
    have hSH := CR_sh hC hq
    obtain ⟨N, hN8, hN⟩ := sz_nI hC.2.2.2.2.2 hq
    have hNc : (ρ 102 q).toNatClampNeg = N := by rw [hN]; exact nI_clamp (by omega)
    refine v_aload_n (I := iX9_guess) dX9_guess_0 rfl ?_
    refine v_iload_n (I := iX9_guess) dX9_guess_1 rfl ?_
    refine v_callVr (I := iX9_guess) (I' := iX9_sheetAt) lk_X9_258 c_X9_sheetAt dX9_guess_2 (m_X9_sheetAt hqx hq) rfl rfl (by decide) (ae_0 _ _) rfl (by decide) (by decide) (Nat.le_of_ble_eq_true rfl) ?_
    refine v_astore_n (I := iX9_guess) (ls1 := [(2, _), (0, _), (1, _)]) dX9_guess_5 (by decide) rfl ?_
    refine v_aload_n (I := iX9_guess) dX9_guess_6 rfl ?_
    refine v_ifnonnull (I := iX9_guess) (tgt := 16) dX9_guess_7 (by decide) ?_
    refine v_aload_n (I := iX9_guess) dX9_guess_16 rfl ?_
    refine v_get (I := iX9_guess) g_X9_266 dX9_guess_17 (sc_lt hq) (ae_s0 hq _ _) rfl ?_
    rw [hSH.1]
    refine v_if_ne (I := iX9_guess) (tgt := 29) dX9_guess_20 (by decide) (fun c20 => ?_) (fun c20 => ?_)
    · refine v_iconst (I := iX9_guess) (v := 0) dX9_guess_29 (by decide) ?_
      refine v_istore_n (I := iX9_guess) (ls1 := [(3, _), (2, _), (0, _), (1, _)]) dX9_guess_30 (by decide) rfl ?_
      refine v_ldc (I := iX9_guess) k_X9_241 dX9_guess_31 ?_
      refine v_istore (I := iX9_guess) (ls1 := [(4, _), (3, _), (2, _), (0, _), (1, _)]) dX9_guess_33 (by decide) rfl ?_
      refine v_iconst (I := iX9_guess) (v := 0) dX9_guess_35 (by decide) ?_
      refine v_istore (I := iX9_guess) (ls1 := [(5, _), (4, _), (3, _), (2, _), (0, _), (1, _)]) dX9_guess_36 (by decide) rfl ?_
      refine v_pick (I := iX9_guess) (ls1 := [(5, _), (4, _), (3, _), (0, _), (1, _), (2, _)]) [0, 1, 2, 4, 5, 3] rfl ?_
      have key : ∀ (m k : Nat) {σ9 : fSt} {y x2 x3 : Int32}, k + m = 61 → FrW 2 σ σ9 → y = nI k → x3 = aL (guessF (ρ 88) (fun j => ρ 103 (24 * q + j)) N) (2147483647) (argN ltB (guessF (ρ 88) (fun j => ρ 103 (24 * q + j)) N) k) → x2 = aB 0 (argN ltB (guessF (ρ 88) (fun j => ρ 103 (24 * q + j)) N) k) → VW G iX9_guess (rC τ σ (guessS ρ s)) 8 σ9 τ 38 [(5, .int y), (4, .int x3), (3, .int x2), (0, .ref 0), (1, .int s), (2, .ref (sc q))] [] := by
        intro m
        induction m with
        | zero =>
          intro k σ9 y x2 x3 hkm hF9 hk hx3 hx2
          have hkN : k = 61 := hkm
          have hV9 := (CR_ahead hC hF9).1
          show VW _ _ _ _ _ _ 38 [(5, _), (4, _), (3, _), (0, _), (1, _), (2, _)] []
          refine v_iload (I := iX9_guess) dX9_guess_38 rfl ?_
          refine v_bipush (I := iX9_guess) (v := 60) dX9_guess_40 (by decide) ?_
          refine v_icmp_gt (I := iX9_guess) (tgt := 94) dX9_guess_42 (by decide) (fun c42 => ?_) (fun c42 => ?_)
          · refine v_iload_n (I := iX9_guess) dX9_guess_94 rfl ?_
            exact v_iret (I := iX9_guess) rfl dX9_guess_95 (by unfold guessS; rw [if_pos hs, hqc, if_neg c20, hNc, ← hkN, ← hx2]; exact ⟨rfl, rfl, CR_ahead hC hF9, FrW.C (by decide) hF9⟩)
          · exact absurd (by rw [hk, hkN]; decide) c42
        | succ m ih =>
          intro k σ9 y x2 x3 hkm hF9 hk hx3 hx2
          have hV9 := (CR_ahead hC hF9).1
          have hk8 : k < 61 := by omega
          have hy := hk
          subst hy
          have hk : nI k = nI k := rfl
          show VW _ _ _ _ _ _ 38 [(5, _), (4, _), (3, _), (0, _), (1, _), (2, _)] []
          refine v_iload (I := iX9_guess) dX9_guess_38 rfl ?_
          refine v_bipush (I := iX9_guess) (v := 60) dX9_guess_40 (by decide) ?_
          refine v_icmp_gt (I := iX9_guess) (tgt := 94) dX9_guess_42 (by decide) (fun c42 => ?_) (fun c42 => ?_)
          · exact absurd c42 (by rw [hk]; have h7 : nI k ≤ 60 := nI_le (b := 60) (by omega) (by decide); generalize nI k = y at *; grind)
          · refine v_aload_n (I := iX9_guess) dX9_guess_45 rfl ?_
            refine v_get (I := iX9_guess) g_X9_19 dX9_guess_46 (by decide) (ae_0 _ _) rfl ?_
            refine v_aload_n (I := iX9_guess) dX9_guess_49 rfl ?_
            refine v_get (I := iX9_guess) g_X9_10 dX9_guess_50 (by decide) (ae_0 _ _) rfl ?_
            refine v_callVvP (I := iX9_guess) (I' := iX8_become) lk_X9_204 c_X8_become dX9_guess_53 (m_X8_become_20) rfl rfl (by decide) (ae_w0 (by decide) _ _) rfl (by decide) (by decide) (Nat.le_of_ble_eq_true rfl) (fun s53 h53 => ?_)
            refine v_aload_n (I := iX9_guess) dX9_guess_56 rfl ?_
            refine v_get (I := iX9_guess) g_X9_19 dX9_guess_57 (by decide) (ae_0 _ _) rfl ?_
            refine v_get (I := iX9_guess) g_X9_114 dX9_guess_60 (by decide) (ae_w0 (by decide) _ _) rfl ?_
            refine v_iconst (I := iX9_guess) (v := 5) dX9_guess_63 (by decide) ?_
            refine v_iload (I := iX9_guess) dX9_guess_64 rfl ?_
            refine v_iastN (I := iX9_guess) (j := 5) (by decide) (by decide) (by decide) dX9_guess_66 (by decide) (fun _ => ae_w1 (by decide) _ _) ?_
            have hVp := V_upc (i := 5) (x := nI k) (h53.1 _ hV9) (by decide)
            have hFp : FrW 2 σ (up2 s53 (wc 2 1) 5 (nI k)) := hF9.tr (h53.2.tr (FrW.up (by decide)))
            have hNq : up2 s53 (wc 2 1) 5 (nI k) (sc q) 2 = nI N := by rw [(hFp.s2 hq).1, hSH.2.1 c20, hN]
            refine v_aload_n (I := iX9_guess) dX9_guess_67 rfl ?_
            refine v_aload_n (I := iX9_guess) dX9_guess_68 rfl ?_
            refine v_callViP (I := iX9_guess) (I' := iX9_offAhead) lk_X9_283 c_X9_offAhead dX9_guess_69 (m_X9_offAhead hq hVp (IV_5 hC.2.2.2.2.2.1 hk8) hNq hN8) rfl rfl (by decide) (ae_0 _ _) rfl (by decide) (by decide) (Nat.le_of_ble_eq_true rfl) (fun s69 h69 => ?_)
            have hFk : FrW 2 σ s69 := hFp.tr h69
            rw [offR_congr (W' := fun j => ρ 103 (24 * q + j)) N 0 (fun j hj => by rw [(hFp.s2 hq).2]; exact hSH.2.2 j (by omega)), show offR (fun j => ρ 103 (24 * q + j)) N 0 (va_up (ρ 88) 5 (nI k)) = (guessF (ρ 88) (fun j => ρ 103 (24 * q + j)) N) k from rfl]
            refine v_istore (I := iX9_guess) (ls1 := [(6, _), (5, _), (4, _), (3, _), (0, _), (1, _), (2, _)]) dX9_guess_72 (by decide) rfl ?_
            refine v_iload (I := iX9_guess) dX9_guess_74 rfl ?_
            refine v_iload (I := iX9_guess) dX9_guess_76 rfl ?_
            refine v_icmp_ge (I := iX9_guess) (tgt := 88) dX9_guess_78 (by decide) (fun c78 => ?_) (fun c78 => ?_)
            · have ha : argN ltB (guessF (ρ 88) (fun j => ρ 103 (24 * q + j)) N) (k + 1) = argN ltB (guessF (ρ 88) (fun j => ρ 103 (24 * q + j)) N) k := arg_f (z := 2147483647) (by rw [← hx3]; unfold ltB; grind) (guessF_z hN8)
              have e3 : x3 = aL (guessF (ρ 88) (fun j => ρ 103 (24 * q + j)) N) (2147483647) (argN ltB (guessF (ρ 88) (fun j => ρ 103 (24 * q + j)) N) (k + 1)) := by rw [ha]; exact hx3
              have e2 : x2 = aB 0 (argN ltB (guessF (ρ 88) (fun j => ρ 103 (24 * q + j)) N) (k + 1)) := by rw [ha]; exact hx2
              refine v_iinc (I := iX9_guess) (ls1 := [(5, _), (6, _), (4, _), (3, _), (0, _), (1, _), (2, _)]) dX9_guess_88 rfl rfl (by decide) rfl ?_
              refine v_goto (I := iX9_guess) (tgt := 38) dX9_guess_91 (by decide) ?_
              refine v_pick (I := iX9_guess) (ls1 := [(5, _), (4, _), (3, _), (0, _), (1, _), (2, _)]) [0, 2, 3, 4, 5, 6] rfl ?_
              exact ih (k + 1) (by omega) hFk (by rw [hk]; exact nI_1 k) e3 e2
            · have ha : argN ltB (guessF (ρ 88) (fun j => ρ 103 (24 * q + j)) N) (k + 1) = some k := arg_t (z := 2147483647) (by rw [← hx3]; unfold ltB; grind)
              have e3 : (guessF (ρ 88) (fun j => ρ 103 (24 * q + j)) N) k = aL (guessF (ρ 88) (fun j => ρ 103 (24 * q + j)) N) (2147483647) (argN ltB (guessF (ρ 88) (fun j => ρ 103 (24 * q + j)) N) (k + 1)) := by rw [ha]; rfl
              have e2 : nI k = aB 0 (argN ltB (guessF (ρ 88) (fun j => ρ 103 (24 * q + j)) N) (k + 1)) := by rw [ha]; exact hk
              refine v_iload (I := iX9_guess) dX9_guess_81 rfl ?_
              refine v_istore (I := iX9_guess) (ls1 := [(4, _), (6, _), (5, _), (3, _), (0, _), (1, _), (2, _)]) dX9_guess_83 (by decide) rfl ?_
              refine v_iload (I := iX9_guess) dX9_guess_85 rfl ?_
              refine v_istore_n (I := iX9_guess) (ls1 := [(3, _), (4, _), (6, _), (5, _), (0, _), (1, _), (2, _)]) dX9_guess_87 (by decide) rfl ?_
              refine v_iinc (I := iX9_guess) (ls1 := [(5, _), (3, _), (4, _), (6, _), (0, _), (1, _), (2, _)]) dX9_guess_88 rfl rfl (by decide) rfl ?_
              refine v_goto (I := iX9_guess) (tgt := 38) dX9_guess_91 (by decide) ?_
              refine v_pick (I := iX9_guess) (ls1 := [(5, _), (4, _), (3, _), (0, _), (1, _), (2, _)]) [0, 2, 1, 4, 5, 6] rfl ?_
              exact ih (k + 1) (by omega) hFk (by rw [hk]; exact nI_1 k) e3 e2
      exact key 61 0 (by omega) FrW.rf rfl aL_0 aB_0
    · refine v_aload_n (I := iX9_guess) dX9_guess_23 rfl ?_
      refine v_iconst (I := iX9_guess) (v := 2) dX9_guess_24 (by decide) ?_
      refine v_callVi (I := iX9_guess) (I' := iX9_refused) lk_X9_62 c_X9_refused dX9_guess_25 (m_X9_refused (e := 2) (by decide) (by decide) (by decide)) rfl rfl (by decide) (ae_0 _ _) rfl (by decide) (by decide) (Nat.le_of_ble_eq_true rfl) ?_
      exact v_iret (I := iX9_guess) rfl dX9_guess_28 (by unfold guessS; rw [if_pos hs, hqc, if_pos c20]; exact ⟨rfl, rfl, CR_err hC (by decide) (by decide), FC.up (by decide)⟩)
  · skip
    refine v_aload_n (I := iX9_guess) dX9_guess_0 rfl ?_
    refine v_iload_n (I := iX9_guess) dX9_guess_1 rfl ?_
    refine v_callVE (I := iX9_guess) (I' := iX9_sheetAt) lk_X9_258 c_X9_sheetAt dX9_guess_2 (m_X9_sheetAt0 hs) rfl rfl (by decide) (ae_0 _ _) rfl (by decide) (by decide) (Nat.le_of_ble_eq_true rfl) ?_
    refine v_astore_nN (I := iX9_guess) (ls1 := [(2, _), (0, _), (1, _)]) dX9_guess_5 (by decide) rfl ?_
    refine v_aload_nN (I := iX9_guess) dX9_guess_6 rfl ?_
    refine v_ifnonnullN (I := iX9_guess) dX9_guess_7 ?_
    refine v_aload_n (I := iX9_guess) dX9_guess_10 rfl ?_
    refine v_iconst (I := iX9_guess) (v := 1) dX9_guess_11 (by decide) ?_
    refine v_callVi (I := iX9_guess) (I' := iX9_refused) lk_X9_62 c_X9_refused dX9_guess_12 (m_X9_refused (e := 1) (by decide) (by decide) (by decide)) rfl rfl (by decide) (ae_0 _ _) rfl (by decide) (by decide) (Nat.le_of_ble_eq_true rfl) ?_
    exact v_iret (I := iX9_guess) rfl dX9_guess_15 (by unfold guessS; rw [if_neg hs]; exact ⟨rfl, rfl, CR_err hC (by decide) (by decide), FC.up (by decide)⟩)
set_option maxRecDepth 100000 in
set_option maxHeartbeats 4000000 in
theorem m_X10_guess {G : fGm} {σ : fSt} {τ : fLt} {ρ : fSt} (hR : RR σ ρ) {s : Int32} : MS G iX10_guess 9 [.ref 87, .int s] σ τ (rR τ σ (guessS ρ s)) := by
  refine ms_of (by decide +kernel) (Nat.le_of_ble_eq_true rfl) ?_
  show VW _ _ _ _ _ _ 0 [(0, _), (1, _)] []
  refine v_iload_n (I := iX10_guess) dX10_guess_0 rfl ?_
  refine v_callSi (I := iX10_guess) (I' := iX10_isSheet) lk_X10_315 c_X10_isSheet dX10_guess_1 (m_X10_isSheet) rfl rfl (by decide) (by decide) (Nat.le_of_ble_eq_true rfl) ?_
  refine v_if_neB (I := iX10_guess) (tgt := 14) dX10_guess_4 (by decide) (fun c4 => ?_) (fun c4 => ?_)
  · obtain ⟨q, hq, hqx⟩ : ∃ q, q < 4 ∧ s = nI q := in2_nI (by decide) ⟨by grind, by show s < 4; grind⟩
    have hqc : s.toNatClampNeg = q := by rw [hqx]; exact nI_clamp (by omega)
    obtain ⟨N, hN8, hN⟩ := sz_nI hR.2.2.2.2.2.2.2.2.2.2.2 hq
    have hNc : (ρ 102 q).toNatClampNeg = N := by rw [hN]; exact nI_clamp (by omega)
    refine v_aload_n (I := iX10_guess) dX10_guess_14 rfl ?_
    refine v_get (I := iX10_guess) g_X10_57 dX10_guess_15 (by decide) (ae_87 _ _) rfl ?_
    refine v_iload_n (I := iX10_guess) dX10_guess_18 rfl ?_
    refine v_ialdN (I := iX10_guess) (j := q) hqx hq (by decide) dX10_guess_19 (by decide) (ae_101 _ _) ?_
    rw [hR.2.2.2.2.2.2.1]
    refine v_if_ne (I := iX10_guess) (tgt := 30) dX10_guess_20 (by decide) (fun c20 => ?_) (fun c20 => ?_)
    · refine v_aload_n (I := iX10_guess) dX10_guess_30 rfl ?_
      refine v_get (I := iX10_guess) g_X10_9 dX10_guess_31 (by decide) (ae_87 _ _) rfl ?_
      refine v_aload_n (I := iX10_guess) dX10_guess_34 rfl ?_
      refine v_get (I := iX10_guess) g_X10_16 dX10_guess_35 (by decide) (ae_87 _ _) rfl ?_
      refine v_callSv (I := iX10_guess) (I' := iX10_copy) lk_X10_83 c_X10_copy dX10_guess_38 (m_X10_copy (by decide) (by decide) (ae_88) (ae_90) (by decide)) rfl rfl (by decide) (by decide) (Nat.le_of_ble_eq_true rfl) ?_
      refine v_iconst (I := iX10_guess) (v := 0) dX10_guess_41 (by decide) ?_
      refine v_istore_n (I := iX10_guess) (ls1 := [(2, _), (0, _), (1, _)]) dX10_guess_42 (by decide) rfl ?_
      refine v_iconst (I := iX10_guess) (v := 0) dX10_guess_43 (by decide) ?_
      refine v_istore_n (I := iX10_guess) (ls1 := [(3, _), (2, _), (0, _), (1, _)]) dX10_guess_44 (by decide) rfl ?_
      refine v_iconst (I := iX10_guess) (v := 0) dX10_guess_45 (by decide) ?_
      refine v_istore (I := iX10_guess) (ls1 := [(4, _), (3, _), (2, _), (0, _), (1, _)]) dX10_guess_46 (by decide) rfl ?_
      have key : ∀ (m k : Nat) {σ9 : fSt} {y x2 x3 : Int32}, k + m = 61 → σ9 88 = ρ 88 → σ9 90 = ρ 88 → FrB σ σ9 → y = nI k → x3 = aL (guessF (ρ 88) (fun j => ρ 103 (24 * q + j)) N) (0) (argN ltB (guessF (ρ 88) (fun j => ρ 103 (24 * q + j)) N) k) → x2 = aB 0 (argN ltB (guessF (ρ 88) (fun j => ρ 103 (24 * q + j)) N) k) → VW G iX10_guess (rR τ σ (guessS ρ s)) 9 σ9 τ 48 [(4, .int y), (3, .int x3), (2, .int x2), (0, .ref 87), (1, .int s)] [] := by
        intro m
        induction m with
        | zero =>
          intro k σ9 y x2 x3 hkm h88 h90 hF9 hk hx3 hx2
          have hkN : k = 61 := hkm
          skip
          show VW _ _ _ _ _ _ 48 [(4, _), (3, _), (2, _), (0, _), (1, _)] []
          refine v_iload (I := iX10_guess) dX10_guess_48 rfl ?_
          refine v_bipush (I := iX10_guess) (v := 60) dX10_guess_50 (by decide) ?_
          refine v_icmp_gt (I := iX10_guess) (tgt := 93) dX10_guess_52 (by decide) (fun c52 => ?_) (fun c52 => ?_)
          · refine v_iload_n (I := iX10_guess) dX10_guess_93 rfl ?_
            exact v_iret (I := iX10_guess) rfl dX10_guess_94 (by unfold guessS; rw [if_pos (by grind), hqc, if_neg c20, hNc, ← hkN, ← hx2]; exact ⟨rfl, rfl, RR_b2 hR h88 h90 hF9, hF9.R⟩)
          · exact absurd (by rw [hk, hkN]; decide) c52
        | succ m ih =>
          intro k σ9 y x2 x3 hkm h88 h90 hF9 hk hx3 hx2
          have hk8 : k < 61 := by omega
          have hy := hk
          subst hy
          have hk : nI k = nI k := rfl
          show VW _ _ _ _ _ _ 48 [(4, _), (3, _), (2, _), (0, _), (1, _)] []
          refine v_iload (I := iX10_guess) dX10_guess_48 rfl ?_
          refine v_bipush (I := iX10_guess) (v := 60) dX10_guess_50 (by decide) ?_
          refine v_icmp_gt (I := iX10_guess) (tgt := 93) dX10_guess_52 (by decide) (fun c52 => ?_) (fun c52 => ?_)
          · exact absurd c52 (by rw [hk]; have h7 : nI k ≤ 60 := nI_le (b := 60) (by omega) (by decide); generalize nI k = y at *; grind)
          · refine v_aload_n (I := iX10_guess) dX10_guess_55 rfl ?_
            refine v_get (I := iX10_guess) g_X10_9 dX10_guess_56 (by decide) (ae_87 _ _) rfl ?_
            refine v_iconst (I := iX10_guess) (v := 5) dX10_guess_59 (by decide) ?_
            refine v_iload (I := iX10_guess) dX10_guess_60 rfl ?_
            refine v_iastN (I := iX10_guess) (j := 5) (by decide) (by decide) (by decide) dX10_guess_62 (by decide) (fun _ => ae_88 _ _) ?_
            have e103 : up2 σ9 88 5 (nI k) 103 = ρ 103 := (up2_kf _ _ _ (by decide)).trans ((hF9 103 (by decide) (by decide) (by decide) (by decide)).trans hR.2.2.2.2.2.2.2.2.1)
            have hsz : up2 σ9 88 5 (nI k) 102 q = nI N := by rw [up2_kf _ _ _ (by decide), hF9 102 (by decide) (by decide) (by decide) (by decide), hR.2.2.2.2.2.2.2.1, hN]
            have hv : offR (fun j => up2 σ9 88 5 (nI k) 103 (24 * q + j)) N 0 (up2 σ9 88 5 (nI k) 88) = (guessF (ρ 88) (fun j => ρ 103 (24 * q + j)) N) k := by rw [e103, up2_f, h88]; rfl
            refine v_aload_n (I := iX10_guess) dX10_guess_63 rfl ?_
            refine v_iload_n (I := iX10_guess) dX10_guess_64 rfl ?_
            refine v_callViP (I := iX10_guess) (I' := iX10_offOf) lk_X10_325 c_X10_offOf dX10_guess_65 (m_X10_offOf hqx hq (by rw [up2_f, h88]; exact IV_5 hR.2.2.2.2.2.2.2.2.2.2.2.1 hk8) hsz hN8) rfl rfl (by decide) (ae_87 _ _) rfl (by decide) (by decide) (Nat.le_of_ble_eq_true rfl) (fun s65 h65 => ?_)
            rw [hv]
            have h90k : s65 90 = ρ 88 := h65.2.1.trans ((up2_kf _ _ _ (by decide)).trans h90)
            have h88k : s65 88 = ρ 88 := h65.1.trans ((up2_kf _ _ _ (by decide)).trans h90)
            have hFk : FrB σ s65 := fun k a b c d => (h65.2.2 k a b c d).trans ((up2_kf _ _ _ a).trans (hF9 k a b c d))
            refine v_istore (I := iX10_guess) (ls1 := [(5, _), (4, _), (3, _), (2, _), (0, _), (1, _)]) dX10_guess_68 (by decide) rfl ?_
            refine v_iload (I := iX10_guess) dX10_guess_70 rfl ?_
            refine v_if_eq (I := iX10_guess) (tgt := 81) dX10_guess_72 (by decide) (fun c72 => ?_) (fun c72 => ?_)
            · have ha : argN ltB (guessF (ρ 88) (fun j => ρ 103 (24 * q + j)) N) (k + 1) = some k := arg_t0 c72 (by omega)
              have e3 : (guessF (ρ 88) (fun j => ρ 103 (24 * q + j)) N) k = aL (guessF (ρ 88) (fun j => ρ 103 (24 * q + j)) N) 0 (argN ltB (guessF (ρ 88) (fun j => ρ 103 (24 * q + j)) N) (k + 1)) := by rw [ha]; rfl
              have e2 : nI k = aB 0 (argN ltB (guessF (ρ 88) (fun j => ρ 103 (24 * q + j)) N) (k + 1)) := by rw [ha]; rfl
              refine v_iload (I := iX10_guess) dX10_guess_81 rfl ?_
              refine v_istore_n (I := iX10_guess) (ls1 := [(2, _), (5, _), (4, _), (3, _), (0, _), (1, _)]) dX10_guess_83 (by decide) rfl ?_
              refine v_iload (I := iX10_guess) dX10_guess_84 rfl ?_
              refine v_istore_n (I := iX10_guess) (ls1 := [(3, _), (2, _), (5, _), (4, _), (0, _), (1, _)]) dX10_guess_86 (by decide) rfl ?_
              refine v_iinc (I := iX10_guess) (ls1 := [(4, _), (3, _), (2, _), (5, _), (0, _), (1, _)]) dX10_guess_87 rfl rfl (by decide) rfl ?_
              refine v_goto (I := iX10_guess) (tgt := 48) dX10_guess_90 (by decide) ?_
              refine v_pick (I := iX10_guess) (ls1 := [(4, _), (3, _), (2, _), (0, _), (1, _)]) [0, 1, 2, 4, 5] rfl ?_
              exact ih (k + 1) (by omega) h88k h90k hFk (by rw [hk]; exact nI_1 k) e3 e2
            · refine v_iload (I := iX10_guess) dX10_guess_75 rfl ?_
              refine v_iload_n (I := iX10_guess) dX10_guess_77 rfl ?_
              refine v_icmp_ge (I := iX10_guess) (tgt := 87) dX10_guess_78 (by decide) (fun c78 => ?_) (fun c78 => ?_)
              · have ha : argN ltB (guessF (ρ 88) (fun j => ρ 103 (24 * q + j)) N) (k + 1) = argN ltB (guessF (ρ 88) (fun j => ρ 103 (24 * q + j)) N) k := arg_f2 (z := 0) c72 (by rw [← hx3]; unfold ltB; grind)
                have e3 : x3 = aL (guessF (ρ 88) (fun j => ρ 103 (24 * q + j)) N) 0 (argN ltB (guessF (ρ 88) (fun j => ρ 103 (24 * q + j)) N) (k + 1)) := by rw [ha]; exact hx3
                have e2 : x2 = aB 0 (argN ltB (guessF (ρ 88) (fun j => ρ 103 (24 * q + j)) N) (k + 1)) := by rw [ha]; exact hx2
                refine v_iinc (I := iX10_guess) (ls1 := [(4, _), (5, _), (3, _), (2, _), (0, _), (1, _)]) dX10_guess_87 rfl rfl (by decide) rfl ?_
                refine v_goto (I := iX10_guess) (tgt := 48) dX10_guess_90 (by decide) ?_
                refine v_pick (I := iX10_guess) (ls1 := [(4, _), (3, _), (2, _), (0, _), (1, _)]) [0, 2, 3, 4, 5] rfl ?_
                exact ih (k + 1) (by omega) h88k h90k hFk (by rw [hk]; exact nI_1 k) e3 e2
              · have ha : argN ltB (guessF (ρ 88) (fun j => ρ 103 (24 * q + j)) N) (k + 1) = some k := arg_t (z := 0) (by rw [← hx3]; unfold ltB; grind)
                have e3 : (guessF (ρ 88) (fun j => ρ 103 (24 * q + j)) N) k = aL (guessF (ρ 88) (fun j => ρ 103 (24 * q + j)) N) 0 (argN ltB (guessF (ρ 88) (fun j => ρ 103 (24 * q + j)) N) (k + 1)) := by rw [ha]; rfl
                have e2 : nI k = aB 0 (argN ltB (guessF (ρ 88) (fun j => ρ 103 (24 * q + j)) N) (k + 1)) := by rw [ha]; rfl
                refine v_iload (I := iX10_guess) dX10_guess_81 rfl ?_
                refine v_istore_n (I := iX10_guess) (ls1 := [(2, _), (5, _), (4, _), (3, _), (0, _), (1, _)]) dX10_guess_83 (by decide) rfl ?_
                refine v_iload (I := iX10_guess) dX10_guess_84 rfl ?_
                refine v_istore_n (I := iX10_guess) (ls1 := [(3, _), (2, _), (5, _), (4, _), (0, _), (1, _)]) dX10_guess_86 (by decide) rfl ?_
                refine v_iinc (I := iX10_guess) (ls1 := [(4, _), (3, _), (2, _), (5, _), (0, _), (1, _)]) dX10_guess_87 rfl rfl (by decide) rfl ?_
                refine v_goto (I := iX10_guess) (tgt := 48) dX10_guess_90 (by decide) ?_
                refine v_pick (I := iX10_guess) (ls1 := [(4, _), (3, _), (2, _), (0, _), (1, _)]) [0, 1, 2, 4, 5] rfl ?_
                exact ih (k + 1) (by omega) h88k h90k hFk (by rw [hk]; exact nI_1 k) e3 e2
      exact key 61 0 (by omega) ((va_up_o _ _ (by decide)).trans hR.1) ((va_up_s _ _ _).trans hR.1) (fun k _ b _ _ => va_up_o _ _ b) rfl aL_0 aB_0
    · refine v_aload_n (I := iX10_guess) dX10_guess_23 rfl ?_
      refine v_ldc (I := iX10_guess) k_X10_124 dX10_guess_24 ?_
      refine v_callVi (I := iX10_guess) (I' := iX10_finding) lk_X10_92 c_X10_finding dX10_guess_26 (m_X10_findE (e := 2) (by decide) (by decide)) rfl rfl (by decide) (ae_87 _ _) rfl (by decide) (by decide) (Nat.le_of_ble_eq_true rfl) ?_
      exact v_iret (I := iX10_guess) rfl dX10_guess_29 (by unfold guessS; rw [if_pos (by grind), hqc, if_pos c20]; exact ⟨rfl, rfl, RR_err hR, FR.up (by decide)⟩)
  · refine v_aload_n (I := iX10_guess) dX10_guess_7 rfl ?_
    refine v_ldc (I := iX10_guess) k_X10_91 dX10_guess_8 ?_
    refine v_callVi (I := iX10_guess) (I' := iX10_finding) lk_X10_92 c_X10_finding dX10_guess_10 (m_X10_findE (e := 1) (by decide) (by decide)) rfl rfl (by decide) (ae_87 _ _) rfl (by decide) (by decide) (Nat.le_of_ble_eq_true rfl) ?_
    exact v_iret (I := iX10_guess) rfl dX10_guess_13 (by unfold guessS; rw [if_neg (by grind)]; exact ⟨rfl, rfl, RR_err hR, FR.up (by decide)⟩)
