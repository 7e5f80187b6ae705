def ltB (a b : Int32) : Bool := decide (a < b)
def gtB (a b : Int32) : Bool := decide (b < a)
/-- the first of the best of n -/
def argN (R : Int32 → Int32 → Bool) (f : Nat → Int32) : Nat → Option Nat
  | 0 => none
  | n + 1 => match argN R f n with
    | none => some n
    | some b => if R (f n) (f b) = true then some n else some b
def aB (d : Int32) : Option Nat → Int32
  | none => d
  | some b => nI b
def aL (f : Nat → Int32) (d : Int32) : Option Nat → Int32
  | none => d
  | some b => f b
theorem arg_t {R : Int32 → Int32 → Bool} {f : Nat → Int32} {n : Nat} {z : Int32} (h : R (f n) (aL f z (argN R f n)) = true) : argN R f (n + 1) = some n := by
  show (match argN R f n with | none => some n | some b => if R (f n) (f b) = true then some n else some b) = some n
  cases e : argN R f n with
  | none => rfl
  | some b => rw [e] at h; exact if_pos h
theorem arg_f {R : Int32 → Int32 → Bool} {f : Nat → Int32} {n : Nat} {z : Int32} (h : ¬ R (f n) (aL f z (argN R f n)) = true) (hz : R (f n) z = true) : argN R f (n + 1) = argN R f n := by
  show (match argN R f n with | none => some n | some b => if R (f n) (f b) = true then some n else some b) = argN R f n
  cases e : argN R f n with
  | none => rw [e] at h; exact absurd hz h
  | some b => rw [e] at h; exact if_neg h
theorem arg_lt {R : Int32 → Int32 → Bool} {f : Nat → Int32} {b : Nat} : ∀ {n : Nat}, argN R f n = some b → b < n := by
  intro n
  induction n with
  | zero => intro h; exact absurd h (by intro h; cases h)
  | succ n ih =>
    intro h
    have h' : (match argN R f n with | none => some n | some b => if R (f n) (f b) = true then some n else some b) = some b := h
    cases e : argN R f n with
    | none => rw [e] at h'; cases h'; omega
    | some c =>
      rw [e] at h' ih
      by_cases hc : R (f n) (f c) = true
      · have h' : (if R (f n) (f c) = true then some n else some c) = some b := h'
        rw [if_pos hc] at h'; cases h'; omega
      · have h' : (if R (f n) (f c) = true then some n else some c) = some b := h'
        rw [if_neg hc] at h'
        have := ih h'
        omega
theorem arg_0 {R : Int32 → Int32 → Bool} {f : Nat → Int32} {n : Nat} (hn : n < 2 ^ 31) : aB (-1) (argN R f n) < 0 ↔ argN R f n = none := by
  cases e : argN R f n with
  | none => exact ⟨fun _ => rfl, fun _ => by show (-1 : Int32) < 0; decide⟩
  | some b =>
    have := arg_lt e
    refine ⟨fun h => ?_, fun h => by cases h⟩
    have h2 : (0 : Int32) ≤ nI b := nI_pos' (by omega)
    have h : nI b < 0 := h
    generalize nI b = y at *
    grind
theorem arg_s {R : Int32 → Int32 → Bool} {f : Nat → Int32} : ∀ {n : Nat}, 0 < n → argN R f n ≠ none := by
  intro n h
  cases n with
  | zero => omega
  | succ n =>
    show (match argN R f n with | none => some n | some b => if R (f n) (f b) = true then some n else some b) ≠ none
    cases argN R f n with
    | none => intro h; cases h
    | some b =>
      show (if R (f n) (f b) = true then some n else some b) ≠ none
      split <;> (intro h; cases h)
theorem arg_t1 {R : Int32 → Int32 → Bool} {f : Nat → Int32} {n : Nat} (hn : n < 2 ^ 31) (h : aB (-1) (argN R f n) < 0) : argN R f (n + 1) = some n := by
  have := (arg_0 hn).mp h
  show (match argN R f n with | none => some n | some b => if R (f n) (f b) = true then some n else some b) = some n
  rw [this]
theorem arg_f1 {R : Int32 → Int32 → Bool} {f : Nat → Int32} {n : Nat} {z : Int32} (hn : n < 2 ^ 31) (h0 : ¬ aB (-1) (argN R f n) < 0) (h : ¬ R (f n) (aL f z (argN R f n)) = true) : argN R f (n + 1) = argN R f n := by
  have h0 : ¬ argN R f n = none := fun e => h0 ((arg_0 hn).mpr e)
  show (match argN R f n with | none => some n | some b => if R (f n) (f b) = true then some n else some b) = argN R f n
  cases e : argN R f n with
  | none => exact absurd e h0
  | some b => rw [e] at h; exact if_neg h
theorem aB_s {R : Int32 → Int32 → Bool} {f : Nat → Int32} {n : Nat} {a b : Int32} (h : 0 < n) : aB a (argN R f n) = aB b (argN R f n) := by
  cases e : argN R f n with
  | none => exact absurd e (arg_s h)
  | some b => rfl
theorem aL_0 {R : Int32 → Int32 → Bool} {f : Nat → Int32} {z : Int32} : z = aL f z (argN R f 0) := rfl
theorem aB_0 {R : Int32 → Int32 → Bool} {f : Nat → Int32} {z : Int32} : z = aB z (argN R f 0) := rfl
def padF (g : gS) (n h : Nat) : Int32 := gTenths (va_up g (39 + 3 * h + 2) 1) n 9
def standF (g : gS) (q n c : Nat) : Int32 := gTenths (va_up g (39 + 3 * q + 0) (nI c)) n 10
def goF (g : gS) (n k : Nat) : Int32 := gTenths (va_up g (63 + 3 * gNow g + 0) (nI k)) n 10 - 10 * gTenths (va_up g (63 + 3 * gNow g + 0) (nI k)) n 7
theorem IV_pad {g : gS} (h : IV g) {q : Nat} (hq : q < 8) : IV (va_up g (39 + 3 * q + 2) 1) := IV_hold (z := 2) h hq (by decide) ⟨by decide, by decide⟩
theorem IV_standF {g : gS} (h : IV g) {q c : Nat} (hq : q < 8) (hc : c < 100) : IV (va_up g (39 + 3 * q + 0) (nI c)) := IV_hold (z := 0) h hq (by decide) ⟨nI_pos' (by omega), nI_le (b := 99) (by omega) (by decide)⟩
theorem IV_go {g : gS} (h : IV g) {c : Nat} (hc : c < 7) : IV (va_up g (63 + 3 * gNow g + 0) (nI c)) := IV_goings (z := 0) h (gNow_x h.1).2 (by decide) ⟨nI_pos' (by omega), nI_le (b := 6) (by omega) (by decide)⟩
theorem padF_z {g : gS} (h : IV g) {n q : Nat} (hq : q < 8) : ltB (padF g n q) 2147483647 = true := by
  have h1 : _ ∧ padF g n q ≤ (999999 : Int32) := (IV_tenths n (IV_pad h hq)).1 9 (by decide)
  have := h1.2
  unfold ltB
  generalize padF g n q = y at *
  grind
theorem standF_z {g : gS} (h : IV g) {n q c : Nat} (hq : q < 8) (hc : c < 100) : gtB (standF g q n c) (-1) = true := by
  have h1 : (0 : Int32) ≤ standF g q n c ∧ _ := (IV_tenths n (IV_standF h hq hc)).1 10 (by decide)
  have := h1.1
  unfold gtB
  generalize standF g q n c = y at *
  grind
theorem goF_z {g : gS} (h : IV g) {n c : Nat} (hc : c < 7) : gtB (goF g n c) (-2147483648) = true := by
  have h1 := (IV_tenths n (IV_go h hc)).1
  have ha : (0 : Int32) ≤ gTenths (va_up g (63 + 3 * gNow g + 0) (nI c)) n 10 ∧ gTenths (va_up g (63 + 3 * gNow g + 0) (nI c)) n 10 ≤ 999999 := h1 10 (by decide)
  have hb : (0 : Int32) ≤ gTenths (va_up g (63 + 3 * gNow g + 0) (nI c)) n 7 ∧ gTenths (va_up g (63 + 3 * gNow g + 0) (nI c)) n 7 ≤ 999999 := h1 7 (by decide)
  unfold gtB goF
  generalize gTenths (va_up g (63 + 3 * gNow g + 0) (nI c)) n 10 = y at *
  generalize gTenths (va_up g (63 + 3 * gNow g + 0) (nI c)) n 7 = z at *
  grind
def padS (ρ : fSt) (n : Int32) : Int32 × fSt := if 0 ≤ n ∧ n ≤ 200 then (if ρ 88 14 = 0 then (errV 2, errS ρ 2) else (aB 0 (argN ltB (padF (ρ 88) n.toNatClampNeg) (ρ 88 14).toNatClampNeg), ρ)) else (errV 1, errS ρ 1)
def standS (ρ : fSt) (h n : Int32) : Int32 × fSt := if (0 ≤ h ∧ h ≤ ρ 88 14 - 1) ∧ 0 ≤ n ∧ n ≤ 60 then (aB 0 (argN gtB (standF (ρ 88) h.toNatClampNeg n.toNatClampNeg) 100), ρ) else (errV 1, errS ρ 1)
def goS (ρ : fSt) (n : Int32) : Int32 × fSt := if 0 ≤ n ∧ n ≤ 200 then (if ρ 88 15 = 0 then (errV 3, errS ρ 3) else (aB 0 (argN gtB (goF (ρ 88) n.toNatClampNeg) 7), ρ)) else (errV 1, errS ρ 1)
/-- what was tried ahead and put back -/
def FrB (σ s : fSt) : Prop := ∀ k, k ≠ 88 → k ≠ 90 → k ≠ 96 → k ≠ 97 → s k = σ k
theorem RR_b2 {σ s ρ : fSt} (h : RR σ ρ) (h88 : s 88 = ρ 88) (h90 : s 90 = ρ 88) (he : FrB σ s) : RR s ρ := by
  have := RR_back h h90 he
  rw [h90, ← h88, va_self] at this
  exact this
theorem FrB.R {σ s : fSt} (he : FrB σ s) : FR σ s := fun k hk => he k (by omega) (by omega) (by omega) (by omega)
theorem FrB.step {σ s s1 : fSt} {j : Nat} {x : Int32} (he : FrB σ s) (h : FrT (up2 s 88 j x) s1) : FrB σ (va_up s1 88 (s1 90)) := fun k a b c d => (va_up_o _ _ a).trans ((h k a c d).trans ((up2_kf _ _ _ a).trans (he k a b c d)))
theorem FrT.b90 {s s1 : fSt} {j : Nat} {x : Int32} (h : FrT (up2 s 88 j x) s1) : s1 90 = s 90 := (h 90 (by decide) (by decide) (by decide)).trans (up2_kf _ _ _ (by decide))
set_option maxRecDepth 100000 in
set_option maxHeartbeats 4000000 in
theorem m_X9_pad {G : fGm} {σ : fSt} {τ : fLt} {ρ : fSt} (hC : CR σ ρ) {n : Int32} : MS G iX9_pad 8 [.ref 0, .int n] σ τ (rC τ σ (padS ρ n)) := by
  refine ms_of (by decide +kernel) (Nat.le_of_ble_eq_true rfl) ?_
  show VW _ _ _ _ _ _ 0 [(0, _), (1, _)] []
  refine v_iload_n (I := iX9_pad) dX9_pad_0 rfl ?_
  refine v_iconst (I := iX9_pad) (v := 0) dX9_pad_1 (by decide) ?_
  refine v_sipush (I := iX9_pad) (v := 200) dX9_pad_2 (by decide) ?_
  refine v_callSi (I := iX9_pad) (I' := iX9_within) lk_X9_58 c_X9_within dX9_pad_5 (m_X9_within) rfl rfl (by decide) (by decide) (Nat.le_of_ble_eq_true rfl) ?_
  refine v_if_neB (I := iX9_pad) (tgt := 17) dX9_pad_8 (by decide) (fun c8 => ?_) (fun c8 => ?_)
  · refine v_aload_n (I := iX9_pad) dX9_pad_17 rfl ?_
    refine v_get (I := iX9_pad) g_X9_10 dX9_pad_18 (by decide) (ae_0 _ _) rfl ?_
    refine v_get (I := iX9_pad) g_X9_66 dX9_pad_21 (by decide) (ae_w0 (by decide) _ _) rfl ?_
    refine v_get (I := iX9_pad) g_X9_86 dX9_pad_24 (by decide) (ae_w2 (by decide) _ _) rfl ?_
    rw [V_n14 hC.1]
    refine v_if_ne (I := iX9_pad) (tgt := 36) dX9_pad_27 (by decide) (fun c27 => ?_) (fun c27 => ?_)
    · refine v_iconst (I := iX9_pad) (v := 0) dX9_pad_36 (by decide) ?_
      refine v_istore_n (I := iX9_pad) (ls1 := [(2, _), (0, _), (1, _)]) dX9_pad_37 (by decide) rfl ?_
      refine v_ldc (I := iX9_pad) k_X9_241 dX9_pad_38 ?_
      refine v_istore_n (I := iX9_pad) (ls1 := [(3, _), (2, _), (0, _), (1, _)]) dX9_pad_40 (by decide) rfl ?_
      refine v_iconst (I := iX9_pad) (v := 0) dX9_pad_41 (by decide) ?_
      refine v_istore (I := iX9_pad) (ls1 := [(4, _), (3, _), (2, _), (0, _), (1, _)]) dX9_pad_42 (by decide) rfl ?_
      obtain ⟨q, hq, hqx⟩ : ∃ q, q < 201 ∧ n = nI q := in2_nI (by decide) ⟨by grind, by show n < 201; grind⟩
      have hqc : n.toNatClampNeg = q := by rw [hqx]; exact nI_clamp (by omega)
      obtain ⟨N, hN8, hN⟩ : ∃ N, N ≤ 8 ∧ ρ 88 14 = nI N := B_nat hC.2.2.2.2.2.1.1 14 8 (by decide) (by decide) (by decide)
      have hNc : (ρ 88 14).toNatClampNeg = N := by rw [hN]; exact nI_clamp (by omega)
      have key : ∀ (m k : Nat) {σ9 : fSt} {y x2 x3 : Int32}, k + m = N → FrW 2 σ σ9 → y = nI k → x3 = aL (padF (ρ 88) q) (2147483647) (argN ltB (padF (ρ 88) q) k) → x2 = aB 0 (argN ltB (padF (ρ 88) q) k) → VW G iX9_pad (rC τ σ (padS ρ n)) 8 σ9 τ 44 [(4, .int y), (3, .int x3), (2, .int x2), (0, .ref 0), (1, .int n)] [] := by
        intro m
        induction m with
        | zero =>
          intro k σ9 y x2 x3 hkm hF9 hk hx3 hx2
          have hkN : k = N := hkm
          have hV9 := (CR_ahead hC hF9).1
          show VW _ _ _ _ _ _ 44 [(4, _), (3, _), (2, _), (0, _), (1, _)] []
          refine v_iload (I := iX9_pad) dX9_pad_44 rfl ?_
          refine v_aload_n (I := iX9_pad) dX9_pad_46 rfl ?_
          refine v_get (I := iX9_pad) g_X9_10 dX9_pad_47 (by decide) (ae_0 _ _) rfl ?_
          refine v_get (I := iX9_pad) g_X9_66 dX9_pad_50 (by decide) (ae_w0 (by decide) _ _) rfl ?_
          refine v_get (I := iX9_pad) g_X9_86 dX9_pad_53 (by decide) (ae_w2 (by decide) _ _) rfl ?_
          rw [V_n14 hV9, hN]
          refine v_icmp_ge (I := iX9_pad) (tgt := 129) dX9_pad_56 (by decide) (fun c56 => ?_) (fun c56 => ?_)
          · refine v_iload_n (I := iX9_pad) dX9_pad_129 rfl ?_
            exact v_iret (I := iX9_pad) rfl dX9_pad_130 (by unfold padS; rw [if_pos (by grind), if_neg (by grind), hqc, hNc, ← hkN, ← hx2]; exact ⟨rfl, rfl, CR_ahead hC hF9, FrW.C (by decide) hF9⟩)
          · exact absurd (by rw [hk, hkN]; exact nI_le (by omega) (by omega)) c56
        | succ m ih =>
          intro k σ9 y x2 x3 hkm hF9 hk hx3 hx2
          have hV9 := (CR_ahead hC hF9).1
          have hk8 : k < 8 := by omega
          show VW _ _ _ _ _ _ 44 [(4, _), (3, _), (2, _), (0, _), (1, _)] []
          refine v_iload (I := iX9_pad) dX9_pad_44 rfl ?_
          refine v_aload_n (I := iX9_pad) dX9_pad_46 rfl ?_
          refine v_get (I := iX9_pad) g_X9_10 dX9_pad_47 (by decide) (ae_0 _ _) rfl ?_
          refine v_get (I := iX9_pad) g_X9_66 dX9_pad_50 (by decide) (ae_w0 (by decide) _ _) rfl ?_
          refine v_get (I := iX9_pad) g_X9_86 dX9_pad_53 (by decide) (ae_w2 (by decide) _ _) rfl ?_
          rw [V_n14 hV9, hN]
          refine v_icmp_ge (I := iX9_pad) (tgt := 129) dX9_pad_56 (by decide) (fun c56 => ?_) (fun c56 => ?_)
          · exact absurd c56 (by rw [hk]; exact nI_ge (by omega) (by omega))
          · refine v_aload_n (I := iX9_pad) dX9_pad_59 rfl ?_
            refine v_get (I := iX9_pad) g_X9_19 dX9_pad_60 (by decide) (ae_0 _ _) rfl ?_
            refine v_aload_n (I := iX9_pad) dX9_pad_63 rfl ?_
            refine v_get (I := iX9_pad) g_X9_10 dX9_pad_64 (by decide) (ae_0 _ _) rfl ?_
            refine v_callVvP (I := iX9_pad) (I' := iX8_become) lk_X9_204 c_X8_become dX9_pad_67 (m_X8_become_20) rfl rfl (by decide) (ae_w0 (by decide) _ _) rfl (by decide) (by decide) (Nat.le_of_ble_eq_true rfl) (fun s67 h67 => ?_)
            refine v_aload_n (I := iX9_pad) dX9_pad_70 rfl ?_
            refine v_get (I := iX9_pad) g_X9_19 dX9_pad_71 (by decide) (ae_0 _ _) rfl ?_
            refine v_get (I := iX9_pad) g_X9_66 dX9_pad_74 (by decide) (ae_w0 (by decide) _ _) rfl ?_
            refine v_get (I := iX9_pad) g_X9_242 dX9_pad_77 (by decide) (ae_w2 (by decide) _ _) rfl ?_
            refine v_iload (I := iX9_pad) dX9_pad_80 rfl ?_
            refine v_iconst (I := iX9_pad) (v := 1) dX9_pad_82 (by decide) ?_
            refine v_callSi (I := iX9_pad) (I' := iX9_exchange) lk_X9_78 c_X9_exchange dX9_pad_83 (m_X9_exchange (by decide) (ae_w7 (by decide)) (by decide)) rfl rfl (by decide) (by decide) (Nat.le_of_ble_eq_true rfl) ?_
            rw [wrA_eq hk hk8 (by decide)]
            have hVp := (V_holdU (x := 1) (h67.1 _ hV9) hk8).2.2
            refine v_pop (I := iX9_pad) dX9_pad_86 rfl ?_
            refine v_aload_n (I := iX9_pad) dX9_pad_87 rfl ?_
            refine v_get (I := iX9_pad) g_X9_19 dX9_pad_88 (by decide) (ae_0 _ _) rfl ?_
            refine v_iload_n (I := iX9_pad) dX9_pad_91 rfl ?_
            refine v_callVvP (I := iX9_pad) (I' := iX8_pass) lk_X9_198 c_X8_pass dX9_pad_92 (m_X8_pass (by decide) hVp (IV_pad hC.2.2.2.2.2.1 hk8) hqx (by omega)) rfl rfl (by decide) (ae_w0 (by decide) _ _) rfl (by decide) (by decide) (Nat.le_of_ble_eq_true rfl) (fun s92 h92 => ?_)
            have hFk : FrW 2 σ s92 := (hF9.tr (h67.2.tr (FrW.up (by decide)))).tr h92.2
            refine v_aload_n (I := iX9_pad) dX9_pad_95 rfl ?_
            refine v_get (I := iX9_pad) g_X9_19 dX9_pad_96 (by decide) (ae_0 _ _) rfl ?_
            refine v_get (I := iX9_pad) g_X9_114 dX9_pad_99 (by decide) (ae_w0 (by decide) _ _) rfl ?_
            refine v_bipush (I := iX9_pad) (v := 9) dX9_pad_102 (by decide) ?_
            refine v_ialdN (I := iX9_pad) (j := 9) (by decide) (by decide) (by decide) dX9_pad_104 (by decide) (ae_w1 (by decide) _ _) ?_
            rw [V_child h92.1 (by decide), show gTenths _ q 9 = padF (ρ 88) q k from rfl]
            refine v_iload_n (I := iX9_pad) dX9_pad_105 rfl ?_
            refine v_icmp_ge (I := iX9_pad) (tgt := 123) dX9_pad_106 (by decide) (fun c106 => ?_) (fun c106 => ?_)
            · have ha : argN ltB (padF (ρ 88) q) (k + 1) = argN ltB (padF (ρ 88) q) k := arg_f (z := 2147483647) (by rw [← hx3]; unfold ltB; grind) (padF_z hC.2.2.2.2.2.1 hk8)
              have e3 : x3 = aL (padF (ρ 88) q) (2147483647) (argN ltB (padF (ρ 88) q) (k + 1)) := by rw [ha]; exact hx3
              have e2 : x2 = aB 0 (argN ltB (padF (ρ 88) q) (k + 1)) := by rw [ha]; exact hx2
              refine v_iinc (I := iX9_pad) (ls1 := [(4, _), (3, _), (2, _), (0, _), (1, _)]) dX9_pad_123 rfl rfl (by decide) rfl ?_
              refine v_goto (I := iX9_pad) (tgt := 44) dX9_pad_126 (by decide) ?_
              refine v_pick (I := iX9_pad) (ls1 := [(4, _), (3, _), (2, _), (0, _), (1, _)]) [0, 1, 2, 3, 4] rfl ?_
              exact ih (k + 1) (by omega) hFk (by rw [hk]; exact nI_1 k) e3 e2
            · have ha : argN ltB (padF (ρ 88) q) (k + 1) = some k := arg_t (z := 2147483647) (by rw [← hx3]; unfold ltB; grind)
              have e3 : (padF (ρ 88) q) k = aL (padF (ρ 88) q) (2147483647) (argN ltB (padF (ρ 88) q) (k + 1)) := by rw [ha]; rfl
              have e2 : y = aB 0 (argN ltB (padF (ρ 88) q) (k + 1)) := by rw [ha]; exact hk
              refine v_aload_n (I := iX9_pad) dX9_pad_109 rfl ?_
              refine v_get (I := iX9_pad) g_X9_19 dX9_pad_110 (by decide) (ae_0 _ _) rfl ?_
              refine v_get (I := iX9_pad) g_X9_114 dX9_pad_113 (by decide) (ae_w0 (by decide) _ _) rfl ?_
              refine v_bipush (I := iX9_pad) (v := 9) dX9_pad_116 (by decide) ?_
              refine v_ialdN (I := iX9_pad) (j := 9) (by decide) (by decide) (by decide) dX9_pad_118 (by decide) (ae_w1 (by decide) _ _) ?_
              rw [V_child h92.1 (by decide), show gTenths _ q 9 = padF (ρ 88) q k from rfl]
              refine v_istore_n (I := iX9_pad) (ls1 := [(3, _), (4, _), (2, _), (0, _), (1, _)]) dX9_pad_119 (by decide) rfl ?_
              refine v_iload (I := iX9_pad) dX9_pad_120 rfl ?_
              refine v_istore_n (I := iX9_pad) (ls1 := [(2, _), (3, _), (4, _), (0, _), (1, _)]) dX9_pad_122 (by decide) rfl ?_
              refine v_iinc (I := iX9_pad) (ls1 := [(4, _), (2, _), (3, _), (0, _), (1, _)]) dX9_pad_123 rfl rfl (by decide) rfl ?_
              refine v_goto (I := iX9_pad) (tgt := 44) dX9_pad_126 (by decide) ?_
              refine v_pick (I := iX9_pad) (ls1 := [(4, _), (3, _), (2, _), (0, _), (1, _)]) [0, 2, 1, 3, 4] rfl ?_
              exact ih (k + 1) (by omega) hFk (by rw [hk]; exact nI_1 k) e3 e2
      exact key N 0 (by omega) FrW.rf rfl rfl rfl
    · refine v_aload_n (I := iX9_pad) dX9_pad_30 rfl ?_
      refine v_iconst (I := iX9_pad) (v := 2) dX9_pad_31 (by decide) ?_
      refine v_callVi (I := iX9_pad) (I' := iX9_refused) lk_X9_62 c_X9_refused dX9_pad_32 (m_X9_refused (e := 2) (by decide) (by decide) (by decide)) rfl rfl (by decide) (ae_0 _ _) rfl (by decide) (by decide) (Nat.le_of_ble_eq_true rfl) ?_
      exact v_iret (I := iX9_pad) rfl dX9_pad_35 (by unfold padS; rw [if_pos (by grind), if_pos (by grind)]; exact ⟨rfl, rfl, CR_err hC (by decide) (by decide), FC.up (by decide)⟩)
  · refine v_aload_n (I := iX9_pad) dX9_pad_11 rfl ?_
    refine v_iconst (I := iX9_pad) (v := 1) dX9_pad_12 (by decide) ?_
    refine v_callVi (I := iX9_pad) (I' := iX9_refused) lk_X9_62 c_X9_refused dX9_pad_13 (m_X9_refused (e := 1) (by decide) (by decide) (by decide)) rfl rfl (by decide) (ae_0 _ _) rfl (by decide) (by decide) (Nat.le_of_ble_eq_true rfl) ?_
    exact v_iret (I := iX9_pad) rfl dX9_pad_16 (by unfold padS; rw [if_neg (by grind)]; exact ⟨rfl, rfl, CR_err hC (by decide) (by decide), FC.up (by decide)⟩)
set_option maxRecDepth 100000 in
set_option maxHeartbeats 4000000 in
theorem m_X10_pad {G : fGm} {σ : fSt} {τ : fLt} {ρ : fSt} (hR : RR σ ρ) {n : Int32} : MS G iX10_pad 8 [.ref 87, .int n] σ τ (rR τ σ (padS ρ n)) := by
  refine ms_of (by decide +kernel) (Nat.le_of_ble_eq_true rfl) ?_
  show VW _ _ _ _ _ _ 0 [(0, _), (1, _)] []
  refine v_iload_n (I := iX10_pad) dX10_pad_0 rfl ?_
  refine v_callSi (I := iX10_pad) (I' := iX10_isAhead) lk_X10_264 c_X10_isAhead dX10_pad_1 (m_X10_isAhead) rfl rfl (by decide) (by decide) (Nat.le_of_ble_eq_true rfl) ?_
  refine v_if_neB (I := iX10_pad) (tgt := 14) dX10_pad_4 (by decide) (fun c4 => ?_) (fun c4 => ?_)
  · refine v_aload_n (I := iX10_pad) dX10_pad_14 rfl ?_
    refine v_get (I := iX10_pad) g_X10_9 dX10_pad_15 (by decide) (ae_87 _ _) rfl ?_
    refine v_aload_n (I := iX10_pad) dX10_pad_18 rfl ?_
    refine v_get (I := iX10_pad) g_X10_16 dX10_pad_19 (by decide) (ae_87 _ _) rfl ?_
    refine v_callSv (I := iX10_pad) (I' := iX10_copy) lk_X10_83 c_X10_copy dX10_pad_22 (m_X10_copy (by decide) (by decide) (ae_88) (ae_90) (by decide)) rfl rfl (by decide) (by decide) (Nat.le_of_ble_eq_true rfl) ?_
    refine v_iconst (I := iX10_pad) (v := -1) dX10_pad_25 (by decide) ?_
    refine v_istore_n (I := iX10_pad) (ls1 := [(2, _), (0, _), (1, _)]) dX10_pad_26 (by decide) rfl ?_
    refine v_iconst (I := iX10_pad) (v := 0) dX10_pad_27 (by decide) ?_
    refine v_istore_n (I := iX10_pad) (ls1 := [(3, _), (2, _), (0, _), (1, _)]) dX10_pad_28 (by decide) rfl ?_
    refine v_iconst (I := iX10_pad) (v := 0) dX10_pad_29 (by decide) ?_
    refine v_istore (I := iX10_pad) (ls1 := [(4, _), (3, _), (2, _), (0, _), (1, _)]) dX10_pad_30 (by decide) rfl ?_
    obtain ⟨q, hq, hqx⟩ : ∃ q, q < 201 ∧ n = nI q := in2_nI (by decide) ⟨by grind, by show n < 201; grind⟩
    have hqc : n.toNatClampNeg = q := by rw [hqx]; exact nI_clamp (by omega)
    obtain ⟨N, hN8, hN⟩ : ∃ N, N ≤ 8 ∧ ρ 88 14 = nI N := B_nat hR.2.2.2.2.2.2.2.2.2.2.2.1.1 14 8 (by decide) (by decide) (by decide)
    have hNc : (ρ 88 14).toNatClampNeg = N := by rw [hN]; exact nI_clamp (by omega)
    have key : ∀ (m k : Nat) {σ9 : fSt} {y x2 x3 : Int32}, k + m = N → σ9 88 = ρ 88 → σ9 90 = ρ 88 → FrB σ σ9 → y = nI k → x3 = aL (padF (ρ 88) q) (0) (argN ltB (padF (ρ 88) q) k) → x2 = aB (-1) (argN ltB (padF (ρ 88) q) k) → VW G iX10_pad (rR τ σ (padS ρ n)) 8 σ9 τ 32 [(4, .int y), (3, .int x3), (2, .int x2), (0, .ref 87), (1, .int n)] [] := by
      intro m
      induction m with
      | zero =>
        intro k σ9 y x2 x3 hkm h88 h90 hF9 hk hx3 hx2
        have hkN : k = N := hkm
        skip
        show VW _ _ _ _ _ _ 32 [(4, _), (3, _), (2, _), (0, _), (1, _)] []
        refine v_iload (I := iX10_pad) dX10_pad_32 rfl ?_
        refine v_aload_n (I := iX10_pad) dX10_pad_34 rfl ?_
        refine v_get (I := iX10_pad) g_X10_9 dX10_pad_35 (by decide) (ae_87 _ _) rfl ?_
        refine v_bipush (I := iX10_pad) (v := 14) dX10_pad_38 (by decide) ?_
        refine v_ialdN (I := iX10_pad) (j := 14) (by decide) (by decide) (by decide) dX10_pad_40 (by decide) (ae_88 _ _) ?_
        rw [h88, hN]
        refine v_icmp_ge (I := iX10_pad) (tgt := 99) dX10_pad_41 (by decide) (fun c41 => ?_) (fun c41 => ?_)
        · refine v_iload_n (I := iX10_pad) dX10_pad_99 rfl ?_
          refine v_if_ge (I := iX10_pad) (tgt := 112) dX10_pad_100 (by decide) (fun c100 => ?_) (fun c100 => ?_)
          · have hN0 : 0 < N := by
              rcases Nat.eq_zero_or_pos N with h9 | h9
              · exact absurd c100 (by rw [hx2, hkN, h9]; exact (show ¬ (0 : Int32) ≤ -1 by decide))
              · exact h9
            have hn0 : ¬ ρ 88 14 = 0 := by rw [hN]; exact nI_ne0 hN0 (by omega)
            refine v_iload_n (I := iX10_pad) dX10_pad_112 rfl ?_
            exact v_iret (I := iX10_pad) rfl dX10_pad_113 (by first | (unfold padS; rw [if_pos (by grind), if_pos hn0]; exact ⟨rfl, rfl, RR_err (RR_b2 hR h88 h90 hF9), hF9.R.tr (FR.up (by decide))⟩) | (unfold padS; rw [if_pos (by grind), if_neg hn0, hqc, hNc, ← hkN]; exact ⟨by rw [hx2, aB_s (by omega)], rfl, RR_b2 hR h88 h90 hF9, hF9.R⟩))
          · have hN0 : N = 0 := by
              rcases Nat.eq_zero_or_pos N with h9 | h9
              · exact h9
              · exact absurd ((arg_0 (by omega)).mp (by rw [← hkN, ← hx2]; grind)) (arg_s (R := ltB) (f := padF (ρ 88) q) h9)
            have hn0 : ρ 88 14 = 0 := by rw [hN, hN0]; rfl
            refine v_aload_n (I := iX10_pad) dX10_pad_103 rfl ?_
            refine v_ldc (I := iX10_pad) k_X10_124 dX10_pad_104 ?_
            refine v_callVi (I := iX10_pad) (I' := iX10_finding) lk_X10_92 c_X10_finding dX10_pad_106 (m_X10_findE (e := 2) (by decide) (by decide)) rfl rfl (by decide) (ae_87 _ _) rfl (by decide) (by decide) (Nat.le_of_ble_eq_true rfl) ?_
            refine v_goto (I := iX10_pad) (tgt := 113) dX10_pad_109 (by decide) ?_
            exact v_iret (I := iX10_pad) rfl dX10_pad_113 (by first | (unfold padS; rw [if_pos (by grind), if_pos hn0]; exact ⟨rfl, rfl, RR_err (RR_b2 hR h88 h90 hF9), hF9.R.tr (FR.up (by decide))⟩) | (unfold padS; rw [if_pos (by grind), if_neg hn0, hqc, hNc, ← hkN]; exact ⟨by rw [hx2, aB_s (by omega)], rfl, RR_b2 hR h88 h90 hF9, hF9.R⟩))
        · exact absurd (by rw [hk, hkN]; exact nI_le (by omega) (by omega)) c41
      | succ m ih =>
        intro k σ9 y x2 x3 hkm h88 h90 hF9 hk hx3 hx2
        have hk8 : k < 8 := by omega
        show VW _ _ _ _ _ _ 32 [(4, _), (3, _), (2, _), (0, _), (1, _)] []
        refine v_iload (I := iX10_pad) dX10_pad_32 rfl ?_
        refine v_aload_n (I := iX10_pad) dX10_pad_34 rfl ?_
        refine v_get (I := iX10_pad) g_X10_9 dX10_pad_35 (by decide) (ae_87 _ _) rfl ?_
        refine v_bipush (I := iX10_pad) (v := 14) dX10_pad_38 (by decide) ?_
        refine v_ialdN (I := iX10_pad) (j := 14) (by decide) (by decide) (by decide) dX10_pad_40 (by decide) (ae_88 _ _) ?_
        rw [h88, hN]
        refine v_icmp_ge (I := iX10_pad) (tgt := 99) dX10_pad_41 (by decide) (fun c41 => ?_) (fun c41 => ?_)
        · exact absurd c41 (by rw [hk]; exact nI_ge (by omega) (by omega))
        · refine v_aload_n (I := iX10_pad) dX10_pad_44 rfl ?_
          refine v_get (I := iX10_pad) g_X10_9 dX10_pad_45 (by decide) (ae_87 _ _) rfl ?_
          refine v_bipush (I := iX10_pad) (v := 39) dX10_pad_48 (by decide) ?_
          refine v_iconst (I := iX10_pad) (v := 3) dX10_pad_50 (by decide) ?_
          refine v_iload (I := iX10_pad) dX10_pad_51 rfl ?_
          refine v_imul (I := iX10_pad) dX10_pad_53 ?_
          refine v_iadd (I := iX10_pad) dX10_pad_54 ?_
          refine v_iconst (I := iX10_pad) (v := 2) dX10_pad_55 (by decide) ?_
          refine v_iadd (I := iX10_pad) dX10_pad_56 ?_
          refine v_iconst (I := iX10_pad) (v := 1) dX10_pad_57 (by decide) ?_
          refine v_iastN (I := iX10_pad) (j := (39 + 3 * k + 2)) (by rw [hk]; exact ix3 39 39 rfl k 2) (by omega) (by decide) dX10_pad_58 (by decide) (fun _ => ae_88 _ _) ?_
          refine v_aload_n (I := iX10_pad) dX10_pad_59 rfl ?_
          refine v_iload_n (I := iX10_pad) dX10_pad_60 rfl ?_
          refine v_callVvP (I := iX10_pad) (I' := iX10_tenthsGo) lk_X10_261 c_X10_tenthsGo dX10_pad_61 (m_X10_tenthsGo (by rw [up2_f, h88]; exact IV_pad hR.2.2.2.2.2.2.2.2.2.2.2.1 hk8) hqx (by omega)) rfl rfl (by decide) (ae_87 _ _) rfl (by decide) (by decide) (Nat.le_of_ble_eq_true rfl) (fun s61 h61 => ?_)
          have hg : s61 88 = gTenths (va_up (ρ 88) (39 + 3 * k + 2) 1) q := by rw [h61.1, up2_f, h88]
          have h90k : s61 90 = ρ 88 := h61.2.b90.trans h90
          have hFk := hF9.step h61.2
          refine v_aload_n (I := iX10_pad) dX10_pad_64 rfl ?_
          refine v_aload_n (I := iX10_pad) dX10_pad_65 rfl ?_
          refine v_get (I := iX10_pad) g_X10_9 dX10_pad_66 (by decide) (ae_87 _ _) rfl ?_
          refine v_bipush (I := iX10_pad) (v := 9) dX10_pad_69 (by decide) ?_
          refine v_ialdN (I := iX10_pad) (j := 9) (by decide) (by decide) (by decide) dX10_pad_71 (by decide) (ae_88 _ _) ?_
          rw [hg, show gTenths _ q 9 = padF (ρ 88) q k from rfl]
          refine v_callVi (I := iX10_pad) (I' := iX10_putBack) lk_X10_267 c_X10_putBack dX10_pad_72 (m_X10_putBack) rfl rfl (by decide) (ae_87 _ _) rfl (by decide) (by decide) (Nat.le_of_ble_eq_true rfl) ?_
          refine v_istore (I := iX10_pad) (ls1 := [(5, _), (4, _), (3, _), (2, _), (0, _), (1, _)]) dX10_pad_75 (by decide) rfl ?_
          refine v_iload_n (I := iX10_pad) dX10_pad_77 rfl ?_
          refine v_if_lt (I := iX10_pad) (tgt := 87) dX10_pad_78 (by decide) (fun c78 => ?_) (fun c78 => ?_)
          · have ha : argN ltB (padF (ρ 88) q) (k + 1) = some k := arg_t1 (by omega) (by rw [← hx2]; exact c78)
            have e3 : (padF (ρ 88) q) k = aL (padF (ρ 88) q) 0 (argN ltB (padF (ρ 88) q) (k + 1)) := by rw [ha]; rfl
            have e2 : y = aB (-1) (argN ltB (padF (ρ 88) q) (k + 1)) := by rw [ha]; exact hk
            refine v_iload (I := iX10_pad) dX10_pad_87 rfl ?_
            refine v_istore_n (I := iX10_pad) (ls1 := [(2, _), (5, _), (4, _), (3, _), (0, _), (1, _)]) dX10_pad_89 (by decide) rfl ?_
            refine v_iload (I := iX10_pad) dX10_pad_90 rfl ?_
            refine v_istore_n (I := iX10_pad) (ls1 := [(3, _), (2, _), (5, _), (4, _), (0, _), (1, _)]) dX10_pad_92 (by decide) rfl ?_
            refine v_iinc (I := iX10_pad) (ls1 := [(4, _), (3, _), (2, _), (5, _), (0, _), (1, _)]) dX10_pad_93 rfl rfl (by decide) rfl ?_
            refine v_goto (I := iX10_pad) (tgt := 32) dX10_pad_96 (by decide) ?_
            refine v_pick (I := iX10_pad) (ls1 := [(4, _), (3, _), (2, _), (0, _), (1, _)]) [0, 1, 2, 4, 5] rfl ?_
            exact ih (k + 1) (by omega) (va_up_s _ _ _ |>.trans h90k) ((va_up_o _ _ (by decide)).trans h90k) hFk (by rw [hk]; exact nI_1 k) e3 e2
          · refine v_iload (I := iX10_pad) dX10_pad_81 rfl ?_
            refine v_iload_n (I := iX10_pad) dX10_pad_83 rfl ?_
            refine v_icmp_ge (I := iX10_pad) (tgt := 93) dX10_pad_84 (by decide) (fun c84 => ?_) (fun c84 => ?_)
            · have ha : argN ltB (padF (ρ 88) q) (k + 1) = argN ltB (padF (ρ 88) q) k := arg_f1 (z := 0) (by omega) (by rw [← hx2]; exact c78) (by rw [← hx3]; unfold ltB; grind)
              have e3 : x3 = aL (padF (ρ 88) q) 0 (argN ltB (padF (ρ 88) q) (k + 1)) := by rw [ha]; exact hx3
              have e2 : x2 = aB (-1) (argN ltB (padF (ρ 88) q) (k + 1)) := by rw [ha]; exact hx2
              refine v_iinc (I := iX10_pad) (ls1 := [(4, _), (5, _), (3, _), (2, _), (0, _), (1, _)]) dX10_pad_93 rfl rfl (by decide) rfl ?_
              refine v_goto (I := iX10_pad) (tgt := 32) dX10_pad_96 (by decide) ?_
              refine v_pick (I := iX10_pad) (ls1 := [(4, _), (3, _), (2, _), (0, _), (1, _)]) [0, 2, 3, 4, 5] rfl ?_
              exact ih (k + 1) (by omega) (va_up_s _ _ _ |>.trans h90k) ((va_up_o _ _ (by decide)).trans h90k) hFk (by rw [hk]; exact nI_1 k) e3 e2
            · have ha : argN ltB (padF (ρ 88) q) (k + 1) = some k := arg_t (z := 0) (by rw [← hx3]; unfold ltB; grind)
              have e3 : (padF (ρ 88) q) k = aL (padF (ρ 88) q) 0 (argN ltB (padF (ρ 88) q) (k + 1)) := by rw [ha]; rfl
              have e2 : y = aB (-1) (argN ltB (padF (ρ 88) q) (k + 1)) := by rw [ha]; exact hk
              refine v_iload (I := iX10_pad) dX10_pad_87 rfl ?_
              refine v_istore_n (I := iX10_pad) (ls1 := [(2, _), (5, _), (4, _), (3, _), (0, _), (1, _)]) dX10_pad_89 (by decide) rfl ?_
              refine v_iload (I := iX10_pad) dX10_pad_90 rfl ?_
              refine v_istore_n (I := iX10_pad) (ls1 := [(3, _), (2, _), (5, _), (4, _), (0, _), (1, _)]) dX10_pad_92 (by decide) rfl ?_
              refine v_iinc (I := iX10_pad) (ls1 := [(4, _), (3, _), (2, _), (5, _), (0, _), (1, _)]) dX10_pad_93 rfl rfl (by decide) rfl ?_
              refine v_goto (I := iX10_pad) (tgt := 32) dX10_pad_96 (by decide) ?_
              refine v_pick (I := iX10_pad) (ls1 := [(4, _), (3, _), (2, _), (0, _), (1, _)]) [0, 1, 2, 4, 5] rfl ?_
              exact ih (k + 1) (by omega) (va_up_s _ _ _ |>.trans h90k) ((va_up_o _ _ (by decide)).trans h90k) hFk (by rw [hk]; exact nI_1 k) e3 e2
    exact key N 0 (by omega) ((va_up_o _ _ (by decide)).trans hR.1) ((va_up_s _ _ _).trans hR.1) (fun k _ b _ _ => va_up_o _ _ b) rfl rfl rfl
  · refine v_aload_n (I := iX10_pad) dX10_pad_7 rfl ?_
    refine v_ldc (I := iX10_pad) k_X10_91 dX10_pad_8 ?_
    refine v_callVi (I := iX10_pad) (I' := iX10_finding) lk_X10_92 c_X10_finding dX10_pad_10 (m_X10_findE (e := 1) (by decide) (by decide)) rfl rfl (by decide) (ae_87 _ _) rfl (by decide) (by decide) (Nat.le_of_ble_eq_true rfl) ?_
    exact v_iret (I := iX10_pad) rfl dX10_pad_13 (by unfold padS; rw [if_neg (by grind)]; exact ⟨rfl, rfl, RR_err hR, FR.up (by decide)⟩)
