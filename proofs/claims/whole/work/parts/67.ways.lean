/-! WAYS: rows of draws as numbers -/
def lF (f : Nat → Nat) : Nat → Int64 := fun j => lN (f j)
def sumN (f : Nat → Nat) : Nat → Nat
  | 0 => 0
  | n + 1 => sumN f n + f n
abbrev wS : Type := (Nat → Nat) × Nat
def wLean (sl : Int32) (s k e : Nat) : Int32 := nI k - 99 + (nI k - 99) / 5 + (nI e - nI s) + sl
def wTo (st : Bool) (b l : Int32) : Int32 := if st = true then gNearer l b else l
def wOne (sl b : Int32) (st : Bool) (s r k e : Nat) (p : wS) : wS :=
  if -99 ≤ wLean sl s k e ∧ wLean sl s k e ≤ 99 then (va_up p.1 (wTo st b (wLean sl s k e) + 99).toNatClampNeg (p.1 (wTo st b (wLean sl s k e) + 99).toNatClampNeg + r), p.2) else (p.1, p.2 + r)
def wRow (sl b : Int32) (st : Bool) (s r k : Nat) : Nat → wS → wS
  | 0, p => p
  | n + 1, p => wOne sl b st s r k n (wRow sl b st s r k n p)
def wAll (sl b : Int32) (st : Bool) (s : Nat) (R : Nat → Nat) : Nat → wS
  | 0 => (fun _ => 0, 0)
  | k + 1 => if R k = 0 then wAll sl b st s R k else wRow sl b st s (R k) k (2 * s + 1) (wAll sl b st s R k)
theorem sumN_up {f : Nat → Nat} {j x : Nat} : ∀ n, sumN (va_up f j (f j + x)) n = sumN f n + if j < n then x else 0 := by
  intro n
  induction n with
  | zero => rfl
  | succ n ih =>
    show sumN (va_up f j (f j + x)) n + va_up f j (f j + x) n = sumN f n + f n + _
    rw [ih]
    by_cases h : j = n
    · subst h
      rw [va_up_s]
      rw [if_neg (by omega), if_pos (by omega)]
      omega
    · rw [va_up_o _ _ (Ne.symm h)]
      by_cases h2 : j < n
      · rw [if_pos h2, if_pos (by omega)]; omega
      · rw [if_neg h2, if_neg (by omega)]; omega
theorem sumN_le {f : Nat → Nat} : ∀ n j, j < n → f j ≤ sumN f n := by
  intro n
  induction n with
  | zero => intro j h; omega
  | succ n ih =>
    intro j h
    show f j ≤ sumN f n + f n
    by_cases e : j = n
    · subst e; omega
    · have := ih j (by omega); omega
theorem sumN_0 : ∀ n, sumN (fun _ => 0) n = 0 := by
  intro n
  induction n with
  | zero => rfl
  | succ n ih => show sumN _ n + 0 = 0; rw [ih]
theorem wTo_ix {st : Bool} {b l : Int32} (hb : 0 ≤ b) (hl : -99 ≤ l ∧ l ≤ 99) : ∃ j, j < 199 ∧ wTo st b l + 99 = nI j ∧ (wTo st b l + 99).toNatClampNeg = j ∧ 99 + wTo st b l = nI j := by
  have h : -99 ≤ wTo st b l ∧ wTo st b l ≤ 99 := by
    unfold wTo
    split
    · exact gNearer_in hl hb
    · exact hl
  obtain ⟨j, hj, e⟩ := in2_nI (x := wTo st b l + 99) (n := 199) (by decide) ⟨by have := h.1; have := h.2; grind, by have := h.1; have := h.2; show _ < (199 : Int32); grind⟩
  exact ⟨j, hj, e, by rw [e]; exact nI_clamp (by omega), by rw [← e]; grind⟩
theorem wOne_sum {sl b : Int32} {st : Bool} {s r k e : Nat} {p : wS} (hb : 0 ≤ b) : sumN (wOne sl b st s r k e p).1 199 + (wOne sl b st s r k e p).2 = sumN p.1 199 + p.2 + r := by
  unfold wOne
  split
  · rename_i h
    obtain ⟨j, hj, e1, e2, _⟩ := wTo_ix (st := st) hb h
    rw [e2]
    show sumN (va_up p.1 j (p.1 j + r)) 199 + p.2 = _
    rw [sumN_up, if_pos hj]
    omega
  · show sumN p.1 199 + (p.2 + r) = _
    omega
theorem wRow_sum {sl b : Int32} {st : Bool} {s r k : Nat} {p : wS} (hb : 0 ≤ b) : ∀ n, sumN (wRow sl b st s r k n p).1 199 + (wRow sl b st s r k n p).2 = sumN p.1 199 + p.2 + n * r := by
  intro n
  induction n with
  | zero => show _ = _ + 0 * r; simp [wRow]
  | succ n ih =>
    show sumN (wOne sl b st s r k n (wRow sl b st s r k n p)).1 199 + (wOne sl b st s r k n (wRow sl b st s r k n p)).2 = _
    rw [wOne_sum hb, ih, Nat.succ_mul]
    omega
theorem wAll_sum {sl b : Int32} {st : Bool} {s : Nat} {R : Nat → Nat} (hb : 0 ≤ b) : ∀ n, sumN (wAll sl b st s R n).1 199 + (wAll sl b st s R n).2 = (2 * s + 1) * sumN R n := by
  intro n
  induction n with
  | zero => show sumN (fun _ => 0) 199 + 0 = (2 * s + 1) * 0; rw [sumN_0]; rfl
  | succ n ih =>
    show sumN (if R n = 0 then wAll sl b st s R n else wRow sl b st s (R n) n (2 * s + 1) (wAll sl b st s R n)).1 199 + (if R n = 0 then wAll sl b st s R n else wRow sl b st s (R n) n (2 * s + 1) (wAll sl b st s R n)).2 = (2 * s + 1) * (sumN R n + R n)
    by_cases h : R n = 0
    · rw [if_pos h, ih, h]; rfl
    · rw [if_neg h, wRow_sum hb, ih, Nat.mul_add]
/-- a tenth of the rows: the child goes on as if it never fell -/
def gWay (g : gS) : gS := gOne (if gIsStepI g (gNow g) = true then va_up g 0 (gCellOn g (gNow g)) else g)
def gSwN (g : gS) : Nat := (gSways g (gNow g)).toNatClampNeg
abbrev wQ : Type := gS × (Nat → Nat) × Nat × Nat
def wP (g : gS) (R : Nat → Nat) (n : Nat) : wS := wAll (gSlope g) (gBy g (gNow g)) (gIsStepI g (gNow g)) (gSwN g) R n
def wStep (q : wQ) : wQ := (gWay q.1, (wP q.1 q.2.1 199).1, q.2.2.1 * (2 * gSwN q.1 + 1) + (wP q.1 q.2.1 199).2, q.2.2.2 * (2 * gSwN q.1 + 1))
def wGo : Nat → wQ → wQ
  | 0, q => q
  | n + 1, q => wGo n (wStep q)
def wI (i : Nat) (q : wQ) : Prop := IV q.1 ∧ 0 < q.1 15 ∧ sumN q.2.1 199 + q.2.2.1 = q.2.2.2 ∧ 1 ≤ q.2.2.2 ∧ q.2.2.2 ≤ 19 ^ i
theorem sways_in {g : gS} {i : Nat} (hB : B g) (hi : i < 8) : ∃ s, s ≤ 9 ∧ gSways g i = nI s := by
  have h := hB 3 (by decide)
  have h3 : (0 : Int32) ≤ g 3 ∧ g 3 ≤ 9 := h
  have : 0 ≤ gSways g i ∧ gSways g i ≤ 9 := by
    unfold gSways
    have h9 : 0 ≤ hld (g 3 + gM g i / 25) 0 9 ∧ hld (g 3 + gM g i / 25) 0 9 ≤ 9 := hld_in (by decide)
    generalize hld (g 3 + gM g i / 25) 0 9 = z at h9 ⊢
    have h33 : 0 ≤ g 3 / 3 ∧ g 3 / 3 ≤ 9 := by
      obtain ⟨j, hj, e⟩ := in2_nI (x := g 3) (n := 10) (by decide) ⟨h3.1, by have := h3.2; show g 3 < 10; grind⟩
      rw [e, show (3 : Int32) = nI 3 from rfl, pk_div (by omega) (by decide) (by decide)]
      exact ⟨nI_pos' (by omega), nI_le (b := 9) (by omega) (by decide)⟩
    repeat' split
    all_goals first | exact h33 | exact h3 | exact h9 | exact ⟨by decide, by decide⟩
  obtain ⟨j, hj, e⟩ := in2_nI (x := gSways g i) (n := 10) (by decide) ⟨this.1, by have := this.2; show _ < (10 : Int32); grind⟩
  exact ⟨j, by omega, e⟩
theorem now_in {g : gS} (h : IV g) (h15 : 0 < g 15) : gNow g < 8 ∧ g 11 = nI (gNow g) ∧ g 11 < g 15 := by
  have h1 := (h.2.2.2.1 h15).1
  obtain ⟨j, hj, e⟩ := in2_nI (x := g 11) (n := 8) (by decide) ⟨(h.1 11 (by decide)).1, by
    have h2 : g 11 ≤ 7 := (h.1 11 (by decide)).2
    show g 11 < 8; grind⟩
  have e2 : gNow g = j := by unfold gNow; rw [e]; exact nI_clamp (by omega)
  exact ⟨by omega, by rw [e2]; exact e, h1⟩
theorem swN_in {g : gS} (h : IV g) (h15 : 0 < g 15) : gSwN g ≤ 9 ∧ gSways g (gNow g) = nI (gSwN g) := by
  obtain ⟨s, hs, e⟩ := sways_in h.1 (now_in h h15).1
  have : gSwN g = s := by unfold gSwN; rw [e]; exact nI_clamp (by omega)
  exact ⟨by omega, by rw [this]; exact e⟩
theorem IV_way {g : gS} (h : IV g) (h15 : 0 < g 15) : IV (gWay g) ∧ gWay g 15 = g 15 := by
  unfold gWay
  split
  · exact ⟨IV_one (IV_up h ⟨by decide, by decide, by decide, by decide, fun j hj => by omega⟩ ⟨by have h1 := gCellOn_in (i := gNow g) h.1; have h2 : (0 : Int32) ≤ g 0 := (h.1 0 (by decide)).1; show (0 : Int32) ≤ _; grind, (gCellOn_in h.1).2⟩) (by rw [va_up_o _ _ (by decide)]; exact h15), by rw [gOne15, va_up_o _ _ (by decide)]⟩
  · exact ⟨IV_one h h15, gOne15 g⟩
theorem wI_step {i : Nat} {q : wQ} (h : wI i q) : wI (i + 1) (wStep q) := by
  obtain ⟨h1, h2, h3, h4, h5⟩ := h
  have hw := IV_way h1 h2
  have hs := (swN_in h1 h2).1
  refine ⟨hw.1, by rw [show (wStep q).1 = gWay q.1 from rfl, hw.2]; exact h2, ?_, ?_, ?_⟩
  · have h9 := wAll_sum (sl := gSlope q.1) (st := gIsStepI q.1 (gNow q.1)) (s := gSwN q.1) (R := q.2.1) (gBy_in q.1 (gNow q.1)) 199
    have e : sumN (wP q.1 q.2.1 199).1 199 + (wP q.1 q.2.1 199).2 = (2 * gSwN q.1 + 1) * sumN q.2.1 199 := h9
    show sumN (wP q.1 q.2.1 199).1 199 + (q.2.2.1 * (2 * gSwN q.1 + 1) + (wP q.1 q.2.1 199).2) = q.2.2.2 * (2 * gSwN q.1 + 1)
    rw [← h3, Nat.add_mul, Nat.mul_comm (sumN q.2.1 199), ← e]
    omega
  · show 1 ≤ q.2.2.2 * (2 * gSwN q.1 + 1)
    exact Nat.mul_pos h4 (by omega)
  · show q.2.2.2 * (2 * gSwN q.1 + 1) ≤ 19 ^ (i + 1)
    rw [Nat.pow_succ]
    exact Nat.mul_le_mul h5 (by omega)
theorem wI_lt {i : Nat} {q : wQ} (h : wI i q) (hi : i ≤ 8) : q.2.2.2 < 2 ^ 34 ∧ q.2.2.1 ≤ q.2.2.2 ∧ ∀ j, j < 199 → q.2.1 j < 2 ^ 34 := by
  obtain ⟨h1, h2, h3, h4, h5⟩ := h
  have h6 : q.2.2.2 < 2 ^ 34 := Nat.lt_of_le_of_lt (Nat.le_trans h5 (Nat.pow_le_pow_right (by decide) hi)) (by decide)
  refine ⟨h6, by omega, fun j hj => ?_⟩
  have := sumN_le (f := q.2.1) 199 j hj
  omega
def wR0 (l : Int32) : Nat → Nat := fun j => if nI j = 99 + l then 1 else 0
theorem sum_R0 {n0 : Nat} : ∀ n, sumN (fun j => if j = n0 then 1 else 0) n = if n0 < n then 1 else 0 := by
  intro n
  induction n with
  | zero => rfl
  | succ n ih =>
    show sumN _ n + (if n = n0 then 1 else 0) = _
    rw [ih]
    split <;> split <;> split <;> omega
theorem wR0_eq {l : Int32} {n0 : Nat} (h : 99 + l = nI n0) (h0 : n0 < 199) : ∀ j, j < 199 → wR0 l j = if j = n0 then 1 else 0 := by
  intro j hj
  unfold wR0
  rw [h]
  by_cases e : j = n0
  · subst e; rw [if_pos rfl, if_pos rfl]
  · rw [if_neg e, if_neg (fun h9 => e (by have := congrArg Int32.toNatClampNeg h9; rwa [nI_clamp (by omega), nI_clamp (by omega)] at this))]
theorem sumN_congr {f f2 : Nat → Nat} : ∀ n, (∀ j, j < n → f j = f2 j) → sumN f n = sumN f2 n := by
  intro n
  induction n with
  | zero => intro _; rfl
  | succ n ih => intro h; show sumN f n + f n = sumN f2 n + f2 n; rw [ih fun j hj => h j (by omega), h n (by omega)]
theorem lean_ix {g : gS} (hB : B g) : ∃ n0, n0 < 199 ∧ 99 + g 1 = nI n0 ∧ g 1 + 99 = nI n0 := by
  have h1 : -99 ≤ g 1 ∧ g 1 ≤ 99 := hB 1 (by decide)
  obtain ⟨j, hj, e⟩ := in2_nI (x := g 1 + 99) (n := 199) (by decide) ⟨by have := h1.1; have := h1.2; grind, by have := h1.1; have := h1.2; show _ < (199 : Int32); grind⟩
  exact ⟨j, hj, by rw [← e]; grind, e⟩
theorem wI_0 {g : gS} (h : IV g) (h15 : 0 < g 15) : wI 0 (g, wR0 (g 1), 0, 1) := by
  obtain ⟨n0, hn, e, _⟩ := lean_ix h.1
  refine ⟨h, h15, ?_, Nat.le_refl 1, Nat.le_refl 1⟩
  show sumN (wR0 (g 1)) 199 + 0 = 1
  rw [sumN_congr 199 (wR0_eq e hn), sum_R0, if_pos hn]
theorem wI_go : ∀ (n i : Nat) {q : wQ}, wI i q → wI (i + n) (wGo n q) := by
  intro n
  induction n with
  | zero => intro i q h; exact h
  | succ n ih => intro i q h; have := ih (i + 1) (wI_step h); rwa [show i + 1 + n = i + (n + 1) by omega] at this
/-- Euclid: a step halves the product -/
theorem eu_half {d r m : Nat} (hr : 0 < r) (hd : r ≤ d) (h : d * r < 2 ^ (m + 1)) : r * (d % r) < 2 ^ m ∧ d % r ≤ r := by
  have h1 := Nat.mod_lt d hr
  have h2 : 2 * (d % r) ≤ d := by
    have h3 := Nat.div_add_mod d r
    have h4 : 1 ≤ d / r := (Nat.one_le_div_iff hr).mpr hd
    have h5 : r * 1 ≤ r * (d / r) := Nat.mul_le_mul_left r h4
    omega
  have h6 : r * (2 * (d % r)) ≤ r * d := Nat.mul_le_mul_left r h2
  rw [Nat.pow_succ, Nat.mul_comm d r] at h
  rw [Nat.mul_left_comm] at h6
  exact ⟨by omega, by omega⟩
theorem eu_gcd {d r : Nat} : Nat.gcd r (d % r) = Nat.gcd d r := by
  rw [Nat.gcd_comm d r, Nat.gcd_rec r d, Nat.gcd_comm]
theorem eu_0 {d r : Nat} (h : d * r < 2 ^ 0) (hd : 0 < d) : r = 0 := by
  rcases Nat.eq_zero_or_pos r with h1 | h1
  · exact h1
  · have := Nat.mul_pos hd h1
    omega
theorem lF_up {τ : fLt} {k j r : Nat} {T : Nat → Nat} : up2L (va_up τ k (lF T)) k j (lN (T j) + lN r) = va_up τ k (lF (va_up T j (T j + r))) := by
  unfold up2L
  rw [va_up_s, va_up_va]
  congr 1
  funext q
  unfold lF
  by_cases h : q = j
  · subst h; rw [va_up_s, va_up_s, lN_add]
  · rw [va_up_o _ _ h, va_up_o _ _ h]
theorem nd_le : ∀ s, s < 10 → ∀ e, e < 20 → (nI s < nI e - nI s ↔ 2 * s < e) := by decide +kernel
theorem nd_0 : ∀ s, s < 10 → -nI s = nI 0 - nI s := by decide +kernel
theorem nd_1 {e s : Nat} : nI e - nI s + 1 = nI (e + 1) - nI s := by rw [← nI_1]; grind
theorem nd_m : ∀ s, s < 10 → (2 * nI s + 1).toInt64 = lN (2 * s + 1) := by decide +kernel
/-- the class's row: steps and yards besides -/
def cW (g : gS) (a b : Int32) : gS := va_up (va_up g 8 a) 10 b
theorem cW_o {g : gS} {a b : Int32} {i : Nat} (h : i ≠ 8) (h2 : i ≠ 10) : cW g a b i = g i := by unfold cW; rw [va_up_o _ _ h2, va_up_o _ _ h]
theorem cW_now {g : gS} {a b : Int32} : gNow (cW g a b) = gNow g := by unfold gNow; rw [cW_o (by decide) (by decide)]
theorem cW_has {g : gS} {a b : Int32} : gHasI (cW g a b) = gHasI g := by unfold cW; rw [gHas_up (by decide) (by decide) (by decide) (by decide), gHas_up (by decide) (by decide) (by decide) (by decide)]
theorem cW_sways {g : gS} {a b : Int32} {i : Nat} : gSways (cW g a b) i = gSways g i := by
  unfold gSways gK gM
  rw [cW_has, cW_o (by omega) (by omega), cW_o (by omega) (by omega), cW_o (by omega) (by omega)]
theorem cW_slope {g : gS} {a b : Int32} : gSlope (cW g a b) = gSlope g := by unfold cW; rw [gSlope_up (by decide) (by decide), gSlope_up (by decide) (by decide)]
theorem cW_pace {g : gS} {a b : Int32} {i : Nat} : gPace (cW g a b) i = gPace g i := by unfold cW; rw [gPace_up (by decide) (by decide) (by decide) (by decide), gPace_up (by decide) (by decide) (by decide) (by decide)]
theorem cW_stride {g : gS} {a b : Int32} {i : Nat} : gStride (cW g a b) i = gStride g i := by unfold cW; rw [gStride_up (by decide) (by decide) (by decide) (by decide), gStride_up (by decide) (by decide) (by decide) (by decide)]
theorem cW_isStep {g : gS} {a b : Int32} {i : Nat} : gIsStepI (cW g a b) i = gIsStepI g i := by
  unfold gIsStepI gTn
  rw [cW_pace, cW_o (by omega) (by omega), cW_o (by decide) (by decide)]
theorem cW_by {g : gS} {a b : Int32} {i : Nat} : gBy (cW g a b) i = gBy g i := by
  unfold gBy cW
  rw [gCatch_up (by decide) (by decide) (by decide) (by decide) (by decide) (by decide) (by decide), gCatch_up (by decide) (by decide) (by decide) (by decide) (by decide) (by decide) (by decide), gSlip_up (by decide) (by decide), gSlip_up (by decide) (by decide)]
theorem cW_swN {g : gS} {a b : Int32} : gSwN (cW g a b) = gSwN g := by unfold gSwN; rw [cW_now, cW_sways]
theorem cW_wP {g : gS} {a b : Int32} {R : Nat → Nat} {n : Nat} : wP (cW g a b) R n = wP g R n := by unfold wP; rw [cW_slope, cW_now, cW_by, cW_isStep, cW_swN]
theorem cW_up {g : gS} {a b x : Int32} {i : Nat} (h : i ≠ 8) (h2 : i ≠ 10) : va_up (cW g a b) i x = cW (va_up g i x) a b := by
  unfold cW
  rw [va_comm _ _ _ h2.symm, va_comm g _ _ h.symm]
theorem cW_come {g : gS} {a b x : Int32} : gCome (cW g a b) x = cW (gCome g x) a b := by
  unfold gCome
  rw [cW_o (by decide) (by decide), cW_o (by omega) (by omega), cW_up (by decide) (by decide), cW_up (by decide) (by decide)]
theorem cW_one {g : gS} {a b : Int32} : gOne (cW g a b) = cW (gOne g) a b := by
  have e : gNext (cW g a b) = gNext g := by unfold gNext; rw [cW_o (by decide) (by decide), cW_o (by decide) (by decide)]
  unfold gOne
  rw [e, cW_o (by decide) (by decide), cW_up (by decide) (by decide), cW_come]
  split <;> rfl
theorem cW_8 {g : gS} {a b x : Int32} : va_up (cW g a b) 8 x = cW g x b := by
  unfold cW
  rw [va_comm _ _ _ (show (10 : Nat) ≠ 8 by decide), va_up_va]
theorem cW_10 {g : gS} {a b x : Int32} : va_up (cW g a b) 10 x = cW g a x := by
  unfold cW
  rw [va_up_va]
theorem cW_cellOn {g : gS} {a b : Int32} {i : Nat} : gCellOn (cW g a b) i = gCellOn g i := by
  unfold gCellOn
  rw [cW_o (by decide) (by decide), cW_stride]
theorem cW_step {g : gS} {a b : Int32} {i : Nat} : ∃ a' b', gStepOn (cW g a b) i = cW (va_up g 0 (gCellOn g i)) a' b' := by
  have e : ∀ x : Int32, gMore (cW g a b) 8 x = cW g (if cW g a b 8 + x < 999999 then cW g a b 8 + x else 999999) b := fun x => by unfold gMore; rw [cW_8]
  unfold gStepOn gStepped
  rw [e, cW_cellOn]
  generalize (if cW g a b 8 + 1 < 999999 then cW g a b 8 + 1 else 999999) = a'
  rw [cW_up (by decide) (by decide)]
  unfold gMore
  rw [cW_10]
  exact ⟨_, _, rfl⟩
theorem cW_id {g : gS} : g = cW g (g 8) (g 10) := by
  unfold cW
  funext q
  by_cases h : q = 10
  · subst h; rw [va_up_s]
  · rw [va_up_o _ _ h]
    by_cases h2 : q = 8
    · subst h2; rw [va_up_s]
    · rw [va_up_o _ _ h2]
theorem cW_way {g : gS} {a b : Int32} : ∃ a' b', gOne (if gIsStepI g (gNow g) = true then gStepOn (cW g a b) (gNow g) else cW g a b) = cW (gWay g) a' b' := by
  unfold gWay
  by_cases h : gIsStepI g (gNow g) = true
  · rw [if_pos h, if_pos h]
    obtain ⟨a', b', e⟩ := cW_step (g := g) (a := a) (b := b) (i := gNow g)
    exact ⟨a', b', by rw [e, cW_one]⟩
  · rw [if_neg h, if_neg h]
    exact ⟨a, b, cW_one⟩
