/-! WHAT HOLDS OF THE ROW, and what keeps it -/
theorem B_up {g : gS} {i : Nat} {x : Int32} (hB : B g) (h : i < 171 → (bnd i).1 ≤ x ∧ x ≤ (bnd i).2) : B (va_up g i x) := by
  intro j hj
  by_cases e : j = i
  · subst e
    rw [va_up_s]
    exact h hj
  · rw [va_up_o _ _ e]
    exact hB j hj
/-- of the goings -/
def RN (g : gS) : Prop := (0 < g 15 → g 11 < g 15 ∧ 1 ≤ g 12 ∧ ∀ j, j < 8 → nI j < g 15 → 1 ≤ g (63 + 3 * j + 2)) ∧ (g 15 = 0 → g 11 = 0 ∧ g 12 = 0)
def IV (g : gS) : Prop := B g ∧ tOK g 0 ∧ tOK g 1 ∧ RN g
theorem tOK_congr {g g' : gS} {u : Nat} (hu : u < 2) (h : ∀ j, 171 ≤ j → g' j = g j) (hW : tOK g u) : tOK g' u := by
  obtain ⟨n, hn, e, hr⟩ := hW
  refine ⟨n, hn, (h _ (by omega)).trans e, fun h0 => ?_⟩
  have : gCode g' u = gCode g u := by
    unfold gCode
    rw [h (171 + 62 * u) (by omega)]
    exact List.map_congr_left fun j _ => h _ (by omega)
  rw [this]
  exact hr h0
theorem tOK_up {g : gS} {u i : Nat} {x : Int32} (hu : u < 2) (hi : i < 171) (hW : tOK g u) : tOK (va_up g i x) u := tOK_congr hu (fun j hj => va_up_o _ _ (by omega)) hW
theorem RN_up {g : gS} {i : Nat} {x : Int32} (hi : i ≠ 11 ∧ i ≠ 12 ∧ i ≠ 15 ∧ ∀ j, j < 8 → i ≠ 63 + 3 * j + 2) (h : RN g) : RN (va_up g i x) := by
  obtain ⟨h1, h2⟩ := h
  unfold RN
  rw [va_up_o _ _ (Ne.symm hi.1), va_up_o _ _ (Ne.symm hi.2.1), va_up_o _ _ (Ne.symm hi.2.2.1)]
  refine ⟨fun h => ⟨(h1 h).1, (h1 h).2.1, fun j hj hl => ?_⟩, h2⟩
  rw [va_up_o _ _ (Ne.symm (hi.2.2.2 j hj))]
  exact (h1 h).2.2 j hj hl
theorem IV_up {g : gS} {i : Nat} {x : Int32} (h : IV g) (hi : i < 171 ∧ i ≠ 11 ∧ i ≠ 12 ∧ i ≠ 15 ∧ ∀ j, j < 8 → i ≠ 63 + 3 * j + 2) (hx : (bnd i).1 ≤ x ∧ x ≤ (bnd i).2) : IV (va_up g i x) :=
  ⟨B_up h.1 fun _ => hx, tOK_up (by decide) hi.1 h.2.1, tOK_up (by decide) hi.1 h.2.2.1, RN_up hi.2 h.2.2.2⟩
theorem IV_more {g : gS} {i : Nat} {x : Int32} (h : IV g) (hi : i = 7 ∨ i = 8 ∨ i = 9 ∨ i = 10) (h0 : 0 ≤ x) (h1 : x ≤ 999999) : IV (gMore g i x) := by
  have hb : (0 : Int32) ≤ g i ∧ g i ≤ 999999 := by
    rcases hi with rfl | rfl | rfl | rfl
    · exact h.1 7 (by decide)
    · exact h.1 8 (by decide)
    · exact h.1 9 (by decide)
    · exact h.1 10 (by decide)
  obtain ⟨hb0, hb1⟩ := hb
  unfold gMore
  refine IV_up h (by rcases hi with rfl | rfl | rfl | rfl <;> exact ⟨by decide, by decide, by decide, by decide, fun j hj => by omega⟩) ?_
  have hv : (0 : Int32) ≤ (if g i + x < 999999 then g i + x else 999999) ∧ (if g i + x < 999999 then g i + x else 999999) ≤ 999999 := by
    generalize g i = y at *
    constructor <;> (split <;> grind)
  rcases hi with rfl | rfl | rfl | rfl <;> exact hv
theorem hld_in {v lo hi : Int32} (h : lo ≤ hi) : lo ≤ hld v lo hi ∧ hld v lo hi ≤ hi := by unfold hld; grind
theorem gLearns_in (g : gS) (x : Int32) : 0 ≤ gLearns g x ∧ gLearns g x ≤ 999 := hld_in (by decide)
theorem gHard_in {g : gS} (hB : B g) : 0 ≤ gHard g ∧ gHard g ≤ 99 := by
  unfold gHard
  cases hn : gNear g with
  | none => dsimp only; exact ⟨by decide, by decide⟩
  | some h =>
    have hh := gNear_lt hB hn
    dsimp only
    split
    · have := hB (39 + 3 * h + 1) (by omega)
      have e : bnd (39 + 3 * h + 1) = (0, 99) := by
        rcases (show h = 0 ∨ h = 1 ∨ h = 2 ∨ h = 3 ∨ h = 4 ∨ h = 5 ∨ h = 6 ∨ h = 7 by omega) with rfl | rfl | rfl | rfl | rfl | rfl | rfl | rfl <;> rfl
      rw [e] at this
      exact this
    · exact ⟨by decide, by decide⟩
theorem IV_learnt {g : gS} {x : Int32} (h : IV g) : IV (gLearnt g x) := by
  have hb : (0 : Int32) ≤ g 6 ∧ g 6 ≤ 9999 := h.1 6 (by decide)
  have hl := gLearns_in g x
  unfold gLearnt
  refine IV_up h ⟨by decide, by decide, by decide, by decide, fun j hj => by omega⟩ ?_
  show (0 : Int32) ≤ _ ∧ _ ≤ (9999 : Int32)
  generalize g 6 = y at *
  generalize gLearns g x = z at *
  obtain ⟨h1, h2⟩ := hb
  obtain ⟨h3, h4⟩ := hl
  constructor <;> (split <;> grind)
theorem IV_fell {g : gS} (h : IV g) : IV (gFell g) := IV_more (IV_up h ⟨by decide, by decide, by decide, by decide, fun j hj => by omega⟩ ⟨by decide, by decide⟩) (Or.inl rfl) (by decide) (by decide)
theorem IV_falls {g : gS} (h : IV g) : IV (gFalls g) := by
  have hh := gHard_in (IV_fell h).1
  exact IV_learnt (IV_more (IV_fell h) (Or.inr (Or.inr (Or.inl rfl))) hh.1 (by have := hh.2; grind))
theorem IV_draw {g : gS} (h : IV g) : IV (gDraw g) := IV_up h ⟨by decide, by decide, by decide, by decide, fun j hj => by omega⟩ ⟨by show (-2147483648 : Int32) ≤ _; grind, by show _ ≤ (2147483647 : Int32); grind⟩
theorem gStride_in (g : gS) (i : Nat) : 0 ≤ gStride g i ∧ gStride g i ≤ 2 := by unfold gStride; grind
theorem gCellOn_in {g : gS} {i : Nat} (hB : B g) : g 0 ≤ gCellOn g i ∧ gCellOn g i ≤ 99 := by
  have h1 : (0 : Int32) ≤ g 0 ∧ g 0 ≤ 99 := hB 0 (by decide)
  have h2 := gStride_in g i
  unfold gCellOn
  generalize g 0 = y at *
  generalize gStride g i = z at *
  obtain ⟨h3, h4⟩ := h1
  obtain ⟨h5, h6⟩ := h2
  constructor <;> (split <;> grind)
theorem IV_stepped {g : gS} {i : Nat} (h : IV g) : IV (gStepped g i) := by
  have h8 : IV (gMore g 8 1) := IV_more h (Or.inr (Or.inl rfl)) (by decide) (by decide)
  have hc := gCellOn_in (i := i) h8.1
  have h0 : (0 : Int32) ≤ gMore g 8 1 0 := (h8.1 0 (by decide)).1
  exact IV_up h8 ⟨by decide, by decide, by decide, by decide, fun j hj => by omega⟩ ⟨by show (0 : Int32) ≤ _; grind, hc.2⟩
theorem IV_stepOn {g : gS} {i : Nat} (h : IV g) : IV (gStepOn g i) := by
  have h8 : IV (gMore g 8 1) := IV_more h (Or.inr (Or.inl rfl)) (by decide) (by decide)
  have hc := gCellOn_in (i := i) h8.1
  have h0 : (0 : Int32) ≤ gMore g 8 1 0 := (h8.1 0 (by decide)).1
  have h9 : gMore g 8 1 0 ≤ (99 : Int32) := (h8.1 0 (by decide)).2
  exact IV_more (IV_stepped h) (Or.inr (Or.inr (Or.inr rfl))) (by generalize gCellOn (gMore g 8 1) i = z at *; generalize gMore g 8 1 0 = y at *; grind) (by generalize gCellOn (gMore g 8 1) i = z at *; generalize gMore g 8 1 0 = y at *; grind)
theorem gTn_in {g : gS} (h : IV g) (h15 : 0 < g 15) {i : Nat} (hi : i < 8) (hl : nI i < g 15) : 1 ≤ g (63 + 3 * i + 2) ∧ g (63 + 3 * i + 2) ≤ 60 := by
  have := h.1 (63 + 3 * i + 2) (by omega)
  have e : bnd (63 + 3 * i + 2) = (0, 60) := by
    rcases (show i = 0 ∨ i = 1 ∨ i = 2 ∨ i = 3 ∨ i = 4 ∨ i = 5 ∨ i = 6 ∨ i = 7 by omega) with rfl | rfl | rfl | rfl | rfl | rfl | rfl | rfl <;> rfl
  rw [e] at this
  exact ⟨(h.2.2.2.1 h15).2.2 i hi hl, this.2⟩
theorem IV_come {g : gS} {i : Nat} (hB : B g) (h0 : tOK g 0) (h1 : tOK g 1) (h15 : 0 < g 15) (hi : i < 8) (hl : nI i < g 15) (ht : ∀ j, j < 8 → nI j < g 15 → 1 ≤ g (63 + 3 * j + 2)) : IV (gCome g (nI i)) := by
  have e15 : ¬ g 15 = 0 := by grind
  have hT : g (63 + 3 * i + 2) ≤ 60 := by
    have := hB (63 + 3 * i + 2) (by omega)
    have e : bnd (63 + 3 * i + 2) = (0, 60) := by
      rcases (show i = 0 ∨ i = 1 ∨ i = 2 ∨ i = 3 ∨ i = 4 ∨ i = 5 ∨ i = 6 ∨ i = 7 by omega) with rfl | rfl | rfl | rfl | rfl | rfl | rfl | rfl <;> rfl
    rw [e] at this
    exact this.2
  unfold gCome
  rw [if_neg e15, nI_clamp (by omega)]
  refine ⟨B_up (B_up hB fun _ => ⟨nI_pos' (by omega), ?_⟩) fun _ => ⟨?_, hT⟩, tOK_up (by decide) (by decide) (tOK_up (by decide) (by decide) h0), tOK_up (by decide) (by decide) (tOK_up (by decide) (by decide) h1), ⟨fun _ => ⟨?_, ?_, fun j hj hl2 => ?_⟩, fun h => ?_⟩⟩
  · exact nI_le (b := 7) (by omega) (by decide)
  · have := ht i hi hl
    show (0 : Int32) ≤ _
    grind
  · rw [va_up_o _ _ (by decide), va_up_s, va_up_o _ _ (by decide), va_up_o _ _ (by decide)]
    exact hl
  · rw [va_up_s]
    exact ht i hi hl
  · rw [va_up_o _ _ (by omega), va_up_o _ _ (by omega)]
    rw [va_up_o _ _ (by decide), va_up_o _ _ (by decide)] at hl2
    exact ht j hj hl2
  · rw [va_up_o _ _ (by decide), va_up_o _ _ (by decide)] at h
    exact absurd h e15
theorem IV_one {g : gS} (h : IV g) (h15 : 0 < g 15) : IV (gOne g) := by
  have hr := h.2.2.2.1 h15
  have h12 : (0 : Int32) ≤ g 12 ∧ g 12 ≤ 60 := h.1 12 (by decide)
  have hB12 : B (va_up g 12 (g 12 - 1)) := B_up h.1 fun _ => ⟨by show (0 : Int32) ≤ _; have := hr.2.1; generalize g 12 = y at *; obtain ⟨a, b⟩ := h12; grind, by show _ ≤ (60 : Int32); have := hr.2.1; generalize g 12 = y at *; obtain ⟨a, b⟩ := h12; grind⟩
  have h0 := tOK_up (i := 12) (x := g 12 - 1) (by decide) (by decide) h.2.1
  have h1 := tOK_up (i := 12) (x := g 12 - 1) (by decide) (by decide) h.2.2.1
  have e15 : va_up g 12 (g 12 - 1) 15 = g 15 := va_up_o _ _ (by decide)
  unfold gOne
  by_cases hz : g 12 - 1 = 0
  · rw [if_pos hz]
    obtain ⟨n, hn, e⟩ := B_nat h.1 15 8 (by decide) (by decide) (by decide)
    obtain ⟨a, ha, e2⟩ := B_nat h.1 11 7 (by decide) (by decide) (by decide)
    have hn0 : 0 < n := by
      rcases Nat.eq_zero_or_pos n with h | h
      · subst h; rw [e] at h15; exact absurd h15 (by decide)
      · exact h
    have hg : gNext g = nI ((a + 1) % n) := by unfold gNext; rw [e, e2, nI_1, rem_nI (by omega) hn0 (by omega)]
    have hl : (a + 1) % n < n := Nat.mod_lt _ hn0
    rw [hg]
    refine IV_come hB12 h0 h1 (by rw [e15]; exact h15) (by omega) (by rw [e15, e]; exact nI_lt hl (by omega)) (fun j hj hl2 => ?_)
    rw [e15] at hl2
    rw [va_up_o _ _ (by omega)]
    exact hr.2.2 j hj hl2
  · rw [if_neg hz]
    refine ⟨hB12, h0, h1, ⟨fun _ => ⟨?_, ?_, fun j hj hl2 => ?_⟩, fun h => ?_⟩⟩
    · rw [va_up_o _ _ (by decide), va_up_o _ _ (by decide)]
      exact hr.1
    · rw [va_up_s]
      have := hr.2.1
      generalize g 12 = y at *
      obtain ⟨a, b⟩ := h12
      grind
    · rw [e15] at hl2
      rw [va_up_o _ _ (by omega)]
      exact hr.2.2 j hj hl2
    · rw [e15] at h
      grind
theorem gBy_in (g : gS) (i : Nat) : 0 ≤ gBy g i := by unfold gBy; split <;> grind
theorem gNearer_in {v b : Int32} (h : -99 ≤ v ∧ v ≤ 99) (hb : 0 ≤ b) : -99 ≤ gNearer v b ∧ gNearer v b ≤ 99 := by
  obtain ⟨h1, h2⟩ := h
  unfold gNearer
  constructor <;> (split <;> split <;> grind)
theorem IV_lean {g : gS} {x : Int32} (h : IV g) (hx : -99 ≤ x ∧ x ≤ 99) : IV (va_up g 1 x) := IV_up h ⟨by decide, by decide, by decide, by decide, fun j hj => by omega⟩ hx
theorem gMore15 (g : gS) {i : Nat} (x : Int32) (hi : i < 15) : gMore g i x 15 = g 15 := va_up_o _ _ (by omega)
theorem gStepOn15 (g : gS) (i : Nat) : gStepOn g i 15 = g 15 := by
  unfold gStepOn gStepped
  rw [gMore15 _ _ (by decide), va_up_o _ _ (by decide), gMore15 _ _ (by decide)]
theorem gFalls15 (g : gS) : gFalls g 15 = g 15 := by
  unfold gFalls gLearnt gFell
  rw [va_up_o _ _ (by decide), gMore15 _ _ (by decide), gMore15 _ _ (by decide), va_up_o _ _ (by decide)]
theorem IV_tenth {g : gS} (h : IV g) (h15 : 0 < g 15) : IV (gTenth g) := by
  have hd := IV_draw h
  have hd15 : gDraw g 15 = g 15 := va_up_o _ _ (by decide)
  unfold gTenth
  dsimp only
  split
  · rename_i hl
    split
    · exact IV_one (IV_stepOn (IV_lean hd (gNearer_in hl (gBy_in _ _)))) (by rw [gStepOn15, va_up_o _ _ (by decide), hd15]; exact h15)
    · exact IV_one (IV_lean hd hl) (by rw [va_up_o _ _ (by decide), hd15]; exact h15)
  · exact IV_one (IV_falls hd) (by rw [gFalls15, hd15]; exact h15)
theorem gCome15 (g : gS) (x : Int32) : gCome g x 15 = g 15 := by
  unfold gCome
  rw [va_up_o _ _ (by decide), va_up_o _ _ (by decide)]
theorem gOne15 (g : gS) : gOne g 15 = g 15 := by
  unfold gOne
  split
  · rw [gCome15, va_up_o _ _ (by decide)]
  · rw [va_up_o _ _ (by decide)]
theorem gTenth15 (g : gS) : gTenth g 15 = g 15 := by
  have hd15 : gDraw g 15 = g 15 := va_up_o _ _ (by decide)
  unfold gTenth
  try dsimp only
  split
  · split
    · rw [gOne15, gStepOn15, va_up_o _ _ (by decide), hd15]
    · rw [gOne15, va_up_o _ _ (by decide), hd15]
  · rw [gOne15, gFalls15, hd15]
theorem gTenths_0 {g : gS} (h : ¬ 0 < g 15) : ∀ n, gTenths g n = g := by
  intro n
  induction n with
  | zero => rfl
  | succ n ih => unfold gTenths; rw [if_neg h]; exact ih
theorem gTenths_s {g : gS} (h : 0 < g 15) (n : Nat) : gTenths g (n + 1) = gTenths (gTenth g) n := by
  show gTenths (if 0 < g 15 then gTenth g else g) n = _
  rw [if_pos h]
theorem IV_tenths : ∀ (n : Nat) {g : gS}, IV g → IV (gTenths g n) := by
  intro n
  induction n with
  | zero => intro g h; exact h
  | succ n ih =>
    intro g h
    by_cases h15 : 0 < g 15
    · rw [gTenths_s h15]; exact ih (IV_tenth h h15)
    · rw [gTenths_0 h15]; exact h
