/-! THE CHILD AS NUMBERS: g is the row in which all that an image keeps lies -/
abbrev gS : Type := Nat → Int32
def gc10 (g : gS) : Nat := (g 0).toNatClampNeg / 10
def gSlip (g : gS) : Int32 := g (19 + 2 * gc10 g)
def gSlope (g : gS) : Int32 := g (19 + 2 * gc10 g + 1)
def aI32 (x : Int32) : Int32 := if 0 ≤ x then x else 0 - x
def gDist (g : gS) (h : Nat) : Int32 := aI32 (g (39 + 3 * h + 0) - g 0)
def gNearN (g : gS) : Nat → Option Nat
  | 0 => none
  | n + 1 => match gNearN g n with
    | none => some n
    | some b => if gDist g n < gDist g b then some n else some b
def gNear (g : gS) : Option Nat := gNearN g (g 14).toNatClampNeg
def oI : Option Nat → Int32
  | none => -1
  | some h => nI h
def gHasI (g : gS) : Bool := match gNear g with
  | none => false
  | some h => decide (gDist g h ≤ g 2)
def gK (g : gS) (i : Nat) : Int32 := g (63 + 3 * i + 0)
def gM (g : gS) (i : Nat) : Int32 := g (63 + 3 * i + 1)
def gTn (g : gS) (i : Nat) : Int32 := g (63 + 3 * i + 2)
def gSways (g : gS) (i : Nat) : Int32 := if gK g i = 1 then (if gHasI g = true then g 3 / 3 else g 3) else if gK g i = 2 then (if gHasI g = true then g 3 / 3 else g 3) else if gK g i = 4 then hld (g 3 + gM g i / 25) 0 9 else if gK g i = 6 then 0 else g 3
def gStride (g : gS) (i : Nat) : Int32 := if gK g i = 1 then (if gHasI g = true then 1 else 0) else if gK g i = 2 then 1 else if gK g i = 3 then 2 else if gK g i = 4 then 2 else if gK g i = 5 then 2 else 0
def gPace (g : gS) (i : Nat) : Int32 := if gK g i = 1 then (if gHasI g = true then 4 else 0) else if gK g i = 2 then (if gHasI g = true then 4 else 3) else if gK g i = 3 then 3 else if gK g i = 4 then 3 else if gK g i = 5 then 3 else 0
def gPlain (g : gS) : Int32 := g 4 + g 5 / 4 + g 6 / 100
def gCatch (g : gS) (i : Nat) : Int32 := if gK g i = 1 then gPlain g + (if gHasI g = true then 20 else 0) else if gK g i = 2 then gPlain g + (if gHasI g = true then 20 else 0) else if gK g i = 5 then gPlain g - 2 * aI32 (gSlope g) else gPlain g
def gCome (g : gS) (x : Int32) : gS := va_up (va_up g 11 x) 12 (if g 15 = 0 then 0 else g (63 + 3 * x.toNatClampNeg + 2))
def gMore (g : gS) (i : Nat) (x : Int32) : gS := va_up g i (if g i + x < 999999 then g i + x else 999999)
def rOp (op a b : Int32) : Int32 :=
  if op = 20000 then (if a ≠ 0 ∨ b ≠ 0 then 1 else 0) else if op = 20001 then (if a ≠ 0 ∧ b ≠ 0 then 1 else 0) else if op = 20002 then (if a < b then 1 else 0) else if op = 20003 then (if a = b then 1 else 0)
  else if op = 20004 then (if b < a then 1 else 0) else if op = 20005 then a + b else if op = 20006 then a - b else if op = 20007 then a * b else if op = 20008 then (if b = 0 then 0 else a / b) else (if b = 0 then 0 else a - a / b * b)
def rStep (nm : Nat → Int32) (c : Int32) (s : List Int32) : List Int32 :=
  if c < 20000 then (if c < 10000 then c else nm (c - 10000).toNatClampNeg) :: s
  else if c = 20010 then (match s with | x :: t => (if x = 0 then 1 else 0) :: t | [] => [])
  else (match s with | b :: a :: t => rOp c a b :: t | s => s)
def rEv (nm : Nat → Int32) : List Int32 → List Int32 → List Int32
  | [], s => s
  | c :: cs, s => rEv nm cs (rStep nm c s)
def gCode (g : gS) (u : Nat) : List Int32 := (List.range (g (171 + 62 * u)).toNatClampNeg).map (fun j => g (171 + 62 * u + 1 + j))
def gVal (g : gS) (u : Nat) (nm : Nat → Int32) : Int32 := (rEv nm (gCode g u) []).headD 0
def nm5 (a b c d e : Int32) : Nat → Int32
  | 0 => a | 1 => b | 2 => c | 3 => d | 4 => e | _ => 0
def gLearns (g : gS) (h : Int32) : Int32 := hld (if 0 < g 171 then gVal g 0 (nm5 (g 7) (g 8) (g 5) (g 6) h) else 5 - h / 20) 0 999
def gDares (g : gS) (x : Int32) : Prop := if 0 < g 233 then gVal g 1 (nm5 x (g 2) (g 5) (g 6) 0) ≠ 0 else x < g 2 + g 5 / 2 + g 6 / 100 + 1
def gDaresI (g : gS) (x : Int32) : Bool := if 0 < g 233 then decide (gVal g 1 (nm5 x (g 2) (g 5) (g 6) 0) ≠ 0) else decide (x < g 2 + g 5 / 2 + g 6 / 100 + 1)
def gDraw (g : gS) : gS := va_up g 18 (g 18 * 1103515245 + 12345)
def rem32 (x y : Int32) : Int32 := x - x / y * y
def gPick (z b : Int32) : Int32 := rem32 ((z.toUInt32 >>> (Int32.toUInt32 8 &&& Int32.toUInt32 31)).toInt32) b
def gIsStep (g : gS) (i : Nat) : Prop := 0 < gPace g i ∧ rem32 (gTn g i - g 12 + 1) (gPace g i) = 0
def gIsStepI (g : gS) (i : Nat) : Bool := decide (0 < gPace g i) && decide (rem32 (gTn g i - g 12 + 1) (gPace g i) = 0)
def gNearer (v b : Int32) : Int32 := if 0 < v then (if 0 < v - b then v - b else 0) else (if v + b < 0 then v + b else 0)
def gCellOn (g : gS) (i : Nat) : Int32 := if g 0 + gStride g i < 99 then g 0 + gStride g i else 99
def gNext (g : gS) : Int32 := rem32 (g 11 + 1) (g 15)
def gOne (g : gS) : gS := if g 12 - 1 = 0 then gCome (va_up g 12 (g 12 - 1)) (gNext g) else va_up g 12 (g 12 - 1)
def gHard (g : gS) : Int32 := match gNear g with
  | none => 0
  | some h => if gDist g h ≤ g 2 ∧ g (39 + 3 * h + 2) = 0 then g (39 + 3 * h + 1) else 0
def gLearnt (g : gS) (h : Int32) : gS := va_up g 6 (if g 6 + gLearns g h < 9999 then g 6 + gLearns g h else 9999)
def gFell (g : gS) : gS := gMore (va_up g 1 0) 7 1
def gFalls (g : gS) : gS := gLearnt (gMore (gFell g) 9 (gHard (gFell g))) (gHard (gFell g))
def gBy (g : gS) (i : Nat) : Int32 := if 0 < gCatch g i - 2 * gSlip g then gCatch g i - 2 * gSlip g else 0
def gStepped (g : gS) (i : Nat) : gS := va_up (gMore g 8 1) 0 (gCellOn (gMore g 8 1) i)
def gStepOn (g : gS) (i : Nat) : gS := gMore (gStepped g i) 10 (gCellOn (gMore g 8 1) i - gMore g 8 1 0)
def gLeant (g : gS) (sw : Int32) : Int32 := g 1 + g 1 / 5 + gPick (g 18) (2 * sw + 1) - sw + gSlope g
/-- the number of the going now -/
def gNow (g : gS) : Nat := (g 11).toNatClampNeg
def gTenth (g : gS) : gS :=
  let i := gNow g
  let sw := gSways g i
  let g1 := gDraw g
  let lean := gLeant g1 sw
  if -99 ≤ lean ∧ lean ≤ 99 then
    (if gIsStepI g1 i = true then gOne (gStepOn (va_up g1 1 (gNearer lean (gBy g1 i))) i) else gOne (va_up g1 1 lean))
  else gOne (gFalls g1)
def gTenths (g : gS) : Nat → gS
  | 0 => g
  | n + 1 => gTenths (if 0 < g 15 then gTenth g else g) n
/-- between which numbers each place of the row lies -/
def bnd (i : Nat) : Int32 × Int32 :=
  if i = 0 then (0, 99) else if i = 1 then (-99, 99) else if i = 2 then (1, 30) else if i = 3 then (0, 9) else if i = 4 then (0, 50) else if i = 5 then (0, 60) else if i = 6 then (0, 9999)
  else if i < 11 then (0, 999999) else if i = 11 then (0, 7) else if i = 12 then (0, 60) else if i = 13 then (0, 9999) else if i = 14 then (0, 8) else if i = 15 then (0, 8) else if i = 16 then (0, 60) else if i = 17 then (0, 24)
  else if i = 18 then (-2147483648, 2147483647) else if i < 39 then (if i % 2 = 1 then (0, 9) else (-9, 9)) else if i < 63 then (if i % 3 = 2 then (0, 1) else (0, 99)) else if i < 87 then (if i % 3 = 0 then (0, 6) else if i % 3 = 1 then (0, 99) else (0, 60))
  else if i < 147 then (0, 255) else (-2147483648, 2147483647)
def B (g : gS) : Prop := ∀ i, i < 171 → (bnd i).1 ≤ g i ∧ g i ≤ (bnd i).2
theorem B_nat {g : gS} (hB : B g) (i n : Nat) (hi : i < 171) (h : bnd i = (0, nI n)) (hn : n < 2 ^ 30) : ∃ j, j ≤ n ∧ g i = nI j := by
  have h1 := hB i hi
  rw [h] at h1
  obtain ⟨j, hj, e⟩ := in2_nI (x := g i) (n := n + 1) (by omega) ⟨h1.1, by
    have h2 : nI n < nI (n + 1) := nI_lt (by omega) (by omega)
    have h3 : g i ≤ nI n := h1.2
    grind⟩
  exact ⟨j, by omega, e⟩
theorem B_cell {g : gS} (hB : B g) : ∃ c, c < 100 ∧ g 0 = nI c := by
  obtain ⟨j, hj, e⟩ := B_nat hB 0 99 (by decide) (by decide) (by decide)
  exact ⟨j, by omega, e⟩
theorem c10 {c : Nat} (hc : c < 100) : nI c / 10 = nI (c / 10) := pk_div (d := 10) (by omega) (by decide) (by decide)
theorem gc10_lt {g : gS} (hB : B g) : gc10 g < 10 := by
  obtain ⟨c, hc, e⟩ := B_cell hB
  unfold gc10
  rw [e, nI_clamp (by omega)]
  omega
theorem gc10_ix {g : gS} (hB : B g) (k : Nat) (hk : k < 1000) : 19 + 2 * (g 0 / 10) + nI k = nI (19 + 2 * gc10 g + k) := by
  obtain ⟨c, hc, e⟩ := B_cell hB
  unfold gc10
  rw [e, c10 hc, nI_clamp (by omega), show (19 : Int32) = nI 19 from rfl, show (2 : Int32) = nI 2 from rfl, pk_mul, nI_add, nI_add]
theorem gc10_ix0 {g : gS} (hB : B g) : 19 + 2 * (g 0 / 10) = nI (19 + 2 * gc10 g) := by
  obtain ⟨c, hc, e⟩ := B_cell hB
  unfold gc10
  rw [e, c10 hc, nI_clamp (by omega), show (19 : Int32) = nI 19 from rfl, show (2 : Int32) = nI 2 from rfl, pk_mul, nI_add]
theorem ix3 (b : Nat) (B3 : Int32) (hb : B3 = nI b) (i f : Nat) : B3 + 3 * nI i + nI f = nI (b + 3 * i + f) := by
  rw [hb, show (3 : Int32) = nI 3 from rfl, pk_mul, nI_add, nI_add]
