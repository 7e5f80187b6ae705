/-! TEXTS: the class's reader and the reference's parser as numbers -/
def rkN (b : Int32) : Nat := if b = 124 then 1 else if b = 38 then 2 else if b = 60 then 3 else if b = 61 then 3 else if b = 62 then 3 else if b = 43 then 4 else if b = 45 then 4 else if b = 42 then 5 else if b = 47 then 5 else if b = 37 then 5 else 0
def tp (P : List Int32) : Int32 := P.headD 0
def isD (b : Int32) : Bool := decide (48 ≤ b) && decide (b ≤ 57)
def nmI (u : Nat) (b : Int32) : Int32 := if u = 0 then (if b = 102 then 0 else if b = 115 then 1 else if b = 119 then 2 else if b = 108 then 3 else if b = 104 then 4 else -1) else (if b = 103 then 0 else if b = 114 then 1 else if b = 119 then 2 else if b = 108 then 3 else -1)
/-- the pending operators that bind closer than r come to the text -/
def kSet (r : Nat) : List Int32 → List Int32 → List Int32 × List Int32
  | [], O => (O, [])
  | x :: P, O => if r < rkN x then kSet r P ((10000 + x) :: O) else (O, x :: P)
def kNot : List Int32 → List Int32 → Int32 → List Int32 × List Int32 × Int32
  | [], O, k => (O, [], k)
  | x :: P, O, k => if x = 33 then kNot P (10033 :: O) (k - 1) else (O, x :: P, k)
/-- the reader: out, pending (each from its end), open, digits, the number, whether an operand is due -/
abbrev cS : Type := List Int32 × List Int32 × Int32 × Nat × Int32 × Bool
def kEnd (S : cS) : cS := if 0 < S.2.2.2.1 then ((kNot S.2.1 (S.2.2.2.2.1 :: S.1) S.2.2.1).1, (kNot S.2.1 (S.2.2.2.2.1 :: S.1) S.2.2.1).2.1, (kNot S.2.1 (S.2.2.2.2.1 :: S.1) S.2.2.1).2.2, 0, S.2.2.2.2.1, false) else S
def kJoin (b : Int32) (S : cS) : Option cS :=
  if rkN b = 0 then none else
  if rkN b = 3 ∧ rkN (tp (kSet (rkN b) S.2.1 S.1).2) = 3 then none else
  some ((kSet (rkN b - 1) (kSet (rkN b) S.2.1 S.1).2 (kSet (rkN b) S.2.1 S.1).1).1, b :: (kSet (rkN b - 1) (kSet (rkN b) S.2.1 S.1).2 (kSet (rkN b) S.2.1 S.1).1).2, S.2.2.1, S.2.2.2.1, S.2.2.2.2.1, true)
def kClose (S : cS) : Option cS :=
  match (kSet 0 S.2.1 S.1).2 with
  | [] => none
  | _ :: P => some ((kNot P (kSet 0 S.2.1 S.1).1 (S.2.2.1 - 1)).1, (kNot P (kSet 0 S.2.1 S.1).1 (S.2.2.1 - 1)).2.1, (kNot P (kSet 0 S.2.1 S.1).1 (S.2.2.1 - 1)).2.2, S.2.2.2.1, S.2.2.2.2.1, S.2.2.2.2.2)
def kGoE (u : Nat) (b : Int32) (S : cS) : Option cS :=
  if S.2.2.2.2.2 = false then (if b = 41 then kClose S else kJoin b S)
  else if b = 33 ∨ b = 40 then (if 5 ≤ S.2.2.1 then none else some (S.1, b :: S.2.1, S.2.2.1 + 1, S.2.2.2.1, S.2.2.2.2.1, S.2.2.2.2.2))
  else if isD b = true then some (S.1, S.2.1, S.2.2.1, 1, b - 48, S.2.2.2.2.2)
  else if 0 ≤ nmI u b then some ((kNot S.2.1 ((-1 - nmI u b) :: S.1) S.2.2.1).1, (kNot S.2.1 ((-1 - nmI u b) :: S.1) S.2.2.1).2.1, (kNot S.2.1 ((-1 - nmI u b) :: S.1) S.2.2.1).2.2, S.2.2.2.1, S.2.2.2.2.1, false)
  else none
def kGo (u : Nat) (b : Int32) (S : cS) : Option cS :=
  if isD b = true ∧ 0 < S.2.2.2.1 ∧ S.2.2.2.1 < 4 then some (S.1, S.2.1, S.2.2.1, S.2.2.2.1 + 1, S.2.2.2.2.1 * 10 + b - 48, S.2.2.2.2.2) else kGoE u b (kEnd S)
def kLoop (T : Nat → Int32) (u : Nat) : Nat → Nat → cS → Bool × Nat × cS
  | 0, i, S => (true, i, S)
  | n + 1, i, S => match kGo u (T i) S with
    | some S' => kLoop T u n (i + 1) S'
    | none => (false, i, S)
def kBad (S : cS) : Bool := (kEnd S).2.2.2.2.2 || decide (0 < (kEnd S).2.2.1)
def kFault (r : Bool × Nat × cS) : Option Nat := if r.1 = false then some r.2.1 else if kBad r.2.2 = true then some r.2.1 else none
/-- the reference: whether it goes on, where it is, its code (from its end) -/
abbrev pR : Type := Bool × Nat × List Int32
def hrB (T : Nat → Int32) (N a : Nat) : Int32 := if a < N then T a else -1
def pLoop (T : Nat → Int32) (N : Nat) (F : Nat → List Int32 → pR) (opc : Int32 → Int32) : Nat → Nat → List Int32 → pR
  | 0, a, C => (true, a, C)
  | n + 1, a, C => if opc (hrB T N a) = 0 then (true, a, C) else
    if (F (a + 1) C).1 = true then pLoop T N F opc n (F (a + 1) C).2.1 (opc (hrB T N a) :: (F (a + 1) C).2.2) else F (a + 1) C
def pLev (T : Nat → Int32) (N : Nat) (F : Nat → List Int32 → pR) (opc : Int32 → Int32) (a : Nat) (C : List Int32) : pR := if (F a C).1 = true then pLoop T N F opc N (F a C).2.1 (F a C).2.2 else F a C
def oc1 (b : Int32) : Int32 := if b = 124 then 20000 else 0
def oc2 (b : Int32) : Int32 := if b = 38 then 20001 else 0
def oc3 (b : Int32) : Int32 := if b = 60 then 20002 else if b = 61 then 20003 else if b = 62 then 20004 else 0
def oc4 (b : Int32) : Int32 := if b = 43 then 20005 else if b = 45 then 20006 else 0
def oc5 (b : Int32) : Int32 := if b = 42 then 20007 else if b = 47 then 20008 else if b = 37 then 20009 else 0
def pCmp (T : Nat → Int32) (N : Nat) (F : Nat → List Int32 → pR) (a : Nat) (C : List Int32) : pR :=
  if (F a C).1 = true then
    (if oc3 (hrB T N (F a C).2.1) = 0 then F a C else
      if (F ((F a C).2.1 + 1) (F a C).2.2).1 = true then (true, (F ((F a C).2.1 + 1) (F a C).2.2).2.1, oc3 (hrB T N (F a C).2.1) :: (F ((F a C).2.1 + 1) (F a C).2.2).2.2) else F ((F a C).2.1 + 1) (F a C).2.2)
  else F a C
def pPr (T : Nat → Int32) (N : Nat) (one : Nat → List Int32 → pR) : Nat → List Int32 → pR := pLev T N one oc5
def pSu (T : Nat → Int32) (N : Nat) (one : Nat → List Int32 → pR) : Nat → List Int32 → pR := pLev T N (pPr T N one) oc4
def pCo (T : Nat → Int32) (N : Nat) (one : Nat → List Int32 → pR) : Nat → List Int32 → pR := pCmp T N (pSu T N one)
def pBo (T : Nat → Int32) (N : Nat) (one : Nat → List Int32 → pR) : Nat → List Int32 → pR := pLev T N (pCo T N one) oc2
def pEi (T : Nat → Int32) (N : Nat) (one : Nat → List Int32 → pR) : Nat → List Int32 → pR := pLev T N (pBo T N one) oc1
def pNum (T : Nat → Int32) (N : Nat) : Nat → Nat → Int32 → Nat × Int32
  | 0, a, v => (a, v)
  | n + 1, a, v => if isD (hrB T N a) = true then pNum T N n (a + 1) (10 * v + hrB T N a - 48) else (a, v)
def pAtom (T : Nat → Int32) (N u a : Nat) (C : List Int32) : pR :=
  if isD (hrB T N a) = true then (true, (pNum T N 4 a 0).1, (pNum T N 4 a 0).2 :: C)
  else if 0 ≤ nmI u (hrB T N a) then (true, a + 1, (10000 + nmI u (hrB T N a)) :: C) else (false, a, C)
def pOne (T : Nat → Int32) (N u : Nat) : Nat → Nat → List Int32 → pR
  | 0, a, C => if hrB T N a = 33 ∨ hrB T N a = 40 then (false, a, C) else pAtom T N u a C
  | m + 1, a, C => if hrB T N a = 33 then (if (pOne T N u m (a + 1) C).1 = true then (true, (pOne T N u m (a + 1) C).2.1, 20010 :: (pOne T N u m (a + 1) C).2.2) else pOne T N u m (a + 1) C)
    else if hrB T N a = 40 then (if (pEi T N (pOne T N u m) (a + 1) C).1 = true then (if hrB T N (pEi T N (pOne T N u m) (a + 1) C).2.1 = 41 then (true, (pEi T N (pOne T N u m) (a + 1) C).2.1 + 1, (pEi T N (pOne T N u m) (a + 1) C).2.2) else (false, (pEi T N (pOne T N u m) (a + 1) C).2.1, (pEi T N (pOne T N u m) (a + 1) C).2.2)) else pEi T N (pOne T N u m) (a + 1) C)
    else pAtom T N u a C
/-! how settling goes -/
theorem kSet_c {r : Nat} {x : Int32} {P O : List Int32} : kSet r (x :: P) O = if r < rkN x then kSet r P ((10000 + x) :: O) else (O, x :: P) := rfl
theorem kNot_c {x k : Int32} {P O : List Int32} : kNot (x :: P) O k = if x = 33 then kNot P (10033 :: O) (k - 1) else (O, x :: P, k) := rfl
theorem kSet_comp {s r : Nat} (h : s ≤ r) : ∀ (P O : List Int32), kSet s (kSet r P O).2 (kSet r P O).1 = kSet s P O := by
  intro P
  induction P with
  | nil => intro O; rfl
  | cons x P ih =>
    intro O
    by_cases hx : r < rkN x
    · have e1 : kSet r (x :: P) O = kSet r P ((10000 + x) :: O) := by rw [kSet_c, if_pos hx]
      have e2 : kSet s (x :: P) O = kSet s P ((10000 + x) :: O) := by rw [kSet_c, if_pos (by omega)]
      rw [e1, e2]
      exact ih _
    · have e1 : kSet r (x :: P) O = (O, x :: P) := by rw [kSet_c, if_neg hx]
      rw [e1]
theorem kSet_id {r : Nat} {P O : List Int32} (h : rkN (tp P) ≤ r) : kSet r P O = (O, P) := by
  cases P with
  | nil => rfl
  | cons x P =>
    rw [kSet_c, if_neg (by show ¬ r < rkN x; exact Nat.not_lt.mpr h)]
theorem kSet_pop {r : Nat} {x : Int32} {P O : List Int32} (h : r < rkN x) : kSet r (x :: P) O = kSet r P ((10000 + x) :: O) := by
  rw [kSet_c, if_pos h]
theorem kNot_id {P O : List Int32} {k : Int32} (h : tp P ≠ 33) : kNot P O k = (O, P, k) := by
  cases P with
  | nil => rfl
  | cons x P =>
    rw [kNot_c, if_neg (show ¬ x = 33 from h)]
theorem kNot_pop {P O : List Int32} {k : Int32} : kNot (33 :: P) O k = kNot P (10033 :: O) (k - 1) := by
  rw [kNot_c, if_pos rfl]
theorem rk_le (b : Int32) : rkN b ≤ 5 := by unfold rkN; (repeat' split) <;> omega
theorem rk_sp {b : Int32} (h : rkN b ≠ 0) : b ≠ 33 ∧ b ≠ 40 ∧ b ≠ 41 ∧ isD b = false := by
  refine ⟨fun e => h (by subst e; rfl), fun e => h (by subst e; rfl), fun e => h (by subst e; rfl), ?_⟩
  have : b = 124 ∨ b = 38 ∨ b = 60 ∨ b = 61 ∨ b = 62 ∨ b = 43 ∨ b = 45 ∨ b = 42 ∨ b = 47 ∨ b = 37 := by
    unfold rkN at h
    by_cases e1 : b = 124
    · exact Or.inl e1
    by_cases e2 : b = 38
    · exact Or.inr (Or.inl e2)
    by_cases e3 : b = 60
    · simp [e3]
    by_cases e4 : b = 61
    · simp [e4]
    by_cases e5 : b = 62
    · simp [e5]
    by_cases e6 : b = 43
    · simp [e6]
    by_cases e7 : b = 45
    · simp [e7]
    by_cases e8 : b = 42
    · simp [e8]
    by_cases e9 : b = 47
    · simp [e9]
    by_cases e10 : b = 37
    · simp [e10]
    · rw [if_neg e1, if_neg e2, if_neg e3, if_neg e4, if_neg e5, if_neg e6, if_neg e7, if_neg e8, if_neg e9, if_neg e10] at h
      exact absurd rfl h
  rcases this with rfl | rfl | rfl | rfl | rfl | rfl | rfl | rfl | rfl | rfl <;> rfl
