/-- the kind above, the body of a kind for an act, the kind that has it -/
def vAb (k : Nat) : Nat := ((sTb 3).getD k 0).toNatClampNeg
def vBd (k a : Nat) : Int32 := (sTb 4).getD (4 * k + a) 0
def vHome : Nat → Nat → Nat → Nat
  | 0, k, _ => k
  | n + 1, k, a => if vBd k a = 0 then vHome n (vAb k) a else k
/-- the trace, how many began, whether it parted -/
abbrev vS : Type := (Nat → Int32) × Nat × Bool
def vBg (b : Int32) (s : vS) : vS := if s.2.1 < 30 then (va_up s.1 s.2.1 b, s.2.1 + 1, s.2.2) else s
/-- a voice of a going of kind ks, number sp, with m -/
def sayF (ks : Nat) (sp m : Int32) : Nat → Nat → Nat → Int32 → vS → Int32 × vS
  | 0, _, _, _, s => (0, s)
  | n + 1, k, a, x, s =>
    if s.2.2 = true then (0, s) else
    let h := vHome 7 k a
    let b := vBd h a
    let s1 := vBg b s
    if b = 10 then (x + sp, s1)
    else if b = 11 then ((sayF ks sp m n ks 0 x s1).1 * 2, (sayF ks sp m n ks 0 x s1).2)
    else if b = 12 then ((sayF ks sp m n ks 1 x s1).1 - m, (sayF ks sp m n ks 1 x s1).2)
    else if b = 13 then (if m - sp = 0 then (0, (s1.1, s1.2.1, true)) else (x / (m - sp), s1))
    else if b = 20 then ((sayF ks sp m n (vAb h) 0 x s1).1 - 3, (sayF ks sp m n (vAb h) 0 x s1).2)
    else if b = 21 then ((sayF ks sp m n (vAb h) 3 x s1).1 + (sayF ks sp m n ks 1 1 (sayF ks sp m n (vAb h) 3 x s1).2).1, (sayF ks sp m n ks 1 1 (sayF ks sp m n (vAb h) 3 x s1).2).2)
    else if b = 30 then (0 - (sayF ks sp m n (vAb h) 1 x s1).1, (sayF ks sp m n (vAb h) 1 x s1).2)
    else if b = 40 then sayF ks sp m n (vAb h) 2 (x / 2) s1
    else if b = 50 then ((sayF ks sp m n (vAb h) 0 x s1).1 * 3, (sayF ks sp m n (vAb h) 0 x s1).2)
    else if b = 51 then ((sayF ks sp m n (vAb h) 2 x s1).1 ^^^ sp, (sayF ks sp m n (vAb h) 2 x s1).2)
    else if b = 60 then sayF ks sp m n (vAb h) 1 (x + 1) s1
    else if b = 70 then (4, s1)
    else if b = 71 then ((sayF ks sp m n (vAb h) 1 x s1).1 + m, (sayF ks sp m n (vAb h) 1 x s1).2)
    else (0, s1)
/-- n calls deep is deep enough -/
def okF (ks : Nat) : Nat → Nat → Nat → Bool
  | 0, _, _ => false
  | n + 1, k, a =>
    let h := vHome 7 k a
    let b := vBd h a
    if b = 11 then okF ks n ks 0 else if b = 12 then okF ks n ks 1
    else if b = 20 ∨ b = 50 then okF ks n (vAb h) 0
    else if b = 21 then okF ks n (vAb h) 3 && okF ks n ks 1
    else if b = 30 ∨ b = 60 ∨ b = 71 then okF ks n (vAb h) 1
    else if b = 40 ∨ b = 51 then okF ks n (vAb h) 2
    else true
theorem okF_all : ∀ ks, ks < 7 → ∀ a, a < 4 → okF ks 29 ks a = true := by decide +kernel
theorem vHome_own : ∀ k, k < 7 → ∀ a, a < 4 → vHome 7 k a < 7 ∧ vBd (vHome 7 k a) a ≠ 0 := by decide +kernel
