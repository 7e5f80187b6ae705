def adF (q9 : Nat) (a9 : Nat → Nat) (q10 : Nat) (a10 : Nat → Nat) (b : Nat) (fx : Nat → Nat) : Nat → Nat := fun k =>
  if k = 0 then q9 else if k < 76 then a9 k else if k < 84 then a9 (k + 3) else if k < 87 then a9 (k - 8) else if k = 87 then q10 else if k < 105 then a10 (k - 87) else if k = 1030 then b else fx k
def pmF : List Nat := [0, 1, 2, 3, 4, 5, 6, 7, 8, 9, 10, 11, 12, 13, 14, 15, 16, 17, 18, 19, 20, 21, 22, 23, 24, 25, 26, 27, 28, 29, 30, 31, 32, 33, 34, 35, 36, 37, 38, 39, 40, 41, 42, 43, 44, 45, 46, 47, 48, 49, 50, 51, 52, 53, 54, 55, 56, 57, 58, 59, 60, 61, 62, 63, 64, 65, 66, 67, 68, 69, 70, 71, 72, 73, 74, 75, 79, 80, 81, 82, 83, 84, 85, 86, 76, 77, 78, 87, 88, 89, 90, 91, 92, 93, 94, 95, 96, 97, 98, 99, 100, 101, 102, 103, 104]
def gF (G : fGm) (q9 : Nat) (a9 : Nat → Nat) (q10 : Nat) (a10 : Nat → Nat) (b : Nat) : fGm := (G.1, G.2.1, G.2.2.1, adF q9 a9 q10 a10 b G.2.2.2)
def f75 (a9 : Nat → Nat) : Nat → Option Nat := va_up (va_up (va_up (va_up (fun _ => none) (Int32.toNatClampNeg 0) (some (a9 79))) (Int32.toNatClampNeg 1) (some (a9 81))) (Int32.toNatClampNeg 2) (some (a9 83))) (Int32.toNatClampNeg 3) (some (a9 85))
def f94 (G : fGm) : Nat → Option Nat := va_up (va_up (fun _ => none) (Int32.toNatClampNeg 0) (some (G.2.2.2 (1010 + 0)))) (Int32.toNatClampNeg 1) (some (G.2.2.2 (1010 + 1)))
def wsF (G : fGm) (q9 : Nat) (a9 : Nat → Nat) (q10 : Nat) (a10 : Nat → Nat) (b : Nat) : va_W :=
  ((pic (gF G q9 a9 q10 a10 b) s0 t0).set 75 (a9 75, .inl (G.2.2.1 (2 + 0), 4, .inr (.inr (.inr (.inr (f75 a9))))))).set 94 (a10 7, .inl (G.2.2.1 (2 + 1), 2, .inr (.inr (.inr (.inr (f94 G))))))
set_option maxRecDepth 100000 in
set_option maxHeartbeats 8000000 in
theorem wsF_len (G : fGm) (q9 : Nat) (a9 : Nat → Nat) (q10 : Nat) (a10 : Nat → Nat) (b : Nat) : (wsF G q9 a9 q10 a10 b).length = 105 := by
  unfold wsF pic
  rw [List.length_set, List.length_set, List.length_map, List.length_range]
set_option maxRecDepth 100000 in
set_option maxHeartbeats 8000000 in
theorem wsF_eq (G : fGm) (q9 : Nat) (a9 : Nat → Nat) (q10 : Nat) (a10 : Nat → Nat) (b : Nat) : pmF.map (fun i => (kX9 G q9 a9 ++ kX10 G q10 a10)[i]?) = (wsF G q9 a9 q10 a10 b).map some := rfl
