theorem cpy_s (f : Nat → Int32) (a b k : Nat) : va_up (va_cpy f f a b k) (b + k) (f (a + k)) = va_cpy f f a b (k + 1) := by
  funext x
  by_cases e : x = b + k
  · subst e
    rw [va_up_s, cpy_at, if_pos (by omega)]
    congr 1
    omega
  · rw [va_up_o _ _ e, cpy_at, cpy_at]
    by_cases h : b ≤ x ∧ x < b + k
    · rw [if_pos h, if_pos (by omega)]
    · rw [if_neg h, if_neg (by omega)]
theorem cpy_0 (f : Nat → Int32) (a b : Nat) : va_cpy f f a b 0 = f := by
  funext x
  rw [cpy_at, if_neg (by omega)]
theorem i64_in2 {i n z : Int32} (hi : 0 ≤ i) (hn : 0 ≤ n) (hz : 0 ≤ z) : z.toInt64 < i.toInt64 + n.toInt64 ↔ ¬ (i ≤ z ∧ n ≤ z - i) := by
  have a1 := i64_in i
  have a2 := i64_in n
  have a3 := i64_in z
  have e1 : i ≤ z ↔ i.toInt64 ≤ z.toInt64 := by rw [Int64.le_iff_toInt_le, Int32.toInt_toInt64, Int32.toInt_toInt64, Int32.le_iff_toInt_le]
  rw [Int64.lt_iff_toInt_lt, Int64.toInt_add, Int32.toInt_toInt64, Int32.toInt_toInt64, Int32.toInt_toInt64, Int32.le_iff_toInt_le, Int32.le_iff_toInt_le, Int32.toInt_sub]
  have b1 := Int32.le_iff_toInt_le.mp hi
  have b2 := Int32.le_iff_toInt_le.mp hn
  have b3 := Int32.le_iff_toInt_le.mp hz
  have c1 := i.toInt_lt
  have c2 := n.toInt_lt
  have c3 := z.toInt_lt
  have b1 : (0 : Int) ≤ i.toInt := b1
  have b2 : (0 : Int) ≤ n.toInt := b2
  have b3 : (0 : Int) ≤ z.toInt := b3
  rw [Int.bmod_eq_of_le (by omega) (by omega), Int.bmod_eq_of_le (by omega) (by omega)]
  omega
