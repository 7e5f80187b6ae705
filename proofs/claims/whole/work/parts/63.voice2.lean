theorem say_mono {ks : Nat} {sp m : Int32} : ∀ (n n' k a : Nat) (x : Int32) (s : vS), okF ks n k a = true → n ≤ n' → sayF ks sp m n' k a x s = sayF ks sp m n k a x s := by
  intro n
  induction n with
  | zero => intro n' k a x s h _; exact absurd h (by simp [okF])
  | succ n ih =>
  intro n' k a x s hok hle
  obtain ⟨n2, rfl⟩ : ∃ n2, n' = n2 + 1 := ⟨n' - 1, by omega⟩
  rw [okF] at hok
  rw [sayF, sayF]
  dsimp only at hok ⊢
  generalize hh : vHome 7 k a = h at *
  generalize vBd h a = b at *
  by_cases e11 : b = 11
  · subst e11
    have ho : okF ks n ks 0 = true := hok
    have hi : ∀ x s, sayF ks sp m n2 ks 0 x s = sayF ks sp m n ks 0 x s := fun x s => ih _ _ _ x s ho (by omega)
    simp [hi]
  by_cases e12 : b = 12
  · subst e12
    have ho : okF ks n ks 1 = true := hok
    have hi : ∀ x s, sayF ks sp m n2 ks 1 x s = sayF ks sp m n ks 1 x s := fun x s => ih _ _ _ x s ho (by omega)
    simp [hi]
  by_cases e20 : b = 20
  · subst e20
    have ho : okF ks n (vAb h) 0 = true := hok
    have hi : ∀ x s, sayF ks sp m n2 (vAb h) 0 x s = sayF ks sp m n (vAb h) 0 x s := fun x s => ih _ _ _ x s ho (by omega)
    simp [hi]
  by_cases e50 : b = 50
  · subst e50
    have ho : okF ks n (vAb h) 0 = true := hok
    have hi : ∀ x s, sayF ks sp m n2 (vAb h) 0 x s = sayF ks sp m n (vAb h) 0 x s := fun x s => ih _ _ _ x s ho (by omega)
    simp [hi]
  by_cases e21 : b = 21
  · subst e21
    have ho : (okF ks n (vAb h) 3 && okF ks n ks 1) = true := hok
    have ho := Bool.and_eq_true_iff.mp ho
    have hi : ∀ x s, sayF ks sp m n2 (vAb h) 3 x s = sayF ks sp m n (vAb h) 3 x s := fun x s => ih _ _ _ x s ho.1 (by omega)
    have hi2 : ∀ x s, sayF ks sp m n2 ks 1 x s = sayF ks sp m n ks 1 x s := fun x s => ih _ _ _ x s ho.2 (by omega)
    simp [hi, hi2]
  by_cases e30 : b = 30
  · subst e30
    have ho : okF ks n (vAb h) 1 = true := hok
    have hi : ∀ x s, sayF ks sp m n2 (vAb h) 1 x s = sayF ks sp m n (vAb h) 1 x s := fun x s => ih _ _ _ x s ho (by omega)
    simp [hi]
  by_cases e60 : b = 60
  · subst e60
    have ho : okF ks n (vAb h) 1 = true := hok
    have hi : ∀ x s, sayF ks sp m n2 (vAb h) 1 x s = sayF ks sp m n (vAb h) 1 x s := fun x s => ih _ _ _ x s ho (by omega)
    simp [hi]
  by_cases e71 : b = 71
  · subst e71
    have ho : okF ks n (vAb h) 1 = true := hok
    have hi : ∀ x s, sayF ks sp m n2 (vAb h) 1 x s = sayF ks sp m n (vAb h) 1 x s := fun x s => ih _ _ _ x s ho (by omega)
    simp [hi]
  by_cases e40 : b = 40
  · subst e40
    have ho : okF ks n (vAb h) 2 = true := hok
    have hi : ∀ x s, sayF ks sp m n2 (vAb h) 2 x s = sayF ks sp m n (vAb h) 2 x s := fun x s => ih _ _ _ x s ho (by omega)
    simp [hi]
  by_cases e51 : b = 51
  · subst e51
    have ho : okF ks n (vAb h) 2 = true := hok
    have hi : ∀ x s, sayF ks sp m n2 (vAb h) 2 x s = sayF ks sp m n (vAb h) 2 x s := fun x s => ih _ _ _ x s ho (by omega)
    simp [hi]
  simp only [e11, e12, e20, e21, e30, e40, e50, e51, e60, e71, if_false]
