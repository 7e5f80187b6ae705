/-! THE START: what the premises say of the statics and the constant Strings -/
abbrev NB : Cond := Jvm.Cond.and given_1 narrow_1
theorem nb_arr : ∀ i, i < 5 → Cond.arrayOf (.static RX9 (sNm i) "[I") .int ∈ flatC NB := by decide +kernel
theorem nb_len : ∀ i, i < 5 → Cond.eq (.length (.static RX9 (sNm i) "[I")) (.int (Int32.ofNat (sTb i).length)) ∈ flatC NB := by decide +kernel
theorem nb_elem : ∀ i, i < 5 → ∀ j, j < (sTb i).length → Cond.eq (.elem (.static RX9 (sNm i) "[I") (.int (Int32.ofNat j))) (.int ((sTb i).getD j 0)) ∈ flatC NB := by decide +kernel
theorem nb_lays : ∀ i, i < 5 → Cond.laysStatic RX9 (sNm i) "[I" ∈ lw_tbl := by decide +kernel
theorem nb_first : Cond.exactly (.static RX9 "FIRST" "[I") "[I" ∈ flatC NB := by decide +kernel
theorem sTb_lt : ∀ i, i < 5 → (sTb i).length < 2 ^ 31 := by decide
section START
variable {args : Array Value} {s : State} {A : Nat → Prop}
theorem st_tab (hs : ∀ c ∈ flatC NB, c.before args s = true) (hts : ∀ w ∈ lw_tbl, w.before args s = true) (hA : ∀ a : Nat, a < s.heap.size → ¬ A a) (i : Nat) (hi : i < 5) :
    ∃ t : Nat, (Term.static RX9 (sNm i) "[I").eval args s none [] s = some (.ref t) ∧ va_Z RX9 (sNm i) "[I" (.ref t) A s s.heap ∧ va_T .int t (sTb i).length (fun j => .int ((sTb i).getD j 0)) A s s.heap := by
  obtain ⟨t, h1, h2⟩ := va_Tof (sTb_lt i hi) (hs _ (nb_arr i hi)) (va_eqt (hs _ (nb_len i hi))) (fun j hj => va_eqt (hs _ (nb_elem i hi j hj))) hA
  exact ⟨t, h1, va_Zof (hts _ (nb_lays i hi)) (hts _ (W0_in _ ini_FirstSteps)) h1 hA, h2⟩
theorem len_lt {t : Term} {v : Value} (h : (Term.length t).eval args s none [] s = some v) : ∃ a cell, t.eval args s none [] s = some (.ref a) ∧ s.arrayAt? a = some cell ∧ cell.slots.size < 2 ^ 31 ∧ v = .int (Int32.ofNat cell.slots.size) := by
  simp only [Term.eval, Option.bind_eq_bind] at h
  cases ht : t.eval args s none [] s with
  | none => simp [ht] at h
  | some x =>
    cases x <;> simp [ht] at h
    case ref a =>
      obtain ⟨cell, hcell, h⟩ := Option.bind_eq_some_iff.mp h
      by_cases hn : cell.slots.size < 2147483648
      · rw [if_pos hn] at h; cases h; exact ⟨a, cell, rfl, hcell, hn, rfl⟩
      · rw [if_neg hn] at h; cases h
theorem st_first (hs : ∀ c ∈ flatC NB, c.before args s = true) {G : fGm} {N0 t : Nat} (ht : (Term.static RX9 "FIRST" "[I").eval args s none [] s = some (.ref t)) (hG : G.2.2.2 1000 = t) (hg : s.vm.findClass "[I" = some (G.2.2.1 0)) (hN : ¬ N0 ≤ t) : FT G N0 s s.heap := by
  subst hG
  obtain ⟨a2, c, cA, kA, q1, q2, q3, q4, q5, q6, -⟩ := Cond.exactly_spec (args := args) (first := s) (o := none) (s := s) (idx := []) (t := .static RX9 "FIRST" "[I") (cls := "[I") (hs _ nb_first)
  cases ht.symm.trans q1
  cases hg.symm.trans q2
  obtain ⟨t2, cell, r1, hat, hlt, hv⟩ := len_lt (va_eqt (hs _ (nb_len 0 (by decide))))
  have r1 : (Term.static RX9 "FIRST" "[I").eval args s none [] s = some (.ref t2) := r1
  have et : t2 = G.2.2.2 1000 := by have := ht.symm.trans r1; injection this with this; injection this with this; exact this.symm
  subst et
  obtain ⟨hcell, hkn, -, -⟩ := State.arrayAt?_spec hat
  obtain ⟨hof, -⟩ := Cond.arrayOf_spec (hs _ (nb_arr 0 (by decide))) r1 hcell
  have ec : cA = cell := Option.some.inj (q3.symm.trans hcell)
  subst ec
  have key : ∀ j : Nat, j < 15 → cA.slots[j]? = some (Value.int ((sTb 0).getD j 0)) := by
    intro j hj
    obtain ⟨a, i, cell2, h1, h2, h3, h4, h5⟩ := Term.elem_spec (va_eqt (hs _ (nb_elem 0 (by decide) j hj)))
    have h1 : (Term.static RX9 "FIRST" "[I").eval args s none [] s = some (.ref a) := h1
    have ea : G.2.2.2 1000 = a := by have := r1.symm.trans h1; injection this with this; injection this with this
    rw [← ea] at h3
    have e2 : cA = cell2 := Option.some.inj (hat.symm.trans h3)
    rw [← e2] at h5
    have hi : i = Int32.ofNat j := by
      have e : (Term.int (Int32.ofNat j)).eval args s none [] s = some (.int (Int32.ofNat j)) := rfl
      cases h2.symm.trans e
      rfl
    have hc : i.toNatClampNeg = j := by rw [hi]; exact Int32.toNatClampNeg_ofNat_of_lt (Nat.lt_trans hj (by decide))
    rw [hc] at h5
    exact h5
  have hsz : cA.slots.size = 15 := by
    have h9 : Int32.ofNat 15 = Int32.ofNat cA.slots.size := by injection hv
    have h8 := congrArg Int32.toNatClampNeg h9
    rw [Int32.toNatClampNeg_ofNat_of_lt (by decide), Int32.toNatClampNeg_ofNat_of_lt hlt] at h8
    exact h8.symm
  refine ⟨cA, hcell, hof, hkn, ?_, q6.trans ?_, hN⟩
  · apply Array.ext_getElem?
    intro j
    by_cases hj : j < 15
    · rw [key j hj]
      simp [hj]
    · rw [Array.getElem?_eq_none (by omega), Array.getElem?_eq_none (by simp; omega)]
  · rfl
end START
