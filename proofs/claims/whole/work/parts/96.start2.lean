def tmS : Nat → Term
  | 0 => .string RX8 67
  | _ => .string RX9 175
theorem ns_ex : ∀ i, i < 2 → Cond.exactly (tmS i) "java/lang/String" ∈ flatC NB := by decide +kernel
theorem ns_co : ∀ i, i < 2 → Cond.eq (.field (tmS i) "java/lang/String" "coder" "B") (.int 0) ∈ flatC NB := by decide +kernel
theorem ns_ar : ∀ i, i < 2 → Cond.arrayOf (.field (tmS i) "java/lang/String" "value" "[B") .byte ∈ flatC NB := by decide +kernel
theorem ns_le : ∀ i, i < 2 → Cond.eq (.length (.field (tmS i) "java/lang/String" "value" "[B")) (.int (Int32.ofNat (kLen.getD i 0))) ∈ flatC NB := by decide +kernel
theorem ns_el : ∀ i, i < 2 → ∀ j, j < kLen.getD i 0 → Cond.eq (.elem (.field (tmS i) "java/lang/String" "value" "[B") (.int (Int32.ofNat j))) (.int ((kByt.getD i []).getD j 0)) ∈ flatC NB := by decide +kernel
theorem ns_ne : Cond.not (Cond.eq (tmS 0) (tmS 1)) ∈ flatC NB := by decide +kernel
theorem ns_e1 : Cond.eq (.string RX8 67) (.string RX9 173) ∈ flatC NB := by decide +kernel
theorem ns_e2 : Cond.eq (.string RX8 67) (.string RX10 30) ∈ flatC NB := by decide +kernel
theorem ns_e3 : Cond.eq (.string RX9 175) (.string RX10 32) ∈ flatC NB := by decide +kernel
theorem ns_r1 : Cond.stringRef RX8 67 "fswlh" ∈ lw_tbl := by decide +kernel
theorem ns_r2 : Cond.stringRef RX9 173 "fswlh" ∈ lw_tbl := by decide +kernel
theorem ns_r3 : Cond.stringRef RX9 175 "grwl" ∈ lw_tbl := by decide +kernel
theorem ns_r4 : Cond.stringRef RX10 30 "fswlh" ∈ lw_tbl := by decide +kernel
theorem ns_r5 : Cond.stringRef RX10 32 "grwl" ∈ lw_tbl := by decide +kernel
theorem ns_cs : Cond.eq (.static RJ0 "COMPACT_STRINGS" "Z") (.int 1) ∈ flatC NB := by decide +kernel
theorem ns_si : Cond.isRef (.static RJ3 "SIOOBE_FORMATTER" "Ljava/util/function/BiFunction;") ∈ flatC NB := by decide +kernel
theorem ns_lc : Cond.laysStatic RJ0 "COMPACT_STRINGS" "Z" ∈ lw_tbl := by decide +kernel
theorem ns_ls : Cond.laysStatic RJ3 "SIOOBE_FORMATTER" "Ljava/util/function/BiFunction;" ∈ lw_tbl := by decide +kernel
theorem ns_ca : Cond.castable "[I" "java/lang/Cloneable" ∈ lw_tbl := by decide +kernel
theorem ns_a5 : Cond.arrayOver (.object RX5) ∈ lw_tbl := by decide +kernel
theorem ns_a0 : Cond.arrayOver (.object RJ0) ∈ lw_tbl := by decide +kernel
theorem ns_oT : (Cond.castable "[I" "java/lang/Cloneable").onTables = true := by decide +kernel
section START2
variable {args : Array Value} {s : State} {A : Nat → Prop}
theorem st_str (hs : ∀ c ∈ flatC NB, c.before args s = true) (hts : ∀ w ∈ lw_tbl, w.before args s = true) (hA : ∀ a : Nat, a < s.heap.size → ¬ A a) :
    ∃ adK adV : Nat → Nat, vk_S 2 kLen kByt adK adV A s s.heap ∧ vk_R RX8 67 "fswlh" (adK 0) s ∧ vk_R RX9 173 "fswlh" (adK 0) s ∧ vk_R RX10 30 "fswlh" (adK 0) s ∧ vk_R RX9 175 "grwl" (adK 1) s ∧ vk_R RX10 32 "grwl" (adK 1) s := by
  obtain ⟨adK, adV, h1, h2⟩ := vk_Sof (N := 2) (tm := tmS) (len := kLen) (byt := kByt) (by decide) (fun i hi => hs _ (ns_ex i hi)) (fun i hi => hs _ (ns_co i hi)) (fun i hi => hs _ (ns_ar i hi)) (fun i hi => hs _ (ns_le i hi)) (fun i hi j hj => hs _ (ns_el i hi j hj)) (fun i j hi hj hij => by
    rcases (show i = 0 ∨ i = 1 by omega) with rfl | rfl <;> rcases (show j = 0 ∨ j = 1 by omega) with rfl | rfl
    · exact absurd rfl hij
    · exact Or.inl (hs _ ns_ne)
    · exact Or.inr (hs _ ns_ne)
    · exact absurd rfl hij) hA
  have k0 : (Term.string RX8 67).eval args s none [] s = some (.ref (adK 0)) := h2 0 (by decide)
  have k1 : (Term.string RX9 175).eval args s none [] s = some (.ref (adK 1)) := h2 1 (by decide)
  exact ⟨adK, adV, h1, vk_R.of (hts _ ns_r1) k0, vk_R.of (hts _ ns_r2) (va_eqR (hs _ ns_e1) k0), vk_R.of (hts _ ns_r4) (va_eqR (hs _ ns_e2) k0), vk_R.of (hts _ ns_r3) k1, vk_R.of (hts _ ns_r5) (va_eqR (hs _ ns_e3) k1)⟩
theorem st_cs (hs : ∀ c ∈ flatC NB, c.before args s = true) (hts : ∀ w ∈ lw_tbl, w.before args s = true) (hA : ∀ a : Nat, a < s.heap.size → ¬ A a) : va_Z RJ0 "COMPACT_STRINGS" "Z" (.int 1) A s s.heap :=
  va_Zof (hts _ ns_lc) (hts _ (W0_in _ ini_java_lang_String)) (va_eqt (hs _ ns_cs)) hA
theorem st_si (hs : ∀ c ∈ flatC NB, c.before args s = true) (hts : ∀ w ∈ lw_tbl, w.before args s = true) (hA : ∀ a : Nat, a < s.heap.size → ¬ A a) : va_Zq RJ3 "SIOOBE_FORMATTER" "Ljava/util/function/BiFunction;" A s s.heap :=
  va_Zqof (hts _ ns_ls) (hts _ (W0_in _ ini_jdk_internal_util_Preconditions)) (hs _ ns_si) hA
theorem st_nest (hts : ∀ w ∈ lw_tbl, w.before args s = true) : ∀ w ∈ Wn, va_Nw w s := by
  intro w hw
  have h1 := hts w (Wn_in w hw)
  have h2 := (List.mem_filter.mp hw).2
  cases w <;> first | exact va_Nw.of rfl h1 | (simp [isNest] at h2; done)
theorem st_arr (hts : ∀ w ∈ lw_tbl, w.before args s = true) : ∃ g : Nat → ClassId, ∀ (k : Nat) (q : ClassId × FieldType), ([(g 0, .int), (g 1, .long), (g 2, .object RX5), (g 3, .object RJ0)] : List (ClassId × FieldType))[k]? = some q → ArrOfT s q.1 q.2 ∧ va_RA s q.1 q.2 := by
  obtain ⟨c0, k0, m0, e0, e1, e2⟩ := Cond.arrayClass_spec (hts _ (W0_in _ arr_int))
  obtain ⟨c1, k1, m1, f0, f1, f2⟩ := Cond.arrayClass_spec (hts _ (W0_in _ arr_long))
  obtain ⟨n2, c2, k2, g1, g2, g3, g4, g5⟩ := Cond.arrayOver_spec (hts _ ns_a5)
  obtain ⟨n3, c3, k3, h1, h2, h3, h4, h5⟩ := Cond.arrayOver_spec (hts _ ns_a0)
  refine ⟨fun k => [c0, c1, c2, c3].getD k 0, fun k q hq => ?_⟩
  match k, hq with
  | 0, hq => cases hq; exact ⟨fun n z => ⟨fun k h => (by cases h), k0, e1, m0, e2⟩, e0⟩
  | 1, hq => cases hq; exact ⟨fun n z => ⟨fun k h => (by cases h), k1, f1, m1, f2⟩, f0⟩
  | 2, hq => cases hq; exact ⟨fun n z => ⟨fun k h => (by cases h), k2, g3, n2, g4⟩, k2, n2, g3, g4, g1, g5⟩
  | 3, hq => cases hq; exact ⟨fun n z => ⟨fun k h => (by cases h), k3, h3, n3, h4⟩, k3, n3, h3, h4, h1, h5⟩
  | k + 4, hq => simp at hq
end START2
