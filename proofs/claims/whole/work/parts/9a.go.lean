theorem st_cls {s : State} {args : Array Value} (hts0 : ∀ w ∈ W0, w.before args s = true) : ∃ (dC : Nat → ClassId) (dI : Nat → Nat → Nat), ∀ (k : Nat) (q : vw_C), vwCl[k]? = some q → u_Kn s q.1 q.2.1 q.2.2 (dC k) (dI k) := by
  obtain ⟨c0, i0, hn0⟩ := u_known (C := RX0) (T := TX0) (N := 4) (n := 4) hts0 ul_X0 (hts0 _ inst_X0)
  obtain ⟨c1, i1, hn1⟩ := u_known (C := RX1) (T := TX1) (N := 4) (n := 4) hts0 ul_X1 (hts0 _ inst_X1)
  obtain ⟨c2, i2, hn2⟩ := u_known (C := RX2) (T := TX2) (N := 7) (n := 7) hts0 ul_X2 (hts0 _ inst_X2)
  obtain ⟨c3, i3, hn3⟩ := u_known (C := RX3) (T := TX3) (N := 6) (n := 6) hts0 ul_X3 (hts0 _ inst_X3)
  obtain ⟨c4, i4, hn4⟩ := u_known (C := RX4) (T := TX4) (N := 4) (n := 4) hts0 ul_X4 (hts0 _ inst_X4)
  obtain ⟨c5, i5, hn5⟩ := u_known (C := RX5) (T := TX5) (N := 3) (n := 3) hts0 ul_X5 (hts0 _ inst_X5)
  obtain ⟨c6, i6, hn6⟩ := u_known (C := RX6) (T := TX6) (N := 6) (n := 6) hts0 ul_X6 (hts0 _ inst_X6)
  obtain ⟨c7, i7, hn7⟩ := u_known (C := RX7) (T := TX7) (N := 3) (n := 3) hts0 ul_X7 (hts0 _ inst_X7)
  obtain ⟨c8, i8, hn8⟩ := u_known (C := RX8) (T := TX8) (N := 11) (n := 11) hts0 ul_X8 (hts0 _ inst_X8)
  obtain ⟨c9, i9, hn9⟩ := u_known (C := RX9) (T := TX9) (N := 9) (n := 9) hts0 ul_X9 (hts0 _ inst_X9)
  obtain ⟨c10, i10, hn10⟩ := u_known (C := RX10) (T := TX10) (N := 28) (n := 28) hts0 ul_X10 (hts0 _ inst_X10)
  refine ⟨fun k => [c0, c1, c2, c3, c4, c5, c6, c7, c8, c9, c10].getD k 0, fun k => [i0, i1, i2, i3, i4, i5, i6, i7, i8, i9, i10].getD k (fun _ => 0), ?_⟩
  intro k q hq
  match k, hq with
  | 0, hq => cases hq; exact hn0
  | 1, hq => cases hq; exact hn1
  | 2, hq => cases hq; exact hn2
  | 3, hq => cases hq; exact hn3
  | 4, hq => cases hq; exact hn4
  | 5, hq => cases hq; exact hn5
  | 6, hq => cases hq; exact hn6
  | 7, hq => cases hq; exact hn7
  | 8, hq => cases hq; exact hn8
  | 9, hq => cases hq; exact hn9
  | 10, hq => cases hq; exact hn10
  | k + 11, hq => simp [vwCl] at hq
def fxF (t : Nat → Nat) (adK adV : Nat → Nat) (tz : Nat) : Nat → Nat := fun k => if k < 1010 then t (k - 1000) else if k < 1020 then adK (k - 1010) else if k < 1030 then adV (k - 1020) else tz
/-- all that the premises give at the start: the frame with its addresses of statics, what the constructors ask, what the methods ask but their region -/
theorem st_all {s : State} {b : Nat} (l : Launch) (hs : ∀ c ∈ flatC NB, c.before #[Value.ref b] s = true) (hts : ∀ w ∈ lw_tbl, w.before #[Value.ref b] s = true) :
    ∃ G : fGm, G.1 = l ∧ va_K G.2.1 vwCl (gT G) s ∧ RoN G s.heap.size s ∧ ((∀ i, i < 5 → va_Z RX9 (sNm i) "[I" (.ref (G.2.2.2 (1000 + i))) (fun q => s.heap.size ≤ q) s s.heap ∧ va_T .int (G.2.2.2 (1000 + i)) (sTb i).length (fun j => .int ((sTb i).getD j 0)) (fun q => s.heap.size ≤ q) s s.heap) ∧
      vk_R RX9 173 "fswlh" (G.2.2.2 1010) s ∧ vk_R RX9 175 "grwl" (G.2.2.2 1011) s ∧ (va_Z RJ3 "SIOOBE_FORMATTER" "Ljava/util/function/BiFunction;" .null (fun q => s.heap.size ≤ q) s s.heap ∨ va_Z RJ3 "SIOOBE_FORMATTER" "Ljava/util/function/BiFunction;" (.ref (G.2.2.2 1031)) (fun q => s.heap.size ≤ q) s s.heap)) := by
  have hnA : ∀ a : Nat, a < s.heap.size → ¬ s.heap.size ≤ a := fun a h => Nat.not_le.mpr h
  obtain ⟨dC, dI, hKc⟩ := st_cls (fun w hw => hts w (W0_in w hw))
  obtain ⟨g, hg⟩ := st_arr hts
  have htab := fun i hi => st_tab (A := fun q => s.heap.size ≤ q) hs hts hnA i hi
  obtain ⟨z0, e0, a0, b0⟩ := htab 0 (by decide)
  obtain ⟨z1, e1, a1, b1⟩ := htab 1 (by decide)
  obtain ⟨z2, e2, a2, b2⟩ := htab 2 (by decide)
  obtain ⟨z3, e3, a3, b3⟩ := htab 3 (by decide)
  obtain ⟨z4, e4, a4, b4⟩ := htab 4 (by decide)
  obtain ⟨adK, adV, hv, r1, r2, r3, r4, r5⟩ := st_str (A := fun q => s.heap.size ≤ q) hs hts hnA
  have hcs := st_cs (A := fun q => s.heap.size ≤ q) hs hts hnA
  obtain ⟨tz, hz⟩ : ∃ tz : Nat, va_Z RJ3 "SIOOBE_FORMATTER" "Ljava/util/function/BiFunction;" .null (fun q => s.heap.size ≤ q) s s.heap ∨ va_Z RJ3 "SIOOBE_FORMATTER" "Ljava/util/function/BiFunction;" (.ref tz) (fun q => s.heap.size ≤ q) s s.heap := by
    rcases st_si (A := fun q => s.heap.size ≤ q) hs hts hnA with h | ⟨t, h⟩
    · exact ⟨0, Or.inl h⟩
    · exact ⟨t, Or.inr h⟩
  have hK : va_K (dC, dI) vwCl (gT (l, (dC, dI), g, fxF (fun i => [z0, z1, z2, z3, z4].getD i 0) adK adV tz)) s := ⟨hKc, hg⟩
  have hlt : z0 < s.heap.size := by
    obtain ⟨cell, h, -⟩ := b0
    exact (Array.getElem?_eq_some_iff.mp h).1
  refine ⟨(l, (dC, dI), g, fxF (fun i => [z0, z1, z2, z3, z4].getD i 0) adK adV tz), rfl, hK, ⟨a0, st_first hs e0 rfl (va_nm_int (hK.2 0 _ rfl).2) (hnA _ hlt), ?_, r1, r3, r5, hcs, st_nest hts, ⟨va_AO.of (hts _ ns_a5), va_AO.of (hts _ ns_a0)⟩, va_Nw.of ns_oT (hts _ ns_ca)⟩, ?_, r2, r4, hz⟩
  · refine ⟨fun i hi => ?_, fun i j hi hj h => ?_⟩
    · rcases (show i = 0 ∨ i = 1 by omega) with rfl | rfl
      · exact hv.1 0 (by decide)
      · exact hv.1 1 (by decide)
    · rcases (show i = 0 ∨ i = 1 by omega) with rfl | rfl <;> rcases (show j = 0 ∨ j = 1 by omega) with rfl | rfl
      · rfl
      · exact hv.2 0 1 (by decide) (by decide) h
      · exact hv.2 1 0 (by decide) (by decide) h
      · rfl
  · intro i hi
    rcases (show i = 0 ∨ i = 1 ∨ i = 2 ∨ i = 3 ∨ i = 4 by omega) with rfl | rfl | rfl | rfl | rfl
    · exact ⟨a0, b0⟩
    · exact ⟨a1, b1⟩
    · exact ⟨a2, b2⟩
    · exact ⟨a3, b3⟩
    · exact ⟨a4, b4⟩
