theorem opB1 : OpB oc1 1 := by
  intro b
  by_cases h : b = 124
  · subst h; exact Or.inr ⟨rfl, by decide, rfl, by decide, by decide⟩
  · refine Or.inl ⟨?_, by unfold oc1; rw [if_neg h]⟩
    unfold rkN; rw [if_neg h]; (repeat' split) <;> omega
theorem opB2 : OpB oc2 2 := by
  intro b
  by_cases h : b = 38
  · subst h; exact Or.inr ⟨rfl, by decide, rfl, by decide, by decide⟩
  · refine Or.inl ⟨?_, by unfold oc2; rw [if_neg h]⟩
    unfold rkN; simp only [if_neg h]; (repeat' split) <;> omega
theorem opB3 : OpB oc3 3 := by
  intro b
  by_cases h : b = 60
  · subst h; exact Or.inr ⟨rfl, by decide, rfl, by decide, by decide⟩
  by_cases h2 : b = 61
  · subst h2; exact Or.inr ⟨rfl, by decide, rfl, by decide, by decide⟩
  by_cases h3 : b = 62
  · subst h3; exact Or.inr ⟨rfl, by decide, rfl, by decide, by decide⟩
  · refine Or.inl ⟨?_, by unfold oc3; rw [if_neg h, if_neg h2, if_neg h3]⟩
    unfold rkN; simp only [if_neg h, if_neg h2, if_neg h3]; (repeat' split) <;> omega
theorem opB4 : OpB oc4 4 := by
  intro b
  by_cases h : b = 43
  · subst h; exact Or.inr ⟨rfl, by decide, rfl, by decide, by decide⟩
  by_cases h2 : b = 45
  · subst h2; exact Or.inr ⟨rfl, by decide, rfl, by decide, by decide⟩
  · refine Or.inl ⟨?_, by unfold oc4; rw [if_neg h, if_neg h2]⟩
    unfold rkN; simp only [if_neg h, if_neg h2]; (repeat' split) <;> omega
theorem opB5 : OpB oc5 5 := by
  intro b
  by_cases h : b = 42
  · subst h; exact Or.inr ⟨rfl, by decide, rfl, by decide, by decide⟩
  by_cases h2 : b = 47
  · subst h2; exact Or.inr ⟨rfl, by decide, rfl, by decide, by decide⟩
  by_cases h3 : b = 37
  · subst h3; exact Or.inr ⟨rfl, by decide, rfl, by decide, by decide⟩
  · refine Or.inl ⟨?_, by unfold oc5; rw [if_neg h, if_neg h2, if_neg h3]⟩
    unfold rkN; simp only [if_neg h, if_neg h2, if_neg h3]; (repeat' split) <;> omega
theorem b_not {b : Bool} (h : ¬ b = true) : b = false := by cases b with
  | false => rfl
  | true => exact absurd rfl h
theorem sim_cmp {T : Nat → Int32} {N u m : Nat} {F : Nat → List Int32 → pR} (hF : Sim T N u 4 m F) : Sim T N u 3 m (pCmp T N F) := by
  intro a C O P kn nm hk haN hP hP33
  obtain ⟨f1, f2⟩ := hF a C O P kn nm hk haN (by omega) (fun _ => hP33 (by decide))
  unfold pCmp SimR
  by_cases hok : (F a C).1 = true
  · rw [if_pos hok]
    obtain ⟨D, S1, O2, P2, k2, g1, g2, g3, g4, g5, g6, g7, g8⟩ := f2 hok
    obtain ⟨n1, n2, n3⟩ := Nf_up (r := 3) (by decide) g6 (hP33 (by decide))
    rw [kSet_id (r := 3 - 1) (P := P) (by omega)] at n1
    rw [kSet_id (r := 3) (P := P) (by omega)] at n3
    rcases opB3 (hrB T N (F a C).2.1) with ⟨hn, h0⟩ | ⟨hb, h0, htc, ho1, ho2⟩
    · rw [if_pos h0]
      refine ⟨f1, fun _ => ⟨D, S1, O2, P2, k2, g1, g2, g3, g4, g5, ?_, fun h => ?_, g8⟩⟩
      · unfold Nf
        rw [if_pos (by decide)]
        exact ⟨n1, n2⟩
      · have hT : hrB T N (F a C).2.1 = T (F a C).2.1 := by unfold hrB; rw [if_pos h]
        rw [hT] at hn
        rcases g7 h with h1 | h1 | ⟨h1, h2, h3⟩
        · exact Or.inl h1
        · exact Or.inr (Or.inl (by omega))
        · exact absurd h2 (by decide)
    · rw [if_neg h0]
      obtain ⟨haN', hT⟩ := hrB_lt (by rw [hb]; omega)
      rw [hT] at hb
      obtain ⟨nm2, hgo⟩ := g5.go (u := u) haN'
      rw [if_neg (rk_sp (by rw [hb]; omega)).2.2.1, join_go hb (by decide) (fun _ => by rw [n3]; show rkN (tp P) ≠ 3; omega) n1] at hgo
      have hrun := loop_s (N := N) haN' hgo
      subst n2
      obtain ⟨e1, e2⟩ := hF ((F a C).2.1 + 1) (F a C).2.2 (D.map tC ++ O) (T (F a C).2.1 :: P) kn nm2 hk (by omega) (by show rkN (T (F a C).2.1) < 4; omega) (fun _ => (rk_sp (show rkN (T (F a C).2.1) ≠ 0 by rw [hb]; omega)).1)
      rw [g4, hrun]
      by_cases hok2 : (F ((F a C).2.1 + 1) (F a C).2.2).1 = true
      · rw [if_pos hok2]
        refine ⟨fun h => absurd (show true = false from h) (by decide), fun _ => ?_⟩
        obtain ⟨D2, S3, O3, P3, k3, q1, q2, q3, q4, q5, q6, q7, q8⟩ := e2 hok2
        obtain ⟨m1, m2, m3⟩ := Nf_up (r := 3) (by decide) q6 (rk_sp (show rkN (T (F a C).2.1) ≠ 0 by rw [hb]; omega)).1
        rw [kSet_id (r := 3) (P := T (F a C).2.1 :: P) (by show rkN (T (F a C).2.1) ≤ 3; omega)] at m3
        refine ⟨oc3 (hrB T N (F a C).2.1) :: (D2 ++ D), S3, O3, P3, k3, ?_, ?_, q3, q4, q5, ?_, fun h => ?_, wfD_op ho1 ho2 q8 g8⟩
        · show _ :: _ = _
          rw [q1, g1, List.cons_append, List.append_assoc]
        · show a < (F ((F a C).2.1 + 1) (F a C).2.2).2.1
          omega
        · unfold Nf
          rw [if_pos (by decide)]
          refine ⟨?_, m2⟩
          rw [m1, kSet_pop (show 3 - 1 < rkN (T (F a C).2.1) by omega), kSet_id (r := 3 - 1) (P := P) (by omega)]
          rw [List.map_cons, htc, hT, List.map_append, List.cons_append, List.append_assoc]
        · rcases q7 h with h1 | h1 | ⟨h1, h2, h3⟩
          · exact Or.inl h1
          · have h1 : rkN (T (F ((F a C).2.1 + 1) (F a C).2.2).2.1) < 4 := h1
            by_cases h9 : rkN (T (F ((F a C).2.1 + 1) (F a C).2.2).2.1) = 3
            · exact Or.inr (Or.inr ⟨h9, by decide, by rw [m3]; exact hb⟩)
            · exact Or.inr (Or.inl (show rkN (T (F ((F a C).2.1 + 1) (F a C).2.2).2.1) < 3 by omega))
          · exact absurd h2 (by decide)
      · rw [if_neg hok2]
        exact ⟨e1, fun h => absurd h hok2⟩
  · rw [if_neg hok]
    exact ⟨f1, fun h => absurd h hok⟩
theorem sim_ei {T : Nat → Int32} {N u m : Nat} {one : Nat → List Int32 → pR} (h : Sim T N u 6 m one) : Sim T N u 1 m (pEi T N one) :=
  sim_lev (sim_lev (sim_cmp (sim_lev (sim_lev h (by decide) (by decide) (by decide) opB5) (by decide) (by decide) (by decide) opB4)) (by decide) (by decide) (by decide) opB2) (by decide) (by decide) (by decide) opB1
theorem isD_nat {b : Int32} (h : isD b = true) : ∃ d, d ≤ 9 ∧ b = nI (48 + d) := by
  unfold isD at h
  rw [Bool.and_eq_true, decide_eq_true_iff, decide_eq_true_iff] at h
  obtain ⟨h1, h2⟩ := h
  obtain ⟨j, hj, e⟩ := in2_nI (x := b) (n := 58) (by decide) ⟨by grind, by show b < 58; grind⟩
  have h3 : 48 ≤ j := by
    rw [e] at h1
    exact (nI_leI (a := 48) (b := j) (by decide) (by omega)).mp h1
  exact ⟨j - 48, by omega, by rw [e]; congr 1; omega⟩
theorem isD_hr {T : Nat → Int32} {N a : Nat} (h : isD (hrB T N a) = true) : a < N ∧ hrB T N a = T a := by
  unfold hrB at h ⊢
  by_cases e : a < N
  · rw [if_pos e]; exact ⟨e, rfl⟩
  · rw [if_neg e] at h; exact absurd h (by decide)
theorem hr_eq {T : Nat → Int32} {N a : Nat} {c : Int32} (h : hrB T N a = c) (hc : c ≠ -1) : a < N ∧ T a = c := by
  unfold hrB at h
  by_cases e : a < N
  · rw [if_pos e] at h; exact ⟨e, h⟩
  · rw [if_neg e] at h; exact absurd h.symm hc
theorem num_st {x d : Nat} : 10 * nI x + nI (48 + d) - 48 = nI (10 * x + d) := by
  rw [show (10 : Int32) = nI 10 from rfl, show (48 : Int32) = nI 48 from rfl, pk_mul, nI_add, pk_sub (by omega)]
  congr 1
  omega
theorem sim_num {T : Nat → Int32} {N u : Nat} {O P : List Int32} {k : Int32} : ∀ (n i dg x : Nat) (v : Int32), dg + n = 4 → 1 ≤ dg → v = nI x → x < 10 ^ dg → i ≤ N →
    ∃ dg' x', kLoop T u (N - i) i (O, P, k, dg, v, true) = kLoop T u (N - (pNum T N n i v).1) (pNum T N n i v).1 (O, P, k, dg', (pNum T N n i v).2, true) ∧ (pNum T N n i v).2 = nI x' ∧ x' < 10000 ∧ 1 ≤ dg' ∧ i ≤ (pNum T N n i v).1 ∧ (pNum T N n i v).1 ≤ N ∧ ((pNum T N n i v).1 < N → isD (T (pNum T N n i v).1) = true → ¬ (0 < dg' ∧ dg' < 4)) := by
  intro n
  induction n with
  | zero =>
    intro i dg x v hn h1 hv hx hi
    have : dg = 4 := by omega
    subst this
    exact ⟨4, x, rfl, hv, hx, h1, Nat.le_refl _, hi, fun _ _ h => absurd h.2 (by decide)⟩
  | succ n ih =>
    intro i dg x v hn h1 hv hx hi
    by_cases hd : isD (hrB T N i) = true
    · have e : pNum T N (n + 1) i v = pNum T N n (i + 1) (10 * v + hrB T N i - 48) := by conv => lhs; unfold pNum; rw [if_pos hd]
      obtain ⟨hiN, hT⟩ := isD_hr hd
      obtain ⟨d, hd9, hde⟩ := isD_nat hd
      have hgo : kGo u (T i) (O, P, k, dg, v, true) = some (O, P, k, dg + 1, 10 * v + hrB T N i - 48, true) := by
        unfold kGo
        rw [if_pos ⟨by rw [← hT]; exact hd, h1, by show dg < 4; omega⟩, hT]
        show some (O, P, k, dg + 1, v * 10 + T i - 48, true) = _
        rw [Int32.mul_comm]
      rw [e, loop_s hiN hgo]
      obtain ⟨dg', x', q1, q2, q3, q4, q5, q6, q7⟩ := ih (i + 1) (dg + 1) (10 * x + d) (10 * v + hrB T N i - 48) (by omega) (by omega) (by rw [hv, hde]; exact num_st) (by rw [Nat.pow_succ]; omega) (by omega)
      exact ⟨dg', x', q1, q2, q3, q4, by omega, q6, q7⟩
    · have e : pNum T N (n + 1) i v = (i, v) := by unfold pNum; rw [if_neg hd]
      rw [e]
      refine ⟨dg, x, rfl, hv, ?_, h1, Nat.le_refl _, hi, fun h h9 => ?_⟩
      · have : (10 : Nat) ^ dg ≤ 10 ^ 4 := Nat.pow_le_pow_right (by decide) (by omega)
        omega
      · have hT : hrB T N i = T i := by unfold hrB; rw [if_pos h]
        exact absurd (by rw [hT]; exact h9) hd
theorem kEnd_0 {O P : List Int32} {k nm : Int32} {due : Bool} : kEnd (O, P, k, 0, nm, due) = (O, P, k, 0, nm, due) := rfl
theorem kGo_0 {u : Nat} {b : Int32} {O P : List Int32} {k nm : Int32} : kGo u b (O, P, k, 0, nm, true) = if b = 33 ∨ b = 40 then (if 5 ≤ k then none else some (O, b :: P, k + 1, 0, nm, true))
  else if isD b = true then some (O, P, k, 1, b - 48, true)
  else if 0 ≤ nmI u b then some ((kNot P ((-1 - nmI u b) :: O) k).1, (kNot P ((-1 - nmI u b) :: O) k).2.1, (kNot P ((-1 - nmI u b) :: O) k).2.2, 0, nm, false)
  else none := by
  unfold kGo
  rw [if_neg (fun h => absurd h.2.1 (Nat.lt_irrefl 0)), kEnd_0]
  rfl
theorem nmI_in (u : Nat) (b : Int32) : nmI u b = -1 ∨ (0 ≤ nmI u b ∧ nmI u b ≤ 4) := by
  unfold nmI
  (repeat' split) <;> first | exact Or.inl rfl | exact Or.inr ⟨by decide, by decide⟩
theorem sim_atom {T : Nat → Int32} {N u a : Nat} {C O P : List Int32} {kn : Nat} {nm : Int32} (haN : a ≤ N) (h33 : ¬ hrB T N a = 33) (h40 : ¬ hrB T N a = 40) : SimR T N u 6 a (O, P, nI kn, 0, nm, true) C O P kn (pAtom T N u a C) := by
  have stop6 : ∀ (j : Nat) (O1 P1 : List Int32), stopB T N 6 j O1 P1 := fun j O1 P1 h => Or.inr (Or.inl (Nat.lt_of_le_of_lt (rk_le _) (by decide)))
  unfold pAtom SimR
  by_cases hd : isD (hrB T N a) = true
  · rw [if_pos hd]
    obtain ⟨haN', hT⟩ := isD_hr hd
    obtain ⟨d, hd9, hde⟩ := isD_nat hd
    have hgo : kGo u (T a) (O, P, nI kn, 0, nm, true) = some (O, P, nI kn, 1, 10 * 0 + hrB T N a - 48, true) := by
      rw [kGo_0, ← hT, if_neg (fun h => h.elim h33 h40), if_pos hd]
      rw [show 10 * 0 + hrB T N a - 48 = hrB T N a - 48 by grind]
    have e : pNum T N 4 a 0 = pNum T N 3 (a + 1) (10 * 0 + hrB T N a - 48) := by conv => lhs; unfold pNum; rw [if_pos hd]
    obtain ⟨dg', x', q1, q2, q3, q4, q5, q6, q7⟩ := sim_num (T := T) (N := N) (u := u) (O := O) (P := P) (k := nI kn) 3 (a + 1) 1 d (10 * 0 + hrB T N a - 48) rfl (by decide) (by rw [hde]; have := num_st (x := 0) (d := d); rw [Nat.mul_zero, Nat.zero_add] at this; exact this) (by omega) (by omega)
    rw [e]
    generalize pNum T N 3 (a + 1) (10 * 0 + hrB T N a - 48) = R at q1 q2 q3 q5 q6 q7
    obtain ⟨j, v⟩ := R
    refine ⟨fun h => absurd (show true = false from h) (by decide), fun _ => ⟨[v], (O, P, nI kn, dg', v, true), (kNot P (v :: O) (nI kn)).1, (kNot P (v :: O) (nI kn)).2.1, (kNot P (v :: O) (nI kn)).2.2, rfl, by show a < j; have q5 : a + 1 ≤ j := q5; omega, q6, (loop_s haN' hgo).trans q1, ⟨⟨v, ?_⟩, q7⟩, ?_, stop6 _ _ _, ?_⟩⟩
    · unfold kEnd
      rw [if_pos (show 0 < dg' by omega)]
    · unfold Nf
      rw [if_neg (by decide)]
      have q2 : v = nI x' := q2
      rw [List.map_cons, tC_num (by rw [q2]; exact nI_lt (b := 10000) q3 (by decide))]
      rfl
    · have q2 : v = nI x' := q2
      exact wfD_1 (by rw [q2]; exact nI_pos' (by omega)) (by rw [q2]; exact nI_lt (b := 10005) (by omega) (by decide))
  · rw [if_neg hd]
    by_cases hn : 0 ≤ nmI u (hrB T N a)
    · rw [if_pos hn]
      have hin : nmI u (hrB T N a) ≤ 4 := (nmI_in u (hrB T N a)).elim (fun h => absurd hn (by rw [h]; decide)) (fun h => h.2)
      have haN' : a < N := by
        rcases Nat.lt_or_ge a N with h | h
        · exact h
        · have e : hrB T N a = -1 := by unfold hrB; rw [if_neg (by omega)]
          have hm : nmI u (-1) = -1 := by unfold nmI; split <;> decide
          rw [e, hm] at hn
          exact absurd hn (by decide)
      have hT : hrB T N a = T a := by unfold hrB; rw [if_pos haN']
      have hgo : kGo u (T a) (O, P, nI kn, 0, nm, true) = some ((kNot P ((-1 - nmI u (hrB T N a)) :: O) (nI kn)).1, (kNot P ((-1 - nmI u (hrB T N a)) :: O) (nI kn)).2.1, (kNot P ((-1 - nmI u (hrB T N a)) :: O) (nI kn)).2.2, 0, nm, false) := by
        rw [kGo_0, ← hT, if_neg (fun h => h.elim h33 h40), if_neg hd, if_pos hn]
      refine ⟨fun h => absurd (show true = false from h) (by decide), fun _ => ⟨[10000 + nmI u (hrB T N a)], _, _, _, _, rfl, Nat.lt_succ_self a, haN', loop_s haN' hgo, Rdy.of, ?_, stop6 _ _ _, wfD_1 (by grind) (by grind)⟩⟩
      unfold Nf
      rw [if_neg (by decide), List.map_cons, tC_name (by grind) (by grind), show -1 - (10000 + nmI u (hrB T N a) - 10000) = -1 - nmI u (hrB T N a) by grind]
      rfl
    · rw [if_neg hn]
      refine ⟨fun _ => ?_, fun h => absurd (show false = true from h) (by decide)⟩
      rcases Nat.lt_or_ge a N with h | h
      · have hT : hrB T N a = T a := by unfold hrB; rw [if_pos h]
        refine fault_f h ?_
        rw [kGo_0, ← hT, if_neg (fun h => h.elim h33 h40), if_neg hd, if_neg hn]
      · have : a = N := by omega
        subst this
        exact fault_e rfl
theorem open_go {u kn m : Nat} {b : Int32} {O P : List Int32} {nm : Int32} (hb : b = 33 ∨ b = 40) (hk : kn + (m + 1) = 5) : kGo u b (O, P, nI kn, 0, nm, true) = some (O, b :: P, nI (kn + 1), 0, nm, true) := by
  rw [kGo_0, if_pos hb, if_neg (show ¬ (5 : Int32) ≤ nI kn from nI_ge (a := kn) (b := 5) (by omega) (by decide)), nI_1]
theorem sim_one {T : Nat → Int32} {N u : Nat} : ∀ m, Sim T N u 6 m (pOne T N u m) := by
  have stop6 : ∀ (j : Nat) (O1 P1 : List Int32), stopB T N 6 j O1 P1 := fun j O1 P1 h => Or.inr (Or.inl (Nat.lt_of_le_of_lt (rk_le _) (by decide)))
  intro m
  induction m with
  | zero =>
    intro a C O P kn nm hk haN hP hP33
    unfold pOne
    by_cases h : hrB T N a = 33 ∨ hrB T N a = 40
    · rw [if_pos h]
      refine ⟨fun _ => ?_, fun h => absurd (show false = true from h) (by decide)⟩
      have haT : a < N ∧ (T a = 33 ∨ T a = 40) := by
        rcases h with h | h
        · have := hr_eq h (by decide); exact ⟨this.1, Or.inl this.2⟩
        · have := hr_eq h (by decide); exact ⟨this.1, Or.inr this.2⟩
      have hk5 : kn = 5 := hk
      subst hk5
      refine fault_f haT.1 ?_
      rw [kGo_0, if_pos haT.2, if_pos (by decide)]
    · rw [if_neg h]
      exact sim_atom haN (fun h9 => h (Or.inl h9)) (fun h9 => h (Or.inr h9))
  | succ m ih =>
    intro a C O P kn nm hk haN hP hP33
    unfold pOne
    by_cases h33 : hrB T N a = 33
    · rw [if_pos h33]
      obtain ⟨haN', hT⟩ := hr_eq h33 (by decide)
      have hrun := loop_s (N := N) haN' (open_go (u := u) (O := O) (P := P) (nm := nm) (Or.inl hT) hk)
      rw [hT] at hrun
      obtain ⟨f1, f2⟩ := ih (a + 1) C O (33 :: P) (kn + 1) nm (by omega) (by omega) (by show 0 < 6; decide) (fun h => absurd h (by decide))
      unfold SimR
      rw [hrun]
      by_cases hok : (pOne T N u m (a + 1) C).1 = true
      · rw [if_pos hok]
        obtain ⟨D, S1, O1, P1, k1, g1, g2, g3, g4, g5, g6, g7, g8⟩ := f2 hok
        refine ⟨fun h => absurd (show true = false from h) (by decide), fun _ => ⟨20010 :: D, S1, O1, P1, k1, ?_, by show a < (pOne T N u m (a + 1) C).2.1; omega, g3, g4, g5, ?_, stop6 _ _ _, wfD_not g8⟩⟩
        · show 20010 :: _ = _
          rw [g1]; rfl
        · unfold Nf at g6 ⊢
          rw [if_neg (by decide)] at g6 ⊢
          rw [g6, kNot_pop, show nI (kn + 1) - 1 = nI kn by rw [← nI_1]; grind]
          rfl
      · rw [if_neg hok]
        exact ⟨f1, fun h => absurd h hok⟩
    · rw [if_neg h33]
      by_cases h40 : hrB T N a = 40
      · rw [if_pos h40]
        obtain ⟨haN', hT⟩ := hr_eq h40 (by decide)
        have hrun := loop_s (N := N) haN' (open_go (u := u) (O := O) (P := P) (nm := nm) (Or.inr hT) hk)
        rw [hT] at hrun
        obtain ⟨f1, f2⟩ := sim_ei ih (a + 1) C O (40 :: P) (kn + 1) nm (by omega) (by omega) (by show 0 < 1; decide) (fun _ => by show (40 : Int32) ≠ 33; decide)
        unfold SimR
        rw [hrun]
        by_cases hok : (pEi T N (pOne T N u m) (a + 1) C).1 = true
        · rw [if_pos hok]
          obtain ⟨D, S1, O1, P1, k1, g1, g2, g3, g4, g5, g6, g7, g8⟩ := f2 hok
          generalize pEi T N (pOne T N u m) (a + 1) C = R at g1 g2 g3 g4 g5 g7
          obtain ⟨b9, j, C'⟩ := R
          unfold Nf at g6
          rw [if_pos (by decide)] at g6
          obtain ⟨g6, g6k⟩ := g6
          have g6 : kSet 0 P1 O1 = (D.map tC ++ O, 40 :: P) := g6
          by_cases h41 : hrB T N j = 41
          · rw [if_pos h41]
            obtain ⟨hjN, hTj⟩ := hr_eq h41 (by decide)
            obtain ⟨nm2, hgo⟩ := g5.go (u := u) hjN
            have hcl : kClose (O1, P1, k1, 0, nm2, false) = some ((kNot P (D.map tC ++ O) (nI kn)).1, (kNot P (D.map tC ++ O) (nI kn)).2.1, (kNot P (D.map tC ++ O) (nI kn)).2.2, 0, nm2, false) := by
              unfold kClose
              simp only [g6, g6k]
              rw [show nI (kn + 1) - 1 = nI kn by rw [← nI_1]; grind]
            rw [if_pos hTj, hcl] at hgo
            refine ⟨fun h => absurd (show true = false from h) (by decide), fun _ => ⟨D, _, _, _, _, g1, by show a < j + 1; have g2 : a + 1 < j := g2; omega, hjN, g4.trans (loop_s hjN hgo), Rdy.of, ?_, stop6 _ _ _, g8⟩⟩
            unfold Nf
            rw [if_neg (by decide)]
          · rw [if_neg h41]
            refine ⟨fun _ => ?_, fun h => absurd (show false = true from h) (by decide)⟩
            rw [g4]
            rcases Nat.lt_or_ge j N with h | h
            · have hTj : T j ≠ 41 := fun h9 => h41 (by unfold hrB; rw [if_pos h]; exact h9)
              obtain ⟨nm2, hgo⟩ := g5.go (u := u) h
              rw [if_neg hTj] at hgo
              refine fault_f h (hgo.trans ?_)
              unfold kJoin
              rcases g7 h with h1 | h1 | ⟨h1, h2, h3⟩
              · rw [if_pos h1]
              · rw [if_pos (by have h1 : rkN (T j) < 1 := h1; omega)]
              · rw [if_neg (by have h1 : rkN (T j) = 3 := h1; omega), if_pos ⟨h1, by have h1 : rkN (T j) = 3 := h1; rw [h1]; exact h3⟩]
            · have : j = N := by have g3 : j ≤ N := g3; omega
              subst this
              refine fault_e ?_
              obtain ⟨nm2, he⟩ := g5.1
              unfold kBad
              rw [he, g6k]
              show (false || decide (0 < nI (kn + 1))) = true
              rw [Bool.false_or, decide_eq_true_iff]
              exact nI_lt (a := 0) (by omega) (by omega)
        · rw [if_neg hok]
          exact ⟨f1, fun h => absurd h hok⟩
      · rw [if_neg h40]
        exact sim_atom haN h33 h40
