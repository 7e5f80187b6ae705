/-- how far, how much -/
def Bd (N : Nat) (F : Nat → List Int32 → pR) : Prop := ∀ (a : Nat) (C : List Int32), a ≤ N → (F a C).2.1 ≤ N ∧ ((F a C).1 = true → a < (F a C).2.1 ∧ (F a C).2.2.length + a ≤ C.length + (F a C).2.1)
theorem bd_loop {T : Nat → Int32} {N r : Nat} {F : Nat → List Int32 → pR} {opc : Int32 → Int32} (hop : OpB opc r) (hr : 1 ≤ r) (hF : Bd N F) : ∀ (n a : Nat) (C : List Int32), a ≤ N → (pLoop T N F opc n a C).2.1 ≤ N ∧ ((pLoop T N F opc n a C).1 = true → a ≤ (pLoop T N F opc n a C).2.1 ∧ (pLoop T N F opc n a C).2.2.length + a ≤ C.length + (pLoop T N F opc n a C).2.1) := by
  intro n
  induction n with
  | zero => intro a C ha; exact ⟨ha, fun _ => ⟨Nat.le_refl _, Nat.le_refl _⟩⟩
  | succ n ih =>
    intro a C ha
    rcases hop (hrB T N a) with ⟨_, h0⟩ | ⟨hb, h0, _, _, _⟩
    · have e : pLoop T N F opc (n + 1) a C = (true, a, C) := by unfold pLoop; rw [if_pos h0]
      rw [e]
      exact ⟨ha, fun _ => ⟨Nat.le_refl _, Nat.le_refl _⟩⟩
    · obtain ⟨haN, _⟩ := hrB_lt (T := T) (N := N) (a := a) (by rw [hb]; omega)
      have e : pLoop T N F opc (n + 1) a C = if (F (a + 1) C).1 = true then pLoop T N F opc n (F (a + 1) C).2.1 (opc (hrB T N a) :: (F (a + 1) C).2.2) else F (a + 1) C := by
        conv => lhs; unfold pLoop; rw [if_neg h0]
      rw [e]
      obtain ⟨b1, b2⟩ := hF (a + 1) C (by omega)
      by_cases hok : (F (a + 1) C).1 = true
      · rw [if_pos hok]
        obtain ⟨c1, c2⟩ := ih (F (a + 1) C).2.1 (opc (hrB T N a) :: (F (a + 1) C).2.2) b1
        obtain ⟨b3, b4⟩ := b2 hok
        refine ⟨c1, fun h => ?_⟩
        obtain ⟨c3, c4⟩ := c2 h
        rw [List.length_cons] at c4
        exact ⟨by omega, by omega⟩
      · rw [if_neg hok]
        exact ⟨b1, fun h => absurd h hok⟩
theorem bd_lev {T : Nat → Int32} {N r : Nat} {F : Nat → List Int32 → pR} {opc : Int32 → Int32} (hop : OpB opc r) (hr : 1 ≤ r) (hF : Bd N F) : Bd N (pLev T N F opc) := by
  intro a C ha
  obtain ⟨b1, b2⟩ := hF a C ha
  unfold pLev
  by_cases hok : (F a C).1 = true
  · rw [if_pos hok]
    obtain ⟨c1, c2⟩ := bd_loop (T := T) hop hr hF N (F a C).2.1 (F a C).2.2 b1
    obtain ⟨b3, b4⟩ := b2 hok
    refine ⟨c1, fun h => ?_⟩
    obtain ⟨c3, c4⟩ := c2 h
    exact ⟨by omega, by omega⟩
  · rw [if_neg hok]
    exact ⟨b1, fun h => absurd h hok⟩
theorem bd_cmp {T : Nat → Int32} {N : Nat} {F : Nat → List Int32 → pR} (hF : Bd N F) : Bd N (pCmp T N F) := by
  intro a C ha
  obtain ⟨b1, b2⟩ := hF a C ha
  unfold pCmp
  by_cases hok : (F a C).1 = true
  · rw [if_pos hok]
    obtain ⟨b3, b4⟩ := b2 hok
    rcases opB3 (hrB T N (F a C).2.1) with ⟨_, h0⟩ | ⟨hb, h0, _, _, _⟩
    · rw [if_pos h0]
      exact ⟨b1, b2⟩
    · rw [if_neg h0]
      obtain ⟨haN, _⟩ := hrB_lt (T := T) (N := N) (a := (F a C).2.1) (by rw [hb]; omega)
      obtain ⟨c1, c2⟩ := hF ((F a C).2.1 + 1) (F a C).2.2 (by omega)
      by_cases hok2 : (F ((F a C).2.1 + 1) (F a C).2.2).1 = true
      · rw [if_pos hok2]
        obtain ⟨c3, c4⟩ := c2 hok2
        refine ⟨c1, fun _ => ⟨by show a < (F ((F a C).2.1 + 1) (F a C).2.2).2.1; omega, ?_⟩⟩
        show (_ :: (F ((F a C).2.1 + 1) (F a C).2.2).2.2).length + a ≤ C.length + (F ((F a C).2.1 + 1) (F a C).2.2).2.1
        rw [List.length_cons]
        omega
      · rw [if_neg hok2]
        exact ⟨c1, fun h => absurd h hok2⟩
  · rw [if_neg hok]
    exact ⟨b1, fun h => absurd h hok⟩
theorem bd_pr {T : Nat → Int32} {N : Nat} {one : Nat → List Int32 → pR} (h : Bd N one) : Bd N (pPr T N one) := bd_lev opB5 (by decide) h
theorem bd_su {T : Nat → Int32} {N : Nat} {one : Nat → List Int32 → pR} (h : Bd N one) : Bd N (pSu T N one) := bd_lev opB4 (by decide) (bd_pr h)
theorem bd_co {T : Nat → Int32} {N : Nat} {one : Nat → List Int32 → pR} (h : Bd N one) : Bd N (pCo T N one) := bd_cmp (bd_su h)
theorem bd_bo {T : Nat → Int32} {N : Nat} {one : Nat → List Int32 → pR} (h : Bd N one) : Bd N (pBo T N one) := bd_lev opB2 (by decide) (bd_co h)
theorem bd_ei {T : Nat → Int32} {N : Nat} {one : Nat → List Int32 → pR} (h : Bd N one) : Bd N (pEi T N one) := bd_lev opB1 (by decide) (bd_bo h)
theorem bd_num {T : Nat → Int32} {N : Nat} : ∀ (n a : Nat) (v : Int32), a ≤ N → a ≤ (pNum T N n a v).1 ∧ (pNum T N n a v).1 ≤ N := by
  intro n
  induction n with
  | zero => intro a v h; exact ⟨Nat.le_refl _, h⟩
  | succ n ih =>
    intro a v h
    unfold pNum
    by_cases hd : isD (hrB T N a) = true
    · rw [if_pos hd]
      have := isD_hr hd
      obtain ⟨h1, h2⟩ := ih (a + 1) (10 * v + hrB T N a - 48) (by omega)
      exact ⟨by omega, h2⟩
    · rw [if_neg hd]
      exact ⟨Nat.le_refl _, h⟩
theorem nm_lt {T : Nat → Int32} {N u a : Nat} (h : 0 ≤ nmI u (hrB T N a)) : a < N := by
  rcases Nat.lt_or_ge a N with h9 | h9
  · exact h9
  · have e : hrB T N a = -1 := by unfold hrB; rw [if_neg (by omega)]
    have hm : nmI u (-1) = -1 := by unfold nmI; split <;> decide
    rw [e, hm] at h
    exact absurd h (by decide)
theorem bd_atom {T : Nat → Int32} {N u : Nat} : Bd N (pAtom T N u) := by
  intro a C ha
  unfold pAtom
  by_cases hd : isD (hrB T N a) = true
  · rw [if_pos hd]
    obtain ⟨haN, _⟩ := isD_hr hd
    have e : pNum T N 4 a 0 = pNum T N 3 (a + 1) (10 * 0 + hrB T N a - 48) := by conv => lhs; unfold pNum; rw [if_pos hd]
    obtain ⟨h1, h2⟩ := bd_num (T := T) (N := N) 3 (a + 1) (10 * 0 + hrB T N a - 48) (by omega)
    rw [e]
    refine ⟨h2, fun _ => ⟨h1, ?_⟩⟩
    show (_ :: C).length + a ≤ C.length + (pNum T N 3 (a + 1) (10 * 0 + hrB T N a - 48)).1
    rw [List.length_cons]
    omega
  · rw [if_neg hd]
    by_cases hn : 0 ≤ nmI u (hrB T N a)
    · rw [if_pos hn]
      have := nm_lt hn
      refine ⟨this, fun _ => ⟨Nat.lt_succ_self a, ?_⟩⟩
      show (_ :: C).length + a ≤ C.length + (a + 1)
      rw [List.length_cons]
      omega
    · rw [if_neg hn]
      exact ⟨ha, fun h => absurd (show false = true from h) (by decide)⟩
theorem bd_one {T : Nat → Int32} {N u : Nat} : ∀ m, Bd N (pOne T N u m) := by
  intro m
  induction m with
  | zero =>
    intro a C ha
    unfold pOne
    split
    · exact ⟨ha, fun h => absurd (show false = true from h) (by decide)⟩
    · exact bd_atom a C ha
  | succ m ih =>
    intro a C ha
    unfold pOne
    by_cases h33 : hrB T N a = 33
    · rw [if_pos h33]
      obtain ⟨haN, _⟩ := hr_eq h33 (by decide)
      obtain ⟨b1, b2⟩ := ih (a + 1) C (by omega)
      by_cases hok : (pOne T N u m (a + 1) C).1 = true
      · rw [if_pos hok]
        obtain ⟨b3, b4⟩ := b2 hok
        refine ⟨b1, fun _ => ⟨by show a < (pOne T N u m (a + 1) C).2.1; omega, ?_⟩⟩
        show (_ :: (pOne T N u m (a + 1) C).2.2).length + a ≤ C.length + (pOne T N u m (a + 1) C).2.1
        rw [List.length_cons]
        omega
      · rw [if_neg hok]
        exact ⟨b1, fun h => absurd h hok⟩
    · rw [if_neg h33]
      by_cases h40 : hrB T N a = 40
      · rw [if_pos h40]
        obtain ⟨haN, _⟩ := hr_eq h40 (by decide)
        obtain ⟨b1, b2⟩ := bd_ei ih (a + 1) C (by omega)
        by_cases hok : (pEi T N (pOne T N u m) (a + 1) C).1 = true
        · rw [if_pos hok]
          obtain ⟨b3, b4⟩ := b2 hok
          by_cases h41 : hrB T N (pEi T N (pOne T N u m) (a + 1) C).2.1 = 41
          · rw [if_pos h41]
            obtain ⟨hj, _⟩ := hr_eq h41 (by decide)
            refine ⟨hj, fun _ => ⟨by show a < (pEi T N (pOne T N u m) (a + 1) C).2.1 + 1; omega, ?_⟩⟩
            show (pEi T N (pOne T N u m) (a + 1) C).2.2.length + a ≤ C.length + ((pEi T N (pOne T N u m) (a + 1) C).2.1 + 1)
            omega
          · rw [if_neg h41]
            exact ⟨b1, fun h => absurd (show false = true from h) (by decide)⟩
        · rw [if_neg hok]
          exact ⟨b1, fun h => absurd h hok⟩
      · rw [if_neg h40]
        exact bd_atom a C ha
/-- what the reference reads -/
def pTxt (T : Nat → Int32) (N u : Nat) : pR := pEi T N (pOne T N u 5) 0 []
theorem pTxt_bd (T : Nat → Int32) (N u : Nat) : (pTxt T N u).2.1 ≤ N ∧ ((pTxt T N u).1 = true → 0 < (pTxt T N u).2.1 ∧ (pTxt T N u).2.2.length ≤ (pTxt T N u).2.1) := by
  obtain ⟨b1, b2⟩ := bd_ei (T := T) (bd_one (T := T) (N := N) (u := u) 5) 0 [] (by omega)
  refine ⟨b1, fun h => ?_⟩
  obtain ⟨b3, b4⟩ := b2 h
  exact ⟨b3, by have h9 : ([] : List Int32).length = 0 := rfl; rw [h9] at b4; show (pEi T N (pOne T N u 5) 0 []).2.2.length ≤ (pEi T N (pOne T N u 5) 0 []).2.1; omega⟩
theorem read_sim (T : Nat → Int32) (N u : Nat) (nm : Int32) :
    ((pTxt T N u).1 = false ∨ (pTxt T N u).2.1 < N → kFault (kLoop T u N 0 ([], [], 0, 0, nm, true)) = some (pTxt T N u).2.1) ∧
    ((pTxt T N u).1 = true → ¬ (pTxt T N u).2.1 < N → ∃ (S1 : cS) (O1 P1 : List Int32) (nm2 : Int32), kLoop T u N 0 ([], [], 0, 0, nm, true) = (true, N, S1) ∧ kEnd S1 = (O1, P1, 0, 0, nm2, false) ∧ kSet 0 P1 O1 = ((pTxt T N u).2.2.map tC, []) ∧ wfD (pTxt T N u).2.2) := by
  obtain ⟨f1, f2⟩ := sim_ei (sim_one (T := T) (N := N) (u := u) 5) 0 [] [] [] 0 nm rfl (by omega) (by show 0 < 1; decide) (fun _ => by show (0 : Int32) ≠ 33; decide)
  rw [Nat.sub_zero] at f1 f2
  show ((pEi T N (pOne T N u 5) 0 []).1 = false ∨ (pEi T N (pOne T N u 5) 0 []).2.1 < N → _ = some (pEi T N (pOne T N u 5) 0 []).2.1) ∧ ((pEi T N (pOne T N u 5) 0 []).1 = true → ¬ (pEi T N (pOne T N u 5) 0 []).2.1 < N → ∃ (S1 : cS) (O1 P1 : List Int32) (nm2 : Int32), _ ∧ _ ∧ kSet 0 P1 O1 = ((pEi T N (pOne T N u 5) 0 []).2.2.map tC, []) ∧ wfD (pEi T N (pOne T N u 5) 0 []).2.2)
  by_cases hok : (pEi T N (pOne T N u 5) 0 []).1 = true
  · obtain ⟨D, S1, O1, P1, k1, g1, g2, g3, g4, g5, g6, g7, g8⟩ := f2 hok
    generalize pEi T N (pOne T N u 5) 0 [] = R at hok g1 g2 g3 g4 g5 g7
    obtain ⟨b9, j, C'⟩ := R
    have hD : C' = D := by have g1 : C' = D ++ [] := g1; rw [g1, List.append_nil]
    subst hD
    unfold Nf at g6
    rw [if_pos (by decide)] at g6
    obtain ⟨g6, g6k⟩ := g6
    have g6 : kSet 0 P1 O1 = (C'.map tC ++ [], []) := g6
    rw [List.append_nil] at g6
    refine ⟨fun h => ?_, fun _ hj => ?_⟩
    · have h : j < N := h.elim (fun h9 => absurd (hok.symm.trans h9) (by decide)) (fun h => h)
      show kFault (kLoop T u N 0 ([], [], 0, 0, nm, true)) = some j
      have g4 : kLoop T u N 0 ([], [], nI 0, 0, nm, true) = kLoop T u (N - j) j S1 := g4
      rw [show (0 : Int32) = nI 0 from rfl, g4]
      obtain ⟨nm2, hgo⟩ := g5.go (u := u) h
      refine fault_f h (hgo.trans ?_)
      by_cases h41 : T j = 41
      · rw [if_pos h41]
        unfold kClose
        simp only [g6]
      · rw [if_neg h41]
        unfold kJoin
        rcases g7 h with h1 | h1 | ⟨h1, h2, h3⟩
        · rw [if_pos h1]
        · rw [if_pos (by have h1 : rkN (T j) < 1 := h1; omega)]
        · rw [if_neg (by have h1 : rkN (T j) = 3 := h1; omega), if_pos ⟨h1, by have h1 : rkN (T j) = 3 := h1; rw [h1]; exact h3⟩]
    · have hj : ¬ j < N := hj
      have g3 : j ≤ N := g3
      have hjN : j = N := by omega
      subst hjN
      obtain ⟨nm2, he⟩ := g5.1
      refine ⟨S1, O1, P1, nm2, ?_, ?_, g6, g8⟩
      · have g4 : kLoop T u j 0 ([], [], nI 0, 0, nm, true) = kLoop T u (j - j) j S1 := g4
        exact g4.trans loop_e
      · rw [he, g6k]; rfl
  · exact ⟨fun _ => f1 (b_not hok), fun h => absurd h hok⟩
