/-! the reference's parser and the class's reader go together -/
theorem loop_s {T : Nat → Int32} {N u i : Nat} {S S' : cS} (hi : i < N) (h : kGo u (T i) S = some S') : kLoop T u (N - i) i S = kLoop T u (N - (i + 1)) (i + 1) S' := by
  obtain ⟨n, hn⟩ : ∃ n, N - i = n + 1 := ⟨N - i - 1, by omega⟩
  rw [hn, show N - (i + 1) = n by omega]
  conv => lhs; unfold kLoop; rw [h]
theorem loop_f {T : Nat → Int32} {N u i : Nat} {S : cS} (hi : i < N) (h : kGo u (T i) S = none) : kLoop T u (N - i) i S = (false, i, S) := by
  obtain ⟨n, hn⟩ : ∃ n, N - i = n + 1 := ⟨N - i - 1, by omega⟩
  rw [hn]
  unfold kLoop
  rw [h]
theorem loop_e {T : Nat → Int32} {N u : Nat} {S : cS} : kLoop T u (N - N) N S = (true, N, S) := by
  rw [Nat.sub_self]; rfl
theorem fault_f {T : Nat → Int32} {N u i : Nat} {S : cS} (hi : i < N) (h : kGo u (T i) S = none) : kFault (kLoop T u (N - i) i S) = some i := by
  rw [loop_f hi h]; rfl
theorem fault_e {T : Nat → Int32} {N u : Nat} {S : cS} (h : kBad S = true) : kFault (kLoop T u (N - N) N S) = some N := by
  rw [loop_e]
  show (if true = false then _ else if kBad S = true then some N else none) = _
  rw [if_neg (by decide), if_pos h]
/-- the reader behind an operand, whatever of its number is still to be ended -/
def Rdy (T : Nat → Int32) (N j : Nat) (S : cS) (O P : List Int32) (k : Int32) : Prop := (∃ nm, kEnd S = (O, P, k, 0, nm, false)) ∧ (j < N → isD (T j) = true → ¬ (0 < S.2.2.2.1 ∧ S.2.2.2.1 < 4))
theorem Rdy.go {T : Nat → Int32} {N u j : Nat} {S : cS} {O P : List Int32} {k : Int32} (h : Rdy T N j S O P k) (hj : j < N) : ∃ nm, kGo u (T j) S = if T j = 41 then kClose (O, P, k, 0, nm, false) else kJoin (T j) (O, P, k, 0, nm, false) := by
  obtain ⟨⟨nm, h1⟩, h2⟩ := h
  refine ⟨nm, ?_⟩
  unfold kGo
  rw [if_neg (fun h9 => h2 hj h9.1 h9.2), h1]
  rfl
theorem Rdy.of {T : Nat → Int32} {N j : Nat} {O P : List Int32} {k nm : Int32} : Rdy T N j (O, P, k, 0, nm, false) O P k := ⟨⟨nm, rfl⟩, fun _ _ h => absurd h.1 (Nat.lt_irrefl 0)⟩
def Nf (r : Nat) (O1 P1 : List Int32) (k1 : Int32) (X P : List Int32) (kn : Nat) : Prop := if r ≤ 5 then kSet (r - 1) P1 O1 = (X, P) ∧ k1 = nI kn else (O1, P1, k1) = kNot P X (nI kn)
/-- which bytes don't go on behind a text of rank r -/
def stopB (T : Nat → Int32) (N r j : Nat) (O1 P1 : List Int32) : Prop := j < N → rkN (T j) = 0 ∨ rkN (T j) < r ∨ (rkN (T j) = 3 ∧ r ≤ 3 ∧ rkN (tp (kSet 3 P1 O1).2) = 3)
def wfD (D : List Int32) : Prop := ∀ (cs : List Int32) (h : Nat), rOK cs (h + 1) → rOK (D.reverse ++ cs) h
def SimR (T : Nat → Int32) (N u r a : Nat) (S : cS) (C O P : List Int32) (kn : Nat) (R : pR) : Prop :=
  (R.1 = false → kFault (kLoop T u (N - a) a S) = some R.2.1) ∧
  (R.1 = true → ∃ (D : List Int32) (S1 : cS) (O1 P1 : List Int32) (k1 : Int32), R.2.2 = D ++ C ∧ a < R.2.1 ∧ R.2.1 ≤ N ∧ kLoop T u (N - a) a S = kLoop T u (N - R.2.1) R.2.1 S1 ∧ Rdy T N R.2.1 S1 O1 P1 k1 ∧ Nf r O1 P1 k1 (D.map tC ++ O) P kn ∧ stopB T N r R.2.1 O1 P1 ∧ wfD D)
def Sim (T : Nat → Int32) (N u r m : Nat) (F : Nat → List Int32 → pR) : Prop := ∀ (a : Nat) (C O P : List Int32) (kn : Nat) (nm : Int32), kn + m = 5 → a ≤ N → rkN (tp P) < r → (r ≤ 5 → tp P ≠ 33) →
  SimR T N u r a (O, P, nI kn, 0, nm, true) C O P kn (F a C)
theorem Nf_up {r : Nat} {O2 P2 Y Q : List Int32} {k2 : Int32} {kn : Nat} (hr : r ≤ 5) (h : Nf (r + 1) O2 P2 k2 Y Q kn) (hQ : tp Q ≠ 33) : kSet (r - 1) P2 O2 = kSet (r - 1) Q Y ∧ k2 = nI kn ∧ kSet r P2 O2 = kSet r Q Y := by
  unfold Nf at h
  by_cases h5 : r + 1 ≤ 5
  · rw [if_pos h5] at h
    obtain ⟨h1, h2⟩ := h
    have h1 : kSet r P2 O2 = (Y, Q) := h1
    have e := kSet_comp (s := r - 1) (r := r) (by omega) P2 O2
    have e2 := kSet_comp (s := r) (r := r) (by omega) P2 O2
    rw [h1] at e
    rw [h1] at e2
    exact ⟨e.symm, h2, h1.trans e2.symm⟩
  · rw [if_neg h5, kNot_id hQ] at h
    have e1 : O2 = Y := congrArg (fun q => q.1) h
    have e2 : P2 = Q := congrArg (fun q => q.2.1) h
    have e3 : k2 = nI kn := congrArg (fun q => q.2.2) h
    exact ⟨by rw [e1, e2], e3, by rw [e1, e2]⟩
theorem wfD_op {o : Int32} {D D0 : List Int32} (ho : 20000 ≤ o) (ho2 : o < 20010) (h : wfD D) (h0 : wfD D0) : wfD (o :: (D ++ D0)) := by
  intro cs h9 hr
  rw [List.reverse_cons, List.reverse_append, List.append_assoc, List.append_assoc]
  refine h0 _ _ (h _ _ ?_)
  show rOK (o :: cs) (h9 + 1 + 1)
  refine Or.inr (Or.inr ⟨ho, ho2, by omega, ?_⟩)
  exact hr
theorem wfD_not {D : List Int32} (h : wfD D) : wfD (20010 :: D) := by
  intro cs h9 hr
  rw [List.reverse_cons, List.append_assoc]
  refine h _ _ ?_
  show rOK (20010 :: cs) (h9 + 1)
  exact Or.inr (Or.inl ⟨rfl, by omega, hr⟩)
theorem wfD_1 {c : Int32} (h0 : 0 ≤ c) (h1 : c < 10005) : wfD [c] := by
  intro cs h9 hr
  show rOK (c :: cs) h9
  exact Or.inl ⟨h0, by grind, h1, hr⟩
theorem join_go {r : Nat} {b nm : Int32} {O1 P1 X P : List Int32} {k : Int32} (hb : rkN b = r) (hr : r ≠ 0) (h3 : r = 3 → rkN (tp (kSet 3 P1 O1).2) ≠ 3) (hS : kSet (r - 1) P1 O1 = (X, P)) : kJoin b (O1, P1, k, 0, nm, false) = some (X, b :: P, k, 0, nm, true) := by
  unfold kJoin
  rw [hb, if_neg hr]
  rw [if_neg (fun h9 => h3 h9.1 (by have := h9.2; rw [h9.1] at this; exact this))]
  rw [kSet_comp (by omega)]
  show some ((kSet (r - 1) P1 O1).1, b :: (kSet (r - 1) P1 O1).2, k, 0, nm, true) = _
  rw [hS]
/-- the byte of a loop's operator -/
def OpB (opc : Int32 → Int32) (r : Nat) : Prop := ∀ b, (rkN b ≠ r ∧ opc b = 0) ∨ (rkN b = r ∧ opc b ≠ 0 ∧ tC (opc b) = 10000 + b ∧ 20000 ≤ opc b ∧ opc b < 20010)
theorem hrB_lt {T : Nat → Int32} {N a : Nat} (h : rkN (hrB T N a) ≠ 0) : a < N ∧ hrB T N a = T a := by
  unfold hrB at h ⊢
  by_cases e : a < N
  · rw [if_pos e]; exact ⟨e, rfl⟩
  · rw [if_neg e] at h; exact absurd rfl h
theorem sim_loop {T : Nat → Int32} {N u r m kn : Nat} {F : Nat → List Int32 → pR} {opc : Int32 → Int32} (hF : Sim T N u (r + 1) m F) (hr0 : 1 ≤ r) (hr5 : r ≤ 5) (hr3 : r ≠ 3) (hop : OpB opc r) (hk : kn + m = 5) {C0 O P : List Int32} (hP : rkN (tp P) < r) (hP33 : tp P ≠ 33) :
    ∀ (n a : Nat) (C D0 : List Int32) (S : cS) (O1 P1 : List Int32) (k1 : Int32), N ≤ a + n → a ≤ N → C = D0 ++ C0 → kSet (r - 1) P1 O1 = (D0.map tC ++ O, P) → k1 = nI kn → Rdy T N a S O1 P1 k1 → stopB T N (r + 1) a O1 P1 → wfD D0 →
      (pLoop T N F opc n a C).1 = false ∧ kFault (kLoop T u (N - a) a S) = some (pLoop T N F opc n a C).2.1 ∨
      (pLoop T N F opc n a C).1 = true ∧ ∃ (D : List Int32) (S1 : cS) (O2 P2 : List Int32) (k2 : Int32), (pLoop T N F opc n a C).2.2 = D ++ C0 ∧ a ≤ (pLoop T N F opc n a C).2.1 ∧ (pLoop T N F opc n a C).2.1 ≤ N ∧ kLoop T u (N - a) a S = kLoop T u (N - (pLoop T N F opc n a C).2.1) (pLoop T N F opc n a C).2.1 S1 ∧ Rdy T N (pLoop T N F opc n a C).2.1 S1 O2 P2 k2 ∧ Nf r O2 P2 k2 (D.map tC ++ O) P kn ∧ stopB T N r (pLoop T N F opc n a C).2.1 O2 P2 ∧ wfD D := by
  intro n
  induction n with
  | zero =>
    intro a C D0 S O1 P1 k1 han haN hC hS hk1 hR hst hwf
    have : a = N := by omega
    subst this
    refine Or.inr ⟨rfl, D0, S, O1, P1, k1, hC, Nat.le_refl _, Nat.le_refl _, rfl, hR, ?_, fun h => absurd h (Nat.lt_irrefl _), hwf⟩
    unfold Nf
    rw [if_pos hr5]
    exact ⟨hS, hk1⟩
  | succ n ih =>
    intro a C D0 S O1 P1 k1 han haN hC hS hk1 hR hst hwf
    rcases hop (hrB T N a) with ⟨hn, h0⟩ | ⟨hb, h0, htc, ho1, ho2⟩
    · have e : pLoop T N F opc (n + 1) a C = (true, a, C) := by unfold pLoop; rw [if_pos h0]
      rw [e]
      refine Or.inr ⟨rfl, D0, S, O1, P1, k1, hC, Nat.le_refl _, haN, rfl, hR, ?_, fun h => ?_, hwf⟩
      · unfold Nf
        rw [if_pos hr5]
        exact ⟨hS, hk1⟩
      · have hT : hrB T N a = T a := by unfold hrB; rw [if_pos h]
        rw [hT] at hn
        rcases hst h with h1 | h1 | ⟨h1, h2, h3⟩
        · exact Or.inl h1
        · exact Or.inr (Or.inl (show rkN (T a) < r by have h1 : rkN (T a) < r + 1 := h1; omega))
        · exact Or.inr (Or.inr ⟨h1, by omega, h3⟩)
    · obtain ⟨haN', hT⟩ := hrB_lt (by rw [hb]; omega)
      have e : pLoop T N F opc (n + 1) a C = if (F (a + 1) C).1 = true then pLoop T N F opc n (F (a + 1) C).2.1 (opc (hrB T N a) :: (F (a + 1) C).2.2) else F (a + 1) C := by
        conv => lhs; unfold pLoop; rw [if_neg h0]
      rw [hT] at hb
      obtain ⟨nm, hgo⟩ := hR.go (u := u) haN'
      rw [if_neg (rk_sp (by rw [hb]; omega)).2.2.1, join_go hb (by omega) (fun h => absurd h hr3) hS] at hgo
      have hrun := loop_s (N := N) haN' hgo
      subst hk1
      obtain ⟨f1, f2⟩ := hF (a + 1) C (D0.map tC ++ O) (T a :: P) kn nm hk (by omega) (by show rkN (T a) < r + 1; omega) (fun _ => (rk_sp (show rkN (T a) ≠ 0 by rw [hb]; omega)).1)
      rw [e, hrun]
      by_cases hok : (F (a + 1) C).1 = true
      · rw [if_pos hok]
        obtain ⟨D, S1, O2, P2, k2, g1, g2, g3, g4, g5, g6, g7, g8⟩ := f2 hok
        obtain ⟨n1, n2, n3⟩ := Nf_up hr5 g6 (rk_sp (show rkN (T a) ≠ 0 by rw [hb]; omega)).1
        have hX : kSet (r - 1) P2 O2 = ((opc (hrB T N a) :: (D ++ D0)).map tC ++ O, P) := by
          rw [n1, kSet_pop (show r - 1 < rkN (T a) by omega), kSet_id (r := r - 1) (P := P) (by omega)]
          rw [List.map_cons, htc, hT, List.map_append, List.cons_append, List.append_assoc]
        have := ih (F (a + 1) C).2.1 (opc (hrB T N a) :: (F (a + 1) C).2.2) (opc (hrB T N a) :: (D ++ D0)) S1 O2 P2 k2 (by omega) g3 (by rw [g1, hC, List.cons_append, List.append_assoc]) hX n2 g5 g7 (wfD_op ho1 ho2 g8 hwf)
        rw [g4]
        rcases this with ⟨q1, q2⟩ | ⟨q1, D', S', O', P', k', q2, q3, q4⟩
        · exact Or.inl ⟨q1, q2⟩
        · exact Or.inr ⟨q1, D', S', O', P', k', q2, by omega, q4⟩
      · rw [if_neg hok]
        have hf : (F (a + 1) C).1 = false := by cases h9 : (F (a + 1) C).1 with
          | false => rfl
          | true => exact absurd h9 hok
        exact Or.inl ⟨hf, f1 hf⟩
theorem sim_lev {T : Nat → Int32} {N u r m : Nat} {F : Nat → List Int32 → pR} {opc : Int32 → Int32} (hF : Sim T N u (r + 1) m F) (hr0 : 1 ≤ r) (hr5 : r ≤ 5) (hr3 : r ≠ 3) (hop : OpB opc r) : Sim T N u r m (pLev T N F opc) := by
  intro a C O P kn nm hk haN hP hP33
  obtain ⟨f1, f2⟩ := hF a C O P kn nm hk haN (by omega) (fun _ => hP33 hr5)
  unfold pLev SimR
  by_cases hok : (F a C).1 = true
  · rw [if_pos hok]
    obtain ⟨D, S1, O2, P2, k2, g1, g2, g3, g4, g5, g6, g7, g8⟩ := f2 hok
    obtain ⟨n1, n2, n3⟩ := Nf_up hr5 g6 (hP33 hr5)
    rw [kSet_id (r := r - 1) (P := P) (by omega)] at n1
    have := sim_loop (C0 := C) (O := O) hF hr0 hr5 hr3 hop hk hP (hP33 hr5) N (F a C).2.1 (F a C).2.2 D S1 O2 P2 k2 (by omega) g3 g1 n1 n2 g5 g7 g8
    rw [g4]
    rcases this with ⟨q1, q2⟩ | ⟨q1, D', S', O', P', k', q2, q3, q4⟩
    · exact ⟨fun _ => q2, fun h => absurd (q1.symm.trans h) (by decide)⟩
    · exact ⟨fun h => absurd (q1.symm.trans h) (by decide), fun _ => ⟨D', S', O', P', k', q2, by omega, q4⟩⟩
  · rw [if_neg hok]
    exact ⟨f1, fun h => absurd h hok⟩
