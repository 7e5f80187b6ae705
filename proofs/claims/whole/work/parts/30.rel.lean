/-! BOTH SYSTEMS AGAINST ONE STATE ρ: what the reference's own cells hold -/
def sLE (j : Nat) : Int32 := (sTb 1).getD j 0
def sMO (j : Nat) : Int32 := (sTb 2).getD j 0
def OKr (ρ : fSt) : Prop := IV (ρ 88) ∧ (ρ 87 3 ≠ 0 → IV (ρ 89)) ∧ (∀ s, s < 4 → 0 ≤ ρ 102 s ∧ ρ 102 s ≤ 24) ∧ (0 ≤ ρ 87 21 ∧ ρ 87 21 ≤ 30) ∧ (∀ j, j < 7 → ρ 92 j = sLE j) ∧ ∀ j, j < 7 → ρ 93 j = sMO j
def CR (σ ρ : fSt) : Prop := V 0 σ (ρ 88) ∧ (σ 0 8 = ρ 87 3 ∧ (ρ 87 3 ≠ 0 → V 1 σ (ρ 89))) ∧ (∀ e, 1 ≤ e → e ≤ 6 → σ 84 (e - 1) = ρ 91 e) ∧
  (∀ s, s < 4 → σ (sc s) 1 = ρ 101 s ∧ (ρ 101 s ≠ 0 → σ (sc s) 2 = ρ 102 s) ∧ ∀ j, j < 24 → σ (sc s + 1) j = ρ 103 (24 * s + j)) ∧ (σ 85 1 = ρ 87 21 ∧ ∀ j, j < 30 → σ 86 j = ρ 100 j) ∧ OKr ρ
def RR (σ ρ : fSt) : Prop := σ 88 = ρ 88 ∧ σ 89 = ρ 89 ∧ σ 91 = ρ 91 ∧ σ 92 = ρ 92 ∧ σ 93 = ρ 93 ∧ σ 100 = ρ 100 ∧ σ 101 = ρ 101 ∧ σ 102 = ρ 102 ∧ σ 103 = ρ 103 ∧ σ 87 3 = ρ 87 3 ∧ σ 87 21 = ρ 87 21 ∧ OKr ρ
/-- what the class must leave, what the reference must leave -/
def FC (σ σ' : fSt) : Prop := ∀ k, 87 ≤ k → σ' k = σ k
def FR (σ σ' : fSt) : Prop := ∀ k, k < 87 → σ' k = σ k
theorem FC.rf {σ : fSt} : FC σ σ := fun _ _ => rfl
theorem FR.rf {σ : fSt} : FR σ σ := fun _ _ => rfl
theorem FC.tr {σ σ1 σ2 : fSt} (h1 : FC σ σ1) (h2 : FC σ1 σ2) : FC σ σ2 := fun k hk => (h2 k hk).trans (h1 k hk)
theorem FR.tr {σ σ1 σ2 : fSt} (h1 : FR σ σ1) (h2 : FR σ1 σ2) : FR σ σ2 := fun k hk => (h2 k hk).trans (h1 k hk)
theorem FC.up {σ : fSt} {k j : Nat} {x : Int32} (h : k < 87) : FC σ (up2 σ k j x) := fun q hq => up2_kf _ _ _ (by omega)
theorem FR.up {σ : fSt} {k j : Nat} {x : Int32} (h : 87 ≤ k) : FR σ (up2 σ k j x) := fun q hq => up2_kf _ _ _ (by omega)
theorem FR.va {σ : fSt} {k : Nat} {f : Nat → Int32} (h : 87 ≤ k) : FR σ (va_up σ k f) := fun q hq => va_up_o _ _ (by omega)
theorem FrW.C {w : Nat} {σ σ' : fSt} (hw : w < 3) (h : FrW w σ σ') : FC σ σ' := fun k hk => h k fun c hc => by unfold wc; omega
theorem FrT.R {σ σ' : fSt} (h : FrT σ σ') : FR σ σ' := fun k hk => h k (by omega) (by omega) (by omega)
def rC (τ : fLt) (σ : fSt) (p : Int32 × fSt) : Option Value → fSt → fLt → Prop := rP (some (.int p.1)) τ (fun σ' => CR σ' p.2 ∧ FC σ σ')
def rR (τ : fLt) (σ : fSt) (p : Int32 × fSt) : Option Value → fSt → fLt → Prop := rP (some (.int p.1)) τ (fun σ' => RR σ' p.2 ∧ FR σ σ')
def errS (ρ : fSt) (e : Nat) : fSt := up2 ρ 91 e (ρ 91 e + 1)
/-- a change of the row that an image keeps -/
def rowS (ρ : fSt) (g : gS) : fSt := va_up ρ 88 g
theorem OKr_err {ρ : fSt} {e : Nat} (h : OKr ρ) : OKr (errS ρ e) := by
  unfold OKr errS at *
  simp only [up2_kf ρ e (ρ 91 e + 1) (show (88 : Nat) ≠ 91 by decide), up2_kf ρ e (ρ 91 e + 1) (show (87 : Nat) ≠ 91 by decide), up2_kf ρ e (ρ 91 e + 1) (show (89 : Nat) ≠ 91 by decide), up2_kf ρ e (ρ 91 e + 1) (show (102 : Nat) ≠ 91 by decide), up2_kf ρ e (ρ 91 e + 1) (show (92 : Nat) ≠ 91 by decide), up2_kf ρ e (ρ 91 e + 1) (show (93 : Nat) ≠ 91 by decide)]
  exact h
theorem OKr_row {ρ : fSt} {g : gS} (h : OKr ρ) (hg : IV g) : OKr (rowS ρ g) := by
  unfold OKr rowS at *
  simp only [va_up_s, va_up_o ρ g (show (87 : Nat) ≠ 88 by decide), va_up_o ρ g (show (89 : Nat) ≠ 88 by decide), va_up_o ρ g (show (102 : Nat) ≠ 88 by decide), va_up_o ρ g (show (92 : Nat) ≠ 88 by decide), va_up_o ρ g (show (93 : Nat) ≠ 88 by decide)]
  exact ⟨hg, h.2⟩
theorem RR_err {σ ρ : fSt} {e : Nat} (h : RR σ ρ) : RR (up2 σ 91 e (σ 91 e + 1)) (errS ρ e) := by
  obtain ⟨h1, h2, h3, h4, h5, h6, h7, h8, h9, h10, h11, h12⟩ := h
  refine ⟨h1, h2, ?_, h4, h5, h6, h7, h8, h9, h10, h11, OKr_err h12⟩
  unfold errS
  rw [up2_f, up2_f, h3]
theorem RR_row {σ ρ : fSt} {g : gS} (h : RR σ ρ) (hg : IV g) : RR (va_up σ 88 g) (rowS ρ g) := by
  obtain ⟨h1, h2, h3, h4, h5, h6, h7, h8, h9, h10, h11, h12⟩ := h
  exact ⟨rfl, h2, h3, h4, h5, h6, h7, h8, h9, h10, h11, OKr_row h12 hg⟩
/-- only scratch cells of the reference differ -/
theorem RR_of {σ σ' ρ : fSt} (h : RR σ ρ) (he : ∀ k, k = 88 ∨ k = 89 ∨ k = 91 ∨ k = 92 ∨ k = 93 ∨ k = 100 ∨ k = 101 ∨ k = 102 ∨ k = 103 → σ' k = σ k) (h3 : σ' 87 3 = σ 87 3) (h21 : σ' 87 21 = σ 87 21) : RR σ' ρ := by
  obtain ⟨h1, h2, h3', h4, h5, h6, h7, h8, h9, h10, h11, h12⟩ := h
  exact ⟨(he 88 (by simp)).trans h1, (he 89 (by simp)).trans h2, (he 91 (by simp)).trans h3', (he 92 (by simp)).trans h4, (he 93 (by simp)).trans h5, (he 100 (by simp)).trans h6, (he 101 (by simp)).trans h7, (he 102 (by simp)).trans h8, (he 103 (by simp)).trans h9, h3.trans h10, h21.trans h11, h12⟩
theorem V_fr {w : Nat} {σ σ' : fSt} {g : gS} (h : V w σ g) (he : ∀ c, c < 22 → σ' (wc w c) = σ (wc w c)) : V w σ' g := V_off h fun c hc _ _ _ _ => he c hc
/-- the class's cells as they were -/
theorem CR_fr {σ σ' ρ : fSt} (h : CR σ ρ) (he : FR σ σ') : CR σ' ρ := by
  obtain ⟨h1, ⟨h2, h2'⟩, h3, h4, ⟨h5, h5'⟩, h6⟩ := h
  refine ⟨V_fr h1 fun c hc => he _ (by unfold wc; omega), ⟨by rw [he 0 (by decide)]; exact h2, fun hz => V_fr (h2' hz) fun c hc => he _ (by unfold wc; omega)⟩, fun e a b => by rw [he 84 (by decide)]; exact h3 e a b, fun s hs => ?_, ⟨by rw [he 85 (by decide)]; exact h5, fun j hj => by rw [he 86 (by decide)]; exact h5' j hj⟩, h6⟩
  rw [he _ (show sc s < 87 by unfold sc; omega), he _ (show sc s + 1 < 87 by unfold sc; omega)]
  exact h4 s hs
theorem RR_fr {σ σ' ρ : fSt} (h : RR σ ρ) (he : FC σ σ') : RR σ' ρ := RR_of h (fun k hk => he k (by omega)) (by rw [he 87 (by decide)]) (by rw [he 87 (by decide)])
/-- world 0 goes from the row as it was to g; worlds 1 and the rest of the class stay -/
theorem CR_row {σ σ' ρ : fSt} {g : gS} (h : CR σ ρ) (hV : V 0 σ' g) (hF : FrW 0 σ σ') (hg : IV g) : CR σ' (rowS ρ g) := by
  obtain ⟨h1, ⟨h2, h2'⟩, h3, h4, ⟨h5, h5'⟩, h6⟩ := h
  have hk : ∀ k, k = 0 ∨ 23 ≤ k → σ' k = σ k := fun k hk => hF k fun c hc => by unfold wc; omega
  have e87 : rowS ρ g 87 = ρ 87 := va_up_o _ _ (by decide)
  refine ⟨by rw [show rowS ρ g 88 = g from va_up_s _ _ _]; exact hV, ⟨by rw [hk 0 (Or.inl rfl), e87]; exact h2, fun hz => ?_⟩, fun e a b => ?_, fun s hs => ?_, ⟨by rw [hk 85 (by decide), e87]; exact h5, fun j hj => ?_⟩, OKr_row h6 hg⟩
  · rw [e87] at hz
    rw [show rowS ρ g 89 = ρ 89 from va_up_o _ _ (by decide)]
    exact V_fr (h2' hz) fun c hc => hk _ (by unfold wc; omega)
  · rw [hk 84 (by decide), show rowS ρ g 91 = ρ 91 from va_up_o _ _ (by decide)]
    exact h3 e a b
  · rw [hk (sc s) (by unfold sc; omega), hk (sc s + 1) (by unfold sc; omega), show rowS ρ g 101 = ρ 101 from va_up_o _ _ (by decide), show rowS ρ g 102 = ρ 102 from va_up_o _ _ (by decide), show rowS ρ g 103 = ρ 103 from va_up_o _ _ (by decide)]
    exact h4 s hs
  · rw [hk 86 (by decide), show rowS ρ g 100 = ρ 100 from va_up_o _ _ (by decide)]
    exact h5' j hj
/-- world 2 is free -/
theorem CR_ahead {σ σ' ρ : fSt} (h : CR σ ρ) (hF : FrW 2 σ σ') : CR σ' ρ := by
  obtain ⟨h1, ⟨h2, h2'⟩, h3, h4, ⟨h5, h5'⟩, h6⟩ := h
  have hk : ∀ k, k < 45 ∨ 67 ≤ k → σ' k = σ k := fun k hk => hF k fun c hc => by unfold wc; omega
  refine ⟨V_fr h1 fun c hc => hk _ (by unfold wc; omega), ⟨by rw [hk 0 (by decide)]; exact h2, fun hz => V_fr (h2' hz) fun c hc => hk _ (by unfold wc; omega)⟩, fun e a b => by rw [hk 84 (by decide)]; exact h3 e a b, fun s hs => ?_, ⟨by rw [hk 85 (by decide)]; exact h5, fun j hj => by rw [hk 86 (by decide)]; exact h5' j hj⟩, h6⟩
  rw [hk (sc s) (by unfold sc; omega), hk (sc s + 1) (by unfold sc; omega)]
  exact h4 s hs
/-- scratch cells of the class that no relation reads: the reader and the rows -/
theorem CR_scr {σ σ' ρ : fSt} (h : CR σ ρ) (hk : ∀ k, k < 67 ∨ 76 ≤ k → σ' k = σ k) : CR σ' ρ := by
  obtain ⟨h1, ⟨h2, h2'⟩, h3, h4, ⟨h5, h5'⟩, h6⟩ := h
  refine ⟨V_fr h1 fun c hc => hk _ (by unfold wc; omega), ⟨by rw [hk 0 (by decide)]; exact h2, fun hz => V_fr (h2' hz) fun c hc => hk _ (by unfold wc; omega)⟩, fun e a b => by rw [hk 84 (by decide)]; exact h3 e a b, fun s hs => ?_, ⟨by rw [hk 85 (by decide)]; exact h5, fun j hj => by rw [hk 86 (by decide)]; exact h5' j hj⟩, h6⟩
  rw [hk (sc s) (by unfold sc; omega), hk (sc s + 1) (by unfold sc; omega)]
  exact h4 s hs
theorem CR_err {σ ρ : fSt} {e : Nat} (h : CR σ ρ) (he : 1 ≤ e) (he6 : e ≤ 6) : CR (up2 σ 84 (e - 1) (σ 84 (e - 1) + 1)) (errS ρ e) := by
  obtain ⟨h1, ⟨h2, h2'⟩, h3, h4, ⟨h5, h5'⟩, h6⟩ := h
  have hk : ∀ k, k ≠ 84 → up2 σ 84 (e - 1) (σ 84 (e - 1) + 1) k = σ k := fun k hk => up2_kf _ _ _ hk
  have hr : ∀ k, k ≠ 91 → errS ρ e k = ρ k := fun k hk => up2_kf _ _ _ hk
  refine ⟨?_, ⟨by rw [hk 0 (by decide), hr 87 (by decide)]; exact h2, fun hz => ?_⟩, fun e' a b => ?_, fun s hs => ?_, ⟨by rw [hk 85 (by decide), hr 87 (by decide)]; exact h5, fun j hj => ?_⟩, OKr_err h6⟩
  · rw [hr 88 (by decide)]
    exact V_fr h1 fun c hc => hk _ (by unfold wc; omega)
  · rw [hr 87 (by decide)] at hz
    rw [hr 89 (by decide)]
    exact V_fr (h2' hz) fun c hc => hk _ (by unfold wc; omega)
  · unfold errS
    by_cases q : e' = e
    · subst q
      rw [up2_s, up2_s, h3 e' a b]
    · rw [up2_j _ _ (show e' - 1 ≠ e - 1 by omega), up2_j _ _ q]
      exact h3 e' a b
  · rw [hk (sc s) (by unfold sc; omega), hk (sc s + 1) (by unfold sc; omega), hr 101 (by decide), hr 102 (by decide), hr 103 (by decide)]
    exact h4 s hs
  · rw [hk 86 (by decide), hr 100 (by decide)]
    exact h5' j hj
