abbrev gHc (g : gS) (h : Nat) : Int32 := g (39 + 3 * h + 0)
/-- how many of n holds stand behind c -/
def cntB (g : gS) (c : Int32) : Nat → Nat
  | 0 => 0
  | n + 1 => cntB g c n + if c < gHc g n then 1 else 0
theorem cnt_le {g : gS} {c : Int32} : ∀ n, cntB g c n ≤ n := by
  intro n
  induction n with
  | zero => exact Nat.le_refl _
  | succ n ih => show cntB g c n + (if c < gHc g n then 1 else 0) ≤ n + 1; split <;> omega
theorem cnt_mono {g : gS} {c r : Int32} (h : c < r) : ∀ n, cntB g r n ≤ cntB g c n := by
  intro n
  induction n with
  | zero => exact Nat.le_refl _
  | succ n ih =>
    show cntB g r n + (if r < gHc g n then 1 else 0) ≤ cntB g c n + (if c < gHc g n then 1 else 0)
    by_cases h1 : r < gHc g n
    · rw [if_pos h1, if_pos (by grind)]; omega
    · rw [if_neg h1]; split <;> omega
theorem cnt_lt {g : gS} {c : Int32} {h0 : Nat} (h : c < gHc g h0) : ∀ n, h0 < n → cntB g (gHc g h0) n < cntB g c n := by
  intro n
  induction n with
  | zero => intro h9; omega
  | succ n ih =>
    intro h9
    show cntB g (gHc g h0) n + (if gHc g h0 < gHc g n then 1 else 0) < cntB g c n + (if c < gHc g n then 1 else 0)
    by_cases e : h0 = n
    · subst e
      rw [if_pos h, if_neg (by grind)]
      have := cnt_mono (g := g) h h0
      omega
    · have := ih (by omega)
      by_cases h1 : gHc g h0 < gHc g n
      · rw [if_pos h1, if_pos (by grind)]; omega
      · rw [if_neg h1]; split <;> omega
theorem cnt_pos {g : gS} {c : Int32} {h0 n : Nat} (h : c < gHc g h0) (hn : h0 < n) : 0 < cntB g c n := Nat.lt_of_le_of_lt (Nat.zero_le _) (cnt_lt h n hn)
theorem nx_spec {g : gS} {c : Int32} (hc : -1 ≤ c) : ∀ n, (nxN g c n = -1 ∧ ∀ h, h < n → ¬ c < gHc g h) ∨ ∃ h0, h0 < n ∧ nxN g c n = gHc g h0 ∧ c < gHc g h0 ∧ ∀ h, h < n → c < gHc g h → gHc g h0 ≤ gHc g h := by
  intro n
  induction n with
  | zero => exact Or.inl ⟨rfl, fun h h9 => by omega⟩
  | succ n ih =>
    rcases ih with ⟨h1, h2⟩ | ⟨h0, h1, h2, h3, h4⟩
    · by_cases h : c < gHc g n
      · refine Or.inr ⟨n, by omega, ?_, h, fun q hq hcq => ?_⟩
        · rw [nxN, if_pos ⟨h, Or.inl (by rw [h1]; decide)⟩]
        · rcases Nat.lt_or_ge q n with h9 | h9
          · exact absurd hcq (h2 q h9)
          · rw [show q = n by omega]; exact Int32.le_refl _
      · refine Or.inl ⟨?_, fun q hq => ?_⟩
        · rw [nxN, if_neg (fun h9 => h h9.1)]; exact h1
        · rcases Nat.lt_or_ge q n with h9 | h9
          · exact h2 q h9
          · rw [show q = n by omega]; exact h
    · have hr : ¬ nxN g c n < 0 := by rw [h2]; grind
      by_cases h : c < gHc g n ∧ gHc g n < nxN g c n
      · refine Or.inr ⟨n, by omega, ?_, h.1, fun q hq hcq => ?_⟩
        · rw [nxN, if_pos ⟨h.1, Or.inr h.2⟩]
        · rcases Nat.lt_or_ge q n with h9 | h9
          · have := h4 q h9 hcq
            have h5 := h.2
            rw [h2] at h5
            grind
          · rw [show q = n by omega]; exact Int32.le_refl _
      · refine Or.inr ⟨h0, by omega, ?_, h3, fun q hq hcq => ?_⟩
        · rw [nxN, if_neg (by grind)]; exact h2
        · rcases Nat.lt_or_ge q n with h9 | h9
          · exact h4 q h9 hcq
          · have e : q = n := by omega
            subst e
            rw [h2] at h
            grind
/-- from cell to cell up to e -/
def wayN (g : gS) (e : Int32) : Nat → Int32 → Int32
  | 0, _ => 1
  | m + 1, c => if c < e then (if gDaresI g (gNxt g c - c) = true then wayN g e m (gNxt g c) else 0) else 1
theorem nxt_cell {g : gS} {c : Int32} {N h1 : Nat} (hc : -1 ≤ c) (hNc : (g 14).toNatClampNeg = N) (hh : h1 < N) (hlt : c < gHc g h1) : ∃ h0, h0 < N ∧ gNxt g c = gHc g h0 ∧ c < gHc g h0 ∧ cntB g (gNxt g c) N < cntB g c N := by
  rcases nx_spec (g := g) hc N with ⟨_, h2⟩ | ⟨h0, h1', h2, h3, h4⟩
  · exact absurd hlt (h2 h1 hh)
  · refine ⟨h0, h1', ?_, h3, ?_⟩
    · unfold gNxt; rw [hNc]; exact h2
    · unfold gNxt; rw [hNc, h2]; exact cnt_lt h3 N h1'
def wayA (g : gS) (a b : Int32) : Int32 := gHc g a.toNatClampNeg
def mx (x y : Int32) : Int32 := if x < y then y else x
def mn (x y : Int32) : Int32 := if y < x then y else x
def wayS (ρ : fSt) (a b : Int32) : Int32 × fSt := if (0 ≤ a ∧ a ≤ ρ 88 14 - 1) ∧ 0 ≤ b ∧ b ≤ ρ 88 14 - 1 then (wayN (ρ 88) (mx (gHc (ρ 88) a.toNatClampNeg) (gHc (ρ 88) b.toNatClampNeg)) (ρ 88 14).toNatClampNeg (mn (gHc (ρ 88) a.toNatClampNeg) (gHc (ρ 88) b.toNatClampNeg)), ρ) else (errV 1, errS ρ 1)
