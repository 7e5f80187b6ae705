/-! WORLD w OF THE CLASS, read as the row g -/
def loc (i : Nat) : Nat × Nat :=
  if i < 14 then (1, i) else if i = 14 then (2, 5) else if i = 15 then (8, 3) else if i = 16 then (0, 7) else if i = 17 then (0, 8) else if i = 18 then (1, 14)
  else if i < 39 then (if i % 2 = 1 then (3, (i - 19) / 2) else (4, (i - 19) / 2)) else if i < 63 then (5 + i % 3, (i - 39) / 3) else if i < 87 then (9 + i % 3, (i - 63) / 3) else if i < 147 then (18, i - 87) else (19, i - 147)
theorem loc_inj : ∀ i, i < 171 → ∀ j, j < 171 → loc i = loc j → i = j := by decide +kernel
theorem loc_lt : ∀ i, i < 171 → (loc i).1 < 22 ∧ ((loc i).1 < 12 ∨ 18 ≤ (loc i).1) := by decide +kernel
/-- an item of a text, as the class writes it -/
def tC (r : Int32) : Int32 :=
  if r < 10000 then r else if r < 20000 then -1 - (r - 10000) else if r = 20000 then 10124 else if r = 20001 then 10038 else if r = 20002 then 10060 else if r = 20003 then 10061 else if r = 20004 then 10062
  else if r = 20005 then 10043 else if r = 20006 then 10045 else if r = 20007 then 10042 else if r = 20008 then 10047 else if r = 20009 then 10037 else 10033
def VX (w : Nat) (σ : fSt) (g : gS) (u : Nat) : Prop := σ (wc w (12 + 3 * u)) 1 = g (171 + 62 * u) ∧ ∀ j, j < (g (171 + 62 * u)).toNatClampNeg → σ (wc w (13 + 3 * u)) j = tC (g (171 + 62 * u + 1 + j))
def V (w : Nat) (σ : fSt) (g : gS) : Prop := (∀ i, i < 171 → σ (wc w (loc i).1) (loc i).2 = g i) ∧ VX w σ g 0 ∧ VX w σ g 1
theorem V_up {w : Nat} {σ : fSt} {g : gS} (i : Nat) {x : Int32} (hi : i < 171) (h : V w σ g) : V w (up2 σ (wc w (loc i).1) (loc i).2 x) (va_up g i x) := by
  obtain ⟨h1, h2, h3⟩ := h
  have hl := loc_lt i hi
  have hx : ∀ u, u < 2 → VX w σ g u → VX w (up2 σ (wc w (loc i).1) (loc i).2 x) (va_up g i x) u := by
    intro u hu ⟨a, b⟩
    refine ⟨?_, fun j hj => ?_⟩
    · rw [up2_k _ _ _ _ (wc_ne (by omega)), va_up_o _ _ (by omega)]
      exact a
    · rw [va_up_o _ _ (by omega)] at hj
      rw [up2_k _ _ _ _ (wc_ne (by omega)), va_up_o _ _ (by omega)]
      exact b j hj
  refine ⟨fun j hj => ?_, hx 0 (by decide) h2, hx 1 (by decide) h3⟩
  by_cases e : j = i
  · subst e
    rw [up2_s, va_up_s]
  · rw [va_up_o _ _ e, ← h1 j hj]
    by_cases e1 : (loc j).1 = (loc i).1
    · have e2 : (loc j).2 ≠ (loc i).2 := fun e2 => e (loc_inj j hj i hi (Prod.ext e1 e2))
      rw [e1, up2_j _ _ e2]
    · rw [up2_k _ _ _ _ (wc_ne e1)]
/-- cells of the world in which nothing of the row lies -/
theorem V_off {w : Nat} {σ σ' : fSt} {g : gS} (h : V w σ g) (hk : ∀ c, c < 22 → c ≠ 14 → c ≠ 17 → c ≠ 20 → c ≠ 21 → σ' (wc w c) = σ (wc w c)) : V w σ' g := by
  obtain ⟨h1, h2, h3⟩ := h
  have hz : ∀ i, i < 171 → (loc i).1 ≠ 14 ∧ (loc i).1 ≠ 17 ∧ (loc i).1 ≠ 20 ∧ (loc i).1 ≠ 21 := by decide +kernel
  have hx : ∀ u, u < 2 → VX w σ g u → VX w σ' g u := by
    intro u hu ⟨a, b⟩
    refine ⟨?_, fun j hj => ?_⟩
    · rw [hk _ (by omega) (by omega) (by omega) (by omega) (by omega)]; exact a
    · rw [hk _ (by omega) (by omega) (by omega) (by omega) (by omega)]; exact b j hj
  exact ⟨fun i hi => by rw [hk _ (loc_lt i hi).1 (hz i hi).1 (hz i hi).2.1 (hz i hi).2.2.1 (hz i hi).2.2.2]; exact h1 i hi, hx 0 (by decide) h2, hx 1 (by decide) h3⟩
theorem V_rd {w : Nat} {σ : fSt} {g : gS} (h : V w σ g) (i : Nat) (hi : i < 171) : σ (wc w (loc i).1) (loc i).2 = g i := h.1 i hi
theorem loc_slip : ∀ f, f < 10 → loc (19 + 2 * f) = (3, f) ∧ loc (19 + 2 * f + 1) = (4, f) := by decide +kernel
theorem loc_hold : ∀ h, h < 8 → loc (39 + 3 * h + 0) = (5, h) ∧ loc (39 + 3 * h + 1) = (6, h) ∧ loc (39 + 3 * h + 2) = (7, h) := by decide +kernel
theorem loc_going : ∀ h, h < 8 → loc (63 + 3 * h + 0) = (9, h) ∧ loc (63 + 3 * h + 1) = (10, h) ∧ loc (63 + 3 * h + 2) = (11, h) := by decide +kernel
theorem loc_tape : ∀ j, j < 60 → loc (87 + j) = (18, j) := by decide +kernel
theorem loc_wait : ∀ j, j < 24 → loc (147 + j) = (19, j) := by decide +kernel
section VRD
variable {w : Nat} {σ : fSt} {g : gS}
theorem V_child (h : V w σ g) {i : Nat} (hi : i < 14) : σ (wc w 1) i = g i := by
  have := V_rd h i (by omega)
  rw [show loc i = (1, i) by unfold loc; rw [if_pos hi]] at this
  exact this
theorem V_z (h : V w σ g) : σ (wc w 1) 14 = g 18 := V_rd h 18 (by decide)
theorem V_n14 (h : V w σ g) : σ (wc w 2) 5 = g 14 := V_rd h 14 (by decide)
theorem V_n15 (h : V w σ g) : σ (wc w 8) 3 = g 15 := V_rd h 15 (by decide)
theorem V_n16 (h : V w σ g) : σ (wc w 0) 7 = g 16 := V_rd h 16 (by decide)
theorem V_n17 (h : V w σ g) : σ (wc w 0) 8 = g 17 := V_rd h 17 (by decide)
theorem V_slip (h : V w σ g) {f : Nat} (hf : f < 10) : σ (wc w 3) f = g (19 + 2 * f) := by
  have := V_rd h (19 + 2 * f) (by omega)
  rw [(loc_slip f hf).1] at this
  exact this
theorem V_slope (h : V w σ g) {f : Nat} (hf : f < 10) : σ (wc w 4) f = g (19 + 2 * f + 1) := by
  have := V_rd h (19 + 2 * f + 1) (by omega)
  rw [(loc_slip f hf).2] at this
  exact this
theorem V_hcell (h : V w σ g) {f : Nat} (hf : f < 8) : σ (wc w 5) f = g (39 + 3 * f + 0) := by
  have := V_rd h (39 + 3 * f + 0) (by omega)
  rw [(loc_hold f hf).1] at this
  exact this
theorem V_hhard (h : V w σ g) {f : Nat} (hf : f < 8) : σ (wc w 6) f = g (39 + 3 * f + 1) := by
  have := V_rd h (39 + 3 * f + 1) (by omega)
  rw [(loc_hold f hf).2.1] at this
  exact this
theorem V_hpad (h : V w σ g) {f : Nat} (hf : f < 8) : σ (wc w 7) f = g (39 + 3 * f + 2) := by
  have := V_rd h (39 + 3 * f + 2) (by omega)
  rw [(loc_hold f hf).2.2] at this
  exact this
theorem V_gk (h : V w σ g) {f : Nat} (hf : f < 8) : σ (wc w 9) f = g (63 + 3 * f + 0) := by
  have := V_rd h (63 + 3 * f + 0) (by omega)
  rw [(loc_going f hf).1] at this
  exact this
theorem V_gm (h : V w σ g) {f : Nat} (hf : f < 8) : σ (wc w 10) f = g (63 + 3 * f + 1) := by
  have := V_rd h (63 + 3 * f + 1) (by omega)
  rw [(loc_going f hf).2.1] at this
  exact this
theorem V_gt (h : V w σ g) {f : Nat} (hf : f < 8) : σ (wc w 11) f = g (63 + 3 * f + 2) := by
  have := V_rd h (63 + 3 * f + 2) (by omega)
  rw [(loc_going f hf).2.2] at this
  exact this
theorem V_upc (h : V w σ g) {i : Nat} {x : Int32} (hi : i < 14) : V w (up2 σ (wc w 1) i x) (va_up g i x) := by
  have := V_up i (x := x) (by omega) h
  rw [show loc i = (1, i) by unfold loc; rw [if_pos hi]] at this
  exact this
theorem V_upz (h : V w σ g) {x : Int32} : V w (up2 σ (wc w 1) 14 x) (va_up g 18 x) := V_up 18 (by decide) h
end VRD
/-- all that isn't of world w stays -/
def FrW (w : Nat) (σ σ' : fSt) : Prop := ∀ k, (∀ c, c < 22 → k ≠ wc w c) → σ' k = σ k
theorem FrW.rf {w : Nat} {σ : fSt} : FrW w σ σ := fun _ _ => rfl
theorem FrW.tr {w : Nat} {σ σ1 σ2 : fSt} (h1 : FrW w σ σ1) (h2 : FrW w σ1 σ2) : FrW w σ σ2 := fun k hk => (h2 k hk).trans (h1 k hk)
theorem FrW.up {w : Nat} {σ : fSt} {c j : Nat} {x : Int32} (hc : c < 22) : FrW w σ (up2 σ (wc w c) j x) := fun k hk => up2_kf _ _ _ (hk c hc)
/-- an end of a method of world w: an answer, the world as g, all else as it was -/
def rW (v : Option Value) (τ : fLt) (w : Nat) (σ : fSt) (g : gS) : Option Value → fSt → fLt → Prop := rP v τ (fun σ' => V w σ' g ∧ FrW w σ σ')
