/-- the first cells -/
def s0 : fSt := fun k => match k with
  | 2 => fun j => (sTb 0).getD j 0
  | 24 => fun j => (sTb 0).getD j 0
  | 46 => fun j => (sTb 0).getD j 0
  | 67 => fun j => match j with
    | 6 => 1
    | _ => 0
  | 88 => upd (upd (upd (upd (fun _ => 0) (Int32.toNatClampNeg 2) 8) (Int32.toNatClampNeg 3) 4) (Int32.toNatClampNeg 4) 10) (Int32.toNatClampNeg 18) 1
  | 92 => upd (upd (upd (upd (upd (upd (upd (fun _ => 0) (Int32.toNatClampNeg 0) 0) (Int32.toNatClampNeg 1) (-99)) (Int32.toNatClampNeg 2) 1) (Int32.toNatClampNeg 3) 0) (Int32.toNatClampNeg 4) 0) (Int32.toNatClampNeg 5) 0) (Int32.toNatClampNeg 6) 0
  | 93 => upd (upd (upd (upd (upd (upd (upd (fun _ => 0) (Int32.toNatClampNeg 0) 99) (Int32.toNatClampNeg 1) 99) (Int32.toNatClampNeg 2) 30) (Int32.toNatClampNeg 3) 9) (Int32.toNatClampNeg 4) 50) (Int32.toNatClampNeg 5) 60) (Int32.toNatClampNeg 6) 9999
  | _ => fun _ => 0
def t0 : fLt := fun k => match k with
  | 72 => fun j => match j with
    | 1 => 1
    | _ => 0
  | _ => fun _ => 0
theorem s0_V1 : ∀ i, i < 171 → s0 (wc 0 (loc i).1) (loc i).2 = s0 88 i := by decide +kernel
theorem s0_VX (u : Nat) (hu : u < 2) : VX 0 s0 (s0 88) u := by
  rcases (show u = 0 ∨ u = 1 by omega) with rfl | rfl
  · exact ⟨by decide +kernel, fun j hj => by
      have : (s0 88 (171 + 62 * 0)).toNatClampNeg = 0 := by decide +kernel
      omega⟩
  · exact ⟨by decide +kernel, fun j hj => by
      have : (s0 88 (171 + 62 * 1)).toNatClampNeg = 0 := by decide +kernel
      omega⟩
theorem s0_V : V 0 s0 (s0 88) := ⟨s0_V1, s0_VX 0 (by decide), s0_VX 1 (by decide)⟩
theorem s0_B : B (s0 88) := by unfold B; decide +kernel
theorem s0_RN : RN (s0 88) := by
  have h : s0 88 15 = 0 := by decide +kernel
  refine ⟨fun h1 => ?_, fun _ => ⟨by decide +kernel, by decide +kernel⟩⟩
  rw [h] at h1
  exact absurd h1 (by decide)
theorem s0_tOK (u : Nat) (hu : u < 2) : tOK (s0 88) u := by
  rcases (show u = 0 ∨ u = 1 by omega) with rfl | rfl
  · exact ⟨0, by decide, by decide +kernel, fun h => absurd h (by decide)⟩
  · exact ⟨0, by decide, by decide +kernel, fun h => absurd h (by decide)⟩
theorem s0_OK : OKr s0 := by
  refine ⟨⟨s0_B, s0_tOK 0 (by decide), s0_tOK 1 (by decide), s0_RN⟩, fun h => absurd rfl h, fun s _ => by show 0 ≤ (0 : Int32) ∧ (0 : Int32) ≤ 24; decide, by show 0 ≤ (0 : Int32) ∧ (0 : Int32) ≤ 30; decide, by decide +kernel, by decide +kernel⟩
theorem s0_RR : RR s0 s0 := ⟨rfl, rfl, rfl, rfl, rfl, rfl, rfl, rfl, rfl, rfl, rfl, s0_OK⟩
theorem s0_CR : CR s0 s0 := by
  refine ⟨s0_V, ⟨rfl, fun h => absurd rfl h⟩, fun e _ _ => rfl, ?_, ⟨rfl, fun j _ => rfl⟩, s0_OK⟩
  intro s hs
  rcases (show s = 0 ∨ s = 1 ∨ s = 2 ∨ s = 3 by omega) with rfl | rfl | rfl | rfl <;> exact ⟨rfl, fun _ => rfl, fun j _ => rfl⟩
