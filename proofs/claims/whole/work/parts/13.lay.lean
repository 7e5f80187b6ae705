theorem wc_lt {w c : Nat} (hw : w < 3) (hc : c < 22) : wc w c < 105 := by unfold wc; omega
theorem wc_inj {w c c' : Nat} : wc w c = wc w c' ↔ c = c' := by unfold wc; omega
theorem wc_ne {w c c' : Nat} (h : c ≠ c') : wc w c ≠ wc w c' := fun e => h (wc_inj.mp e)
theorem wc_hi {w c k : Nat} (hw : w < 3) (hc : c < 22) (hk : 67 ≤ k ∨ k = 0) : wc w c ≠ k := by unfold wc; omega
theorem wc_dis {w w' c c' : Nat} (hc : c < 22) (hc' : c' < 22) (h : wc w c = wc w' c') : w = w' ∧ c = c' := by unfold wc at h; omega
theorem sc_lt {s : Nat} (hs : s < 4) : sc s < 105 := by unfold sc; omega
theorem sc1_lt {s : Nat} (hs : s < 4) : sc s + 1 < 105 := by unfold sc; omega
theorem w3 {w : Nat} (h : w < 3) : w = 0 ∨ w = 1 ∨ w = 2 := by omega
theorem s4 {s : Nat} (h : s < 4) : s = 0 ∨ s = 1 ∨ s = 2 ∨ s = 3 := by omega
theorem ae_w0 {w : Nat} (hw : w < 3) (f : Nat → Int32) (g : Nat → Int64) : aent (wc w 0) f g = aO 8 [.ref (wc w 1), .ref (wc w 2), .ref (wc w 8), .ref (wc w 12), .ref (wc w 15), .ref (wc w 18), .ref (wc w 19), .int (f 7), .int (f 8), .ref (wc w 20), .ref (wc w 21)] := by rcases w3 hw with rfl | rfl | rfl <;> rfl
theorem ae_w1 {w : Nat} (hw : w < 3) (f : Nat → Int32) (g : Nat → Int64) : aent (wc w 1) f g = aI 15 f := by rcases w3 hw with rfl | rfl | rfl <;> rfl
theorem ae_w2 {w : Nat} (hw : w < 3) (f : Nat → Int32) (g : Nat → Int64) : aent (wc w 2) f g = aO 3 [.ref (wc w 3), .ref (wc w 4), .ref (wc w 5), .ref (wc w 6), .ref (wc w 7), .int (f 5)] := by rcases w3 hw with rfl | rfl | rfl <;> rfl
theorem ae_w3 {w : Nat} (hw : w < 3) (f : Nat → Int32) (g : Nat → Int64) : aent (wc w 3) f g = aI 10 f := by rcases w3 hw with rfl | rfl | rfl <;> rfl
theorem ae_w4 {w : Nat} (hw : w < 3) (f : Nat → Int32) (g : Nat → Int64) : aent (wc w 4) f g = aI 10 f := by rcases w3 hw with rfl | rfl | rfl <;> rfl
theorem ae_w5 {w : Nat} (hw : w < 3) (f : Nat → Int32) (g : Nat → Int64) : aent (wc w 5) f g = aI 8 f := by rcases w3 hw with rfl | rfl | rfl <;> rfl
theorem ae_w6 {w : Nat} (hw : w < 3) (f : Nat → Int32) (g : Nat → Int64) : aent (wc w 6) f g = aI 8 f := by rcases w3 hw with rfl | rfl | rfl <;> rfl
theorem ae_w7 {w : Nat} (hw : w < 3) (f : Nat → Int32) (g : Nat → Int64) : aent (wc w 7) f g = aI 8 f := by rcases w3 hw with rfl | rfl | rfl <;> rfl
theorem ae_w8 {w : Nat} (hw : w < 3) (f : Nat → Int32) (g : Nat → Int64) : aent (wc w 8) f g = aO 1 [.ref (wc w 9), .ref (wc w 10), .ref (wc w 11), .int (f 3)] := by rcases w3 hw with rfl | rfl | rfl <;> rfl
theorem ae_w9 {w : Nat} (hw : w < 3) (f : Nat → Int32) (g : Nat → Int64) : aent (wc w 9) f g = aI 8 f := by rcases w3 hw with rfl | rfl | rfl <;> rfl
theorem ae_w10 {w : Nat} (hw : w < 3) (f : Nat → Int32) (g : Nat → Int64) : aent (wc w 10) f g = aI 8 f := by rcases w3 hw with rfl | rfl | rfl <;> rfl
theorem ae_w11 {w : Nat} (hw : w < 3) (f : Nat → Int32) (g : Nat → Int64) : aent (wc w 11) f g = aI 8 f := by rcases w3 hw with rfl | rfl | rfl <;> rfl
theorem ae_w12 {w : Nat} (hw : w < 3) (f : Nat → Int32) (g : Nat → Int64) : aent (wc w 12) f g = aO 7 [.ref (wc w 13), .int (f 1), .ref (wc w 14)] := by rcases w3 hw with rfl | rfl | rfl <;> rfl
theorem ae_w13 {w : Nat} (hw : w < 3) (f : Nat → Int32) (g : Nat → Int64) : aent (wc w 13) f g = aI 60 f := by rcases w3 hw with rfl | rfl | rfl <;> rfl
theorem ae_w14 {w : Nat} (hw : w < 3) (f : Nat → Int32) (g : Nat → Int64) : aent (wc w 14) f g = aI 60 f := by rcases w3 hw with rfl | rfl | rfl <;> rfl
theorem ae_w15 {w : Nat} (hw : w < 3) (f : Nat → Int32) (g : Nat → Int64) : aent (wc w 15) f g = aO 7 [.ref (wc w 16), .int (f 1), .ref (wc w 17)] := by rcases w3 hw with rfl | rfl | rfl <;> rfl
theorem ae_w16 {w : Nat} (hw : w < 3) (f : Nat → Int32) (g : Nat → Int64) : aent (wc w 16) f g = aI 60 f := by rcases w3 hw with rfl | rfl | rfl <;> rfl
theorem ae_w17 {w : Nat} (hw : w < 3) (f : Nat → Int32) (g : Nat → Int64) : aent (wc w 17) f g = aI 60 f := by rcases w3 hw with rfl | rfl | rfl <;> rfl
theorem ae_w18 {w : Nat} (hw : w < 3) (f : Nat → Int32) (g : Nat → Int64) : aent (wc w 18) f g = aI 60 f := by rcases w3 hw with rfl | rfl | rfl <;> rfl
theorem ae_w19 {w : Nat} (hw : w < 3) (f : Nat → Int32) (g : Nat → Int64) : aent (wc w 19) f g = aI 24 f := by rcases w3 hw with rfl | rfl | rfl <;> rfl
theorem ae_w20 {w : Nat} (hw : w < 3) (f : Nat → Int32) (g : Nat → Int64) : aent (wc w 20) f g = aO 0 [.int (f 0), .int (f 1), .int (f 2), .int (f 3)] := by rcases w3 hw with rfl | rfl | rfl <;> rfl
theorem ae_w21 {w : Nat} (hw : w < 3) (f : Nat → Int32) (g : Nat → Int64) : aent (wc w 21) f g = aI 5 f := by rcases w3 hw with rfl | rfl | rfl <;> rfl
theorem ae_s0 {s : Nat} (hs : s < 4) (f : Nat → Int32) (g : Nat → Int64) : aent (sc s) f g = aO 5 [.ref (sc s + 1), .int (f 1), .int (f 2)] := by rcases s4 hs with rfl | rfl | rfl | rfl <;> rfl
theorem ae_s1 {s : Nat} (hs : s < 4) (f : Nat → Int32) (g : Nat → Int64) : aent (sc s + 1) f g = aI 24 f := by rcases s4 hs with rfl | rfl | rfl | rfl <;> rfl
theorem ae_0 (f : Nat → Int32) (g : Nat → Int64) : aent 0 f g = aO 9 [.ref (wc 0 0), .ref (wc 1 0), .ref (wc 2 0), .ref 67, .ref 72, .ref 75, .ref 84, .ref 85, .int (f 8)] := rfl
theorem ae_67 (f : Nat → Int32) (g : Nat → Int64) : aent 67 f g = aO 2 [.ref 68, .ref 71, .int (f 2), .int (f 3), .int (f 4), .int (f 5), .int (f 6)] := rfl
theorem ae_68 (f : Nat → Int32) (g : Nat → Int64) : aent 68 f g = aO 7 [.ref 69, .int (f 1), .ref 70] := rfl
theorem ae_69 (f : Nat → Int32) (g : Nat → Int64) : aent 69 f g = aI 60 f := rfl
theorem ae_70 (f : Nat → Int32) (g : Nat → Int64) : aent 70 f g = aI 60 f := rfl
theorem ae_71 (f : Nat → Int32) (g : Nat → Int64) : aent 71 f g = aI 60 f := rfl
theorem ae_72 (f : Nat → Int32) (g : Nat → Int64) : aent 72 f g = aO 4 [.long (g 0), .long (g 1), .ref 73, .ref 74] := rfl
theorem ae_73 (f : Nat → Int32) (g : Nat → Int64) : aent 73 f g = aJ 199 g := rfl
theorem ae_74 (f : Nat → Int32) (g : Nat → Int64) : aent 74 f g = aJ 199 g := rfl
theorem ae_75 (f : Nat → Int32) (g : Nat → Int64) : aent 75 f g = aQ 0 4 (fun i => some (sc i)) := rfl
theorem ae_84 (f : Nat → Int32) (g : Nat → Int64) : aent 84 f g = aI 6 f := rfl
theorem ae_85 (f : Nat → Int32) (g : Nat → Int64) : aent 85 f g = aO 6 [.ref 86, .int (f 1), .int (f 2), .int (f 3), .int (f 4), .int (f 5)] := rfl
theorem ae_86 (f : Nat → Int32) (g : Nat → Int64) : aent 86 f g = aI 30 f := rfl
theorem ae_87 (f : Nat → Int32) (g : Nat → Int64) : aent 87 f g = aO 10 [.ref 88, .ref 89, .ref 90, .int (f 3), .ref 91, .ref 92, .ref 93, .ref 94, .int (f 8), .int (f 9), .int (f 10), .int (f 11), .ref 95, .int (f 13), .ref 96, .ref 97, .ref 98, .ref 99, .long (g 18), .long (g 19), .ref 100, .int (f 21), .int (f 22), .int (f 23), .ref 101, .ref 102, .ref 103, .ref 104] := rfl
theorem ae_88 (f : Nat → Int32) (g : Nat → Int64) : aent 88 f g = aI 295 f := rfl
theorem ae_89 (f : Nat → Int32) (g : Nat → Int64) : aent 89 f g = aI 295 f := rfl
theorem ae_90 (f : Nat → Int32) (g : Nat → Int64) : aent 90 f g = aI 295 f := rfl
theorem ae_91 (f : Nat → Int32) (g : Nat → Int64) : aent 91 f g = aI 7 f := rfl
theorem ae_92 (f : Nat → Int32) (g : Nat → Int64) : aent 92 f g = aI 7 f := rfl
theorem ae_93 (f : Nat → Int32) (g : Nat → Int64) : aent 93 f g = aI 7 f := rfl
theorem ae_94 (f : Nat → Int32) (g : Nat → Int64) : aent 94 f g = aQ 1 2 (fun i => some (1010 + i)) := rfl
theorem ae_95 (f : Nat → Int32) (g : Nat → Int64) : aent 95 f g = aI 60 f := rfl
theorem ae_96 (f : Nat → Int32) (g : Nat → Int64) : aent 96 f g = aI 5 f := rfl
theorem ae_97 (f : Nat → Int32) (g : Nat → Int64) : aent 97 f g = aI 60 f := rfl
theorem ae_98 (f : Nat → Int32) (g : Nat → Int64) : aent 98 f g = aJ 199 g := rfl
theorem ae_99 (f : Nat → Int32) (g : Nat → Int64) : aent 99 f g = aJ 199 g := rfl
theorem ae_100 (f : Nat → Int32) (g : Nat → Int64) : aent 100 f g = aI 30 f := rfl
theorem ae_101 (f : Nat → Int32) (g : Nat → Int64) : aent 101 f g = aI 4 f := rfl
theorem ae_102 (f : Nat → Int32) (g : Nat → Int64) : aent 102 f g = aI 4 f := rfl
theorem ae_103 (f : Nat → Int32) (g : Nat → Int64) : aent 103 f g = aI 96 f := rfl
theorem ae_104 (f : Nat → Int32) (g : Nat → Int64) : aent 104 f g = aI 24 f := rfl
theorem i32_rng {x : Int32} {lo hi : Int} {n : Nat} (h1 : ¬ x.toInt < lo) (h2 : ¬ hi < x.toInt) (hn : hi < lo + n) : ∃ j : Nat, j < n ∧ x = Int32.ofInt (lo + j) :=
  ⟨(x.toInt - lo).toNat, by omega, by rw [show lo + ((x.toInt - lo).toNat : Int) = x.toInt by omega]; exact (Int32.ofInt_toInt x).symm⟩
/-- a row read with its index looked at -/
def rdA (n : Nat) (f : Nat → Int32) (i : Int32) : Int32 := if 0 ≤ i ∧ i < nI n then f i.toNatClampNeg else 0
def wrA (σ : fSt) (k n : Nat) (i v : Int32) : fSt := if 0 ≤ i ∧ i < nI n then up2 σ k i.toNatClampNeg v else σ
theorem nI_in2 {j n : Nat} (h : j < n) (hn : n < 2 ^ 31) : 0 ≤ nI j ∧ nI j < nI n := ⟨nI_pos' (Nat.lt_trans h hn), nI_lt h hn⟩
theorem rdA_in {n j : Nat} {f : Nat → Int32} (h : j < n) (hn : n < 2 ^ 31) : rdA n f (nI j) = f j := by
  rw [rdA, if_pos (nI_in2 h hn), nI_clamp (Nat.lt_trans h hn)]
theorem wrA_in {σ : fSt} {k n j : Nat} {v : Int32} (h : j < n) (hn : n < 2 ^ 31) : wrA σ k n (nI j) v = up2 σ k j v := by
  rw [wrA, if_pos (nI_in2 h hn), nI_clamp (Nat.lt_trans h hn)]
theorem in2_nI {x : Int32} {n : Nat} (hn : n < 2 ^ 31) (h : 0 ≤ x ∧ x < nI n) : ∃ j, j < n ∧ x = nI j := by
  obtain ⟨j, hj, rfl⟩ := nI_of (fun h9 => absurd h.1 (by rw [Int32.not_le]; exact h9))
  exact ⟨j, (nI_ltI hj hn).mp h.2, rfl⟩
theorem vp_in2 {x : Int32} {n : Nat} (hn : n < 2 ^ 31) (h : 0 ≤ x ∧ x < nI n) : vp_in x n := by
  obtain ⟨j, hj, rfl⟩ := in2_nI hn h
  exact vp_in_nI hj hn
theorem up2_s (σ : fSt) (k j : Nat) (x : Int32) : up2 σ k j x k j = x := by simp [up2, va_up]
theorem up2_k (σ : fSt) {k k' : Nat} (j j' : Nat) (x : Int32) (h : k' ≠ k) : up2 σ k j x k' j' = σ k' j' := by simp [up2, va_up, h]
theorem up2_kf (σ : fSt) {k k' : Nat} (j : Nat) (x : Int32) (h : k' ≠ k) : up2 σ k j x k' = σ k' := by simp [up2, va_up, h]
theorem up2_j (σ : fSt) {k j j' : Nat} (x : Int32) (h : j' ≠ j) : up2 σ k j x k j' = σ k j' := by simp [up2, va_up, h]
theorem up2_f (σ : fSt) (k j : Nat) (x : Int32) : up2 σ k j x k = va_up (σ k) j x := by simp [up2, va_up]
theorem sTb_len {j : Nat} (hj : j < 5) : (sTb j).length < 2 ^ 31 := by
  rcases (show j = 0 ∨ j = 1 ∨ j = 2 ∨ j = 3 ∨ j = 4 by omega) with rfl | rfl | rfl | rfl | rfl <;> decide
theorem v_tabldX {G : fGm} {I : fMI} {Q : Option Value → fSt → fLt → Prop} {d : Nat} {σ : fSt} {τ : fLt} {pc : Nat} {ls : List (Nat × Value)} {st : List Value} {j : Nat} {x : Int32} (hj : j < 5) (hd : decode I.2.1 pc = .ok (.iaload, 1)) (h0 : 0 ≤ x) (h1 : x < nI (sTb j).length)
    (kk : VW G I Q d σ τ (pc + 1) ls (.int ((sTb j).getD x.toNatClampNeg 0) :: st)) : VW G I Q d σ τ pc ls (.int x :: .ref (1000 + j) :: st) := by
  obtain ⟨i, hi, rfl⟩ := in2_nI (sTb_len hj) ⟨h0, h1⟩
  rw [nI_clamp (Nat.lt_trans hi (sTb_len hj))] at kk
  exact v_tabld hj rfl hi (sTb_len hj) hd kk
