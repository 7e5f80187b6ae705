theorem vp_q {cA : ClassId} {n : Nat} {f f2 : Nat → Option Nat} (h : ∀ j, j < n → f j = f2 j) : vp_cell cA (n, .inr (.inr (.inr (.inr f)))) = vp_cell cA (n, .inr (.inr (.inr (.inr f2)))) := by
  rw [vp_cell_q, vp_cell_q]
  exact arrV_congr (fun j hj => by rw [h j hj])
section FIN
variable {G : fGm} {q9 : Nat} {a9 : Nat → Nat} {q10 : Nat} {a10 : Nat → Nat} {b : Nat}
theorem wsF_D {A : Nat → Prop} (hD : va_D A (kX9 G q9 a9 ++ kX10 G q10 a10)) : va_D A (wsF G q9 a9 q10 a10 b) := hD.sub pmF (by decide +kernel) (wsF_eq G q9 a9 q10 a10 b)
theorem wsF_P {H : Heap} (hP : va_P G.2.1 vwCl (kX9 G q9 a9 ++ kX10 G q10 a10) H) : va_P G.2.1 vwCl (wsF G q9 a9 q10 a10 b) H := by
  intro k q hk
  have h1 : (pmF.map (fun i => (kX9 G q9 a9 ++ kX10 G q10 a10)[i]?))[k]? = some (some q) := by rw [wsF_eq G q9 a9 q10 a10 b, List.getElem?_map, hk]; rfl
  rw [List.getElem?_map] at h1
  cases hi : pmF[k]? with
  | none => rw [hi] at h1; cases h1
  | some i => rw [hi] at h1; exact hP i q (Option.some.inj h1)
theorem wsF_o {k : Nat} (h1 : k ≠ 75) (h2 : k ≠ 94) : (wsF G q9 a9 q10 a10 b)[k]? = (pic (gF G q9 a9 q10 a10 b) s0 t0)[k]? := by
  unfold wsF
  rw [List.getElem?_set_ne (Ne.symm h2), List.getElem?_set_ne (Ne.symm h1)]
theorem wsF_75 : (wsF G q9 a9 q10 a10 b)[75]? = some (a9 75, .inl (G.2.2.1 (2 + 0), 4, .inr (.inr (.inr (.inr (f75 a9)))))) := by
  unfold wsF
  rw [List.getElem?_set_ne (by decide), List.getElem?_set_self (by simp [pic])]
theorem wsF_94 : (wsF G q9 a9 q10 a10 b)[94]? = some (a10 7, .inl (G.2.2.1 (2 + 1), 2, .inr (.inr (.inr (.inr (f94 G)))))) := by
  unfold wsF
  rw [List.getElem?_set_self (by simp [pic])]
theorem fin_P {H : Heap} (hP : va_P G.2.1 vwCl (kX9 G q9 a9 ++ kX10 G q10 a10) H) : va_P (gF G q9 a9 q10 a10 b).2.1 vwCl (pic (gF G q9 a9 q10 a10 b) s0 t0) H := by
  have hW := wsF_P (b := b) hP
  intro k q hk
  by_cases h1 : k = 75
  · subst h1
    have h := hW 75 _ wsF_75
    rw [pic_get (by decide)] at hk
    cases hk
    have h : H[a9 75]? = some (vp_cell (G.2.2.1 (2 + 0)) (4, .inr (.inr (.inr (.inr (f75 a9)))))) := h
    show H[a9 75]? = some (vp_cell (G.2.2.1 (2 + 0)) (4, .inr (.inr (.inr (.inr (fun j => (some (sc j)).map (gF G q9 a9 q10 a10 b).2.2.2))))))
    rw [h]
    exact congrArg some (vp_q (fun j hj => by rcases (show j = 0 ∨ j = 1 ∨ j = 2 ∨ j = 3 by omega) with rfl | rfl | rfl | rfl <;> rfl))
  · by_cases h2 : k = 94
    · subst h2
      have h := hW 94 _ wsF_94
      rw [pic_get (by decide)] at hk
      cases hk
      have h : H[a10 7]? = some (vp_cell (G.2.2.1 (2 + 1)) (2, .inr (.inr (.inr (.inr (f94 G)))))) := h
      show H[a10 7]? = some (vp_cell (G.2.2.1 (2 + 1)) (2, .inr (.inr (.inr (.inr (fun j => (some (1010 + j)).map (gF G q9 a9 q10 a10 b).2.2.2))))))
      rw [h]
      exact congrArg some (vp_q (fun j hj => by rcases (show j = 0 ∨ j = 1 by omega) with rfl | rfl <;> rfl))
    · exact hW k q (by rw [wsF_o h1 h2]; exact hk)
theorem wsF_ad {k : Nat} (hk : k < 105) : ∃ e, (wsF G q9 a9 q10 a10 b)[k]? = some (adF q9 a9 q10 a10 b G.2.2.2 k, e) := by
  by_cases h1 : k = 75
  · subst h1
    exact ⟨_, wsF_75⟩
  · by_cases h2 : k = 94
    · subst h2
      exact ⟨_, wsF_94⟩
    · exact ⟨_, (wsF_o h1 h2).trans (pic_get hk)⟩
theorem fin_I {A : Nat → Prop} (hD : va_D A (kX9 G q9 a9 ++ kX10 G q10 a10)) : Ij (gF G q9 a9 q10 a10 b) ∧ ∀ k, k < 105 → A (adF q9 a9 q10 a10 b G.2.2.2 k) := by
  have hW := wsF_D (b := b) hD
  refine ⟨fun i j hi hj e => ?_, fun k hk => ?_⟩
  · obtain ⟨e1, h1⟩ := wsF_ad (G := G) (q9 := q9) (a9 := a9) (q10 := q10) (a10 := a10) (b := b) hi
    obtain ⟨e2, h2⟩ := wsF_ad (G := G) (q9 := q9) (a9 := a9) (q10 := q10) (a10 := a10) (b := b) hj
    exact hW.1 i j _ _ h1 h2 e
  · obtain ⟨e1, h1⟩ := wsF_ad (G := G) (q9 := q9) (a9 := a9) (q10 := q10) (a10 := a10) (b := b) hk
    exact hW.2 k _ h1
end FIN
theorem g_go {G : fGm} {A : Nat → Prop} {Q' : Option Value → va_W → Prop} {R : Room} {Q0 : State → Prop} {kc ks mc' ms' pc : Nat} {wr wc : va_W} {p : Program} {e : Env} {s : State} {m : MethodId} {args a : Array Value} {below : List Frame} {meth : Method} {c : Code} {H : Heap} {locs : List Loc} {L : Array Slot} {st stc : List Value}
    (hA : ∀ q, s.heap.size ≤ q → A q) (hP : va_P G.2.1 vwCl (wr ++ wc) H) (hD : va_D A (wr ++ wc)) (hS : va_S A s.heap H locs)
    (run : va_Run p G.1 e R s m args below meth c H locs kc ks mc' ms' (F0 m pc L stc) st (QcN G (va_A wc H.size) Q' a) (va_A wc H.size))
    (kk : ∀ v w1 H1 locs1, Q' v w1 → va_P G.2.1 vwCl (wr ++ w1) H1 → va_D A (wr ++ w1) → va_S A s.heap H1 locs1 → W p G.1 e R s m args below meth c H1 locs1 (kc + mc') (ks + ms') Q0 (F0 m (pc + 3) L (v.toList ++ st))) : W p G.1 e R s m args below meth c H locs kc ks Q0 (F0 m pc L stc) := by
  intro T hT X
  obtain ⟨v, st₀, t, T', L', h0, X', hL', e1, e2, ⟨⟨v', w1, hv, hq, hP1, hD1, hz, hk⟩, stp⟩⟩ := run T hT X
  rw [h0] at hz hk
  have hv : v = v' := by injection hv
  subst hv
  have hAs : ∀ q, va_A wc H.size q → A q := by
    intro q h
    rcases h with ⟨k, e2, h⟩ | h
    · exact hD.2 _ _ (w_right h)
    · exact hA q (Nat.le_trans hS.1 h)
  have hkr : ∀ (k : Nat) (q : Nat × va_E), wr[k]? = some q → q.1 < H.size ∧ ¬ va_A wc H.size q.1 := by
    intro k q hq
    have hlt := (hP _ _ (w_left (wc := wc) hq)).lt
    refine ⟨hlt, fun h => ?_⟩
    rcases h with ⟨k2, e2, h⟩ | h
    · have := hD.1 _ _ _ _ (w_left (wc := wc) hq) (w_right (wr := wr) h) rfl
      have := (List.getElem?_eq_some_iff.mp hq).1
      omega
    · omega
  have hPr : va_P G.2.1 vwCl wr H := fun k q hq => hP k q (w_left hq)
  have hDr : va_D A wr := ⟨fun i j x y hi hj hxy => hD.1 i j x y (w_left hi) (w_left hj) hxy, fun k q hq => hD.2 k q (w_left hq)⟩
  have hP2 : va_P G.2.1 vwCl (wr ++ w1) T'.heap := by
    rw [e1]
    exact (hPr.kept (fun k q hq => hk q.1 (hkr k q hq).1 (hkr k q hq).2)).app hP1
  have hD2 : va_D A (wr ++ w1) := hDr.app (hD1.weaken (fun k q _ h => hAs _ h)) (fun i j x y hi hj hxy => (hkr i x hi).2 (by rw [hxy]; exact hD1.2 j y hj))
  have hS' : va_S A s.heap T'.heap (locs ++ L') := ⟨Nat.le_trans hS.1 (by rw [e1]; exact hz), fun q h1 h2 => by
      rw [e1, hk q (Nat.lt_of_lt_of_le h1 hS.1) (fun z => h2 (hAs q z))]; exact hS.2.1 q h1 h2, fun q hq => by
      rcases List.mem_append.mp hq with h | h
      · exact hS.2.2 q h
      · exact hAs _ (hL' q h)⟩
  obtain ⟨t2, a1, b1⟩ := kk v w1 T'.heap _ hq hP2 hD2 hS' T' rfl X'
  exact ⟨t2, stp t2 a1, b1⟩
