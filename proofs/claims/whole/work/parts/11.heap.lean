section VWHEAP
variable {G : fGm} {I : fMI} {Q : Option Value → fSt → fLt → Prop} {d : Nat} {σ : fSt} {τ : fLt} {pc : Nat} {ls : List (Nat × Value)} {st : List Value}
theorem gT0 (G : fGm) : (gT G)[0]? = some (G.2.2.1 0, .int) := rfl
theorem gT1 (G : fGm) : (gT G)[1]? = some (G.2.2.1 1, .long) := rfl
theorem gT2 (G : fGm) : (gT G)[2]? = some (G.2.2.1 2, .object RX5) := rfl
theorem gT3 (G : fGm) : (gT G)[3]? = some (G.2.2.1 3, .object RJ0) := rfl
theorem pic_at {G : fGm} {σ : fSt} {τ : fLt} {k : Nat} {en : fAE} (h : k < 105) (ha : aent k (σ k) (τ k) = en) : (pic G σ τ)[k]? = some (G.2.2.2 k, cE G en) := by
  rw [pic_get h, ha]
/-- a field is read -/
theorem v_get {idx ci j k : Nat} {vs : List Value} {v : Value} (h : GOK I.1.cls idx ci j) (hd : decode I.2.1 pc = .ok (.getfield idx, 3)) (hk : k < 105) (ha : aent k (σ k) (τ k) = aO ci vs) (hv : vs[j]? = some v)
    (kk : VW G I Q d σ τ (pc + 3) ls (v :: st)) : VW G I Q d σ τ pc ls (.ref k :: st) := by
  intro p e s m args below meth c H locs L C hP hS hL
  obtain ⟨hx, hb, hr, hml, hts, hown, hlocks, hK, hRo, hI⟩ := id C
  obtain ⟨Cn, T, N, h1, h2, h3, h4, h5⟩ := h
  exact va_get (C := Cn) (T := T) (N := N) (ref := Cn) hx hb hts h2 hown hK hP k (pic_at hk ha) h1 j h3 (hts _ h4) (fun x hx9 => by rw [h5] at hx9; exact hx9) (by rw [List.getElem?_map, hv]; rfl) hd (kk _ _ _ _ _ _ _ _ _ _ _ C hP hS hL)
/-- an int field is written -/
theorem v_putI {idx ci j k : Nat} {ty : FieldType} {vs : List Value} {x : Int32} (h : POK I.1.cls idx ci j ty) (hd : decode I.2.1 pc = .ok (.putfield idx, 3)) (hk : k < 105) (ha : aent k (σ k) (τ k) = aO ci vs) (ha2 : aent k (va_up (σ k) j x) (τ k) = aO ci (vs.set j (.int x)))
    (hn : narrow ty (.int x) = .int x) (hf : fits ty (.int x) = true) (hj : j < vs.length)
    (kk : VW G I Q d (up2 σ k j x) τ (pc + 3) ls st) : VW G I Q d σ τ pc ls (.int x :: .ref k :: st) := by
  intro p e s m args below meth c H locs L C hP hS hL
  obtain ⟨hx, hb, hr, hml, hts, hown, hlocks, hK, hRo, hI⟩ := id C
  obtain ⟨Cn, T, N, ty0, h1, h2, h3, h4, h5, h6, h7, h8, h9⟩ := h
  refine va_put (C := Cn) (T := T) (N := N) (ref := Cn) hx hb hts h2 ty0 h6 h7 hown hK hP (pic_D hI σ τ) hS k (pic_at hk ha) h1 j h3 (hts _ h4) (fun x hx9 => by rw [h5] at hx9; exact hx9) h8 h9 (v := .int x) hn hf (by simpa using hj) hd (fun H1 locs1 hP1 hD1 hS1 => ?_)
  refine kk _ _ _ _ _ _ _ _ _ _ _ C ?_ hS1 hL
  rw [pic_set (σ' := up2 σ k j x) (τ' := τ) hk ?_ ?_] at hP1
  · exact hP1
  · show _ = cE G (aent k (va_up σ k (va_up (σ k) j x) k) (τ k))
    rw [va_up_s, ha2]
    show Sum.inr (ci, (vs.map (cV G)).set j (cV G (.int x))) = Sum.inr (ci, (vs.set j (.int x)).map (cV G))
    rw [List.map_set]
  · intro i hi
    exact ⟨va_up_o _ _ hi, rfl⟩
/-- a long field is written -/
theorem v_putJ {idx ci j k : Nat} {vs : List Value} {x : Int64} (h : POK I.1.cls idx ci j .long) (hd : decode I.2.1 pc = .ok (.putfield idx, 3)) (hk : k < 105) (ha : aent k (σ k) (τ k) = aO ci vs) (ha2 : aent k (σ k) (va_up (τ k) j x) = aO ci (vs.set j (.long x))) (hj : j < vs.length)
    (kk : VW G I Q d σ (up2L τ k j x) (pc + 3) ls st) : VW G I Q d σ τ pc ls (.long x :: .ref k :: st) := by
  intro p e s m args below meth c H locs L C hP hS hL
  obtain ⟨hx, hb, hr, hml, hts, hown, hlocks, hK, hRo, hI⟩ := id C
  obtain ⟨Cn, T, N, ty0, h1, h2, h3, h4, h5, h6, h7, h8, h9⟩ := h
  refine va_put (C := Cn) (T := T) (N := N) (ref := Cn) hx hb hts h2 ty0 h6 h7 hown hK hP (pic_D hI σ τ) hS k (pic_at hk ha) h1 j h3 (hts _ h4) (fun x hx9 => by rw [h5] at hx9; exact hx9) h8 h9 (v := .long x) rfl rfl (by simpa using hj) hd (fun H1 locs1 hP1 hD1 hS1 => ?_)
  refine kk _ _ _ _ _ _ _ _ _ _ _ C ?_ hS1 hL
  rw [pic_set (σ' := σ) (τ' := up2L τ k j x) hk ?_ ?_] at hP1
  · exact hP1
  · show _ = cE G (aent k (σ k) (va_up τ k (va_up (τ k) j x) k))
    rw [va_up_s, ha2]
    show Sum.inr (ci, (vs.map (cV G)).set j (cV G (.long x))) = Sum.inr (ci, (vs.set j (.long x)).map (cV G))
    rw [List.map_set]
  · intro i hi
    exact ⟨rfl, va_up_o _ _ hi⟩
theorem v_iald {k n : Nat} {f : Nat → Int32} {i : Int32} (hd : decode I.2.1 pc = .ok (.iaload, 1)) (hk : k < 105) (ha : aent k (σ k) (τ k) = aI n f) (hi : vp_in i n)
    (kk : VW G I Q d σ τ (pc + 1) ls (.int (f i.toNatClampNeg) :: st)) : VW G I Q d σ τ pc ls (.int i :: .ref k :: st) := by
  intro p e s m args below meth c H locs L C hP hS hL
  exact va_iald C.1 C.2.1 C.2.2.2.2.2.2.2.1 hP k 0 (pic_at hk ha) (gT0 G) hi hd (kk _ _ _ _ _ _ _ _ _ _ _ C hP hS hL)
/-- with the index in plain sight -/
theorem v_ialdN {k n j : Nat} {f : Nat → Int32} {i : Int32} (hj : i = nI j) (hjn : j < n) (hn : n < 2 ^ 31) (hd : decode I.2.1 pc = .ok (.iaload, 1)) (hk : k < 105) (ha : aent k (σ k) (τ k) = aI n f)
    (kk : VW G I Q d σ τ (pc + 1) ls (.int (f j) :: st)) : VW G I Q d σ τ pc ls (.int i :: .ref k :: st) := by
  subst hj
  refine v_iald hd hk ha (vp_in_nI hjn hn) ?_
  rw [nI_clamp (Nat.lt_trans hjn hn)]
  exact kk
theorem v_lald {k n : Nat} {f : Nat → Int64} {i : Int32} (hd : decode I.2.1 pc = .ok (.laload, 1)) (hk : k < 105) (ha : aent k (σ k) (τ k) = aJ n f) (hi : vp_in i n)
    (kk : VW G I Q d σ τ (pc + 1) ls (.long (f i.toNatClampNeg) :: st)) : VW G I Q d σ τ pc ls (.int i :: .ref k :: st) := by
  intro p e s m args below meth c H locs L C hP hS hL
  exact va_lald C.1 C.2.1 C.2.2.2.2.2.2.2.1 hP k 1 (pic_at hk ha) (gT1 G) hi hd (kk _ _ _ _ _ _ _ _ _ _ _ C hP hS hL)
theorem v_laldN {k n j : Nat} {f : Nat → Int64} {i : Int32} (hj : i = nI j) (hjn : j < n) (hn : n < 2 ^ 31) (hd : decode I.2.1 pc = .ok (.laload, 1)) (hk : k < 105) (ha : aent k (σ k) (τ k) = aJ n f)
    (kk : VW G I Q d σ τ (pc + 1) ls (.long (f j) :: st)) : VW G I Q d σ τ pc ls (.int i :: .ref k :: st) := by
  subst hj
  refine v_lald hd hk ha (vp_in_nI hjn hn) ?_
  rw [nI_clamp (Nat.lt_trans hjn hn)]
  exact kk
theorem v_iast {k n : Nat} {i x : Int32} (hd : decode I.2.1 pc = .ok (.iastore, 1)) (hk : k < 105) (ha : ∀ f, aent k f (τ k) = aI n f) (hi : vp_in i n)
    (kk : VW G I Q d (up2 σ k i.toNatClampNeg x) τ (pc + 1) ls st) : VW G I Q d σ τ pc ls (.int x :: .int i :: .ref k :: st) := by
  intro p e s m args below meth c H locs L C hP hS hL
  obtain ⟨hx, hb, hr, hml, hts, hown, hlocks, hK, hRo, hI⟩ := id C
  refine va_iast hx hb hK hP (pic_D hI σ τ) hS k 0 (pic_at hk (ha _)) (gT0 G) hi hd (fun H1 locs1 hP1 hD1 hS1 => ?_)
  refine kk _ _ _ _ _ _ _ _ _ _ _ C ?_ hS1 hL
  rw [pic_set (σ' := up2 σ k i.toNatClampNeg x) (τ' := τ) hk ?_ ?_] at hP1
  · exact hP1
  · show _ = cE G (aent k (va_up σ k (va_up (σ k) i.toNatClampNeg x) k) (τ k))
    rw [va_up_s, ha]
    rfl
  · intro j hj
    exact ⟨va_up_o _ _ hj, rfl⟩
theorem v_iastN {k n j : Nat} {i x : Int32} (hj : i = nI j) (hjn : j < n) (hn : n < 2 ^ 31) (hd : decode I.2.1 pc = .ok (.iastore, 1)) (hk : k < 105) (ha : ∀ f, aent k f (τ k) = aI n f)
    (kk : VW G I Q d (up2 σ k j x) τ (pc + 1) ls st) : VW G I Q d σ τ pc ls (.int x :: .int i :: .ref k :: st) := by
  subst hj
  refine v_iast hd hk ha (vp_in_nI hjn hn) ?_
  rw [nI_clamp (Nat.lt_trans hjn hn)]
  exact kk
theorem v_last {k n : Nat} {i : Int32} {x : Int64} (hd : decode I.2.1 pc = .ok (.lastore, 1)) (hk : k < 105) (ha : ∀ g, aent k (σ k) g = aJ n g) (hi : vp_in i n)
    (kk : VW G I Q d σ (up2L τ k i.toNatClampNeg x) (pc + 1) ls st) : VW G I Q d σ τ pc ls (.long x :: .int i :: .ref k :: st) := by
  intro p e s m args below meth c H locs L C hP hS hL
  obtain ⟨hx, hb, hr, hml, hts, hown, hlocks, hK, hRo, hI⟩ := id C
  refine va_last hx hb hK hP (pic_D hI σ τ) hS k 1 (pic_at hk (ha _)) (gT1 G) hi hd (fun H1 locs1 hP1 hD1 hS1 => ?_)
  refine kk _ _ _ _ _ _ _ _ _ _ _ C ?_ hS1 hL
  rw [pic_set (σ' := σ) (τ' := up2L τ k i.toNatClampNeg x) hk ?_ ?_] at hP1
  · exact hP1
  · show _ = cE G (aent k (σ k) (va_up τ k (va_up (τ k) i.toNatClampNeg x) k))
    rw [va_up_s, ha]
    rfl
  · intro j hj
    exact ⟨rfl, va_up_o _ _ hj⟩
theorem v_lastN {k n j : Nat} {i : Int32} {x : Int64} (hj : i = nI j) (hjn : j < n) (hn : n < 2 ^ 31) (hd : decode I.2.1 pc = .ok (.lastore, 1)) (hk : k < 105) (ha : ∀ g, aent k (σ k) g = aJ n g)
    (kk : VW G I Q d σ (up2L τ k j x) (pc + 1) ls st) : VW G I Q d σ τ pc ls (.long x :: .int i :: .ref k :: st) := by
  subst hj
  refine v_last hd hk ha (vp_in_nI hjn hn) ?_
  rw [nI_clamp (Nat.lt_trans hjn hn)]
  exact kk
theorem v_alenI {k n : Nat} {f : Nat → Int32} (hd : decode I.2.1 pc = .ok (.arraylength, 1)) (hk : k < 105) (ha : aent k (σ k) (τ k) = aI n f)
    (kk : VW G I Q d σ τ (pc + 1) ls (.int (nI n) :: st)) : VW G I Q d σ τ pc ls (.ref k :: st) := by
  intro p e s m args below meth c H locs L C hP hS hL
  exact va_alen C.1 C.2.1 C.2.2.2.2.2.2.2.1 hP k 0 (pic_at hk ha) (gT0 G) rfl hd (kk _ _ _ _ _ _ _ _ _ _ _ C hP hS hL)
theorem v_alenJ {k n : Nat} {f : Nat → Int64} (hd : decode I.2.1 pc = .ok (.arraylength, 1)) (hk : k < 105) (ha : aent k (σ k) (τ k) = aJ n f)
    (kk : VW G I Q d σ τ (pc + 1) ls (.int (nI n) :: st)) : VW G I Q d σ τ pc ls (.ref k :: st) := by
  intro p e s m args below meth c H locs L C hP hS hL
  exact va_alen C.1 C.2.1 C.2.2.2.2.2.2.2.1 hP k 1 (pic_at hk ha) (gT1 G) rfl hd (kk _ _ _ _ _ _ _ _ _ _ _ C hP hS hL)
theorem v_alenQ {k n : Nat} {f : Nat → Option Nat} (hd : decode I.2.1 pc = .ok (.arraylength, 1)) (hk : k < 105) (ha : aent k (σ k) (τ k) = aQ 0 n f)
    (kk : VW G I Q d σ τ (pc + 1) ls (.int (nI n) :: st)) : VW G I Q d σ τ pc ls (.ref k :: st) := by
  intro p e s m args below meth c H locs L C hP hS hL
  exact va_alen C.1 C.2.1 C.2.2.2.2.2.2.2.1 hP k 2 (pic_at hk ha) (gT2 G) rfl hd (kk _ _ _ _ _ _ _ _ _ _ _ C hP hS hL)
theorem v_aald {k t n j q : Nat} {f : Nat → Option Nat} {i : Int32} (ht : t < 2) (hj : i = nI j) (hjn : j < n) (hn : n < 2 ^ 31) (hf : f j = some q) (hd : decode I.2.1 pc = .ok (.aaload, 1)) (hk : k < 105) (ha : aent k (σ k) (τ k) = aQ t n f)
    (kk : VW G I Q d σ τ (pc + 1) ls (.ref q :: st)) : VW G I Q d σ τ pc ls (.int i :: .ref k :: st) := by
  subst hj
  intro p e s m args below meth c H locs L C hP hS hL
  have hq : va_rf ((fun j => (f j).map G.2.2.2) (nI j).toNatClampNeg) = .ref (G.2.2.2 q) := by
    rw [nI_clamp (Nat.lt_trans hjn hn)]
    show va_rf ((f j).map G.2.2.2) = _
    rw [hf]; rfl
  have kk2 := kk p e s m args below meth c H locs L C hP hS hL
  rcases (show t = 0 ∨ t = 1 by omega) with rfl | rfl
  · refine va_aldq (C := RX5) C.1 C.2.1 C.2.2.2.2.2.2.2.1 hP k 2 (pic_at hk ha) (gT2 G) (vp_in_nI hjn hn) hd ?_
    rw [hq]
    exact kk2
  · refine va_aldq (C := RJ0) C.1 C.2.1 C.2.2.2.2.2.2.2.1 hP k 3 (pic_at hk ha) (gT3 G) (vp_in_nI hjn hn) hd ?_
    rw [hq]
    exact kk2
/-- a static table comes to the stack -/
theorem v_gets {idx i : Nat} (hi : i < 5) (hw : Cond.fieldLink I.1.cls idx RX9 (sNm i) "[I" ∈ W0) (hd : decode I.2.1 pc = .ok (.getstatic idx, 3))
    (kk : VW G I Q d σ τ (pc + 3) ls (.ref (1000 + i) :: st)) : VW G I Q d σ τ pc ls st := by
  intro p e s m args below meth c H locs L C hP hS hL
  obtain ⟨hx, hb, hr, hml, hts, hown, hlocks, hK, hRo, hI⟩ := id C
  exact va_gets hx hb (hRo.1 i hi).1 hS hown (hts _ hw) (fun x h => h) hd (kk _ _ _ _ _ _ _ _ _ _ _ C hP hS hL)
theorem v_getsN {idx i : Nat} {host : String} (hi : i < 5) (hw : Cond.fieldLinkNest I.1.cls idx RX9 (sNm i) "[I" host ∈ Wn) (hd : decode I.2.1 pc = .ok (.getstatic idx, 3))
    (kk : VW G I Q d σ τ (pc + 3) ls (.ref (1000 + i) :: st)) : VW G I Q d σ τ pc ls st := by
  intro p e s m args below meth c H locs L C hP hS hL
  obtain ⟨hx, hb, hr, hml, hts, hown, hlocks, hK, hRo, hI⟩ := id C
  exact va_getsN hx hb (hRo.1 i hi).1 hS hown (va_Nw.use rfl (hRo.2.2.2.2.2 _ hw)) (fun x h => h) hd (kk _ _ _ _ _ _ _ _ _ _ _ C hP hS hL)
/-- a number of a static table -/
theorem v_tabld {i j : Nat} {x : Int32} (hi : i < 5) (hj : x = nI j) (hjn : j < (sTb i).length) (hn : (sTb i).length < 2 ^ 31) (hd : decode I.2.1 pc = .ok (.iaload, 1))
    (kk : VW G I Q d σ τ (pc + 1) ls (.int ((sTb i).getD j 0) :: st)) : VW G I Q d σ τ pc ls (.int x :: .ref (1000 + i) :: st) := by
  subst hj
  intro p e s m args below meth c H locs L C hP hS hL
  obtain ⟨hx, hb, hr, hml, hts, hown, hlocks, hK, hRo, hI⟩ := id C
  refine va_ti hx hb (hRo.1 i hi).2 hS (vp_in_nI hjn hn) (v := .int ((sTb i).getD j 0)) ?_ hd (kk _ _ _ _ _ _ _ _ _ _ _ C hP hS hL)
  rw [nI_clamp (Nat.lt_trans hjn hn)]
theorem v_tablen {i : Nat} (hi : i < 5) (hd : decode I.2.1 pc = .ok (.arraylength, 1))
    (kk : VW G I Q d σ τ (pc + 1) ls (.int (nI (sTb i).length) :: st)) : VW G I Q d σ τ pc ls (.ref (1000 + i) :: st) := by
  intro p e s m args below meth c H locs L C hP hS hL
  obtain ⟨hx, hb, hr, hml, hts, hown, hlocks, hK, hRo, hI⟩ := id C
  exact va_tlen hx hb (hRo.1 i hi).2 hS rfl hd (kk _ _ _ _ _ _ _ _ _ _ _ C hP hS hL)
/-- the ends -/
theorem v_end {o : Outcome} {v : Option Value} {p : Program} {s : State} {m : MethodId} {args : Array Value} {meth : Method} {c : Code} {H : Heap} {locs : List Loc} (C : Ctx G p s m args meth c I) (hP : va_P G.2.1 vwCl (pic G σ τ) H) (hS : va_S (Reg G) s.heap H locs) (hq : Q v σ τ) (ho : o = .returned (v.map (cV G))) (t : State) (ht : t.heap = H) : QcA G Q args s o t :=
  ⟨v, σ, τ, ho, hq, by rw [ht]; exact hP, hS.F ht⟩
theorem v_iret {x : Int32} (hr : I.2.2.2 = some .int) (hd : decode I.2.1 pc = .ok (.ireturn, 1)) (hq : Q (some (.int x)) σ τ) : VW G I Q d σ τ pc ls [.int x] := by
  intro p e s m args below meth c H locs L C hP hS hL
  exact W.iret C.1 C.2.1 (C.2.2.1.trans hr) (fun t ht _ => v_end C hP hS hq rfl t ht) hS.2.2 hd C.2.2.2.2.2.2.1
theorem v_zret {x : Int32} {ty : FieldType} (hr : I.2.2.2 = some ty) (hn : narrow ty (.int x) = .int x) (hd : decode I.2.1 pc = .ok (.ireturn, 1)) (hq : Q (some (.int x)) σ τ) : VW G I Q d σ τ pc ls [.int x] := by
  intro p e s m args below meth c H locs L C hP hS hL
  exact W.zret C.1 C.2.1 (C.2.2.1.trans hr) hn (fun t ht _ => v_end C hP hS hq rfl t ht) hS.2.2 hd C.2.2.2.2.2.2.1
theorem v_lret {x : Int64} (hr : I.2.2.2 = some .long) (hd : decode I.2.1 pc = .ok (.lreturn, 1)) (hq : Q (some (.long x)) σ τ) : VW G I Q d σ τ pc ls [.long x] := by
  intro p e s m args below meth c H locs L C hP hS hL
  exact W.lret C.1 C.2.1 (C.2.2.1.trans hr) (fun t ht _ => v_end C hP hS hq rfl t ht) hS.2.2 hd C.2.2.2.2.2.2.1
theorem v_vret (hr : I.2.2.2 = none) (hd : decode I.2.1 pc = .ok (.return_, 1)) (hq : Q none σ τ) : VW G I Q d σ τ pc ls [] := by
  intro p e s m args below meth c H locs L C hP hS hL
  exact W.vret C.1 C.2.1 (C.2.2.1.trans hr) (fun t ht _ => v_end C hP hS hq rfl t ht) hS.2.2 hd C.2.2.2.2.2.2.1
theorem v_aret {x : Nat} {rt : FieldType} (hr : I.2.2.2 = some rt) (hrt : (∃ n, rt = .object n) ∨ ∃ t, rt = .array t) (hd : decode I.2.1 pc = .ok (.areturn, 1)) (hq : Q (some (.ref x)) σ τ) : VW G I Q d σ τ pc ls [.ref x] := by
  intro p e s m args below meth c H locs L C hP hS hL
  exact W.aret C.1 C.2.1 (C.2.2.1.trans hr) hrt (Or.inr ⟨_, rfl⟩) (fun t ht _ => v_end C hP hS hq rfl t ht) hS.2.2 hd C.2.2.2.2.2.2.1
theorem v_aretN {rt : FieldType} (hr : I.2.2.2 = some rt) (hrt : (∃ n, rt = .object n) ∨ ∃ t, rt = .array t) (hd : decode I.2.1 pc = .ok (.areturn, 1)) (hq : Q (some .null) σ τ) : VW G I Q d σ τ pc ls [.null] := by
  intro p e s m args below meth c H locs L C hP hS hL
  exact W.aret C.1 C.2.1 (C.2.2.1.trans hr) hrt (Or.inl rfl) (fun t ht _ => v_end C hP hS hq rfl t ht) hS.2.2 hd C.2.2.2.2.2.2.1
/-- Math -/
theorem v_max {idx : Nat} {x y : Int32} (hw : Cond.methodLink I.1.cls idx Lib.Math.max.name ∈ W0) (hd : decode I.2.1 pc = .ok (.invokestatic idx, 3)) (h1 : 1 ≤ d) (hs : (st.map fun v => v.category).sum ≤ 8)
    (kk : VW G I Q d σ τ (pc + 3) ls (.int (if x < y then y else x) :: st)) : VW G I Q d σ τ pc ls (.int y :: .int x :: st) := by
  intro p e s m args below meth c H locs L C hP hS hL
  obtain ⟨hx, hb, hr, hml, hts, hown, hlocks, hK, hRo, hI⟩ := id C
  exact va_mmax hx hb (hml.trans hL.1.symm) hown (hts _ hw) (hts _ wm_Lib_Math_max_name.1) (hts _ wm_Lib_Math_max_name.2.1) (hts _ wm_Lib_Math_max_name.2.2) h1 (by rw [cV_cats]; show _ ≤ 64 * d; omega) (Nat.le_refl _) (Nat.le_refl _) hd (kk _ _ _ _ _ _ _ _ _ _ _ C hP hS hL)
theorem v_min {idx : Nat} {x y : Int32} (hw : Cond.methodLink I.1.cls idx Lib.Math.min.name ∈ W0) (hd : decode I.2.1 pc = .ok (.invokestatic idx, 3)) (h1 : 1 ≤ d) (hs : (st.map fun v => v.category).sum ≤ 8)
    (kk : VW G I Q d σ τ (pc + 3) ls (.int (if y < x then y else x) :: st)) : VW G I Q d σ τ pc ls (.int y :: .int x :: st) := by
  intro p e s m args below meth c H locs L C hP hS hL
  obtain ⟨hx, hb, hr, hml, hts, hown, hlocks, hK, hRo, hI⟩ := id C
  exact va_mmin hx hb (hml.trans hL.1.symm) hown (hts _ hw) (hts _ wm_Lib_Math_min_name.1) (hts _ wm_Lib_Math_min_name.2.1) (hts _ wm_Lib_Math_min_name.2.2) h1 (by rw [cV_cats]; show _ ≤ 64 * d; omega) (Nat.le_refl _) (Nat.le_refl _) hd (kk _ _ _ _ _ _ _ _ _ _ _ C hP hS hL)
theorem v_abs {idx : Nat} {x : Int32} (hw : Cond.methodLink I.1.cls idx Lib.Math.abs.name ∈ W0) (hd : decode I.2.1 pc = .ok (.invokestatic idx, 3)) (h1 : 1 ≤ d) (hs : (st.map fun v => v.category).sum ≤ 8)
    (kk : VW G I Q d σ τ (pc + 3) ls (.int (if 0 ≤ x then x else 0 - x) :: st)) : VW G I Q d σ τ pc ls (.int x :: st) := by
  intro p e s m args below meth c H locs L C hP hS hL
  obtain ⟨hx, hb, hr, hml, hts, hown, hlocks, hK, hRo, hI⟩ := id C
  exact va_mabs hx hb (hml.trans hL.1.symm) hown (hts _ hw) (hts _ wm_Lib_Math_abs_name.1) (hts _ wm_Lib_Math_abs_name.2.1) (hts _ wm_Lib_Math_abs_name.2.2) h1 (by rw [cV_cats]; show _ ≤ 64 * d; omega) (Nat.le_refl _) (Nat.le_refl _) hd (kk _ _ _ _ _ _ _ _ _ _ _ C hP hS hL)
theorem v_minL {idx : Nat} {x y : Int64} (hw : Cond.methodLink I.1.cls idx Lib.MathLoose.min_long.x ∈ W0) (hd : decode I.2.1 pc = .ok (.invokestatic idx, 3)) (h1 : 1 ≤ d) (hs : (st.map fun v => v.category).sum ≤ 8)
    (kk : VW G I Q d σ τ (pc + 3) ls (.long (if y < x then y else x) :: st)) : VW G I Q d σ τ pc ls (.long y :: .long x :: st) := by
  intro p e s m args below meth c H locs L C hP hS hL
  obtain ⟨hx, hb, hr, hml, hts, hown, hlocks, hK, hRo, hI⟩ := id C
  exact va_mmin_long hx hb (hml.trans hL.1.symm) hown (hts _ hw) (hts _ wm_Lib_MathLoose_min_long_x.1) (hts _ wm_Lib_MathLoose_min_long_x.2.1) (hts _ wm_Lib_MathLoose_min_long_x.2.2) h1 (by rw [cV_cats]; show _ ≤ 64 * d; omega) (Nat.le_refl _) (Nat.le_refl _) hd (kk _ _ _ _ _ _ _ _ _ _ _ C hP hS hL)
theorem v_absL {idx : Nat} {x : Int64} (hw : Cond.methodLink I.1.cls idx Lib.MathLoose.abs_long.x ∈ W0) (hd : decode I.2.1 pc = .ok (.invokestatic idx, 3)) (h1 : 1 ≤ d) (hs : (st.map fun v => v.category).sum ≤ 8)
    (kk : VW G I Q d σ τ (pc + 3) ls (.long (if 0 < x then x else -x) :: st)) : VW G I Q d σ τ pc ls (.long x :: st) := by
  intro p e s m args below meth c H locs L C hP hS hL
  obtain ⟨hx, hb, hr, hml, hts, hown, hlocks, hK, hRo, hI⟩ := id C
  exact va_mabs_long hx hb (hml.trans hL.1.symm) hown (hts _ hw) (hts _ wm_Lib_MathLoose_abs_long_x.1) (hts _ wm_Lib_MathLoose_abs_long_x.2.1) (hts _ wm_Lib_MathLoose_abs_long_x.2.2) h1 (by rw [cV_cats]; show _ ≤ 64 * d; omega) (Nat.le_refl _) (Nat.le_refl _) hd (kk _ _ _ _ _ _ _ _ _ _ _ C hP hS hL)
/-- calls -/
theorem ms_blind (G : fGm) (av : List Value) (σ : fSt) (τ : fLt) : FrameBlind (va_Pc (av.map (cV G)) (fun U => va_P G.2.1 vwCl (pic G σ τ) U.heap ∧ va_K G.2.1 vwCl (gT G) U ∧ Ro G U ∧ Ij G)) := by
  intro a U g mk h
  obtain ⟨h1, h2, h3, h4, h5⟩ := h
  exact ⟨h1, h2, va_K.moved (u := U) (U := U.calling g mk a) (Vm.Alike.refl U.vm) h3, Ro.warm (s := U) (U := U.calling g mk a) (State.WarmedH.refl U) (fun _ _ _ => rfl) h4, h5⟩
end VWHEAP
