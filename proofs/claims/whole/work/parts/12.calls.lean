section VWCALL
variable {G : fGm} {I : fMI} {Q : Option Value → fSt → fLt → Prop} {d : Nat} {σ : fSt} {τ : fLt} {pc : Nat} {ls : List (Nat × Value)} {st : List Value}
theorem v_go {Q' : Option Value → fSt → fLt → Prop} {p : Program} {e : Env} {s : State} {m : MethodId} {args a : Array Value} {below : List Frame} {meth : Method} {c : Code} {H : Heap} {locs : List Loc} {L : Array Slot} {stc : List Value}
    (C : Ctx G p s m args meth c I) (hS : va_S (Reg G) s.heap H locs) (hL : lv_has L I.2.2.1 (cL G ls))
    (run : va_Run p G.1 e (rmD d) s m args below meth c H locs 0 0 0 0 (F0 m pc L stc) (st.map (cV G)) (QcA G Q' a) (Reg G))
    (kk : ∀ v σ' τ', Q' v σ' τ' → VW G I Q d σ' τ' (pc + 3) ls (v.toList ++ st)) : W p G.1 e (rmD d) s m args below meth c H locs 0 0 (MQ below (QcA G Q) args s 0 0 (Reg G)) (F0 m pc L stc) := by
  intro T hT X
  obtain ⟨v, st₀, t, T', L', h0, X', hL', e1, e2, ⟨⟨v', σ', τ', hv, hq, hp, hz, hk⟩, stp⟩⟩ := run T hT X
  rw [h0] at hz hk
  have hv : v = v'.map (cV G) := by injection hv
  subst hv
  have hS' : va_S (Reg G) s.heap T'.heap (locs ++ L') := ⟨Nat.le_trans hS.1 (by rw [e1]; exact hz), fun q h1 h2 => by
      rw [e1, hk q (Nat.lt_of_lt_of_le h1 hS.1) h2]; exact hS.2.1 q h1 h2, fun q hq => by
      rcases List.mem_append.mp hq with h | h
      · exact hS.2.2 q h
      · exact hL' q h⟩
  have kk1 := kk v' σ' τ' hq p e s m args below meth c _ _ L C (by rw [e1]; exact hp) hS' hL
  obtain ⟨t2, a1, b1⟩ := kk1 T' rfl X'
  refine ⟨t2, stp t2 ?_, b1⟩
  have hst : (v'.map (cV G)).toList ++ st.map (cV G) = (v'.toList ++ st).map (cV G) := by
    cases v' <;> rfl
  rw [hst]
  exact a1
theorem ms_good {I' : fMI} (h : Cond.code I'.1 I'.2.1 I'.2.2.1 I'.2.2.2 ∈ W0) : GoodIn W0 (Cond.code I'.1 I'.2.1 I'.2.2.1 I'.2.2.2 :: W0) := fun w hw => by
  rcases List.mem_cons.mp hw with e | e
  · rw [e]; exact W0_good _ h
  · exact W0_good w e
theorem v_callS {I' : fMI} {d' n idx : Nat} {As st0 : List Value} {Q' : Option Value → fSt → fLt → Prop} (hlk : Lk I.1.cls idx I'.1) (hc : CalS I' n) (hd : decode I.2.1 pc = .ok (.invokestatic idx, 3)) (hm : MS G I' d' As σ τ Q')
    (hst : st0 = As.reverse ++ st) (hn : As.length = n) (hdd : d' + 1 ≤ d) (hnl : I'.2.2.1 ≤ 45) (hs : (st.map fun v => v.category).sum ≤ 8)
    (kk : ∀ v σ' τ', Q' v σ' τ' → VW G I Q d σ' τ' (pc + 3) ls (v.toList ++ st)) : VW G I Q d σ τ pc ls st0 := by
  subst hst
  intro p e s m args below meth c H locs L C hP hS hL
  obtain ⟨hx, hb, hr, hml, hts, hown, hlocks, hK, hRo, hI⟩ := id C
  obtain ⟨hc1, hc2, hc3, hc4⟩ := hc
  have hG := ms_good hc1
  have hpre : PreS s H (va_Pc (As.map (cV G)) (fun U => va_P G.2.1 vwCl (pic G σ τ) U.heap ∧ va_K G.2.1 vwCl (gT G) U ∧ Ro G U ∧ Ij G)) (As.map (cV G)) :=
    ⟨ms_blind G As σ τ, fun U hU hW => ⟨rfl, by rw [hU]; exact hP, va_K.moved hW.alike hK, Ro.warm hW (fun a h1 h2 => by rw [hU]; exact hS.2.1 a h1 h2) hRo, hI⟩⟩
  have hR : (rmD d').frames + 1 ≤ (rmD d).frames ∧ 8 + (I'.2.2.1 + 11) + (rmD d').locals ≤ (rmD d).locals := ⟨hdd, by show 8 + (I'.2.2.1 + 11) + 64 * d' ≤ 64 * d; omega⟩
  have hstk : (F0 m pc L ((As.reverse ++ st).map (cV G))).stack = (As.map (cV G)).reverse ++ st.map (cV G) := by
    show (As.reverse ++ st).map (cV G) = _
    rw [List.map_append, List.map_reverse]
  have hlen : (As.map (cV G)).length = n := by rw [List.length_map]; exact hn
  refine v_go C hS hL (a := (As.map (cV G)).toArray) ?_ kk
  rcases hlk with hlk | ⟨host, hlk⟩
  · exact va_runS (n := n) ⟨hx, hb, hml, hown, hts⟩ hm ⟨callB_of n hts hG rfl rfl rfl (hts _ hc2) (hts _ hlk) hc4 hR, hts _ hc3⟩ hpre rfl hlen hL.1 hstk (lv_room (by rw [cV_cats]; exact hs)) hd ⟨Nat.le_refl _, Nat.le_refl _⟩
  · exact va_runSN (n := n) ⟨hx, hb, hml, hown, hts⟩ hm ⟨va_cnB n hts hG rfl rfl rfl (hRo.2.2.2.2.2 _ hlk) (hts _ hc2) hc4 hR, hts _ hc3, trivial⟩ hpre rfl hlen hL.1 hstk (lv_room (by rw [cV_cats]; exact hs)) hd ⟨Nat.le_refl _, Nat.le_refl _⟩
theorem v_callV {I' : fMI} {d' n idx b ci : Nat} {As st0 vs : List Value} {Q' : Option Value → fSt → fLt → Prop} (hlk : Lk I.1.cls idx I'.1) (hc : CalV I' n) (hd : decode I.2.1 pc = .ok (.invokevirtual idx, 3)) (hm : MS G I' d' (.ref b :: As) σ τ Q')
    (hst : st0 = As.reverse ++ .ref b :: st) (hn : As.length = n) (hb9 : b < 105) (hab : aent b (σ b) (τ b) = aO ci vs) (hcl : (vwCl[ci]?).map (fun q => q.1) = some I'.1.cls) (hdd : d' + 1 ≤ d) (hnl : I'.2.2.1 ≤ 45) (hs : (st.map fun v => v.category).sum ≤ 8)
    (kk : ∀ v σ' τ', Q' v σ' τ' → VW G I Q d σ' τ' (pc + 3) ls (v.toList ++ st)) : VW G I Q d σ τ pc ls st0 := by
  subst hst
  intro p e s m args below meth c H locs L C hP hS hL
  obtain ⟨hx, hb, hr, hml, hts, hown, hlocks, hK, hRo, hI⟩ := id C
  obtain ⟨hc1, hc2, hc3, hc5, hc4⟩ := hc
  have hG := ms_good hc1
  have hrecv : ∃ cellB : Cell, H[G.2.2.2 b]? = some cellB ∧ cellB.vm.isStatics = false ∧ s.vm.findClass I'.1.cls = some cellB.cls := by
    cases hq : vwCl[ci]? with
    | none => rw [hq] at hcl; cases hcl
    | some q =>
      rw [hq] at hcl
      have hq1 : q.1 = I'.1.cls := Option.some.inj hcl
      rw [← hq1]
      exact va_recv hK hP hq (pic_at hb9 hab)
  have hpre : PreV s H I'.1.cls (G.2.2.2 b) (va_Pc ((Value.ref b :: As).map (cV G)) (fun U => va_P G.2.1 vwCl (pic G σ τ) U.heap ∧ va_K G.2.1 vwCl (gT G) U ∧ Ro G U ∧ Ij G)) (As.map (cV G)) :=
    ⟨ms_blind G _ σ τ, hrecv, fun U hU hW => ⟨rfl, by rw [hU]; exact hP, va_K.moved hW.alike hK, Ro.warm hW (fun a h1 h2 => by rw [hU]; exact hS.2.1 a h1 h2) hRo, hI⟩⟩
  have hR : (rmD d').frames + 1 ≤ (rmD d).frames ∧ 8 + (I'.2.2.1 + 11) + (rmD d').locals ≤ (rmD d).locals := ⟨hdd, by show 8 + (I'.2.2.1 + 11) + 64 * d' ≤ 64 * d; omega⟩
  have hstk : (F0 m pc L ((As.reverse ++ Value.ref b :: st).map (cV G))).stack = (As.map (cV G)).reverse ++ Value.ref (G.2.2.2 b) :: st.map (cV G) := by
    show (As.reverse ++ Value.ref b :: st).map (cV G) = _
    rw [List.map_append, List.map_reverse]
    rfl
  have hlen : (As.map (cV G)).length = n := by rw [List.length_map]; exact hn
  refine v_go C hS hL (a := (Value.ref (G.2.2.2 b) :: As.map (cV G)).toArray) ?_ kk
  rcases hlk with hlk | ⟨host, hlk⟩
  · exact va_runV (n := n) ⟨hx, hb, hml, hown, hts⟩ hm ⟨callB_of n hts hG rfl rfl rfl (hts _ hc2) (hts _ hlk) hc4 hR, hts _ hc3, hts _ hc5⟩ hpre rfl hlen hL.1 hstk (lv_room (by rw [cV_cats]; exact hs)) hd ⟨Nat.le_refl _, Nat.le_refl _⟩
  · exact va_runVN (n := n) ⟨hx, hb, hml, hown, hts⟩ hm ⟨va_cnB n hts hG rfl rfl rfl (hRo.2.2.2.2.2 _ hlk) (hts _ hc2) hc4 hR, hts _ hc3, hts _ hc5⟩ hpre rfl hlen hL.1 hstk (lv_room (by rw [cV_cats]; exact hs)) hd ⟨Nat.le_refl _, Nat.le_refl _⟩
/-- calls of contracts with an exact end -/
theorem v_callSE {I' : fMI} {d' n idx : Nat} {As st0 : List Value} {v : Option Value} {σ1 : fSt} {τ1 : fLt} (hlk : Lk I.1.cls idx I'.1) (hc : CalS I' n) (hd : decode I.2.1 pc = .ok (.invokestatic idx, 3)) (hm : MS G I' d' As σ τ (rT v σ1 τ1))
    (hst : st0 = As.reverse ++ st) (hn : As.length = n) (hdd : d' + 1 ≤ d) (hnl : I'.2.2.1 ≤ 45) (hs : (st.map fun v => v.category).sum ≤ 8)
    (kk : VW G I Q d σ1 τ1 (pc + 3) ls (v.toList ++ st)) : VW G I Q d σ τ pc ls st0 :=
  v_callS hlk hc hd hm hst hn hdd hnl hs (fun _ _ _ h => by obtain ⟨rfl, rfl, rfl⟩ := h; exact kk)
theorem v_callVE {I' : fMI} {d' n idx b ci : Nat} {As st0 vs : List Value} {v : Option Value} {σ1 : fSt} {τ1 : fLt} (hlk : Lk I.1.cls idx I'.1) (hc : CalV I' n) (hd : decode I.2.1 pc = .ok (.invokevirtual idx, 3)) (hm : MS G I' d' (.ref b :: As) σ τ (rT v σ1 τ1))
    (hst : st0 = As.reverse ++ .ref b :: st) (hn : As.length = n) (hb9 : b < 105) (hab : aent b (σ b) (τ b) = aO ci vs) (hcl : (vwCl[ci]?).map (fun q => q.1) = some I'.1.cls) (hdd : d' + 1 ≤ d) (hnl : I'.2.2.1 ≤ 45) (hs : (st.map fun v => v.category).sum ≤ 8)
    (kk : VW G I Q d σ1 τ1 (pc + 3) ls (v.toList ++ st)) : VW G I Q d σ τ pc ls st0 :=
  v_callV hlk hc hd hm hst hn hb9 hab hcl hdd hnl hs (fun _ _ _ h => by obtain ⟨rfl, rfl, rfl⟩ := h; exact kk)
theorem v_callSi {I' : fMI} {d' n idx : Nat} {As st0 : List Value} {r : Int32} {σ1 : fSt} {τ1 : fLt} (hlk : Lk I.1.cls idx I'.1) (hc : CalS I' n) (hd : decode I.2.1 pc = .ok (.invokestatic idx, 3)) (hm : MS G I' d' As σ τ (rT (some (.int r)) σ1 τ1))
    (hst : st0 = As.reverse ++ st) (hn : As.length = n) (hdd : d' + 1 ≤ d) (hnl : I'.2.2.1 ≤ 45) (hs : (st.map fun v => v.category).sum ≤ 8)
    (kk : VW G I Q d σ1 τ1 (pc + 3) ls (.int r :: st)) : VW G I Q d σ τ pc ls st0 := v_callSE hlk hc hd hm hst hn hdd hnl hs kk
theorem v_callVi {I' : fMI} {d' n idx b ci : Nat} {As st0 vs : List Value} {r : Int32} {σ1 : fSt} {τ1 : fLt} (hlk : Lk I.1.cls idx I'.1) (hc : CalV I' n) (hd : decode I.2.1 pc = .ok (.invokevirtual idx, 3)) (hm : MS G I' d' (.ref b :: As) σ τ (rT (some (.int r)) σ1 τ1))
    (hst : st0 = As.reverse ++ .ref b :: st) (hn : As.length = n) (hb9 : b < 105) (hab : aent b (σ b) (τ b) = aO ci vs) (hcl : (vwCl[ci]?).map (fun q => q.1) = some I'.1.cls) (hdd : d' + 1 ≤ d) (hnl : I'.2.2.1 ≤ 45) (hs : (st.map fun v => v.category).sum ≤ 8)
    (kk : VW G I Q d σ1 τ1 (pc + 3) ls (.int r :: st)) : VW G I Q d σ τ pc ls st0 := v_callVE hlk hc hd hm hst hn hb9 hab hcl hdd hnl hs kk
theorem v_callSb {I' : fMI} {d' n idx : Nat} {As st0 : List Value} {r : Int32} {σ1 : fSt} {τ1 : fLt} (hlk : Lk I.1.cls idx I'.1) (hc : CalS I' n) (hd : decode I.2.1 pc = .ok (.invokestatic idx, 3)) (hm : MS G I' d' As σ τ (rT (some (.int r)) σ1 τ1))
    (hst : st0 = As.reverse ++ st) (hn : As.length = n) (hdd : d' + 1 ≤ d) (hnl : I'.2.2.1 ≤ 45) (hs : (st.map fun v => v.category).sum ≤ 8)
    (kk : VW G I Q d σ1 τ1 (pc + 3) ls (.int r :: st)) : VW G I Q d σ τ pc ls st0 := v_callSE hlk hc hd hm hst hn hdd hnl hs kk
theorem v_callVb {I' : fMI} {d' n idx b ci : Nat} {As st0 vs : List Value} {r : Int32} {σ1 : fSt} {τ1 : fLt} (hlk : Lk I.1.cls idx I'.1) (hc : CalV I' n) (hd : decode I.2.1 pc = .ok (.invokevirtual idx, 3)) (hm : MS G I' d' (.ref b :: As) σ τ (rT (some (.int r)) σ1 τ1))
    (hst : st0 = As.reverse ++ .ref b :: st) (hn : As.length = n) (hb9 : b < 105) (hab : aent b (σ b) (τ b) = aO ci vs) (hcl : (vwCl[ci]?).map (fun q => q.1) = some I'.1.cls) (hdd : d' + 1 ≤ d) (hnl : I'.2.2.1 ≤ 45) (hs : (st.map fun v => v.category).sum ≤ 8)
    (kk : VW G I Q d σ1 τ1 (pc + 3) ls (.int r :: st)) : VW G I Q d σ τ pc ls st0 := v_callVE hlk hc hd hm hst hn hb9 hab hcl hdd hnl hs kk
theorem v_callSl {I' : fMI} {d' n idx : Nat} {As st0 : List Value} {r : Int64} {σ1 : fSt} {τ1 : fLt} (hlk : Lk I.1.cls idx I'.1) (hc : CalS I' n) (hd : decode I.2.1 pc = .ok (.invokestatic idx, 3)) (hm : MS G I' d' As σ τ (rT (some (.long r)) σ1 τ1))
    (hst : st0 = As.reverse ++ st) (hn : As.length = n) (hdd : d' + 1 ≤ d) (hnl : I'.2.2.1 ≤ 45) (hs : (st.map fun v => v.category).sum ≤ 8)
    (kk : VW G I Q d σ1 τ1 (pc + 3) ls (.long r :: st)) : VW G I Q d σ τ pc ls st0 := v_callSE hlk hc hd hm hst hn hdd hnl hs kk
theorem v_callVl {I' : fMI} {d' n idx b ci : Nat} {As st0 vs : List Value} {r : Int64} {σ1 : fSt} {τ1 : fLt} (hlk : Lk I.1.cls idx I'.1) (hc : CalV I' n) (hd : decode I.2.1 pc = .ok (.invokevirtual idx, 3)) (hm : MS G I' d' (.ref b :: As) σ τ (rT (some (.long r)) σ1 τ1))
    (hst : st0 = As.reverse ++ .ref b :: st) (hn : As.length = n) (hb9 : b < 105) (hab : aent b (σ b) (τ b) = aO ci vs) (hcl : (vwCl[ci]?).map (fun q => q.1) = some I'.1.cls) (hdd : d' + 1 ≤ d) (hnl : I'.2.2.1 ≤ 45) (hs : (st.map fun v => v.category).sum ≤ 8)
    (kk : VW G I Q d σ1 τ1 (pc + 3) ls (.long r :: st)) : VW G I Q d σ τ pc ls st0 := v_callVE hlk hc hd hm hst hn hb9 hab hcl hdd hnl hs kk
theorem v_callSv {I' : fMI} {d' n idx : Nat} {As st0 : List Value}  {σ1 : fSt} {τ1 : fLt} (hlk : Lk I.1.cls idx I'.1) (hc : CalS I' n) (hd : decode I.2.1 pc = .ok (.invokestatic idx, 3)) (hm : MS G I' d' As σ τ (rT none σ1 τ1))
    (hst : st0 = As.reverse ++ st) (hn : As.length = n) (hdd : d' + 1 ≤ d) (hnl : I'.2.2.1 ≤ 45) (hs : (st.map fun v => v.category).sum ≤ 8)
    (kk : VW G I Q d σ1 τ1 (pc + 3) ls st) : VW G I Q d σ τ pc ls st0 := v_callSE hlk hc hd hm hst hn hdd hnl hs kk
theorem v_callVv {I' : fMI} {d' n idx b ci : Nat} {As st0 vs : List Value}  {σ1 : fSt} {τ1 : fLt} (hlk : Lk I.1.cls idx I'.1) (hc : CalV I' n) (hd : decode I.2.1 pc = .ok (.invokevirtual idx, 3)) (hm : MS G I' d' (.ref b :: As) σ τ (rT none σ1 τ1))
    (hst : st0 = As.reverse ++ .ref b :: st) (hn : As.length = n) (hb9 : b < 105) (hab : aent b (σ b) (τ b) = aO ci vs) (hcl : (vwCl[ci]?).map (fun q => q.1) = some I'.1.cls) (hdd : d' + 1 ≤ d) (hnl : I'.2.2.1 ≤ 45) (hs : (st.map fun v => v.category).sum ≤ 8)
    (kk : VW G I Q d σ1 τ1 (pc + 3) ls st) : VW G I Q d σ τ pc ls st0 := v_callVE hlk hc hd hm hst hn hb9 hab hcl hdd hnl hs kk
theorem v_callSr {I' : fMI} {d' n idx : Nat} {As st0 : List Value} {r : Nat} {σ1 : fSt} {τ1 : fLt} (hlk : Lk I.1.cls idx I'.1) (hc : CalS I' n) (hd : decode I.2.1 pc = .ok (.invokestatic idx, 3)) (hm : MS G I' d' As σ τ (rT (some (.ref r)) σ1 τ1))
    (hst : st0 = As.reverse ++ st) (hn : As.length = n) (hdd : d' + 1 ≤ d) (hnl : I'.2.2.1 ≤ 45) (hs : (st.map fun v => v.category).sum ≤ 8)
    (kk : VW G I Q d σ1 τ1 (pc + 3) ls (.ref r :: st)) : VW G I Q d σ τ pc ls st0 := v_callSE hlk hc hd hm hst hn hdd hnl hs kk
theorem v_callVr {I' : fMI} {d' n idx b ci : Nat} {As st0 vs : List Value} {r : Nat} {σ1 : fSt} {τ1 : fLt} (hlk : Lk I.1.cls idx I'.1) (hc : CalV I' n) (hd : decode I.2.1 pc = .ok (.invokevirtual idx, 3)) (hm : MS G I' d' (.ref b :: As) σ τ (rT (some (.ref r)) σ1 τ1))
    (hst : st0 = As.reverse ++ .ref b :: st) (hn : As.length = n) (hb9 : b < 105) (hab : aent b (σ b) (τ b) = aO ci vs) (hcl : (vwCl[ci]?).map (fun q => q.1) = some I'.1.cls) (hdd : d' + 1 ≤ d) (hnl : I'.2.2.1 ≤ 45) (hs : (st.map fun v => v.category).sum ≤ 8)
    (kk : VW G I Q d σ1 τ1 (pc + 3) ls (.ref r :: st)) : VW G I Q d σ τ pc ls st0 := v_callVE hlk hc hd hm hst hn hb9 hab hcl hdd hnl hs kk
theorem v_if_eqB {p : Prop} [Decidable p] {off : Int} {tgt : Nat} (hd : decode I.2.1 pc = .ok (.ifCond .eq off, 3)) (ht : (pc : Int) + off = (tgt : Int)) (kt : ¬ p → VW G I Q d σ τ tgt ls st) (kf : p → VW G I Q d σ τ (pc + 3) ls st) : VW G I Q d σ τ pc ls (.int (if p then 1 else 0) :: st) :=
  v_if_eq hd ht (fun h => kt (fun hp => by rw [if_pos hp] at h; exact absurd h (by decide))) (fun h => kf (Decidable.byContradiction fun hp => h (by rw [if_neg hp])))
theorem v_if_neB {p : Prop} [Decidable p] {off : Int} {tgt : Nat} (hd : decode I.2.1 pc = .ok (.ifCond .ne off, 3)) (ht : (pc : Int) + off = (tgt : Int)) (kt : p → VW G I Q d σ τ tgt ls st) (kf : ¬ p → VW G I Q d σ τ (pc + 3) ls st) : VW G I Q d σ τ pc ls (.int (if p then 1 else 0) :: st) :=
  v_if_ne hd ht (fun h => kt (Decidable.byContradiction fun hp => h (by rw [if_neg hp]))) (fun h => kf (fun hp => by rw [if_pos hp] at h; exact absurd h (by decide)))
theorem nar_b {p : Prop} [Decidable p] : narrow .boolean (.int (if p then 1 else 0)) = .int (if p then 1 else 0) := by split <;> rfl
theorem i32_eq {x : Int32} {v : Int32} {z : Int} (h : x = v) (hz : v.toInt = z) : x.toInt = z := by rw [h, hz]
theorem v_tabIn {dflt lo hi : Int} {offs : Array Int} {len tgt : Nat} {x v : Int32} {off : Int} (hd : decode I.2.1 pc = .ok (.tableswitch dflt lo hi offs, len)) (hx : x = v) (h1 : ¬ v.toInt < lo) (h2 : ¬ hi < v.toInt) (ho : offs[(v.toInt - lo).toNat]? = some off) (ht : (pc : Int) + off = (tgt : Int))
    (k : VW G I Q d σ τ tgt ls st) : VW G I Q d σ τ pc ls (.int x :: st) := by
  intro p e s m args below meth c H locs L C hP hS hL
  subst hx
  exact lv_tableIn C.1 C.2.1 hd h1 h2 ho ht (k _ _ _ _ _ _ _ _ _ _ _ C hP hS hL)
theorem v_tabOut {dflt lo hi : Int} {offs : Array Int} {len tgt : Nat} {x : Int32} (hd : decode I.2.1 pc = .ok (.tableswitch dflt lo hi offs, len)) (ht : (pc : Int) + dflt = (tgt : Int)) (h : x.toInt < lo ∨ hi < x.toInt)
    (k : VW G I Q d σ τ tgt ls st) : VW G I Q d σ τ pc ls (.int x :: st) := by
  intro p e s m args below meth c H locs L C hP hS hL
  exact lv_tableOut C.1 C.2.1 hd h ht (k _ _ _ _ _ _ _ _ _ _ _ C hP hS hL)
/-- the default, also of the table's own places that lead there: ok holds of the places that don't -/
theorem v_tabDef {dflt lo hi : Int} {offs : Array Int} {len tgt : Nat} {x : Int32} (hd : decode I.2.1 pc = .ok (.tableswitch dflt lo hi offs, len)) (ht : (pc : Int) + dflt = (tgt : Int)) (h : ∀ off, ¬ x.toInt < lo → ¬ hi < x.toInt → offs[(x.toInt - lo).toNat]? = some off → off = dflt) (hs : (hi - lo).toNat < offs.size)
    (k : VW G I Q d σ τ tgt ls st) : VW G I Q d σ τ pc ls (.int x :: st) := by
  by_cases h1 : x.toInt < lo
  · exact v_tabOut hd ht (Or.inl h1) k
  · by_cases h2 : hi < x.toInt
    · exact v_tabOut hd ht (Or.inr h2) k
    · have hl : (x.toInt - lo).toNat < offs.size := by omega
      have ho : offs[(x.toInt - lo).toNat]? = some offs[(x.toInt - lo).toNat] := Array.getElem?_eq_getElem hl
      have he := h _ h1 h2 ho
      exact v_tabIn hd rfl h1 h2 ho (by rw [he]; exact ht) k
theorem v_lookIn {dflt : Int} {ps : Array (Int × Int)} {len tgt : Nat} {x v : Int32} {off : Int} (hd : decode I.2.1 pc = .ok (.lookupswitch dflt ps, len)) (hx : x = v) (hp : (ps.toList.zip (ps.toList.drop 1)).all (fun (a, next) => a.1 < next.1) = true) (ho : Op.lookupswitch.offset ps.toList dflt v.toInt = off) (ht : (pc : Int) + off = (tgt : Int))
    (k : VW G I Q d σ τ tgt ls st) : VW G I Q d σ τ pc ls (.int x :: st) := by
  intro p e s m args below meth c H locs L C hP hS hL
  subst hx
  exact lv_lookup C.1 C.2.1 hd hp ho ht (k _ _ _ _ _ _ _ _ _ _ _ C hP hS hL)
theorem v_lookDef {dflt : Int} {ps : Array (Int × Int)} {len tgt : Nat} {x : Int32} (hd : decode I.2.1 pc = .ok (.lookupswitch dflt ps, len)) (hp : (ps.toList.zip (ps.toList.drop 1)).all (fun (a, next) => a.1 < next.1) = true) (ht : (pc : Int) + dflt = (tgt : Int)) (ho : Op.lookupswitch.offset ps.toList dflt x.toInt = dflt)
    (k : VW G I Q d σ τ tgt ls st) : VW G I Q d σ τ pc ls (.int x :: st) := by
  intro p e s m args below meth c H locs L C hP hS hL
  exact lv_lookup C.1 C.2.1 hd hp ho ht (k _ _ _ _ _ _ _ _ _ _ _ C hP hS hL)
/-- an end with a known answer, the cells as P says, the longs as they are -/
def rP (v : Option Value) (τ : fLt) (P : fSt → Prop) : Option Value → fSt → fLt → Prop := fun v' σ' τ' => v' = v ∧ τ' = τ ∧ P σ'
theorem v_callSiP {I' : fMI} {d' n idx : Nat} {As st0 : List Value} {r : Int32} {P : fSt → Prop} {τ1 : fLt} (hlk : Lk I.1.cls idx I'.1) (hc : CalS I' n) (hd : decode I.2.1 pc = .ok (.invokestatic idx, 3)) (hm : MS G I' d' As σ τ (rP (some (.int r)) τ1 P))
    (hst : st0 = As.reverse ++ st) (hn : As.length = n) (hdd : d' + 1 ≤ d) (hnl : I'.2.2.1 ≤ 45) (hs : (st.map fun v => v.category).sum ≤ 8)
    (kk : ∀ σ1, P σ1 → VW G I Q d σ1 τ1 (pc + 3) ls (.int r :: st)) : VW G I Q d σ τ pc ls st0 := v_callS hlk hc hd hm hst hn hdd hnl hs (fun _ _ _ h => by obtain ⟨rfl, rfl, h⟩ := h; exact kk _ h)
theorem v_callViP {I' : fMI} {d' n idx b ci : Nat} {As st0 vs : List Value} {r : Int32} {P : fSt → Prop} {τ1 : fLt} (hlk : Lk I.1.cls idx I'.1) (hc : CalV I' n) (hd : decode I.2.1 pc = .ok (.invokevirtual idx, 3)) (hm : MS G I' d' (.ref b :: As) σ τ (rP (some (.int r)) τ1 P))
    (hst : st0 = As.reverse ++ .ref b :: st) (hn : As.length = n) (hb9 : b < 105) (hab : aent b (σ b) (τ b) = aO ci vs) (hcl : (vwCl[ci]?).map (fun q => q.1) = some I'.1.cls) (hdd : d' + 1 ≤ d) (hnl : I'.2.2.1 ≤ 45) (hs : (st.map fun v => v.category).sum ≤ 8)
    (kk : ∀ σ1, P σ1 → VW G I Q d σ1 τ1 (pc + 3) ls (.int r :: st)) : VW G I Q d σ τ pc ls st0 := v_callV hlk hc hd hm hst hn hb9 hab hcl hdd hnl hs (fun _ _ _ h => by obtain ⟨rfl, rfl, h⟩ := h; exact kk _ h)
theorem v_callSbP {I' : fMI} {d' n idx : Nat} {As st0 : List Value} {r : Int32} {P : fSt → Prop} {τ1 : fLt} (hlk : Lk I.1.cls idx I'.1) (hc : CalS I' n) (hd : decode I.2.1 pc = .ok (.invokestatic idx, 3)) (hm : MS G I' d' As σ τ (rP (some (.int r)) τ1 P))
    (hst : st0 = As.reverse ++ st) (hn : As.length = n) (hdd : d' + 1 ≤ d) (hnl : I'.2.2.1 ≤ 45) (hs : (st.map fun v => v.category).sum ≤ 8)
    (kk : ∀ σ1, P σ1 → VW G I Q d σ1 τ1 (pc + 3) ls (.int r :: st)) : VW G I Q d σ τ pc ls st0 := v_callS hlk hc hd hm hst hn hdd hnl hs (fun _ _ _ h => by obtain ⟨rfl, rfl, h⟩ := h; exact kk _ h)
theorem v_callVbP {I' : fMI} {d' n idx b ci : Nat} {As st0 vs : List Value} {r : Int32} {P : fSt → Prop} {τ1 : fLt} (hlk : Lk I.1.cls idx I'.1) (hc : CalV I' n) (hd : decode I.2.1 pc = .ok (.invokevirtual idx, 3)) (hm : MS G I' d' (.ref b :: As) σ τ (rP (some (.int r)) τ1 P))
    (hst : st0 = As.reverse ++ .ref b :: st) (hn : As.length = n) (hb9 : b < 105) (hab : aent b (σ b) (τ b) = aO ci vs) (hcl : (vwCl[ci]?).map (fun q => q.1) = some I'.1.cls) (hdd : d' + 1 ≤ d) (hnl : I'.2.2.1 ≤ 45) (hs : (st.map fun v => v.category).sum ≤ 8)
    (kk : ∀ σ1, P σ1 → VW G I Q d σ1 τ1 (pc + 3) ls (.int r :: st)) : VW G I Q d σ τ pc ls st0 := v_callV hlk hc hd hm hst hn hb9 hab hcl hdd hnl hs (fun _ _ _ h => by obtain ⟨rfl, rfl, h⟩ := h; exact kk _ h)
theorem v_callSvP {I' : fMI} {d' n idx : Nat} {As st0 : List Value}  {P : fSt → Prop} {τ1 : fLt} (hlk : Lk I.1.cls idx I'.1) (hc : CalS I' n) (hd : decode I.2.1 pc = .ok (.invokestatic idx, 3)) (hm : MS G I' d' As σ τ (rP none τ1 P))
    (hst : st0 = As.reverse ++ st) (hn : As.length = n) (hdd : d' + 1 ≤ d) (hnl : I'.2.2.1 ≤ 45) (hs : (st.map fun v => v.category).sum ≤ 8)
    (kk : ∀ σ1, P σ1 → VW G I Q d σ1 τ1 (pc + 3) ls st) : VW G I Q d σ τ pc ls st0 := v_callS hlk hc hd hm hst hn hdd hnl hs (fun _ _ _ h => by obtain ⟨rfl, rfl, h⟩ := h; exact kk _ h)
theorem v_callVvP {I' : fMI} {d' n idx b ci : Nat} {As st0 vs : List Value}  {P : fSt → Prop} {τ1 : fLt} (hlk : Lk I.1.cls idx I'.1) (hc : CalV I' n) (hd : decode I.2.1 pc = .ok (.invokevirtual idx, 3)) (hm : MS G I' d' (.ref b :: As) σ τ (rP none τ1 P))
    (hst : st0 = As.reverse ++ .ref b :: st) (hn : As.length = n) (hb9 : b < 105) (hab : aent b (σ b) (τ b) = aO ci vs) (hcl : (vwCl[ci]?).map (fun q => q.1) = some I'.1.cls) (hdd : d' + 1 ≤ d) (hnl : I'.2.2.1 ≤ 45) (hs : (st.map fun v => v.category).sum ≤ 8)
    (kk : ∀ σ1, P σ1 → VW G I Q d σ1 τ1 (pc + 3) ls st) : VW G I Q d σ τ pc ls st0 := v_callV hlk hc hd hm hst hn hb9 hab hcl hdd hnl hs (fun _ _ _ h => by obtain ⟨rfl, rfl, h⟩ := h; exact kk _ h)
theorem v_callSrP {I' : fMI} {d' n idx : Nat} {As st0 : List Value} {r : Nat} {P : fSt → Prop} {τ1 : fLt} (hlk : Lk I.1.cls idx I'.1) (hc : CalS I' n) (hd : decode I.2.1 pc = .ok (.invokestatic idx, 3)) (hm : MS G I' d' As σ τ (rP (some (.ref r)) τ1 P))
    (hst : st0 = As.reverse ++ st) (hn : As.length = n) (hdd : d' + 1 ≤ d) (hnl : I'.2.2.1 ≤ 45) (hs : (st.map fun v => v.category).sum ≤ 8)
    (kk : ∀ σ1, P σ1 → VW G I Q d σ1 τ1 (pc + 3) ls (.ref r :: st)) : VW G I Q d σ τ pc ls st0 := v_callS hlk hc hd hm hst hn hdd hnl hs (fun _ _ _ h => by obtain ⟨rfl, rfl, h⟩ := h; exact kk _ h)
theorem v_callVrP {I' : fMI} {d' n idx b ci : Nat} {As st0 vs : List Value} {r : Nat} {P : fSt → Prop} {τ1 : fLt} (hlk : Lk I.1.cls idx I'.1) (hc : CalV I' n) (hd : decode I.2.1 pc = .ok (.invokevirtual idx, 3)) (hm : MS G I' d' (.ref b :: As) σ τ (rP (some (.ref r)) τ1 P))
    (hst : st0 = As.reverse ++ .ref b :: st) (hn : As.length = n) (hb9 : b < 105) (hab : aent b (σ b) (τ b) = aO ci vs) (hcl : (vwCl[ci]?).map (fun q => q.1) = some I'.1.cls) (hdd : d' + 1 ≤ d) (hnl : I'.2.2.1 ≤ 45) (hs : (st.map fun v => v.category).sum ≤ 8)
    (kk : ∀ σ1, P σ1 → VW G I Q d σ1 τ1 (pc + 3) ls (.ref r :: st)) : VW G I Q d σ τ pc ls st0 := v_callV hlk hc hd hm hst hn hb9 hab hcl hdd hnl hs (fun _ _ _ h => by obtain ⟨rfl, rfl, h⟩ := h; exact kk _ h)
theorem arrV_congr {cI : ClassId} {N : Nat} {f f2 : Nat → Value} (h : ∀ j, j < N → f j = f2 j) : arrV cI N f = arrV cI N f2 := by
  have e : (fun j : Fin N => f j.val) = fun j : Fin N => f2 j.val := funext fun j => h j.val j.isLt
  unfold arrV
  rw [e]
theorem va_at_ext {G : fGm} {en en2 : fAE} {a : Nat} {H : Heap} (h : va_at G.2.1 vwCl (a, cE G en) H) (he : en = en2 ∨ (∃ n f f2, en = aI n f ∧ en2 = aI n f2 ∧ ∀ j, j < n → f j = f2 j) ∨ ∃ n f f2, en = aJ n f ∧ en2 = aJ n f2 ∧ ∀ j, j < n → f j = f2 j) : va_at G.2.1 vwCl (a, cE G en2) H := by
  rcases he with rfl | ⟨n, f, f2, rfl, rfl, he⟩ | ⟨n, f, f2, rfl, rfl, he⟩
  · exact h
  · have e : vp_cell (G.2.2.1 0) (n, .inl f) = vp_cell (G.2.2.1 0) (n, .inl f2) := by
      rw [vp_cell_i, vp_cell_i]
      exact arrV_congr fun j hj => by rw [he j hj]
    exact Eq.trans (b := some (vp_cell (G.2.2.1 0) (n, .inl f))) h (by rw [e])
  · have e : vp_cell (G.2.2.1 1) (n, .inr (.inl f)) = vp_cell (G.2.2.1 1) (n, .inr (.inl f2)) := by
      rw [vp_cell_l, vp_cell_l]
      exact arrV_congr fun j hj => by rw [he j hj]
    exact Eq.trans (b := some (vp_cell (G.2.2.1 1) (n, .inr (.inl f)))) h (by rw [e])
/-- two numberings that no cell tells apart -/
theorem v_ext {σ2 : fSt} {τ2 : fLt} (h : ∀ k, k < 105 → aent k (σ k) (τ k) = aent k (σ2 k) (τ2 k) ∨ (∃ n f f2, aent k (σ k) (τ k) = aI n f ∧ aent k (σ2 k) (τ2 k) = aI n f2 ∧ ∀ j, j < n → f j = f2 j) ∨ ∃ n f f2, aent k (σ k) (τ k) = aJ n f ∧ aent k (σ2 k) (τ2 k) = aJ n f2 ∧ ∀ j, j < n → f j = f2 j)
    (kk : VW G I Q d σ2 τ2 pc ls st) : VW G I Q d σ τ pc ls st := by
  intro p e s m args below meth c H locs L C hP hS hL
  refine kk _ _ _ _ _ _ _ _ _ _ _ C (fun k q hk => ?_) hS hL
  have hl : k < 105 := by
    have := (List.getElem?_eq_some_iff.mp hk).1
    simpa [pic] using this
  rw [pic_get hl] at hk
  cases hk
  exact va_at_ext (hP k _ (pic_get hl)) (h k hl)
/-- a contract out of the walk -/
theorem ms_of {av : List Value} (hy : plainName I.1.cls = true) (hL : (lg_sl av).length ≤ I.2.2.1) (body : VW G I Q d σ τ 0 (lv_args 0 av) []) : MS G I d av σ τ Q := by
  refine Met.ofW (cc := I.2.1) (maxL := I.2.2.1) (ret := I.2.2.2) (ws' := W0) hy rfl ?_
  intro p e s m args below meth c s₁ B hml hv
  obtain ⟨rfl, hP, hK, hRo, hI⟩ := hv
  have hl := lv_entry (av.map (cV G)) (n := I.2.2.1) (by rw [lg_sl_len]; exact hL)
  rw [lg_entry_eq]
  rw [cL_args] at hl
  exact body _ _ _ _ _ _ _ _ _ _ _ ⟨B.exec, B.bytes, B.returns, hml, fun w hw => atoms_spec (ws := .code I.1 I.2.1 I.2.2.1 I.2.2.2 :: W0) B.pre w (List.mem_cons_of_mem _ hw), findClass_of_methodNamed B.named, B.notSynchronized, hK, hRo, hI⟩ hP va_S.rf hl
theorem v_extI {σ2 : fSt} {k0 n : Nat} (ha : ∀ f g, aent k0 f g = aI n f) (h0 : ∀ j, j < n → σ k0 j = σ2 k0 j) (h1 : ∀ k, k ≠ k0 → σ k = σ2 k)
    (kk : VW G I Q d σ2 τ pc ls st) : VW G I Q d σ τ pc ls st := by
  refine v_ext (fun k hk => ?_) kk
  by_cases e : k = k0
  · subst e
    exact Or.inr (Or.inl ⟨n, _, _, ha _ _, ha _ _, h0⟩)
  · rw [h1 k e]
    exact Or.inl rfl
theorem v_extJ {τ2 : fLt} {k0 n : Nat} (ha : ∀ f g, aent k0 f g = aJ n g) (h0 : ∀ j, j < n → τ k0 j = τ2 k0 j) (h1 : ∀ k, k ≠ k0 → τ k = τ2 k)
    (kk : VW G I Q d σ τ2 pc ls st) : VW G I Q d σ τ pc ls st := by
  refine v_ext (fun k hk => ?_) kk
  by_cases e : k = k0
  · subst e
    exact Or.inr (Or.inr ⟨n, _, _, ha _ _, ha _ _, h0⟩)
  · rw [h1 k e]
    exact Or.inl rfl
/-- a whole row of ints is copied into another -/
theorem v_copy {k1 k2 n idx : Nat} (hw : Cond.methodLink I.1.cls idx arraycopyName ∈ W0) (hd : decode I.2.1 pc = .ok (.invokestatic idx, 3)) (hk1 : k1 < 105) (hk2 : k2 < 105) (ha1 : ∀ f g, aent k1 f g = aI n f) (ha2 : ∀ f g, aent k2 f g = aI n f) (hn : n < 2 ^ 31) (h1 : 1 ≤ d) (hs : (st.map fun v => v.category).sum ≤ 8)
    (kk : VW G I Q d (va_up σ k2 (σ k1)) τ (pc + 3) ls st) : VW G I Q d σ τ pc ls (.int (nI n) :: .int 0 :: .ref k2 :: .int 0 :: .ref k1 :: st) := by
  have kk2 : VW G I Q d (va_up σ k2 (va_cpy (σ k1) (σ k2) 0 0 n)) τ (pc + 3) ls st := by
    refine v_extI ha2 (fun j hj => ?_) (fun k hk => ?_) kk
    · rw [va_up_s, va_up_s]
      show (if 0 ≤ j ∧ j < 0 + n then σ k1 (0 + (j - 0)) else σ k2 j) = σ k1 j
      rw [if_pos ⟨Nat.zero_le _, by omega⟩]
      congr 1
      omega
    · rw [va_up_o _ _ hk, va_up_o _ _ hk]
  intro p e s m args below meth c H locs L C hP hS hL
  obtain ⟨hx, hb, hr, hml, hts, hown, hlocks, hK, hRo, hI⟩ := id C
  have hnf : nativeFrameWords "java/lang/System" "arraycopy" 5 + 11 ≤ 50 := by decide +kernel
  have e0 : (0 : Int32).toNatClampNeg = 0 := rfl
  have en : (nI n).toNatClampNeg = n := nI_clamp hn
  refine va_copyi hx hb (hml.trans hL.1.symm) hown (hts _ hw) (hts _ wm_arraycopy.1) (hts _ wm_arraycopy.2.1) (hts _ wm_arraycopy.2.2) hK hP (pic_D hI σ τ) hS k1 k2 0 0 (ty := .int) (pic_at hk1 (ha1 _ _)) (pic_at hk2 (ha2 _ _)) (gT0 G) (gT0 G) rfl (sp := 0) (dp := 0) (n := nI n) (by decide) (by decide) (nI_pos hn) (by rw [e0, en]; omega) (by rw [e0, en]; omega) (fun i hi => rfl) h1 (by rw [cV_cats]; show _ ≤ 64 * d; omega) hd (fun H1 locs1 hP1 hD1 hS1 => ?_)
  refine kk2 _ _ _ _ _ _ _ _ _ _ _ C ?_ hS1 hL
  rw [e0, en] at hP1
  rw [pic_set (σ' := va_up σ k2 (va_cpy (σ k1) (σ k2) 0 0 n)) (τ' := τ) hk2 ?_ ?_] at hP1
  · exact hP1
  · show _ = cE G (aent k2 (va_up σ k2 _ k2) (τ k2))
    rw [va_up_s, ha2]
    rfl
  · intro i hi
    exact ⟨va_up_o _ _ hi, rfl⟩
end VWCALL
