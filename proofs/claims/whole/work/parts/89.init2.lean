section NWC
variable {G : fGm} {N0 : Nat} {A : Nat → Prop} {I : fMI} {Q : Option Value → va_W → Prop} {d mc ms : Nat} {ws : va_W} {kc ks pc : Nat} {ls : List (Nat × Value)} {st : List Value}
theorem n_blind (G : fGm) (N0 sz : Nat) (ws : va_W) (av : List Value) : FrameBlind (PreN G N0 sz ws av) := by
  intro a U g mk h
  obtain ⟨h1, h2, h3, h4, h5, h6, h7⟩ := h
  exact ⟨h1, h2, h3, va_K.moved (u := U) (U := U.calling g mk a) (Vm.Alike.refl U.vm) h4, RoN.warm (s := U) (U := U.calling g mk a) (State.WarmedH.refl U) (fun _ _ _ => rfl) h5, h6, h7⟩
theorem w_right {wr wc : va_W} {k : Nat} {q : Nat × va_E} (h : wc[k]? = some q) : (wr ++ wc)[wr.length + k]? = some q := by
  rw [List.getElem?_append_right (by omega)]
  simpa using h
theorem w_left {wr wc : va_W} {k : Nat} {q : Nat × va_E} (h : wr[k]? = some q) : (wr ++ wc)[k]? = some q := by
  rw [List.getElem?_append_left (List.getElem?_eq_some_iff.mp h).1]
  exact h
theorem n_go {Q' : Option Value → va_W → Prop} {mc' ms' : Nat} {wr wc : va_W} {p : Program} {e : Env} {s : State} {m : MethodId} {args a : Array Value} {below : List Frame} {meth : Method} {c : Code} {H : Heap} {locs : List Loc} {L : Array Slot} {stc : List Value}
    (C : NCtx G N0 p s m args meth c I) (hA : ∀ q, s.heap.size ≤ q → A q) (hN : ∀ q, A q → N0 ≤ q) (hP : va_P G.2.1 vwCl (wr ++ wc) H) (hD : va_D A (wr ++ wc)) (hS : va_S A s.heap H locs) (hL : lv_has L I.2.2.1 ls)
    (run : va_Run p G.1 e (rmN d mc ms) s m args below meth c H locs kc ks mc' ms' (F0 m pc L stc) st (QcN G (va_A wc H.size) Q' a) (va_A wc H.size))
    (kk : ∀ v w1, Q' v w1 → NW G N0 A I Q d mc ms (wr ++ w1) (kc + mc') (ks + ms') (pc + 3) ls (v.toList ++ st)) : W p G.1 e (rmN d mc ms) s m args below meth c H locs kc ks (MQ below (QcN G A Q) args s mc ms A) (F0 m pc L stc) := by
  intro T hT X
  obtain ⟨v, st₀, t, T', L', h0, X', hL', e1, e2, ⟨⟨v', w1, hv, hq, hP1, hD1, hz, hk⟩, stp⟩⟩ := run T hT X
  rw [h0] at hz hk
  have hv : v = v' := by injection hv
  subst hv
  have hAs : ∀ q, va_A wc H.size q → A q := by
    intro q h
    rcases h with ⟨k, e2, h⟩ | h
    · exact hD.2 _ _ (w_right h)
    · exact hA q (Nat.le_trans hS.1 h)
  have hkr : ∀ (k : Nat) (q : Nat × va_E), wr[k]? = some q → q.1 < H.size ∧ ¬ va_A wc H.size q.1 := by
    intro k q hq
    have hlt := (hP _ _ (w_left (wc := wc) hq)).lt
    refine ⟨hlt, fun h => ?_⟩
    rcases h with ⟨k2, e2, h⟩ | h
    · have := hD.1 _ _ _ _ (w_left (wc := wc) hq) (w_right (wr := wr) h) rfl
      have := (List.getElem?_eq_some_iff.mp hq).1
      omega
    · omega
  have hPr : va_P G.2.1 vwCl wr H := fun k q hq => hP k q (w_left hq)
  have hDr : va_D A wr := ⟨fun i j x y hi hj hxy => hD.1 i j x y (w_left hi) (w_left hj) hxy, fun k q hq => hD.2 k q (w_left hq)⟩
  have hP2 : va_P G.2.1 vwCl (wr ++ w1) T'.heap := by
    rw [e1]
    exact (hPr.kept (fun k q hq => hk q.1 (hkr k q hq).1 (hkr k q hq).2)).app hP1
  have hD2 : va_D A (wr ++ w1) := hDr.app (hD1.weaken (fun k q _ h => hAs _ h)) (fun i j x y hi hj hxy => (hkr i x hi).2 (by rw [hxy]; exact hD1.2 j y hj))
  have hS' : va_S A s.heap T'.heap (locs ++ L') := ⟨Nat.le_trans hS.1 (by rw [e1]; exact hz), fun q h1 h2 => by
      rw [e1, hk q (Nat.lt_of_lt_of_le h1 hS.1) (fun z => h2 (hAs q z))]; exact hS.2.1 q h1 h2, fun q hq => by
      rcases List.mem_append.mp hq with h | h
      · exact hS.2.2 q h
      · exact hAs _ (hL' q h)⟩
  obtain ⟨t2, a1, b1⟩ := kk v w1 hq p e s m args below meth c _ _ L C hA hN hP2 hD2 hS' hL T' rfl X'
  exact ⟨t2, stp t2 a1, b1⟩
theorem n_pre {wr wc : va_W} {av : List Value} {p : Program} {s : State} {m : MethodId} {args : Array Value} {meth : Method} {c : Code} {H : Heap} {locs : List Loc}
    (C : NCtx G N0 p s m args meth c I) (hN : ∀ q, A q → N0 ≤ q) (hP : va_P G.2.1 vwCl (wr ++ wc) H) (hD : va_D A (wr ++ wc)) (hS : va_S A s.heap H locs) :
    ∀ U : State, U.heap = H → s.WarmedH U.vm → PreN G N0 H.size wc av av.toArray U := by
  obtain ⟨hx, hb, hrt, hml, hts, hown, hlocks, hK, hRo, hN0, hnme⟩ := id C
  intro U hU hW
  refine ⟨rfl, by rw [hU], by rw [hU]; exact fun k q hq => hP _ q (w_right hq), va_K.moved hW.alike hK, RoN.warm hW (fun a h1 h2 => by rw [hU]; exact hS.2.1 a h1 (fun z => h2 (hN a z))) hRo, Nat.le_trans hN0 hS.1, ?_⟩
  exact ⟨fun i j x y hi hj hxy => by have := hD.1 _ _ x y (w_right (wr := wr) hi) (w_right (wr := wr) hj) hxy; omega, fun k q hq => hN _ (hD.2 _ q (w_right hq))⟩
/-- a constructor is called -/
theorem n_init {I' : fMI} {d' mc' ms' idx b : Nat} {e : va_E} {Q' : va_W → Prop} {wr : va_W} (hlk : Lk I.1.cls idx I'.1) (hc : CalI I' 0) (hr : I'.2.2.2 = none) (hd : decode I.2.1 pc = .ok (.invokespecial idx, 3)) (hm : NM G N0 I' d' mc' ms' b e Q') (hw : ws = wr ++ [(b, e)])
    (hdd : d' + 1 ≤ d) (hnl : I'.2.2.1 ≤ 45) (hs : (st.map fun v => v.category).sum ≤ 8) (hc1 : kc + mc' ≤ mc) (hs1 : ks + ms' ≤ ms)
    (kk : ∀ w1, Q' w1 → NW G N0 A I Q d mc ms (wr ++ w1) (kc + mc') (ks + ms') (pc + 3) ls st) : NW G N0 A I Q d mc ms ws kc ks pc ls (.ref b :: st) := by
  subst hw
  intro p e1 s m args below meth c H locs L C hA hN hP hD hS hL
  obtain ⟨hx, hb, hrt, hml, hts, hown, hlocks, hK, hRo, hN0, hnme⟩ := id C
  obtain ⟨hc1', hc2, hc3, hc5, hc4⟩ := hc
  have hG : GoodIn W0 (Cond.code I'.1 I'.2.1 I'.2.2.1 I'.2.2.2 :: W0) := ms_good (by rw [hr]; exact hc1')
  have hpre : PreS s H (PreN G N0 H.size [(b, e)] [.ref b]) [.ref b] := ⟨n_blind G N0 _ _ _, n_pre C hN hP hD hS⟩
  have hR : (rmN d' mc' ms').frames + 1 ≤ (rmN d mc ms).frames ∧ 8 + (I'.2.2.1 + 11) + (rmN d' mc' ms').locals ≤ (rmN d mc ms).locals := ⟨hdd, by show 8 + (I'.2.2.1 + 11) + 64 * d' ≤ 64 * d; omega⟩
  have hwd : (Cond.code I'.1 I'.2.1 I'.2.2.1 I'.2.2.2 :: W0) = Cond.code I'.1 I'.2.1 I'.2.2.1 none :: W0 := by rw [hr]
  refine n_go (Q' := fun v w1 => v = none ∧ Q' w1) (wc := [(b, e)]) (a := (Value.ref b :: []).toArray) C hA hN hP hD hS hL ?_ (fun v w1 hq => by obtain ⟨rfl, hq⟩ := hq; exact kk w1 hq)
  rcases hlk with hlk | ⟨host, hlk⟩
  · exact va_runI (n := 0) (As := []) ⟨hx, hb, hml, hown, hts⟩ (hm H.size) ⟨callB_of 0 hts hG hwd rfl rfl (hts _ hc2) (hts _ hlk) hc4 hR, hc5, hts _ hc3⟩ hpre rfl rfl hL.1 rfl (lv_room hs) hd ⟨hc1, hs1⟩
  · exact va_runIN (n := 0) (As := []) ⟨hx, hb, hml, hown, hts⟩ (hm H.size) ⟨va_cnB 0 hts hG hwd rfl rfl (hRo.2.2.2.2.2.2.2.1 _ hlk) (hts _ hc2) hc4 hR, hc5, hts _ hc3⟩ hpre rfl rfl hL.1 rfl (lv_room hs) hd ⟨hc1, hs1⟩
/-- a String's method is called: it answers an int -/
def NV (G : fGm) (N0 : Nat) (I : fMI) (d b : Nat) (r : Int32) : Prop := ∀ sz : Nat,
  Met G.1 I.1 (.code I.1 I.2.1 I.2.2.1 I.2.2.2 :: W0) (rmN d 0 0) (PreN G N0 sz [] [.ref b]) (QcN G (va_A [] sz) (fun v ws' => v = some (.int r) ∧ ws' = [])) 0 0 (va_A [] sz)
theorem nv_of {I : fMI} {b : Nat} {r : Int32} (hy : plainName I.1.cls = true) (hL : 1 ≤ I.2.2.1) (body : ∀ A, NW G N0 A I (fun v ws' => v = some (.int r) ∧ ws' = []) d 0 0 [] 0 0 0 [(0, .ref b)] []) : NV G N0 I d b r := by
  intro sz
  refine Met.ofW (cc := I.2.1) (maxL := I.2.2.1) (ret := I.2.2.2) (ws' := W0) hy rfl ?_
  intro p e1 s m args below meth c s₁ B hml hv
  obtain ⟨rfl, hsz, hP, hK, hRo, hN0, hD0⟩ := hv
  subst hsz
  have hl := lv_entry ([Value.ref b]) (n := I.2.2.1) (by exact hL)
  rw [lg_entry_eq]
  exact body _ _ _ _ _ _ _ _ _ _ _ _ ⟨B.exec, B.bytes, B.returns, hml, fun w hw => atoms_spec (ws := .code I.1 I.2.1 I.2.2.1 I.2.2.2 :: W0) B.pre w (List.mem_cons_of_mem _ hw), findClass_of_methodNamed B.named, B.notSynchronized, hK, hRo, hN0, (name_of_methodNamed B.named B.method).1⟩
    (fun q h => Or.inr h) (fun q h => by
      rcases h with ⟨k, e2, h⟩ | h
      · simp at h
      · exact Nat.le_trans hN0 h) hP ⟨fun i j x y hi => by simp at hi, fun k q hq => by simp at hq⟩ va_S.rf hl
theorem n_callVS {I' : fMI} {d' idx i0 : Nat} {r : Int32} (hlk : Lk I.1.cls idx I'.1) (hc : CalV I' 0) (hcls : I'.1.cls = RJ0) (hi : i0 < 2) (hd : decode I.2.1 pc = .ok (.invokevirtual idx, 3)) (hm : NV G N0 I' d' (G.2.2.2 (1010 + i0)) r)
    (hdd : d' + 1 ≤ d) (hnl : I'.2.2.1 ≤ 45) (hs : (st.map fun v => v.category).sum ≤ 8) (hkc : kc ≤ mc) (hks : ks ≤ ms)
    (kk : NW G N0 A I Q d mc ms ws kc ks (pc + 3) ls (.int r :: st)) : NW G N0 A I Q d mc ms ws kc ks pc ls (.ref (G.2.2.2 (1010 + i0)) :: st) := by
  intro p e1 s m args below meth c H locs L C hA hN hP hD hS hL
  obtain ⟨hx, hb, hrt, hml, hts, hown, hlocks, hK, hRo, hN0, hnme⟩ := id C
  obtain ⟨hc1, hc2, hc3, hc5, hc4⟩ := hc
  have hG := ms_good hc1
  have hrecv : ∃ cellB : Cell, H[G.2.2.2 (1010 + i0)]? = some cellB ∧ cellB.vm.isStatics = false ∧ s.vm.findClass I'.1.cls = some cellB.cls := by
    obtain ⟨cell, h1, h2, h3, h4⟩ := (hRo.2.2.1.1 i0 hi).1
    exact ⟨cell, by rw [hS.2.1 _ (Array.getElem?_eq_some_iff.mp h1).1 (fun z => h4 (hN _ z))]; exact h1, h2, by rw [hcls]; exact h3⟩
  have hP0 : va_P G.2.1 vwCl (ws ++ []) H := by rw [List.append_nil]; exact hP
  have hD0 : va_D A (ws ++ []) := by rw [List.append_nil]; exact hD
  have hpre : PreV s H I'.1.cls (G.2.2.2 (1010 + i0)) (PreN G N0 H.size [] [.ref (G.2.2.2 (1010 + i0))]) [] := ⟨n_blind G N0 _ _ _, hrecv, n_pre C hN hP0 hD0 hS⟩
  have hR : (rmN d' 0 0).frames + 1 ≤ (rmN d mc ms).frames ∧ 8 + (I'.2.2.1 + 11) + (rmN d' 0 0).locals ≤ (rmN d mc ms).locals := ⟨hdd, by show 8 + (I'.2.2.1 + 11) + 64 * d' ≤ 64 * d; omega⟩
  refine n_go (Q' := fun v w1 => v = some (.int r) ∧ w1 = []) (wc := []) (mc' := 0) (ms' := 0) (a := (Value.ref (G.2.2.2 (1010 + i0)) :: []).toArray) C hA hN hP0 hD0 hS hL ?_ (fun v w1 hq => by
    obtain ⟨rfl, rfl⟩ := hq
    rw [List.append_nil]
    exact kk)
  rcases hlk with hlk | ⟨host, hlk⟩
  · exact va_runV (n := 0) (As := []) ⟨hx, hb, hml, hown, hts⟩ (hm H.size) ⟨callB_of 0 hts hG rfl rfl rfl (hts _ hc2) (hts _ hlk) hc4 hR, hts _ hc3, hts _ hc5⟩ hpre rfl rfl hL.1 rfl (lv_room hs) hd ⟨hkc, hks⟩
  · exact va_runVN (n := 0) (As := []) ⟨hx, hb, hml, hown, hts⟩ (hm H.size) ⟨va_cnB 0 hts hG rfl rfl rfl (hRo.2.2.2.2.2.2.2.1 _ hlk) (hts _ hc2) hc4 hR, hts _ hc3, hts _ hc5⟩ hpre rfl rfl hL.1 rfl (lv_room hs) hd ⟨hkc, hks⟩
theorem n_strC {i idx : Nat} (hi : i < 2) (hw : Cond.fieldLink I.1.cls idx RJ0 "coder" "B" ∈ W0) (hd : decode I.2.1 pc = .ok (.getfield idx, 3)) (k : NW G N0 A I Q d mc ms ws kc ks (pc + 3) ls (.int 0 :: st)) : NW G N0 A I Q d mc ms ws kc ks pc ls (.ref (G.2.2.2 (1010 + i)) :: st) := by
  intro p e s m args below meth c H locs L C hA hN hP hD hS hL
  obtain ⟨hx, hb, hr9, hml, hts, hown, hlocks, hK, hRo, hN0, hnme⟩ := id C
  exact vk_getf hx hb ((hRo.2.2.1.1 i hi).2.1.narrow hN) hS hown (hts _ hw) (fun x h => h) hd (k _ _ _ _ _ _ _ _ _ _ _ C hA hN hP hD hS hL)
theorem n_strV {i idx : Nat} (hi : i < 2) (hw : Cond.fieldLink I.1.cls idx RJ0 "value" "[B" ∈ W0) (hd : decode I.2.1 pc = .ok (.getfield idx, 3)) (k : NW G N0 A I Q d mc ms ws kc ks (pc + 3) ls (.ref (G.2.2.2 (1020 + i)) :: st)) : NW G N0 A I Q d mc ms ws kc ks pc ls (.ref (G.2.2.2 (1010 + i)) :: st) := by
  intro p e s m args below meth c H locs L C hA hN hP hD hS hL
  obtain ⟨hx, hb, hr9, hml, hts, hown, hlocks, hK, hRo, hN0, hnme⟩ := id C
  exact vk_getf hx hb ((hRo.2.2.1.1 i hi).2.2.1.narrow hN) hS hown (hts _ hw) (fun x h => h) hd (k _ _ _ _ _ _ _ _ _ _ _ C hA hN hP hD hS hL)
theorem n_strLen {i : Nat} (hi : i < 2) (hd : decode I.2.1 pc = .ok (.arraylength, 1)) (k : NW G N0 A I Q d mc ms ws kc ks (pc + 1) ls (.int (nI (kLen.getD i 0)) :: st)) : NW G N0 A I Q d mc ms ws kc ks pc ls (.ref (G.2.2.2 (1020 + i)) :: st) := by
  intro p e s m args below meth c H locs L C hA hN hP hD hS hL
  obtain ⟨hx, hb, hr9, hml, hts, hown, hlocks, hK, hRo, hN0, hnme⟩ := id C
  exact va_tlen hx hb ((hRo.2.2.1.1 i hi).2.2.2.narrow hN) hS rfl hd (k _ _ _ _ _ _ _ _ _ _ _ C hA hN hP hD hS hL)
theorem n_getsCS {idx : Nat} (hw : Cond.fieldLink I.1.cls idx RJ0 "COMPACT_STRINGS" "Z" ∈ W0) (hd : decode I.2.1 pc = .ok (.getstatic idx, 3)) (k : NW G N0 A I Q d mc ms ws kc ks (pc + 3) ls (.int 1 :: st)) : NW G N0 A I Q d mc ms ws kc ks pc ls st := by
  intro p e s m args below meth c H locs L C hA hN hP hD hS hL
  obtain ⟨hx, hb, hr9, hml, hts, hown, hlocks, hK, hRo, hN0, hnme⟩ := id C
  exact va_gets hx hb (hRo.2.2.2.2.2.2.1.narrow hN) hS hown (hts _ hw) (fun x h => h) hd (k _ _ _ _ _ _ _ _ _ _ _ C hA hN hP hD hS hL)
theorem n_ifeq_no {x : Int32} {off : Int} {tgt : Nat} (hd : decode I.2.1 pc = .ok (.ifCond .eq off, 3)) (ht : (pc : Int) + off = (tgt : Int)) (h : ¬ x = 0) (k : NW G N0 A I Q d mc ms ws kc ks (pc + 3) ls st) : NW G N0 A I Q d mc ms ws kc ks pc ls (.int x :: st) := by
  intro p e s m args below meth c H locs L C hA hN hP hD hS hL
  obtain ⟨hx, hb, hr9, hml, hts, hown, hlocks, hK, hRo, hN0, hnme⟩ := id C
  exact lv_if_eq hx hb hd ht (fun h1 => absurd h1 h) (fun _ => k _ _ _ _ _ _ _ _ _ _ _ C hA hN hP hD hS hL)
theorem n_ishr {x y : Int32} (hd : decode I.2.1 pc = .ok (.ishr, 1)) (k : NW G N0 A I Q d mc ms ws kc ks (pc + 1) ls (.int (x >>> (y &&& 31)) :: st)) : NW G N0 A I Q d mc ms ws kc ks pc ls (.int y :: .int x :: st) := by
  intro p e s m args below meth c H locs L C hA hN hP hD hS hL
  obtain ⟨hx, hb, hr9, hml, hts, hown, hlocks, hK, hRo, hN0, hnme⟩ := id C
  exact lv_ishr hx hb hd (k _ _ _ _ _ _ _ _ _ _ _ C hA hN hP hD hS hL)
theorem n_ldcS {tx : String} {idx q : Nat} (hd : decode I.2.1 pc = .ok (.ldc idx, 2)) (hv : ∀ U, RoN G N0 U → vk_R I.1.cls idx tx q U) (k : NW G N0 A I Q d mc ms ws kc ks (pc + 2) ls (.ref q :: st)) : NW G N0 A I Q d mc ms ws kc ks pc ls st := by
  intro p e s m args below meth c H locs L C hA hN hP hD hS hL
  obtain ⟨hx, hb, hr9, hml, hts, hown, hlocks, hK, hRo, hN0, hnme⟩ := id C
  exact va_ldcS hx hb hown (hv s hRo) hd (k _ _ _ _ _ _ _ _ _ _ _ C hA hN hP hD hS hL)
theorem n_getsF {idx : Nat} (hw : Cond.fieldLinkNest I.1.cls idx RX9 "FIRST" "[I" RX9 ∈ Wn) (hd : decode I.2.1 pc = .ok (.getstatic idx, 3)) (k : NW G N0 A I Q d mc ms ws kc ks (pc + 3) ls (.ref (G.2.2.2 1000) :: st)) : NW G N0 A I Q d mc ms ws kc ks pc ls st := by
  intro p e s m args below meth c H locs L C hA hN hP hD hS hL
  obtain ⟨hx, hb, hr9, hml, hts, hown, hlocks, hK, hRo, hN0, hnme⟩ := id C
  exact va_getsN hx hb (hRo.1.narrow hN) hS hown (hRo.2.2.2.2.2.2.2.1 _ hw) (fun x h => h) hd (k _ _ _ _ _ _ _ _ _ _ _ C hA hN hP hD hS hL)
theorem n_zret {ty : FieldType} {v : Int32} (hr : I.2.2.2 = some ty) (hn : narrow ty (.int v) = .int v) (hd : decode I.2.1 pc = .ok (.ireturn, 1)) (h1 : kc = mc) (h2 : ks = ms) (hq : Q (some (.int v)) ws) : NW G N0 A I Q d mc ms ws kc ks pc ls [.int v] := by
  intro p e s m args below meth c H locs L C hA hN hP hD hS hL
  subst h1
  subst h2
  have hlocks : meth.locks = false := C.2.2.2.2.2.2.1
  exact W.zret C.1 C.2.1 (C.2.2.1.trans hr) hn (fun t ht hW => ⟨some (.int v), ws, rfl, hq, by rw [ht]; exact hP, hD, hS.F ht⟩) hS.2.2 hd hlocks
end NWC
