/-! CONSTRUCTORS: worlds of true addresses, that grow -/
def FT (G : fGm) (N0 : Nat) (U : State) (H : Heap) : Prop := ∃ cell : Cell, H[G.2.2.2 1000]? = some cell ∧ U.isArrayOf cell .int ∧ cell.vm ≠ .unknown ∧ cell.slots = Array.ofFn (n := 15) (fun j => Value.int ((sTb 0).getD j.val 0)) ∧ cell.cls = G.2.2.1 0 ∧ ¬ (N0 ≤ G.2.2.2 1000)
theorem FT.kept {G : fGm} {N0 : Nat} {u U : State} {H H1 : Heap} (hvm : u.vm.Alike U.vm) (hq : ∀ a : Nat, a < H.size → ¬ N0 ≤ a → H1[a]? = H[a]?) (h : FT G N0 u H) : FT G N0 U H1 := by
  obtain ⟨cell, h1, h2, h3, h4, h5, h6⟩ := h
  exact ⟨cell, by rw [hq _ (Array.getElem?_eq_some_iff.mp h1).1 h6]; exact h1, State.isArrayOf_alike hvm h2, h3, h4, h5, h6⟩
def RoN (G : fGm) (N0 : Nat) (U : State) : Prop :=
  va_Z RX9 "FIRST" "[I" (.ref (G.2.2.2 1000)) (fun q => N0 ≤ q) U U.heap ∧ FT G N0 U U.heap ∧ vk_S 2 kLen kByt (fun i => G.2.2.2 (1010 + i)) (fun i => G.2.2.2 (1020 + i)) (fun q => N0 ≤ q) U U.heap ∧
  vk_R RX8 67 "fswlh" (G.2.2.2 1010) U ∧ vk_R RX10 30 "fswlh" (G.2.2.2 1010) U ∧ vk_R RX10 32 "grwl" (G.2.2.2 1011) U ∧ va_Z RJ0 "COMPACT_STRINGS" "Z" (.int 1) (fun q => N0 ≤ q) U U.heap ∧ (∀ w ∈ Wn, va_Nw w U) ∧ (va_AO RX5 U ∧ va_AO RJ0 U) ∧ va_Nw (.castable "[I" "java/lang/Cloneable") U
theorem RoN.warm {G : fGm} {N0 : Nat} {s U : State} (hW : s.WarmedH U.vm) (hq : ∀ a : Nat, a < s.heap.size → ¬ N0 ≤ a → U.heap[a]? = s.heap[a]?) (h : RoN G N0 s) : RoN G N0 U := by
  obtain ⟨h1, h2, h3, h4, h5, h6, h7, h8, h9, h10⟩ := h
  exact ⟨(h1.moved hW.alike).kept hq, h2.kept hW.alike hq, (h3.moved hW.alike).kept hq, h4.warm hW, h5.warm hW, h6.warm hW, (h7.moved hW.alike).kept hq, fun w hw => nest_warm hW (List.mem_filter.mp hw).2 (h8 w hw), ⟨h9.1.moved hW.alike, h9.2.moved hW.alike⟩, va_Nw.warmC hW h10⟩
def rmN (d mc ms : Nat) : Room := { frames := d, cells := mc, slots := ms, locals := 64 * d }
def QcN (G : fGm) (A : Nat → Prop) (Q : Option Value → va_W → Prop) : Array Value → State → Outcome → State → Prop := fun _ st o t =>
  ∃ (v : Option Value) (ws' : va_W), o = .returned v ∧ Q v ws' ∧ va_P G.2.1 vwCl ws' t.heap ∧ va_D A ws' ∧ va_F A st t
def NCtx (G : fGm) (N0 : Nat) (p : Program) (s : State) (m : MethodId) (args : Array Value) (meth : Method) (c : Code) (I : fMI) : Prop :=
  p.tables.exec = Jvm.exec ∧ c.code = I.2.1 ∧ meth.sig.returnType = I.2.2.2 ∧ c.maxLocals = I.2.2.1 ∧ (∀ w ∈ W0, w.before args s = true) ∧
  s.vm.findClass I.1.cls = some m.cls ∧ meth.locks = false ∧ va_K G.2.1 vwCl (gT G) s ∧ RoN G N0 s ∧ N0 ≤ s.heap.size ∧ meth.name = I.1.name
def NW (G : fGm) (N0 : Nat) (A : Nat → Prop) (I : fMI) (Q : Option Value → va_W → Prop) (d mc ms : Nat) (ws : va_W) (kc ks pc : Nat) (ls : List (Nat × Value)) (st : List Value) : Prop :=
  ∀ (p : Program) (e : Env) (s : State) (m : MethodId) (args : Array Value) (below : List Frame) (meth : Method) (c : Code) (H : Heap) (locs : List Loc) (L : Array Slot),
    NCtx G N0 p s m args meth c I → (∀ q, s.heap.size ≤ q → A q) → (∀ q, A q → N0 ≤ q) → va_P G.2.1 vwCl ws H → va_D A ws → va_S A s.heap H locs → lv_has L I.2.2.1 ls →
    W p G.1 e (rmN d mc ms) s m args below meth c H locs kc ks (MQ below (QcN G A Q) args s mc ms A) (F0 m pc L st)
def PreN (G : fGm) (N0 sz : Nat) (ws : va_W) (av : List Value) : Array Value → State → Prop := va_Pc av (fun U => U.heap.size = sz ∧ va_P G.2.1 vwCl ws U.heap ∧ va_K G.2.1 vwCl (gT G) U ∧ RoN G N0 U ∧ N0 ≤ sz ∧ va_D (fun q => N0 ≤ q) ws)
/-- a constructor's contract: its object at b, as e; behind it w1 -/
def NM (G : fGm) (N0 : Nat) (I : fMI) (d mc ms b : Nat) (e : va_E) (Q : va_W → Prop) : Prop := ∀ sz : Nat,
  Met G.1 I.1 (.code I.1 I.2.1 I.2.2.1 I.2.2.2 :: W0) (rmN d mc ms) (PreN G N0 sz [(b, e)] [.ref b]) (QcN G (va_A [(b, e)] sz) (fun v ws' => v = none ∧ Q ws')) mc ms (va_A [(b, e)] sz)
theorem nm_of {G : fGm} {N0 : Nat} {I : fMI} {d mc ms b : Nat} {e : va_E} {Q : va_W → Prop} (hy : plainName I.1.cls = true) (hL : 1 ≤ I.2.2.1) (body : ∀ A, NW G N0 A I (fun v ws' => v = none ∧ Q ws') d mc ms [(b, e)] 0 0 0 [(0, .ref b)] []) : NM G N0 I d mc ms b e Q := by
  intro sz
  refine Met.ofW (cc := I.2.1) (maxL := I.2.2.1) (ret := I.2.2.2) (ws' := W0) hy rfl ?_
  intro p e1 s m args below meth c s₁ B hml hv
  obtain ⟨rfl, hsz, hP, hK, hRo, hN0, hD0⟩ := hv
  subst hsz
  have hl := lv_entry ([Value.ref b]) (n := I.2.2.1) (by exact hL)
  rw [lg_entry_eq]
  have hb0 : N0 ≤ b := hD0.2 0 (b, e) rfl
  exact body _ _ _ _ _ _ _ _ _ _ _ _ ⟨B.exec, B.bytes, B.returns, hml, fun w hw => atoms_spec (ws := .code I.1 I.2.1 I.2.2.1 I.2.2.2 :: W0) B.pre w (List.mem_cons_of_mem _ hw), findClass_of_methodNamed B.named, B.notSynchronized, hK, hRo, hN0, (name_of_methodNamed B.named B.method).1⟩
    (fun q h => Or.inr h) (fun q h => by
      rcases h with ⟨k, e2, h⟩ | h
      · obtain ⟨h1, h2⟩ := List.getElem?_eq_some_iff.mp h
        have hk : k = 0 := by simp at h1; exact h1
        subst hk
        cases h2
        exact hb0
      · exact Nat.le_trans hN0 h) hP (hD0.self (sz := s.heap.size)) va_S.rf hl
section NWR
variable {G : fGm} {N0 : Nat} {A : Nat → Prop} {I : fMI} {Q : Option Value → va_W → Prop} {d mc ms : Nat} {ws : va_W} {kc ks pc : Nat} {ls : List (Nat × Value)} {st : List Value}
theorem lget_at0 {L : Array Slot} {nL n : Nat} {v : Value} (h : lv_has L nL ls) (hg : lget ls n = some v) : L[n]? = some (.val v) := by
  obtain ⟨k, hk⟩ := lget_ex hg
  exact lv_at h k hk
theorem n_iconst {n : Int} {v : Int32} (hd : decode I.2.1 pc = .ok ((.iconst n), 1)) (hv : Int32.ofInt n = v) (k : NW G N0 A I Q d mc ms ws kc ks (pc + 1) ls (.int v :: st)) : NW G N0 A I Q d mc ms ws kc ks pc ls st := by
  intro p e s m args below meth c H locs L C hA hN hP hD hS hL
  exact lv_iconst C.1 C.2.1 hd hv (k _ _ _ _ _ _ _ _ _ _ _ C hA hN hP hD hS hL)
theorem n_bipush {n : Int} {v : Int32} (hd : decode I.2.1 pc = .ok ((.bipush n), 2)) (hv : (Int8.ofInt n).toInt32 = v) (k : NW G N0 A I Q d mc ms ws kc ks (pc + 2) ls (.int v :: st)) : NW G N0 A I Q d mc ms ws kc ks pc ls st := by
  intro p e s m args below meth c H locs L C hA hN hP hD hS hL
  exact lv_bipush C.1 C.2.1 hd hv (k _ _ _ _ _ _ _ _ _ _ _ C hA hN hP hD hS hL)
theorem n_sipush {n : Int} {v : Int32} (hd : decode I.2.1 pc = .ok ((.sipush n), 3)) (hv : (Int16.ofInt n).toInt32 = v) (k : NW G N0 A I Q d mc ms ws kc ks (pc + 3) ls (.int v :: st)) : NW G N0 A I Q d mc ms ws kc ks pc ls st := by
  intro p e s m args below meth c H locs L C hA hN hP hD hS hL
  exact lv_sipush C.1 C.2.1 hd hv (k _ _ _ _ _ _ _ _ _ _ _ C hA hN hP hD hS hL)
theorem n_lconst {n : Fin 2} {v : Int64} (hd : decode I.2.1 pc = .ok ((.lconst n), 1)) (hv : Int64.ofNat (n : Nat) = v) (k : NW G N0 A I Q d mc ms ws kc ks (pc + 1) ls (.long v :: st)) : NW G N0 A I Q d mc ms ws kc ks pc ls st := by
  intro p e s m args below meth c H locs L C hA hN hP hD hS hL
  exact lv_lconst C.1 C.2.1 hd hv (k _ _ _ _ _ _ _ _ _ _ _ C hA hN hP hD hS hL)
theorem n_aload_n {n : Fin 4} {x : Nat} (hd : decode I.2.1 pc = .ok (.aload_n n, 1)) (hl : lget ls (n : Nat) = some (.ref x)) (k : NW G N0 A I Q d mc ms ws kc ks (pc + 1) ls (.ref x :: st)) : NW G N0 A I Q d mc ms ws kc ks pc ls st := by
  intro p e s m args below meth c H locs L C hA hN hP hD hS hL
  exact lv_aload_n C.1 C.2.1 hd rfl (lget_at0 hL hl) (k _ _ _ _ _ _ _ _ _ _ _ C hA hN hP hD hS hL)
theorem n_iload_n {n : Fin 4} {x : Int32} (hd : decode I.2.1 pc = .ok (.iload_n n, 1)) (hl : lget ls (n : Nat) = some (.int x)) (k : NW G N0 A I Q d mc ms ws kc ks (pc + 1) ls (.int x :: st)) : NW G N0 A I Q d mc ms ws kc ks pc ls st := by
  intro p e s m args below meth c H locs L C hA hN hP hD hS hL
  exact lv_iload_n C.1 C.2.1 hd rfl (lget_at0 hL hl) (k _ _ _ _ _ _ _ _ _ _ _ C hA hN hP hD hS hL)
theorem n_dup {v : Value} (hd : decode I.2.1 pc = .ok (.dup, 1)) (hc : v.category = 1) (k : NW G N0 A I Q d mc ms ws kc ks (pc + 1) ls (v :: v :: st)) : NW G N0 A I Q d mc ms ws kc ks pc ls (v :: st) := by
  intro p e s m args below meth c H locs L C hA hN hP hD hS hL
  exact lv_dup C.1 C.2.1 hd hc (k _ _ _ _ _ _ _ _ _ _ _ C hA hN hP hD hS hL)
theorem n_istore_n {n : Fin 4} {x : Int32} {ls1 : List (Nat × Value)} (hd : decode I.2.1 pc = .ok (.istore_n n, 1)) (hn : (n : Nat) < I.2.2.1) (hl : lst ls (n : Nat) (.int x) = ls1) (k : NW G N0 A I Q d mc ms ws kc ks (pc + 1) ls1 st) : NW G N0 A I Q d mc ms ws kc ks pc ls (.int x :: st) := by
  intro p e s m args below meth c H locs L C hA hN hP hD hS hL
  subst hl
  exact lv_istore_n C.1 C.2.1 hd rfl hL hn rfl (fun L1 hL1 => k _ _ _ _ _ _ _ _ _ _ _ C hA hN hP hD hS hL1)
theorem n_iinc {i : Nat} {n : Int} {x v : Int32} {ls1 : List (Nat × Value)} (hd : decode I.2.1 pc = .ok (.iinc i n, 3)) (hg : lget ls i = some (.int x)) (hv : x + Int32.ofInt n = v) (hn : i < I.2.2.1) (hl : lst ls i (.int v) = ls1) (k : NW G N0 A I Q d mc ms ws kc ks (pc + 3) ls1 st) : NW G N0 A I Q d mc ms ws kc ks pc ls st := by
  intro p e s m args below meth c H locs L C hA hN hP hD hS hL
  subst hl
  obtain ⟨j, hj⟩ := lget_ex hg
  exact lv_iinc (k := j) C.1 C.2.1 hd hL hj hv hn rfl (fun L1 hL1 => k _ _ _ _ _ _ _ _ _ _ _ C hA hN hP hD hS hL1)
theorem n_goto {off : Int} {tgt : Nat} (hd : decode I.2.1 pc = .ok (.goto off, 3)) (ht : (pc : Int) + off = (tgt : Int)) (k : NW G N0 A I Q d mc ms ws kc ks tgt ls st) : NW G N0 A I Q d mc ms ws kc ks pc ls st := by
  intro p e s m args below meth c H locs L C hA hN hP hD hS hL
  exact lv_goto C.1 C.2.1 hd ht (k _ _ _ _ _ _ _ _ _ _ _ C hA hN hP hD hS hL)
theorem n_ifge_no {x y : Int32} {off : Int} {tgt : Nat} (hd : decode I.2.1 pc = .ok (.if_icmp .ge off, 3)) (ht : (pc : Int) + off = (tgt : Int)) (h : x < y) (k : NW G N0 A I Q d mc ms ws kc ks (pc + 3) ls st) : NW G N0 A I Q d mc ms ws kc ks pc ls (.int y :: .int x :: st) := by
  intro p e s m args below meth c H locs L C hA hN hP hD hS hL
  refine lv_icmp_ge C.1 C.2.1 hd ht (fun h1 => ?_) (fun _ => k _ _ _ _ _ _ _ _ _ _ _ C hA hN hP hD hS hL)
  first | exact absurd h h1 | exact absurd h (Int32.not_lt.mpr h1)
theorem n_ifge_yes {x y : Int32} {off : Int} {tgt : Nat} (hd : decode I.2.1 pc = .ok (.if_icmp .ge off, 3)) (ht : (pc : Int) + off = (tgt : Int)) (h : ¬ x < y) (k : NW G N0 A I Q d mc ms ws kc ks tgt ls st) : NW G N0 A I Q d mc ms ws kc ks pc ls (.int y :: .int x :: st) := by
  intro p e s m args below meth c H locs L C hA hN hP hD hS hL
  refine lv_icmp_ge C.1 C.2.1 hd ht (fun _ => k _ _ _ _ _ _ _ _ _ _ _ C hA hN hP hD hS hL) (fun h1 => ?_)
  exact absurd (Int32.not_lt.mp h) h1
theorem n_objInit {idx a : Nat} (hw : Cond.methodLink I.1.cls idx Lib.objectInit ∈ W0) (hd : decode I.2.1 pc = .ok (.invokespecial idx, 3)) (h1 : 1 ≤ d) (hs : (st.map fun v => v.category).sum ≤ 8) (k : NW G N0 A I Q d mc ms ws kc ks (pc + 3) ls st) : NW G N0 A I Q d mc ms ws kc ks pc ls (.ref a :: st) := by
  intro p e s m args below meth c H locs L C hA hN hP hD hS hL
  obtain ⟨hx, hb, hr, hml, hts, hown, hlocks, hK, hRo, hI⟩ := id C
  refine W.objInit hx hb hown (hts _ hw) (hts _ w_objInst) (hts _ w_objInit) rfl (by rw [hml]; exact hL.1) rfl hd h1 (by show 2 * 0 + _ + 12 ≤ 64 * d; omega) ?_
  exact k _ _ _ _ _ _ _ _ _ _ _ C hA hN hP hD hS hL
theorem n_vret (hr : I.2.2.2 = none) (hd : decode I.2.1 pc = .ok (.return_, 1)) (h1 : kc = mc) (h2 : ks = ms) (hq : Q none ws) : NW G N0 A I Q d mc ms ws kc ks pc ls [] := by
  intro p e s m args below meth c H locs L C hA hN hP hD hS hL
  subst h1
  subst h2
  have hlocks : meth.locks = false := C.2.2.2.2.2.2.1
  exact W.vret C.1 C.2.1 (C.2.2.1.trans hr) (fun t ht hW => ⟨none, ws, rfl, hq, by rw [ht]; exact hP, hD, hS.F ht⟩) hS.2.2 hd hlocks
theorem n_new {idx ci N : Nat} {Cn : String} {T : u_T} {ty : Nat → FieldType} {fs : List Value} (hcw : Cond.classLink I.1.cls idx Cn ∈ W0) (hi : Cond.instantiable Cn N ∈ W0) (hini : Cond.initialized Cn ∈ W0) (hul : ∀ w ∈ u_ws Cn T N, w ∈ W0) (hty : ∀ k, k < N → parseFieldDescriptor (T k).2.2.1 = some (ty k)) (hc : vwCl[ci]? = some (Cn, T, N)) (hfs : ∀ j, j < N → defaultValue (ty j) = vp_V fs j) (hd : decode I.2.1 pc = .ok (.new idx, 3)) (h1 : kc + 1 ≤ mc) (h2 : ks + N ≤ ms)
    (k : ∀ q, NW G N0 A I Q d mc ms (ws ++ [(q, .inr (ci, fs))]) (kc + 1) (ks + N) (pc + 3) ls (.ref q :: st)) : NW G N0 A I Q d mc ms ws kc ks pc ls st := by
  intro p e s m args below meth c H locs L C hA hN hP hD hS hL
  obtain ⟨hx, hb, hr, hml, hts, hown, hlocks, hK, hRo, hI⟩ := id C
  exact va_new (ci := ci) (fs := fs) (C := Cn) (T := T) (N := N) hx hb hts hul ty hty hown (hts _ hcw) (hts _ hi) (hts _ hini) hK hP hD hS hA hc hfs h1 h2 hd (fun q H1 hP1 hD1 hS1 => k q _ _ _ _ _ _ _ _ _ _ _ C hA hN hP1 hD1 hS1 hL)
theorem n_newI {n : Int32} {N : Nat} (hn : ¬ n < 0) (hN1 : n.toNatClampNeg = N) (hB : N * 4 ≤ 536870912) (hd : decode I.2.1 pc = .ok (.newarray .int, 2)) (h1 : kc + 1 ≤ mc) (h2 : ks + N ≤ ms)
    (k : ∀ q, NW G N0 A I Q d mc ms (ws ++ [(q, .inl (G.2.2.1 0, N, .inl (fun _ => 0)))]) (kc + 1) (ks + N) (pc + 2) ls (.ref q :: st)) : NW G N0 A I Q d mc ms ws kc ks pc ls (.int n :: st) := by
  intro p e s m args below meth c H locs L C hA hN hP hD hS hL
  obtain ⟨hx, hb, hr, hml, hts, hown, hlocks, hK, hRo, hI⟩ := id C
  refine va_newa (atype := .int) (ty := .int) (a0 := (N, .inl (fun _ => 0))) hx hb (hts _ arr_int) rfl hK hP hD hS hA (fun _ => rfl) hn hN1 hB h1 h2 hd (fun q cA H1 hK1 hP1 hD1 hS1 => ?_)
  have e1 := (hK1.2 4 (cA, .int) rfl).2
  have e2 := (hK.2 0 (G.2.2.1 0, .int) rfl).2
  have e3 : cA = G.2.2.1 0 := Option.some.inj (Eq.trans (Eq.symm e1) e2)
  subst e3
  exact k q _ _ _ _ _ _ _ _ _ _ _ C hA hN hP1 hD1 hS1 hL
theorem n_newJ {n : Int32} {N : Nat} (hn : ¬ n < 0) (hN1 : n.toNatClampNeg = N) (hB : N * 8 ≤ 536870912) (hd : decode I.2.1 pc = .ok (.newarray .long, 2)) (h1 : kc + 1 ≤ mc) (h2 : ks + N ≤ ms)
    (k : ∀ q, NW G N0 A I Q d mc ms (ws ++ [(q, .inl (G.2.2.1 1, N, .inr (.inl (fun _ => 0))))]) (kc + 1) (ks + N) (pc + 2) ls (.ref q :: st)) : NW G N0 A I Q d mc ms ws kc ks pc ls (.int n :: st) := by
  intro p e s m args below meth c H locs L C hA hN hP hD hS hL
  obtain ⟨hx, hb, hr, hml, hts, hown, hlocks, hK, hRo, hI⟩ := id C
  refine va_newa (atype := .long) (ty := .long) (a0 := (N, .inr (.inl (fun _ => 0)))) hx hb (hts _ arr_long) rfl hK hP hD hS hA (fun _ => rfl) hn hN1 hB h1 h2 hd (fun q cA H1 hK1 hP1 hD1 hS1 => ?_)
  have e1 := (hK1.2 4 (cA, .long) rfl).2
  have e2 := (hK.2 1 (G.2.2.1 1, .long) rfl).2
  have e3 : cA = G.2.2.1 1 := Option.some.inj (Eq.trans (Eq.symm e1) e2)
  subst e3
  exact k q _ _ _ _ _ _ _ _ _ _ _ C hA hN hP1 hD1 hS1 hL
theorem n_newQ {idx t N : Nat} {Cn : String} {n : Int32} (hcw : Cond.classLink I.1.cls idx Cn ∈ W0) (hao : ∀ U, RoN G N0 U → va_AO Cn U) (ht : (gT G)[2 + t]? = some (G.2.2.1 (2 + t), .object Cn)) (hn : ¬ n < 0) (hN1 : n.toNatClampNeg = N) (hB : N * 4 ≤ 536870912) (hd : decode I.2.1 pc = .ok (.anewarray idx, 3)) (h1 : kc + 1 ≤ mc) (h2 : ks + N ≤ ms)
    (k : ∀ q, NW G N0 A I Q d mc ms (ws ++ [(q, .inl (G.2.2.1 (2 + t), N, .inr (.inr (.inr (.inr (fun _ => none))))))]) (kc + 1) (ks + N) (pc + 3) ls (.ref q :: st)) : NW G N0 A I Q d mc ms ws kc ks pc ls (.int n :: st) := by
  intro p e s m args below meth c H locs L C hA hN hP hD hS hL
  obtain ⟨hx, hb, hr, hml, hts, hown, hlocks, hK, hRo, hI, hnme⟩ := id C
  refine va_newq hx hb hown (hts _ hcw) (hao s hRo) hK hP hD hS hA hn hN1 hB h1 h2 hd (fun q cA H1 hK1 hP1 hD1 hS1 => ?_)
  obtain ⟨_, _, _, _, _, e1⟩ := (hK1.2 4 (cA, .object Cn) rfl).2
  obtain ⟨_, _, _, _, _, e2⟩ := (hK.2 _ _ ht).2
  have e3 : cA = G.2.2.1 (2 + t) := Option.some.inj (Eq.trans (Eq.symm e1) e2)
  subst e3
  exact k q _ _ _ _ _ _ _ _ _ _ _ C hA hN hP1 hD1 hS1 hL
theorem n_putF {idx ci j q0 a N : Nat} {Cn : String} {T : u_T} {ty0 : Nat → FieldType} {tyv : FieldType} {fs : List Value} {v : Value} {ws1 : va_W} (hfl : Cond.fieldLink I.1.cls idx Cn (T j).2.1 (T j).2.2.1 ∈ W0) (hul : ∀ w ∈ u_ws Cn T N, w ∈ W0) (hty : ∀ k, k < N → parseFieldDescriptor (T k).2.2.1 = some (ty0 k)) (hnm : ∀ a, a < N → ∀ b, b < N → a ≠ b → (T a).2.1 ≠ (T b).2.1) (hc : vwCl[ci]? = some (Cn, T, N)) (he : ws[q0]? = some (a, .inr (ci, fs))) (hj : j < N) (hdc : (T j).1 = Cn) (hcn : Cn = I.1.cls) (hfin : (T j).2.2.2 = true) (hi : I.1.name = "<init>") (hd9 : parseFieldDescriptor (T j).2.2.1 = some tyv) (hnr : narrow tyv v = v) (hf : fits tyv v = true) (hl : j < fs.length) (hd : decode I.2.1 pc = .ok (.putfield idx, 3)) (hw : ws.set q0 (a, .inr (ci, fs.set j v)) = ws1)
    (k : NW G N0 A I Q d mc ms ws1 kc ks (pc + 3) ls st) : NW G N0 A I Q d mc ms ws kc ks pc ls (v :: .ref a :: st) := by
  subst hw
  intro p e s m args below meth c H locs L C hA hN hP hD hS hL
  obtain ⟨hx, hb, hr, hml, hts, hown, hlocks, hK, hRo, hN0, hnme⟩ := id C
  exact va_putF (C := Cn) (T := T) (N := N) (ref := Cn) hx hb hts hul ty0 hty hnm hown hK hP hD hS q0 he hc j hj (hts _ hfl) (fun x hx9 => by rw [hdc] at hx9; exact hx9) hfin (hnme.trans hi) (hdc.trans hcn) hd9 hnr hf hl hd (fun H1 locs1 hP1 hD1 hS1 => k _ _ _ _ _ _ _ _ _ _ _ C hA hN hP1 hD1 hS1 hL)
theorem n_put {idx ci j q0 a N : Nat} {Cn : String} {T : u_T} {ty0 : Nat → FieldType} {tyv : FieldType} {fs : List Value} {v : Value} {ws1 : va_W} (hfl : Cond.fieldLink I.1.cls idx Cn (T j).2.1 (T j).2.2.1 ∈ W0) (hul : ∀ w ∈ u_ws Cn T N, w ∈ W0) (hty : ∀ k, k < N → parseFieldDescriptor (T k).2.2.1 = some (ty0 k)) (hnm : ∀ a, a < N → ∀ b, b < N → a ≠ b → (T a).2.1 ≠ (T b).2.1) (hc : vwCl[ci]? = some (Cn, T, N)) (he : ws[q0]? = some (a, .inr (ci, fs))) (hj : j < N) (hdc : (T j).1 = Cn) (hfin : (T j).2.2.2 = false) (hd9 : parseFieldDescriptor (T j).2.2.1 = some tyv) (hnr : narrow tyv v = v) (hf : fits tyv v = true) (hl : j < fs.length) (hd : decode I.2.1 pc = .ok (.putfield idx, 3)) (hw : ws.set q0 (a, .inr (ci, fs.set j v)) = ws1)
    (k : NW G N0 A I Q d mc ms ws1 kc ks (pc + 3) ls st) : NW G N0 A I Q d mc ms ws kc ks pc ls (v :: .ref a :: st) := by
  subst hw
  intro p e s m args below meth c H locs L C hA hN hP hD hS hL
  obtain ⟨hx, hb, hr, hml, hts, hown, hlocks, hK, hRo, hN0, hnme⟩ := id C
  exact va_put (C := Cn) (T := T) (N := N) (ref := Cn) hx hb hts hul ty0 hty hnm hown hK hP hD hS q0 he hc j hj (hts _ hfl) (fun x hx9 => by rw [hdc] at hx9; exact hx9) hfin hd9 hnr hf hl hd (fun H1 locs1 hP1 hD1 hS1 => k _ _ _ _ _ _ _ _ _ _ _ C hA hN hP1 hD1 hS1 hL)
theorem n_get {idx ci j q0 a : Nat} {fs : List Value} {v : Value} (h : GOK I.1.cls idx ci j) (hd : decode I.2.1 pc = .ok (.getfield idx, 3)) (he : ws[q0]? = some (a, .inr (ci, fs))) (hv : fs[j]? = some v)
    (k : NW G N0 A I Q d mc ms ws kc ks (pc + 3) ls (v :: st)) : NW G N0 A I Q d mc ms ws kc ks pc ls (.ref a :: st) := by
  intro p e s m args below meth c H locs L C hA hN hP hD hS hL
  obtain ⟨hx, hb, hr, hml, hts, hown, hlocks, hK, hRo, hI⟩ := id C
  obtain ⟨Cn, T, N, h1, h2, h3, h4, h5⟩ := h
  exact va_get (C := Cn) (T := T) (N := N) (ref := Cn) hx hb hts h2 hown hK hP q0 he h1 j h3 (hts _ h4) (fun x hx9 => by rw [h5] at hx9; exact hx9) hv hd (k _ _ _ _ _ _ _ _ _ _ _ C hA hN hP hD hS hL)
theorem n_iast {q0 a n : Nat} {f : Nat → Int32} {i x : Int32} {ws1 : va_W} (he : ws[q0]? = some (a, .inl (G.2.2.1 0, n, .inl f))) (hin : vp_in i n) (hd : decode I.2.1 pc = .ok (.iastore, 1)) (hw : ws.set q0 (a, .inl (G.2.2.1 0, n, .inl (upd f i.toNatClampNeg x))) = ws1)
    (k : NW G N0 A I Q d mc ms ws1 kc ks (pc + 1) ls st) : NW G N0 A I Q d mc ms ws kc ks pc ls (.int x :: .int i :: .ref a :: st) := by
  subst hw
  intro p e s m args below meth c H locs L C hA hN hP hD hS hL
  exact va_iast C.1 C.2.1 C.2.2.2.2.2.2.2.1 hP hD hS q0 0 he rfl hin hd (fun H1 locs1 hP1 hD1 hS1 => k _ _ _ _ _ _ _ _ _ _ _ C hA hN hP1 hD1 hS1 hL)
theorem n_alenQ {q0 a t n : Nat} {f : Nat → Option Nat} {v : Int32} {ty : FieldType} (he : ws[q0]? = some (a, .inl (G.2.2.1 (2 + t), n, .inr (.inr (.inr (.inr f)))))) (ht : (gT G)[2 + t]? = some (G.2.2.1 (2 + t), ty)) (hv : Int32.ofNat n = v) (hd : decode I.2.1 pc = .ok (.arraylength, 1))
    (k : NW G N0 A I Q d mc ms ws kc ks (pc + 1) ls (.int v :: st)) : NW G N0 A I Q d mc ms ws kc ks pc ls (.ref a :: st) := by
  intro p e s m args below meth c H locs L C hA hN hP hD hS hL
  exact va_alen C.1 C.2.1 C.2.2.2.2.2.2.2.1 hP q0 (2 + t) he ht hv hd (k _ _ _ _ _ _ _ _ _ _ _ C hA hN hP hD hS hL)
theorem n_astQ {q0 qk ci a v t n : Nat} {r : vw_C} {vs : List Value} {f : Nat → Option Nat} {i : Int32} {ws1 : va_W} (he : ws[q0]? = some (a, .inl (G.2.2.1 (2 + t), n, .inr (.inr (.inr (.inr f)))))) (ht : (gT G)[2 + t]? = some (G.2.2.1 (2 + t), .object r.1)) (hv : ws[qk]? = some (v, .inr (ci, vs))) (hc : vwCl[ci]? = some r) (hin : vp_in i n) (hd : decode I.2.1 pc = .ok (.aastore, 1)) (hw : ws.set q0 (a, .inl (G.2.2.1 (2 + t), n, .inr (.inr (.inr (.inr (va_up f i.toNatClampNeg (some v))))))) = ws1)
    (k : NW G N0 A I Q d mc ms ws1 kc ks (pc + 1) ls st) : NW G N0 A I Q d mc ms ws kc ks pc ls (.ref v :: .int i :: .ref a :: st) := by
  subst hw
  intro p e s m args below meth c H locs L C hA hN hP hD hS hL
  exact va_astq C.1 C.2.1 C.2.2.2.2.2.2.2.1 hP hD hS q0 (2 + t) qk ci he ht hv hc hin hd (fun H1 locs1 hP1 hD1 hS1 => k _ _ _ _ _ _ _ _ _ _ _ C hA hN hP1 hD1 hS1 hL)
theorem n_astS {q0 a i0 n : Nat} {f : Nat → Option Nat} {i : Int32} {ws1 : va_W} (hi : i0 < 2) (he : ws[q0]? = some (a, .inl (G.2.2.1 3, n, .inr (.inr (.inr (.inr f)))))) (hin : vp_in i n) (hd : decode I.2.1 pc = .ok (.aastore, 1)) (hw : ws.set q0 (a, .inl (G.2.2.1 3, n, .inr (.inr (.inr (.inr (va_up f i.toNatClampNeg (some (G.2.2.2 (1010 + i0))))))))) = ws1)
    (k : NW G N0 A I Q d mc ms ws1 kc ks (pc + 1) ls st) : NW G N0 A I Q d mc ms ws kc ks pc ls (.ref (G.2.2.2 (1010 + i0)) :: .int i :: .ref a :: st) := by
  subst hw
  intro p e s m args below meth c H locs L C hA hN hP hD hS hL
  obtain ⟨cell, h1, h2, h3, h4⟩ := (C.2.2.2.2.2.2.2.2.1.2.2.1.1 i0 hi).1
  exact vb_astq (E := RJ0) (C := RJ0) C.1 C.2.1 C.2.2.2.2.2.2.2.1 hP hD hS q0 3 he rfl ⟨cell, by rw [hS.2.1 _ (Array.getElem?_eq_some_iff.mp h1).1 (fun z => h4 (hN _ z))]; exact h1, h2, h3⟩ (fun comp c0 e1 e2 => by cases e1.symm.trans e2; exact va_asg _ _) hin hd (fun H1 locs1 hP1 hD1 hS1 => k _ _ _ _ _ _ _ _ _ _ _ C hA hN hP1 hD1 hS1 hL)
end NWR
