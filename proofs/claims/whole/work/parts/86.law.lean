/-! THE CLAIM OUT OF ONE WALK OF THE LAW'S BODY. Your part is whole_start (and what it stands on); all else here is the same for every law, but numbers. -/
def R_law : String := "FirstStepsLaw"
def lw_P (b : Addr) (xs : List Int32) (args : Array Value) (s : State) : Prop := args = #[.ref b] ∧ s.IntsAt b xs ∧ xs.length ≤ 384 ∧ (Jvm.Cond.and given_1 narrow_1).before args s = true
def lw_Q (_ : Array Value) (s : State) (o : Outcome) (t : State) : Prop := o = .returned (some (.int 1)) ∧ Framed s o t [] 600000 7302250
def lw_Z (below : List Frame) (a : Array Value) (s : State) : State → Prop := fun t => ∃ o, t.status = .running ∧ Ended t below o ∧ lw_Q a s o t
/-- the law's own end, with 1 on the stack, nothing written that was there before, its room as the claim has it -/
theorem lw_ret {p : Program} {l : Launch} {e : Env} {s : State} {m : MethodId} {below : List Frame} {meth : Method} {c : Code} {b : Nat} (hx : p.tables.exec = Jvm.exec) (hb : c.code = code) (hr : meth.sig.returnType = ret) (hlocks : meth.locks = false) {pc : Nat} {H : Heap} {ls : Array Slot} (hdg : decode code pc = .ok (.ireturn, 1)) : W p l e room_1 s m #[Value.ref b] below meth c H [] 600000 7302250 (lw_Z below #[Value.ref b] s) (F0 m pc ls [.int 1]) := by
  intro T hT X
  obtain ⟨fs, hret, hrun, hended, hW, hframe⟩ := X.leave (v := some (.int 1)) (hlocks := hlocks) (fun h => by rw [hr] at h; cases h)
  have hmeth' : T.vm.method? m = some meth := X.method'
  refine ⟨T.setFrames fs, ?_, .returned (some (.int 1)), hrun, hended, rfl, ⟨_, rfl⟩, hW, hframe⟩
  jvm_step X.here [X.here.top, hx, hb, hdg, hmeth', hr, ret, narrow_b1]
  (try refine ⟨rfl, ?_⟩); (try refine ⟨rfl, ?_⟩)
  first | (intro acts; rw [hret _ acts rfl rfl rfl]) | rw [hret _ _ rfl rfl rfl]
  exact Steps.refl _
/-- what holds at the law's entry: the machine, the code, the tables' words (any of lw_tbl by 'hts w (by decide +kernel)'), the script of L ints xs at the cell b, what the Statement gives of the start (any of its parts by flat_of_before) -/
def lw_At (p : Program) (s : State) (m : MethodId) (meth : Method) (c : Code) (b L : Nat) (xs : Nat → Int32) : Prop :=
  p.tables.exec = Jvm.exec ∧ c.code = code ∧ meth.sig.returnType = ret ∧ c.maxLocals = 4 ∧ s.vm.findClass R_law = some m.cls ∧ (∀ w ∈ lw_tbl, w.before #[Value.ref b] s = true) ∧ va_X b L xs s s.heap ∧ b < s.heap.size ∧ meth.locks = false ∧ (Jvm.Cond.and given_1 narrow_1).before #[Value.ref b] s = true
/-- what stands in the law's walk -/
def LCtx (G : fGm) (b L : Nat) (xs : Nat → Int32) (p : Program) (s : State) (m : MethodId) (meth : Method) (c : Code) : Prop :=
  p.tables.exec = Jvm.exec ∧ c.code = cL_law ∧ meth.sig.returnType = ret ∧ c.maxLocals = 4 ∧ s.vm.findClass RL = some m.cls ∧ (∀ w ∈ W0, w.before #[Value.ref b] s = true) ∧ va_X b L xs s s.heap ∧ b < s.heap.size ∧ meth.locks = false ∧
  va_K G.2.1 vwCl (gT G) s ∧ Ro G s ∧ Ij G ∧ (∀ k, k < 105 → s.heap.size ≤ G.2.2.2 k) ∧ G.2.2.2 1030 = b
def LW (G : fGm) (b L : Nat) (xs : Nat → Int32) (σ : fSt) (τ : fLt) (pc : Nat) (ls : List (Nat × Value)) (st : List Value) : Prop :=
  ∀ (p : Program) (e : Env) (s : State) (m : MethodId) (below : List Frame) (meth : Method) (c : Code) (H : Heap) (locs : List Loc) (La : Array Slot),
    LCtx G b L xs p s m meth c → va_P G.2.1 vwCl (pic G σ τ) H → va_S (Reg G) s.heap H locs → lv_has La 4 (cL G ls) →
    W p G.1 e room_1 s m #[Value.ref b] below meth c H locs 600000 7302250 (lw_Z below #[Value.ref b] s) (F0 m pc La (st.map (cV G)))
section LWR
variable {G : fGm} {b L : Nat} {xs : Nat → Int32} {σ : fSt} {τ : fLt} {pc : Nat} {ls : List (Nat × Value)} {st : List Value}
theorem l_iadd {x y : Int32} (hd : decode cL_law pc = .ok (.iadd, 1)) (k : LW G b L xs σ τ (pc + 1) ls (.int (x + y) :: st)) : LW G b L xs σ τ pc ls (.int y :: .int x :: st) := by
  intro p e s m below meth c H locs La C hP hS hL
  exact lv_iadd C.1 C.2.1 hd  (k _ _ _ _ _ _ _ _ _ _ C hP hS hL)
theorem l_isub {x y : Int32} (hd : decode cL_law pc = .ok (.isub, 1)) (k : LW G b L xs σ τ (pc + 1) ls (.int (x - y) :: st)) : LW G b L xs σ τ pc ls (.int y :: .int x :: st) := by
  intro p e s m below meth c H locs La C hP hS hL
  exact lv_isub C.1 C.2.1 hd  (k _ _ _ _ _ _ _ _ _ _ C hP hS hL)
theorem l_iand {x y : Int32} (hd : decode cL_law pc = .ok (.iand, 1)) (k : LW G b L xs σ τ (pc + 1) ls (.int (x &&& y) :: st)) : LW G b L xs σ τ pc ls (.int y :: .int x :: st) := by
  intro p e s m below meth c H locs La C hP hS hL
  exact lv_iand C.1 C.2.1 hd  (k _ _ _ _ _ _ _ _ _ _ C hP hS hL)
theorem l_land {x y : Int64} (hd : decode cL_law pc = .ok (.land, 1)) (k : LW G b L xs σ τ (pc + 1) ls (.long (x &&& y) :: st)) : LW G b L xs σ τ pc ls (.long y :: .long x :: st) := by
  intro p e s m below meth c H locs La C hP hS hL
  exact lv_land C.1 C.2.1 hd  (k _ _ _ _ _ _ _ _ _ _ C hP hS hL)
theorem l_lor {x y : Int64} (hd : decode cL_law pc = .ok (.lor, 1)) (k : LW G b L xs σ τ (pc + 1) ls (.long (x ||| y) :: st)) : LW G b L xs σ τ pc ls (.long y :: .long x :: st) := by
  intro p e s m below meth c H locs La C hP hS hL
  exact lv_lor C.1 C.2.1 hd  (k _ _ _ _ _ _ _ _ _ _ C hP hS hL)
theorem l_lcmp {x y : Int64} (hd : decode cL_law pc = .ok (.lcmp, 1)) (k : LW G b L xs σ τ (pc + 1) ls (.int (lg_cmp x y) :: st)) : LW G b L xs σ τ pc ls (.long y :: .long x :: st) := by
  intro p e s m below meth c H locs La C hP hS hL
  exact W.lcmp C.1 C.2.1 hd  (k _ _ _ _ _ _ _ _ _ _ C hP hS hL)
theorem l_lshl {x : Int64} {y : Int32} (hd : decode cL_law pc = .ok (.lshl, 1)) (k : LW G b L xs σ τ (pc + 1) ls (.long (x <<< (y.toInt64 &&& 63)) :: st)) : LW G b L xs σ τ pc ls (.int y :: .long x :: st) := by
  intro p e s m below meth c H locs La C hP hS hL
  exact lv_lshl C.1 C.2.1 hd rfl (k _ _ _ _ _ _ _ _ _ _ C hP hS hL)
theorem l_i2l {x : Int32} (hd : decode cL_law pc = .ok (.i2l, 1)) (k : LW G b L xs σ τ (pc + 1) ls (.long x.toInt64 :: st)) : LW G b L xs σ τ pc ls (.int x :: st) := by
  intro p e s m below meth c H locs La C hP hS hL
  exact lv_i2l C.1 C.2.1 hd rfl (k _ _ _ _ _ _ _ _ _ _ C hP hS hL)
theorem l_iconst {n : Int} {v : Int32} (hd : decode cL_law pc = .ok ((.iconst n), 1)) (hv : Int32.ofInt n = v) (k : LW G b L xs σ τ (pc + 1) ls (.int v :: st)) : LW G b L xs σ τ pc ls st := by
  intro p e s m below meth c H locs La C hP hS hL
  exact lv_iconst C.1 C.2.1 hd hv (k _ _ _ _ _ _ _ _ _ _ C hP hS hL)
theorem l_bipush {n : Int} {v : Int32} (hd : decode cL_law pc = .ok ((.bipush n), 2)) (hv : (Int8.ofInt n).toInt32 = v) (k : LW G b L xs σ τ (pc + 2) ls (.int v :: st)) : LW G b L xs σ τ pc ls st := by
  intro p e s m below meth c H locs La C hP hS hL
  exact lv_bipush C.1 C.2.1 hd hv (k _ _ _ _ _ _ _ _ _ _ C hP hS hL)
theorem l_ldc2 {idx : Nat} {v : Int64} (hw : Cond.constantLong RL idx v ∈ W0) (hd : decode cL_law pc = .ok (.ldc2_w idx, 3)) (k : LW G b L xs σ τ (pc + 3) ls (.long v :: st)) : LW G b L xs σ τ pc ls st := by
  intro p e s m below meth c H locs La C hP hS hL
  exact lv_ldc2 C.1 C.2.1 C.2.2.2.2.1 (C.2.2.2.2.2.1 _ hw) hd (k _ _ _ _ _ _ _ _ _ _ C hP hS hL)
theorem l_iload_n {n : Fin 4} {x : Int32} (hd : decode cL_law pc = .ok ((.iload_n n), 1)) (hl : lget ls (n : Nat) = some (.int x)) (k : LW G b L xs σ τ (pc + 1) ls (.int x :: st)) : LW G b L xs σ τ pc ls st := by
  intro p e s m below meth c H locs La C hP hS hL
  exact lv_iload_n C.1 C.2.1 hd rfl (lget_at hL hl) (k _ _ _ _ _ _ _ _ _ _ C hP hS hL)
theorem l_aload_n {n : Fin 4} {x : Nat} (hd : decode cL_law pc = .ok ((.aload_n n), 1)) (hl : lget ls (n : Nat) = some (.ref x)) (k : LW G b L xs σ τ (pc + 1) ls (.ref x :: st)) : LW G b L xs σ τ pc ls st := by
  intro p e s m below meth c H locs La C hP hS hL
  exact lv_aload_n C.1 C.2.1 hd rfl (lget_at hL hl) (k _ _ _ _ _ _ _ _ _ _ C hP hS hL)
theorem l_iinc {i : Nat} {n : Int} {x v : Int32} {ls1 : List (Nat × Value)} (hd : decode cL_law pc = .ok (.iinc i n, 3)) (hg : lget ls i = some (.int x)) (hv : x + Int32.ofInt n = v) (hn : i < 4) (hl : lst ls i (.int v) = ls1) (k : LW G b L xs σ τ (pc + 3) ls1 st) : LW G b L xs σ τ pc ls st := by
  intro p e s m below meth c H locs La C hP hS hL
  subst hl
  obtain ⟨j, hj⟩ := lget_ex hg
  exact lv_iinc (k := j) C.1 C.2.1 hd hL (by unfold cL; rw [List.getElem?_map, hj]; rfl) hv hn (cL_lst G ls i (.int v)) (fun L1 hL1 => k _ _ _ _ _ _ _ _ _ _ C hP hS hL1)
theorem l_goto {off : Int} {tgt : Nat} (hd : decode cL_law pc = .ok (.goto off, 3)) (ht : (pc : Int) + off = (tgt : Int)) (k : LW G b L xs σ τ tgt ls st) : LW G b L xs σ τ pc ls st := by
  intro p e s m below meth c H locs La C hP hS hL
  exact lv_goto C.1 C.2.1 hd ht (k _ _ _ _ _ _ _ _ _ _ C hP hS hL)
theorem l_icmp_gt {x y : Int32} {off : Int} {tgt : Nat} (hd : decode cL_law pc = .ok (.if_icmp .gt off, 3)) (ht : (pc : Int) + off = (tgt : Int)) (kt : ¬ x ≤ y → LW G b L xs σ τ tgt ls st) (kf : x ≤ y → LW G b L xs σ τ (pc + 3) ls st) : LW G b L xs σ τ pc ls (.int y :: .int x :: st) := by
  intro p e s m below meth c H locs La C hP hS hL
  exact lv_icmp_gt C.1 C.2.1 hd ht (fun h => kt (by first | exact h | exact Int32.not_le.mpr h) _ _ _ _ _ _ _ _ _ _ C hP hS hL) (fun h => kf (by first | exact h | exact Int32.not_lt.mp h) _ _ _ _ _ _ _ _ _ _ C hP hS hL)
theorem l_icmp_eq {x y : Int32} {off : Int} {tgt : Nat} (hd : decode cL_law pc = .ok (.if_icmp .eq off, 3)) (ht : (pc : Int) + off = (tgt : Int)) (h : x = y) (kt : LW G b L xs σ τ tgt ls st) : LW G b L xs σ τ pc ls (.int y :: .int x :: st) := by
  intro p e s m below meth c H locs La C hP hS hL
  exact lv_icmp_eq C.1 C.2.1 hd ht (fun _ => kt _ _ _ _ _ _ _ _ _ _ C hP hS hL) (fun h9 => absurd h h9)
theorem l_if_eq {x : Int32} {off : Int} {tgt : Nat} (hd : decode cL_law pc = .ok (.ifCond .eq off, 3)) (ht : (pc : Int) + off = (tgt : Int)) (h : x = 0) (kt : LW G b L xs σ τ tgt ls st) : LW G b L xs σ τ pc ls (.int x :: st) := by
  intro p e s m below meth c H locs La C hP hS hL
  exact lv_if_eq C.1 C.2.1 hd ht (fun _ => kt _ _ _ _ _ _ _ _ _ _ C hP hS hL) (fun h9 => absurd h h9)
theorem l_tabIn {dflt lo hi : Int} {offs : Array Int} {len tgt : Nat} {x v : Int32} {off : Int} (hd : decode cL_law pc = .ok (.tableswitch dflt lo hi offs, len)) (hx : x = v) (h1 : ¬ v.toInt < lo) (h2 : ¬ hi < v.toInt) (ho : offs[(v.toInt - lo).toNat]? = some off) (ht : (pc : Int) + off = (tgt : Int))
    (k : LW G b L xs σ τ tgt ls st) : LW G b L xs σ τ pc ls (.int x :: st) := by
  intro p e s m below meth c H locs La C hP hS hL
  subst hx
  exact lv_tableIn C.1 C.2.1 hd h1 h2 ho ht (k _ _ _ _ _ _ _ _ _ _ C hP hS hL)
theorem l_tabOut {dflt lo hi : Int} {offs : Array Int} {len tgt : Nat} {x : Int32} (hd : decode cL_law pc = .ok (.tableswitch dflt lo hi offs, len)) (ht : (pc : Int) + dflt = (tgt : Int)) (h : x.toInt < lo ∨ hi < x.toInt)
    (k : LW G b L xs σ τ tgt ls st) : LW G b L xs σ τ pc ls (.int x :: st) := by
  intro p e s m below meth c H locs La C hP hS hL
  exact lv_tableOut C.1 C.2.1 hd h ht (k _ _ _ _ _ _ _ _ _ _ C hP hS hL)
theorem l_reg {p : Program} {s : State} {m : MethodId} {meth : Method} {c : Code} (C : LCtx G b L xs p s m meth c) : ∀ q, Reg G q → s.heap.size ≤ q := fun q ⟨k, hk, e⟩ => e ▸ C.2.2.2.2.2.2.2.2.2.2.2.2.1 k hk
theorem l_sld {i : Int32} {j : Nat} (hj : i = nI j) (hjL : j < L) (hL9 : L < 2 ^ 31) (hd : decode cL_law pc = .ok (.iaload, 1)) (k : LW G b L xs σ τ (pc + 1) ls (.int (xs j) :: st)) : LW G b L xs σ τ pc ls (.int i :: .ref 1030 :: st) := by
  subst hj
  intro p e s m below meth c H locs La C hP hS hL
  have hb : ¬ Reg G b := fun h => Nat.not_le.mpr C.2.2.2.2.2.2.2.1 (l_reg C b h)
  have := va_sld C.1 C.2.1 C.2.2.2.2.2.2.1 C.2.2.2.2.2.2.2.1 hb hS (i := nI j) (vp_in_nI hjL hL9) hd (by rw [nI_clamp (Nat.lt_trans hjL hL9)]; exact (k _ e _ _ below _ _ _ _ _ C hP hS hL))
  show W _ _ _ _ _ _ _ _ _ _ _ _ _ _ _ (F0 m pc La (Value.int (nI j) :: Value.ref (G.2.2.2 1030) :: st.map (cV G)))
  rw [C.2.2.2.2.2.2.2.2.2.2.2.2.2]
  exact this
theorem l_slen (hd : decode cL_law pc = .ok (.arraylength, 1)) (k : LW G b L xs σ τ (pc + 1) ls (.int (nI L) :: st)) : LW G b L xs σ τ pc ls (.ref 1030 :: st) := by
  intro p e s m below meth c H locs La C hP hS hL
  have hb : ¬ Reg G b := fun h => Nat.not_le.mpr C.2.2.2.2.2.2.2.1 (l_reg C b h)
  have := va_slen C.1 C.2.1 C.2.2.2.2.2.2.1 C.2.2.2.2.2.2.2.1 hb hS hd (k _ e _ _ below _ _ _ _ _ C hP hS hL)
  show W _ _ _ _ _ _ _ _ _ _ _ _ _ _ _ (F0 m pc La (Value.ref (G.2.2.2 1030) :: st.map (cV G)))
  rw [C.2.2.2.2.2.2.2.2.2.2.2.2.2]
  exact this
theorem l_end (hd : decode cL_law pc = .ok (.ireturn, 1)) : LW G b L xs σ τ pc ls [.int 1] := by
  intro p e s m below meth c H locs La C hP hS hL
  refine va_forget (fun q hq => l_reg C _ (hS.2.2 q hq)) ?_
  exact lw_ret C.1 C.2.1 C.2.2.1 C.2.2.2.2.2.2.2.2.1 hd
theorem l_go {Q' : Option Value → fSt → fLt → Prop} {p : Program} {e : Env} {s : State} {m : MethodId} {a : Array Value} {below : List Frame} {meth : Method} {c : Code} {H : Heap} {locs : List Loc} {La : Array Slot} {stc : List Value}
    (C : LCtx G b L xs p s m meth c) (hS : va_S (Reg G) s.heap H locs) (hL : lv_has La 4 (cL G ls))
    (run : va_Run p G.1 e room_1 s m #[Value.ref b] below meth c H locs 600000 7302250 0 0 (F0 m pc La stc) (st.map (cV G)) (QcA G Q' a) (Reg G))
    (kk : ∀ v σ' τ', Q' v σ' τ' → LW G b L xs σ' τ' (pc + 3) ls (v.toList ++ st)) : W p G.1 e room_1 s m #[Value.ref b] below meth c H locs 600000 7302250 (lw_Z below #[Value.ref b] s) (F0 m pc La stc) := by
  intro T hT X
  obtain ⟨v, st₀, t, T', L', h0, X', hL', e1, e2, ⟨⟨v', σ', τ', hv, hq, hp, hz, hk⟩, stp⟩⟩ := run T hT X
  rw [h0] at hz hk
  have hv : v = v'.map (cV G) := by injection hv
  subst hv
  have hS' : va_S (Reg G) s.heap T'.heap (locs ++ L') := ⟨Nat.le_trans hS.1 (by rw [e1]; exact hz), fun q h1 h2 => by
      rw [e1, hk q (Nat.lt_of_lt_of_le h1 hS.1) h2]; exact hS.2.1 q h1 h2, fun q hq => by
      rcases List.mem_append.mp hq with h | h
      · exact hS.2.2 q h
      · exact hL' q h⟩
  have kk1 := kk v' σ' τ' hq p e s m below meth c _ _ La C (by rw [e1]; exact hp) hS' hL
  obtain ⟨t2, a1, b1⟩ := kk1 T' rfl X'
  refine ⟨t2, stp t2 ?_, b1⟩
  have hst : (v'.map (cV G)).toList ++ st.map (cV G) = (v'.toList ++ st).map (cV G) := by
    cases v' <;> rfl
  rw [hst]
  exact a1
theorem l_callV {I' : fMI} {d' n idx k0 ci : Nat} {As st0 vs : List Value} {Q' : Option Value → fSt → fLt → Prop} (hlk : Lk RL idx I'.1) (hc : CalV I' n) (hd : decode cL_law pc = .ok (.invokevirtual idx, 3)) (hm : MS G I' d' (.ref k0 :: As) σ τ Q')
    (hst : st0 = As.reverse ++ .ref k0 :: st) (hn : As.length = n) (hb9 : k0 < 105) (hab : aent k0 (σ k0) (τ k0) = aO ci vs) (hcl : (vwCl[ci]?).map (fun q => q.1) = some I'.1.cls) (hdd : d' ≤ 1000) (hnl : I'.2.2.1 ≤ 45) (hs : (st.map fun v => v.category).sum ≤ 8)
    (kk : ∀ v σ' τ', Q' v σ' τ' → LW G b L xs σ' τ' (pc + 3) ls (v.toList ++ st)) : LW G b L xs σ τ pc ls st0 := by
  subst hst
  intro p e s m below meth c H locs La C hP hS hL
  obtain ⟨hx, hb, hr, hml, hown, hts, hX, hbl, hlocks, hK, hRo, hI, hnew, hb0⟩ := id C
  obtain ⟨hc1, hc2, hc3, hc5, hc4⟩ := hc
  have hG := ms_good hc1
  have hrecv : ∃ cellB : Cell, H[G.2.2.2 k0]? = some cellB ∧ cellB.vm.isStatics = false ∧ s.vm.findClass I'.1.cls = some cellB.cls := by
    cases hq : vwCl[ci]? with
    | none => rw [hq] at hcl; cases hcl
    | some q =>
      rw [hq] at hcl
      have hq1 : q.1 = I'.1.cls := Option.some.inj hcl
      rw [← hq1]
      exact va_recv hK hP hq (pic_at hb9 hab)
  have hpre : PreV s H I'.1.cls (G.2.2.2 k0) (va_Pc ((Value.ref k0 :: As).map (cV G)) (fun U => va_P G.2.1 vwCl (pic G σ τ) U.heap ∧ va_K G.2.1 vwCl (gT G) U ∧ Ro G U ∧ Ij G)) (As.map (cV G)) :=
    ⟨ms_blind G _ σ τ, hrecv, fun U hU hW => ⟨rfl, by rw [hU]; exact hP, va_K.moved hW.alike hK, Ro.warm hW (fun a h1 h2 => by rw [hU]; exact hS.2.1 a h1 h2) hRo, hI⟩⟩
  have hR : (rmD d').frames + 1 ≤ room_1.frames ∧ 8 + (I'.2.2.1 + 11) + (rmD d').locals ≤ room_1.locals := ⟨by show d' + 1 ≤ 2048; omega, by show 8 + (I'.2.2.1 + 11) + 64 * d' ≤ 84000; omega⟩
  have hstk : (F0 m pc La ((As.reverse ++ Value.ref k0 :: st).map (cV G))).stack = (As.map (cV G)).reverse ++ Value.ref (G.2.2.2 k0) :: st.map (cV G) := by
    show (As.reverse ++ Value.ref k0 :: st).map (cV G) = _
    rw [List.map_append, List.map_reverse]
    rfl
  have hlen : (As.map (cV G)).length = n := by rw [List.length_map]; exact hn
  refine l_go C hS hL (a := (Value.ref (G.2.2.2 k0) :: As.map (cV G)).toArray) ?_ kk
  rcases hlk with hlk | ⟨host, hlk⟩
  · exact va_runV (n := n) ⟨hx, hb, hml, hown, hts⟩ hm ⟨callB_of n hts hG rfl rfl rfl (hts _ hc2) (hts _ hlk) hc4 hR, hts _ hc3, hts _ hc5⟩ hpre rfl hlen hL.1 hstk (lv_room (by rw [cV_cats]; exact hs)) hd ⟨Nat.le_refl _, Nat.le_refl _⟩
  · exact va_runVN (n := n) ⟨hx, hb, hml, hown, hts⟩ hm ⟨va_cnB n hts hG rfl rfl rfl (hRo.2.2.2.2.2 _ hlk) (hts _ hc2) hc4 hR, hts _ hc3, hts _ hc5⟩ hpre rfl hlen hL.1 hstk (lv_room (by rw [cV_cats]; exact hs)) hd ⟨Nat.le_refl _, Nat.le_refl _⟩
end LWR
