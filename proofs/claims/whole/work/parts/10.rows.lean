section VWROWS
variable {G : fGm} {I : fMI} {Q : Option Value → fSt → fLt → Prop} {d : Nat} {σ : fSt} {τ : fLt} {pc : Nat} {ls : List (Nat × Value)} {st : List Value}
theorem v_iadd {x y : Int32} (hd : decode I.2.1 pc = .ok (.iadd, 1)) (k : VW G I Q d σ τ (pc + 1) ls (.int (x + y) :: st)) : VW G I Q d σ τ pc ls (.int y :: .int x :: st) := by
  intro p e s m args below meth c H locs L C hP hS hL
  exact lv_iadd C.1 C.2.1 hd (k _ _ _ _ _ _ _ _ _ _ _ C hP hS hL)
theorem v_isub {x y : Int32} (hd : decode I.2.1 pc = .ok (.isub, 1)) (k : VW G I Q d σ τ (pc + 1) ls (.int (x - y) :: st)) : VW G I Q d σ τ pc ls (.int y :: .int x :: st) := by
  intro p e s m args below meth c H locs L C hP hS hL
  exact lv_isub C.1 C.2.1 hd (k _ _ _ _ _ _ _ _ _ _ _ C hP hS hL)
theorem v_imul {x y : Int32} (hd : decode I.2.1 pc = .ok (.imul, 1)) (k : VW G I Q d σ τ (pc + 1) ls (.int (x * y) :: st)) : VW G I Q d σ τ pc ls (.int y :: .int x :: st) := by
  intro p e s m args below meth c H locs L C hP hS hL
  exact lv_imul C.1 C.2.1 hd (k _ _ _ _ _ _ _ _ _ _ _ C hP hS hL)
theorem v_iand {x y : Int32} (hd : decode I.2.1 pc = .ok (.iand, 1)) (k : VW G I Q d σ τ (pc + 1) ls (.int (x &&& y) :: st)) : VW G I Q d σ τ pc ls (.int y :: .int x :: st) := by
  intro p e s m args below meth c H locs L C hP hS hL
  exact lv_iand C.1 C.2.1 hd (k _ _ _ _ _ _ _ _ _ _ _ C hP hS hL)
theorem v_ior {x y : Int32} (hd : decode I.2.1 pc = .ok (.ior, 1)) (k : VW G I Q d σ τ (pc + 1) ls (.int (x ||| y) :: st)) : VW G I Q d σ τ pc ls (.int y :: .int x :: st) := by
  intro p e s m args below meth c H locs L C hP hS hL
  exact lv_ior C.1 C.2.1 hd (k _ _ _ _ _ _ _ _ _ _ _ C hP hS hL)
theorem v_ixor {x y : Int32} (hd : decode I.2.1 pc = .ok (.ixor, 1)) (k : VW G I Q d σ τ (pc + 1) ls (.int (x ^^^ y) :: st)) : VW G I Q d σ τ pc ls (.int y :: .int x :: st) := by
  intro p e s m args below meth c H locs L C hP hS hL
  exact lv_ixor C.1 C.2.1 hd (k _ _ _ _ _ _ _ _ _ _ _ C hP hS hL)
theorem v_ladd {x y : Int64} (hd : decode I.2.1 pc = .ok (.ladd, 1)) (k : VW G I Q d σ τ (pc + 1) ls (.long (x + y) :: st)) : VW G I Q d σ τ pc ls (.long y :: .long x :: st) := by
  intro p e s m args below meth c H locs L C hP hS hL
  exact lv_ladd C.1 C.2.1 hd (k _ _ _ _ _ _ _ _ _ _ _ C hP hS hL)
theorem v_lsub {x y : Int64} (hd : decode I.2.1 pc = .ok (.lsub, 1)) (k : VW G I Q d σ τ (pc + 1) ls (.long (x - y) :: st)) : VW G I Q d σ τ pc ls (.long y :: .long x :: st) := by
  intro p e s m args below meth c H locs L C hP hS hL
  exact lv_lsub C.1 C.2.1 hd (k _ _ _ _ _ _ _ _ _ _ _ C hP hS hL)
theorem v_lmul {x y : Int64} (hd : decode I.2.1 pc = .ok (.lmul, 1)) (k : VW G I Q d σ τ (pc + 1) ls (.long (x * y) :: st)) : VW G I Q d σ τ pc ls (.long y :: .long x :: st) := by
  intro p e s m args below meth c H locs L C hP hS hL
  exact lv_lmul C.1 C.2.1 hd (k _ _ _ _ _ _ _ _ _ _ _ C hP hS hL)
theorem v_land {x y : Int64} (hd : decode I.2.1 pc = .ok (.land, 1)) (k : VW G I Q d σ τ (pc + 1) ls (.long (x &&& y) :: st)) : VW G I Q d σ τ pc ls (.long y :: .long x :: st) := by
  intro p e s m args below meth c H locs L C hP hS hL
  exact lv_land C.1 C.2.1 hd (k _ _ _ _ _ _ _ _ _ _ _ C hP hS hL)
theorem v_lor {x y : Int64} (hd : decode I.2.1 pc = .ok (.lor, 1)) (k : VW G I Q d σ τ (pc + 1) ls (.long (x ||| y) :: st)) : VW G I Q d σ τ pc ls (.long y :: .long x :: st) := by
  intro p e s m args below meth c H locs L C hP hS hL
  exact lv_lor C.1 C.2.1 hd (k _ _ _ _ _ _ _ _ _ _ _ C hP hS hL)
theorem v_lxor {x y : Int64} (hd : decode I.2.1 pc = .ok (.lxor, 1)) (k : VW G I Q d σ τ (pc + 1) ls (.long (x ^^^ y) :: st)) : VW G I Q d σ τ pc ls (.long y :: .long x :: st) := by
  intro p e s m args below meth c H locs L C hP hS hL
  exact lv_lxor C.1 C.2.1 hd (k _ _ _ _ _ _ _ _ _ _ _ C hP hS hL)
theorem v_idiv {x y : Int32} (hd : decode I.2.1 pc = .ok (.idiv, 1)) (hn : ¬ y = 0) (k : VW G I Q d σ τ (pc + 1) ls (.int (x / y) :: st)) : VW G I Q d σ τ pc ls (.int y :: .int x :: st) := by
  intro p e s m args below meth c H locs L C hP hS hL
  exact lv_idiv C.1 C.2.1 hd hn (k _ _ _ _ _ _ _ _ _ _ _ C hP hS hL)
theorem v_irem {x y : Int32} (hd : decode I.2.1 pc = .ok (.irem, 1)) (hn : ¬ y = 0) (k : VW G I Q d σ τ (pc + 1) ls (.int (x - x / y * y) :: st)) : VW G I Q d σ τ pc ls (.int y :: .int x :: st) := by
  intro p e s m args below meth c H locs L C hP hS hL
  exact lv_irem C.1 C.2.1 hd hn (k _ _ _ _ _ _ _ _ _ _ _ C hP hS hL)
theorem v_ldiv {x y : Int64} (hd : decode I.2.1 pc = .ok (.ldiv, 1)) (hn : ¬ y = 0) (k : VW G I Q d σ τ (pc + 1) ls (.long (x / y) :: st)) : VW G I Q d σ τ pc ls (.long y :: .long x :: st) := by
  intro p e s m args below meth c H locs L C hP hS hL
  exact lv_ldiv C.1 C.2.1 hd hn (k _ _ _ _ _ _ _ _ _ _ _ C hP hS hL)
theorem v_lrem {x y : Int64} (hd : decode I.2.1 pc = .ok (.lrem, 1)) (hn : ¬ y = 0) (k : VW G I Q d σ τ (pc + 1) ls (.long (x - x / y * y) :: st)) : VW G I Q d σ τ pc ls (.long y :: .long x :: st) := by
  intro p e s m args below meth c H locs L C hP hS hL
  exact lv_lrem C.1 C.2.1 hd hn (k _ _ _ _ _ _ _ _ _ _ _ C hP hS hL)
theorem v_ineg {x : Int32} (hd : decode I.2.1 pc = .ok (.ineg, 1)) (k : VW G I Q d σ τ (pc + 1) ls (.int (-x) :: st)) : VW G I Q d σ τ pc ls (.int x :: st) := by
  intro p e s m args below meth c H locs L C hP hS hL
  exact lv_ineg C.1 C.2.1 hd (k _ _ _ _ _ _ _ _ _ _ _ C hP hS hL)
theorem v_iushr {x y : Int32} (hd : decode I.2.1 pc = .ok (.iushr, 1))  (k : VW G I Q d σ τ (pc + 1) ls (.int ((x.toUInt32 >>> (y.toUInt32 &&& Int32.toUInt32 31)).toInt32) :: st)) : VW G I Q d σ τ pc ls (.int y :: .int x :: st) := by
  intro p e s m args below meth c H locs L C hP hS hL
  exact lv_iushr C.1 C.2.1 hd rfl (k _ _ _ _ _ _ _ _ _ _ _ C hP hS hL)
theorem v_lushr {x : Int64} {y : Int32} (hd : decode I.2.1 pc = .ok (.lushr, 1))  (k : VW G I Q d σ τ (pc + 1) ls (.long ((x.toUInt64 >>> (y.toInt64.toUInt64 &&& Int64.toUInt64 63)).toInt64) :: st)) : VW G I Q d σ τ pc ls (.int y :: .long x :: st) := by
  intro p e s m args below meth c H locs L C hP hS hL
  exact lv_lushr C.1 C.2.1 hd rfl (k _ _ _ _ _ _ _ _ _ _ _ C hP hS hL)
theorem v_lshl {x : Int64} {y : Int32} (hd : decode I.2.1 pc = .ok (.lshl, 1))  (k : VW G I Q d σ τ (pc + 1) ls (.long (x <<< (y.toInt64 &&& 63)) :: st)) : VW G I Q d σ τ pc ls (.int y :: .long x :: st) := by
  intro p e s m args below meth c H locs L C hP hS hL
  exact lv_lshl C.1 C.2.1 hd rfl (k _ _ _ _ _ _ _ _ _ _ _ C hP hS hL)
theorem v_lshr {x : Int64} {y : Int32} (hd : decode I.2.1 pc = .ok (.lshr, 1))  (k : VW G I Q d σ τ (pc + 1) ls (.long (x >>> (y.toInt64 &&& 63)) :: st)) : VW G I Q d σ τ pc ls (.int y :: .long x :: st) := by
  intro p e s m args below meth c H locs L C hP hS hL
  exact lv_lshr C.1 C.2.1 hd rfl (k _ _ _ _ _ _ _ _ _ _ _ C hP hS hL)
theorem v_i2l {x : Int32} (hd : decode I.2.1 pc = .ok (.i2l, 1))  (k : VW G I Q d σ τ (pc + 1) ls (.long x.toInt64 :: st)) : VW G I Q d σ τ pc ls (.int x :: st) := by
  intro p e s m args below meth c H locs L C hP hS hL
  exact lv_i2l C.1 C.2.1 hd rfl (k _ _ _ _ _ _ _ _ _ _ _ C hP hS hL)
theorem v_l2i {x : Int64} (hd : decode I.2.1 pc = .ok (.l2i, 1))  (k : VW G I Q d σ τ (pc + 1) ls (.int x.toInt32 :: st)) : VW G I Q d σ τ pc ls (.long x :: st) := by
  intro p e s m args below meth c H locs L C hP hS hL
  exact lv_l2i C.1 C.2.1 hd rfl (k _ _ _ _ _ _ _ _ _ _ _ C hP hS hL)
theorem v_i2b {x : Int32} (hd : decode I.2.1 pc = .ok (.i2b, 1))  (k : VW G I Q d σ τ (pc + 1) ls (.int x.toInt8.toInt32 :: st)) : VW G I Q d σ τ pc ls (.int x :: st) := by
  intro p e s m args below meth c H locs L C hP hS hL
  exact lv_i2b C.1 C.2.1 hd rfl (k _ _ _ _ _ _ _ _ _ _ _ C hP hS hL)
theorem v_i2s {x : Int32} (hd : decode I.2.1 pc = .ok (.i2s, 1))  (k : VW G I Q d σ τ (pc + 1) ls (.int x.toInt16.toInt32 :: st)) : VW G I Q d σ τ pc ls (.int x :: st) := by
  intro p e s m args below meth c H locs L C hP hS hL
  exact lv_i2s C.1 C.2.1 hd rfl (k _ _ _ _ _ _ _ _ _ _ _ C hP hS hL)
theorem v_i2c {x : Int32} (hd : decode I.2.1 pc = .ok (.i2c, 1))  (k : VW G I Q d σ τ (pc + 1) ls (.int ((x.toUInt32 % 65536).toInt32) :: st)) : VW G I Q d σ τ pc ls (.int x :: st) := by
  intro p e s m args below meth c H locs L C hP hS hL
  exact lv_i2c C.1 C.2.1 hd rfl (k _ _ _ _ _ _ _ _ _ _ _ C hP hS hL)
theorem v_lcmp {x y : Int64} (hd : decode I.2.1 pc = .ok (.lcmp, 1)) (k : VW G I Q d σ τ (pc + 1) ls (.int (lg_cmp x y) :: st)) : VW G I Q d σ τ pc ls (.long y :: .long x :: st) := by
  intro p e s m args below meth c H locs L C hP hS hL
  exact W.lcmp C.1 C.2.1 hd (k _ _ _ _ _ _ _ _ _ _ _ C hP hS hL)
theorem v_iconst {n : Int} {v : Int32} (hd : decode I.2.1 pc = .ok ((.iconst n), 1)) (hv : Int32.ofInt n = v) (k : VW G I Q d σ τ (pc + 1) ls (.int v :: st)) : VW G I Q d σ τ pc ls st := by
  intro p e s m args below meth c H locs L C hP hS hL
  exact lv_iconst C.1 C.2.1 hd hv (k _ _ _ _ _ _ _ _ _ _ _ C hP hS hL)
theorem v_bipush {n : Int} {v : Int32} (hd : decode I.2.1 pc = .ok ((.bipush n), 2)) (hv : (Int8.ofInt n).toInt32 = v) (k : VW G I Q d σ τ (pc + 2) ls (.int v :: st)) : VW G I Q d σ τ pc ls st := by
  intro p e s m args below meth c H locs L C hP hS hL
  exact lv_bipush C.1 C.2.1 hd hv (k _ _ _ _ _ _ _ _ _ _ _ C hP hS hL)
theorem v_sipush {n : Int} {v : Int32} (hd : decode I.2.1 pc = .ok ((.sipush n), 3)) (hv : (Int16.ofInt n).toInt32 = v) (k : VW G I Q d σ τ (pc + 3) ls (.int v :: st)) : VW G I Q d σ τ pc ls st := by
  intro p e s m args below meth c H locs L C hP hS hL
  exact lv_sipush C.1 C.2.1 hd hv (k _ _ _ _ _ _ _ _ _ _ _ C hP hS hL)
theorem v_lconst {n : Fin 2} {v : Int64} (hd : decode I.2.1 pc = .ok ((.lconst n), 1)) (hv : Int64.ofNat (n : Nat) = v) (k : VW G I Q d σ τ (pc + 1) ls (.long v :: st)) : VW G I Q d σ τ pc ls st := by
  intro p e s m args below meth c H locs L C hP hS hL
  exact lv_lconst C.1 C.2.1 hd hv (k _ _ _ _ _ _ _ _ _ _ _ C hP hS hL)
def lget : List (Nat × Value) → Nat → Option Value
  | [], _ => none
  | (i, v) :: l, n => if i = n then some v else lget l n
theorem lget_ex {ls : List (Nat × Value)} {n : Nat} {v : Value} (h : lget ls n = some v) : ∃ k : Nat, ls[k]? = some (n, v) := by
  induction ls with
  | nil => cases h
  | cons q l ih =>
    obtain ⟨i, w⟩ := q
    simp only [lget] at h
    split at h
    · rename_i hi
      subst hi
      cases h
      exact ⟨0, rfl⟩
    · obtain ⟨k, hk⟩ := ih h
      exact ⟨k + 1, by simpa using hk⟩
theorem lget_at {L : Array Slot} {nL n : Nat} {v : Value} (h : lv_has L nL (cL G ls)) (hg : lget ls n = some v) : L[n]? = some (.val (cV G v)) := by
  obtain ⟨k, hk⟩ := lget_ex hg
  exact lv_at h k (by unfold cL; rw [List.getElem?_map, hk]; rfl)
def lst (ls : List (Nat × Value)) (i : Nat) (v : Value) : List (Nat × Value) := (i, v) :: ls.filter (fun q => !(q.1 == i) && !(q.1 + 1 == i && q.2.category == 2))
def lst2 (ls : List (Nat × Value)) (i : Nat) (v : Value) : List (Nat × Value) := (i, v) :: ls.filter (fun q => !(q.1 == i) && (!(q.1 == i + 1) && !(q.1 + 1 == i && q.2.category == 2)))
theorem cL_lst (G : fGm) (ls : List (Nat × Value)) (i : Nat) (v : Value) : (i, cV G v) :: (cL G ls).filter (fun q => !(q.1 == i) && !(q.1 + 1 == i && q.2.category == 2)) = cL G (lst ls i v) := by
  unfold lst cL
  rw [List.map_cons, List.filter_map]
  congr 2
  apply List.filter_congr
  intro q _
  simp only [Function.comp, cV_cat]
theorem cL_lst2 (G : fGm) (ls : List (Nat × Value)) (i : Nat) (v : Value) : (i, cV G v) :: (cL G ls).filter (fun q => !(q.1 == i) && (!(q.1 == i + 1) && !(q.1 + 1 == i && q.2.category == 2))) = cL G (lst2 ls i v) := by
  unfold lst2 cL
  rw [List.map_cons, List.filter_map]
  congr 2
  apply List.filter_congr
  intro q _
  simp only [Function.comp, cV_cat]
theorem v_iload_n {n : Fin 4} {x : Int32} (hd : decode I.2.1 pc = .ok ((.iload_n n), 1)) (hl : lget ls (n : Nat) = some (.int x)) (k : VW G I Q d σ τ (pc + 1) ls (.int x :: st)) : VW G I Q d σ τ pc ls st := by
  intro p e s m args below meth c H locs L C hP hS hL
  exact lv_iload_n C.1 C.2.1 hd rfl (lget_at hL hl) (k _ _ _ _ _ _ _ _ _ _ _ C hP hS hL)
theorem v_iload {n : Nat} {x : Int32} (hd : decode I.2.1 pc = .ok ((.iload n), 2)) (hl : lget ls n = some (.int x)) (k : VW G I Q d σ τ (pc + 2) ls (.int x :: st)) : VW G I Q d σ τ pc ls st := by
  intro p e s m args below meth c H locs L C hP hS hL
  exact lv_iload C.1 C.2.1 hd (lget_at hL hl) (k _ _ _ _ _ _ _ _ _ _ _ C hP hS hL)
theorem v_lload_n {n : Fin 4} {x : Int64} (hd : decode I.2.1 pc = .ok ((.lload_n n), 1)) (hl : lget ls (n : Nat) = some (.long x)) (k : VW G I Q d σ τ (pc + 1) ls (.long x :: st)) : VW G I Q d σ τ pc ls st := by
  intro p e s m args below meth c H locs L C hP hS hL
  exact lv_lload_n C.1 C.2.1 hd rfl (lget_at hL hl) (k _ _ _ _ _ _ _ _ _ _ _ C hP hS hL)
theorem v_lload {n : Nat} {x : Int64} (hd : decode I.2.1 pc = .ok ((.lload n), 2)) (hl : lget ls n = some (.long x)) (k : VW G I Q d σ τ (pc + 2) ls (.long x :: st)) : VW G I Q d σ τ pc ls st := by
  intro p e s m args below meth c H locs L C hP hS hL
  exact lv_lload C.1 C.2.1 hd (lget_at hL hl) (k _ _ _ _ _ _ _ _ _ _ _ C hP hS hL)
theorem v_aload_n {n : Fin 4} {x : Nat} (hd : decode I.2.1 pc = .ok ((.aload_n n), 1)) (hl : lget ls (n : Nat) = some (.ref x)) (k : VW G I Q d σ τ (pc + 1) ls (.ref x :: st)) : VW G I Q d σ τ pc ls st := by
  intro p e s m args below meth c H locs L C hP hS hL
  exact lv_aload_n C.1 C.2.1 hd rfl (lget_at hL hl) (k _ _ _ _ _ _ _ _ _ _ _ C hP hS hL)
theorem v_aload {n : Nat} {x : Nat} (hd : decode I.2.1 pc = .ok ((.aload n), 2)) (hl : lget ls n = some (.ref x)) (k : VW G I Q d σ τ (pc + 2) ls (.ref x :: st)) : VW G I Q d σ τ pc ls st := by
  intro p e s m args below meth c H locs L C hP hS hL
  exact lv_aload C.1 C.2.1 hd (lget_at hL hl) (k _ _ _ _ _ _ _ _ _ _ _ C hP hS hL)
theorem v_aload_nN {n : Fin 4} (hd : decode I.2.1 pc = .ok (.aload_n n, 1)) (hl : lget ls (n : Nat) = some .null) (k : VW G I Q d σ τ (pc + 1) ls (.null :: st)) : VW G I Q d σ τ pc ls st := by
  intro p e s m args below meth c H locs L C hP hS hL
  exact lv_aload_nN C.1 C.2.1 hd rfl (lget_at hL hl) (k _ _ _ _ _ _ _ _ _ _ _ C hP hS hL)
theorem v_aloadN {n : Nat} (hd : decode I.2.1 pc = .ok (.aload n, 2)) (hl : lget ls n = some .null) (k : VW G I Q d σ τ (pc + 2) ls (.null :: st)) : VW G I Q d σ τ pc ls st := by
  intro p e s m args below meth c H locs L C hP hS hL
  exact lv_aloadN C.1 C.2.1 hd (lget_at hL hl) (k _ _ _ _ _ _ _ _ _ _ _ C hP hS hL)
theorem v_istore_n {n : Fin 4} {x : Int32} {ls1 : List (Nat × Value)} (hd : decode I.2.1 pc = .ok (.istore_n n, 1)) (hn : (n : Nat) < I.2.2.1) (hl : lst ls (n : Nat) (.int x) = ls1) (k : VW G I Q d σ τ (pc + 1) ls1 st) : VW G I Q d σ τ pc ls ((.int x) :: st) := by
  intro p e s m args below meth c H locs L C hP hS hL
  subst hl
  exact lv_istore_n C.1 C.2.1 hd rfl hL hn (cL_lst G ls (n : Nat) (.int x)) (fun L1 hL1 => k _ _ _ _ _ _ _ _ _ _ _ C hP hS hL1)
theorem v_istore {n : Nat} {x : Int32} {ls1 : List (Nat × Value)} (hd : decode I.2.1 pc = .ok (.istore n, 2)) (hn : n < I.2.2.1) (hl : lst ls n (.int x) = ls1) (k : VW G I Q d σ τ (pc + 2) ls1 st) : VW G I Q d σ τ pc ls ((.int x) :: st) := by
  intro p e s m args below meth c H locs L C hP hS hL
  subst hl
  exact lv_istore C.1 C.2.1 hd hL hn (cL_lst G ls n (.int x)) (fun L1 hL1 => k _ _ _ _ _ _ _ _ _ _ _ C hP hS hL1)
theorem v_lstore_n {n : Fin 4} {x : Int64} {ls1 : List (Nat × Value)} (hd : decode I.2.1 pc = .ok (.lstore_n n, 1)) (hn : (n : Nat) + 1 < I.2.2.1) (hl : lst2 ls (n : Nat) (.long x) = ls1) (k : VW G I Q d σ τ (pc + 1) ls1 st) : VW G I Q d σ τ pc ls ((.long x) :: st) := by
  intro p e s m args below meth c H locs L C hP hS hL
  subst hl
  exact lv_lstore_n C.1 C.2.1 hd rfl hL hn (cL_lst2 G ls (n : Nat) (.long x)) (fun L1 hL1 => k _ _ _ _ _ _ _ _ _ _ _ C hP hS hL1)
theorem v_lstore {n : Nat} {x : Int64} {ls1 : List (Nat × Value)} (hd : decode I.2.1 pc = .ok (.lstore n, 2)) (hn : n + 1 < I.2.2.1) (hl : lst2 ls n (.long x) = ls1) (k : VW G I Q d σ τ (pc + 2) ls1 st) : VW G I Q d σ τ pc ls ((.long x) :: st) := by
  intro p e s m args below meth c H locs L C hP hS hL
  subst hl
  exact lv_lstore C.1 C.2.1 hd hL hn (cL_lst2 G ls n (.long x)) (fun L1 hL1 => k _ _ _ _ _ _ _ _ _ _ _ C hP hS hL1)
theorem v_astore_n {n : Fin 4} {x : Nat} {ls1 : List (Nat × Value)} (hd : decode I.2.1 pc = .ok (.astore_n n, 1)) (hn : (n : Nat) < I.2.2.1) (hl : lst ls (n : Nat) (.ref x) = ls1) (k : VW G I Q d σ τ (pc + 1) ls1 st) : VW G I Q d σ τ pc ls ((.ref x) :: st) := by
  intro p e s m args below meth c H locs L C hP hS hL
  subst hl
  exact lv_astore_n C.1 C.2.1 hd rfl hL hn (cL_lst G ls (n : Nat) (.ref x)) (fun L1 hL1 => k _ _ _ _ _ _ _ _ _ _ _ C hP hS hL1)
theorem v_astore {n : Nat} {x : Nat} {ls1 : List (Nat × Value)} (hd : decode I.2.1 pc = .ok (.astore n, 2)) (hn : n < I.2.2.1) (hl : lst ls n (.ref x) = ls1) (k : VW G I Q d σ τ (pc + 2) ls1 st) : VW G I Q d σ τ pc ls ((.ref x) :: st) := by
  intro p e s m args below meth c H locs L C hP hS hL
  subst hl
  exact lv_astore C.1 C.2.1 hd hL hn (cL_lst G ls n (.ref x)) (fun L1 hL1 => k _ _ _ _ _ _ _ _ _ _ _ C hP hS hL1)
theorem v_astore_nN {n : Fin 4} {ls1 : List (Nat × Value)} (hd : decode I.2.1 pc = .ok (.astore_n n, 1)) (hn : (n : Nat) < I.2.2.1) (hl : lst ls (n : Nat) .null = ls1) (k : VW G I Q d σ τ (pc + 1) ls1 st) : VW G I Q d σ τ pc ls (.null :: st) := by
  intro p e s m args below meth c H locs L C hP hS hL
  subst hl
  exact lv_astore_nN C.1 C.2.1 hd rfl hL hn (cL_lst G ls (n : Nat) (.null)) (fun L1 hL1 => k _ _ _ _ _ _ _ _ _ _ _ C hP hS hL1)
theorem v_astoreN {n : Nat} {ls1 : List (Nat × Value)} (hd : decode I.2.1 pc = .ok (.astore n, 2)) (hn : n < I.2.2.1) (hl : lst ls n .null = ls1) (k : VW G I Q d σ τ (pc + 2) ls1 st) : VW G I Q d σ τ pc ls (.null :: st) := by
  intro p e s m args below meth c H locs L C hP hS hL
  subst hl
  exact lv_astoreN C.1 C.2.1 hd hL hn (cL_lst G ls n (.null)) (fun L1 hL1 => k _ _ _ _ _ _ _ _ _ _ _ C hP hS hL1)
theorem v_iinc {i : Nat} {n : Int} {x v : Int32} {ls1 : List (Nat × Value)} (hd : decode I.2.1 pc = .ok (.iinc i n, 3)) (hg : lget ls i = some (.int x)) (hv : x + Int32.ofInt n = v) (hn : i < I.2.2.1) (hl : lst ls i (.int v) = ls1) (k : VW G I Q d σ τ (pc + 3) ls1 st) : VW G I Q d σ τ pc ls st := by
  intro p e s m args below meth c H locs L C hP hS hL
  subst hl
  obtain ⟨j, hj⟩ := lget_ex hg
  exact lv_iinc (k := j) C.1 C.2.1 hd hL (by unfold cL; rw [List.getElem?_map, hj]; rfl) hv hn (cL_lst G ls i (.int v)) (fun L1 hL1 => k _ _ _ _ _ _ _ _ _ _ _ C hP hS hL1)
theorem v_dup {v : Value} (hd : decode I.2.1 pc = .ok (.dup, 1)) (hc : v.category = 1) (k : VW G I Q d σ τ (pc + 1) ls (v :: v :: st)) : VW G I Q d σ τ pc ls (v :: st) := by
  intro p e s m args below meth c H locs L C hP hS hL
  exact lv_dup C.1 C.2.1 hd ((cV_cat G v).trans hc) (k _ _ _ _ _ _ _ _ _ _ _ C hP hS hL)
theorem v_pop {v : Value} (hd : decode I.2.1 pc = .ok (.pop, 1)) (hc : v.category = 1) (k : VW G I Q d σ τ (pc + 1) ls st) : VW G I Q d σ τ pc ls (v :: st) := by
  intro p e s m args below meth c H locs L C hP hS hL
  exact lv_pop C.1 C.2.1 hd ((cV_cat G v).trans hc) (k _ _ _ _ _ _ _ _ _ _ _ C hP hS hL)
theorem v_dup2_11 {v w : Value} (hd : decode I.2.1 pc = .ok (.dup2, 1)) (hc : v.category = 1) (hc2 : w.category = 1) (k : VW G I Q d σ τ (pc + 1) ls (v :: w :: v :: w :: st)) : VW G I Q d σ τ pc ls (v :: w :: st) := by
  intro p e s m args below meth c H locs L C hP hS hL
  exact lv_dup2_11 C.1 C.2.1 hd ((cV_cat G v).trans hc) ((cV_cat G w).trans hc2) (k _ _ _ _ _ _ _ _ _ _ _ C hP hS hL)
theorem v_if_eq {x : Int32} {off : Int} {tgt : Nat} (hd : decode I.2.1 pc = .ok (.ifCond .eq off, 3)) (ht : (pc : Int) + off = (tgt : Int)) (kt : x = 0 → VW G I Q d σ τ tgt ls st) (kf : ¬ x = 0 → VW G I Q d σ τ (pc + 3) ls st) : VW G I Q d σ τ pc ls (.int x :: st) := by
  intro p e s m args below meth c H locs L C hP hS hL
  exact lv_if_eq C.1 C.2.1 hd ht (fun h => kt h _ _ _ _ _ _ _ _ _ _ _ C hP hS hL) (fun h => kf h _ _ _ _ _ _ _ _ _ _ _ C hP hS hL)
theorem v_icmp_eq {x y : Int32} {off : Int} {tgt : Nat} (hd : decode I.2.1 pc = .ok (.if_icmp .eq off, 3)) (ht : (pc : Int) + off = (tgt : Int)) (kt : x = y → VW G I Q d σ τ tgt ls st) (kf : ¬ x = y → VW G I Q d σ τ (pc + 3) ls st) : VW G I Q d σ τ pc ls (.int y :: .int x :: st) := by
  intro p e s m args below meth c H locs L C hP hS hL
  exact lv_icmp_eq C.1 C.2.1 hd ht (fun h => kt h _ _ _ _ _ _ _ _ _ _ _ C hP hS hL) (fun h => kf h _ _ _ _ _ _ _ _ _ _ _ C hP hS hL)
theorem v_if_ne {x : Int32} {off : Int} {tgt : Nat} (hd : decode I.2.1 pc = .ok (.ifCond .ne off, 3)) (ht : (pc : Int) + off = (tgt : Int)) (kt : ¬ x = 0 → VW G I Q d σ τ tgt ls st) (kf : x = 0 → VW G I Q d σ τ (pc + 3) ls st) : VW G I Q d σ τ pc ls (.int x :: st) := by
  intro p e s m args below meth c H locs L C hP hS hL
  exact lv_if_ne C.1 C.2.1 hd ht (fun h => kt h _ _ _ _ _ _ _ _ _ _ _ C hP hS hL) (fun h => kf h _ _ _ _ _ _ _ _ _ _ _ C hP hS hL)
theorem v_icmp_ne {x y : Int32} {off : Int} {tgt : Nat} (hd : decode I.2.1 pc = .ok (.if_icmp .ne off, 3)) (ht : (pc : Int) + off = (tgt : Int)) (kt : ¬ x = y → VW G I Q d σ τ tgt ls st) (kf : x = y → VW G I Q d σ τ (pc + 3) ls st) : VW G I Q d σ τ pc ls (.int y :: .int x :: st) := by
  intro p e s m args below meth c H locs L C hP hS hL
  exact lv_icmp_ne C.1 C.2.1 hd ht (fun h => kt h _ _ _ _ _ _ _ _ _ _ _ C hP hS hL) (fun h => kf h _ _ _ _ _ _ _ _ _ _ _ C hP hS hL)
theorem v_if_lt {x : Int32} {off : Int} {tgt : Nat} (hd : decode I.2.1 pc = .ok (.ifCond .lt off, 3)) (ht : (pc : Int) + off = (tgt : Int)) (kt : x < 0 → VW G I Q d σ τ tgt ls st) (kf : ¬ x < 0 → VW G I Q d σ τ (pc + 3) ls st) : VW G I Q d σ τ pc ls (.int x :: st) := by
  intro p e s m args below meth c H locs L C hP hS hL
  exact lv_if_lt C.1 C.2.1 hd ht (fun h => kt h _ _ _ _ _ _ _ _ _ _ _ C hP hS hL) (fun h => kf h _ _ _ _ _ _ _ _ _ _ _ C hP hS hL)
theorem v_icmp_lt {x y : Int32} {off : Int} {tgt : Nat} (hd : decode I.2.1 pc = .ok (.if_icmp .lt off, 3)) (ht : (pc : Int) + off = (tgt : Int)) (kt : x < y → VW G I Q d σ τ tgt ls st) (kf : ¬ x < y → VW G I Q d σ τ (pc + 3) ls st) : VW G I Q d σ τ pc ls (.int y :: .int x :: st) := by
  intro p e s m args below meth c H locs L C hP hS hL
  exact lv_icmp_lt C.1 C.2.1 hd ht (fun h => kt h _ _ _ _ _ _ _ _ _ _ _ C hP hS hL) (fun h => kf h _ _ _ _ _ _ _ _ _ _ _ C hP hS hL)
theorem v_if_ge {x : Int32} {off : Int} {tgt : Nat} (hd : decode I.2.1 pc = .ok (.ifCond .ge off, 3)) (ht : (pc : Int) + off = (tgt : Int)) (kt : 0 ≤ x → VW G I Q d σ τ tgt ls st) (kf : ¬ 0 ≤ x → VW G I Q d σ τ (pc + 3) ls st) : VW G I Q d σ τ pc ls (.int x :: st) := by
  intro p e s m args below meth c H locs L C hP hS hL
  exact lv_if_ge C.1 C.2.1 hd ht (fun h => kt h _ _ _ _ _ _ _ _ _ _ _ C hP hS hL) (fun h => kf h _ _ _ _ _ _ _ _ _ _ _ C hP hS hL)
theorem v_icmp_ge {x y : Int32} {off : Int} {tgt : Nat} (hd : decode I.2.1 pc = .ok (.if_icmp .ge off, 3)) (ht : (pc : Int) + off = (tgt : Int)) (kt : y ≤ x → VW G I Q d σ τ tgt ls st) (kf : ¬ y ≤ x → VW G I Q d σ τ (pc + 3) ls st) : VW G I Q d σ τ pc ls (.int y :: .int x :: st) := by
  intro p e s m args below meth c H locs L C hP hS hL
  exact lv_icmp_ge C.1 C.2.1 hd ht (fun h => kt h _ _ _ _ _ _ _ _ _ _ _ C hP hS hL) (fun h => kf h _ _ _ _ _ _ _ _ _ _ _ C hP hS hL)
theorem v_if_gt {x : Int32} {off : Int} {tgt : Nat} (hd : decode I.2.1 pc = .ok (.ifCond .gt off, 3)) (ht : (pc : Int) + off = (tgt : Int)) (kt : 0 < x → VW G I Q d σ τ tgt ls st) (kf : ¬ 0 < x → VW G I Q d σ τ (pc + 3) ls st) : VW G I Q d σ τ pc ls (.int x :: st) := by
  intro p e s m args below meth c H locs L C hP hS hL
  exact lv_if_gt C.1 C.2.1 hd ht (fun h => kt h _ _ _ _ _ _ _ _ _ _ _ C hP hS hL) (fun h => kf h _ _ _ _ _ _ _ _ _ _ _ C hP hS hL)
theorem v_icmp_gt {x y : Int32} {off : Int} {tgt : Nat} (hd : decode I.2.1 pc = .ok (.if_icmp .gt off, 3)) (ht : (pc : Int) + off = (tgt : Int)) (kt : y < x → VW G I Q d σ τ tgt ls st) (kf : ¬ y < x → VW G I Q d σ τ (pc + 3) ls st) : VW G I Q d σ τ pc ls (.int y :: .int x :: st) := by
  intro p e s m args below meth c H locs L C hP hS hL
  exact lv_icmp_gt C.1 C.2.1 hd ht (fun h => kt h _ _ _ _ _ _ _ _ _ _ _ C hP hS hL) (fun h => kf h _ _ _ _ _ _ _ _ _ _ _ C hP hS hL)
theorem v_if_le {x : Int32} {off : Int} {tgt : Nat} (hd : decode I.2.1 pc = .ok (.ifCond .le off, 3)) (ht : (pc : Int) + off = (tgt : Int)) (kt : x ≤ 0 → VW G I Q d σ τ tgt ls st) (kf : ¬ x ≤ 0 → VW G I Q d σ τ (pc + 3) ls st) : VW G I Q d σ τ pc ls (.int x :: st) := by
  intro p e s m args below meth c H locs L C hP hS hL
  exact lv_if_le C.1 C.2.1 hd ht (fun h => kt h _ _ _ _ _ _ _ _ _ _ _ C hP hS hL) (fun h => kf h _ _ _ _ _ _ _ _ _ _ _ C hP hS hL)
theorem v_icmp_le {x y : Int32} {off : Int} {tgt : Nat} (hd : decode I.2.1 pc = .ok (.if_icmp .le off, 3)) (ht : (pc : Int) + off = (tgt : Int)) (kt : x ≤ y → VW G I Q d σ τ tgt ls st) (kf : ¬ x ≤ y → VW G I Q d σ τ (pc + 3) ls st) : VW G I Q d σ τ pc ls (.int y :: .int x :: st) := by
  intro p e s m args below meth c H locs L C hP hS hL
  exact lv_icmp_le C.1 C.2.1 hd ht (fun h => kt h _ _ _ _ _ _ _ _ _ _ _ C hP hS hL) (fun h => kf h _ _ _ _ _ _ _ _ _ _ _ C hP hS hL)
theorem v_goto {off : Int} {tgt : Nat} (hd : decode I.2.1 pc = .ok (.goto off, 3)) (ht : (pc : Int) + off = (tgt : Int)) (k : VW G I Q d σ τ tgt ls st) : VW G I Q d σ τ pc ls st := by
  intro p e s m args below meth c H locs L C hP hS hL
  exact lv_goto C.1 C.2.1 hd ht (k _ _ _ _ _ _ _ _ _ _ _ C hP hS hL)
theorem v_ldc {idx : Nat} {v : Int32} (hw : Cond.constant I.1.cls idx v ∈ W0) (hd : decode I.2.1 pc = .ok (.ldc idx, 2)) (k : VW G I Q d σ τ (pc + 2) ls (.int v :: st)) : VW G I Q d σ τ pc ls st := by
  intro p e s m args below meth c H locs L C hP hS hL
  exact lv_ldc C.1 C.2.1 C.2.2.2.2.2.1 (C.2.2.2.2.1 _ hw) hd (k _ _ _ _ _ _ _ _ _ _ _ C hP hS hL)
theorem v_ldcw {idx : Nat} {v : Int32} (hw : Cond.constant I.1.cls idx v ∈ W0) (hd : decode I.2.1 pc = .ok (.ldc_w idx, 3)) (k : VW G I Q d σ τ (pc + 3) ls (.int v :: st)) : VW G I Q d σ τ pc ls st := by
  intro p e s m args below meth c H locs L C hP hS hL
  exact lv_ldcw C.1 C.2.1 C.2.2.2.2.2.1 (C.2.2.2.2.1 _ hw) hd (k _ _ _ _ _ _ _ _ _ _ _ C hP hS hL)
theorem v_ldc2 {idx : Nat} {v : Int64} (hw : Cond.constantLong I.1.cls idx v ∈ W0) (hd : decode I.2.1 pc = .ok (.ldc2_w idx, 3)) (k : VW G I Q d σ τ (pc + 3) ls (.long v :: st)) : VW G I Q d σ τ pc ls st := by
  intro p e s m args below meth c H locs L C hP hS hL
  exact lv_ldc2 C.1 C.2.1 C.2.2.2.2.2.1 (C.2.2.2.2.1 _ hw) hd (k _ _ _ _ _ _ _ _ _ _ _ C hP hS hL)
theorem v_ifnonnull {x : Nat} {off : Int} {tgt : Nat} (hd : decode I.2.1 pc = .ok (.ifnonnull off, 3)) (ht : (pc : Int) + off = (tgt : Int)) (k : VW G I Q d σ τ tgt ls st) : VW G I Q d σ τ pc ls (.ref x :: st) := by
  intro p e s m args below meth c H locs L C hP hS hL
  exact lv_ifnonnull C.1 C.2.1 hd ht (k _ _ _ _ _ _ _ _ _ _ _ C hP hS hL)
theorem v_ifnull {x : Nat} {off : Int} (hd : decode I.2.1 pc = .ok (.ifnull off, 3)) (k : VW G I Q d σ τ (pc + 3) ls st) : VW G I Q d σ τ pc ls (.ref x :: st) := by
  intro p e s m args below meth c H locs L C hP hS hL
  exact lv_ifnull C.1 C.2.1 hd (k _ _ _ _ _ _ _ _ _ _ _ C hP hS hL)
theorem v_ifnullN {off : Int} {tgt : Nat} (hd : decode I.2.1 pc = .ok (.ifnull off, 3)) (ht : (pc : Int) + off = (tgt : Int)) (k : VW G I Q d σ τ tgt ls st) : VW G I Q d σ τ pc ls (.null :: st) := by
  intro p e s m args below meth c H locs L C hP hS hL
  exact lv_ifnullN C.1 C.2.1 hd ht (k _ _ _ _ _ _ _ _ _ _ _ C hP hS hL)
theorem v_ifnonnullN {off : Int} (hd : decode I.2.1 pc = .ok (.ifnonnull off, 3)) (k : VW G I Q d σ τ (pc + 3) ls st) : VW G I Q d σ τ pc ls (.null :: st) := by
  intro p e s m args below meth c H locs L C hP hS hL
  exact lv_ifnonnullN C.1 C.2.1 hd (k _ _ _ _ _ _ _ _ _ _ _ C hP hS hL)
theorem v_null (hd : decode I.2.1 pc = .ok (.aconst_null, 1)) (k : VW G I Q d σ τ (pc + 1) ls (.null :: st)) : VW G I Q d σ τ pc ls st := by
  intro p e s m args below meth c H locs L C hP hS hL
  exact lv_null C.1 C.2.1 hd (k _ _ _ _ _ _ _ _ _ _ _ C hP hS hL)
end VWROWS
