/-! THE CORE: the whole world of both systems as numbered cells; a judgement VW over it, a row an instruction -/
abbrev fSt : Type := Nat → Nat → Int32
abbrev fLt : Type := Nat → Nat → Int64
/-- launch, the classes' numbers, the array classes' numbers (0 int, 1 long, 2 sheets, 3 texts), the cells' addresses -/
abbrev fGm : Type := Launch × va_G × (Nat → ClassId) × (Nat → Nat)
/-- a cell as it is numbered: ints, longs, references, an object of a class -/
abbrev fAE : Type := (Nat × (Nat → Int32)) ⊕ ((Nat × (Nat → Int64)) ⊕ ((Nat × Nat × (Nat → Option Nat)) ⊕ (Nat × List Value)))
abbrev aI (n : Nat) (f : Nat → Int32) : fAE := .inl (n, f)
abbrev aJ (n : Nat) (f : Nat → Int64) : fAE := .inr (.inl (n, f))
abbrev aQ (t n : Nat) (f : Nat → Option Nat) : fAE := .inr (.inr (.inl (t, n, f)))
abbrev aO (ci : Nat) (vs : List Value) : fAE := .inr (.inr (.inr (ci, vs)))
def cV (G : fGm) : Value → Value
  | .ref k => .ref (G.2.2.2 k)
  | v => v
def cE (G : fGm) : fAE → va_E
  | .inl (n, f) => .inl (G.2.2.1 0, n, .inl f)
  | .inr (.inl (n, f)) => .inl (G.2.2.1 1, n, .inr (.inl f))
  | .inr (.inr (.inl (t, n, f))) => .inl (G.2.2.1 (2 + t), n, .inr (.inr (.inr (.inr (fun j => (f j).map G.2.2.2)))))
  | .inr (.inr (.inr (ci, vs))) => .inr (ci, vs.map (cV G))
/-- the cells of world w (0 live, 1 kept, 2 ahead) -/
def wc (w c : Nat) : Nat := 1 + 22 * w + c
/-- the sheets' cells -/
def sc (s : Nat) : Nat := 76 + 2 * s
abbrev fLay : Type := (Nat → Int32) → (Nat → Int64) → fAE
def layW (w : Nat) : List fLay := [
  fun f _ => aO 8 [.ref (wc w 1), .ref (wc w 2), .ref (wc w 8), .ref (wc w 12), .ref (wc w 15), .ref (wc w 18), .ref (wc w 19), .int (f 7), .int (f 8), .ref (wc w 20), .ref (wc w 21)],
  fun f _ => aI 15 f,
  fun f _ => aO 3 [.ref (wc w 3), .ref (wc w 4), .ref (wc w 5), .ref (wc w 6), .ref (wc w 7), .int (f 5)],
  fun f _ => aI 10 f, fun f _ => aI 10 f, fun f _ => aI 8 f, fun f _ => aI 8 f, fun f _ => aI 8 f,
  fun f _ => aO 1 [.ref (wc w 9), .ref (wc w 10), .ref (wc w 11), .int (f 3)],
  fun f _ => aI 8 f, fun f _ => aI 8 f, fun f _ => aI 8 f,
  fun f _ => aO 7 [.ref (wc w 13), .int (f 1), .ref (wc w 14)], fun f _ => aI 60 f, fun f _ => aI 60 f,
  fun f _ => aO 7 [.ref (wc w 16), .int (f 1), .ref (wc w 17)], fun f _ => aI 60 f, fun f _ => aI 60 f,
  fun f _ => aI 60 f, fun f _ => aI 24 f,
  fun f _ => aO 0 [.int (f 0), .int (f 1), .int (f 2), .int (f 3)], fun f _ => aI 5 f]
def layS (s : Nat) : List fLay := [fun f _ => aO 5 [.ref (sc s + 1), .int (f 1), .int (f 2)], fun f _ => aI 24 f]
def lay : List fLay := [fun f _ => aO 9 [.ref (wc 0 0), .ref (wc 1 0), .ref (wc 2 0), .ref 67, .ref 72, .ref 75, .ref 84, .ref 85, .int (f 8)]] ++ (layW 0 ++ (layW 1 ++ (layW 2 ++ ([
  fun f _ => aO 2 [.ref 68, .ref 71, .int (f 2), .int (f 3), .int (f 4), .int (f 5), .int (f 6)],
  fun f _ => aO 7 [.ref 69, .int (f 1), .ref 70], fun f _ => aI 60 f, fun f _ => aI 60 f, fun f _ => aI 60 f,
  fun _ g => aO 4 [.long (g 0), .long (g 1), .ref 73, .ref 74], fun _ g => aJ 199 g, fun _ g => aJ 199 g,
  fun _ _ => aQ 0 4 (fun i => some (sc i))] ++ (layS 0 ++ (layS 1 ++ (layS 2 ++ (layS 3 ++ [
  fun f _ => aI 6 f,
  fun f _ => aO 6 [.ref 86, .int (f 1), .int (f 2), .int (f 3), .int (f 4), .int (f 5)], fun f _ => aI 30 f,
  fun f g => aO 10 [.ref 88, .ref 89, .ref 90, .int (f 3), .ref 91, .ref 92, .ref 93, .ref 94, .int (f 8), .int (f 9), .int (f 10), .int (f 11), .ref 95, .int (f 13), .ref 96, .ref 97, .ref 98, .ref 99, .long (g 18), .long (g 19), .ref 100, .int (f 21), .int (f 22), .int (f 23), .ref 101, .ref 102, .ref 103, .ref 104],
  fun f _ => aI 295 f, fun f _ => aI 295 f, fun f _ => aI 295 f, fun f _ => aI 7 f, fun f _ => aI 7 f, fun f _ => aI 7 f,
  fun _ _ => aQ 1 2 (fun i => some (1010 + i)), fun f _ => aI 60 f, fun f _ => aI 5 f, fun f _ => aI 60 f,
  fun _ g => aJ 199 g, fun _ g => aJ 199 g, fun f _ => aI 30 f, fun f _ => aI 4 f, fun f _ => aI 4 f, fun f _ => aI 96 f, fun f _ => aI 24 f]))))))))
def aent (k : Nat) (f : Nat → Int32) (g : Nat → Int64) : fAE := (lay.getD k (fun _ _ => aO 0 [])) f g
def pic (G : fGm) (σ : fSt) (τ : fLt) : va_W := (List.range 105).map (fun k => (G.2.2.2 k, cE G (aent k (σ k) (τ k))))
def Reg (G : fGm) : Nat → Prop := fun q => ∃ k, k < 105 ∧ q = G.2.2.2 k
def Ij (G : fGm) : Prop := ∀ i j, i < 105 → j < 105 → G.2.2.2 i = G.2.2.2 j → i = j
def gT (G : fGm) : List (ClassId × FieldType) := [(G.2.2.1 0, .int), (G.2.2.1 1, .long), (G.2.2.1 2, .object RX5), (G.2.2.1 3, .object RJ0)]
/-- the static tables: FIRST, LEAST, MOST, KIND_ABOVE, BODIES -/
def sNm : Nat → String
  | 0 => "FIRST" | 1 => "LEAST" | 2 => "MOST" | 3 => "KIND_ABOVE" | _ => "BODIES"
def sTb : Nat → List Int32
  | 0 => [0, 0, 8, 4, 10, 0, 0, 0, 0, 0, 0, 0, 0, 0, 1] | 1 => [0, -99, 1, 0, 0, 0, 0] | 2 => [99, 99, 30, 9, 50, 60, 9999]
  | 3 => [-1, 0, 1, 0, 3, 3, 0] | _ => [10, 11, 12, 13, 20, 0, 0, 21, 0, 30, 0, 0, 0, 0, 40, 0, 50, 0, 51, 0, 0, 60, 0, 0, 70, 71, 0, 0]
def kLen : List Nat := [5, 4]
def kByt : List (List Int32) := [[102, 115, 119, 108, 104], [103, 114, 119, 108]]
def Ro (G : fGm) (U : State) : Prop :=
  (∀ i, i < 5 → va_Z RX9 (sNm i) "[I" (.ref (G.2.2.2 (1000 + i))) (Reg G) U U.heap ∧ va_T .int (G.2.2.2 (1000 + i)) (sTb i).length (fun j => .int ((sTb i).getD j 0)) (Reg G) U U.heap) ∧
  vk_S 2 kLen kByt (fun i => G.2.2.2 (1010 + i)) (fun i => G.2.2.2 (1020 + i)) (Reg G) U U.heap ∧
  vk_R RX9 173 "fswlh" (G.2.2.2 1010) U ∧ vk_R RX9 175 "grwl" (G.2.2.2 1011) U ∧
  (va_Z RJ0 "COMPACT_STRINGS" "Z" (.int 1) (Reg G) U U.heap ∧ (va_Z RJ3 "SIOOBE_FORMATTER" "Ljava/util/function/BiFunction;" .null (Reg G) U U.heap ∨ va_Z RJ3 "SIOOBE_FORMATTER" "Ljava/util/function/BiFunction;" (.ref (G.2.2.2 1031)) (Reg G) U U.heap)) ∧ ∀ w ∈ Wn, va_Nw w U
theorem nest_warm {s U : State} (hW : s.WarmedH U.vm) {w : Cond} (hn : isNest w = true) (h : va_Nw w s) : va_Nw w U := by
  cases w <;> first | exact va_Nw.warmM hW h | exact va_Nw.warmF hW h | (simp [isNest] at hn; done)
theorem Ro.warm {G : fGm} {s U : State} (hW : s.WarmedH U.vm) (hq : ∀ a : Nat, a < s.heap.size → ¬ Reg G a → U.heap[a]? = s.heap[a]?) (h : Ro G s) : Ro G U := by
  obtain ⟨h1, h2, h3, h4, h5, h6⟩ := h
  exact ⟨fun i hi => ⟨((h1 i hi).1.moved hW.alike).kept hq, ((h1 i hi).2.moved hW.alike).kept hq⟩, (h2.moved hW.alike).kept hq, h3.warm hW, h4.warm hW, ⟨(h5.1.moved hW.alike).kept hq, h5.2.imp (fun h => (h.moved hW.alike).kept hq) (fun h => (h.moved hW.alike).kept hq)⟩, fun w hw => nest_warm hW (List.mem_filter.mp hw).2 (h6 w hw)⟩
def rmD (d : Nat) : Room := { frames := d, cells := 0, slots := 0, locals := 64 * d }
def QcA (G : fGm) (Q : Option Value → fSt → fLt → Prop) : Array Value → State → Outcome → State → Prop := fun _ st o t =>
  ∃ (v : Option Value) (σ : fSt) (τ : fLt), o = .returned (v.map (cV G)) ∧ Q v σ τ ∧ va_P G.2.1 vwCl (pic G σ τ) t.heap ∧ va_F (Reg G) st t
def cL (G : fGm) (ls : List (Nat × Value)) : List (Nat × Value) := ls.map (fun q => (q.1, cV G q.2))
def Ctx (G : fGm) (p : Program) (s : State) (m : MethodId) (args : Array Value) (meth : Method) (c : Code) (I : fMI) : Prop :=
  p.tables.exec = Jvm.exec ∧ c.code = I.2.1 ∧ meth.sig.returnType = I.2.2.2 ∧ c.maxLocals = I.2.2.1 ∧ (∀ w ∈ W0, w.before args s = true) ∧
  s.vm.findClass I.1.cls = some m.cls ∧ meth.locks = false ∧ va_K G.2.1 vwCl (gT G) s ∧ Ro G s ∧ Ij G
/-- THE JUDGEMENT: from pc, with these locals and this stack, over the cells σ τ, the method comes to an end with Q -/
def VW (G : fGm) (I : fMI) (Q : Option Value → fSt → fLt → Prop) (d : Nat) (σ : fSt) (τ : fLt) (pc : Nat) (ls : List (Nat × Value)) (st : List Value) : Prop :=
  ∀ (p : Program) (e : Env) (s : State) (m : MethodId) (args : Array Value) (below : List Frame) (meth : Method) (c : Code) (H : Heap) (locs : List Loc) (L : Array Slot),
    Ctx G p s m args meth c I → va_P G.2.1 vwCl (pic G σ τ) H → va_S (Reg G) s.heap H locs → lv_has L I.2.2.1 (cL G ls) →
    W p G.1 e (rmD d) s m args below meth c H locs 0 0 (MQ below (QcA G Q) args s 0 0 (Reg G)) (F0 m pc L (st.map (cV G)))
/-- A METHOD'S CONTRACT -/
def MS (G : fGm) (I : fMI) (d : Nat) (av : List Value) (σ : fSt) (τ : fLt) (Q : Option Value → fSt → fLt → Prop) : Prop :=
  Met G.1 I.1 (.code I.1 I.2.1 I.2.2.1 I.2.2.2 :: W0) (rmD d) (va_Pc (av.map (cV G)) (fun U => va_P G.2.1 vwCl (pic G σ τ) U.heap ∧ va_K G.2.1 vwCl (gT G) U ∧ Ro G U ∧ Ij G)) (QcA G Q) 0 0 (Reg G)
/-- an exact end -/
def rT (v : Option Value) (σ1 : fSt) (τ1 : fLt) : Option Value → fSt → fLt → Prop := fun v' σ' τ' => v' = v ∧ σ' = σ1 ∧ τ' = τ1
def up2 (σ : fSt) (k j : Nat) (x : Int32) : fSt := va_up σ k (va_up (σ k) j x)
def up2L (τ : fLt) (k j : Nat) (x : Int64) : fLt := va_up τ k (va_up (τ k) j x)
theorem cV_cat (G : fGm) (v : Value) : (cV G v).category = v.category := by cases v <;> rfl
theorem cV_cats (G : fGm) (l : List Value) : ((l.map (cV G)).map fun v => v.category) = l.map fun v => v.category := by
  rw [List.map_map]
  exact List.map_congr_left fun v _ => cV_cat G v
theorem cL_args (G : fGm) (av : List Value) : ∀ i, lv_args i (av.map (cV G)) = cL G (lv_args i av) := by
  induction av with
  | nil => intro i; rfl
  | cons v l ih =>
    intro i
    show (i, cV G v) :: lv_args _ (l.map (cV G)) = (i, cV G v) :: cL G (lv_args _ l)
    rw [cV_cat, ih]
theorem lg_sl_len (G : fGm) (av : List Value) : (lg_sl (av.map (cV G))).length = (lg_sl av).length := by
  induction av with
  | nil => rfl
  | cons v l ih =>
    simp only [lg_sl, List.map_cons, List.flatMap_cons, List.length_append] at ih ⊢
    rw [ih, cV_cat]
    split <;> rfl
theorem pic_get {G : fGm} {σ : fSt} {τ : fLt} {k : Nat} (h : k < 105) : (pic G σ τ)[k]? = some (G.2.2.2 k, cE G (aent k (σ k) (τ k))) := by
  unfold pic
  rw [List.getElem?_map, List.getElem?_range h]
  rfl
theorem pic_D {G : fGm} (hG : Ij G) (σ : fSt) (τ : fLt) : va_D (Reg G) (pic G σ τ) := by
  have key : ∀ (k : Nat) (q : Nat × va_E), (pic G σ τ)[k]? = some q → k < 105 ∧ q.1 = G.2.2.2 k := by
    intro k q hk
    have hl : k < 105 := by
      have := (List.getElem?_eq_some_iff.mp hk).1
      simpa [pic] using this
    rw [pic_get hl] at hk
    cases hk
    exact ⟨hl, rfl⟩
  refine ⟨fun i j p q hi hj e => ?_, fun k q hk => ?_⟩
  · obtain ⟨a, b⟩ := key i p hi
    obtain ⟨a', b'⟩ := key j q hj
    exact hG i j a a' (b ▸ b' ▸ e)
  · obtain ⟨a, b⟩ := key k q hk
    exact ⟨k, a, b⟩
theorem pic_set {G : fGm} {σ σ' : fSt} {τ τ' : fLt} {k : Nat} {en : va_E} (h : k < 105) (he : en = cE G (aent k (σ' k) (τ' k))) (ho : ∀ j, j ≠ k → σ' j = σ j ∧ τ' j = τ j) : (pic G σ τ).set k (G.2.2.2 k, en) = pic G σ' τ' := by
  apply List.ext_getElem?
  intro i
  by_cases hi : i < 105
  · by_cases hik : i = k
    · subst hik
      rw [List.getElem?_set_self (by simpa [pic] using hi), pic_get hi, he]
    · rw [List.getElem?_set_ne (Ne.symm hik), pic_get hi, pic_get hi, (ho i hik).1, (ho i hik).2]
  · have h1 : ((pic G σ τ).set k (G.2.2.2 k, en))[i]? = none := by simp [pic]; omega
    have h2 : (pic G σ' τ')[i]? = none := by simp [pic]; omega
    rw [h1, h2]
theorem va_up_s {α : Type} (f : Nat → α) (k : Nat) (v : α) : va_up f k v k = v := by simp [va_up]
theorem va_up_o {α : Type} (f : Nat → α) {k j : Nat} (v : α) (h : j ≠ k) : va_up f k v j = f j := by simp [va_up, h]
