theorem v_pick {G : fGm} {I : fMI} {Q : Option Value → fSt → fLt → Prop} {d : Nat} {σ : fSt} {τ : fLt} {pc : Nat} {ls ls1 : List (Nat × Value)} {st : List Value} (ks : List Nat) (h : ks.filterMap (fun k => ls[k]?) = ls1) (k : VW G I Q d σ τ pc ls1 st) : VW G I Q d σ τ pc ls st := by
  intro p e s m args below meth c H locs L C hP hS hL
  refine k _ _ _ _ _ _ _ _ _ _ _ C hP hS ⟨hL.1, hL.2.1, fun q hq => hL.2.2 q ?_⟩
  subst h
  obtain ⟨r, hr, rfl⟩ := List.mem_map.mp hq
  obtain ⟨i, -, hi⟩ := List.mem_filterMap.mp hr
  exact List.mem_map.mpr ⟨r, List.mem_of_getElem? hi, rfl⟩
def rOK : List Int32 → Nat → Prop
  | [], h => h = 1
  | c :: cs, h => (0 ≤ c ∧ c < 20000 ∧ c < 10005 ∧ rOK cs (h + 1)) ∨ (c = 20010 ∧ 1 ≤ h ∧ rOK cs h) ∨ (20000 ≤ c ∧ c < 20010 ∧ 2 ≤ h ∧ rOK cs (h - 1))
def tOK (g : gS) (u : Nat) : Prop := ∃ n, n ≤ 60 ∧ g (171 + 62 * u) = nI n ∧ (0 < n → rOK (gCode g u) 0)
theorem rEv_cons (nm : Nat → Int32) (c : Int32) (cs s : List Int32) : rEv nm (c :: cs) s = rEv nm cs (rStep nm c s) := rfl
theorem rStep_num {nm : Nat → Int32} {c : Int32} {s : List Int32} (h : c < 10000) : rStep nm c s = c :: s := by
  unfold rStep
  rw [if_pos (by grind), if_pos h]
theorem rStep_name {nm : Nat → Int32} {c : Int32} {s : List Int32} (h : 10000 ≤ c) (h2 : c < 20000) : rStep nm c s = nm (c - 10000).toNatClampNeg :: s := by
  unfold rStep
  rw [if_pos h2, if_neg (by grind)]
theorem rStep_not {nm : Nat → Int32} {x : Int32} {t : List Int32} : rStep nm 20010 (x :: t) = (if x = 0 then 1 else 0) :: t := rfl
theorem rStep_op {nm : Nat → Int32} {c a b : Int32} {t : List Int32} (h : 20000 ≤ c) (h2 : c < 20010) : rStep nm c (b :: a :: t) = rOp c a b :: t := by
  unfold rStep
  rw [if_neg (by grind), if_neg (by grind)]
/-- the pile from its top -/
def Stk (p : Nat → Int32) : List Int32 → Prop
  | [] => True
  | x :: t => p t.length = x ∧ Stk p t
theorem Stk.up {p : Nat → Int32} {j : Nat} {v : Int32} : ∀ {t : List Int32}, Stk p t → t.length ≤ j → Stk (va_up p j v) t := by
  intro t
  induction t with
  | nil => intro _ _; trivial
  | cons x t ih =>
    intro h hj
    rw [List.length_cons] at hj
    exact ⟨by rw [va_up_o _ _ (by omega)]; exact h.1, ih h.2 (by omega)⟩
theorem Stk.push {p : Nat → Int32} {v : Int32} {t : List Int32} (h : Stk p t) : Stk (va_up p t.length v) (v :: t) := ⟨va_up_s _ _ _, h.up (Nat.le_refl _)⟩
set_option maxRecDepth 100000 in
set_option maxHeartbeats 4000000 in
theorem m_X10_done {G : fGm} {σ : fSt} {τ : fLt} {o a b : Int32} : MS G iX10_done 0 [.int o, .int a, .int b] σ τ (rT (some (.int (rOp o a b))) σ τ) := by
  refine ms_of (by decide +kernel) (Nat.le_of_ble_eq_true rfl) ?_
  show VW _ _ _ _ _ _ 0 [(0, _), (1, _), (2, _)] []
  refine v_iload_n (I := iX10_done) dX10_done_0 rfl ?_
  by_cases s1_20000 : o = 20000
  · refine v_tabIn (I := iX10_done) (tgt := 52) (off := 51) (v := 20000) dX10_done_1 s1_20000 (by decide) (by decide) (by decide) (by decide) ?_
    refine v_iload_n (I := iX10_done) dX10_done_52 rfl ?_
    refine v_if_ne (I := iX10_done) (tgt := 60) dX10_done_53 (by decide) (fun c53 => ?_) (fun c53 => ?_)
    · refine v_iconst (I := iX10_done) (v := 1) dX10_done_60 (by decide) ?_
      refine v_goto (I := iX10_done) (tgt := 65) dX10_done_61 (by decide) ?_
      exact v_iret (I := iX10_done) rfl dX10_done_65 ⟨by first | (unfold rOp; simp [*]; done) | (unfold rOp; grind), rfl, rfl⟩
    · refine v_iload_n (I := iX10_done) dX10_done_56 rfl ?_
      refine v_if_eq (I := iX10_done) (tgt := 64) dX10_done_57 (by decide) (fun c57 => ?_) (fun c57 => ?_)
      · refine v_iconst (I := iX10_done) (v := 0) dX10_done_64 (by decide) ?_
        exact v_iret (I := iX10_done) rfl dX10_done_65 ⟨by first | (unfold rOp; simp [*]; done) | (unfold rOp; grind), rfl, rfl⟩
      · refine v_iconst (I := iX10_done) (v := 1) dX10_done_60 (by decide) ?_
        refine v_goto (I := iX10_done) (tgt := 65) dX10_done_61 (by decide) ?_
        exact v_iret (I := iX10_done) rfl dX10_done_65 ⟨by first | (unfold rOp; simp [*]; done) | (unfold rOp; grind), rfl, rfl⟩
  by_cases s1_20001 : o = 20001
  · refine v_tabIn (I := iX10_done) (tgt := 66) (off := 65) (v := 20001) dX10_done_1 s1_20001 (by decide) (by decide) (by decide) (by decide) ?_
    refine v_iload_n (I := iX10_done) dX10_done_66 rfl ?_
    refine v_if_eq (I := iX10_done) (tgt := 78) dX10_done_67 (by decide) (fun c67 => ?_) (fun c67 => ?_)
    · refine v_iconst (I := iX10_done) (v := 0) dX10_done_78 (by decide) ?_
      exact v_iret (I := iX10_done) rfl dX10_done_79 ⟨by first | (unfold rOp; simp [*]; done) | (unfold rOp; grind), rfl, rfl⟩
    · refine v_iload_n (I := iX10_done) dX10_done_70 rfl ?_
      refine v_if_eq (I := iX10_done) (tgt := 78) dX10_done_71 (by decide) (fun c71 => ?_) (fun c71 => ?_)
      · refine v_iconst (I := iX10_done) (v := 0) dX10_done_78 (by decide) ?_
        exact v_iret (I := iX10_done) rfl dX10_done_79 ⟨by first | (unfold rOp; simp [*]; done) | (unfold rOp; grind), rfl, rfl⟩
      · refine v_iconst (I := iX10_done) (v := 1) dX10_done_74 (by decide) ?_
        refine v_goto (I := iX10_done) (tgt := 79) dX10_done_75 (by decide) ?_
        exact v_iret (I := iX10_done) rfl dX10_done_79 ⟨by first | (unfold rOp; simp [*]; done) | (unfold rOp; grind), rfl, rfl⟩
  by_cases s1_20002 : o = 20002
  · refine v_tabIn (I := iX10_done) (tgt := 80) (off := 79) (v := 20002) dX10_done_1 s1_20002 (by decide) (by decide) (by decide) (by decide) ?_
    refine v_iload_n (I := iX10_done) dX10_done_80 rfl ?_
    refine v_iload_n (I := iX10_done) dX10_done_81 rfl ?_
    refine v_icmp_ge (I := iX10_done) (tgt := 89) dX10_done_82 (by decide) (fun c82 => ?_) (fun c82 => ?_)
    · refine v_iconst (I := iX10_done) (v := 0) dX10_done_89 (by decide) ?_
      exact v_iret (I := iX10_done) rfl dX10_done_90 ⟨by first | (unfold rOp; simp [*]; done) | (unfold rOp; grind), rfl, rfl⟩
    · refine v_iconst (I := iX10_done) (v := 1) dX10_done_85 (by decide) ?_
      refine v_goto (I := iX10_done) (tgt := 90) dX10_done_86 (by decide) ?_
      exact v_iret (I := iX10_done) rfl dX10_done_90 ⟨by first | (unfold rOp; simp [*]; done) | (unfold rOp; grind), rfl, rfl⟩
  by_cases s1_20003 : o = 20003
  · refine v_tabIn (I := iX10_done) (tgt := 91) (off := 90) (v := 20003) dX10_done_1 s1_20003 (by decide) (by decide) (by decide) (by decide) ?_
    refine v_iload_n (I := iX10_done) dX10_done_91 rfl ?_
    refine v_iload_n (I := iX10_done) dX10_done_92 rfl ?_
    refine v_icmp_ne (I := iX10_done) (tgt := 100) dX10_done_93 (by decide) (fun c93 => ?_) (fun c93 => ?_)
    · refine v_iconst (I := iX10_done) (v := 0) dX10_done_100 (by decide) ?_
      exact v_iret (I := iX10_done) rfl dX10_done_101 ⟨by first | (unfold rOp; simp [*]; done) | (unfold rOp; grind), rfl, rfl⟩
    · refine v_iconst (I := iX10_done) (v := 1) dX10_done_96 (by decide) ?_
      refine v_goto (I := iX10_done) (tgt := 101) dX10_done_97 (by decide) ?_
      exact v_iret (I := iX10_done) rfl dX10_done_101 ⟨by first | (unfold rOp; simp [*]; done) | (unfold rOp; grind), rfl, rfl⟩
  by_cases s1_20004 : o = 20004
  · refine v_tabIn (I := iX10_done) (tgt := 102) (off := 101) (v := 20004) dX10_done_1 s1_20004 (by decide) (by decide) (by decide) (by decide) ?_
    refine v_iload_n (I := iX10_done) dX10_done_102 rfl ?_
    refine v_iload_n (I := iX10_done) dX10_done_103 rfl ?_
    refine v_icmp_le (I := iX10_done) (tgt := 111) dX10_done_104 (by decide) (fun c104 => ?_) (fun c104 => ?_)
    · refine v_iconst (I := iX10_done) (v := 0) dX10_done_111 (by decide) ?_
      exact v_iret (I := iX10_done) rfl dX10_done_112 ⟨by first | (unfold rOp; simp [*]; done) | (unfold rOp; grind), rfl, rfl⟩
    · refine v_iconst (I := iX10_done) (v := 1) dX10_done_107 (by decide) ?_
      refine v_goto (I := iX10_done) (tgt := 112) dX10_done_108 (by decide) ?_
      exact v_iret (I := iX10_done) rfl dX10_done_112 ⟨by first | (unfold rOp; simp [*]; done) | (unfold rOp; grind), rfl, rfl⟩
  by_cases s1_20005 : o = 20005
  · refine v_tabIn (I := iX10_done) (tgt := 113) (off := 112) (v := 20005) dX10_done_1 s1_20005 (by decide) (by decide) (by decide) (by decide) ?_
    refine v_iload_n (I := iX10_done) dX10_done_113 rfl ?_
    refine v_iload_n (I := iX10_done) dX10_done_114 rfl ?_
    refine v_iadd (I := iX10_done) dX10_done_115 ?_
    exact v_iret (I := iX10_done) rfl dX10_done_116 ⟨by first | (unfold rOp; simp [*]; done) | (unfold rOp; grind), rfl, rfl⟩
  by_cases s1_20006 : o = 20006
  · refine v_tabIn (I := iX10_done) (tgt := 117) (off := 116) (v := 20006) dX10_done_1 s1_20006 (by decide) (by decide) (by decide) (by decide) ?_
    refine v_iload_n (I := iX10_done) dX10_done_117 rfl ?_
    refine v_iload_n (I := iX10_done) dX10_done_118 rfl ?_
    refine v_isub (I := iX10_done) dX10_done_119 ?_
    exact v_iret (I := iX10_done) rfl dX10_done_120 ⟨by first | (unfold rOp; simp [*]; done) | (unfold rOp; grind), rfl, rfl⟩
  by_cases s1_20007 : o = 20007
  · refine v_tabIn (I := iX10_done) (tgt := 121) (off := 120) (v := 20007) dX10_done_1 s1_20007 (by decide) (by decide) (by decide) (by decide) ?_
    refine v_iload_n (I := iX10_done) dX10_done_121 rfl ?_
    refine v_iload_n (I := iX10_done) dX10_done_122 rfl ?_
    refine v_imul (I := iX10_done) dX10_done_123 ?_
    exact v_iret (I := iX10_done) rfl dX10_done_124 ⟨by first | (unfold rOp; simp [*]; done) | (unfold rOp; grind), rfl, rfl⟩
  by_cases s1_20008 : o = 20008
  · refine v_tabIn (I := iX10_done) (tgt := 125) (off := 124) (v := 20008) dX10_done_1 s1_20008 (by decide) (by decide) (by decide) (by decide) ?_
    refine v_iload_n (I := iX10_done) dX10_done_125 rfl ?_
    refine v_if_ne (I := iX10_done) (tgt := 133) dX10_done_126 (by decide) (fun c126 => ?_) (fun c126 => ?_)
    · refine v_iload_n (I := iX10_done) dX10_done_133 rfl ?_
      refine v_iload_n (I := iX10_done) dX10_done_134 rfl ?_
      refine v_idiv (I := iX10_done) dX10_done_135 c126 ?_
      exact v_iret (I := iX10_done) rfl dX10_done_136 ⟨by first | (unfold rOp; simp [*]; done) | (unfold rOp; grind), rfl, rfl⟩
    · refine v_iconst (I := iX10_done) (v := 0) dX10_done_129 (by decide) ?_
      refine v_goto (I := iX10_done) (tgt := 136) dX10_done_130 (by decide) ?_
      exact v_iret (I := iX10_done) rfl dX10_done_136 ⟨by first | (unfold rOp; simp [*]; done) | (unfold rOp; grind), rfl, rfl⟩
  refine v_tabDef (I := iX10_done) (tgt := 137) dX10_done_1 (by decide) (fun off h1 h2 ho => ?_) (by decide) ?_
  · obtain ⟨j, hj, hjx⟩ := i32_rng (n := 9) h1 h2 (by decide)
    match j, hj with
    | 0, _ => exact absurd (hjx.trans (by decide)) s1_20000
    | 1, _ => exact absurd (hjx.trans (by decide)) s1_20001
    | 2, _ => exact absurd (hjx.trans (by decide)) s1_20002
    | 3, _ => exact absurd (hjx.trans (by decide)) s1_20003
    | 4, _ => exact absurd (hjx.trans (by decide)) s1_20004
    | 5, _ => exact absurd (hjx.trans (by decide)) s1_20005
    | 6, _ => exact absurd (hjx.trans (by decide)) s1_20006
    | 7, _ => exact absurd (hjx.trans (by decide)) s1_20007
    | 8, _ => exact absurd (hjx.trans (by decide)) s1_20008
    | j + 9, h => omega
  refine v_iload_n (I := iX10_done) dX10_done_137 rfl ?_
  refine v_if_ne (I := iX10_done) (tgt := 145) dX10_done_138 (by decide) (fun c138 => ?_) (fun c138 => ?_)
  · refine v_iload_n (I := iX10_done) dX10_done_145 rfl ?_
    refine v_iload_n (I := iX10_done) dX10_done_146 rfl ?_
    refine v_irem (I := iX10_done) dX10_done_147 c138 ?_
    exact v_iret (I := iX10_done) rfl dX10_done_148 ⟨by first | (unfold rOp; simp [*]; done) | (unfold rOp; grind), rfl, rfl⟩
  · refine v_iconst (I := iX10_done) (v := 0) dX10_done_141 (by decide) ?_
    refine v_goto (I := iX10_done) (tgt := 148) dX10_done_142 (by decide) ?_
    exact v_iret (I := iX10_done) rfl dX10_done_148 ⟨by first | (unfold rOp; simp [*]; done) | (unfold rOp; grind), rfl, rfl⟩
theorem nI_m1 (n : Nat) : nI (n + 1) + Int32.ofInt (-1) = nI n := by rw [nI_succ]; show nI n + 1 + (-1) = nI n; grind
set_option maxRecDepth 100000 in
set_option maxHeartbeats 4000000 in
theorem m_X10_worked {G : fGm} {σ : fSt} {τ : fLt} {x : Int32} {u : Nat} (hu : u < 2) (hx : x = nI (171 + 62 * u + 1)) (hW : tOK (σ 88) u) (hpos : 0 < σ 88 (171 + 62 * u)) : MS G iX10_worked 1 [.ref 87, .int x] σ τ (rP (some (.int (gVal (σ 88) u (σ 96)))) τ (fun σ' => ∀ k, k ≠ 97 → σ' k = σ k)) := by
  obtain ⟨n, hn60, hlen, hrok⟩ := hW
  have hn0 : 0 < n := by
    rcases Nat.eq_zero_or_pos n with h | h
    · subst h; rw [hlen] at hpos; exact absurd hpos (by decide)
    · exact h
  have hrok := hrok hn0
  refine ms_of (by decide +kernel) (Nat.le_of_ble_eq_true rfl) ?_
  show VW _ _ _ _ _ _ 0 [(0, _), (1, _)] []
  have key : ∀ (cs : List Int32) (k : Nat) (s : List Int32) (σ1 : fSt), k + cs.length = n → (∀ j, j < cs.length → σ 88 (171 + 62 * u + 1 + k + j) = cs.getD j 0) → rOK cs s.length → s.length ≤ k → (∀ q, q ≠ 97 → σ1 q = σ q) → Stk (σ1 97) s → ∀ {x2 x3 r : Int32}, x2 = nI s.length → x3 = nI (171 + 62 * u + 1 + k) → (rEv (σ 96) cs s).headD 0 = r →
      VW G iX10_worked (rP (some (.int r)) τ (fun σ' => ∀ k, k ≠ 97 → σ' k = σ k)) 1 σ1 τ 4 [(3, .int x3), (2, .int x2), (0, .ref 87), (1, .int x)] [] := by
    intro cs
    induction cs with
    | nil =>
      intro k s σ1 hk hcs hr hsk hfr hstk x2 x3 r hx2 hx3 hpost
      have h88 : σ1 88 = σ 88 := hfr 88 (by decide)
      show VW _ _ _ _ _ _ 4 [(3, _), (2, _), (0, _), (1, _)] []
      refine v_iload_n (I := iX10_worked) dX10_worked_4 rfl ?_
      refine v_iload_n (I := iX10_worked) dX10_worked_5 rfl ?_
      refine v_aload_n (I := iX10_worked) dX10_worked_6 rfl ?_
      refine v_get (I := iX10_worked) g_X10_9 dX10_worked_7 (by decide) (ae_87 _ _) rfl ?_
      refine v_iload_n (I := iX10_worked) dX10_worked_10 rfl ?_
      refine v_iconst (I := iX10_worked) (v := 1) dX10_worked_11 (by decide) ?_
      refine v_isub (I := iX10_worked) dX10_worked_12 ?_
      refine v_ialdN (I := iX10_worked) (j := (171 + 62 * u)) (by rw [hx]; exact nI_pred _) (by omega) (by decide) dX10_worked_13 (by decide) (ae_88 _ _) ?_
      rw [h88, hlen]
      refine v_iadd (I := iX10_worked) dX10_worked_14 ?_
      refine v_icmp_ge (I := iX10_worked) (tgt := 141) dX10_worked_15 (by decide) (fun c15 => ?_) (fun c15 => ?_)
      · obtain ⟨y, rfl⟩ : ∃ y, s = [y] := by
          match s, hr with
          | [y], _ => exact ⟨y, rfl⟩
        have hs1 : σ1 97 0 = r := by rw [← hpost]; exact hstk.1
        refine v_aload_n (I := iX10_worked) dX10_worked_141 rfl ?_
        refine v_get (I := iX10_worked) g_X10_44 dX10_worked_142 (by decide) (ae_87 _ _) rfl ?_
        refine v_iconst (I := iX10_worked) (v := 0) dX10_worked_145 (by decide) ?_
        refine v_ialdN (I := iX10_worked) (j := 0) (by decide) (by decide) (by decide) dX10_worked_146 (by decide) (ae_97 _ _) ?_
        exact v_iret (I := iX10_worked) rfl dX10_worked_147 ⟨by rw [hs1], rfl, hfr⟩
      · exact absurd (by rw [hx3, hx, nI_add]; exact nI_le (by rw [List.length_nil] at hk; omega) (by omega)) c15
    | cons c cs ih =>
      intro k s σ1 hk hcs hr hsk hfr hstk x2 x3 r hx2 hx3 hpost
      have h88 : σ1 88 = σ 88 := hfr 88 (by decide)
      have h96 : σ1 96 = σ 96 := hfr 96 (by decide)
      have hc9 : σ 88 (171 + 62 * u + 1 + k) = c := by simpa using hcs 0 (by simp)
      have hcs' : ∀ j, j < cs.length → σ 88 (171 + 62 * u + 1 + (k + 1) + j) = cs.getD j 0 := fun j hj => by
        have h := hcs (j + 1) (by simpa using hj)
        rw [show 171 + 62 * u + 1 + (k + 1) + j = 171 + 62 * u + 1 + k + (j + 1) by omega]
        simpa using h
      rw [List.length_cons] at hk
      show VW _ _ _ _ _ _ 4 [(3, _), (2, _), (0, _), (1, _)] []
      refine v_iload_n (I := iX10_worked) dX10_worked_4 rfl ?_
      refine v_iload_n (I := iX10_worked) dX10_worked_5 rfl ?_
      refine v_aload_n (I := iX10_worked) dX10_worked_6 rfl ?_
      refine v_get (I := iX10_worked) g_X10_9 dX10_worked_7 (by decide) (ae_87 _ _) rfl ?_
      refine v_iload_n (I := iX10_worked) dX10_worked_10 rfl ?_
      refine v_iconst (I := iX10_worked) (v := 1) dX10_worked_11 (by decide) ?_
      refine v_isub (I := iX10_worked) dX10_worked_12 ?_
      refine v_ialdN (I := iX10_worked) (j := (171 + 62 * u)) (by rw [hx]; exact nI_pred _) (by omega) (by decide) dX10_worked_13 (by decide) (ae_88 _ _) ?_
      rw [h88, hlen]
      refine v_iadd (I := iX10_worked) dX10_worked_14 ?_
      refine v_icmp_ge (I := iX10_worked) (tgt := 141) dX10_worked_15 (by decide) (fun c15 => ?_) (fun c15 => ?_)
      · exact absurd c15 (by rw [hx3, hx, nI_add]; exact nI_ge (by omega) (by omega))
      · skip
        refine v_aload_n (I := iX10_worked) dX10_worked_18 rfl ?_
        refine v_get (I := iX10_worked) g_X10_9 dX10_worked_19 (by decide) (ae_87 _ _) rfl ?_
        refine v_iload_n (I := iX10_worked) dX10_worked_22 rfl ?_
        refine v_ialdN (I := iX10_worked) (j := (171 + 62 * u + 1 + k)) hx3 (by omega) (by decide) dX10_worked_23 (by decide) (ae_88 _ _) ?_
        rw [h88, hc9]
        refine v_istore (I := iX10_worked) (ls1 := [(4, _), (3, _), (2, _), (0, _), (1, _)]) dX10_worked_24 (by decide) rfl ?_
        skip
        rcases hr with ⟨hc0, hc1, hc2, hr⟩ | ⟨hc, hh, hr⟩ | ⟨hc0, hc1, hh, hr⟩
        · skip
          refine v_iload (I := iX10_worked) dX10_worked_26 rfl ?_
          refine v_sipush (I := iX10_worked) (v := 20000) dX10_worked_28 (by decide) ?_
          refine v_icmp_ge (I := iX10_worked) (tgt := 70) dX10_worked_31 (by decide) (fun c31 => ?_) (fun c31 => ?_)
          · exact absurd c31 (by grind)
          · refine v_aload_n (I := iX10_worked) dX10_worked_34 rfl ?_
            refine v_get (I := iX10_worked) g_X10_44 dX10_worked_35 (by decide) (ae_87 _ _) rfl ?_
            refine v_iload_n (I := iX10_worked) dX10_worked_38 rfl ?_
            refine v_iload (I := iX10_worked) dX10_worked_39 rfl ?_
            refine v_sipush (I := iX10_worked) (v := 10000) dX10_worked_41 (by decide) ?_
            refine v_icmp_ge (I := iX10_worked) (tgt := 52) dX10_worked_44 (by decide) (fun c44 => ?_) (fun c44 => ?_)
            · obtain ⟨j9, hj9, hjx⟩ : ∃ j, j < 5 ∧ c - 10000 = nI j := in2_nI (by decide) ⟨by grind, by show c - 10000 < 5; grind⟩
              refine v_aload_n (I := iX10_worked) dX10_worked_52 rfl ?_
              refine v_get (I := iX10_worked) g_X10_41 dX10_worked_53 (by decide) (ae_87 _ _) rfl ?_
              refine v_iload (I := iX10_worked) dX10_worked_56 rfl ?_
              refine v_sipush (I := iX10_worked) (v := 10000) dX10_worked_58 (by decide) ?_
              refine v_isub (I := iX10_worked) dX10_worked_61 ?_
              refine v_ialdN (I := iX10_worked) (j := j9) hjx hj9 (by decide) dX10_worked_62 (by decide) (ae_96 _ _) ?_
              rw [h96]
              refine v_iastN (I := iX10_worked) (j := s.length) hx2 (by omega) (by decide) dX10_worked_63 (by decide) (fun _ => ae_97 _ _) ?_
              refine v_iinc (I := iX10_worked) (ls1 := [(2, _), (4, _), (3, _), (0, _), (1, _)]) dX10_worked_64 rfl rfl (by decide) rfl ?_
              refine v_goto (I := iX10_worked) (tgt := 135) dX10_worked_67 (by decide) ?_
              refine v_iinc (I := iX10_worked) (ls1 := [(3, _), (2, _), (4, _), (0, _), (1, _)]) dX10_worked_135 rfl rfl (by decide) rfl ?_
              refine v_goto (I := iX10_worked) (tgt := 4) dX10_worked_138 (by decide) ?_
              refine v_pick (I := iX10_worked) (ls1 := [(3, _), (2, _), (0, _), (1, _)]) [0, 1, 3, 4] rfl ?_
              first | exact ih (k + 1) (c :: s) _ (by omega) (fun j hj => hcs' j hj) (by rw [List.length_cons]; exact hr) (by rw [List.length_cons]; omega) (fun q hq => by rw [up2_kf _ _ _ hq]; exact hfr q hq) (by rw [up2_f]; exact hstk.push) (by rw [hx2]; exact nI_1 _) (by rw [hx3]; exact nI_1 _) (by rw [← hpost, rEv_cons, rStep_num (by grind)]) | exact ih (k + 1) (σ 96 j9 :: s) _ (by omega) (fun j hj => hcs' j hj) (by rw [List.length_cons]; exact hr) (by rw [List.length_cons]; omega) (fun q hq => by rw [up2_kf _ _ _ hq]; exact hfr q hq) (by rw [up2_f]; exact hstk.push) (by rw [hx2]; exact nI_1 _) (by rw [hx3]; exact nI_1 _) (by rw [← hpost, rEv_cons, rStep_name (by grind) (by grind), hjx, nI_clamp (by omega)])
            · refine v_iload (I := iX10_worked) dX10_worked_47 rfl ?_
              refine v_goto (I := iX10_worked) (tgt := 63) dX10_worked_49 (by decide) ?_
              refine v_iastN (I := iX10_worked) (j := s.length) hx2 (by omega) (by decide) dX10_worked_63 (by decide) (fun _ => ae_97 _ _) ?_
              refine v_iinc (I := iX10_worked) (ls1 := [(2, _), (4, _), (3, _), (0, _), (1, _)]) dX10_worked_64 rfl rfl (by decide) rfl ?_
              refine v_goto (I := iX10_worked) (tgt := 135) dX10_worked_67 (by decide) ?_
              refine v_iinc (I := iX10_worked) (ls1 := [(3, _), (2, _), (4, _), (0, _), (1, _)]) dX10_worked_135 rfl rfl (by decide) rfl ?_
              refine v_goto (I := iX10_worked) (tgt := 4) dX10_worked_138 (by decide) ?_
              refine v_pick (I := iX10_worked) (ls1 := [(3, _), (2, _), (0, _), (1, _)]) [0, 1, 3, 4] rfl ?_
              first | exact ih (k + 1) (c :: s) _ (by omega) (fun j hj => hcs' j hj) (by rw [List.length_cons]; exact hr) (by rw [List.length_cons]; omega) (fun q hq => by rw [up2_kf _ _ _ hq]; exact hfr q hq) (by rw [up2_f]; exact hstk.push) (by rw [hx2]; exact nI_1 _) (by rw [hx3]; exact nI_1 _) (by rw [← hpost, rEv_cons, rStep_num (by grind)]) | exact ih (k + 1) (σ 96 j9 :: s) _ (by omega) (fun j hj => hcs' j hj) (by rw [List.length_cons]; exact hr) (by rw [List.length_cons]; omega) (fun q hq => by rw [up2_kf _ _ _ hq]; exact hfr q hq) (by rw [up2_f]; exact hstk.push) (by rw [hx2]; exact nI_1 _) (by rw [hx3]; exact nI_1 _) (by rw [← hpost, rEv_cons, rStep_name (by grind) (by grind), hjx, nI_clamp (by omega)])
        · match s, hh, hstk, hx2, hr, hsk, hpost with
          | y :: t, _, hstk, hx2, hr, hsk, hpost =>
          rw [List.length_cons] at hx2
          refine v_iload (I := iX10_worked) dX10_worked_26 rfl ?_
          refine v_sipush (I := iX10_worked) (v := 20000) dX10_worked_28 (by decide) ?_
          refine v_icmp_ge (I := iX10_worked) (tgt := 70) dX10_worked_31 (by decide) (fun c31 => ?_) (fun c31 => ?_)
          · refine v_iload (I := iX10_worked) dX10_worked_70 rfl ?_
            refine v_sipush (I := iX10_worked) (v := 20010) dX10_worked_72 (by decide) ?_
            refine v_icmp_ne (I := iX10_worked) (tgt := 105) dX10_worked_75 (by decide) (fun c75 => ?_) (fun c75 => ?_)
            · exact absurd hc c75
            · refine v_aload_n (I := iX10_worked) dX10_worked_78 rfl ?_
              refine v_get (I := iX10_worked) g_X10_44 dX10_worked_79 (by decide) (ae_87 _ _) rfl ?_
              refine v_iload_n (I := iX10_worked) dX10_worked_82 rfl ?_
              refine v_iconst (I := iX10_worked) (v := 1) dX10_worked_83 (by decide) ?_
              refine v_isub (I := iX10_worked) dX10_worked_84 ?_
              refine v_aload_n (I := iX10_worked) dX10_worked_85 rfl ?_
              refine v_get (I := iX10_worked) g_X10_44 dX10_worked_86 (by decide) (ae_87 _ _) rfl ?_
              refine v_iload_n (I := iX10_worked) dX10_worked_89 rfl ?_
              refine v_iconst (I := iX10_worked) (v := 1) dX10_worked_90 (by decide) ?_
              refine v_isub (I := iX10_worked) dX10_worked_91 ?_
              refine v_ialdN (I := iX10_worked) (j := t.length) (by rw [hx2]; exact nI_pred _) (by simp only [List.length_cons] at hsk; omega) (by decide) dX10_worked_92 (by decide) (ae_97 _ _) ?_
              rw [hstk.1]
              refine v_if_ne (I := iX10_worked) (tgt := 100) dX10_worked_93 (by decide) (fun c93 => ?_) (fun c93 => ?_)
              · refine v_iconst (I := iX10_worked) (v := 0) dX10_worked_100 (by decide) ?_
                refine v_iastN (I := iX10_worked) (j := t.length) (by rw [hx2]; exact nI_pred _) (by simp only [List.length_cons] at hsk; omega) (by decide) dX10_worked_101 (by decide) (fun _ => ae_97 _ _) ?_
                refine v_goto (I := iX10_worked) (tgt := 135) dX10_worked_102 (by decide) ?_
                refine v_iinc (I := iX10_worked) (ls1 := [(3, _), (4, _), (2, _), (0, _), (1, _)]) dX10_worked_135 rfl rfl (by decide) rfl ?_
                refine v_goto (I := iX10_worked) (tgt := 4) dX10_worked_138 (by decide) ?_
                refine v_pick (I := iX10_worked) (ls1 := [(3, _), (2, _), (0, _), (1, _)]) [0, 2, 3, 4] rfl ?_
                first | exact ih (k + 1) (1 :: t) _ (by omega) (fun j hj => hcs' j hj) hr (by simp only [List.length_cons] at hsk ⊢; omega) (fun q hq => by rw [up2_kf _ _ _ hq]; exact hfr q hq) (by rw [up2_f]; exact hstk.2.push) hx2 (by rw [hx3]; exact nI_1 _) (by rw [← hpost, rEv_cons, hc, rStep_not, if_pos c93]) | exact ih (k + 1) (0 :: t) _ (by omega) (fun j hj => hcs' j hj) hr (by simp only [List.length_cons] at hsk ⊢; omega) (fun q hq => by rw [up2_kf _ _ _ hq]; exact hfr q hq) (by rw [up2_f]; exact hstk.2.push) hx2 (by rw [hx3]; exact nI_1 _) (by rw [← hpost, rEv_cons, hc, rStep_not, if_neg c93])
              · refine v_iconst (I := iX10_worked) (v := 1) dX10_worked_96 (by decide) ?_
                refine v_goto (I := iX10_worked) (tgt := 101) dX10_worked_97 (by decide) ?_
                refine v_iastN (I := iX10_worked) (j := t.length) (by rw [hx2]; exact nI_pred _) (by simp only [List.length_cons] at hsk; omega) (by decide) dX10_worked_101 (by decide) (fun _ => ae_97 _ _) ?_
                refine v_goto (I := iX10_worked) (tgt := 135) dX10_worked_102 (by decide) ?_
                refine v_iinc (I := iX10_worked) (ls1 := [(3, _), (4, _), (2, _), (0, _), (1, _)]) dX10_worked_135 rfl rfl (by decide) rfl ?_
                refine v_goto (I := iX10_worked) (tgt := 4) dX10_worked_138 (by decide) ?_
                refine v_pick (I := iX10_worked) (ls1 := [(3, _), (2, _), (0, _), (1, _)]) [0, 2, 3, 4] rfl ?_
                first | exact ih (k + 1) (1 :: t) _ (by omega) (fun j hj => hcs' j hj) hr (by simp only [List.length_cons] at hsk ⊢; omega) (fun q hq => by rw [up2_kf _ _ _ hq]; exact hfr q hq) (by rw [up2_f]; exact hstk.2.push) hx2 (by rw [hx3]; exact nI_1 _) (by rw [← hpost, rEv_cons, hc, rStep_not, if_pos c93]) | exact ih (k + 1) (0 :: t) _ (by omega) (fun j hj => hcs' j hj) hr (by simp only [List.length_cons] at hsk ⊢; omega) (fun q hq => by rw [up2_kf _ _ _ hq]; exact hfr q hq) (by rw [up2_f]; exact hstk.2.push) hx2 (by rw [hx3]; exact nI_1 _) (by rw [← hpost, rEv_cons, hc, rStep_not, if_neg c93])
          · exact absurd hc (fun h => c31 (by rw [h]; decide))
        · match s, hh, hstk, hx2, hr, hsk, hpost with
          | b9 :: a9 :: t, _, hstk, hx2, hr, hsk, hpost =>
          rw [List.length_cons, List.length_cons] at hx2
          refine v_iload (I := iX10_worked) dX10_worked_26 rfl ?_
          refine v_sipush (I := iX10_worked) (v := 20000) dX10_worked_28 (by decide) ?_
          refine v_icmp_ge (I := iX10_worked) (tgt := 70) dX10_worked_31 (by decide) (fun c31 => ?_) (fun c31 => ?_)
          · refine v_iload (I := iX10_worked) dX10_worked_70 rfl ?_
            refine v_sipush (I := iX10_worked) (v := 20010) dX10_worked_72 (by decide) ?_
            refine v_icmp_ne (I := iX10_worked) (tgt := 105) dX10_worked_75 (by decide) (fun c75 => ?_) (fun c75 => ?_)
            · refine v_iinc (I := iX10_worked) (ls1 := [(2, _), (4, _), (3, _), (0, _), (1, _)]) dX10_worked_105 rfl rfl (by decide) rfl ?_
              refine v_aload_n (I := iX10_worked) dX10_worked_108 rfl ?_
              refine v_get (I := iX10_worked) g_X10_44 dX10_worked_109 (by decide) (ae_87 _ _) rfl ?_
              refine v_iload_n (I := iX10_worked) dX10_worked_112 rfl ?_
              refine v_iconst (I := iX10_worked) (v := 1) dX10_worked_113 (by decide) ?_
              refine v_isub (I := iX10_worked) dX10_worked_114 ?_
              refine v_iload (I := iX10_worked) dX10_worked_115 rfl ?_
              refine v_aload_n (I := iX10_worked) dX10_worked_117 rfl ?_
              refine v_get (I := iX10_worked) g_X10_44 dX10_worked_118 (by decide) (ae_87 _ _) rfl ?_
              refine v_iload_n (I := iX10_worked) dX10_worked_121 rfl ?_
              refine v_iconst (I := iX10_worked) (v := 1) dX10_worked_122 (by decide) ?_
              refine v_isub (I := iX10_worked) dX10_worked_123 ?_
              refine v_ialdN (I := iX10_worked) (j := t.length) (by rw [hx2]; exact (congrArg (· - 1) (nI_m1 _)).trans (nI_pred _)) (by simp only [List.length_cons] at hsk; omega) (by decide) dX10_worked_124 (by decide) (ae_97 _ _) ?_
              rw [hstk.2.1]
              refine v_aload_n (I := iX10_worked) dX10_worked_125 rfl ?_
              refine v_get (I := iX10_worked) g_X10_44 dX10_worked_126 (by decide) (ae_87 _ _) rfl ?_
              refine v_iload_n (I := iX10_worked) dX10_worked_129 rfl ?_
              refine v_ialdN (I := iX10_worked) (j := (t.length + 1)) (by rw [hx2]; exact nI_m1 _) (by simp only [List.length_cons] at hsk; omega) (by decide) dX10_worked_130 (by decide) (ae_97 _ _) ?_
              rw [show σ1 97 (t.length + 1) = b9 from hstk.1]
              refine v_callSi (I := iX10_worked) (I' := iX10_done) lk_X10_215 c_X10_done dX10_worked_131 (m_X10_done) rfl rfl (by decide) (by decide) (Nat.le_of_ble_eq_true rfl) ?_
              refine v_iastN (I := iX10_worked) (j := t.length) (by rw [hx2]; exact (congrArg (· - 1) (nI_m1 _)).trans (nI_pred _)) (by simp only [List.length_cons] at hsk; omega) (by decide) dX10_worked_134 (by decide) (fun _ => ae_97 _ _) ?_
              refine v_iinc (I := iX10_worked) (ls1 := [(3, _), (2, _), (4, _), (0, _), (1, _)]) dX10_worked_135 rfl rfl (by decide) rfl ?_
              refine v_goto (I := iX10_worked) (tgt := 4) dX10_worked_138 (by decide) ?_
              refine v_pick (I := iX10_worked) (ls1 := [(3, _), (2, _), (0, _), (1, _)]) [0, 1, 3, 4] rfl ?_
              exact ih (k + 1) (_ :: t) _ (by omega) (fun j hj => hcs' j hj) hr (by simp only [List.length_cons] at hsk ⊢; omega) (fun q hq => by rw [up2_kf _ _ _ hq]; exact hfr q hq) (by rw [up2_f]; exact hstk.2.2.push) (by rw [hx2]; exact nI_m1 _) (by rw [hx3]; exact nI_1 _) (by rw [← hpost, rEv_cons, rStep_op (by grind) (by grind)])
            · exact absurd c75 (by grind)
          · exact absurd c31 (by grind)
  refine v_iconst (I := iX10_worked) (v := 0) dX10_worked_0 (by decide) ?_
  refine v_istore_n (I := iX10_worked) (ls1 := [(2, _), (0, _), (1, _)]) dX10_worked_1 (by decide) rfl ?_
  refine v_iload_n (I := iX10_worked) dX10_worked_2 rfl ?_
  refine v_istore_n (I := iX10_worked) (ls1 := [(3, _), (2, _), (0, _), (1, _)]) dX10_worked_3 (by decide) rfl ?_
  have hcl : (gCode (σ 88) u).length = n := by unfold gCode; rw [List.length_map, List.length_range, hlen, nI_clamp (by omega)]
  refine key (gCode (σ 88) u) 0 [] σ (by omega) (fun j hj => ?_) hrok (Nat.le_refl _) (fun _ _ => rfl) trivial rfl hx rfl
  rw [hcl] at hj
  unfold gCode
  rw [hlen, nI_clamp (by omega)]
  simp [hj]
