/-- the contract of a method of the parser -/
def RcF (G : fGm) (I : fMI) (σ0 : fSt) (N : Nat) (F : Nat → List Int32 → pR) (kn D : Nat) : Prop := ∀ (a : Nat) (C : List Int32) (σ : fSt) (τ : fLt), RT σ0 σ a kn C → a ≤ N → C.length ≤ a → MS G I D [.ref 87] σ τ (rP none τ (fun σ' => RP σ0 kn (F a C) σ'))
theorem oc5_4 {b : Int32} (h : b = 42) : oc5 b = 20007 := by subst h; rfl
theorem hr_ge {T : Nat → Int32} {N a : Nat} (h : N ≤ a) : hrB T N a = -1 := by unfold hrB; rw [if_neg (by omega)]
theorem lev_ok {T : Nat → Int32} {N a : Nat} {F : Nat → List Int32 → pR} {opc : Int32 → Int32} {C : List Int32} (h : (F a C).1 = true) : pLev T N F opc a C = pLoop T N F opc N (F a C).2.1 (F a C).2.2 := by unfold pLev; rw [if_pos h]
theorem lev_no {T : Nat → Int32} {N a : Nat} {F : Nat → List Int32 → pR} {opc : Int32 → Int32} {C : List Int32} (h : ¬ (F a C).1 = true) : pLev T N F opc a C = F a C := by unfold pLev; rw [if_neg h]
theorem plp_0 {T : Nat → Int32} {N n a : Nat} {F : Nat → List Int32 → pR} {opc : Int32 → Int32} {C : List Int32} (h : opc (hrB T N a) = 0) : pLoop T N F opc n a C = (true, a, C) := by
  cases n with
  | zero => rfl
  | succ n => unfold pLoop; rw [if_pos h]
theorem plp_y {T : Nat → Int32} {N n a : Nat} {F : Nat → List Int32 → pR} {opc : Int32 → Int32} {C : List Int32} (h : ¬ opc (hrB T N a) = 0) (hF : (F (a + 1) C).1 = true) : pLoop T N F opc (n + 1) a C = pLoop T N F opc n (F (a + 1) C).2.1 (opc (hrB T N a) :: (F (a + 1) C).2.2) := by
  conv => lhs; unfold pLoop; rw [if_neg h, if_pos hF]
theorem plp_n {T : Nat → Int32} {N n a : Nat} {F : Nat → List Int32 → pR} {opc : Int32 → Int32} {C : List Int32} (h : ¬ opc (hrB T N a) = 0) (hF : ¬ (F (a + 1) C).1 = true) : pLoop T N F opc (n + 1) a C = F (a + 1) C := by
  unfold pLoop; rw [if_neg h, if_neg hF]
set_option maxRecDepth 100000 in
set_option maxHeartbeats 8000000 in
theorem m_X10_either {G : fGm} {σ0 : fSt} {N u : Nat} (hX : TX σ0 N u) {F : Nat → List Int32 → pR} {kn D : Nat} (hF : RcF G iX10_both σ0 N F kn D) (hBd : Bd N F) : RcF G iX10_either σ0 N (pLev (tpe σ0) N F oc1) kn (D + 2) := by
  intro a0 C0 σ τ hR0 ha0 hC0
  refine ms_of (by decide +kernel) (Nat.le_of_ble_eq_true rfl) ?_
  show VW _ _ _ _ _ _ 0 [(0, _)] []
  have keyW : ∀ {σ9 : fSt}, (pLev (tpe σ0) N F oc1 a0 C0).1 = false → RW σ0 σ9 (pLev (tpe σ0) N F oc1 a0 C0).2.1 → VW G iX10_either (rP none τ (fun σ' => RP σ0 kn (pLev (tpe σ0) N F oc1 a0 C0) σ')) (D + 2) σ9 τ 4 [(0, .ref 87)] [] := by
    intro σ9 hr9 hW9
    show VW _ _ _ _ _ _ 4 [(0, _)] []
    refine v_aload_n (I := iX10_either) dX10_either_4 rfl ?_
    refine v_bipush (I := iX10_either) (v := 124) dX10_either_5 (by decide) ?_
    refine v_callViP (I := iX10_either) (I' := iX10_takes) lk_X10_178 c_X10_takes dX10_either_7 (m_X10_takesW (c := 124) hW9 (by decide)) rfl rfl (by decide) (ae_87 _ _) rfl (by omega) (by decide) (Nat.le_of_ble_eq_true rfl) (fun s7 h7 => ?_)
    refine v_if_eq (I := iX10_either) (tgt := 27) dX10_either_10 (by decide) (fun c10 => ?_) (fun c10 => ?_)
    · exact v_vret (I := iX10_either) rfl dX10_either_27 ⟨rfl, rfl, RP.of0 h7 hr9⟩
    · exact absurd rfl c10
  have key : ∀ (n : Nat) {a : Nat} {C : List Int32} {σ9 : fSt}, C.length ≤ a → a ≤ N → N ≤ a + n → pLoop (tpe σ0) N F oc1 n a C = pLev (tpe σ0) N F oc1 a0 C0 → RT σ0 σ9 a kn C → VW G iX10_either (rP none τ (fun σ' => RP σ0 kn (pLev (tpe σ0) N F oc1 a0 C0) σ')) (D + 2) σ9 τ 4 [(0, .ref 87)] [] := by
    intro n
    induction n with
    | zero =>
      intro a C σ9 hC9 ha9 han he hR9
      show VW _ _ _ _ _ _ 4 [(0, _)] []
      refine v_aload_n (I := iX10_either) dX10_either_4 rfl ?_
      refine v_bipush (I := iX10_either) (v := 124) dX10_either_5 (by decide) ?_
      refine v_callViP (I := iX10_either) (I' := iX10_takes) lk_X10_178 c_X10_takes dX10_either_7 (m_X10_takes (c := 124) hX hR9 ha9) rfl rfl (by decide) (ae_87 _ _) rfl (by omega) (by decide) (Nat.le_of_ble_eq_true rfl) (fun s7 h7 => ?_)
      refine v_if_eqB (I := iX10_either) (tgt := 27) dX10_either_10 (by decide) (fun c10 => ?_) (fun c10 => ?_)
      · have hoc : oc1 (hrB (tpe σ0) N a) = 0 := by unfold oc1; rw [if_neg c10]
        exact v_vret (I := iX10_either) rfl dX10_either_27 ⟨rfl, rfl, by rw [← he, plp_0 hoc]; exact RP.of (by rw [if_neg c10] at h7; exact h7) rfl⟩
      · exact absurd (hr_ge (T := tpe σ0) (N := N) (a := a) (by omega)) (by rw [c10]; decide)
    | succ n ih =>
      intro a C σ9 hC9 ha9 han he hR9
      show VW _ _ _ _ _ _ 4 [(0, _)] []
      refine v_aload_n (I := iX10_either) dX10_either_4 rfl ?_
      refine v_bipush (I := iX10_either) (v := 124) dX10_either_5 (by decide) ?_
      refine v_callViP (I := iX10_either) (I' := iX10_takes) lk_X10_178 c_X10_takes dX10_either_7 (m_X10_takes (c := 124) hX hR9 ha9) rfl rfl (by decide) (ae_87 _ _) rfl (by omega) (by decide) (Nat.le_of_ble_eq_true rfl) (fun s7 h7 => ?_)
      refine v_if_eqB (I := iX10_either) (tgt := 27) dX10_either_10 (by decide) (fun c10 => ?_) (fun c10 => ?_)
      · have hoc : oc1 (hrB (tpe σ0) N a) = 0 := by unfold oc1; rw [if_neg c10]
        exact v_vret (I := iX10_either) rfl dX10_either_27 ⟨rfl, rfl, by rw [← he, plp_0 hoc]; exact RP.of (by rw [if_neg c10] at h7; exact h7) rfl⟩
      · have hoc : ¬ oc1 (hrB (tpe σ0) N a) = 0 := by unfold oc1; rw [if_pos c10]; decide
        have haN : a < N := (hr_eq c10 (by decide)).1
        rw [if_pos c10] at h7
        obtain ⟨bd1, bd2⟩ := hBd (a + 1) C (by omega)
        refine v_aload_n (I := iX10_either) dX10_either_13 rfl ?_
        refine v_callVvP (I := iX10_either) (I' := iX10_both) lk_X10_175 c_X10_both dX10_either_14 (hF (a + 1) C s7 τ h7 (by omega) (by omega)) rfl rfl (by decide) (ae_87 _ _) rfl (by omega) (by decide) (Nat.le_of_ble_eq_true rfl) (fun s14 h14 => ?_)
        by_cases hok : (F (a + 1) C).1 = true
        · refine v_aload_n (I := iX10_either) dX10_either_17 rfl ?_
          refine v_sipush (I := iX10_either) (v := 20000) dX10_either_18 (by decide) ?_
          refine v_callVvP (I := iX10_either) (I' := iX10_codes) lk_X10_181 c_X10_codes dX10_either_21 (m_X10_codes (v := 20000) (h14.ok hok) (by have := (bd2 hok).2; have := hX.2.1; omega)) rfl rfl (by decide) (ae_87 _ _) rfl (by omega) (by decide) (Nat.le_of_ble_eq_true rfl) (fun s21 h21 => ?_)
          refine v_goto (I := iX10_either) (tgt := 4) dX10_either_24 (by decide) ?_
          exact ih (by rw [List.length_cons]; have := (bd2 hok).2; omega) bd1 (by have := (bd2 hok).1; omega) (by rw [← he, plp_y hoc hok, show oc1 (hrB (tpe σ0) N a) = 20000 by unfold oc1; rw [if_pos c10]]) h21
        · refine v_aload_n (I := iX10_either) dX10_either_17 rfl ?_
          refine v_sipush (I := iX10_either) (v := 20000) dX10_either_18 (by decide) ?_
          refine v_callVvP (I := iX10_either) (I' := iX10_codes) lk_X10_181 c_X10_codes dX10_either_21 (m_X10_codesW (v := 20000) (h14.no hok)) rfl rfl (by decide) (ae_87 _ _) rfl (by omega) (by decide) (Nat.le_of_ble_eq_true rfl) (fun s21 h21 => ?_)
          refine v_goto (I := iX10_either) (tgt := 4) dX10_either_24 (by decide) ?_
          exact keyW (by rw [← he, plp_n hoc hok]; exact b_not hok) (by rw [← he, plp_n hoc hok]; exact h21)
  refine v_aload_n (I := iX10_either) dX10_either_0 rfl ?_
  refine v_callVvP (I := iX10_either) (I' := iX10_both) lk_X10_175 c_X10_both dX10_either_1 (hF a0 C0 σ τ hR0 ha0 hC0) rfl rfl (by decide) (ae_87 _ _) rfl (by omega) (by decide) (Nat.le_of_ble_eq_true rfl) (fun s1 h1 => ?_)
  by_cases hok : (F a0 C0).1 = true
  · obtain ⟨bd1, bd2⟩ := hBd a0 C0 ha0
    exact key N (by have := (bd2 hok).2; omega) bd1 (by omega) (lev_ok hok).symm (h1.ok hok)
  · exact keyW (by rw [lev_no hok]; exact b_not hok) (by rw [lev_no hok]; exact h1.no hok)
set_option maxRecDepth 100000 in
set_option maxHeartbeats 8000000 in
theorem m_X10_both {G : fGm} {σ0 : fSt} {N u : Nat} (hX : TX σ0 N u) {F : Nat → List Int32 → pR} {kn D : Nat} (hF : RcF G iX10_compared σ0 N F kn D) (hBd : Bd N F) : RcF G iX10_both σ0 N (pLev (tpe σ0) N F oc2) kn (D + 2) := by
  intro a0 C0 σ τ hR0 ha0 hC0
  refine ms_of (by decide +kernel) (Nat.le_of_ble_eq_true rfl) ?_
  show VW _ _ _ _ _ _ 0 [(0, _)] []
  have keyW : ∀ {σ9 : fSt}, (pLev (tpe σ0) N F oc2 a0 C0).1 = false → RW σ0 σ9 (pLev (tpe σ0) N F oc2 a0 C0).2.1 → VW G iX10_both (rP none τ (fun σ' => RP σ0 kn (pLev (tpe σ0) N F oc2 a0 C0) σ')) (D + 2) σ9 τ 4 [(0, .ref 87)] [] := by
    intro σ9 hr9 hW9
    show VW _ _ _ _ _ _ 4 [(0, _)] []
    refine v_aload_n (I := iX10_both) dX10_both_4 rfl ?_
    refine v_bipush (I := iX10_both) (v := 38) dX10_both_5 (by decide) ?_
    refine v_callViP (I := iX10_both) (I' := iX10_takes) lk_X10_178 c_X10_takes dX10_both_7 (m_X10_takesW (c := 38) hW9 (by decide)) rfl rfl (by decide) (ae_87 _ _) rfl (by omega) (by decide) (Nat.le_of_ble_eq_true rfl) (fun s7 h7 => ?_)
    refine v_if_eq (I := iX10_both) (tgt := 27) dX10_both_10 (by decide) (fun c10 => ?_) (fun c10 => ?_)
    · exact v_vret (I := iX10_both) rfl dX10_both_27 ⟨rfl, rfl, RP.of0 h7 hr9⟩
    · exact absurd rfl c10
  have key : ∀ (n : Nat) {a : Nat} {C : List Int32} {σ9 : fSt}, C.length ≤ a → a ≤ N → N ≤ a + n → pLoop (tpe σ0) N F oc2 n a C = pLev (tpe σ0) N F oc2 a0 C0 → RT σ0 σ9 a kn C → VW G iX10_both (rP none τ (fun σ' => RP σ0 kn (pLev (tpe σ0) N F oc2 a0 C0) σ')) (D + 2) σ9 τ 4 [(0, .ref 87)] [] := by
    intro n
    induction n with
    | zero =>
      intro a C σ9 hC9 ha9 han he hR9
      show VW _ _ _ _ _ _ 4 [(0, _)] []
      refine v_aload_n (I := iX10_both) dX10_both_4 rfl ?_
      refine v_bipush (I := iX10_both) (v := 38) dX10_both_5 (by decide) ?_
      refine v_callViP (I := iX10_both) (I' := iX10_takes) lk_X10_178 c_X10_takes dX10_both_7 (m_X10_takes (c := 38) hX hR9 ha9) rfl rfl (by decide) (ae_87 _ _) rfl (by omega) (by decide) (Nat.le_of_ble_eq_true rfl) (fun s7 h7 => ?_)
      refine v_if_eqB (I := iX10_both) (tgt := 27) dX10_both_10 (by decide) (fun c10 => ?_) (fun c10 => ?_)
      · have hoc : oc2 (hrB (tpe σ0) N a) = 0 := by unfold oc2; rw [if_neg c10]
        exact v_vret (I := iX10_both) rfl dX10_both_27 ⟨rfl, rfl, by rw [← he, plp_0 hoc]; exact RP.of (by rw [if_neg c10] at h7; exact h7) rfl⟩
      · exact absurd (hr_ge (T := tpe σ0) (N := N) (a := a) (by omega)) (by rw [c10]; decide)
    | succ n ih =>
      intro a C σ9 hC9 ha9 han he hR9
      show VW _ _ _ _ _ _ 4 [(0, _)] []
      refine v_aload_n (I := iX10_both) dX10_both_4 rfl ?_
      refine v_bipush (I := iX10_both) (v := 38) dX10_both_5 (by decide) ?_
      refine v_callViP (I := iX10_both) (I' := iX10_takes) lk_X10_178 c_X10_takes dX10_both_7 (m_X10_takes (c := 38) hX hR9 ha9) rfl rfl (by decide) (ae_87 _ _) rfl (by omega) (by decide) (Nat.le_of_ble_eq_true rfl) (fun s7 h7 => ?_)
      refine v_if_eqB (I := iX10_both) (tgt := 27) dX10_both_10 (by decide) (fun c10 => ?_) (fun c10 => ?_)
      · have hoc : oc2 (hrB (tpe σ0) N a) = 0 := by unfold oc2; rw [if_neg c10]
        exact v_vret (I := iX10_both) rfl dX10_both_27 ⟨rfl, rfl, by rw [← he, plp_0 hoc]; exact RP.of (by rw [if_neg c10] at h7; exact h7) rfl⟩
      · have hoc : ¬ oc2 (hrB (tpe σ0) N a) = 0 := by unfold oc2; rw [if_pos c10]; decide
        have haN : a < N := (hr_eq c10 (by decide)).1
        rw [if_pos c10] at h7
        obtain ⟨bd1, bd2⟩ := hBd (a + 1) C (by omega)
        refine v_aload_n (I := iX10_both) dX10_both_13 rfl ?_
        refine v_callVvP (I := iX10_both) (I' := iX10_compared) lk_X10_184 c_X10_compared dX10_both_14 (hF (a + 1) C s7 τ h7 (by omega) (by omega)) rfl rfl (by decide) (ae_87 _ _) rfl (by omega) (by decide) (Nat.le_of_ble_eq_true rfl) (fun s14 h14 => ?_)
        by_cases hok : (F (a + 1) C).1 = true
        · refine v_aload_n (I := iX10_both) dX10_both_17 rfl ?_
          refine v_sipush (I := iX10_both) (v := 20001) dX10_both_18 (by decide) ?_
          refine v_callVvP (I := iX10_both) (I' := iX10_codes) lk_X10_181 c_X10_codes dX10_both_21 (m_X10_codes (v := 20001) (h14.ok hok) (by have := (bd2 hok).2; have := hX.2.1; omega)) rfl rfl (by decide) (ae_87 _ _) rfl (by omega) (by decide) (Nat.le_of_ble_eq_true rfl) (fun s21 h21 => ?_)
          refine v_goto (I := iX10_both) (tgt := 4) dX10_both_24 (by decide) ?_
          exact ih (by rw [List.length_cons]; have := (bd2 hok).2; omega) bd1 (by have := (bd2 hok).1; omega) (by rw [← he, plp_y hoc hok, show oc2 (hrB (tpe σ0) N a) = 20001 by unfold oc2; rw [if_pos c10]]) h21
        · refine v_aload_n (I := iX10_both) dX10_both_17 rfl ?_
          refine v_sipush (I := iX10_both) (v := 20001) dX10_both_18 (by decide) ?_
          refine v_callVvP (I := iX10_both) (I' := iX10_codes) lk_X10_181 c_X10_codes dX10_both_21 (m_X10_codesW (v := 20001) (h14.no hok)) rfl rfl (by decide) (ae_87 _ _) rfl (by omega) (by decide) (Nat.le_of_ble_eq_true rfl) (fun s21 h21 => ?_)
          refine v_goto (I := iX10_both) (tgt := 4) dX10_both_24 (by decide) ?_
          exact keyW (by rw [← he, plp_n hoc hok]; exact b_not hok) (by rw [← he, plp_n hoc hok]; exact h21)
  refine v_aload_n (I := iX10_both) dX10_both_0 rfl ?_
  refine v_callVvP (I := iX10_both) (I' := iX10_compared) lk_X10_184 c_X10_compared dX10_both_1 (hF a0 C0 σ τ hR0 ha0 hC0) rfl rfl (by decide) (ae_87 _ _) rfl (by omega) (by decide) (Nat.le_of_ble_eq_true rfl) (fun s1 h1 => ?_)
  by_cases hok : (F a0 C0).1 = true
  · obtain ⟨bd1, bd2⟩ := hBd a0 C0 ha0
    exact key N (by have := (bd2 hok).2; omega) bd1 (by omega) (lev_ok hok).symm (h1.ok hok)
  · exact keyW (by rw [lev_no hok]; exact b_not hok) (by rw [lev_no hok]; exact h1.no hok)
set_option maxRecDepth 100000 in
set_option maxHeartbeats 8000000 in
theorem m_X10_product {G : fGm} {σ0 : fSt} {N u : Nat} (hX : TX σ0 N u) {F : Nat → List Int32 → pR} {kn D : Nat} (hF : RcF G iX10_one σ0 N F kn D) (hBd : Bd N F) : RcF G iX10_product σ0 N (pLev (tpe σ0) N F oc5) kn (D + 2) := by
  intro a0 C0 σ τ hR0 ha0 hC0
  refine ms_of (by decide +kernel) (Nat.le_of_ble_eq_true rfl) ?_
  show VW _ _ _ _ _ _ 0 [(0, _)] []
  have keyW : ∀ {σ9 : fSt}, (pLev (tpe σ0) N F oc5 a0 C0).1 = false → RW σ0 σ9 (pLev (tpe σ0) N F oc5 a0 C0).2.1 → VW G iX10_product (rP none τ (fun σ' => RP σ0 kn (pLev (tpe σ0) N F oc5 a0 C0) σ')) (D + 2) σ9 τ 51 [(1, .int 0), (0, .ref 87)] [] := by
    intro σ9 hr9 hW9
    show VW _ _ _ _ _ _ 51 [(1, _), (0, _)] []
    refine v_iload_n (I := iX10_product) dX10_product_51 rfl ?_
    refine v_if_le (I := iX10_product) (tgt := 114) dX10_product_52 (by decide) (fun c52 => ?_) (fun c52 => ?_)
    · exact v_vret (I := iX10_product) rfl dX10_product_114 ⟨rfl, rfl, RP.of0 hW9 hr9⟩
    · exact absurd (Int32.le_refl 0) c52
  have key : ∀ (n : Nat) {a : Nat} {C : List Int32} {σ9 : fSt}, C.length ≤ a → a ≤ N → N ≤ a + n → pLoop (tpe σ0) N F oc5 n a C = pLev (tpe σ0) N F oc5 a0 C0 → ∀ {y : Int32}, y = oc5 (hrB (tpe σ0) N a) → (y = 0 ∧ RT σ0 σ9 a kn C ∨ y ≠ 0 ∧ RT σ0 σ9 (a + 1) kn C) → VW G iX10_product (rP none τ (fun σ' => RP σ0 kn (pLev (tpe σ0) N F oc5 a0 C0) σ')) (D + 2) σ9 τ 51 [(1, .int y), (0, .ref 87)] [] := by
    intro n
    induction n with
    | zero =>
      intro a C σ9 hC9 ha9 han he y hy9 hR9
      show VW _ _ _ _ _ _ 51 [(1, _), (0, _)] []
      refine v_iload_n (I := iX10_product) dX10_product_51 rfl ?_
      refine v_if_le (I := iX10_product) (tgt := 114) dX10_product_52 (by decide) (fun c52 => ?_) (fun c52 => ?_)
      · have hy0 : y = 0 := by
          rcases hR9 with ⟨h9, _⟩ | ⟨h9, _⟩
          · exact h9
          · exact absurd (by rw [hy9]; unfold oc5; (repeat' split) <;> decide) (show ¬ (y = 0 ∨ 0 < y) from fun h8 => h8.elim h9 (fun h8 => absurd c52 (Int32.not_le.mpr h8)))
        obtain ⟨_, hR9⟩ : y = 0 ∧ RT σ0 σ9 a kn C := hR9.elim id (fun h9 => absurd hy0 h9.1)
        have hoc : oc5 (hrB (tpe σ0) N a) = 0 := by rw [← hy9]; exact hy0
        exact v_vret (I := iX10_product) rfl dX10_product_114 ⟨rfl, rfl, by rw [← he, plp_0 hoc]; exact RP.of hR9 rfl⟩
      · exact absurd (show y ≤ 0 by rw [hy9, hr_ge (by omega)]; decide) c52
    | succ n ih =>
      intro a C σ9 hC9 ha9 han he y hy9 hR9
      show VW _ _ _ _ _ _ 51 [(1, _), (0, _)] []
      refine v_iload_n (I := iX10_product) dX10_product_51 rfl ?_
      refine v_if_le (I := iX10_product) (tgt := 114) dX10_product_52 (by decide) (fun c52 => ?_) (fun c52 => ?_)
      · have hy0 : y = 0 := by
          rcases hR9 with ⟨h9, _⟩ | ⟨h9, _⟩
          · exact h9
          · exact absurd (by rw [hy9]; unfold oc5; (repeat' split) <;> decide) (show ¬ (y = 0 ∨ 0 < y) from fun h8 => h8.elim h9 (fun h8 => absurd c52 (Int32.not_le.mpr h8)))
        obtain ⟨_, hR9⟩ : y = 0 ∧ RT σ0 σ9 a kn C := hR9.elim id (fun h9 => absurd hy0 h9.1)
        have hoc : oc5 (hrB (tpe σ0) N a) = 0 := by rw [← hy9]; exact hy0
        exact v_vret (I := iX10_product) rfl dX10_product_114 ⟨rfl, rfl, by rw [← he, plp_0 hoc]; exact RP.of hR9 rfl⟩
      · have hoc : ¬ oc5 (hrB (tpe σ0) N a) = 0 := fun h9 => c52 (by rw [hy9, h9]; exact Int32.le_refl 0)
        obtain ⟨_, hR9⟩ : y ≠ 0 ∧ RT σ0 σ9 (a + 1) kn C := hR9.elim (fun h9 => absurd (h9.1 ▸ Int32.le_refl 0) c52) id
        have haN : a < N := by
          rcases Nat.lt_or_ge a N with h9 | h9
          · exact h9
          · exact absurd (by rw [hr_ge h9]; rfl) hoc
        obtain ⟨bd1, bd2⟩ := hBd (a + 1) C (by omega)
        refine v_aload_n (I := iX10_product) dX10_product_55 rfl ?_
        refine v_callVvP (I := iX10_product) (I' := iX10_one) lk_X10_193 c_X10_one dX10_product_56 (hF (a + 1) C σ9 τ hR9 (by omega) (by omega)) rfl rfl (by decide) (ae_87 _ _) rfl (by omega) (by decide) (Nat.le_of_ble_eq_true rfl) (fun s56 h56 => ?_)
        by_cases hok : (F (a + 1) C).1 = true
        · refine v_aload_n (I := iX10_product) dX10_product_59 rfl ?_
          refine v_iload_n (I := iX10_product) dX10_product_60 rfl ?_
          refine v_callVvP (I := iX10_product) (I' := iX10_codes) lk_X10_181 c_X10_codes dX10_product_61 (m_X10_codes (v := y) (h56.ok hok) (by have := (bd2 hok).2; have := hX.2.1; omega)) rfl rfl (by decide) (ae_87 _ _) rfl (by omega) (by decide) (Nat.le_of_ble_eq_true rfl) (fun s61 h61 => ?_)
          refine v_aload_n (I := iX10_product) dX10_product_64 rfl ?_
          refine v_bipush (I := iX10_product) (v := 42) dX10_product_65 (by decide) ?_
          refine v_callViP (I := iX10_product) (I' := iX10_takes) lk_X10_178 c_X10_takes dX10_product_67 (m_X10_takes (c := 42) hX h61 bd1) rfl rfl (by decide) (ae_87 _ _) rfl (by omega) (by decide) (Nat.le_of_ble_eq_true rfl) (fun s67 h67 => ?_)
          refine v_if_eqB (I := iX10_product) (tgt := 79) dX10_product_70 (by decide) (fun c70 => ?_) (fun c70 => ?_)
          · rw [if_neg c70] at h67
            refine v_aload_n (I := iX10_product) dX10_product_79 rfl ?_
            refine v_bipush (I := iX10_product) (v := 47) dX10_product_80 (by decide) ?_
            refine v_callViP (I := iX10_product) (I' := iX10_takes) lk_X10_178 c_X10_takes dX10_product_82 (m_X10_takes (c := 47) hX h67 bd1) rfl rfl (by decide) (ae_87 _ _) rfl (by omega) (by decide) (Nat.le_of_ble_eq_true rfl) (fun s82 h82 => ?_)
            refine v_if_eqB (I := iX10_product) (tgt := 94) dX10_product_85 (by decide) (fun c85 => ?_) (fun c85 => ?_)
            · rw [if_neg c85] at h82
              refine v_aload_n (I := iX10_product) dX10_product_94 rfl ?_
              refine v_bipush (I := iX10_product) (v := 37) dX10_product_95 (by decide) ?_
              refine v_callViP (I := iX10_product) (I' := iX10_takes) lk_X10_178 c_X10_takes dX10_product_97 (m_X10_takes (c := 37) hX h82 bd1) rfl rfl (by decide) (ae_87 _ _) rfl (by omega) (by decide) (Nat.le_of_ble_eq_true rfl) (fun s97 h97 => ?_)
              refine v_if_eqB (I := iX10_product) (tgt := 109) dX10_product_100 (by decide) (fun c100 => ?_) (fun c100 => ?_)
              · rw [if_neg c100] at h97
                refine v_iconst (I := iX10_product) (v := 0) dX10_product_109 (by decide) ?_
                refine v_istore_n (I := iX10_product) (ls1 := [(1, _), (0, _)]) dX10_product_110 (by decide) rfl ?_
                refine v_goto (I := iX10_product) (tgt := 51) dX10_product_111 (by decide) ?_
                exact ih (C := y :: (F (a + 1) C).2.2) (by rw [List.length_cons]; have := (bd2 hok).2; omega) bd1 (by have := (bd2 hok).1; omega) (by rw [← he, plp_y hoc hok, ← hy9]) (y := 0) (by unfold oc5; rw [if_neg c70, if_neg c85, if_neg c100]) (Or.inl ⟨rfl, h97⟩)
              · rw [if_pos c100] at h97
                refine v_sipush (I := iX10_product) (v := 20009) dX10_product_103 (by decide) ?_
                refine v_goto (I := iX10_product) (tgt := 110) dX10_product_106 (by decide) ?_
                refine v_istore_n (I := iX10_product) (ls1 := [(1, _), (0, _)]) dX10_product_110 (by decide) rfl ?_
                refine v_goto (I := iX10_product) (tgt := 51) dX10_product_111 (by decide) ?_
                exact ih (C := y :: (F (a + 1) C).2.2) (by rw [List.length_cons]; have := (bd2 hok).2; omega) bd1 (by have := (bd2 hok).1; omega) (by rw [← he, plp_y hoc hok, ← hy9]) (y := 20009) (by unfold oc5; rw [if_neg c70, if_neg c85, if_pos c100]) (Or.inr ⟨by decide, h97⟩)
            · rw [if_pos c85] at h82
              refine v_sipush (I := iX10_product) (v := 20008) dX10_product_88 (by decide) ?_
              refine v_goto (I := iX10_product) (tgt := 110) dX10_product_91 (by decide) ?_
              refine v_istore_n (I := iX10_product) (ls1 := [(1, _), (0, _)]) dX10_product_110 (by decide) rfl ?_
              refine v_goto (I := iX10_product) (tgt := 51) dX10_product_111 (by decide) ?_
              exact ih (C := y :: (F (a + 1) C).2.2) (by rw [List.length_cons]; have := (bd2 hok).2; omega) bd1 (by have := (bd2 hok).1; omega) (by rw [← he, plp_y hoc hok, ← hy9]) (y := 20008) (by unfold oc5; rw [if_neg c70, if_pos c85]) (Or.inr ⟨by decide, h82⟩)
          · rw [if_pos c70] at h67
            refine v_sipush (I := iX10_product) (v := 20007) dX10_product_73 (by decide) ?_
            refine v_goto (I := iX10_product) (tgt := 110) dX10_product_76 (by decide) ?_
            refine v_istore_n (I := iX10_product) (ls1 := [(1, _), (0, _)]) dX10_product_110 (by decide) rfl ?_
            refine v_goto (I := iX10_product) (tgt := 51) dX10_product_111 (by decide) ?_
            exact ih (C := y :: (F (a + 1) C).2.2) (by rw [List.length_cons]; have := (bd2 hok).2; omega) bd1 (by have := (bd2 hok).1; omega) (by rw [← he, plp_y hoc hok, ← hy9]) (y := 20007) (by unfold oc5; rw [if_pos c70]) (Or.inr ⟨by decide, h67⟩)
        · refine v_aload_n (I := iX10_product) dX10_product_59 rfl ?_
          refine v_iload_n (I := iX10_product) dX10_product_60 rfl ?_
          refine v_callVvP (I := iX10_product) (I' := iX10_codes) lk_X10_181 c_X10_codes dX10_product_61 (m_X10_codesW (v := y) (h56.no hok)) rfl rfl (by decide) (ae_87 _ _) rfl (by omega) (by decide) (Nat.le_of_ble_eq_true rfl) (fun s61 h61 => ?_)
          refine v_aload_n (I := iX10_product) dX10_product_64 rfl ?_
          refine v_bipush (I := iX10_product) (v := 42) dX10_product_65 (by decide) ?_
          refine v_callViP (I := iX10_product) (I' := iX10_takes) lk_X10_178 c_X10_takes dX10_product_67 (m_X10_takesW (c := 42) h61 (by decide)) rfl rfl (by decide) (ae_87 _ _) rfl (by omega) (by decide) (Nat.le_of_ble_eq_true rfl) (fun s67 h67 => ?_)
          refine v_if_eq (I := iX10_product) (tgt := 79) dX10_product_70 (by decide) (fun c70 => ?_) (fun c70 => ?_)
          · refine v_aload_n (I := iX10_product) dX10_product_79 rfl ?_
            refine v_bipush (I := iX10_product) (v := 47) dX10_product_80 (by decide) ?_
            refine v_callViP (I := iX10_product) (I' := iX10_takes) lk_X10_178 c_X10_takes dX10_product_82 (m_X10_takesW (c := 47) h67 (by decide)) rfl rfl (by decide) (ae_87 _ _) rfl (by omega) (by decide) (Nat.le_of_ble_eq_true rfl) (fun s82 h82 => ?_)
            refine v_if_eq (I := iX10_product) (tgt := 94) dX10_product_85 (by decide) (fun c85 => ?_) (fun c85 => ?_)
            · refine v_aload_n (I := iX10_product) dX10_product_94 rfl ?_
              refine v_bipush (I := iX10_product) (v := 37) dX10_product_95 (by decide) ?_
              refine v_callViP (I := iX10_product) (I' := iX10_takes) lk_X10_178 c_X10_takes dX10_product_97 (m_X10_takesW (c := 37) h82 (by decide)) rfl rfl (by decide) (ae_87 _ _) rfl (by omega) (by decide) (Nat.le_of_ble_eq_true rfl) (fun s97 h97 => ?_)
              refine v_if_eq (I := iX10_product) (tgt := 109) dX10_product_100 (by decide) (fun c100 => ?_) (fun c100 => ?_)
              · refine v_iconst (I := iX10_product) (v := 0) dX10_product_109 (by decide) ?_
                refine v_istore_n (I := iX10_product) (ls1 := [(1, _), (0, _)]) dX10_product_110 (by decide) rfl ?_
                refine v_goto (I := iX10_product) (tgt := 51) dX10_product_111 (by decide) ?_
                exact keyW (by rw [← he, plp_n hoc hok]; exact b_not hok) (by rw [← he, plp_n hoc hok]; exact h97)
              · exact absurd rfl c100
            · exact absurd rfl c85
          · exact absurd rfl c70
  refine v_aload_n (I := iX10_product) dX10_product_0 rfl ?_
  refine v_callVvP (I := iX10_product) (I' := iX10_one) lk_X10_193 c_X10_one dX10_product_1 (hF a0 C0 σ τ hR0 ha0 hC0) rfl rfl (by decide) (ae_87 _ _) rfl (by omega) (by decide) (Nat.le_of_ble_eq_true rfl) (fun s1 h1 => ?_)
  by_cases hok : (F a0 C0).1 = true
  · obtain ⟨bd1, bd2⟩ := hBd a0 C0 ha0
    refine v_aload_n (I := iX10_product) dX10_product_4 rfl ?_
    refine v_bipush (I := iX10_product) (v := 42) dX10_product_5 (by decide) ?_
    refine v_callViP (I := iX10_product) (I' := iX10_takes) lk_X10_178 c_X10_takes dX10_product_7 (m_X10_takes (c := 42) hX (h1.ok hok) bd1) rfl rfl (by decide) (ae_87 _ _) rfl (by omega) (by decide) (Nat.le_of_ble_eq_true rfl) (fun s7 h7 => ?_)
    refine v_if_eqB (I := iX10_product) (tgt := 19) dX10_product_10 (by decide) (fun c10 => ?_) (fun c10 => ?_)
    · rw [if_neg c10] at h7
      refine v_aload_n (I := iX10_product) dX10_product_19 rfl ?_
      refine v_bipush (I := iX10_product) (v := 47) dX10_product_20 (by decide) ?_
      refine v_callViP (I := iX10_product) (I' := iX10_takes) lk_X10_178 c_X10_takes dX10_product_22 (m_X10_takes (c := 47) hX h7 bd1) rfl rfl (by decide) (ae_87 _ _) rfl (by omega) (by decide) (Nat.le_of_ble_eq_true rfl) (fun s22 h22 => ?_)
      refine v_if_eqB (I := iX10_product) (tgt := 34) dX10_product_25 (by decide) (fun c25 => ?_) (fun c25 => ?_)
      · rw [if_neg c25] at h22
        refine v_aload_n (I := iX10_product) dX10_product_34 rfl ?_
        refine v_bipush (I := iX10_product) (v := 37) dX10_product_35 (by decide) ?_
        refine v_callViP (I := iX10_product) (I' := iX10_takes) lk_X10_178 c_X10_takes dX10_product_37 (m_X10_takes (c := 37) hX h22 bd1) rfl rfl (by decide) (ae_87 _ _) rfl (by omega) (by decide) (Nat.le_of_ble_eq_true rfl) (fun s37 h37 => ?_)
        refine v_if_eqB (I := iX10_product) (tgt := 49) dX10_product_40 (by decide) (fun c40 => ?_) (fun c40 => ?_)
        · rw [if_neg c40] at h37
          refine v_iconst (I := iX10_product) (v := 0) dX10_product_49 (by decide) ?_
          refine v_istore_n (I := iX10_product) (ls1 := [(1, _), (0, _)]) dX10_product_50 (by decide) rfl ?_
          exact key N (by have := (bd2 hok).2; omega) bd1 (by omega) (lev_ok hok).symm (y := 0) ((by unfold oc5; rw [if_neg c10, if_neg c25, if_neg c40])) (Or.inl ⟨rfl, h37⟩)
        · rw [if_pos c40] at h37
          refine v_sipush (I := iX10_product) (v := 20009) dX10_product_43 (by decide) ?_
          refine v_goto (I := iX10_product) (tgt := 50) dX10_product_46 (by decide) ?_
          refine v_istore_n (I := iX10_product) (ls1 := [(1, _), (0, _)]) dX10_product_50 (by decide) rfl ?_
          exact key N (by have := (bd2 hok).2; omega) bd1 (by omega) (lev_ok hok).symm (y := 20009) ((by unfold oc5; rw [if_neg c10, if_neg c25, if_pos c40])) (Or.inr ⟨by decide, h37⟩)
      · rw [if_pos c25] at h22
        refine v_sipush (I := iX10_product) (v := 20008) dX10_product_28 (by decide) ?_
        refine v_goto (I := iX10_product) (tgt := 50) dX10_product_31 (by decide) ?_
        refine v_istore_n (I := iX10_product) (ls1 := [(1, _), (0, _)]) dX10_product_50 (by decide) rfl ?_
        exact key N (by have := (bd2 hok).2; omega) bd1 (by omega) (lev_ok hok).symm (y := 20008) ((by unfold oc5; rw [if_neg c10, if_pos c25])) (Or.inr ⟨by decide, h22⟩)
    · rw [if_pos c10] at h7
      refine v_sipush (I := iX10_product) (v := 20007) dX10_product_13 (by decide) ?_
      refine v_goto (I := iX10_product) (tgt := 50) dX10_product_16 (by decide) ?_
      refine v_istore_n (I := iX10_product) (ls1 := [(1, _), (0, _)]) dX10_product_50 (by decide) rfl ?_
      exact key N (by have := (bd2 hok).2; omega) bd1 (by omega) (lev_ok hok).symm (y := 20007) ((by unfold oc5; rw [if_pos c10])) (Or.inr ⟨by decide, h7⟩)
  · refine v_aload_n (I := iX10_product) dX10_product_4 rfl ?_
    refine v_bipush (I := iX10_product) (v := 42) dX10_product_5 (by decide) ?_
    refine v_callViP (I := iX10_product) (I' := iX10_takes) lk_X10_178 c_X10_takes dX10_product_7 (m_X10_takesW (c := 42) (h1.no hok) (by decide)) rfl rfl (by decide) (ae_87 _ _) rfl (by omega) (by decide) (Nat.le_of_ble_eq_true rfl) (fun s7 h7 => ?_)
    refine v_if_eq (I := iX10_product) (tgt := 19) dX10_product_10 (by decide) (fun c10 => ?_) (fun c10 => ?_)
    · refine v_aload_n (I := iX10_product) dX10_product_19 rfl ?_
      refine v_bipush (I := iX10_product) (v := 47) dX10_product_20 (by decide) ?_
      refine v_callViP (I := iX10_product) (I' := iX10_takes) lk_X10_178 c_X10_takes dX10_product_22 (m_X10_takesW (c := 47) h7 (by decide)) rfl rfl (by decide) (ae_87 _ _) rfl (by omega) (by decide) (Nat.le_of_ble_eq_true rfl) (fun s22 h22 => ?_)
      refine v_if_eq (I := iX10_product) (tgt := 34) dX10_product_25 (by decide) (fun c25 => ?_) (fun c25 => ?_)
      · refine v_aload_n (I := iX10_product) dX10_product_34 rfl ?_
        refine v_bipush (I := iX10_product) (v := 37) dX10_product_35 (by decide) ?_
        refine v_callViP (I := iX10_product) (I' := iX10_takes) lk_X10_178 c_X10_takes dX10_product_37 (m_X10_takesW (c := 37) h22 (by decide)) rfl rfl (by decide) (ae_87 _ _) rfl (by omega) (by decide) (Nat.le_of_ble_eq_true rfl) (fun s37 h37 => ?_)
        refine v_if_eq (I := iX10_product) (tgt := 49) dX10_product_40 (by decide) (fun c40 => ?_) (fun c40 => ?_)
        · refine v_iconst (I := iX10_product) (v := 0) dX10_product_49 (by decide) ?_
          refine v_istore_n (I := iX10_product) (ls1 := [(1, _), (0, _)]) dX10_product_50 (by decide) rfl ?_
          exact keyW (by rw [lev_no hok]; exact b_not hok) (by rw [lev_no hok]; exact h37)
        · exact absurd rfl c40
      · exact absurd rfl c25
    · exact absurd rfl c10
set_option maxRecDepth 100000 in
set_option maxHeartbeats 8000000 in
theorem m_X10_sum {G : fGm} {σ0 : fSt} {N u : Nat} (hX : TX σ0 N u) {F : Nat → List Int32 → pR} {kn D : Nat} (hF : RcF G iX10_product σ0 N F kn D) (hBd : Bd N F) : RcF G iX10_sum σ0 N (pLev (tpe σ0) N F oc4) kn (D + 2) := by
  intro a0 C0 σ τ hR0 ha0 hC0
  refine ms_of (by decide +kernel) (Nat.le_of_ble_eq_true rfl) ?_
  show VW _ _ _ _ _ _ 0 [(0, _)] []
  have keyW : ∀ {σ9 : fSt}, (pLev (tpe σ0) N F oc4 a0 C0).1 = false → RW σ0 σ9 (pLev (tpe σ0) N F oc4 a0 C0).2.1 → VW G iX10_sum (rP none τ (fun σ' => RP σ0 kn (pLev (tpe σ0) N F oc4 a0 C0) σ')) (D + 2) σ9 τ 36 [(1, .int 0), (0, .ref 87)] [] := by
    intro σ9 hr9 hW9
    show VW _ _ _ _ _ _ 36 [(1, _), (0, _)] []
    refine v_iload_n (I := iX10_sum) dX10_sum_36 rfl ?_
    refine v_if_le (I := iX10_sum) (tgt := 84) dX10_sum_37 (by decide) (fun c37 => ?_) (fun c37 => ?_)
    · exact v_vret (I := iX10_sum) rfl dX10_sum_84 ⟨rfl, rfl, RP.of0 hW9 hr9⟩
    · exact absurd (Int32.le_refl 0) c37
  have key : ∀ (n : Nat) {a : Nat} {C : List Int32} {σ9 : fSt}, C.length ≤ a → a ≤ N → N ≤ a + n → pLoop (tpe σ0) N F oc4 n a C = pLev (tpe σ0) N F oc4 a0 C0 → ∀ {y : Int32}, y = oc4 (hrB (tpe σ0) N a) → (y = 0 ∧ RT σ0 σ9 a kn C ∨ y ≠ 0 ∧ RT σ0 σ9 (a + 1) kn C) → VW G iX10_sum (rP none τ (fun σ' => RP σ0 kn (pLev (tpe σ0) N F oc4 a0 C0) σ')) (D + 2) σ9 τ 36 [(1, .int y), (0, .ref 87)] [] := by
    intro n
    induction n with
    | zero =>
      intro a C σ9 hC9 ha9 han he y hy9 hR9
      show VW _ _ _ _ _ _ 36 [(1, _), (0, _)] []
      refine v_iload_n (I := iX10_sum) dX10_sum_36 rfl ?_
      refine v_if_le (I := iX10_sum) (tgt := 84) dX10_sum_37 (by decide) (fun c37 => ?_) (fun c37 => ?_)
      · have hy0 : y = 0 := by
          rcases hR9 with ⟨h9, _⟩ | ⟨h9, _⟩
          · exact h9
          · exact absurd (by rw [hy9]; unfold oc4; (repeat' split) <;> decide) (show ¬ (y = 0 ∨ 0 < y) from fun h8 => h8.elim h9 (fun h8 => absurd c37 (Int32.not_le.mpr h8)))
        obtain ⟨_, hR9⟩ : y = 0 ∧ RT σ0 σ9 a kn C := hR9.elim id (fun h9 => absurd hy0 h9.1)
        have hoc : oc4 (hrB (tpe σ0) N a) = 0 := by rw [← hy9]; exact hy0
        exact v_vret (I := iX10_sum) rfl dX10_sum_84 ⟨rfl, rfl, by rw [← he, plp_0 hoc]; exact RP.of hR9 rfl⟩
      · exact absurd (show y ≤ 0 by rw [hy9, hr_ge (by omega)]; decide) c37
    | succ n ih =>
      intro a C σ9 hC9 ha9 han he y hy9 hR9
      show VW _ _ _ _ _ _ 36 [(1, _), (0, _)] []
      refine v_iload_n (I := iX10_sum) dX10_sum_36 rfl ?_
      refine v_if_le (I := iX10_sum) (tgt := 84) dX10_sum_37 (by decide) (fun c37 => ?_) (fun c37 => ?_)
      · have hy0 : y = 0 := by
          rcases hR9 with ⟨h9, _⟩ | ⟨h9, _⟩
          · exact h9
          · exact absurd (by rw [hy9]; unfold oc4; (repeat' split) <;> decide) (show ¬ (y = 0 ∨ 0 < y) from fun h8 => h8.elim h9 (fun h8 => absurd c37 (Int32.not_le.mpr h8)))
        obtain ⟨_, hR9⟩ : y = 0 ∧ RT σ0 σ9 a kn C := hR9.elim id (fun h9 => absurd hy0 h9.1)
        have hoc : oc4 (hrB (tpe σ0) N a) = 0 := by rw [← hy9]; exact hy0
        exact v_vret (I := iX10_sum) rfl dX10_sum_84 ⟨rfl, rfl, by rw [← he, plp_0 hoc]; exact RP.of hR9 rfl⟩
      · have hoc : ¬ oc4 (hrB (tpe σ0) N a) = 0 := fun h9 => c37 (by rw [hy9, h9]; exact Int32.le_refl 0)
        obtain ⟨_, hR9⟩ : y ≠ 0 ∧ RT σ0 σ9 (a + 1) kn C := hR9.elim (fun h9 => absurd (h9.1 ▸ Int32.le_refl 0) c37) id
        have haN : a < N := by
          rcases Nat.lt_or_ge a N with h9 | h9
          · exact h9
          · exact absurd (by rw [hr_ge h9]; rfl) hoc
        obtain ⟨bd1, bd2⟩ := hBd (a + 1) C (by omega)
        refine v_aload_n (I := iX10_sum) dX10_sum_40 rfl ?_
        refine v_callVvP (I := iX10_sum) (I' := iX10_product) lk_X10_190 c_X10_product dX10_sum_41 (hF (a + 1) C σ9 τ hR9 (by omega) (by omega)) rfl rfl (by decide) (ae_87 _ _) rfl (by omega) (by decide) (Nat.le_of_ble_eq_true rfl) (fun s41 h41 => ?_)
        by_cases hok : (F (a + 1) C).1 = true
        · refine v_aload_n (I := iX10_sum) dX10_sum_44 rfl ?_
          refine v_iload_n (I := iX10_sum) dX10_sum_45 rfl ?_
          refine v_callVvP (I := iX10_sum) (I' := iX10_codes) lk_X10_181 c_X10_codes dX10_sum_46 (m_X10_codes (v := y) (h41.ok hok) (by have := (bd2 hok).2; have := hX.2.1; omega)) rfl rfl (by decide) (ae_87 _ _) rfl (by omega) (by decide) (Nat.le_of_ble_eq_true rfl) (fun s46 h46 => ?_)
          refine v_aload_n (I := iX10_sum) dX10_sum_49 rfl ?_
          refine v_bipush (I := iX10_sum) (v := 43) dX10_sum_50 (by decide) ?_
          refine v_callViP (I := iX10_sum) (I' := iX10_takes) lk_X10_178 c_X10_takes dX10_sum_52 (m_X10_takes (c := 43) hX h46 bd1) rfl rfl (by decide) (ae_87 _ _) rfl (by omega) (by decide) (Nat.le_of_ble_eq_true rfl) (fun s52 h52 => ?_)
          refine v_if_eqB (I := iX10_sum) (tgt := 64) dX10_sum_55 (by decide) (fun c55 => ?_) (fun c55 => ?_)
          · rw [if_neg c55] at h52
            refine v_aload_n (I := iX10_sum) dX10_sum_64 rfl ?_
            refine v_bipush (I := iX10_sum) (v := 45) dX10_sum_65 (by decide) ?_
            refine v_callViP (I := iX10_sum) (I' := iX10_takes) lk_X10_178 c_X10_takes dX10_sum_67 (m_X10_takes (c := 45) hX h52 bd1) rfl rfl (by decide) (ae_87 _ _) rfl (by omega) (by decide) (Nat.le_of_ble_eq_true rfl) (fun s67 h67 => ?_)
            refine v_if_eqB (I := iX10_sum) (tgt := 79) dX10_sum_70 (by decide) (fun c70 => ?_) (fun c70 => ?_)
            · rw [if_neg c70] at h67
              refine v_iconst (I := iX10_sum) (v := 0) dX10_sum_79 (by decide) ?_
              refine v_istore_n (I := iX10_sum) (ls1 := [(1, _), (0, _)]) dX10_sum_80 (by decide) rfl ?_
              refine v_goto (I := iX10_sum) (tgt := 36) dX10_sum_81 (by decide) ?_
              exact ih (C := y :: (F (a + 1) C).2.2) (by rw [List.length_cons]; have := (bd2 hok).2; omega) bd1 (by have := (bd2 hok).1; omega) (by rw [← he, plp_y hoc hok, ← hy9]) (y := 0) (by unfold oc4; rw [if_neg c55, if_neg c70]) (Or.inl ⟨rfl, h67⟩)
            · rw [if_pos c70] at h67
              refine v_sipush (I := iX10_sum) (v := 20006) dX10_sum_73 (by decide) ?_
              refine v_goto (I := iX10_sum) (tgt := 80) dX10_sum_76 (by decide) ?_
              refine v_istore_n (I := iX10_sum) (ls1 := [(1, _), (0, _)]) dX10_sum_80 (by decide) rfl ?_
              refine v_goto (I := iX10_sum) (tgt := 36) dX10_sum_81 (by decide) ?_
              exact ih (C := y :: (F (a + 1) C).2.2) (by rw [List.length_cons]; have := (bd2 hok).2; omega) bd1 (by have := (bd2 hok).1; omega) (by rw [← he, plp_y hoc hok, ← hy9]) (y := 20006) (by unfold oc4; rw [if_neg c55, if_pos c70]) (Or.inr ⟨by decide, h67⟩)
          · rw [if_pos c55] at h52
            refine v_sipush (I := iX10_sum) (v := 20005) dX10_sum_58 (by decide) ?_
            refine v_goto (I := iX10_sum) (tgt := 80) dX10_sum_61 (by decide) ?_
            refine v_istore_n (I := iX10_sum) (ls1 := [(1, _), (0, _)]) dX10_sum_80 (by decide) rfl ?_
            refine v_goto (I := iX10_sum) (tgt := 36) dX10_sum_81 (by decide) ?_
            exact ih (C := y :: (F (a + 1) C).2.2) (by rw [List.length_cons]; have := (bd2 hok).2; omega) bd1 (by have := (bd2 hok).1; omega) (by rw [← he, plp_y hoc hok, ← hy9]) (y := 20005) (by unfold oc4; rw [if_pos c55]) (Or.inr ⟨by decide, h52⟩)
        · refine v_aload_n (I := iX10_sum) dX10_sum_44 rfl ?_
          refine v_iload_n (I := iX10_sum) dX10_sum_45 rfl ?_
          refine v_callVvP (I := iX10_sum) (I' := iX10_codes) lk_X10_181 c_X10_codes dX10_sum_46 (m_X10_codesW (v := y) (h41.no hok)) rfl rfl (by decide) (ae_87 _ _) rfl (by omega) (by decide) (Nat.le_of_ble_eq_true rfl) (fun s46 h46 => ?_)
          refine v_aload_n (I := iX10_sum) dX10_sum_49 rfl ?_
          refine v_bipush (I := iX10_sum) (v := 43) dX10_sum_50 (by decide) ?_
          refine v_callViP (I := iX10_sum) (I' := iX10_takes) lk_X10_178 c_X10_takes dX10_sum_52 (m_X10_takesW (c := 43) h46 (by decide)) rfl rfl (by decide) (ae_87 _ _) rfl (by omega) (by decide) (Nat.le_of_ble_eq_true rfl) (fun s52 h52 => ?_)
          refine v_if_eq (I := iX10_sum) (tgt := 64) dX10_sum_55 (by decide) (fun c55 => ?_) (fun c55 => ?_)
          · refine v_aload_n (I := iX10_sum) dX10_sum_64 rfl ?_
            refine v_bipush (I := iX10_sum) (v := 45) dX10_sum_65 (by decide) ?_
            refine v_callViP (I := iX10_sum) (I' := iX10_takes) lk_X10_178 c_X10_takes dX10_sum_67 (m_X10_takesW (c := 45) h52 (by decide)) rfl rfl (by decide) (ae_87 _ _) rfl (by omega) (by decide) (Nat.le_of_ble_eq_true rfl) (fun s67 h67 => ?_)
            refine v_if_eq (I := iX10_sum) (tgt := 79) dX10_sum_70 (by decide) (fun c70 => ?_) (fun c70 => ?_)
            · refine v_iconst (I := iX10_sum) (v := 0) dX10_sum_79 (by decide) ?_
              refine v_istore_n (I := iX10_sum) (ls1 := [(1, _), (0, _)]) dX10_sum_80 (by decide) rfl ?_
              refine v_goto (I := iX10_sum) (tgt := 36) dX10_sum_81 (by decide) ?_
              exact keyW (by rw [← he, plp_n hoc hok]; exact b_not hok) (by rw [← he, plp_n hoc hok]; exact h67)
            · exact absurd rfl c70
          · exact absurd rfl c55
  refine v_aload_n (I := iX10_sum) dX10_sum_0 rfl ?_
  refine v_callVvP (I := iX10_sum) (I' := iX10_product) lk_X10_190 c_X10_product dX10_sum_1 (hF a0 C0 σ τ hR0 ha0 hC0) rfl rfl (by decide) (ae_87 _ _) rfl (by omega) (by decide) (Nat.le_of_ble_eq_true rfl) (fun s1 h1 => ?_)
  by_cases hok : (F a0 C0).1 = true
  · obtain ⟨bd1, bd2⟩ := hBd a0 C0 ha0
    refine v_aload_n (I := iX10_sum) dX10_sum_4 rfl ?_
    refine v_bipush (I := iX10_sum) (v := 43) dX10_sum_5 (by decide) ?_
    refine v_callViP (I := iX10_sum) (I' := iX10_takes) lk_X10_178 c_X10_takes dX10_sum_7 (m_X10_takes (c := 43) hX (h1.ok hok) bd1) rfl rfl (by decide) (ae_87 _ _) rfl (by omega) (by decide) (Nat.le_of_ble_eq_true rfl) (fun s7 h7 => ?_)
    refine v_if_eqB (I := iX10_sum) (tgt := 19) dX10_sum_10 (by decide) (fun c10 => ?_) (fun c10 => ?_)
    · rw [if_neg c10] at h7
      refine v_aload_n (I := iX10_sum) dX10_sum_19 rfl ?_
      refine v_bipush (I := iX10_sum) (v := 45) dX10_sum_20 (by decide) ?_
      refine v_callViP (I := iX10_sum) (I' := iX10_takes) lk_X10_178 c_X10_takes dX10_sum_22 (m_X10_takes (c := 45) hX h7 bd1) rfl rfl (by decide) (ae_87 _ _) rfl (by omega) (by decide) (Nat.le_of_ble_eq_true rfl) (fun s22 h22 => ?_)
      refine v_if_eqB (I := iX10_sum) (tgt := 34) dX10_sum_25 (by decide) (fun c25 => ?_) (fun c25 => ?_)
      · rw [if_neg c25] at h22
        refine v_iconst (I := iX10_sum) (v := 0) dX10_sum_34 (by decide) ?_
        refine v_istore_n (I := iX10_sum) (ls1 := [(1, _), (0, _)]) dX10_sum_35 (by decide) rfl ?_
        exact key N (by have := (bd2 hok).2; omega) bd1 (by omega) (lev_ok hok).symm (y := 0) ((by unfold oc4; rw [if_neg c10, if_neg c25])) (Or.inl ⟨rfl, h22⟩)
      · rw [if_pos c25] at h22
        refine v_sipush (I := iX10_sum) (v := 20006) dX10_sum_28 (by decide) ?_
        refine v_goto (I := iX10_sum) (tgt := 35) dX10_sum_31 (by decide) ?_
        refine v_istore_n (I := iX10_sum) (ls1 := [(1, _), (0, _)]) dX10_sum_35 (by decide) rfl ?_
        exact key N (by have := (bd2 hok).2; omega) bd1 (by omega) (lev_ok hok).symm (y := 20006) ((by unfold oc4; rw [if_neg c10, if_pos c25])) (Or.inr ⟨by decide, h22⟩)
    · rw [if_pos c10] at h7
      refine v_sipush (I := iX10_sum) (v := 20005) dX10_sum_13 (by decide) ?_
      refine v_goto (I := iX10_sum) (tgt := 35) dX10_sum_16 (by decide) ?_
      refine v_istore_n (I := iX10_sum) (ls1 := [(1, _), (0, _)]) dX10_sum_35 (by decide) rfl ?_
      exact key N (by have := (bd2 hok).2; omega) bd1 (by omega) (lev_ok hok).symm (y := 20005) ((by unfold oc4; rw [if_pos c10])) (Or.inr ⟨by decide, h7⟩)
  · refine v_aload_n (I := iX10_sum) dX10_sum_4 rfl ?_
    refine v_bipush (I := iX10_sum) (v := 43) dX10_sum_5 (by decide) ?_
    refine v_callViP (I := iX10_sum) (I' := iX10_takes) lk_X10_178 c_X10_takes dX10_sum_7 (m_X10_takesW (c := 43) (h1.no hok) (by decide)) rfl rfl (by decide) (ae_87 _ _) rfl (by omega) (by decide) (Nat.le_of_ble_eq_true rfl) (fun s7 h7 => ?_)
    refine v_if_eq (I := iX10_sum) (tgt := 19) dX10_sum_10 (by decide) (fun c10 => ?_) (fun c10 => ?_)
    · refine v_aload_n (I := iX10_sum) dX10_sum_19 rfl ?_
      refine v_bipush (I := iX10_sum) (v := 45) dX10_sum_20 (by decide) ?_
      refine v_callViP (I := iX10_sum) (I' := iX10_takes) lk_X10_178 c_X10_takes dX10_sum_22 (m_X10_takesW (c := 45) h7 (by decide)) rfl rfl (by decide) (ae_87 _ _) rfl (by omega) (by decide) (Nat.le_of_ble_eq_true rfl) (fun s22 h22 => ?_)
      refine v_if_eq (I := iX10_sum) (tgt := 34) dX10_sum_25 (by decide) (fun c25 => ?_) (fun c25 => ?_)
      · refine v_iconst (I := iX10_sum) (v := 0) dX10_sum_34 (by decide) ?_
        refine v_istore_n (I := iX10_sum) (ls1 := [(1, _), (0, _)]) dX10_sum_35 (by decide) rfl ?_
        exact keyW (by rw [lev_no hok]; exact b_not hok) (by rw [lev_no hok]; exact h22)
      · exact absurd rfl c25
    · exact absurd rfl c10
set_option maxRecDepth 100000 in
set_option maxHeartbeats 8000000 in
theorem m_X10_compared {G : fGm} {σ0 : fSt} {N u : Nat} (hX : TX σ0 N u) {F : Nat → List Int32 → pR} {kn D : Nat} (hF : RcF G iX10_sum σ0 N F kn D) (hBd : Bd N F) : RcF G iX10_compared σ0 N (pCmp (tpe σ0) N F) kn (D + 2) := by
  intro a0 C0 σ τ hR0 ha0 hC0
  obtain ⟨bd1, bd2⟩ := hBd a0 C0 ha0
  refine ms_of (by decide +kernel) (Nat.le_of_ble_eq_true rfl) ?_
  show VW _ _ _ _ _ _ 0 [(0, _)] []
  refine v_aload_n (I := iX10_compared) dX10_compared_0 rfl ?_
  refine v_callVvP (I := iX10_compared) (I' := iX10_sum) lk_X10_187 c_X10_sum dX10_compared_1 (hF a0 C0 σ τ hR0 ha0 hC0) rfl rfl (by decide) (ae_87 _ _) rfl (by omega) (by decide) (Nat.le_of_ble_eq_true rfl) (fun s1 h1 => ?_)
  by_cases hok : (F a0 C0).1 = true
  · have J : ∀ {y : Int32} {σ9 : fSt}, y = oc3 (hrB (tpe σ0) N (F a0 C0).2.1) → (y = 0 ∧ RT σ0 σ9 (F a0 C0).2.1 kn (F a0 C0).2.2 ∨ y ≠ 0 ∧ RT σ0 σ9 ((F a0 C0).2.1 + 1) kn (F a0 C0).2.2) → VW G iX10_compared (rP none τ (fun σ' => RP σ0 kn (pCmp (tpe σ0) N F a0 C0) σ')) (D + 2) σ9 τ 51 [(1, .int y), (0, .ref 87)] [] := by
      intro y σ9 hy9 hR9
      show VW _ _ _ _ _ _ 51 [(1, _), (0, _)] []
      refine v_iload_n (I := iX10_compared) dX10_compared_51 rfl ?_
      refine v_if_le (I := iX10_compared) (tgt := 64) dX10_compared_52 (by decide) (fun c52 => ?_) (fun c52 => ?_)
      · have hy0 : y = 0 := by
          rcases hR9 with ⟨h9, _⟩ | ⟨h9, _⟩
          · exact h9
          · exact absurd (by rw [hy9]; unfold oc3; (repeat' split) <;> decide) (show ¬ (y = 0 ∨ 0 < y) from fun h8 => h8.elim h9 (fun h8 => absurd c52 (Int32.not_le.mpr h8)))
        obtain ⟨_, hR9⟩ : y = 0 ∧ RT σ0 σ9 (F a0 C0).2.1 kn (F a0 C0).2.2 := hR9.elim id (fun h9 => absurd hy0 h9.1)
        have hoc : oc3 (hrB (tpe σ0) N (F a0 C0).2.1) = 0 := by rw [← hy9]; exact hy0
        exact v_vret (I := iX10_compared) rfl dX10_compared_64 ⟨rfl, rfl, by unfold pCmp; rw [if_pos hok, if_pos hoc]; exact RP.of hR9 hok⟩
      · have hoc : ¬ oc3 (hrB (tpe σ0) N (F a0 C0).2.1) = 0 := fun h9 => c52 (by rw [hy9, h9]; exact Int32.le_refl 0)
        obtain ⟨_, hR9⟩ : y ≠ 0 ∧ RT σ0 σ9 ((F a0 C0).2.1 + 1) kn (F a0 C0).2.2 := hR9.elim (fun h9 => absurd (h9.1 ▸ Int32.le_refl 0) c52) id
        have haN : (F a0 C0).2.1 < N := by
          rcases Nat.lt_or_ge (F a0 C0).2.1 N with h9 | h9
          · exact h9
          · exact absurd (by rw [hr_ge h9]; rfl) hoc
        obtain ⟨be1, be2⟩ := hBd ((F a0 C0).2.1 + 1) (F a0 C0).2.2 (by omega)
        have hb2 := (bd2 hok).2
        refine v_aload_n (I := iX10_compared) dX10_compared_55 rfl ?_
        refine v_callVvP (I := iX10_compared) (I' := iX10_sum) lk_X10_187 c_X10_sum dX10_compared_56 (hF ((F a0 C0).2.1 + 1) (F a0 C0).2.2 σ9 τ hR9 (by omega) (by omega)) rfl rfl (by decide) (ae_87 _ _) rfl (by omega) (by decide) (Nat.le_of_ble_eq_true rfl) (fun s56 h56 => ?_)
        by_cases hok2 : (F ((F a0 C0).2.1 + 1) (F a0 C0).2.2).1 = true
        · refine v_aload_n (I := iX10_compared) dX10_compared_59 rfl ?_
          refine v_iload_n (I := iX10_compared) dX10_compared_60 rfl ?_
          refine v_callVvP (I := iX10_compared) (I' := iX10_codes) lk_X10_181 c_X10_codes dX10_compared_61 (m_X10_codes (v := y) (h56.ok hok2) (by have := (be2 hok2).2; have := hX.2.1; omega)) rfl rfl (by decide) (ae_87 _ _) rfl (by omega) (by decide) (Nat.le_of_ble_eq_true rfl) (fun s61 h61 => ?_)
          exact v_vret (I := iX10_compared) rfl dX10_compared_64 ⟨rfl, rfl, by unfold pCmp; rw [if_pos hok, if_neg hoc, if_pos hok2, ← hy9]; exact RP.of h61 rfl⟩
        · refine v_aload_n (I := iX10_compared) dX10_compared_59 rfl ?_
          refine v_iload_n (I := iX10_compared) dX10_compared_60 rfl ?_
          refine v_callVvP (I := iX10_compared) (I' := iX10_codes) lk_X10_181 c_X10_codes dX10_compared_61 (m_X10_codesW (v := y) (h56.no hok2)) rfl rfl (by decide) (ae_87 _ _) rfl (by omega) (by decide) (Nat.le_of_ble_eq_true rfl) (fun s61 h61 => ?_)
          exact v_vret (I := iX10_compared) rfl dX10_compared_64 ⟨rfl, rfl, by unfold pCmp; rw [if_pos hok, if_neg hoc, if_neg hok2]; exact RP.of0 h61 (b_not hok2)⟩
    refine v_aload_n (I := iX10_compared) dX10_compared_4 rfl ?_
    refine v_bipush (I := iX10_compared) (v := 60) dX10_compared_5 (by decide) ?_
    refine v_callViP (I := iX10_compared) (I' := iX10_takes) lk_X10_178 c_X10_takes dX10_compared_7 (m_X10_takes (c := 60) hX (h1.ok hok) bd1) rfl rfl (by decide) (ae_87 _ _) rfl (by omega) (by decide) (Nat.le_of_ble_eq_true rfl) (fun s7 h7 => ?_)
    refine v_if_eqB (I := iX10_compared) (tgt := 19) dX10_compared_10 (by decide) (fun c10 => ?_) (fun c10 => ?_)
    · rw [if_neg c10] at h7
      refine v_aload_n (I := iX10_compared) dX10_compared_19 rfl ?_
      refine v_bipush (I := iX10_compared) (v := 61) dX10_compared_20 (by decide) ?_
      refine v_callViP (I := iX10_compared) (I' := iX10_takes) lk_X10_178 c_X10_takes dX10_compared_22 (m_X10_takes (c := 61) hX h7 bd1) rfl rfl (by decide) (ae_87 _ _) rfl (by omega) (by decide) (Nat.le_of_ble_eq_true rfl) (fun s22 h22 => ?_)
      refine v_if_eqB (I := iX10_compared) (tgt := 34) dX10_compared_25 (by decide) (fun c25 => ?_) (fun c25 => ?_)
      · rw [if_neg c25] at h22
        refine v_aload_n (I := iX10_compared) dX10_compared_34 rfl ?_
        refine v_bipush (I := iX10_compared) (v := 62) dX10_compared_35 (by decide) ?_
        refine v_callViP (I := iX10_compared) (I' := iX10_takes) lk_X10_178 c_X10_takes dX10_compared_37 (m_X10_takes (c := 62) hX h22 bd1) rfl rfl (by decide) (ae_87 _ _) rfl (by omega) (by decide) (Nat.le_of_ble_eq_true rfl) (fun s37 h37 => ?_)
        refine v_if_eqB (I := iX10_compared) (tgt := 49) dX10_compared_40 (by decide) (fun c40 => ?_) (fun c40 => ?_)
        · rw [if_neg c40] at h37
          refine v_iconst (I := iX10_compared) (v := 0) dX10_compared_49 (by decide) ?_
          refine v_istore_n (I := iX10_compared) (ls1 := [(1, _), (0, _)]) dX10_compared_50 (by decide) rfl ?_
          exact J (y := 0) (by unfold oc3; rw [if_neg c10, if_neg c25, if_neg c40]) (Or.inl ⟨rfl, h37⟩)
        · rw [if_pos c40] at h37
          refine v_sipush (I := iX10_compared) (v := 20004) dX10_compared_43 (by decide) ?_
          refine v_goto (I := iX10_compared) (tgt := 50) dX10_compared_46 (by decide) ?_
          refine v_istore_n (I := iX10_compared) (ls1 := [(1, _), (0, _)]) dX10_compared_50 (by decide) rfl ?_
          exact J (y := 20004) (by unfold oc3; rw [if_neg c10, if_neg c25, if_pos c40]) (Or.inr ⟨by decide, h37⟩)
      · rw [if_pos c25] at h22
        refine v_sipush (I := iX10_compared) (v := 20003) dX10_compared_28 (by decide) ?_
        refine v_goto (I := iX10_compared) (tgt := 50) dX10_compared_31 (by decide) ?_
        refine v_istore_n (I := iX10_compared) (ls1 := [(1, _), (0, _)]) dX10_compared_50 (by decide) rfl ?_
        exact J (y := 20003) (by unfold oc3; rw [if_neg c10, if_pos c25]) (Or.inr ⟨by decide, h22⟩)
    · rw [if_pos c10] at h7
      refine v_sipush (I := iX10_compared) (v := 20002) dX10_compared_13 (by decide) ?_
      refine v_goto (I := iX10_compared) (tgt := 50) dX10_compared_16 (by decide) ?_
      refine v_istore_n (I := iX10_compared) (ls1 := [(1, _), (0, _)]) dX10_compared_50 (by decide) rfl ?_
      exact J (y := 20002) (by unfold oc3; rw [if_pos c10]) (Or.inr ⟨by decide, h7⟩)
  · refine v_aload_n (I := iX10_compared) dX10_compared_4 rfl ?_
    refine v_bipush (I := iX10_compared) (v := 60) dX10_compared_5 (by decide) ?_
    refine v_callViP (I := iX10_compared) (I' := iX10_takes) lk_X10_178 c_X10_takes dX10_compared_7 (m_X10_takesW (c := 60) (h1.no hok) (by decide)) rfl rfl (by decide) (ae_87 _ _) rfl (by omega) (by decide) (Nat.le_of_ble_eq_true rfl) (fun s7 h7 => ?_)
    refine v_if_eq (I := iX10_compared) (tgt := 19) dX10_compared_10 (by decide) (fun c10 => ?_) (fun c10 => ?_)
    · refine v_aload_n (I := iX10_compared) dX10_compared_19 rfl ?_
      refine v_bipush (I := iX10_compared) (v := 61) dX10_compared_20 (by decide) ?_
      refine v_callViP (I := iX10_compared) (I' := iX10_takes) lk_X10_178 c_X10_takes dX10_compared_22 (m_X10_takesW (c := 61) h7 (by decide)) rfl rfl (by decide) (ae_87 _ _) rfl (by omega) (by decide) (Nat.le_of_ble_eq_true rfl) (fun s22 h22 => ?_)
      refine v_if_eq (I := iX10_compared) (tgt := 34) dX10_compared_25 (by decide) (fun c25 => ?_) (fun c25 => ?_)
      · refine v_aload_n (I := iX10_compared) dX10_compared_34 rfl ?_
        refine v_bipush (I := iX10_compared) (v := 62) dX10_compared_35 (by decide) ?_
        refine v_callViP (I := iX10_compared) (I' := iX10_takes) lk_X10_178 c_X10_takes dX10_compared_37 (m_X10_takesW (c := 62) h22 (by decide)) rfl rfl (by decide) (ae_87 _ _) rfl (by omega) (by decide) (Nat.le_of_ble_eq_true rfl) (fun s37 h37 => ?_)
        refine v_if_eq (I := iX10_compared) (tgt := 49) dX10_compared_40 (by decide) (fun c40 => ?_) (fun c40 => ?_)
        · refine v_iconst (I := iX10_compared) (v := 0) dX10_compared_49 (by decide) ?_
          refine v_istore_n (I := iX10_compared) (ls1 := [(1, _), (0, _)]) dX10_compared_50 (by decide) rfl ?_
          refine v_iload_n (I := iX10_compared) dX10_compared_51 rfl ?_
          refine v_if_le (I := iX10_compared) (tgt := 64) dX10_compared_52 (by decide) (fun c52 => ?_) (fun c52 => ?_)
          · exact v_vret (I := iX10_compared) rfl dX10_compared_64 ⟨rfl, rfl, by unfold pCmp; rw [if_neg hok]; exact RP.of0 h37 (b_not hok)⟩
          · exact absurd (Int32.le_refl 0) c52
        · exact absurd rfl c40
      · exact absurd rfl c25
    · exact absurd rfl c10
