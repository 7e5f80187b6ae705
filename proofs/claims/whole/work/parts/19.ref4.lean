theorem rEv_congr {nm nm' : Nat → Int32} (h : ∀ j, j < 5 → nm j = nm' j) : ∀ (cs : List Int32) (n : Nat) (s : List Int32), rOK cs n → rEv nm cs s = rEv nm' cs s := by
  intro cs
  induction cs with
  | nil => intro n s _; rfl
  | cons c cs ih =>
    intro n s hr
    rw [rEv_cons, rEv_cons]
    have e : rStep nm c s = rStep nm' c s := by
      rcases hr with ⟨h0, h1, h2, -⟩ | ⟨rfl, -, -⟩ | ⟨h0, h1, -, -⟩
      · by_cases hc : c < 10000
        · rw [rStep_num hc, rStep_num hc]
        · obtain ⟨j, hj, hjx⟩ : ∃ j, j < 5 ∧ c - 10000 = nI j := in2_nI (by decide) ⟨by grind, by show c - 10000 < 5; grind⟩
          rw [rStep_name (by grind) h1, rStep_name (by grind) h1, hjx, nI_clamp (by omega), h j hj]
      · rfl
      · have e1 : ¬ c < 20000 := by grind
        have e2 : ¬ c = 20010 := by grind
        simp only [rStep, if_neg e1, if_neg e2]
    rw [e]
    rcases hr with ⟨-, -, -, hr⟩ | ⟨-, -, hr⟩ | ⟨-, -, -, hr⟩ <;> exact ih _ _ hr
theorem gVal_congr {g : gS} {u : Nat} {nm nm' : Nat → Int32} (hW : tOK g u) (hp : 0 < g (171 + 62 * u)) (h : ∀ j, j < 5 → nm j = nm' j) : gVal g u nm = gVal g u nm' := by
  obtain ⟨n, hn, e, hr⟩ := hW
  have hn0 : 0 < n := by
    rcases Nat.eq_zero_or_pos n with h | h
    · subst h; rw [e] at hp; exact absurd hp (by decide)
    · exact h
  unfold gVal
  rw [rEv_congr h _ _ _ (hr hn0)]
def Fr2 (σ σ' : fSt) : Prop := ∀ k, k ≠ 96 → k ≠ 97 → σ' k = σ k
set_option maxRecDepth 100000 in
set_option maxHeartbeats 4000000 in
theorem m_X10_hasText {G : fGm} {σ : fSt} {τ : fLt} {x : Int32} {u : Nat} (hx : x = nI u) (hu : u < 2) : MS G iX10_hasText 0 [.ref 87, .int x] σ τ (rT (some (.int (if 0 < σ 88 (171 + 62 * u) then 1 else 0))) σ τ) := by
  refine ms_of (by decide +kernel) (Nat.le_of_ble_eq_true rfl) ?_
  show VW _ _ _ _ _ _ 0 [(0, _), (1, _)] []
  refine v_aload_n (I := iX10_hasText) dX10_hasText_0 rfl ?_
  refine v_get (I := iX10_hasText) g_X10_9 dX10_hasText_1 (by decide) (ae_87 _ _) rfl ?_
  refine v_sipush (I := iX10_hasText) (v := 171) dX10_hasText_4 (by decide) ?_
  refine v_bipush (I := iX10_hasText) (v := 62) dX10_hasText_7 (by decide) ?_
  refine v_iload_n (I := iX10_hasText) dX10_hasText_9 rfl ?_
  refine v_imul (I := iX10_hasText) dX10_hasText_10 ?_
  refine v_iadd (I := iX10_hasText) dX10_hasText_11 ?_
  refine v_ialdN (I := iX10_hasText) (j := (171 + 62 * u)) (by rw [hx, show (171 : Int32) = nI 171 from rfl, show (62 : Int32) = nI 62 from rfl, pk_mul, nI_add]) (by omega) (by decide) dX10_hasText_12 (by decide) (ae_88 _ _) ?_
  refine v_if_le (I := iX10_hasText) (tgt := 20) dX10_hasText_13 (by decide) (fun c13 => ?_) (fun c13 => ?_)
  · refine v_iconst (I := iX10_hasText) (v := 0) dX10_hasText_20 (by decide) ?_
    exact v_zret (I := iX10_hasText) rfl rfl dX10_hasText_21 ⟨by grind, rfl, rfl⟩
  · refine v_iconst (I := iX10_hasText) (v := 1) dX10_hasText_16 (by decide) ?_
    refine v_goto (I := iX10_hasText) (tgt := 21) dX10_hasText_17 (by decide) ?_
    exact v_zret (I := iX10_hasText) rfl rfl dX10_hasText_21 ⟨by grind, rfl, rfl⟩
set_option maxRecDepth 100000 in
set_option maxHeartbeats 4000000 in
theorem m_X10_given {G : fGm} {σ : fSt} {τ : fLt} {x a b c d e : Int32} {u : Nat} (hx : x = nI u) (hu : u < 2) (hW : tOK (σ 88) u) (hpos : 0 < σ 88 (171 + 62 * u)) : MS G iX10_given 2 [.ref 87, .int x, .int a, .int b, .int c, .int d, .int e] σ τ (rP (some (.int (gVal (σ 88) u (nm5 a b c d e)))) τ (Fr2 σ)) := by
  refine ms_of (by decide +kernel) (Nat.le_of_ble_eq_true rfl) ?_
  show VW _ _ _ _ _ _ 0 [(0, _), (1, _), (2, _), (3, _), (4, _), (5, _), (6, _)] []
  refine v_aload_n (I := iX10_given) dX10_given_0 rfl ?_
  refine v_get (I := iX10_given) g_X10_41 dX10_given_1 (by decide) (ae_87 _ _) rfl ?_
  refine v_iconst (I := iX10_given) (v := 0) dX10_given_4 (by decide) ?_
  refine v_iload_n (I := iX10_given) dX10_given_5 rfl ?_
  refine v_iastN (I := iX10_given) (j := 0) (by decide) (by decide) (by decide) dX10_given_6 (by decide) (fun _ => ae_96 _ _) ?_
  refine v_aload_n (I := iX10_given) dX10_given_7 rfl ?_
  refine v_get (I := iX10_given) g_X10_41 dX10_given_8 (by decide) (ae_87 _ _) rfl ?_
  refine v_iconst (I := iX10_given) (v := 1) dX10_given_11 (by decide) ?_
  refine v_iload_n (I := iX10_given) dX10_given_12 rfl ?_
  refine v_iastN (I := iX10_given) (j := 1) (by decide) (by decide) (by decide) dX10_given_13 (by decide) (fun _ => ae_96 _ _) ?_
  refine v_aload_n (I := iX10_given) dX10_given_14 rfl ?_
  refine v_get (I := iX10_given) g_X10_41 dX10_given_15 (by decide) (ae_87 _ _) rfl ?_
  refine v_iconst (I := iX10_given) (v := 2) dX10_given_18 (by decide) ?_
  refine v_iload (I := iX10_given) dX10_given_19 rfl ?_
  refine v_iastN (I := iX10_given) (j := 2) (by decide) (by decide) (by decide) dX10_given_21 (by decide) (fun _ => ae_96 _ _) ?_
  refine v_aload_n (I := iX10_given) dX10_given_22 rfl ?_
  refine v_get (I := iX10_given) g_X10_41 dX10_given_23 (by decide) (ae_87 _ _) rfl ?_
  refine v_iconst (I := iX10_given) (v := 3) dX10_given_26 (by decide) ?_
  refine v_iload (I := iX10_given) dX10_given_27 rfl ?_
  refine v_iastN (I := iX10_given) (j := 3) (by decide) (by decide) (by decide) dX10_given_29 (by decide) (fun _ => ae_96 _ _) ?_
  refine v_aload_n (I := iX10_given) dX10_given_30 rfl ?_
  refine v_get (I := iX10_given) g_X10_41 dX10_given_31 (by decide) (ae_87 _ _) rfl ?_
  refine v_iconst (I := iX10_given) (v := 4) dX10_given_34 (by decide) ?_
  refine v_iload (I := iX10_given) dX10_given_35 rfl ?_
  refine v_iastN (I := iX10_given) (j := 4) (by decide) (by decide) (by decide) dX10_given_37 (by decide) (fun _ => ae_96 _ _) ?_
  generalize hσ1 : up2 (up2 (up2 (up2 (up2 σ 96 0 a) 96 1 b) 96 2 c) 96 3 d) 96 4 e = σ1
  have h88 : σ1 88 = σ 88 := by rw [← hσ1]; rfl
  have hfr1 : ∀ k, k ≠ 96 → σ1 k = σ k := fun k hk => by rw [← hσ1]; simp [up2, va_up, hk]
  have hnm : ∀ j, j < 5 → σ1 96 j = nm5 a b c d e j := fun j hj => by
    rw [← hσ1]
    match j, hj with
    | 0, _ => rfl
    | 1, _ => rfl
    | 2, _ => rfl
    | 3, _ => rfl
    | 4, _ => rfl
    | j + 5, h => omega
  rw [← h88] at hW hpos
  refine v_aload_n (I := iX10_given) dX10_given_38 rfl ?_
  refine v_sipush (I := iX10_given) (v := 171) dX10_given_39 (by decide) ?_
  refine v_bipush (I := iX10_given) (v := 62) dX10_given_42 (by decide) ?_
  refine v_iload_n (I := iX10_given) dX10_given_44 rfl ?_
  refine v_imul (I := iX10_given) dX10_given_45 ?_
  refine v_iadd (I := iX10_given) dX10_given_46 ?_
  refine v_iconst (I := iX10_given) (v := 1) dX10_given_47 (by decide) ?_
  refine v_iadd (I := iX10_given) dX10_given_48 ?_
  refine v_callViP (I := iX10_given) (I' := iX10_worked) lk_X10_218 c_X10_worked dX10_given_49 (m_X10_worked hu (by rw [hx, show (171 : Int32) = nI 171 from rfl, show (62 : Int32) = nI 62 from rfl, pk_mul, nI_add]; exact nI_1 _) hW hpos) rfl rfl (by decide) (ae_87 _ _) rfl (by decide) (by decide) (Nat.le_of_ble_eq_true rfl) (fun s49 h49 => ?_)
  exact v_iret (I := iX10_given) rfl dX10_given_52 ⟨by rw [gVal_congr hW hpos hnm, h88], rfl, fun k h1 h2 => (h49 k h2).trans (hfr1 k h1)⟩
set_option maxRecDepth 100000 in
set_option maxHeartbeats 4000000 in
theorem m_X10_learns {G : fGm} {σ : fSt} {τ : fLt} {x : Int32} (hW : tOK (σ 88) 0) : MS G iX10_learns 3 [.ref 87, .int x] σ τ (rP (some (.int (gLearns (σ 88) x))) τ (Fr2 σ)) := by
  refine ms_of (by decide +kernel) (Nat.le_of_ble_eq_true rfl) ?_
  show VW _ _ _ _ _ _ 0 [(0, _), (1, _)] []
  refine v_aload_n (I := iX10_learns) dX10_learns_0 rfl ?_
  refine v_iconst (I := iX10_learns) (v := 0) dX10_learns_1 (by decide) ?_
  refine v_callVi (I := iX10_learns) (I' := iX10_hasText) lk_X10_221 c_X10_hasText dX10_learns_2 (m_X10_hasText (u := 0) (by decide) (by decide)) rfl rfl (by decide) (ae_87 _ _) rfl (by decide) (by decide) (Nat.le_of_ble_eq_true rfl) ?_
  refine v_if_eqB (I := iX10_learns) (tgt := 44) dX10_learns_5 (by decide) (fun c5 => ?_) (fun c5 => ?_)
  · refine v_iconst (I := iX10_learns) (v := 5) dX10_learns_44 (by decide) ?_
    refine v_iload_n (I := iX10_learns) dX10_learns_45 rfl ?_
    refine v_bipush (I := iX10_learns) (v := 20) dX10_learns_46 (by decide) ?_
    refine v_idiv (I := iX10_learns) dX10_learns_48 (by decide) ?_
    refine v_isub (I := iX10_learns) dX10_learns_49 ?_
    refine v_iconst (I := iX10_learns) (v := 0) dX10_learns_50 (by decide) ?_
    refine v_sipush (I := iX10_learns) (v := 999) dX10_learns_51 (by decide) ?_
    refine v_callSi (I := iX10_learns) (I' := iX10_held) lk_X10_136 c_X10_held dX10_learns_54 (m_X10_held) rfl rfl (by decide) (by decide) (Nat.le_of_ble_eq_true rfl) ?_
    exact v_iret (I := iX10_learns) rfl dX10_learns_57 ⟨by unfold gLearns; first | rw [if_pos c5] | rw [if_neg c5], rfl, by first | exact h38 | exact fun _ _ _ => rfl⟩
  · refine v_aload_n (I := iX10_learns) dX10_learns_8 rfl ?_
    refine v_iconst (I := iX10_learns) (v := 0) dX10_learns_9 (by decide) ?_
    refine v_aload_n (I := iX10_learns) dX10_learns_10 rfl ?_
    refine v_get (I := iX10_learns) g_X10_9 dX10_learns_11 (by decide) (ae_87 _ _) rfl ?_
    refine v_bipush (I := iX10_learns) (v := 7) dX10_learns_14 (by decide) ?_
    refine v_ialdN (I := iX10_learns) (j := 7) (by decide) (by decide) (by decide) dX10_learns_16 (by decide) (ae_88 _ _) ?_
    refine v_aload_n (I := iX10_learns) dX10_learns_17 rfl ?_
    refine v_get (I := iX10_learns) g_X10_9 dX10_learns_18 (by decide) (ae_87 _ _) rfl ?_
    refine v_bipush (I := iX10_learns) (v := 8) dX10_learns_21 (by decide) ?_
    refine v_ialdN (I := iX10_learns) (j := 8) (by decide) (by decide) (by decide) dX10_learns_23 (by decide) (ae_88 _ _) ?_
    refine v_aload_n (I := iX10_learns) dX10_learns_24 rfl ?_
    refine v_get (I := iX10_learns) g_X10_9 dX10_learns_25 (by decide) (ae_87 _ _) rfl ?_
    refine v_iconst (I := iX10_learns) (v := 5) dX10_learns_28 (by decide) ?_
    refine v_ialdN (I := iX10_learns) (j := 5) (by decide) (by decide) (by decide) dX10_learns_29 (by decide) (ae_88 _ _) ?_
    refine v_aload_n (I := iX10_learns) dX10_learns_30 rfl ?_
    refine v_get (I := iX10_learns) g_X10_9 dX10_learns_31 (by decide) (ae_87 _ _) rfl ?_
    refine v_bipush (I := iX10_learns) (v := 6) dX10_learns_34 (by decide) ?_
    refine v_ialdN (I := iX10_learns) (j := 6) (by decide) (by decide) (by decide) dX10_learns_36 (by decide) (ae_88 _ _) ?_
    refine v_iload_n (I := iX10_learns) dX10_learns_37 rfl ?_
    refine v_callViP (I := iX10_learns) (I' := iX10_given) lk_X10_224 c_X10_given dX10_learns_38 (m_X10_given (u := 0) (by decide) (by decide) hW (by assumption)) rfl rfl (by decide) (ae_87 _ _) rfl (by decide) (by decide) (Nat.le_of_ble_eq_true rfl) (fun s38 h38 => ?_)
    refine v_goto (I := iX10_learns) (tgt := 50) dX10_learns_41 (by decide) ?_
    refine v_iconst (I := iX10_learns) (v := 0) dX10_learns_50 (by decide) ?_
    refine v_sipush (I := iX10_learns) (v := 999) dX10_learns_51 (by decide) ?_
    refine v_callSi (I := iX10_learns) (I' := iX10_held) lk_X10_136 c_X10_held dX10_learns_54 (m_X10_held) rfl rfl (by decide) (by decide) (Nat.le_of_ble_eq_true rfl) ?_
    exact v_iret (I := iX10_learns) rfl dX10_learns_57 ⟨by unfold gLearns; first | rw [if_pos c5] | rw [if_neg c5], rfl, by first | exact h38 | exact fun _ _ _ => rfl⟩
set_option maxRecDepth 100000 in
set_option maxHeartbeats 4000000 in
theorem m_X10_dares {G : fGm} {σ : fSt} {τ : fLt} {x : Int32} (hW : tOK (σ 88) 1) : MS G iX10_dares 3 [.ref 87, .int x] σ τ (rP (some (.int (if gDaresI (σ 88) x = true then 1 else 0))) τ (Fr2 σ)) := by
  refine ms_of (by decide +kernel) (Nat.le_of_ble_eq_true rfl) ?_
  show VW _ _ _ _ _ _ 0 [(0, _), (1, _)] []
  refine v_aload_n (I := iX10_dares) dX10_dares_0 rfl ?_
  refine v_iconst (I := iX10_dares) (v := 1) dX10_dares_1 (by decide) ?_
  refine v_callVi (I := iX10_dares) (I' := iX10_hasText) lk_X10_221 c_X10_hasText dX10_dares_2 (m_X10_hasText (u := 1) (by decide) (by decide)) rfl rfl (by decide) (ae_87 _ _) rfl (by decide) (by decide) (Nat.le_of_ble_eq_true rfl) ?_
  refine v_if_eqB (I := iX10_dares) (tgt := 43) dX10_dares_5 (by decide) (fun c5 => ?_) (fun c5 => ?_)
  · refine v_iload_n (I := iX10_dares) dX10_dares_43 rfl ?_
    refine v_aload_n (I := iX10_dares) dX10_dares_44 rfl ?_
    refine v_get (I := iX10_dares) g_X10_9 dX10_dares_45 (by decide) (ae_87 _ _) rfl ?_
    refine v_iconst (I := iX10_dares) (v := 2) dX10_dares_48 (by decide) ?_
    refine v_ialdN (I := iX10_dares) (j := 2) (by decide) (by decide) (by decide) dX10_dares_49 (by decide) (ae_88 _ _) ?_
    refine v_aload_n (I := iX10_dares) dX10_dares_50 rfl ?_
    refine v_get (I := iX10_dares) g_X10_9 dX10_dares_51 (by decide) (ae_87 _ _) rfl ?_
    refine v_iconst (I := iX10_dares) (v := 5) dX10_dares_54 (by decide) ?_
    refine v_ialdN (I := iX10_dares) (j := 5) (by decide) (by decide) (by decide) dX10_dares_55 (by decide) (ae_88 _ _) ?_
    refine v_iconst (I := iX10_dares) (v := 2) dX10_dares_56 (by decide) ?_
    refine v_idiv (I := iX10_dares) dX10_dares_57 (by decide) ?_
    refine v_iadd (I := iX10_dares) dX10_dares_58 ?_
    refine v_aload_n (I := iX10_dares) dX10_dares_59 rfl ?_
    refine v_get (I := iX10_dares) g_X10_9 dX10_dares_60 (by decide) (ae_87 _ _) rfl ?_
    refine v_bipush (I := iX10_dares) (v := 6) dX10_dares_63 (by decide) ?_
    refine v_ialdN (I := iX10_dares) (j := 6) (by decide) (by decide) (by decide) dX10_dares_65 (by decide) (ae_88 _ _) ?_
    refine v_bipush (I := iX10_dares) (v := 100) dX10_dares_66 (by decide) ?_
    refine v_idiv (I := iX10_dares) dX10_dares_68 (by decide) ?_
    refine v_iadd (I := iX10_dares) dX10_dares_69 ?_
    refine v_iconst (I := iX10_dares) (v := 1) dX10_dares_70 (by decide) ?_
    refine v_iadd (I := iX10_dares) dX10_dares_71 ?_
    refine v_icmp_ge (I := iX10_dares) (tgt := 79) dX10_dares_72 (by decide) (fun c72 => ?_) (fun c72 => ?_)
    · refine v_iconst (I := iX10_dares) (v := 0) dX10_dares_79 (by decide) ?_
      exact v_zret (I := iX10_dares) rfl rfl dX10_dares_80 ⟨by unfold gDaresI; (first | rw [if_pos c5] | rw [if_neg c5]); simp [*], rfl, by first | exact h31 | exact fun _ _ _ => rfl⟩
    · refine v_iconst (I := iX10_dares) (v := 1) dX10_dares_75 (by decide) ?_
      refine v_goto (I := iX10_dares) (tgt := 80) dX10_dares_76 (by decide) ?_
      exact v_zret (I := iX10_dares) rfl rfl dX10_dares_80 ⟨by unfold gDaresI; (first | rw [if_pos c5] | rw [if_neg c5]); simp [*], rfl, by first | exact h31 | exact fun _ _ _ => rfl⟩
  · refine v_aload_n (I := iX10_dares) dX10_dares_8 rfl ?_
    refine v_iconst (I := iX10_dares) (v := 1) dX10_dares_9 (by decide) ?_
    refine v_iload_n (I := iX10_dares) dX10_dares_10 rfl ?_
    refine v_aload_n (I := iX10_dares) dX10_dares_11 rfl ?_
    refine v_get (I := iX10_dares) g_X10_9 dX10_dares_12 (by decide) (ae_87 _ _) rfl ?_
    refine v_iconst (I := iX10_dares) (v := 2) dX10_dares_15 (by decide) ?_
    refine v_ialdN (I := iX10_dares) (j := 2) (by decide) (by decide) (by decide) dX10_dares_16 (by decide) (ae_88 _ _) ?_
    refine v_aload_n (I := iX10_dares) dX10_dares_17 rfl ?_
    refine v_get (I := iX10_dares) g_X10_9 dX10_dares_18 (by decide) (ae_87 _ _) rfl ?_
    refine v_iconst (I := iX10_dares) (v := 5) dX10_dares_21 (by decide) ?_
    refine v_ialdN (I := iX10_dares) (j := 5) (by decide) (by decide) (by decide) dX10_dares_22 (by decide) (ae_88 _ _) ?_
    refine v_aload_n (I := iX10_dares) dX10_dares_23 rfl ?_
    refine v_get (I := iX10_dares) g_X10_9 dX10_dares_24 (by decide) (ae_87 _ _) rfl ?_
    refine v_bipush (I := iX10_dares) (v := 6) dX10_dares_27 (by decide) ?_
    refine v_ialdN (I := iX10_dares) (j := 6) (by decide) (by decide) (by decide) dX10_dares_29 (by decide) (ae_88 _ _) ?_
    refine v_iconst (I := iX10_dares) (v := 0) dX10_dares_30 (by decide) ?_
    refine v_callViP (I := iX10_dares) (I' := iX10_given) lk_X10_224 c_X10_given dX10_dares_31 (m_X10_given (u := 1) (by decide) (by decide) hW (by assumption)) rfl rfl (by decide) (ae_87 _ _) rfl (by decide) (by decide) (Nat.le_of_ble_eq_true rfl) (fun s31 h31 => ?_)
    refine v_if_eq (I := iX10_dares) (tgt := 41) dX10_dares_34 (by decide) (fun c34 => ?_) (fun c34 => ?_)
    · refine v_iconst (I := iX10_dares) (v := 0) dX10_dares_41 (by decide) ?_
      exact v_zret (I := iX10_dares) rfl rfl dX10_dares_42 ⟨by unfold gDaresI; (first | rw [if_pos c5] | rw [if_neg c5]); simp [*], rfl, by first | exact h31 | exact fun _ _ _ => rfl⟩
    · refine v_iconst (I := iX10_dares) (v := 1) dX10_dares_37 (by decide) ?_
      refine v_goto (I := iX10_dares) (tgt := 42) dX10_dares_38 (by decide) ?_
      exact v_zret (I := iX10_dares) rfl rfl dX10_dares_42 ⟨by unfold gDaresI; (first | rw [if_pos c5] | rw [if_neg c5]); simp [*], rfl, by first | exact h31 | exact fun _ _ _ => rfl⟩
set_option maxRecDepth 100000 in
set_option maxHeartbeats 4000000 in
theorem m_X10_drawn {G : fGm} {σ : fSt} {τ : fLt} {b : Int32} (hb : ¬ b = 0) : MS G iX10_drawn 0 [.ref 87, .int b] σ τ (rT (some (.int (gPick (gDraw (σ 88) 18) b))) (va_up σ 88 (gDraw (σ 88))) τ) := by
  refine ms_of (by decide +kernel) (Nat.le_of_ble_eq_true rfl) ?_
  show VW _ _ _ _ _ _ 0 [(0, _), (1, _)] []
  refine v_aload_n (I := iX10_drawn) dX10_drawn_0 rfl ?_
  refine v_get (I := iX10_drawn) g_X10_9 dX10_drawn_1 (by decide) (ae_87 _ _) rfl ?_
  refine v_bipush (I := iX10_drawn) (v := 18) dX10_drawn_4 (by decide) ?_
  refine v_aload_n (I := iX10_drawn) dX10_drawn_6 rfl ?_
  refine v_get (I := iX10_drawn) g_X10_9 dX10_drawn_7 (by decide) (ae_87 _ _) rfl ?_
  refine v_bipush (I := iX10_drawn) (v := 18) dX10_drawn_10 (by decide) ?_
  refine v_ialdN (I := iX10_drawn) (j := 18) (by decide) (by decide) (by decide) dX10_drawn_12 (by decide) (ae_88 _ _) ?_
  refine v_ldc (I := iX10_drawn) k_X10_228 dX10_drawn_13 ?_
  refine v_imul (I := iX10_drawn) dX10_drawn_15 ?_
  refine v_sipush (I := iX10_drawn) (v := 12345) dX10_drawn_16 (by decide) ?_
  refine v_iadd (I := iX10_drawn) dX10_drawn_19 ?_
  refine v_iastN (I := iX10_drawn) (j := 18) (by decide) (by decide) (by decide) dX10_drawn_20 (by decide) (fun _ => ae_88 _ _) ?_
  refine v_aload_n (I := iX10_drawn) dX10_drawn_21 rfl ?_
  refine v_get (I := iX10_drawn) g_X10_9 dX10_drawn_22 (by decide) (ae_87 _ _) rfl ?_
  refine v_bipush (I := iX10_drawn) (v := 18) dX10_drawn_25 (by decide) ?_
  refine v_ialdN (I := iX10_drawn) (j := 18) (by decide) (by decide) (by decide) dX10_drawn_27 (by decide) (ae_88 _ _) ?_
  refine v_bipush (I := iX10_drawn) (v := 8) dX10_drawn_28 (by decide) ?_
  refine v_iushr (I := iX10_drawn) dX10_drawn_30 ?_
  refine v_iload_n (I := iX10_drawn) dX10_drawn_31 rfl ?_
  refine v_irem (I := iX10_drawn) dX10_drawn_32 hb ?_
  exact v_iret (I := iX10_drawn) rfl dX10_drawn_33 ⟨rfl, rfl, rfl⟩
set_option maxRecDepth 100000 in
set_option maxHeartbeats 4000000 in
theorem m_X10_nearer {G : fGm} {σ : fSt} {τ : fLt} {a b : Int32} : MS G iX10_nearer 1 [.int a, .int b] σ τ (rT (some (.int (gNearer a b))) σ τ) := by
  refine ms_of (by decide +kernel) (Nat.le_of_ble_eq_true rfl) ?_
  show VW _ _ _ _ _ _ 0 [(0, _), (1, _)] []
  refine v_iload_n (I := iX10_nearer) dX10_nearer_0 rfl ?_
  refine v_if_le (I := iX10_nearer) (tgt := 14) dX10_nearer_1 (by decide) (fun c1 => ?_) (fun c1 => ?_)
  · refine v_iconst (I := iX10_nearer) (v := 0) dX10_nearer_14 (by decide) ?_
    refine v_iload_n (I := iX10_nearer) dX10_nearer_15 rfl ?_
    refine v_iload_n (I := iX10_nearer) dX10_nearer_16 rfl ?_
    refine v_iadd (I := iX10_nearer) dX10_nearer_17 ?_
    refine v_min (I := iX10_nearer) lm_X10_70 dX10_nearer_18 (by decide) (Nat.le_of_ble_eq_true rfl) ?_
    exact v_iret (I := iX10_nearer) rfl dX10_nearer_21 ⟨by unfold gNearer; grind, rfl, rfl⟩
  · refine v_iconst (I := iX10_nearer) (v := 0) dX10_nearer_4 (by decide) ?_
    refine v_iload_n (I := iX10_nearer) dX10_nearer_5 rfl ?_
    refine v_iload_n (I := iX10_nearer) dX10_nearer_6 rfl ?_
    refine v_isub (I := iX10_nearer) dX10_nearer_7 ?_
    refine v_max (I := iX10_nearer) lm_X10_76 dX10_nearer_8 (by decide) (Nat.le_of_ble_eq_true rfl) ?_
    refine v_goto (I := iX10_nearer) (tgt := 21) dX10_nearer_11 (by decide) ?_
    exact v_iret (I := iX10_nearer) rfl dX10_nearer_21 ⟨by unfold gNearer; grind, rfl, rfl⟩
set_option maxRecDepth 100000 in
set_option maxHeartbeats 4000000 in
theorem m_X10_isStep {G : fGm} {σ : fSt} {τ : fLt} {x : Int32} {i : Nat} (hB : B (σ 88)) (hx : x = nI i) (hi : i < 8) : MS G iX10_isStep 5 [.ref 87, .int x] σ τ (rT (some (.int (if gIsStepI (σ 88) i = true then 1 else 0))) σ τ) := by
  refine ms_of (by decide +kernel) (Nat.le_of_ble_eq_true rfl) ?_
  show VW _ _ _ _ _ _ 0 [(0, _), (1, _)] []
  refine v_aload_n (I := iX10_isStep) dX10_isStep_0 rfl ?_
  refine v_iload_n (I := iX10_isStep) dX10_isStep_1 rfl ?_
  refine v_callVi (I := iX10_isStep) (I' := iX10_paceOf) lk_X10_149 c_X10_paceOf dX10_isStep_2 (m_X10_paceOf hB hx hi) rfl rfl (by decide) (ae_87 _ _) rfl (by decide) (by decide) (Nat.le_of_ble_eq_true rfl) ?_
  refine v_istore_n (I := iX10_isStep) (ls1 := [(2, _), (0, _), (1, _)]) dX10_isStep_5 (by decide) rfl ?_
  refine v_iload_n (I := iX10_isStep) dX10_isStep_6 rfl ?_
  refine v_if_le (I := iX10_isStep) (tgt := 35) dX10_isStep_7 (by decide) (fun c7 => ?_) (fun c7 => ?_)
  · refine v_iconst (I := iX10_isStep) (v := 0) dX10_isStep_35 (by decide) ?_
    exact v_zret (I := iX10_isStep) rfl rfl dX10_isStep_36 ⟨by unfold gIsStepI gTn rem32; simp [*]; try grind, rfl, rfl⟩
  · refine v_aload_n (I := iX10_isStep) dX10_isStep_10 rfl ?_
    refine v_iload_n (I := iX10_isStep) dX10_isStep_11 rfl ?_
    refine v_iconst (I := iX10_isStep) (v := 2) dX10_isStep_12 (by decide) ?_
    refine v_callVi (I := iX10_isStep) (I' := iX10_goingOf) lk_X10_125 c_X10_goingOf dX10_isStep_13 (m_X10_goingOf (f := 2) hx hi (by decide) (by decide)) rfl rfl (by decide) (ae_87 _ _) rfl (by decide) (by decide) (Nat.le_of_ble_eq_true rfl) ?_
    refine v_aload_n (I := iX10_isStep) dX10_isStep_16 rfl ?_
    refine v_get (I := iX10_isStep) g_X10_9 dX10_isStep_17 (by decide) (ae_87 _ _) rfl ?_
    refine v_bipush (I := iX10_isStep) (v := 12) dX10_isStep_20 (by decide) ?_
    refine v_ialdN (I := iX10_isStep) (j := 12) (by decide) (by decide) (by decide) dX10_isStep_22 (by decide) (ae_88 _ _) ?_
    refine v_isub (I := iX10_isStep) dX10_isStep_23 ?_
    refine v_iconst (I := iX10_isStep) (v := 1) dX10_isStep_24 (by decide) ?_
    refine v_iadd (I := iX10_isStep) dX10_isStep_25 ?_
    refine v_iload_n (I := iX10_isStep) dX10_isStep_26 rfl ?_
    refine v_irem (I := iX10_isStep) dX10_isStep_27 (by grind) ?_
    refine v_if_ne (I := iX10_isStep) (tgt := 35) dX10_isStep_28 (by decide) (fun c28 => ?_) (fun c28 => ?_)
    · refine v_iconst (I := iX10_isStep) (v := 0) dX10_isStep_35 (by decide) ?_
      exact v_zret (I := iX10_isStep) rfl rfl dX10_isStep_36 ⟨by unfold gIsStepI gTn rem32; simp [*]; try grind, rfl, rfl⟩
    · refine v_iconst (I := iX10_isStep) (v := 1) dX10_isStep_31 (by decide) ?_
      refine v_goto (I := iX10_isStep) (tgt := 36) dX10_isStep_32 (by decide) ?_
      exact v_zret (I := iX10_isStep) rfl rfl dX10_isStep_36 ⟨by unfold gIsStepI gTn rem32; simp [*]; try grind, rfl, rfl⟩
set_option maxRecDepth 100000 in
set_option maxHeartbeats 4000000 in
theorem m_X10_goesOn {G : fGm} {σ : fSt} {τ : fLt} {x : Int32} {i : Nat} (hB : B (σ 88)) (hx : x = nI i) (hi : i < 8) : MS G iX10_goesOn 5 [.ref 87, .int x] σ τ (rT (some (.int (gCellOn (σ 88) i - σ 88 0))) (va_up σ 88 (va_up (σ 88) 0 (gCellOn (σ 88) i))) τ) := by
  refine ms_of (by decide +kernel) (Nat.le_of_ble_eq_true rfl) ?_
  show VW _ _ _ _ _ _ 0 [(0, _), (1, _)] []
  refine v_aload_n (I := iX10_goesOn) dX10_goesOn_0 rfl ?_
  refine v_get (I := iX10_goesOn) g_X10_9 dX10_goesOn_1 (by decide) (ae_87 _ _) rfl ?_
  refine v_iconst (I := iX10_goesOn) (v := 0) dX10_goesOn_4 (by decide) ?_
  refine v_ialdN (I := iX10_goesOn) (j := 0) (by decide) (by decide) (by decide) dX10_goesOn_5 (by decide) (ae_88 _ _) ?_
  refine v_istore_n (I := iX10_goesOn) (ls1 := [(2, _), (0, _), (1, _)]) dX10_goesOn_6 (by decide) rfl ?_
  refine v_aload_n (I := iX10_goesOn) dX10_goesOn_7 rfl ?_
  refine v_get (I := iX10_goesOn) g_X10_9 dX10_goesOn_8 (by decide) (ae_87 _ _) rfl ?_
  refine v_iconst (I := iX10_goesOn) (v := 0) dX10_goesOn_11 (by decide) ?_
  refine v_bipush (I := iX10_goesOn) (v := 99) dX10_goesOn_12 (by decide) ?_
  refine v_iload_n (I := iX10_goesOn) dX10_goesOn_14 rfl ?_
  refine v_aload_n (I := iX10_goesOn) dX10_goesOn_15 rfl ?_
  refine v_iload_n (I := iX10_goesOn) dX10_goesOn_16 rfl ?_
  refine v_callVi (I := iX10_goesOn) (I' := iX10_strideOf) lk_X10_146 c_X10_strideOf dX10_goesOn_17 (m_X10_strideOf hB hx hi) rfl rfl (by decide) (ae_87 _ _) rfl (by decide) (by decide) (Nat.le_of_ble_eq_true rfl) ?_
  refine v_iadd (I := iX10_goesOn) dX10_goesOn_20 ?_
  refine v_min (I := iX10_goesOn) lm_X10_70 dX10_goesOn_21 (by decide) (Nat.le_of_ble_eq_true rfl) ?_
  refine v_iastN (I := iX10_goesOn) (j := 0) (by decide) (by decide) (by decide) dX10_goesOn_24 (by decide) (fun _ => ae_88 _ _) ?_
  refine v_aload_n (I := iX10_goesOn) dX10_goesOn_25 rfl ?_
  refine v_get (I := iX10_goesOn) g_X10_9 dX10_goesOn_26 (by decide) (ae_87 _ _) rfl ?_
  refine v_iconst (I := iX10_goesOn) (v := 0) dX10_goesOn_29 (by decide) ?_
  refine v_ialdN (I := iX10_goesOn) (j := 0) (by decide) (by decide) (by decide) dX10_goesOn_30 (by decide) (ae_88 _ _) ?_
  refine v_iload_n (I := iX10_goesOn) dX10_goesOn_31 rfl ?_
  refine v_isub (I := iX10_goesOn) dX10_goesOn_32 ?_
  exact v_iret (I := iX10_goesOn) rfl dX10_goesOn_33 ⟨rfl, rfl, rfl⟩
theorem rem_nI {a n : Nat} (ha : a < 2 ^ 31) (h0 : 0 < n) (hn : n < 2 ^ 31) : rem32 (nI a) (nI n) = nI (a % n) := pk_rem ha h0 hn
theorem B_next {g : gS} (hB : B g) (h15 : 0 < g 15) (h11 : g 11 < g 15) : ∃ i, i < 8 ∧ gNext g = nI i := by
  obtain ⟨n, hn, e⟩ := B_nat hB 15 8 (by decide) (by decide) (by decide)
  obtain ⟨a, ha, e2⟩ := B_nat hB 11 7 (by decide) (by decide) (by decide)
  have hn0 : 0 < n := by
    rcases Nat.eq_zero_or_pos n with h | h
    · subst h; rw [e] at h15; exact absurd h15 (by decide)
    · exact h
  refine ⟨(a + 1) % n, Nat.lt_of_lt_of_le (Nat.mod_lt _ hn0) hn, ?_⟩
  unfold gNext
  rw [e, e2, nI_1, rem_nI (by omega) hn0 (by omega)]
set_option maxRecDepth 100000 in
set_option maxHeartbeats 4000000 in
theorem m_X10_oneLess {G : fGm} {σ : fSt} {τ : fLt} (hB : B (σ 88)) (h15 : 0 < σ 88 15) (h11 : σ 88 11 < σ 88 15) : MS G iX10_oneLess 2 [.ref 87] σ τ (rT none (va_up σ 88 (gOne (σ 88))) τ) := by
  refine ms_of (by decide +kernel) (Nat.le_of_ble_eq_true rfl) ?_
  show VW _ _ _ _ _ _ 0 [(0, _)] []
  obtain ⟨i9, hi9, hx9⟩ := B_next hB h15 h11
  refine v_aload_n (I := iX10_oneLess) dX10_oneLess_0 rfl ?_
  refine v_get (I := iX10_oneLess) g_X10_9 dX10_oneLess_1 (by decide) (ae_87 _ _) rfl ?_
  refine v_bipush (I := iX10_oneLess) (v := 12) dX10_oneLess_4 (by decide) ?_
  refine v_dup2_11 (I := iX10_oneLess) dX10_oneLess_6 rfl rfl ?_
  refine v_ialdN (I := iX10_oneLess) (j := 12) (by decide) (by decide) (by decide) dX10_oneLess_7 (by decide) (ae_88 _ _) ?_
  refine v_iconst (I := iX10_oneLess) (v := 1) dX10_oneLess_8 (by decide) ?_
  refine v_isub (I := iX10_oneLess) dX10_oneLess_9 ?_
  refine v_iastN (I := iX10_oneLess) (j := 12) (by decide) (by decide) (by decide) dX10_oneLess_10 (by decide) (fun _ => ae_88 _ _) ?_
  refine v_aload_n (I := iX10_oneLess) dX10_oneLess_11 rfl ?_
  refine v_get (I := iX10_oneLess) g_X10_9 dX10_oneLess_12 (by decide) (ae_87 _ _) rfl ?_
  refine v_bipush (I := iX10_oneLess) (v := 12) dX10_oneLess_15 (by decide) ?_
  refine v_ialdN (I := iX10_oneLess) (j := 12) (by decide) (by decide) (by decide) dX10_oneLess_17 (by decide) (ae_88 _ _) ?_
  refine v_if_ne (I := iX10_oneLess) (tgt := 42) dX10_oneLess_18 (by decide) (fun c18 => ?_) (fun c18 => ?_)
  · exact v_vret (I := iX10_oneLess) rfl dX10_oneLess_42 ⟨rfl, by unfold gOne; first | (rw [if_pos (by exact c18)]; simp only [up2, va_up_s, va_up_va]; rfl) | (rw [if_neg (by exact c18)]; rfl), rfl⟩
  · refine v_aload_n (I := iX10_oneLess) dX10_oneLess_21 rfl ?_
    refine v_aload_n (I := iX10_oneLess) dX10_oneLess_22 rfl ?_
    refine v_get (I := iX10_oneLess) g_X10_9 dX10_oneLess_23 (by decide) (ae_87 _ _) rfl ?_
    refine v_bipush (I := iX10_oneLess) (v := 11) dX10_oneLess_26 (by decide) ?_
    refine v_ialdN (I := iX10_oneLess) (j := 11) (by decide) (by decide) (by decide) dX10_oneLess_28 (by decide) (ae_88 _ _) ?_
    refine v_iconst (I := iX10_oneLess) (v := 1) dX10_oneLess_29 (by decide) ?_
    refine v_iadd (I := iX10_oneLess) dX10_oneLess_30 ?_
    refine v_aload_n (I := iX10_oneLess) dX10_oneLess_31 rfl ?_
    refine v_get (I := iX10_oneLess) g_X10_9 dX10_oneLess_32 (by decide) (ae_87 _ _) rfl ?_
    refine v_bipush (I := iX10_oneLess) (v := 15) dX10_oneLess_35 (by decide) ?_
    refine v_ialdN (I := iX10_oneLess) (j := 15) (by decide) (by decide) (by decide) dX10_oneLess_37 (by decide) (ae_88 _ _) ?_
    refine v_irem (I := iX10_oneLess) dX10_oneLess_38 (by show ¬ up2 σ 88 12 _ 88 15 = 0; rw [up2_j _ _ (by decide)]; grind) ?_
    refine v_callVv (I := iX10_oneLess) (I' := iX10_comesNow) lk_X10_128 c_X10_comesNow dX10_oneLess_39 (m_X10_comesNow (i := i9) (by exact hx9) hi9) rfl rfl (by decide) (ae_87 _ _) rfl (by decide) (by decide) (Nat.le_of_ble_eq_true rfl) ?_
    exact v_vret (I := iX10_oneLess) rfl dX10_oneLess_42 ⟨rfl, by unfold gOne; first | (rw [if_pos (by exact c18)]; simp only [up2, va_up_s, va_up_va]; rfl) | (rw [if_neg (by exact c18)]; rfl), rfl⟩
