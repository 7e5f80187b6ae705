section W17
variable {g : gS} {x : Int32}
theorem w_o {i : Nat} (h : i ≠ 17) : va_up g 17 x i = g i := va_up_o _ _ h
theorem w_c {i : Nat} {y : Int32} (h : i ≠ 17) : va_up (va_up g 17 x) i y = va_up (va_up g i y) 17 x := va_comm _ _ _ (Ne.symm h)
theorem w_more {i : Nat} {y : Int32} (h : i ≠ 17) : gMore (va_up g 17 x) i y = va_up (gMore g i y) 17 x := by
  unfold gMore
  rw [w_o h, w_c h]
theorem w_draw : gDraw (va_up g 17 x) = va_up (gDraw g) 17 x := by
  unfold gDraw
  rw [w_o (by decide), w_c (by decide)]
theorem w_now : gNow (va_up g 17 x) = gNow g := by unfold gNow; rw [w_o (by decide)]
theorem w_K {i : Nat} : gK (va_up g 17 x) i = gK g i := w_o (by omega)
theorem w_M {i : Nat} : gM (va_up g 17 x) i = gM g i := w_o (by omega)
theorem w_T {i : Nat} : gTn (va_up g 17 x) i = gTn g i := w_o (by omega)
theorem w_has : gHasI (va_up g 17 x) = gHasI g := gHas_up (by decide) (by decide) (by decide) (by decide)
theorem w_sways {i : Nat} : gSways (va_up g 17 x) i = gSways g i := by
  unfold gSways
  rw [w_K, w_M, w_has, w_o (by decide)]
theorem w_leant {s : Int32} : gLeant (va_up g 17 x) s = gLeant g s := by
  unfold gLeant
  rw [w_o (by decide), w_o (by decide), gSlope_up (by decide) (by decide)]
theorem w_isStep {i : Nat} : gIsStepI (va_up g 17 x) i = gIsStepI g i := by
  unfold gIsStepI
  rw [gPace_up (by decide) (by decide) (by decide) (by decide), w_T, w_o (by decide)]
theorem w_by {i : Nat} : gBy (va_up g 17 x) i = gBy g i := by
  unfold gBy
  rw [gCatch_up (by decide) (by decide) (by decide) (by decide) (by decide) (by decide) (by decide), gSlip_up (by decide) (by decide)]
theorem w_come {y : Int32} : gCome (va_up g 17 x) y = va_up (gCome g y) 17 x := by
  unfold gCome
  rw [w_o (by decide), w_o (by omega), w_c (by decide), w_c (by decide)]
theorem w_one : gOne (va_up g 17 x) = va_up (gOne g) 17 x := by
  have e : gNext (va_up g 17 x) = gNext g := by unfold gNext; rw [w_o (by decide), w_o (by decide)]
  unfold gOne
  rw [e, w_o (by decide), w_c (by decide), w_come]
  split <;> rfl
theorem w_fell : gFell (va_up g 17 x) = va_up (gFell g) 17 x := by
  unfold gFell
  rw [w_c (by decide), w_more (by decide)]
theorem w_val {u : Nat} {nm : Nat → Int32} : gVal (va_up g 17 x) u nm = gVal g u nm := by
  have : gCode (va_up g 17 x) u = gCode g u := by
    unfold gCode
    rw [w_o (by omega)]
    exact List.map_congr_left fun j _ => w_o (by omega)
  unfold gVal
  rw [this]
theorem w_learnt {h : Int32} : gLearnt (va_up g 17 x) h = va_up (gLearnt g h) 17 x := by
  have e : gLearns (va_up g 17 x) h = gLearns g h := by
    unfold gLearns
    rw [w_o (by decide), w_val, w_o (by decide), w_o (by decide), w_o (by decide), w_o (by decide)]
  unfold gLearnt
  rw [e, w_o (by decide), w_c (by decide)]
theorem w_falls : gFalls (va_up g 17 x) = va_up (gFalls g) 17 x := by
  unfold gFalls
  rw [w_fell, gHard_up (by decide) (by decide) (by decide) (by decide), w_more (by decide), w_learnt]
theorem w_cellOn {i : Nat} : gCellOn (va_up g 17 x) i = gCellOn g i := by
  unfold gCellOn
  rw [w_o (by decide), gStride_up (by decide) (by decide) (by decide) (by decide)]
theorem w_stepOn {i : Nat} : gStepOn (va_up g 17 x) i = va_up (gStepOn g i) 17 x := by
  unfold gStepOn gStepped
  rw [w_more (by decide), w_cellOn, w_o (by decide), w_c (by decide), w_more (by decide)]
theorem w_tenth : gTenth (va_up g 17 x) = va_up (gTenth g) 17 x := by
  unfold gTenth
  try dsimp only
  rw [w_now, w_sways, w_draw, w_leant, w_isStep, w_by, w_c (by decide), w_c (by decide), w_stepOn, w_one, w_one, w_falls, w_one]
  split
  · split <;> rfl
  · rfl
theorem w_tenths : ∀ (n : Nat) {g : gS}, gTenths (va_up g 17 x) n = va_up (gTenths g n) 17 x := by
  intro n
  induction n with
  | zero => intro g; rfl
  | succ n ih =>
    intro g
    show gTenths (if 0 < va_up g 17 x 15 then gTenth (va_up g 17 x) else va_up g 17 x) n = va_up (gTenths (if 0 < g 15 then gTenth g else g) n) 17 x
    rw [w_o (by decide)]
    by_cases h : 0 < g 15
    · rw [if_pos h, if_pos h, w_tenth, ih]
    · rw [if_neg h, if_neg h, ih]
end W17
section HI
variable {g : gS} {i : Nat}
theorem more_hi {j : Nat} {x : Int32} (h : i ≠ j) : gMore g j x i = g i := va_up_o _ _ h
theorem tenth_hi (h : 13 ≤ i) (h18 : i ≠ 18) : gTenth g i = g i := by
  have one : ∀ g : gS, gOne g i = g i := by
    intro g
    unfold gOne gCome
    split
    · rw [va_up_o _ _ (by omega), va_up_o _ _ (by omega), va_up_o _ _ (by omega)]
    · rw [va_up_o _ _ (by omega)]
  have dr : gDraw g i = g i := va_up_o _ _ h18
  unfold gTenth
  try dsimp only
  split
  · split
    · rw [one]
      unfold gStepOn gStepped
      rw [more_hi (by omega), va_up_o _ _ (by omega), more_hi (by omega), va_up_o _ _ (by omega), dr]
    · rw [one, va_up_o _ _ (by omega), dr]
  · rw [one]
    unfold gFalls gLearnt gFell
    rw [va_up_o _ _ (by omega), more_hi (by omega), more_hi (by omega), va_up_o _ _ (by omega), dr]
theorem tenths_hi (h : 13 ≤ i) (h18 : i ≠ 18) : ∀ (n : Nat) {g : gS}, gTenths g n i = g i := by
  intro n
  induction n with
  | zero => intro g; rfl
  | succ n ih =>
    intro g
    show gTenths (if 0 < g 15 then gTenth g else g) n i = g i
    rw [ih]
    split
    · exact tenth_hi h h18
    · rfl
end HI
/-- the first of m numbers told that the tenths don't bear out -/
def chk (W : Nat → Int32) : Nat → Nat → gS → Int32
  | 0, _, _ => 0
  | m + 1, k, g => if W (147 + k) = gTenths g 1 7 then chk W m (k + 1) (gTenths g 1) else 1 + nI k
def checkS (ρ : fSt) : Int32 × fSt := (chk (ρ 88) (ρ 88 17).toNatClampNeg 0 (ρ 88), rowS ρ (va_up (ρ 88) 17 0))
theorem IV_17 {g : gS} {x : Int32} (h : IV g) (h0 : 0 ≤ x) (h1 : x ≤ 24) : IV (va_up g 17 x) := IV_up h ⟨by decide, by decide, by decide, by decide, fun j hj => by omega⟩ ⟨h0, h1⟩
theorem CR_row2 {σ σ' ρ : fSt} {g : gS} (h : CR σ ρ) (hV : V 0 σ' g) (hF : ∀ k, (∀ c, c < 22 → k ≠ wc 0 c ∧ k ≠ wc 2 c) → σ' k = σ k) (h0 : σ' 0 = σ 0) (hg : IV g) : CR σ' (rowS ρ g) := by
  let s : fSt := fun k => if 45 ≤ k ∧ k < 67 then σ k else σ' k
  have hsV : V 0 s g := V_fr hV fun c hc => by
    show (if 45 ≤ wc 0 c ∧ wc 0 c < 67 then σ (wc 0 c) else σ' (wc 0 c)) = _
    rw [if_neg (by unfold wc; omega)]
  have hsF : FrW 0 σ s := fun k hk => by
    show (if 45 ≤ k ∧ k < 67 then σ k else σ' k) = σ k
    by_cases e : 45 ≤ k ∧ k < 67
    · rw [if_pos e]
    · rw [if_neg e]
      exact hF k fun c hc => ⟨hk c hc, by unfold wc; omega⟩
  have h2 := CR_row h hsV hsF hg
  exact CR_ahead h2 fun k hk => by
    show σ' k = (if 45 ≤ k ∧ k < 67 then σ k else σ' k)
    rw [if_neg]
    intro e
    exact hk (k - 45) (by omega) (by unfold wc; omega)
def Fr02 (σ σ' : fSt) : Prop := ∀ k, (∀ c, c < 22 → k ≠ wc 0 c ∧ k ≠ wc 2 c) → σ' k = σ k
theorem Fr02.C {σ σ' : fSt} (h : Fr02 σ σ') : FC σ σ' := fun k hk => h k fun c hc => by unfold wc; omega
theorem V_wt {w k : Nat} {σ : fSt} {g : gS} (h : V w σ g) (hk : k < 24) : σ (wc w 19) k = g (147 + k) := by
  have := V_rd h (147 + k) (by omega)
  rw [loc_wait k hk] at this
  exact this
theorem wc_w {w w' : Nat} (h : w ≠ w') {c c' : Nat} (hc : c < 22) (hc' : c' < 22) : wc w c ≠ wc w' c' := by unfold wc; omega
set_option maxRecDepth 100000 in
set_option maxHeartbeats 4000000 in
theorem m_X9_check {G : fGm} {σ : fSt} {τ : fLt} {ρ : fSt} (hC : CR σ ρ)  : MS G iX9_check 8 [.ref 0] σ τ (rC τ σ (checkS ρ)) := by
  refine ms_of (by decide +kernel) (Nat.le_of_ble_eq_true rfl) ?_
  show VW _ _ _ _ _ _ 0 [(0, _)] []
  obtain ⟨N, hN8, hN⟩ : ∃ N, N ≤ 24 ∧ ρ 88 17 = nI N := B_nat hC.2.2.2.2.2.1.1 17 24 (by decide) (by decide) (by decide)
  have hNc : (ρ 88 17).toNatClampNeg = N := by rw [hN]; exact nI_clamp (by omega)
  refine v_aload_n (I := iX9_check) dX9_check_0 rfl ?_
  refine v_get (I := iX9_check) g_X9_10 dX9_check_1 (by decide) (ae_0 _ _) rfl ?_
  refine v_get (I := iX9_check) g_X9_287 dX9_check_4 (by decide) (ae_w0 (by decide) _ _) rfl ?_
  rw [V_n17 hC.1, hN]
  generalize hx1 : nI N = x1
  have hx1 : x1 = nI N := hx1.symm
  refine v_istore_n (I := iX9_check) (ls1 := [(1, _), (0, _)]) dX9_check_7 (by decide) rfl ?_
  refine v_aload_n (I := iX9_check) dX9_check_8 rfl ?_
  refine v_get (I := iX9_check) g_X9_19 dX9_check_9 (by decide) (ae_0 _ _) rfl ?_
  refine v_aload_n (I := iX9_check) dX9_check_12 rfl ?_
  refine v_get (I := iX9_check) g_X9_10 dX9_check_13 (by decide) (ae_0 _ _) rfl ?_
  refine v_callVvP (I := iX9_check) (I' := iX8_become) lk_X9_204 c_X8_become dX9_check_16 (m_X8_become_20) rfl rfl (by decide) (ae_w0 (by decide) _ _) rfl (by decide) (by decide) (Nat.le_of_ble_eq_true rfl) (fun s16 h16 => ?_)
  have hV2 := h16.1 _ hC.1
  have hC9 := (CR_ahead hC h16.2).1
  refine v_aload_n (I := iX9_check) dX9_check_19 rfl ?_
  refine v_get (I := iX9_check) g_X9_10 dX9_check_20 (by decide) (ae_0 _ _) rfl ?_
  refine v_iconst (I := iX9_check) (v := 0) dX9_check_23 (by decide) ?_
  refine v_putI (I := iX9_check) p_X9_287 dX9_check_24 (by decide) (ae_w0 (by decide) _ _) (ae_w0 (by decide) _ _) rfl rfl (by simp) ?_
  refine v_iconst (I := iX9_check) (v := 0) dX9_check_27 (by decide) ?_
  refine v_istore_n (I := iX9_check) (ls1 := [(2, _), (1, _), (0, _)]) dX9_check_28 (by decide) rfl ?_
  have key : ∀ (m k : Nat) {g9 : gS} {σ9 : fSt} {y : Int32}, k + m = N → V 0 σ9 (va_up (ρ 88) 17 0) → V 2 σ9 g9 → IV g9 → Fr02 σ σ9 → chk (ρ 88) m k g9 = chk (ρ 88) N 0 (ρ 88) → y = nI k → VW G iX9_check (rC τ σ (checkS ρ)) 8 σ9 τ 29 [(2, .int y), (1, .int x1), (0, .ref 0)] [] := by
    intro m
    induction m with
    | zero =>
      intro k g9 σ9 y hkm hV0 hV2 hI9 hF9 he hk
      have hkN : k = N := hkm
      show VW _ _ _ _ _ _ 29 [(2, _), (1, _), (0, _)] []
      refine v_iload_n (I := iX9_check) dX9_check_29 rfl ?_
      refine v_iload_n (I := iX9_check) dX9_check_30 rfl ?_
      refine v_icmp_ge (I := iX9_check) (tgt := 75) dX9_check_31 (by decide) (fun c31 => ?_) (fun c31 => ?_)
      · refine v_iconst (I := iX9_check) (v := 0) dX9_check_75 (by decide) ?_
        exact v_iret (I := iX9_check) rfl dX9_check_76 (by unfold checkS; rw [hNc, ← he]; exact ⟨rfl, rfl, CR_row2 hC hV0 hF9 (hF9 0 fun c hc => by unfold wc; omega) (IV_17 hC.2.2.2.2.2.1 (by decide) (by decide)), hF9.C⟩)
      · exact absurd (by rw [hx1, hk, hkN]; exact Int32.le_refl _) c31
    | succ m ih =>
      intro k g9 σ9 y hkm hV0 hV2 hI9 hF9 he hk
      subst hk
      show VW _ _ _ _ _ _ 29 [(2, _), (1, _), (0, _)] []
      refine v_iload_n (I := iX9_check) dX9_check_29 rfl ?_
      refine v_iload_n (I := iX9_check) dX9_check_30 rfl ?_
      refine v_icmp_ge (I := iX9_check) (tgt := 75) dX9_check_31 (by decide) (fun c31 => ?_) (fun c31 => ?_)
      · exact absurd c31 (by rw [hx1]; exact nI_ge (by omega) (by omega))
      · refine v_aload_n (I := iX9_check) dX9_check_34 rfl ?_
        refine v_get (I := iX9_check) g_X9_19 dX9_check_35 (by decide) (ae_0 _ _) rfl ?_
        refine v_callVvP (I := iX9_check) (I' := iX8_passTenth) lk_X9_293 c_X8_passTenth dX9_check_38 (m_X8_passTenth (by decide) hV2 hI9) rfl rfl (by decide) (ae_w0 (by decide) _ _) rfl (by decide) (by decide) (Nat.le_of_ble_eq_true rfl) (fun s38 h38 => ?_)
        have hVk : V 0 s38 (va_up (ρ 88) 17 0) := V_fr hV0 fun c hc => h38.2 _ fun c9 hc9 => wc_w (by decide) hc hc9
        have hFk : Fr02 σ s38 := fun k hk => (h38.2 k fun c hc => (hk c hc).2).trans (hF9 k hk)
        refine v_aload_n (I := iX9_check) dX9_check_41 rfl ?_
        refine v_get (I := iX9_check) g_X9_10 dX9_check_42 (by decide) (ae_0 _ _) rfl ?_
        refine v_get (I := iX9_check) g_X9_290 dX9_check_45 (by decide) (ae_w0 (by decide) _ _) rfl ?_
        refine v_iload_n (I := iX9_check) dX9_check_48 rfl ?_
        refine v_callSi (I := iX9_check) (I' := iX9_at) lk_X9_104 c_X9_at dX9_check_49 (m_X9_at (by decide) (ae_w19 (by decide)) (by decide)) rfl rfl (by decide) (by decide) (Nat.le_of_ble_eq_true rfl) ?_
        rw [rdA_in (by omega) (by decide), V_wt hVk (by omega), va_up_o _ _ (by omega)]
        refine v_aload_n (I := iX9_check) dX9_check_52 rfl ?_
        refine v_get (I := iX9_check) g_X9_19 dX9_check_53 (by decide) (ae_0 _ _) rfl ?_
        refine v_get (I := iX9_check) g_X9_114 dX9_check_56 (by decide) (ae_w0 (by decide) _ _) rfl ?_
        refine v_bipush (I := iX9_check) (v := 7) dX9_check_59 (by decide) ?_
        refine v_ialdN (I := iX9_check) (j := 7) (by decide) (by decide) (by decide) dX9_check_61 (by decide) (ae_w1 (by decide) _ _) ?_
        rw [V_child h38.1 (by decide)]
        refine v_icmp_eq (I := iX9_check) (tgt := 69) dX9_check_62 (by decide) (fun c62 => ?_) (fun c62 => ?_)
        · refine v_iinc (I := iX9_check) (ls1 := [(2, _), (1, _), (0, _)]) dX9_check_69 rfl rfl (by decide) rfl ?_
          refine v_goto (I := iX9_check) (tgt := 29) dX9_check_72 (by decide) ?_
          exact ih (k + 1) (by omega) hVk h38.1 (IV_tenths 1 hI9) hFk (by rw [← he, chk, if_pos c62]) (by exact nI_1 k)
        · refine v_iconst (I := iX9_check) (v := 1) dX9_check_65 (by decide) ?_
          refine v_iload_n (I := iX9_check) dX9_check_66 rfl ?_
          refine v_iadd (I := iX9_check) dX9_check_67 ?_
          exact v_iret (I := iX9_check) rfl dX9_check_68 (by unfold checkS; rw [hNc, ← he]; exact ⟨by rw [chk, if_neg c62], rfl, CR_row2 hC hVk hFk (hFk 0 fun c hc => by unfold wc; omega) (IV_17 hC.2.2.2.2.2.1 (by decide) (by decide)), hFk.C⟩)
  exact key N 0 (by omega) (V_up 17 (x := 0) (by decide) hC9) (V_fr hV2 fun c hc => up2_kf _ _ _ (wc_w (by decide) hc (by decide))) hC.2.2.2.2.2.1 (fun k hk => (up2_kf _ _ _ (hk 0 (by decide)).1).trans (h16.2 k fun c hc => (hk c hc).2)) rfl rfl
theorem RR_b3 {σ s ρ : fSt} {g : gS} (h : RR σ ρ) (h90 : s 90 = g) (he : FrB σ s) (hg : IV g) : RR (va_up s 88 (s 90)) (rowS ρ g) := by
  refine RR_tg (s := va_up s 88 (s 90)) (σ := va_up σ 90 g) (g := g) ?_ ((va_up_s _ _ _).trans h90) ?_ hg
  · exact RR_of h (fun k hk => va_up_o _ _ (by omega)) (by rw [va_up_o _ _ (by decide)]) (by rw [va_up_o _ _ (by decide)])
  · intro k a b c
    rw [va_up_o _ _ a]
    by_cases e : k = 90
    · subst e; rw [va_up_s, h90]
    · rw [va_up_o _ _ e]; exact he k a e b c
theorem one_ne {k : Nat} (h : k < 1000) : ¬ 1 + nI k = 0 := by
  rw [show (1 : Int32) = nI 1 from rfl, nI_add]
  exact nI_ne0 (by omega) (by omega)
set_option maxRecDepth 100000 in
set_option maxHeartbeats 4000000 in
theorem m_X10_check {G : fGm} {σ : fSt} {τ : fLt} {ρ : fSt} (hR : RR σ ρ)  : MS G iX10_check 8 [.ref 87] σ τ (rR τ σ (checkS ρ)) := by
  refine ms_of (by decide +kernel) (Nat.le_of_ble_eq_true rfl) ?_
  show VW _ _ _ _ _ _ 0 [(0, _)] []
  obtain ⟨N, hN8, hN⟩ : ∃ N, N ≤ 24 ∧ ρ 88 17 = nI N := B_nat hR.2.2.2.2.2.2.2.2.2.2.2.1.1 17 24 (by decide) (by decide) (by decide)
  have hNc : (ρ 88 17).toNatClampNeg = N := by rw [hN]; exact nI_clamp (by omega)
  refine v_aload_n (I := iX10_check) dX10_check_0 rfl ?_
  refine v_get (I := iX10_check) g_X10_9 dX10_check_1 (by decide) (ae_87 _ _) rfl ?_
  refine v_bipush (I := iX10_check) (v := 17) dX10_check_4 (by decide) ?_
  refine v_ialdN (I := iX10_check) (j := 17) (by decide) (by decide) (by decide) dX10_check_6 (by decide) (ae_88 _ _) ?_
  rw [hR.1, hN]
  generalize hx1 : nI N = x1
  have hx1 : x1 = nI N := hx1.symm
  refine v_istore_n (I := iX10_check) (ls1 := [(1, _), (0, _)]) dX10_check_7 (by decide) rfl ?_
  refine v_aload_n (I := iX10_check) dX10_check_8 rfl ?_
  refine v_get (I := iX10_check) g_X10_9 dX10_check_9 (by decide) (ae_87 _ _) rfl ?_
  refine v_bipush (I := iX10_check) (v := 17) dX10_check_12 (by decide) ?_
  refine v_iconst (I := iX10_check) (v := 0) dX10_check_14 (by decide) ?_
  refine v_iastN (I := iX10_check) (j := 17) (by decide) (by decide) (by decide) dX10_check_15 (by decide) (fun _ => ae_88 _ _) ?_
  refine v_aload_n (I := iX10_check) dX10_check_16 rfl ?_
  refine v_get (I := iX10_check) g_X10_9 dX10_check_17 (by decide) (ae_87 _ _) rfl ?_
  refine v_aload_n (I := iX10_check) dX10_check_20 rfl ?_
  refine v_get (I := iX10_check) g_X10_16 dX10_check_21 (by decide) (ae_87 _ _) rfl ?_
  refine v_callSv (I := iX10_check) (I' := iX10_copy) lk_X10_83 c_X10_copy dX10_check_24 (m_X10_copy (by decide) (by decide) (ae_88) (ae_90) (by decide)) rfl rfl (by decide) (by decide) (Nat.le_of_ble_eq_true rfl) ?_
  refine v_iconst (I := iX10_check) (v := 0) dX10_check_27 (by decide) ?_
  refine v_istore_n (I := iX10_check) (ls1 := [(2, _), (1, _), (0, _)]) dX10_check_28 (by decide) rfl ?_
  refine v_iconst (I := iX10_check) (v := 0) dX10_check_29 (by decide) ?_
  refine v_istore_n (I := iX10_check) (ls1 := [(3, _), (2, _), (1, _), (0, _)]) dX10_check_30 (by decide) rfl ?_
  have key : ∀ (m k : Nat) {g9 : gS} {σ9 : fSt} {y x2 : Int32}, k + m = N → σ9 88 = va_up g9 17 0 → σ9 90 = va_up (ρ 88) 17 0 → IV g9 → (∀ i, 147 ≤ i → i < 171 → g9 i = ρ 88 i) → FrB σ σ9 → chk (ρ 88) m k g9 = chk (ρ 88) N 0 (ρ 88) → y = nI k → x2 = 0 → VW G iX10_check (rR τ σ (checkS ρ)) 8 σ9 τ 31 [(3, .int y), (2, .int x2), (1, .int x1), (0, .ref 87)] [] := by
    intro m
    induction m with
    | zero =>
      intro k g9 σ9 y x2 hkm h88 h90 hI9 hW hF9 he hk hx2
      have hkN : k = N := hkm
      show VW _ _ _ _ _ _ 31 [(3, _), (2, _), (1, _), (0, _)] []
      refine v_iload_n (I := iX10_check) dX10_check_31 rfl ?_
      refine v_iload_n (I := iX10_check) dX10_check_32 rfl ?_
      refine v_icmp_ge (I := iX10_check) (tgt := 79) dX10_check_33 (by decide) (fun c33 => ?_) (fun c33 => ?_)
      · refine v_aload_n (I := iX10_check) dX10_check_79 rfl ?_
        refine v_iload_n (I := iX10_check) dX10_check_80 rfl ?_
        refine v_callVi (I := iX10_check) (I' := iX10_putBack) lk_X10_267 c_X10_putBack dX10_check_81 (m_X10_putBack) rfl rfl (by decide) (ae_87 _ _) rfl (by decide) (by decide) (Nat.le_of_ble_eq_true rfl) ?_
        exact v_iret (I := iX10_check) rfl dX10_check_84 (by unfold checkS; rw [hNc, ← he]; exact ⟨by rw [hx2]; rfl, rfl, RR_b3 hR h90 hF9 (IV_17 hR.2.2.2.2.2.2.2.2.2.2.2.1 (by decide) (by decide)), hF9.R.tr (FR.va (by decide))⟩)
      · exact absurd (by rw [hx1, hk, hkN]; exact Int32.le_refl _) c33
    | succ m ih =>
      intro k g9 σ9 y x2 hkm h88 h90 hI9 hW hF9 he hk hx2
      subst hk
      show VW _ _ _ _ _ _ 31 [(3, _), (2, _), (1, _), (0, _)] []
      refine v_iload_n (I := iX10_check) dX10_check_31 rfl ?_
      refine v_iload_n (I := iX10_check) dX10_check_32 rfl ?_
      refine v_icmp_ge (I := iX10_check) (tgt := 79) dX10_check_33 (by decide) (fun c33 => ?_) (fun c33 => ?_)
      · exact absurd c33 (by rw [hx1]; exact nI_ge (by omega) (by omega))
      · refine v_iload_n (I := iX10_check) dX10_check_36 rfl ?_
        refine v_if_ne (I := iX10_check) (tgt := 79) dX10_check_37 (by decide) (fun c37 => ?_) (fun c37 => ?_)
        · exact absurd hx2 c37
        · refine v_aload_n (I := iX10_check) dX10_check_40 rfl ?_
          refine v_iconst (I := iX10_check) (v := 1) dX10_check_41 (by decide) ?_
          refine v_callVvP (I := iX10_check) (I' := iX10_tenthsGo) lk_X10_261 c_X10_tenthsGo dX10_check_42 (m_X10_tenthsGo (n := 1) (by rw [h88]; exact IV_17 hI9 (by decide) (by decide)) rfl (by decide)) rfl rfl (by decide) (ae_87 _ _) rfl (by decide) (by decide) (Nat.le_of_ble_eq_true rfl) (fun s42 h42 => ?_)
          have hg : s42 88 = va_up (gTenths g9 1) 17 0 := by rw [h42.1, h88, w_tenths]
          have hFk : FrB σ s42 := fun k a b c d => (h42.2 k a c d).trans (hF9 k a b c d)
          have h90k : s42 90 = va_up (ρ 88) 17 0 := (h42.2 90 (by decide) (by decide) (by decide)).trans h90
          refine v_aload_n (I := iX10_check) dX10_check_45 rfl ?_
          refine v_get (I := iX10_check) g_X10_9 dX10_check_46 (by decide) (ae_87 _ _) rfl ?_
          refine v_sipush (I := iX10_check) (v := 147) dX10_check_49 (by decide) ?_
          refine v_iload_n (I := iX10_check) dX10_check_52 rfl ?_
          refine v_iadd (I := iX10_check) dX10_check_53 ?_
          refine v_ialdN (I := iX10_check) (j := (147 + k)) (by exact nI_add 147 k) (by omega) (by decide) dX10_check_54 (by decide) (ae_88 _ _) ?_
          rw [hg, va_up_o _ _ (by omega), tenths_hi (by omega) (by omega), hW _ (by omega) (by omega)]
          refine v_aload_n (I := iX10_check) dX10_check_55 rfl ?_
          refine v_get (I := iX10_check) g_X10_9 dX10_check_56 (by decide) (ae_87 _ _) rfl ?_
          refine v_bipush (I := iX10_check) (v := 7) dX10_check_59 (by decide) ?_
          refine v_ialdN (I := iX10_check) (j := 7) (by decide) (by decide) (by decide) dX10_check_61 (by decide) (ae_88 _ _) ?_
          rw [hg, va_up_o _ _ (by decide)]
          refine v_icmp_ne (I := iX10_check) (tgt := 69) dX10_check_62 (by decide) (fun c62 => ?_) (fun c62 => ?_)
          have hw : chk (ρ 88) N 0 (ρ 88) = 1 + nI k := by rw [← he, chk, if_neg c62]
          refine v_iconst (I := iX10_check) (v := 1) dX10_check_69 (by decide) ?_
          refine v_iload_n (I := iX10_check) dX10_check_70 rfl ?_
          refine v_iadd (I := iX10_check) dX10_check_71 ?_
          refine v_istore_n (I := iX10_check) (ls1 := [(2, _), (3, _), (1, _), (0, _)]) dX10_check_72 (by decide) rfl ?_
          refine v_iinc (I := iX10_check) (ls1 := [(3, _), (2, _), (1, _), (0, _)]) dX10_check_73 rfl rfl (by decide) rfl ?_
          refine v_goto (I := iX10_check) (tgt := 31) dX10_check_76 (by decide) ?_
          refine v_iload_n (I := iX10_check) dX10_check_31 rfl ?_
          refine v_iload_n (I := iX10_check) dX10_check_32 rfl ?_
          refine v_icmp_ge (I := iX10_check) (tgt := 79) dX10_check_33 (by decide) (fun c33 => ?_) (fun c33 => ?_)
          · refine v_aload_n (I := iX10_check) dX10_check_79 rfl ?_
            refine v_iload_n (I := iX10_check) dX10_check_80 rfl ?_
            refine v_callVi (I := iX10_check) (I' := iX10_putBack) lk_X10_267 c_X10_putBack dX10_check_81 (m_X10_putBack) rfl rfl (by decide) (ae_87 _ _) rfl (by decide) (by decide) (Nat.le_of_ble_eq_true rfl) ?_
            exact v_iret (I := iX10_check) rfl dX10_check_84 (by unfold checkS; rw [hNc, hw]; exact ⟨rfl, rfl, RR_b3 hR h90k hFk (IV_17 hR.2.2.2.2.2.2.2.2.2.2.2.1 (by decide) (by decide)), hFk.R.tr (FR.va (by decide))⟩)
          · refine v_iload_n (I := iX10_check) dX10_check_36 rfl ?_
            refine v_if_ne (I := iX10_check) (tgt := 79) dX10_check_37 (by decide) (fun c37 => ?_) (fun c37 => ?_)
            · refine v_aload_n (I := iX10_check) dX10_check_79 rfl ?_
              refine v_iload_n (I := iX10_check) dX10_check_80 rfl ?_
              refine v_callVi (I := iX10_check) (I' := iX10_putBack) lk_X10_267 c_X10_putBack dX10_check_81 (m_X10_putBack) rfl rfl (by decide) (ae_87 _ _) rfl (by decide) (by decide) (Nat.le_of_ble_eq_true rfl) ?_
              exact v_iret (I := iX10_check) rfl dX10_check_84 (by unfold checkS; rw [hNc, hw]; exact ⟨rfl, rfl, RR_b3 hR h90k hFk (IV_17 hR.2.2.2.2.2.2.2.2.2.2.2.1 (by decide) (by decide)), hFk.R.tr (FR.va (by decide))⟩)
            · exact absurd c37 (one_ne (by omega))
          refine v_iconst (I := iX10_check) (v := 0) dX10_check_65 (by decide) ?_
          refine v_goto (I := iX10_check) (tgt := 72) dX10_check_66 (by decide) ?_
          refine v_istore_n (I := iX10_check) (ls1 := [(2, _), (3, _), (1, _), (0, _)]) dX10_check_72 (by decide) rfl ?_
          refine v_iinc (I := iX10_check) (ls1 := [(3, _), (2, _), (1, _), (0, _)]) dX10_check_73 rfl rfl (by decide) rfl ?_
          refine v_goto (I := iX10_check) (tgt := 31) dX10_check_76 (by decide) ?_
          exact ih (k + 1) (by omega) hg h90k (IV_tenths 1 hI9) (fun i h1 h2 => (tenths_hi (by omega) (by omega) 1).trans (hW i h1 h2)) hFk (by rw [← he, chk, if_pos c62]) (by exact nI_1 k) rfl
  exact key N 0 (by omega) ((va_up_o _ _ (by decide)).trans ((up2_f _ _ _ _).trans (by rw [hR.1]))) ((va_up_s _ _ _).trans ((up2_f _ _ _ _).trans (by rw [hR.1]))) hR.2.2.2.2.2.2.2.2.2.2.2.1 (fun _ _ _ => rfl) (fun k a b _ _ => (va_up_o _ _ b).trans (up2_kf _ _ _ a)) rfl rfl rfl
