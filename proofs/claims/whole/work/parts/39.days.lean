theorem va_self {α : Type} (f : Nat → α) (k : Nat) : va_up f k (f k) = f := by
  funext j
  by_cases h : j = k
  · subst h; rw [va_up_s]
  · rw [va_up_o _ _ h]
theorem va_va {α : Type} (f : Nat → α) (k : Nat) (a b : α) : va_up (va_up f k a) k b = va_up f k b := by
  funext q
  by_cases h : q = k
  · subst h; rw [va_up_s, va_up_s]
  · rw [va_up_o _ _ h, va_up_o _ _ h, va_up_o _ _ h]
theorem pos0 {y : Int32} (h : 0 ≤ y) : y = 0 ∨ 0 < y := by grind
def gD (g : gS) : gS := if rem32 (g 13 + 1) 7 = 0 then va_up (va_up g 13 (g 13 + 1)) 5 (if g 5 + 1 < 60 then g 5 + 1 else 60) else va_up g 13 (g 13 + 1)
def gR (g : gS) : gS := gCome (va_up (va_up g 0 0) 1 0) 0
theorem gDt (σ : fSt) {g : gS} {x : Int32} (c : rem32 (g 13 + 1) 7 = 0) (hx : x = if g 5 + 1 < 60 then g 5 + 1 else 60) : va_up σ 88 (va_up (va_up g 13 (g 13 + 1)) 5 x) = va_up σ 88 (gD g) := by unfold gD; rw [if_pos c, hx]
theorem gDf (σ : fSt) {g : gS} (c : ¬ rem32 (g 13 + 1) 7 = 0) : va_up σ 88 (va_up g 13 (g 13 + 1)) = va_up σ 88 (gD g) := by unfold gD; rw [if_neg c]
def dD : Nat → gS → gS
  | 0, g => g
  | n + 1, g => dD n (gD g)
def cD : Nat → gS → gS
  | 0, g => g
  | n + 1, g => cD n (gR (gD g))
theorem gD_o (g : gS) {i : Nat} (h : i ≠ 13) (h5 : i ≠ 5) : gD g i = g i := by
  unfold gD
  split
  · rw [va_up_o _ _ h5, va_up_o _ _ h]
  · rw [va_up_o _ _ h]
theorem gR_o (g : gS) {i : Nat} (h : i ≠ 0 ∧ i ≠ 1 ∧ i ≠ 11 ∧ i ≠ 12) : gR g i = g i := by
  unfold gR gCome
  rw [va_up_o _ _ h.2.2.2, va_up_o _ _ h.2.2.1, va_up_o _ _ h.2.1, va_up_o _ _ h.1]
theorem gR_at (g : gS) : gR g 0 = 0 ∧ gR g 1 = 0 ∧ gR g 11 = 0 ∧ gR g 12 = (if g 15 = 0 then 0 else g 65) := by
  unfold gR gCome
  refine ⟨?_, ?_, ?_, ?_⟩
  · rw [va_up_o _ _ (by decide), va_up_o _ _ (by decide), va_up_o _ _ (by decide), va_up_s]
  · rw [va_up_o _ _ (by decide), va_up_o _ _ (by decide), va_up_s]
  · rw [va_up_o _ _ (by decide), va_up_s]
  · rw [va_up_s]; rfl
theorem gD_at (g : gS) : gD g 13 = g 13 + 1 ∧ gD g 5 = (if rem32 (g 13 + 1) 7 = 0 then (if g 5 + 1 < 60 then g 5 + 1 else 60) else g 5) := by
  unfold gD
  by_cases h : rem32 (g 13 + 1) 7 = 0
  · rw [if_pos h, if_pos h]
    exact ⟨by rw [va_up_o _ _ (by decide), va_up_s], va_up_s _ _ _⟩
  · rw [if_neg h, if_neg h]
    exact ⟨va_up_s _ _ _, va_up_o _ _ (by decide)⟩
theorem gDR (g : gS) : gD (gR g) = gR (gD g) := by
  funext i
  by_cases h13 : i = 13
  · subst h13
    rw [(gD_at _).1, gR_o _ (by decide), gR_o _ (by decide), (gD_at _).1]
  by_cases h5 : i = 5
  · subst h5
    rw [(gD_at _).2, gR_o _ (by decide), gR_o _ (by decide), gR_o _ (by decide), (gD_at _).2]
  rw [gD_o _ h13 h5]
  by_cases h : i ≠ 0 ∧ i ≠ 1 ∧ i ≠ 11 ∧ i ≠ 12
  · rw [gR_o _ h, gR_o _ h, gD_o _ h13 h5]
  · rcases (show i = 0 ∨ i = 1 ∨ i = 11 ∨ i = 12 by omega) with rfl | rfl | rfl | rfl
    · rw [(gR_at _).1, (gR_at _).1]
    · rw [(gR_at _).2.1, (gR_at _).2.1]
    · rw [(gR_at _).2.2.1, (gR_at _).2.2.1]
    · rw [(gR_at _).2.2.2, (gR_at _).2.2.2, gD_o _ (by decide) (by decide), gD_o _ (by decide) (by decide)]
theorem gRR (g : gS) : gR (gR g) = gR g := by
  funext i
  by_cases h : i ≠ 0 ∧ i ≠ 1 ∧ i ≠ 11 ∧ i ≠ 12
  · rw [gR_o _ h]
  · rcases (show i = 0 ∨ i = 1 ∨ i = 11 ∨ i = 12 by omega) with rfl | rfl | rfl | rfl
    · rw [(gR_at _).1, (gR_at _).1]
    · rw [(gR_at _).2.1, (gR_at _).2.1]
    · rw [(gR_at _).2.2.1, (gR_at _).2.2.1]
    · rw [(gR_at _).2.2.2, (gR_at _).2.2.2, gR_o _ (by decide), gR_o _ (by decide)]
theorem dDR (n : Nat) : ∀ g : gS, dD n (gR g) = gR (dD n g) := by
  induction n with
  | zero => intro g; rfl
  | succ n ih => intro g; show dD n (gD (gR g)) = _; rw [gDR, ih]; rfl
theorem cDR (n : Nat) : ∀ g : gS, cD n (gR g) = gR (dD n g) := by
  induction n with
  | zero => intro g; rfl
  | succ n ih => intro g; show cD n (gR (gD (gR g))) = _; rw [ih, gDR, dDR, gRR]; rfl
theorem cD_dD {n : Nat} (h : 0 < n) (g : gS) : cD n g = gR (dD n g) := by
  cases n with
  | zero => omega
  | succ n => exact cDR n _
theorem IV_D {g : gS} (h : IV g) (h13 : g 13 < 9999) : IV (gD g) := by
  have hb : (0 : Int32) ≤ g 13 ∧ g 13 ≤ 9999 := h.1 13 (by decide)
  have hc : (0 : Int32) ≤ g 5 ∧ g 5 ≤ 60 := h.1 5 (by decide)
  have h1 : IV (va_up g 13 (g 13 + 1)) := IV_up h ⟨by decide, by decide, by decide, by decide, fun j hj => by omega⟩ ⟨by show (0 : Int32) ≤ _; generalize g 13 = y at *; grind, by show _ ≤ (9999 : Int32); generalize g 13 = y at *; grind⟩
  unfold gD
  split
  · exact IV_up h1 ⟨by decide, by decide, by decide, by decide, fun j hj => by omega⟩ ⟨by show (0 : Int32) ≤ _; generalize g 5 = y at *; grind, by show _ ≤ (60 : Int32); generalize g 5 = y at *; grind⟩
  · exact h1
theorem IV_dD (n : Nat) : ∀ {g : gS} {k : Nat}, IV g → g 13 = nI k → k + n ≤ 9999 → IV (dD n g) := by
  induction n with
  | zero => intro g k h _ _; exact h
  | succ n ih =>
    intro g k h hk hn
    exact ih (k := k + 1) (IV_D h (by rw [hk]; exact nI_lt (a := k) (b := 9999) (by omega) (by decide))) (by rw [(gD_at g).1, hk, nI_1]) (by omega)
theorem dD15 (n : Nat) : ∀ g : gS, dD n g 15 = g 15 := by
  induction n with
  | zero => intro g; rfl
  | succ n ih => intro g; exact (ih (gD g)).trans (gD_o g (by decide) (by decide))
theorem IV_R {g : gS} (h : IV g) : IV (gR g) := by
  have h1 : IV (va_up (va_up g 0 0) 1 0) := IV_up (IV_up h ⟨by decide, by decide, by decide, by decide, fun j hj => by omega⟩ ⟨by decide, by decide⟩) ⟨by decide, by decide, by decide, by decide, fun j hj => by omega⟩ ⟨by decide, by decide⟩
  by_cases h15 : 0 < va_up (va_up g 0 0) 1 0 15
  · exact IV_come (i := 0) h1.1 h1.2.1 h1.2.2.1 h15 (by decide) h15 (h1.2.2.2.1 h15).2.2
  · have h0 : (0 : Int32) ≤ va_up (va_up g 0 0) 1 0 15 := (h1.1 15 (by decide)).1
    have e15 : va_up (va_up g 0 0) 1 0 15 = 0 := by generalize va_up (va_up g 0 0) 1 0 15 = y at *; grind
    have h2 := h1.2.2.2.2 e15
    have : gR g = va_up (va_up g 0 0) 1 0 := by
      unfold gR gCome
      rw [if_pos e15]
      generalize va_up (va_up g 0 0) 1 0 = q at *
      funext i
      by_cases a : i = 12
      · subst a; rw [va_up_s, h2.2]
      · rw [va_up_o _ _ a]
        by_cases b : i = 11
        · subst b; rw [va_up_s, h2.1]
        · rw [va_up_o _ _ b]
    rw [this]
    exact h1
def daysS (ρ : fSt) (n : Int32) : Int32 × fSt := if 1 ≤ n ∧ n ≤ 60 then (if 9999 < ρ 88 13 + n then (errV 3, errS ρ 3) else (gR (dD n.toNatClampNeg (ρ 88)) 5, rowS ρ (gR (dD n.toNatClampNeg (ρ 88))))) else (errV 1, errS ρ 1)
set_option maxRecDepth 100000 in
set_option maxHeartbeats 4000000 in
theorem m_X8_passDay {G : fGm} {σ : fSt} {τ : fLt} {w : Nat} {g : gS} (hw : w < 3) (hV : V w σ g) (h15 : 0 ≤ g 15) : MS G iX8_passDay 2 [.ref (wc w 0)] σ τ (rW none τ w σ (gR (gD g))) := by
  refine ms_of (by decide +kernel) (Nat.le_of_ble_eq_true rfl) ?_
  show VW _ _ _ _ _ _ 0 [(0, _)] []
  refine v_aload_n (I := iX8_passDay) dX8_passDay_0 rfl ?_
  refine v_get (I := iX8_passDay) g_X8_18 dX8_passDay_1 (wc_lt hw (by decide)) (ae_w0 hw _ _) rfl ?_
  refine v_bipush (I := iX8_passDay) (v := 13) dX8_passDay_4 (by decide) ?_
  refine v_dup2_11 (I := iX8_passDay) dX8_passDay_6 rfl rfl ?_
  refine v_ialdN (I := iX8_passDay) (j := 13) (by decide) (by decide) (by decide) dX8_passDay_7 (wc_lt hw (by decide)) (ae_w1 hw _ _) ?_
  rw [V_child hV (by decide)]
  refine v_iconst (I := iX8_passDay) (v := 1) dX8_passDay_8 (by decide) ?_
  refine v_iadd (I := iX8_passDay) dX8_passDay_9 ?_
  refine v_iastN (I := iX8_passDay) (j := 13) (by decide) (by decide) (by decide) dX8_passDay_10 (wc_lt hw (by decide)) (fun _ => ae_w1 hw _ _) ?_
  have hV1 := V_upc (i := 13) (x := g 13 + 1) hV (by decide)
  have hF1 : FrW w σ _ := FrW.up (w := w) (σ := σ) (c := 1) (j := 13) (x := g 13 + 1) (by decide)
  refine v_aload_n (I := iX8_passDay) dX8_passDay_11 rfl ?_
  refine v_get (I := iX8_passDay) g_X8_18 dX8_passDay_12 (wc_lt hw (by decide)) (ae_w0 hw _ _) rfl ?_
  refine v_bipush (I := iX8_passDay) (v := 13) dX8_passDay_15 (by decide) ?_
  refine v_ialdN (I := iX8_passDay) (j := 13) (by decide) (by decide) (by decide) dX8_passDay_17 (wc_lt hw (by decide)) (ae_w1 hw _ _) ?_
  rw [V_child hV1 (by decide), va_up_s]
  refine v_bipush (I := iX8_passDay) (v := 7) dX8_passDay_18 (by decide) ?_
  refine v_irem (I := iX8_passDay) dX8_passDay_20 (by decide) ?_
  refine v_if_ne (I := iX8_passDay) (tgt := 32) dX8_passDay_21 (by decide) (fun c21 => ?_) (fun c21 => ?_)
  · have hV2 : V w (up2 σ (wc w 1) 13 (g 13 + 1)) (gD g) := by
      unfold gD
      rw [if_neg (by unfold rem32; grind)]
      exact hV1
    have hF2 : FrW w σ (up2 σ (wc w 1) 13 (g 13 + 1)) := hF1
    refine v_aload_n (I := iX8_passDay) dX8_passDay_32 rfl ?_
    refine v_get (I := iX8_passDay) g_X8_18 dX8_passDay_33 (wc_lt hw (by decide)) (ae_w0 hw _ _) rfl ?_
    refine v_iconst (I := iX8_passDay) (v := 0) dX8_passDay_36 (by decide) ?_
    refine v_iconst (I := iX8_passDay) (v := 0) dX8_passDay_37 (by decide) ?_
    refine v_iastN (I := iX8_passDay) (j := 0) (by decide) (by decide) (by decide) dX8_passDay_38 (wc_lt hw (by decide)) (fun _ => ae_w1 hw _ _) ?_
    refine v_aload_n (I := iX8_passDay) dX8_passDay_39 rfl ?_
    refine v_get (I := iX8_passDay) g_X8_18 dX8_passDay_40 (wc_lt hw (by decide)) (ae_w0 hw _ _) rfl ?_
    refine v_iconst (I := iX8_passDay) (v := 1) dX8_passDay_43 (by decide) ?_
    refine v_iconst (I := iX8_passDay) (v := 0) dX8_passDay_44 (by decide) ?_
    refine v_iastN (I := iX8_passDay) (j := 1) (by decide) (by decide) (by decide) dX8_passDay_45 (wc_lt hw (by decide)) (fun _ => ae_w1 hw _ _) ?_
    have h15d : gD g 15 = g 15 := gD_o g (by decide) (by decide)
    have hV4 := V_upc (i := 1) (x := 0) (V_upc (i := 0) (x := 0) hV2 (by decide)) (by decide)
    have h15e : va_up (va_up (gD g) 0 0) 1 0 15 = g 15 := by rw [va_up_o _ _ (by decide), va_up_o _ _ (by decide), h15d]
    refine v_aload_n (I := iX8_passDay) dX8_passDay_46 rfl ?_
    refine v_iconst (I := iX8_passDay) (v := 0) dX8_passDay_47 (by decide) ?_
    refine v_callVvP (I := iX8_passDay) (I' := iX8_come) lk_X8_212 c_X8_come dX8_passDay_48 (m_X8_come (i := 0) (x := 0) hw hV4 rfl (by decide) (pos0 (by rw [h15e]; exact h15))) rfl rfl (wc_lt hw (by decide)) (ae_w0 hw _ _) rfl (by decide) (by decide) (Nat.le_of_ble_eq_true rfl) (fun s48 h48 => ?_)
    exact v_vret (I := iX8_passDay) rfl dX8_passDay_51 ⟨rfl, rfl, h48.1, ((hF2.tr (FrW.up (by decide))).tr (FrW.up (by decide))).tr h48.2⟩
  · refine v_aload_n (I := iX8_passDay) dX8_passDay_24 rfl ?_
    refine v_iconst (I := iX8_passDay) (v := 5) dX8_passDay_25 (by decide) ?_
    refine v_iconst (I := iX8_passDay) (v := 1) dX8_passDay_26 (by decide) ?_
    refine v_bipush (I := iX8_passDay) (v := 60) dX8_passDay_27 (by decide) ?_
    refine v_callVvP (I := iX8_passDay) (I' := iX8_gain) lk_X8_192 c_X8_gain dX8_passDay_29 (m_X8_gain (m := 60) (j := 5) hw hV1 rfl (by decide)) rfl rfl (wc_lt hw (by decide)) (ae_w0 hw _ _) rfl (by decide) (by decide) (Nat.le_of_ble_eq_true rfl) (fun s29 h29 => ?_)
    have hV2 : V w s29 (gD g) := by
      unfold gD
      rw [if_pos (by unfold rem32; grind)]
      have h9 := h29.1
      rw [va_up_o g _ (show (5 : Nat) ≠ 13 by decide)] at h9
      exact h9
    have hF2 : FrW w σ s29 := hF1.tr h29.2
    refine v_aload_n (I := iX8_passDay) dX8_passDay_32 rfl ?_
    refine v_get (I := iX8_passDay) g_X8_18 dX8_passDay_33 (wc_lt hw (by decide)) (ae_w0 hw _ _) rfl ?_
    refine v_iconst (I := iX8_passDay) (v := 0) dX8_passDay_36 (by decide) ?_
    refine v_iconst (I := iX8_passDay) (v := 0) dX8_passDay_37 (by decide) ?_
    refine v_iastN (I := iX8_passDay) (j := 0) (by decide) (by decide) (by decide) dX8_passDay_38 (wc_lt hw (by decide)) (fun _ => ae_w1 hw _ _) ?_
    refine v_aload_n (I := iX8_passDay) dX8_passDay_39 rfl ?_
    refine v_get (I := iX8_passDay) g_X8_18 dX8_passDay_40 (wc_lt hw (by decide)) (ae_w0 hw _ _) rfl ?_
    refine v_iconst (I := iX8_passDay) (v := 1) dX8_passDay_43 (by decide) ?_
    refine v_iconst (I := iX8_passDay) (v := 0) dX8_passDay_44 (by decide) ?_
    refine v_iastN (I := iX8_passDay) (j := 1) (by decide) (by decide) (by decide) dX8_passDay_45 (wc_lt hw (by decide)) (fun _ => ae_w1 hw _ _) ?_
    have h15d : gD g 15 = g 15 := gD_o g (by decide) (by decide)
    have hV4 := V_upc (i := 1) (x := 0) (V_upc (i := 0) (x := 0) hV2 (by decide)) (by decide)
    have h15e : va_up (va_up (gD g) 0 0) 1 0 15 = g 15 := by rw [va_up_o _ _ (by decide), va_up_o _ _ (by decide), h15d]
    refine v_aload_n (I := iX8_passDay) dX8_passDay_46 rfl ?_
    refine v_iconst (I := iX8_passDay) (v := 0) dX8_passDay_47 (by decide) ?_
    refine v_callVvP (I := iX8_passDay) (I' := iX8_come) lk_X8_212 c_X8_come dX8_passDay_48 (m_X8_come (i := 0) (x := 0) hw hV4 rfl (by decide) (pos0 (by rw [h15e]; exact h15))) rfl rfl (wc_lt hw (by decide)) (ae_w0 hw _ _) rfl (by decide) (by decide) (Nat.le_of_ble_eq_true rfl) (fun s48 h48 => ?_)
    exact v_vret (I := iX8_passDay) rfl dX8_passDay_51 ⟨rfl, rfl, h48.1, ((hF2.tr (FrW.up (by decide))).tr (FrW.up (by decide))).tr h48.2⟩
set_option maxRecDepth 100000 in
set_option maxHeartbeats 4000000 in
theorem m_X9_days {G : fGm} {σ : fSt} {τ : fLt} {ρ : fSt} (hC : CR σ ρ) {n : Int32} : MS G iX9_days 6 [.ref 0, .int n] σ τ (rC τ σ (daysS ρ n)) := by
  refine ms_of (by decide +kernel) (Nat.le_of_ble_eq_true rfl) ?_
  show VW _ _ _ _ _ _ 0 [(0, _), (1, _)] []
  refine v_iload_n (I := iX9_days) dX9_days_0 rfl ?_
  refine v_iconst (I := iX9_days) (v := 1) dX9_days_1 (by decide) ?_
  refine v_bipush (I := iX9_days) (v := 60) dX9_days_2 (by decide) ?_
  refine v_callSi (I := iX9_days) (I' := iX9_within) lk_X9_58 c_X9_within dX9_days_4 (m_X9_within) rfl rfl (by decide) (by decide) (Nat.le_of_ble_eq_true rfl) ?_
  refine v_if_neB (I := iX9_days) (tgt := 16) dX9_days_7 (by decide) (fun c7 => ?_) (fun c7 => ?_)
  · refine v_aload_n (I := iX9_days) dX9_days_16 rfl ?_
    refine v_get (I := iX9_days) g_X9_10 dX9_days_17 (by decide) (ae_0 _ _) rfl ?_
    refine v_get (I := iX9_days) g_X9_114 dX9_days_20 (by decide) (ae_w0 (by decide) _ _) rfl ?_
    refine v_bipush (I := iX9_days) (v := 13) dX9_days_23 (by decide) ?_
    refine v_ialdN (I := iX9_days) (j := 13) (by decide) (by decide) (by decide) dX9_days_25 (by decide) (ae_w1 (by decide) _ _) ?_
    rw [V_child hC.1 (by decide)]
    refine v_iload_n (I := iX9_days) dX9_days_26 rfl ?_
    refine v_iadd (I := iX9_days) dX9_days_27 ?_
    refine v_sipush (I := iX9_days) (v := 9999) dX9_days_28 (by decide) ?_
    refine v_icmp_le (I := iX9_days) (tgt := 40) dX9_days_31 (by decide) (fun c31 => ?_) (fun c31 => ?_)
    · refine v_iconst (I := iX9_days) (v := 0) dX9_days_40 (by decide) ?_
      refine v_istore_n (I := iX9_days) (ls1 := [(2, _), (0, _), (1, _)]) dX9_days_41 (by decide) rfl ?_
      obtain ⟨q, hq, hqx⟩ : ∃ q, q < 61 ∧ n = nI q := in2_nI (by decide) ⟨by grind, by show n < 61; grind⟩
      have hqc : n.toNatClampNeg = q := by rw [hqx]; exact nI_clamp (by omega)
      have hq0 : 0 < q := by
        rcases Nat.eq_zero_or_pos q with h | h
        · subst h; exact absurd (show (1 : Int32) ≤ n by grind) (by rw [hqx]; decide)
        · exact h
      obtain ⟨d9, hd9, hdx⟩ : ∃ j, j ≤ 9999 ∧ ρ 88 13 = nI j := B_nat hC.2.2.2.2.2.1.1 13 9999 (by decide) (by decide) (by decide)
      have hsum : d9 + q ≤ 9999 := by
        have h9 : ¬ (9999 : Int32) < ρ 88 13 + n := by grind
        rw [hdx, hqx, nI_add] at h9
        rcases Nat.lt_or_ge 9999 (d9 + q) with h | h
        · exact absurd (nI_lt (a := 9999) (b := d9 + q) h (by omega)) h9
        · exact h
      have hID : IV (dD q (ρ 88)) := IV_dD q hC.2.2.2.2.2.1 hdx hsum
      have key : ∀ (m k : Nat) {g9 : gS} {σ9 : fSt} {y : Int32}, k + m = q → V 0 σ9 g9 → g9 15 = ρ 88 15 → FrW 0 σ σ9 → cD m g9 = cD q (ρ 88) → y = nI k → VW G iX9_days (rC τ σ (daysS ρ n)) 6 σ9 τ 42 [(2, .int y), (0, .ref 0), (1, .int n)] [] := by
        intro m
        induction m with
        | zero =>
          intro k g9 σ9 y hkm hV9 h159 hF9 he hk
          have he : g9 = cD q (ρ 88) := he
          show VW _ _ _ _ _ _ 42 [(2, _), (0, _), (1, _)] []
          refine v_iload_n (I := iX9_days) dX9_days_42 rfl ?_
          refine v_iload_n (I := iX9_days) dX9_days_43 rfl ?_
          refine v_icmp_ge (I := iX9_days) (tgt := 60) dX9_days_44 (by decide) (fun c44 => ?_) (fun c44 => ?_)
          · refine v_aload_n (I := iX9_days) dX9_days_60 rfl ?_
            refine v_get (I := iX9_days) g_X9_10 dX9_days_61 (by decide) (ae_0 _ _) rfl ?_
            refine v_get (I := iX9_days) g_X9_114 dX9_days_64 (by decide) (ae_w0 (by decide) _ _) rfl ?_
            refine v_iconst (I := iX9_days) (v := 5) dX9_days_67 (by decide) ?_
            refine v_ialdN (I := iX9_days) (j := 5) (by decide) (by decide) (by decide) dX9_days_68 (by decide) (ae_w1 (by decide) _ _) ?_
            exact v_iret (I := iX9_days) rfl dX9_days_69 (by unfold daysS; rw [if_pos (by grind), if_neg (by grind), hqc]; exact ⟨by rw [V_child hV9 (by decide), he, cD_dD hq0], rfl, CR_row hC (by rw [← cD_dD hq0, ← he]; exact hV9) hF9 (IV_R hID), FrW.C (by decide) hF9⟩)
          · exact absurd (by rw [hk, hqx]; exact nI_le (by omega) (by omega)) c44
        | succ m ih =>
          intro k g9 σ9 y hkm hV9 h159 hF9 he hk
          show VW _ _ _ _ _ _ 42 [(2, _), (0, _), (1, _)] []
          refine v_iload_n (I := iX9_days) dX9_days_42 rfl ?_
          refine v_iload_n (I := iX9_days) dX9_days_43 rfl ?_
          refine v_icmp_ge (I := iX9_days) (tgt := 60) dX9_days_44 (by decide) (fun c44 => ?_) (fun c44 => ?_)
          · exact absurd c44 (by rw [hk, hqx]; exact nI_ge (by omega) (by omega))
          · refine v_aload_n (I := iX9_days) dX9_days_47 rfl ?_
            refine v_get (I := iX9_days) g_X9_10 dX9_days_48 (by decide) (ae_0 _ _) rfl ?_
            refine v_callVvP (I := iX9_days) (I' := iX8_passDay) lk_X9_201 c_X8_passDay dX9_days_51 (m_X8_passDay (by decide) hV9 (by rw [h159]; exact (B_n15 hC.2.2.2.2.2.1.1).1)) rfl rfl (by decide) (ae_w0 (by decide) _ _) rfl (by decide) (by decide) (Nat.le_of_ble_eq_true rfl) (fun s51 h51 => ?_)
            refine v_iinc (I := iX9_days) (ls1 := [(2, _), (0, _), (1, _)]) dX9_days_54 rfl rfl (by decide) rfl ?_
            refine v_goto (I := iX9_days) (tgt := 42) dX9_days_57 (by decide) ?_
            exact ih (k + 1) (by omega) h51.1 ((gR_o _ (by decide)).trans ((gD_o _ (by decide) (by decide)).trans h159)) (hF9.tr h51.2) he (by rw [hk]; exact nI_1 k)
      exact key q 0 (by omega) hC.1 rfl FrW.rf rfl rfl
    · refine v_aload_n (I := iX9_days) dX9_days_34 rfl ?_
      refine v_iconst (I := iX9_days) (v := 3) dX9_days_35 (by decide) ?_
      refine v_callVi (I := iX9_days) (I' := iX9_refused) lk_X9_62 c_X9_refused dX9_days_36 (m_X9_refused (e := 3) (by decide) (by decide) (by decide)) rfl rfl (by decide) (ae_0 _ _) rfl (by decide) (by decide) (Nat.le_of_ble_eq_true rfl) ?_
      exact v_iret (I := iX9_days) rfl dX9_days_39 (by unfold daysS; rw [if_pos (by grind), if_pos (by grind)]; exact ⟨rfl, rfl, CR_err hC (by decide) (by decide), FC.up (by decide)⟩)
  · refine v_aload_n (I := iX9_days) dX9_days_10 rfl ?_
    refine v_iconst (I := iX9_days) (v := 1) dX9_days_11 (by decide) ?_
    refine v_callVi (I := iX9_days) (I' := iX9_refused) lk_X9_62 c_X9_refused dX9_days_12 (m_X9_refused (e := 1) (by decide) (by decide) (by decide)) rfl rfl (by decide) (ae_0 _ _) rfl (by decide) (by decide) (Nat.le_of_ble_eq_true rfl) ?_
    exact v_iret (I := iX9_days) rfl dX9_days_15 (by unfold daysS; rw [if_neg (by grind)]; exact ⟨rfl, rfl, CR_err hC (by decide) (by decide), FC.up (by decide)⟩)
set_option maxRecDepth 100000 in
set_option maxHeartbeats 4000000 in
theorem m_X10_days {G : fGm} {σ : fSt} {τ : fLt} {ρ : fSt} (hR : RR σ ρ) {n : Int32} : MS G iX10_days 3 [.ref 87, .int n] σ τ (rR τ σ (daysS ρ n)) := by
  refine ms_of (by decide +kernel) (Nat.le_of_ble_eq_true rfl) ?_
  show VW _ _ _ _ _ _ 0 [(0, _), (1, _)] []
  refine v_iload_n (I := iX10_days) dX10_days_0 rfl ?_
  refine v_iconst (I := iX10_days) (v := 1) dX10_days_1 (by decide) ?_
  refine v_bipush (I := iX10_days) (v := 60) dX10_days_2 (by decide) ?_
  refine v_callSi (I := iX10_days) (I' := iX10_within) lk_X10_79 c_X10_within dX10_days_4 (m_X10_within) rfl rfl (by decide) (by decide) (Nat.le_of_ble_eq_true rfl) ?_
  refine v_if_neB (I := iX10_days) (tgt := 17) dX10_days_7 (by decide) (fun c7 => ?_) (fun c7 => ?_)
  · refine v_aload_n (I := iX10_days) dX10_days_17 rfl ?_
    refine v_get (I := iX10_days) g_X10_9 dX10_days_18 (by decide) (ae_87 _ _) rfl ?_
    refine v_bipush (I := iX10_days) (v := 13) dX10_days_21 (by decide) ?_
    refine v_ialdN (I := iX10_days) (j := 13) (by decide) (by decide) (by decide) dX10_days_23 (by decide) (ae_88 _ _) ?_
    rw [hR.1]
    refine v_iload_n (I := iX10_days) dX10_days_24 rfl ?_
    refine v_iadd (I := iX10_days) dX10_days_25 ?_
    refine v_sipush (I := iX10_days) (v := 9999) dX10_days_26 (by decide) ?_
    refine v_icmp_le (I := iX10_days) (tgt := 40) dX10_days_29 (by decide) (fun c29 => ?_) (fun c29 => ?_)
    · refine v_iconst (I := iX10_days) (v := 0) dX10_days_40 (by decide) ?_
      refine v_istore_n (I := iX10_days) (ls1 := [(2, _), (0, _), (1, _)]) dX10_days_41 (by decide) rfl ?_
      obtain ⟨q, hq, hqx⟩ : ∃ q, q < 61 ∧ n = nI q := in2_nI (by decide) ⟨by grind, by show n < 61; grind⟩
      have hqc : n.toNatClampNeg = q := by rw [hqx]; exact nI_clamp (by omega)
      have hq0 : 0 < q := by
        rcases Nat.eq_zero_or_pos q with h | h
        · subst h; exact absurd (show (1 : Int32) ≤ n by grind) (by rw [hqx]; decide)
        · exact h
      obtain ⟨d9, hd9, hdx⟩ : ∃ j, j ≤ 9999 ∧ ρ 88 13 = nI j := B_nat hR.2.2.2.2.2.2.2.2.2.2.2.1.1 13 9999 (by decide) (by decide) (by decide)
      have hsum : d9 + q ≤ 9999 := by
        have h9 : ¬ (9999 : Int32) < ρ 88 13 + n := by grind
        rw [hdx, hqx, nI_add] at h9
        rcases Nat.lt_or_ge 9999 (d9 + q) with h | h
        · exact absurd (nI_lt (a := 9999) (b := d9 + q) h (by omega)) h9
        · exact h
      have hID : IV (dD q (ρ 88)) := IV_dD q hR.2.2.2.2.2.2.2.2.2.2.2.1 hdx hsum
      have key : ∀ (m k : Nat) {g9 : gS} {σ9 : fSt} {y : Int32}, k + m = q → σ9 = va_up σ 88 g9 → dD m g9 = dD q (ρ 88) → y = nI k → VW G iX10_days (rR τ σ (daysS ρ n)) 3 σ9 τ 42 [(2, .int y), (0, .ref 87), (1, .int n)] [] := by
        intro m
        induction m with
        | zero =>
          intro k g9 σ9 y hkm hs he hk
          have he : g9 = dD q (ρ 88) := he
          show VW _ _ _ _ _ _ 42 [(2, _), (0, _), (1, _)] []
          subst hs
          refine v_iload_n (I := iX10_days) dX10_days_42 rfl ?_
          refine v_iload_n (I := iX10_days) dX10_days_43 rfl ?_
          refine v_icmp_ge (I := iX10_days) (tgt := 105) dX10_days_44 (by decide) (fun c44 => ?_) (fun c44 => ?_)
          · refine v_aload_n (I := iX10_days) dX10_days_105 rfl ?_
            refine v_get (I := iX10_days) g_X10_9 dX10_days_106 (by decide) (ae_87 _ _) rfl ?_
            refine v_iconst (I := iX10_days) (v := 0) dX10_days_109 (by decide) ?_
            refine v_iconst (I := iX10_days) (v := 0) dX10_days_110 (by decide) ?_
            refine v_iastN (I := iX10_days) (j := 0) (by decide) (by decide) (by decide) dX10_days_111 (by decide) (fun _ => ae_88 _ _) ?_
            rw [up2_va]
            refine v_aload_n (I := iX10_days) dX10_days_112 rfl ?_
            refine v_get (I := iX10_days) g_X10_9 dX10_days_113 (by decide) (ae_87 _ _) rfl ?_
            refine v_iconst (I := iX10_days) (v := 1) dX10_days_116 (by decide) ?_
            refine v_iconst (I := iX10_days) (v := 0) dX10_days_117 (by decide) ?_
            refine v_iastN (I := iX10_days) (j := 1) (by decide) (by decide) (by decide) dX10_days_118 (by decide) (fun _ => ae_88 _ _) ?_
            rw [up2_va]
            refine v_aload_n (I := iX10_days) dX10_days_119 rfl ?_
            refine v_iconst (I := iX10_days) (v := 0) dX10_days_120 (by decide) ?_
            refine v_callVv (I := iX10_days) (I' := iX10_comesNow) lk_X10_128 c_X10_comesNow dX10_days_121 (m_X10_comesNow (i := 0) rfl (by decide)) rfl rfl (by decide) (ae_87 _ _) rfl (by decide) (by decide) (Nat.le_of_ble_eq_true rfl) ?_
            rw [va_up_s, va_va]
            refine v_aload_n (I := iX10_days) dX10_days_124 rfl ?_
            refine v_get (I := iX10_days) g_X10_9 dX10_days_125 (by decide) (ae_87 _ _) rfl ?_
            refine v_iconst (I := iX10_days) (v := 5) dX10_days_128 (by decide) ?_
            refine v_ialdN (I := iX10_days) (j := 5) (by decide) (by decide) (by decide) dX10_days_129 (by decide) (ae_88 _ _) ?_
            exact v_iret (I := iX10_days) rfl dX10_days_130 (by unfold daysS; rw [if_pos (by grind), if_neg (by grind), hqc, ← he]; exact ⟨by rw [va_up_s]; rfl, rfl, RR_row hR (by rw [he]; exact IV_R hID), FR.va (by decide)⟩)
          · exact absurd (by rw [hk, hqx]; exact nI_le (by omega) (by omega)) c44
        | succ m ih =>
          intro k g9 σ9 y hkm hs he hk
          show VW _ _ _ _ _ _ 42 [(2, _), (0, _), (1, _)] []
          subst hs
          refine v_iload_n (I := iX10_days) dX10_days_42 rfl ?_
          refine v_iload_n (I := iX10_days) dX10_days_43 rfl ?_
          refine v_icmp_ge (I := iX10_days) (tgt := 105) dX10_days_44 (by decide) (fun c44 => ?_) (fun c44 => ?_)
          · exact absurd c44 (by rw [hk, hqx]; exact nI_ge (by omega) (by omega))
          · refine v_aload_n (I := iX10_days) dX10_days_47 rfl ?_
            refine v_get (I := iX10_days) g_X10_9 dX10_days_48 (by decide) (ae_87 _ _) rfl ?_
            refine v_bipush (I := iX10_days) (v := 13) dX10_days_51 (by decide) ?_
            refine v_dup2_11 (I := iX10_days) dX10_days_53 rfl rfl ?_
            refine v_ialdN (I := iX10_days) (j := 13) (by decide) (by decide) (by decide) dX10_days_54 (by decide) (ae_88 _ _) ?_
            rw [va_up_s]
            refine v_iconst (I := iX10_days) (v := 1) dX10_days_55 (by decide) ?_
            refine v_iadd (I := iX10_days) dX10_days_56 ?_
            refine v_iastN (I := iX10_days) (j := 13) (by decide) (by decide) (by decide) dX10_days_57 (by decide) (fun _ => ae_88 _ _) ?_
            rw [up2_va]
            refine v_aload_n (I := iX10_days) dX10_days_58 rfl ?_
            refine v_get (I := iX10_days) g_X10_9 dX10_days_59 (by decide) (ae_87 _ _) rfl ?_
            refine v_iconst (I := iX10_days) (v := 5) dX10_days_62 (by decide) ?_
            refine v_aload_n (I := iX10_days) dX10_days_63 rfl ?_
            refine v_get (I := iX10_days) g_X10_9 dX10_days_64 (by decide) (ae_87 _ _) rfl ?_
            refine v_bipush (I := iX10_days) (v := 13) dX10_days_67 (by decide) ?_
            refine v_ialdN (I := iX10_days) (j := 13) (by decide) (by decide) (by decide) dX10_days_69 (by decide) (ae_88 _ _) ?_
            rw [va_up_s, va_up_s]
            refine v_bipush (I := iX10_days) (v := 7) dX10_days_70 (by decide) ?_
            refine v_irem (I := iX10_days) dX10_days_72 (by decide) ?_
            refine v_if_ne (I := iX10_days) (tgt := 92) dX10_days_73 (by decide) (fun c73 => ?_) (fun c73 => ?_)
            · refine v_aload_n (I := iX10_days) dX10_days_92 rfl ?_
              refine v_get (I := iX10_days) g_X10_9 dX10_days_93 (by decide) (ae_87 _ _) rfl ?_
              refine v_iconst (I := iX10_days) (v := 5) dX10_days_96 (by decide) ?_
              refine v_ialdN (I := iX10_days) (j := 5) (by decide) (by decide) (by decide) dX10_days_97 (by decide) (ae_88 _ _) ?_
              rw [va_up_s]
              refine v_iastN (I := iX10_days) (j := 5) (by decide) (by decide) (by decide) dX10_days_98 (by decide) (fun _ => ae_88 _ _) ?_
              rw [up2_va]
              try rw [va_self]
              refine v_iinc (I := iX10_days) (ls1 := [(2, _), (0, _), (1, _)]) dX10_days_99 rfl rfl (by decide) rfl ?_
              refine v_goto (I := iX10_days) (tgt := 42) dX10_days_102 (by decide) ?_
              exact ih (k + 1) (g9 := gD g9) (by omega) (by first | exact gDt σ c73 (by grind) | exact gDf σ c73) he (by rw [hk]; exact nI_1 k)
            · refine v_bipush (I := iX10_days) (v := 60) dX10_days_76 (by decide) ?_
              refine v_aload_n (I := iX10_days) dX10_days_78 rfl ?_
              refine v_get (I := iX10_days) g_X10_9 dX10_days_79 (by decide) (ae_87 _ _) rfl ?_
              refine v_iconst (I := iX10_days) (v := 5) dX10_days_82 (by decide) ?_
              refine v_ialdN (I := iX10_days) (j := 5) (by decide) (by decide) (by decide) dX10_days_83 (by decide) (ae_88 _ _) ?_
              rw [va_up_s, va_up_o _ _ (by decide)]
              refine v_iconst (I := iX10_days) (v := 1) dX10_days_84 (by decide) ?_
              refine v_iadd (I := iX10_days) dX10_days_85 ?_
              refine v_min (I := iX10_days) lm_X10_70 dX10_days_86 (by decide) (Nat.le_of_ble_eq_true rfl) ?_
              refine v_goto (I := iX10_days) (tgt := 98) dX10_days_89 (by decide) ?_
              refine v_iastN (I := iX10_days) (j := 5) (by decide) (by decide) (by decide) dX10_days_98 (by decide) (fun _ => ae_88 _ _) ?_
              rw [up2_va]
              try rw [va_self]
              refine v_iinc (I := iX10_days) (ls1 := [(2, _), (0, _), (1, _)]) dX10_days_99 rfl rfl (by decide) rfl ?_
              refine v_goto (I := iX10_days) (tgt := 42) dX10_days_102 (by decide) ?_
              exact ih (k + 1) (g9 := gD g9) (by omega) (by first | exact gDt σ c73 (by grind) | exact gDf σ c73) he (by rw [hk]; exact nI_1 k)
      exact key q 0 (by omega) (by rw [← hR.1, va_self]) rfl rfl
    · refine v_aload_n (I := iX10_days) dX10_days_32 rfl ?_
      refine v_ldcw (I := iX10_days) k_X10_260 dX10_days_33 ?_
      refine v_callVi (I := iX10_days) (I' := iX10_finding) lk_X10_92 c_X10_finding dX10_days_36 (m_X10_findE (e := 3) (by decide) (by decide)) rfl rfl (by decide) (ae_87 _ _) rfl (by decide) (by decide) (Nat.le_of_ble_eq_true rfl) ?_
      exact v_iret (I := iX10_days) rfl dX10_days_39 (by unfold daysS; rw [if_pos (by grind), if_pos (by grind)]; exact ⟨rfl, rfl, RR_err hR, FR.up (by decide)⟩)
  · refine v_aload_n (I := iX10_days) dX10_days_10 rfl ?_
    refine v_ldc (I := iX10_days) k_X10_91 dX10_days_11 ?_
    refine v_callVi (I := iX10_days) (I' := iX10_finding) lk_X10_92 c_X10_finding dX10_days_13 (m_X10_findE (e := 1) (by decide) (by decide)) rfl rfl (by decide) (ae_87 _ _) rfl (by decide) (by decide) (Nat.le_of_ble_eq_true rfl) ?_
    exact v_iret (I := iX10_days) rfl dX10_days_16 (by unfold daysS; rw [if_neg (by grind)]; exact ⟨rfl, rfl, RR_err hR, FR.up (by decide)⟩)
