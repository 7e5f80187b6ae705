set_option maxRecDepth 100000 in
set_option maxHeartbeats 4000000 in
theorem m_X9_copy {G : fGm} {σ : fSt} {τ : fLt} {p q n : Nat} (hp : p < 105) (hq : q < 105) (ha : ∀ f g, aent p f g = aI n f) (hb : ∀ f g, aent q f g = aI n f) (hn : n < 2 ^ 31) : MS G iX9_copy 1 [.ref p, .ref q] σ τ (rT none (va_up σ q (σ p)) τ) := by
  refine ms_of (by decide +kernel) (Nat.le_of_ble_eq_true rfl) ?_
  show VW _ _ _ _ _ _ 0 [(0, _), (1, _)] []
  refine v_aload_n (I := iX9_copy) dX9_copy_0 rfl ?_
  refine v_iconst (I := iX9_copy) (v := 0) dX9_copy_1 (by decide) ?_
  refine v_aload_n (I := iX9_copy) dX9_copy_2 rfl ?_
  refine v_iconst (I := iX9_copy) (v := 0) dX9_copy_3 (by decide) ?_
  refine v_aload_n (I := iX9_copy) dX9_copy_4 rfl ?_
  refine v_alenI (I := iX9_copy) dX9_copy_5 hp (ha _ _) ?_
  refine v_aload_n (I := iX9_copy) dX9_copy_6 rfl ?_
  refine v_alenI (I := iX9_copy) dX9_copy_7 hq (hb _ _) ?_
  refine v_min (I := iX9_copy) lm_X9_230 dX9_copy_8 (by decide) (Nat.le_of_ble_eq_true rfl) ?_
  rw [show (if nI n < nI n then nI n else nI n) = nI n by grind]
  refine v_copy (I := iX9_copy) lm_X9_277 dX9_copy_11 hp hq ha hb hn (by decide) (Nat.le_of_ble_eq_true rfl) ?_
  exact v_vret (I := iX9_copy) rfl dX9_copy_14 ⟨by first | rfl | (simp only [*]; done) | (simp [*]; done), rfl, rfl⟩
/-- how world w came by world w2's row -/
def Bec (w w2 : Nat) (σ σ' : fSt) : Prop := (∀ g, V w2 σ g → V w σ' g) ∧ FrW w σ σ'
theorem loc_cov : ∀ i, i < 171 → (loc i).1 = 1 ∨ (loc i).1 = 3 ∨ (loc i).1 = 4 ∨ (loc i).1 = 5 ∨ (loc i).1 = 6 ∨ (loc i).1 = 7 ∨ (loc i).1 = 9 ∨ (loc i).1 = 10 ∨ (loc i).1 = 11 ∨ (loc i).1 = 18 ∨ (loc i).1 = 19 ∨ loc i = (2, 5) ∨ loc i = (8, 3) ∨ loc i = (0, 7) ∨ loc i = (0, 8) := by decide +kernel
theorem V_become {w w2 : Nat} {σ σ' : fSt} {g : gS} (h : V w2 σ g) (hc : ∀ c, c = 1 ∨ c = 3 ∨ c = 4 ∨ c = 5 ∨ c = 6 ∨ c = 7 ∨ c = 9 ∨ c = 10 ∨ c = 11 ∨ c = 13 ∨ c = 16 ∨ c = 18 ∨ c = 19 → σ' (wc w c) = σ (wc w2 c)) (h2 : σ' (wc w 2) 5 = σ (wc w2 2) 5) (h8 : σ' (wc w 8) 3 = σ (wc w2 8) 3) (h7 : σ' (wc w 0) 7 = σ (wc w2 0) 7) (h88 : σ' (wc w 0) 8 = σ (wc w2 0) 8) (h12 : σ' (wc w 12) 1 = σ (wc w2 12) 1) (h15 : σ' (wc w 15) 1 = σ (wc w2 15) 1) : V w σ' g := by
  obtain ⟨a1, ⟨a2, a3⟩, ⟨a4, a5⟩⟩ := h
  refine ⟨fun i hi => ?_, ⟨h12.trans a2, fun j hj => ?_⟩, ⟨h15.trans a4, fun j hj => ?_⟩⟩
  · have := a1 i hi
    rcases loc_cov i hi with e | e | e | e | e | e | e | e | e | e | e | e | e | e | e
    · rw [e] at this ⊢; rw [hc _ (by simp)]; exact this
    · rw [e] at this ⊢; rw [hc _ (by simp)]; exact this
    · rw [e] at this ⊢; rw [hc _ (by simp)]; exact this
    · rw [e] at this ⊢; rw [hc _ (by simp)]; exact this
    · rw [e] at this ⊢; rw [hc _ (by simp)]; exact this
    · rw [e] at this ⊢; rw [hc _ (by simp)]; exact this
    · rw [e] at this ⊢; rw [hc _ (by simp)]; exact this
    · rw [e] at this ⊢; rw [hc _ (by simp)]; exact this
    · rw [e] at this ⊢; rw [hc _ (by simp)]; exact this
    · rw [e] at this ⊢; rw [hc _ (by simp)]; exact this
    · rw [e] at this ⊢; rw [hc _ (by simp)]; exact this
    · rw [e] at this ⊢; exact h2.trans this
    · rw [e] at this ⊢; exact h8.trans this
    · rw [e] at this ⊢; exact h7.trans this
    · rw [e] at this ⊢; exact h88.trans this
  · rw [show 13 + 3 * 0 = 13 from rfl, hc 13 (by simp)]; exact a3 j hj
  · rw [show 13 + 3 * 1 = 16 from rfl, hc 16 (by simp)]; exact a5 j hj
set_option maxRecDepth 100000 in
set_option maxHeartbeats 4000000 in
theorem m_X3_become_20 {G : fGm} {σ : fSt} {τ : fLt}  : MS G iX3_become 2 [.ref (wc 2 2), .ref (wc 0 2)] σ τ (rP none τ (fun σ' => (∀ c, c = 3 ∨ c = 4 ∨ c = 5 ∨ c = 6 ∨ c = 7 → σ' (wc 2 c) = σ (wc 0 c)) ∧ σ' (wc 2 2) 5 = σ (wc 0 2) 5 ∧ ∀ k, (∀ c, 2 ≤ c → c < 8 → k ≠ wc 2 c) → σ' k = σ k)) := by
  refine ms_of (by decide +kernel) (Nat.le_of_ble_eq_true rfl) ?_
  show VW _ _ _ _ _ _ 0 [(0, _), (1, _)] []
  refine v_aload_n (I := iX3_become) dX3_become_0 rfl ?_
  refine v_get (I := iX3_become) g_X3_9 dX3_become_1 (by decide) (ae_w2 (by decide) _ _) rfl ?_
  refine v_aload_n (I := iX3_become) dX3_become_4 rfl ?_
  refine v_get (I := iX3_become) g_X3_9 dX3_become_5 (by decide) (ae_w2 (by decide) _ _) rfl ?_
  refine v_callSv (I := iX3_become) (I' := iX9_copy) lk_X3_35 c_X9_copy dX3_become_8 (m_X9_copy (by decide) (by decide) (ae_w3 (by decide)) (ae_w3 (by decide)) (by decide)) rfl rfl (by decide) (by decide) (Nat.le_of_ble_eq_true rfl) ?_
  refine v_aload_n (I := iX3_become) dX3_become_11 rfl ?_
  refine v_get (I := iX3_become) g_X3_15 dX3_become_12 (by decide) (ae_w2 (by decide) _ _) rfl ?_
  refine v_aload_n (I := iX3_become) dX3_become_15 rfl ?_
  refine v_get (I := iX3_become) g_X3_15 dX3_become_16 (by decide) (ae_w2 (by decide) _ _) rfl ?_
  refine v_callSv (I := iX3_become) (I' := iX9_copy) lk_X3_35 c_X9_copy dX3_become_19 (m_X9_copy (by decide) (by decide) (ae_w4 (by decide)) (ae_w4 (by decide)) (by decide)) rfl rfl (by decide) (by decide) (Nat.le_of_ble_eq_true rfl) ?_
  refine v_aload_n (I := iX3_become) dX3_become_22 rfl ?_
  refine v_get (I := iX3_become) g_X3_18 dX3_become_23 (by decide) (ae_w2 (by decide) _ _) rfl ?_
  refine v_aload_n (I := iX3_become) dX3_become_26 rfl ?_
  refine v_get (I := iX3_become) g_X3_18 dX3_become_27 (by decide) (ae_w2 (by decide) _ _) rfl ?_
  refine v_callSv (I := iX3_become) (I' := iX9_copy) lk_X3_35 c_X9_copy dX3_become_30 (m_X9_copy (by decide) (by decide) (ae_w5 (by decide)) (ae_w5 (by decide)) (by decide)) rfl rfl (by decide) (by decide) (Nat.le_of_ble_eq_true rfl) ?_
  refine v_aload_n (I := iX3_become) dX3_become_33 rfl ?_
  refine v_get (I := iX3_become) g_X3_21 dX3_become_34 (by decide) (ae_w2 (by decide) _ _) rfl ?_
  refine v_aload_n (I := iX3_become) dX3_become_37 rfl ?_
  refine v_get (I := iX3_become) g_X3_21 dX3_become_38 (by decide) (ae_w2 (by decide) _ _) rfl ?_
  refine v_callSv (I := iX3_become) (I' := iX9_copy) lk_X3_35 c_X9_copy dX3_become_41 (m_X9_copy (by decide) (by decide) (ae_w6 (by decide)) (ae_w6 (by decide)) (by decide)) rfl rfl (by decide) (by decide) (Nat.le_of_ble_eq_true rfl) ?_
  refine v_aload_n (I := iX3_become) dX3_become_44 rfl ?_
  refine v_get (I := iX3_become) g_X3_24 dX3_become_45 (by decide) (ae_w2 (by decide) _ _) rfl ?_
  refine v_aload_n (I := iX3_become) dX3_become_48 rfl ?_
  refine v_get (I := iX3_become) g_X3_24 dX3_become_49 (by decide) (ae_w2 (by decide) _ _) rfl ?_
  refine v_callSv (I := iX3_become) (I' := iX9_copy) lk_X3_35 c_X9_copy dX3_become_52 (m_X9_copy (by decide) (by decide) (ae_w7 (by decide)) (ae_w7 (by decide)) (by decide)) rfl rfl (by decide) (by decide) (Nat.le_of_ble_eq_true rfl) ?_
  refine v_aload_n (I := iX3_become) dX3_become_55 rfl ?_
  refine v_aload_n (I := iX3_become) dX3_become_56 rfl ?_
  refine v_get (I := iX3_become) g_X3_27 dX3_become_57 (by decide) (ae_w2 (by decide) _ _) rfl ?_
  refine v_putI (I := iX3_become) p_X3_27 dX3_become_60 (by decide) (ae_w2 (by decide) _ _) (ae_w2 (by decide) _ _) rfl rfl (by simp) ?_
  exact v_vret (I := iX3_become) rfl dX3_become_63 ⟨rfl, rfl, fun c hc => by rcases hc with rfl | rfl | rfl | rfl | rfl <;> rfl, rfl, fun k hk => by simp only [up2, va_up, hk 2 (by decide) (by decide), hk 3 (by decide) (by decide), hk 4 (by decide) (by decide), hk 5 (by decide) (by decide), hk 6 (by decide) (by decide), hk 7 (by decide) (by decide), if_false]⟩
set_option maxRecDepth 100000 in
set_option maxHeartbeats 4000000 in
theorem m_X1_become_20 {G : fGm} {σ : fSt} {τ : fLt}  : MS G iX1_become 2 [.ref (wc 2 8), .ref (wc 0 8)] σ τ (rP none τ (fun σ' => (∀ c, c = 9 ∨ c = 10 ∨ c = 11 → σ' (wc 2 c) = σ (wc 0 c)) ∧ σ' (wc 2 8) 3 = σ (wc 0 8) 3 ∧ ∀ k, (∀ c, 8 ≤ c → c < 12 → k ≠ wc 2 c) → σ' k = σ k)) := by
  refine ms_of (by decide +kernel) (Nat.le_of_ble_eq_true rfl) ?_
  show VW _ _ _ _ _ _ 0 [(0, _), (1, _)] []
  refine v_aload_n (I := iX1_become) dX1_become_0 rfl ?_
  refine v_get (I := iX1_become) g_X1_9 dX1_become_1 (by decide) (ae_w8 (by decide) _ _) rfl ?_
  refine v_aload_n (I := iX1_become) dX1_become_4 rfl ?_
  refine v_get (I := iX1_become) g_X1_9 dX1_become_5 (by decide) (ae_w8 (by decide) _ _) rfl ?_
  refine v_callSv (I := iX1_become) (I' := iX9_copy) lk_X1_25 c_X9_copy dX1_become_8 (m_X9_copy (by decide) (by decide) (ae_w9 (by decide)) (ae_w9 (by decide)) (by decide)) rfl rfl (by decide) (by decide) (Nat.le_of_ble_eq_true rfl) ?_
  refine v_aload_n (I := iX1_become) dX1_become_11 rfl ?_
  refine v_get (I := iX1_become) g_X1_15 dX1_become_12 (by decide) (ae_w8 (by decide) _ _) rfl ?_
  refine v_aload_n (I := iX1_become) dX1_become_15 rfl ?_
  refine v_get (I := iX1_become) g_X1_15 dX1_become_16 (by decide) (ae_w8 (by decide) _ _) rfl ?_
  refine v_callSv (I := iX1_become) (I' := iX9_copy) lk_X1_25 c_X9_copy dX1_become_19 (m_X9_copy (by decide) (by decide) (ae_w10 (by decide)) (ae_w10 (by decide)) (by decide)) rfl rfl (by decide) (by decide) (Nat.le_of_ble_eq_true rfl) ?_
  refine v_aload_n (I := iX1_become) dX1_become_22 rfl ?_
  refine v_get (I := iX1_become) g_X1_18 dX1_become_23 (by decide) (ae_w8 (by decide) _ _) rfl ?_
  refine v_aload_n (I := iX1_become) dX1_become_26 rfl ?_
  refine v_get (I := iX1_become) g_X1_18 dX1_become_27 (by decide) (ae_w8 (by decide) _ _) rfl ?_
  refine v_callSv (I := iX1_become) (I' := iX9_copy) lk_X1_25 c_X9_copy dX1_become_30 (m_X9_copy (by decide) (by decide) (ae_w11 (by decide)) (ae_w11 (by decide)) (by decide)) rfl rfl (by decide) (by decide) (Nat.le_of_ble_eq_true rfl) ?_
  refine v_aload_n (I := iX1_become) dX1_become_33 rfl ?_
  refine v_aload_n (I := iX1_become) dX1_become_34 rfl ?_
  refine v_get (I := iX1_become) g_X1_21 dX1_become_35 (by decide) (ae_w8 (by decide) _ _) rfl ?_
  refine v_putI (I := iX1_become) p_X1_21 dX1_become_38 (by decide) (ae_w8 (by decide) _ _) (ae_w8 (by decide) _ _) rfl rfl (by simp) ?_
  exact v_vret (I := iX1_become) rfl dX1_become_41 ⟨rfl, rfl, fun c hc => by rcases hc with rfl | rfl | rfl <;> rfl, rfl, fun k hk => by simp only [up2, va_up, hk 8 (by decide) (by decide), hk 9 (by decide) (by decide), hk 10 (by decide) (by decide), hk 11 (by decide) (by decide), if_false]⟩
set_option maxRecDepth 100000 in
set_option maxHeartbeats 4000000 in
theorem m_X7_become12_20 {G : fGm} {σ : fSt} {τ : fLt}  : MS G iX7_become 2 [.ref (wc 2 12), .ref (wc 0 12)] σ τ (rP none τ (fun σ' => σ' (wc 2 13) = σ (wc 0 13) ∧ σ' (wc 2 12) 1 = σ (wc 0 12) 1 ∧ ∀ k, k ≠ wc 2 12 → k ≠ wc 2 13 → σ' k = σ k)) := by
  refine ms_of (by decide +kernel) (Nat.le_of_ble_eq_true rfl) ?_
  show VW _ _ _ _ _ _ 0 [(0, _), (1, _)] []
  refine v_aload_n (I := iX7_become) dX7_become_0 rfl ?_
  refine v_get (I := iX7_become) g_X7_9 dX7_become_1 (by decide) (ae_w12 (by decide) _ _) rfl ?_
  refine v_aload_n (I := iX7_become) dX7_become_4 rfl ?_
  refine v_get (I := iX7_become) g_X7_9 dX7_become_5 (by decide) (ae_w12 (by decide) _ _) rfl ?_
  refine v_callSv (I := iX7_become) (I' := iX9_copy) lk_X7_22 c_X9_copy dX7_become_8 (m_X9_copy (by decide) (by decide) (ae_w13 (by decide)) (ae_w13 (by decide)) (by decide)) rfl rfl (by decide) (by decide) (Nat.le_of_ble_eq_true rfl) ?_
  refine v_aload_n (I := iX7_become) dX7_become_11 rfl ?_
  refine v_aload_n (I := iX7_become) dX7_become_12 rfl ?_
  refine v_get (I := iX7_become) g_X7_15 dX7_become_13 (by decide) (ae_w12 (by decide) _ _) rfl ?_
  refine v_putI (I := iX7_become) p_X7_15 dX7_become_16 (by decide) (ae_w12 (by decide) _ _) (ae_w12 (by decide) _ _) rfl rfl (by simp) ?_
  exact v_vret (I := iX7_become) rfl dX7_become_19 ⟨rfl, rfl, rfl, rfl, fun k k1 k2 => by simp only [up2, va_up, k1, k2, if_false]⟩
set_option maxRecDepth 100000 in
set_option maxHeartbeats 4000000 in
theorem m_X7_become15_20 {G : fGm} {σ : fSt} {τ : fLt}  : MS G iX7_become 2 [.ref (wc 2 15), .ref (wc 0 15)] σ τ (rP none τ (fun σ' => σ' (wc 2 16) = σ (wc 0 16) ∧ σ' (wc 2 15) 1 = σ (wc 0 15) 1 ∧ ∀ k, k ≠ wc 2 15 → k ≠ wc 2 16 → σ' k = σ k)) := by
  refine ms_of (by decide +kernel) (Nat.le_of_ble_eq_true rfl) ?_
  show VW _ _ _ _ _ _ 0 [(0, _), (1, _)] []
  refine v_aload_n (I := iX7_become) dX7_become_0 rfl ?_
  refine v_get (I := iX7_become) g_X7_9 dX7_become_1 (by decide) (ae_w15 (by decide) _ _) rfl ?_
  refine v_aload_n (I := iX7_become) dX7_become_4 rfl ?_
  refine v_get (I := iX7_become) g_X7_9 dX7_become_5 (by decide) (ae_w15 (by decide) _ _) rfl ?_
  refine v_callSv (I := iX7_become) (I' := iX9_copy) lk_X7_22 c_X9_copy dX7_become_8 (m_X9_copy (by decide) (by decide) (ae_w16 (by decide)) (ae_w16 (by decide)) (by decide)) rfl rfl (by decide) (by decide) (Nat.le_of_ble_eq_true rfl) ?_
  refine v_aload_n (I := iX7_become) dX7_become_11 rfl ?_
  refine v_aload_n (I := iX7_become) dX7_become_12 rfl ?_
  refine v_get (I := iX7_become) g_X7_15 dX7_become_13 (by decide) (ae_w15 (by decide) _ _) rfl ?_
  refine v_putI (I := iX7_become) p_X7_15 dX7_become_16 (by decide) (ae_w15 (by decide) _ _) (ae_w15 (by decide) _ _) rfl rfl (by simp) ?_
  exact v_vret (I := iX7_become) rfl dX7_become_19 ⟨rfl, rfl, rfl, rfl, fun k k1 k2 => by simp only [up2, va_up, k1, k2, if_false]⟩
theorem bec_fin_20 {σ s19 s30 s41 s52 : fSt}
    (h19 : (∀ c, c = 3 ∨ c = 4 ∨ c = 5 ∨ c = 6 ∨ c = 7 → s19 (wc 2 c) = (va_up σ (wc 2 1) (σ (wc 0 1))) (wc 0 c)) ∧ s19 (wc 2 2) 5 = (va_up σ (wc 2 1) (σ (wc 0 1))) (wc 0 2) 5 ∧ ∀ k, (∀ c, 2 ≤ c → c < 8 → k ≠ wc 2 c) → s19 k = (va_up σ (wc 2 1) (σ (wc 0 1))) k)
    (h30 : (∀ c, c = 9 ∨ c = 10 ∨ c = 11 → s30 (wc 2 c) = s19 (wc 0 c)) ∧ s30 (wc 2 8) 3 = s19 (wc 0 8) 3 ∧ ∀ k, (∀ c, 8 ≤ c → c < 12 → k ≠ wc 2 c) → s30 k = s19 k)
    (h41 : s41 (wc 2 13) = s30 (wc 0 13) ∧ s41 (wc 2 12) 1 = s30 (wc 0 12) 1 ∧ ∀ k, k ≠ wc 2 12 → k ≠ wc 2 13 → s41 k = s30 k)
    (h52 : s52 (wc 2 16) = s41 (wc 0 16) ∧ s52 (wc 2 15) 1 = s41 (wc 0 15) 1 ∧ ∀ k, k ≠ wc 2 15 → k ≠ wc 2 16 → s52 k = s41 k) :
    Bec 2 0 σ (up2 (up2 (va_up (va_up s52 (wc 2 18) (s52 (wc 0 18))) (wc 2 19) (va_up s52 (wc 2 18) (s52 (wc 0 18)) (wc 0 19))) (wc 2 0) 7 (va_up (va_up s52 (wc 2 18) (s52 (wc 0 18))) (wc 2 19) (va_up s52 (wc 2 18) (s52 (wc 0 18)) (wc 0 19)) (wc 0 0) 7)) (wc 2 0) 8 (up2 (va_up (va_up s52 (wc 2 18) (s52 (wc 0 18))) (wc 2 19) (va_up s52 (wc 2 18) (s52 (wc 0 18)) (wc 0 19))) (wc 2 0) 7 (va_up (va_up s52 (wc 2 18) (s52 (wc 0 18))) (wc 2 19) (va_up s52 (wc 2 18) (s52 (wc 0 18)) (wc 0 19)) (wc 0 0) 7) (wc 0 0) 8)) := by
  obtain ⟨a1, a2, a3⟩ := h19
  obtain ⟨b1, b2, b3⟩ := h30
  obtain ⟨c1, c2, c3⟩ := h41
  obtain ⟨d1, d2, d3⟩ := h52
  have A : ∀ c, c < 22 → s19 (wc 0 c) = σ (wc 0 c) := fun c hc => (a3 _ fun c' _ h8 => by unfold wc; omega).trans (va_up_o _ _ (by unfold wc; omega))
  have Bk : ∀ c, c < 22 → s30 (wc 0 c) = σ (wc 0 c) := fun c hc => (b3 _ fun c' _ h8 => by unfold wc; omega).trans (A c hc)
  have Ck : ∀ c, c < 22 → s41 (wc 0 c) = σ (wc 0 c) := fun c hc => (c3 _ (by unfold wc; omega) (by unfold wc; omega)).trans (Bk c hc)
  have Dk : ∀ c, c < 22 → s52 (wc 0 c) = σ (wc 0 c) := fun c hc => (d3 _ (by unfold wc; omega) (by unfold wc; omega)).trans (Ck c hc)
  have e12 : ∀ c, c < 12 → 12 ≤ 12 → s52 (wc 2 c) = s30 (wc 2 c) := fun c hc _ => (d3 _ (wc_ne (by omega)) (wc_ne (by omega))).trans (c3 _ (wc_ne (by omega)) (wc_ne (by omega)))
  have e8 : ∀ c, c < 8 → s52 (wc 2 c) = s19 (wc 2 c) := fun c hc => (e12 c (by omega) (Nat.le_refl _)).trans (b3 _ fun c' h8 _ => wc_ne (by omega))
  refine ⟨fun g hg => V_become hg (fun c hc => ?_) ?_ ?_ ?_ ?_ ?_ ?_, fun k hk => ?_⟩
  · rcases hc with rfl | rfl | rfl | rfl | rfl | rfl | rfl | rfl | rfl | rfl | rfl | rfl | rfl
    · exact (e8 1 (by decide)).trans ((a3 _ fun c' h2 _ => wc_ne (by omega)).trans (va_up_s _ _ _))
    · exact (e8 3 (by decide)).trans (a1 3 (by simp))
    · exact (e8 4 (by decide)).trans (a1 4 (by simp))
    · exact (e8 5 (by decide)).trans (a1 5 (by simp))
    · exact (e8 6 (by decide)).trans (a1 6 (by simp))
    · exact (e8 7 (by decide)).trans (a1 7 (by simp))
    · exact (e12 9 (by decide) (Nat.le_refl _)).trans ((b1 9 (by simp)).trans (A 9 (by decide)))
    · exact (e12 10 (by decide) (Nat.le_refl _)).trans ((b1 10 (by simp)).trans (A 10 (by decide)))
    · exact (e12 11 (by decide) (Nat.le_refl _)).trans ((b1 11 (by simp)).trans (A 11 (by decide)))
    · exact (d3 _ (wc_ne (by decide)) (wc_ne (by decide))).trans (c1.trans (Bk 13 (by decide)))
    · exact d1.trans (Ck 16 (by decide))
    · exact Dk 18 (by decide)
    · exact Dk 19 (by decide)
  · show s52 (wc 2 2) 5 = _
    rw [e8 2 (by decide)]; exact a2
  · show s52 (wc 2 8) 3 = _
    rw [e12 8 (by decide) (Nat.le_refl _), b2, A 8 (by decide)]
  · show s52 (wc 0 0) 7 = _
    exact congrFun (Dk 0 (by decide)) 7
  · show s52 (wc 0 0) 8 = _
    exact congrFun (Dk 0 (by decide)) 8
  · show s52 (wc 2 12) 1 = _
    rw [d3 _ (wc_ne (by decide)) (wc_ne (by decide)), c2, Bk 12 (by decide)]
  · show s52 (wc 2 15) 1 = _
    rw [d2, Ck 15 (by decide)]
  · rw [up2_kf _ _ _ (hk 0 (by decide)), up2_kf _ _ _ (hk 0 (by decide)), va_up_o _ _ (hk 19 (by decide)), va_up_o _ _ (hk 18 (by decide)), d3 _ (hk 15 (by decide)) (hk 16 (by decide)), c3 _ (hk 12 (by decide)) (hk 13 (by decide)), b3 _ (fun c _ h => hk c (by omega)), a3 _ (fun c _ h => hk c (by omega)), va_up_o _ _ (hk 1 (by decide))]
set_option maxRecDepth 100000 in
set_option maxHeartbeats 8000000 in
theorem m_X8_become_20 {G : fGm} {σ : fSt} {τ : fLt} : MS G iX8_become 3 [.ref (wc 2 0), .ref (wc 0 0)] σ τ (rP none τ (Bec 2 0 σ)) := by
  refine ms_of (by decide +kernel) (Nat.le_of_ble_eq_true rfl) ?_
  show VW _ _ _ _ _ _ 0 [(0, _), (1, _)] []
  refine v_aload_n (I := iX8_become) dX8_become_0 rfl ?_
  refine v_get (I := iX8_become) g_X8_18 dX8_become_1 (by decide) (ae_w0 (by decide) _ _) rfl ?_
  refine v_aload_n (I := iX8_become) dX8_become_4 rfl ?_
  refine v_get (I := iX8_become) g_X8_18 dX8_become_5 (by decide) (ae_w0 (by decide) _ _) rfl ?_
  refine v_callSv (I := iX8_become) (I' := iX9_copy) lk_X8_78 c_X9_copy dX8_become_8 (m_X9_copy (by decide) (by decide) (ae_w1 (by decide)) (ae_w1 (by decide)) (by decide)) rfl rfl (by decide) (by decide) (Nat.le_of_ble_eq_true rfl) ?_
  refine v_aload_n (I := iX8_become) dX8_become_11 rfl ?_
  refine v_get (I := iX8_become) g_X8_26 dX8_become_12 (by decide) (ae_w0 (by decide) _ _) rfl ?_
  refine v_aload_n (I := iX8_become) dX8_become_15 rfl ?_
  refine v_get (I := iX8_become) g_X8_26 dX8_become_16 (by decide) (ae_w0 (by decide) _ _) rfl ?_
  refine v_callVvP (I := iX8_become) (I' := iX3_become) lk_X8_82 c_X3_become dX8_become_19 (m_X3_become_20) rfl rfl (by decide) (ae_w2 (by decide) _ _) rfl (by decide) (by decide) (Nat.le_of_ble_eq_true rfl) (fun s19 h19 => ?_)
  refine v_aload_n (I := iX8_become) dX8_become_22 rfl ?_
  refine v_get (I := iX8_become) g_X8_33 dX8_become_23 (by decide) (ae_w0 (by decide) _ _) rfl ?_
  refine v_aload_n (I := iX8_become) dX8_become_26 rfl ?_
  refine v_get (I := iX8_become) g_X8_33 dX8_become_27 (by decide) (ae_w0 (by decide) _ _) rfl ?_
  refine v_callVvP (I := iX8_become) (I' := iX1_become) lk_X8_86 c_X1_become dX8_become_30 (m_X1_become_20) rfl rfl (by decide) (ae_w8 (by decide) _ _) rfl (by decide) (by decide) (Nat.le_of_ble_eq_true rfl) (fun s30 h30 => ?_)
  refine v_aload_n (I := iX8_become) dX8_become_33 rfl ?_
  refine v_get (I := iX8_become) g_X8_40 dX8_become_34 (by decide) (ae_w0 (by decide) _ _) rfl ?_
  refine v_aload_n (I := iX8_become) dX8_become_37 rfl ?_
  refine v_get (I := iX8_become) g_X8_40 dX8_become_38 (by decide) (ae_w0 (by decide) _ _) rfl ?_
  refine v_callVvP (I := iX8_become) (I' := iX7_become) lk_X8_89 c_X7_become dX8_become_41 (m_X7_become12_20) rfl rfl (by decide) (ae_w12 (by decide) _ _) rfl (by decide) (by decide) (Nat.le_of_ble_eq_true rfl) (fun s41 h41 => ?_)
  refine v_aload_n (I := iX8_become) dX8_become_44 rfl ?_
  refine v_get (I := iX8_become) g_X8_44 dX8_become_45 (by decide) (ae_w0 (by decide) _ _) rfl ?_
  refine v_aload_n (I := iX8_become) dX8_become_48 rfl ?_
  refine v_get (I := iX8_become) g_X8_44 dX8_become_49 (by decide) (ae_w0 (by decide) _ _) rfl ?_
  refine v_callVvP (I := iX8_become) (I' := iX7_become) lk_X8_89 c_X7_become dX8_become_52 (m_X7_become15_20) rfl rfl (by decide) (ae_w15 (by decide) _ _) rfl (by decide) (by decide) (Nat.le_of_ble_eq_true rfl) (fun s52 h52 => ?_)
  refine v_aload_n (I := iX8_become) dX8_become_55 rfl ?_
  refine v_get (I := iX8_become) g_X8_47 dX8_become_56 (by decide) (ae_w0 (by decide) _ _) rfl ?_
  refine v_aload_n (I := iX8_become) dX8_become_59 rfl ?_
  refine v_get (I := iX8_become) g_X8_47 dX8_become_60 (by decide) (ae_w0 (by decide) _ _) rfl ?_
  refine v_callSv (I := iX8_become) (I' := iX9_copy) lk_X8_78 c_X9_copy dX8_become_63 (m_X9_copy (by decide) (by decide) (ae_w18 (by decide)) (ae_w18 (by decide)) (by decide)) rfl rfl (by decide) (by decide) (Nat.le_of_ble_eq_true rfl) ?_
  refine v_aload_n (I := iX8_become) dX8_become_66 rfl ?_
  refine v_get (I := iX8_become) g_X8_50 dX8_become_67 (by decide) (ae_w0 (by decide) _ _) rfl ?_
  refine v_aload_n (I := iX8_become) dX8_become_70 rfl ?_
  refine v_get (I := iX8_become) g_X8_50 dX8_become_71 (by decide) (ae_w0 (by decide) _ _) rfl ?_
  refine v_callSv (I := iX8_become) (I' := iX9_copy) lk_X8_78 c_X9_copy dX8_become_74 (m_X9_copy (by decide) (by decide) (ae_w19 (by decide)) (ae_w19 (by decide)) (by decide)) rfl rfl (by decide) (by decide) (Nat.le_of_ble_eq_true rfl) ?_
  refine v_aload_n (I := iX8_become) dX8_become_77 rfl ?_
  refine v_aload_n (I := iX8_become) dX8_become_78 rfl ?_
  refine v_get (I := iX8_become) g_X8_53 dX8_become_79 (by decide) (ae_w0 (by decide) _ _) rfl ?_
  refine v_putI (I := iX8_become) p_X8_53 dX8_become_82 (by decide) (ae_w0 (by decide) _ _) (ae_w0 (by decide) _ _) rfl rfl (by simp) ?_
  refine v_aload_n (I := iX8_become) dX8_become_85 rfl ?_
  refine v_aload_n (I := iX8_become) dX8_become_86 rfl ?_
  refine v_get (I := iX8_become) g_X8_57 dX8_become_87 (by decide) (ae_w0 (by decide) _ _) rfl ?_
  refine v_putI (I := iX8_become) p_X8_57 dX8_become_90 (by decide) (ae_w0 (by decide) _ _) (ae_w0 (by decide) _ _) rfl rfl (by simp) ?_
  exact v_vret (I := iX8_become) rfl dX8_become_93 ⟨rfl, rfl, bec_fin_20 h19 h30 h41 h52⟩
set_option maxRecDepth 100000 in
set_option maxHeartbeats 4000000 in
theorem m_X3_become_10 {G : fGm} {σ : fSt} {τ : fLt}  : MS G iX3_become 2 [.ref (wc 1 2), .ref (wc 0 2)] σ τ (rP none τ (fun σ' => (∀ c, c = 3 ∨ c = 4 ∨ c = 5 ∨ c = 6 ∨ c = 7 → σ' (wc 1 c) = σ (wc 0 c)) ∧ σ' (wc 1 2) 5 = σ (wc 0 2) 5 ∧ ∀ k, (∀ c, 2 ≤ c → c < 8 → k ≠ wc 1 c) → σ' k = σ k)) := by
  refine ms_of (by decide +kernel) (Nat.le_of_ble_eq_true rfl) ?_
  show VW _ _ _ _ _ _ 0 [(0, _), (1, _)] []
  refine v_aload_n (I := iX3_become) dX3_become_0 rfl ?_
  refine v_get (I := iX3_become) g_X3_9 dX3_become_1 (by decide) (ae_w2 (by decide) _ _) rfl ?_
  refine v_aload_n (I := iX3_become) dX3_become_4 rfl ?_
  refine v_get (I := iX3_become) g_X3_9 dX3_become_5 (by decide) (ae_w2 (by decide) _ _) rfl ?_
  refine v_callSv (I := iX3_become) (I' := iX9_copy) lk_X3_35 c_X9_copy dX3_become_8 (m_X9_copy (by decide) (by decide) (ae_w3 (by decide)) (ae_w3 (by decide)) (by decide)) rfl rfl (by decide) (by decide) (Nat.le_of_ble_eq_true rfl) ?_
  refine v_aload_n (I := iX3_become) dX3_become_11 rfl ?_
  refine v_get (I := iX3_become) g_X3_15 dX3_become_12 (by decide) (ae_w2 (by decide) _ _) rfl ?_
  refine v_aload_n (I := iX3_become) dX3_become_15 rfl ?_
  refine v_get (I := iX3_become) g_X3_15 dX3_become_16 (by decide) (ae_w2 (by decide) _ _) rfl ?_
  refine v_callSv (I := iX3_become) (I' := iX9_copy) lk_X3_35 c_X9_copy dX3_become_19 (m_X9_copy (by decide) (by decide) (ae_w4 (by decide)) (ae_w4 (by decide)) (by decide)) rfl rfl (by decide) (by decide) (Nat.le_of_ble_eq_true rfl) ?_
  refine v_aload_n (I := iX3_become) dX3_become_22 rfl ?_
  refine v_get (I := iX3_become) g_X3_18 dX3_become_23 (by decide) (ae_w2 (by decide) _ _) rfl ?_
  refine v_aload_n (I := iX3_become) dX3_become_26 rfl ?_
  refine v_get (I := iX3_become) g_X3_18 dX3_become_27 (by decide) (ae_w2 (by decide) _ _) rfl ?_
  refine v_callSv (I := iX3_become) (I' := iX9_copy) lk_X3_35 c_X9_copy dX3_become_30 (m_X9_copy (by decide) (by decide) (ae_w5 (by decide)) (ae_w5 (by decide)) (by decide)) rfl rfl (by decide) (by decide) (Nat.le_of_ble_eq_true rfl) ?_
  refine v_aload_n (I := iX3_become) dX3_become_33 rfl ?_
  refine v_get (I := iX3_become) g_X3_21 dX3_become_34 (by decide) (ae_w2 (by decide) _ _) rfl ?_
  refine v_aload_n (I := iX3_become) dX3_become_37 rfl ?_
  refine v_get (I := iX3_become) g_X3_21 dX3_become_38 (by decide) (ae_w2 (by decide) _ _) rfl ?_
  refine v_callSv (I := iX3_become) (I' := iX9_copy) lk_X3_35 c_X9_copy dX3_become_41 (m_X9_copy (by decide) (by decide) (ae_w6 (by decide)) (ae_w6 (by decide)) (by decide)) rfl rfl (by decide) (by decide) (Nat.le_of_ble_eq_true rfl) ?_
  refine v_aload_n (I := iX3_become) dX3_become_44 rfl ?_
  refine v_get (I := iX3_become) g_X3_24 dX3_become_45 (by decide) (ae_w2 (by decide) _ _) rfl ?_
  refine v_aload_n (I := iX3_become) dX3_become_48 rfl ?_
  refine v_get (I := iX3_become) g_X3_24 dX3_become_49 (by decide) (ae_w2 (by decide) _ _) rfl ?_
  refine v_callSv (I := iX3_become) (I' := iX9_copy) lk_X3_35 c_X9_copy dX3_become_52 (m_X9_copy (by decide) (by decide) (ae_w7 (by decide)) (ae_w7 (by decide)) (by decide)) rfl rfl (by decide) (by decide) (Nat.le_of_ble_eq_true rfl) ?_
  refine v_aload_n (I := iX3_become) dX3_become_55 rfl ?_
  refine v_aload_n (I := iX3_become) dX3_become_56 rfl ?_
  refine v_get (I := iX3_become) g_X3_27 dX3_become_57 (by decide) (ae_w2 (by decide) _ _) rfl ?_
  refine v_putI (I := iX3_become) p_X3_27 dX3_become_60 (by decide) (ae_w2 (by decide) _ _) (ae_w2 (by decide) _ _) rfl rfl (by simp) ?_
  exact v_vret (I := iX3_become) rfl dX3_become_63 ⟨rfl, rfl, fun c hc => by rcases hc with rfl | rfl | rfl | rfl | rfl <;> rfl, rfl, fun k hk => by simp only [up2, va_up, hk 2 (by decide) (by decide), hk 3 (by decide) (by decide), hk 4 (by decide) (by decide), hk 5 (by decide) (by decide), hk 6 (by decide) (by decide), hk 7 (by decide) (by decide), if_false]⟩
set_option maxRecDepth 100000 in
set_option maxHeartbeats 4000000 in
theorem m_X1_become_10 {G : fGm} {σ : fSt} {τ : fLt}  : MS G iX1_become 2 [.ref (wc 1 8), .ref (wc 0 8)] σ τ (rP none τ (fun σ' => (∀ c, c = 9 ∨ c = 10 ∨ c = 11 → σ' (wc 1 c) = σ (wc 0 c)) ∧ σ' (wc 1 8) 3 = σ (wc 0 8) 3 ∧ ∀ k, (∀ c, 8 ≤ c → c < 12 → k ≠ wc 1 c) → σ' k = σ k)) := by
  refine ms_of (by decide +kernel) (Nat.le_of_ble_eq_true rfl) ?_
  show VW _ _ _ _ _ _ 0 [(0, _), (1, _)] []
  refine v_aload_n (I := iX1_become) dX1_become_0 rfl ?_
  refine v_get (I := iX1_become) g_X1_9 dX1_become_1 (by decide) (ae_w8 (by decide) _ _) rfl ?_
  refine v_aload_n (I := iX1_become) dX1_become_4 rfl ?_
  refine v_get (I := iX1_become) g_X1_9 dX1_become_5 (by decide) (ae_w8 (by decide) _ _) rfl ?_
  refine v_callSv (I := iX1_become) (I' := iX9_copy) lk_X1_25 c_X9_copy dX1_become_8 (m_X9_copy (by decide) (by decide) (ae_w9 (by decide)) (ae_w9 (by decide)) (by decide)) rfl rfl (by decide) (by decide) (Nat.le_of_ble_eq_true rfl) ?_
  refine v_aload_n (I := iX1_become) dX1_become_11 rfl ?_
  refine v_get (I := iX1_become) g_X1_15 dX1_become_12 (by decide) (ae_w8 (by decide) _ _) rfl ?_
  refine v_aload_n (I := iX1_become) dX1_become_15 rfl ?_
  refine v_get (I := iX1_become) g_X1_15 dX1_become_16 (by decide) (ae_w8 (by decide) _ _) rfl ?_
  refine v_callSv (I := iX1_become) (I' := iX9_copy) lk_X1_25 c_X9_copy dX1_become_19 (m_X9_copy (by decide) (by decide) (ae_w10 (by decide)) (ae_w10 (by decide)) (by decide)) rfl rfl (by decide) (by decide) (Nat.le_of_ble_eq_true rfl) ?_
  refine v_aload_n (I := iX1_become) dX1_become_22 rfl ?_
  refine v_get (I := iX1_become) g_X1_18 dX1_become_23 (by decide) (ae_w8 (by decide) _ _) rfl ?_
  refine v_aload_n (I := iX1_become) dX1_become_26 rfl ?_
  refine v_get (I := iX1_become) g_X1_18 dX1_become_27 (by decide) (ae_w8 (by decide) _ _) rfl ?_
  refine v_callSv (I := iX1_become) (I' := iX9_copy) lk_X1_25 c_X9_copy dX1_become_30 (m_X9_copy (by decide) (by decide) (ae_w11 (by decide)) (ae_w11 (by decide)) (by decide)) rfl rfl (by decide) (by decide) (Nat.le_of_ble_eq_true rfl) ?_
  refine v_aload_n (I := iX1_become) dX1_become_33 rfl ?_
  refine v_aload_n (I := iX1_become) dX1_become_34 rfl ?_
  refine v_get (I := iX1_become) g_X1_21 dX1_become_35 (by decide) (ae_w8 (by decide) _ _) rfl ?_
  refine v_putI (I := iX1_become) p_X1_21 dX1_become_38 (by decide) (ae_w8 (by decide) _ _) (ae_w8 (by decide) _ _) rfl rfl (by simp) ?_
  exact v_vret (I := iX1_become) rfl dX1_become_41 ⟨rfl, rfl, fun c hc => by rcases hc with rfl | rfl | rfl <;> rfl, rfl, fun k hk => by simp only [up2, va_up, hk 8 (by decide) (by decide), hk 9 (by decide) (by decide), hk 10 (by decide) (by decide), hk 11 (by decide) (by decide), if_false]⟩
set_option maxRecDepth 100000 in
set_option maxHeartbeats 4000000 in
theorem m_X7_become12_10 {G : fGm} {σ : fSt} {τ : fLt}  : MS G iX7_become 2 [.ref (wc 1 12), .ref (wc 0 12)] σ τ (rP none τ (fun σ' => σ' (wc 1 13) = σ (wc 0 13) ∧ σ' (wc 1 12) 1 = σ (wc 0 12) 1 ∧ ∀ k, k ≠ wc 1 12 → k ≠ wc 1 13 → σ' k = σ k)) := by
  refine ms_of (by decide +kernel) (Nat.le_of_ble_eq_true rfl) ?_
  show VW _ _ _ _ _ _ 0 [(0, _), (1, _)] []
  refine v_aload_n (I := iX7_become) dX7_become_0 rfl ?_
  refine v_get (I := iX7_become) g_X7_9 dX7_become_1 (by decide) (ae_w12 (by decide) _ _) rfl ?_
  refine v_aload_n (I := iX7_become) dX7_become_4 rfl ?_
  refine v_get (I := iX7_become) g_X7_9 dX7_become_5 (by decide) (ae_w12 (by decide) _ _) rfl ?_
  refine v_callSv (I := iX7_become) (I' := iX9_copy) lk_X7_22 c_X9_copy dX7_become_8 (m_X9_copy (by decide) (by decide) (ae_w13 (by decide)) (ae_w13 (by decide)) (by decide)) rfl rfl (by decide) (by decide) (Nat.le_of_ble_eq_true rfl) ?_
  refine v_aload_n (I := iX7_become) dX7_become_11 rfl ?_
  refine v_aload_n (I := iX7_become) dX7_become_12 rfl ?_
  refine v_get (I := iX7_become) g_X7_15 dX7_become_13 (by decide) (ae_w12 (by decide) _ _) rfl ?_
  refine v_putI (I := iX7_become) p_X7_15 dX7_become_16 (by decide) (ae_w12 (by decide) _ _) (ae_w12 (by decide) _ _) rfl rfl (by simp) ?_
  exact v_vret (I := iX7_become) rfl dX7_become_19 ⟨rfl, rfl, rfl, rfl, fun k k1 k2 => by simp only [up2, va_up, k1, k2, if_false]⟩
set_option maxRecDepth 100000 in
set_option maxHeartbeats 4000000 in
theorem m_X7_become15_10 {G : fGm} {σ : fSt} {τ : fLt}  : MS G iX7_become 2 [.ref (wc 1 15), .ref (wc 0 15)] σ τ (rP none τ (fun σ' => σ' (wc 1 16) = σ (wc 0 16) ∧ σ' (wc 1 15) 1 = σ (wc 0 15) 1 ∧ ∀ k, k ≠ wc 1 15 → k ≠ wc 1 16 → σ' k = σ k)) := by
  refine ms_of (by decide +kernel) (Nat.le_of_ble_eq_true rfl) ?_
  show VW _ _ _ _ _ _ 0 [(0, _), (1, _)] []
  refine v_aload_n (I := iX7_become) dX7_become_0 rfl ?_
  refine v_get (I := iX7_become) g_X7_9 dX7_become_1 (by decide) (ae_w15 (by decide) _ _) rfl ?_
  refine v_aload_n (I := iX7_become) dX7_become_4 rfl ?_
  refine v_get (I := iX7_become) g_X7_9 dX7_become_5 (by decide) (ae_w15 (by decide) _ _) rfl ?_
  refine v_callSv (I := iX7_become) (I' := iX9_copy) lk_X7_22 c_X9_copy dX7_become_8 (m_X9_copy (by decide) (by decide) (ae_w16 (by decide)) (ae_w16 (by decide)) (by decide)) rfl rfl (by decide) (by decide) (Nat.le_of_ble_eq_true rfl) ?_
  refine v_aload_n (I := iX7_become) dX7_become_11 rfl ?_
  refine v_aload_n (I := iX7_become) dX7_become_12 rfl ?_
  refine v_get (I := iX7_become) g_X7_15 dX7_become_13 (by decide) (ae_w15 (by decide) _ _) rfl ?_
  refine v_putI (I := iX7_become) p_X7_15 dX7_become_16 (by decide) (ae_w15 (by decide) _ _) (ae_w15 (by decide) _ _) rfl rfl (by simp) ?_
  exact v_vret (I := iX7_become) rfl dX7_become_19 ⟨rfl, rfl, rfl, rfl, fun k k1 k2 => by simp only [up2, va_up, k1, k2, if_false]⟩
theorem bec_fin_10 {σ s19 s30 s41 s52 : fSt}
    (h19 : (∀ c, c = 3 ∨ c = 4 ∨ c = 5 ∨ c = 6 ∨ c = 7 → s19 (wc 1 c) = (va_up σ (wc 1 1) (σ (wc 0 1))) (wc 0 c)) ∧ s19 (wc 1 2) 5 = (va_up σ (wc 1 1) (σ (wc 0 1))) (wc 0 2) 5 ∧ ∀ k, (∀ c, 2 ≤ c → c < 8 → k ≠ wc 1 c) → s19 k = (va_up σ (wc 1 1) (σ (wc 0 1))) k)
    (h30 : (∀ c, c = 9 ∨ c = 10 ∨ c = 11 → s30 (wc 1 c) = s19 (wc 0 c)) ∧ s30 (wc 1 8) 3 = s19 (wc 0 8) 3 ∧ ∀ k, (∀ c, 8 ≤ c → c < 12 → k ≠ wc 1 c) → s30 k = s19 k)
    (h41 : s41 (wc 1 13) = s30 (wc 0 13) ∧ s41 (wc 1 12) 1 = s30 (wc 0 12) 1 ∧ ∀ k, k ≠ wc 1 12 → k ≠ wc 1 13 → s41 k = s30 k)
    (h52 : s52 (wc 1 16) = s41 (wc 0 16) ∧ s52 (wc 1 15) 1 = s41 (wc 0 15) 1 ∧ ∀ k, k ≠ wc 1 15 → k ≠ wc 1 16 → s52 k = s41 k) :
    Bec 1 0 σ (up2 (up2 (va_up (va_up s52 (wc 1 18) (s52 (wc 0 18))) (wc 1 19) (va_up s52 (wc 1 18) (s52 (wc 0 18)) (wc 0 19))) (wc 1 0) 7 (va_up (va_up s52 (wc 1 18) (s52 (wc 0 18))) (wc 1 19) (va_up s52 (wc 1 18) (s52 (wc 0 18)) (wc 0 19)) (wc 0 0) 7)) (wc 1 0) 8 (up2 (va_up (va_up s52 (wc 1 18) (s52 (wc 0 18))) (wc 1 19) (va_up s52 (wc 1 18) (s52 (wc 0 18)) (wc 0 19))) (wc 1 0) 7 (va_up (va_up s52 (wc 1 18) (s52 (wc 0 18))) (wc 1 19) (va_up s52 (wc 1 18) (s52 (wc 0 18)) (wc 0 19)) (wc 0 0) 7) (wc 0 0) 8)) := by
  obtain ⟨a1, a2, a3⟩ := h19
  obtain ⟨b1, b2, b3⟩ := h30
  obtain ⟨c1, c2, c3⟩ := h41
  obtain ⟨d1, d2, d3⟩ := h52
  have A : ∀ c, c < 22 → s19 (wc 0 c) = σ (wc 0 c) := fun c hc => (a3 _ fun c' _ h8 => by unfold wc; omega).trans (va_up_o _ _ (by unfold wc; omega))
  have Bk : ∀ c, c < 22 → s30 (wc 0 c) = σ (wc 0 c) := fun c hc => (b3 _ fun c' _ h8 => by unfold wc; omega).trans (A c hc)
  have Ck : ∀ c, c < 22 → s41 (wc 0 c) = σ (wc 0 c) := fun c hc => (c3 _ (by unfold wc; omega) (by unfold wc; omega)).trans (Bk c hc)
  have Dk : ∀ c, c < 22 → s52 (wc 0 c) = σ (wc 0 c) := fun c hc => (d3 _ (by unfold wc; omega) (by unfold wc; omega)).trans (Ck c hc)
  have e12 : ∀ c, c < 12 → 12 ≤ 12 → s52 (wc 1 c) = s30 (wc 1 c) := fun c hc _ => (d3 _ (wc_ne (by omega)) (wc_ne (by omega))).trans (c3 _ (wc_ne (by omega)) (wc_ne (by omega)))
  have e8 : ∀ c, c < 8 → s52 (wc 1 c) = s19 (wc 1 c) := fun c hc => (e12 c (by omega) (Nat.le_refl _)).trans (b3 _ fun c' h8 _ => wc_ne (by omega))
  refine ⟨fun g hg => V_become hg (fun c hc => ?_) ?_ ?_ ?_ ?_ ?_ ?_, fun k hk => ?_⟩
  · rcases hc with rfl | rfl | rfl | rfl | rfl | rfl | rfl | rfl | rfl | rfl | rfl | rfl | rfl
    · exact (e8 1 (by decide)).trans ((a3 _ fun c' h2 _ => wc_ne (by omega)).trans (va_up_s _ _ _))
    · exact (e8 3 (by decide)).trans (a1 3 (by simp))
    · exact (e8 4 (by decide)).trans (a1 4 (by simp))
    · exact (e8 5 (by decide)).trans (a1 5 (by simp))
    · exact (e8 6 (by decide)).trans (a1 6 (by simp))
    · exact (e8 7 (by decide)).trans (a1 7 (by simp))
    · exact (e12 9 (by decide) (Nat.le_refl _)).trans ((b1 9 (by simp)).trans (A 9 (by decide)))
    · exact (e12 10 (by decide) (Nat.le_refl _)).trans ((b1 10 (by simp)).trans (A 10 (by decide)))
    · exact (e12 11 (by decide) (Nat.le_refl _)).trans ((b1 11 (by simp)).trans (A 11 (by decide)))
    · exact (d3 _ (wc_ne (by decide)) (wc_ne (by decide))).trans (c1.trans (Bk 13 (by decide)))
    · exact d1.trans (Ck 16 (by decide))
    · exact Dk 18 (by decide)
    · exact Dk 19 (by decide)
  · show s52 (wc 1 2) 5 = _
    rw [e8 2 (by decide)]; exact a2
  · show s52 (wc 1 8) 3 = _
    rw [e12 8 (by decide) (Nat.le_refl _), b2, A 8 (by decide)]
  · show s52 (wc 0 0) 7 = _
    exact congrFun (Dk 0 (by decide)) 7
  · show s52 (wc 0 0) 8 = _
    exact congrFun (Dk 0 (by decide)) 8
  · show s52 (wc 1 12) 1 = _
    rw [d3 _ (wc_ne (by decide)) (wc_ne (by decide)), c2, Bk 12 (by decide)]
  · show s52 (wc 1 15) 1 = _
    rw [d2, Ck 15 (by decide)]
  · rw [up2_kf _ _ _ (hk 0 (by decide)), up2_kf _ _ _ (hk 0 (by decide)), va_up_o _ _ (hk 19 (by decide)), va_up_o _ _ (hk 18 (by decide)), d3 _ (hk 15 (by decide)) (hk 16 (by decide)), c3 _ (hk 12 (by decide)) (hk 13 (by decide)), b3 _ (fun c _ h => hk c (by omega)), a3 _ (fun c _ h => hk c (by omega)), va_up_o _ _ (hk 1 (by decide))]
set_option maxRecDepth 100000 in
set_option maxHeartbeats 8000000 in
theorem m_X8_become_10 {G : fGm} {σ : fSt} {τ : fLt} : MS G iX8_become 3 [.ref (wc 1 0), .ref (wc 0 0)] σ τ (rP none τ (Bec 1 0 σ)) := by
  refine ms_of (by decide +kernel) (Nat.le_of_ble_eq_true rfl) ?_
  show VW _ _ _ _ _ _ 0 [(0, _), (1, _)] []
  refine v_aload_n (I := iX8_become) dX8_become_0 rfl ?_
  refine v_get (I := iX8_become) g_X8_18 dX8_become_1 (by decide) (ae_w0 (by decide) _ _) rfl ?_
  refine v_aload_n (I := iX8_become) dX8_become_4 rfl ?_
  refine v_get (I := iX8_become) g_X8_18 dX8_become_5 (by decide) (ae_w0 (by decide) _ _) rfl ?_
  refine v_callSv (I := iX8_become) (I' := iX9_copy) lk_X8_78 c_X9_copy dX8_become_8 (m_X9_copy (by decide) (by decide) (ae_w1 (by decide)) (ae_w1 (by decide)) (by decide)) rfl rfl (by decide) (by decide) (Nat.le_of_ble_eq_true rfl) ?_
  refine v_aload_n (I := iX8_become) dX8_become_11 rfl ?_
  refine v_get (I := iX8_become) g_X8_26 dX8_become_12 (by decide) (ae_w0 (by decide) _ _) rfl ?_
  refine v_aload_n (I := iX8_become) dX8_become_15 rfl ?_
  refine v_get (I := iX8_become) g_X8_26 dX8_become_16 (by decide) (ae_w0 (by decide) _ _) rfl ?_
  refine v_callVvP (I := iX8_become) (I' := iX3_become) lk_X8_82 c_X3_become dX8_become_19 (m_X3_become_10) rfl rfl (by decide) (ae_w2 (by decide) _ _) rfl (by decide) (by decide) (Nat.le_of_ble_eq_true rfl) (fun s19 h19 => ?_)
  refine v_aload_n (I := iX8_become) dX8_become_22 rfl ?_
  refine v_get (I := iX8_become) g_X8_33 dX8_become_23 (by decide) (ae_w0 (by decide) _ _) rfl ?_
  refine v_aload_n (I := iX8_become) dX8_become_26 rfl ?_
  refine v_get (I := iX8_become) g_X8_33 dX8_become_27 (by decide) (ae_w0 (by decide) _ _) rfl ?_
  refine v_callVvP (I := iX8_become) (I' := iX1_become) lk_X8_86 c_X1_become dX8_become_30 (m_X1_become_10) rfl rfl (by decide) (ae_w8 (by decide) _ _) rfl (by decide) (by decide) (Nat.le_of_ble_eq_true rfl) (fun s30 h30 => ?_)
  refine v_aload_n (I := iX8_become) dX8_become_33 rfl ?_
  refine v_get (I := iX8_become) g_X8_40 dX8_become_34 (by decide) (ae_w0 (by decide) _ _) rfl ?_
  refine v_aload_n (I := iX8_become) dX8_become_37 rfl ?_
  refine v_get (I := iX8_become) g_X8_40 dX8_become_38 (by decide) (ae_w0 (by decide) _ _) rfl ?_
  refine v_callVvP (I := iX8_become) (I' := iX7_become) lk_X8_89 c_X7_become dX8_become_41 (m_X7_become12_10) rfl rfl (by decide) (ae_w12 (by decide) _ _) rfl (by decide) (by decide) (Nat.le_of_ble_eq_true rfl) (fun s41 h41 => ?_)
  refine v_aload_n (I := iX8_become) dX8_become_44 rfl ?_
  refine v_get (I := iX8_become) g_X8_44 dX8_become_45 (by decide) (ae_w0 (by decide) _ _) rfl ?_
  refine v_aload_n (I := iX8_become) dX8_become_48 rfl ?_
  refine v_get (I := iX8_become) g_X8_44 dX8_become_49 (by decide) (ae_w0 (by decide) _ _) rfl ?_
  refine v_callVvP (I := iX8_become) (I' := iX7_become) lk_X8_89 c_X7_become dX8_become_52 (m_X7_become15_10) rfl rfl (by decide) (ae_w15 (by decide) _ _) rfl (by decide) (by decide) (Nat.le_of_ble_eq_true rfl) (fun s52 h52 => ?_)
  refine v_aload_n (I := iX8_become) dX8_become_55 rfl ?_
  refine v_get (I := iX8_become) g_X8_47 dX8_become_56 (by decide) (ae_w0 (by decide) _ _) rfl ?_
  refine v_aload_n (I := iX8_become) dX8_become_59 rfl ?_
  refine v_get (I := iX8_become) g_X8_47 dX8_become_60 (by decide) (ae_w0 (by decide) _ _) rfl ?_
  refine v_callSv (I := iX8_become) (I' := iX9_copy) lk_X8_78 c_X9_copy dX8_become_63 (m_X9_copy (by decide) (by decide) (ae_w18 (by decide)) (ae_w18 (by decide)) (by decide)) rfl rfl (by decide) (by decide) (Nat.le_of_ble_eq_true rfl) ?_
  refine v_aload_n (I := iX8_become) dX8_become_66 rfl ?_
  refine v_get (I := iX8_become) g_X8_50 dX8_become_67 (by decide) (ae_w0 (by decide) _ _) rfl ?_
  refine v_aload_n (I := iX8_become) dX8_become_70 rfl ?_
  refine v_get (I := iX8_become) g_X8_50 dX8_become_71 (by decide) (ae_w0 (by decide) _ _) rfl ?_
  refine v_callSv (I := iX8_become) (I' := iX9_copy) lk_X8_78 c_X9_copy dX8_become_74 (m_X9_copy (by decide) (by decide) (ae_w19 (by decide)) (ae_w19 (by decide)) (by decide)) rfl rfl (by decide) (by decide) (Nat.le_of_ble_eq_true rfl) ?_
  refine v_aload_n (I := iX8_become) dX8_become_77 rfl ?_
  refine v_aload_n (I := iX8_become) dX8_become_78 rfl ?_
  refine v_get (I := iX8_become) g_X8_53 dX8_become_79 (by decide) (ae_w0 (by decide) _ _) rfl ?_
  refine v_putI (I := iX8_become) p_X8_53 dX8_become_82 (by decide) (ae_w0 (by decide) _ _) (ae_w0 (by decide) _ _) rfl rfl (by simp) ?_
  refine v_aload_n (I := iX8_become) dX8_become_85 rfl ?_
  refine v_aload_n (I := iX8_become) dX8_become_86 rfl ?_
  refine v_get (I := iX8_become) g_X8_57 dX8_become_87 (by decide) (ae_w0 (by decide) _ _) rfl ?_
  refine v_putI (I := iX8_become) p_X8_57 dX8_become_90 (by decide) (ae_w0 (by decide) _ _) (ae_w0 (by decide) _ _) rfl rfl (by simp) ?_
  exact v_vret (I := iX8_become) rfl dX8_become_93 ⟨rfl, rfl, bec_fin_10 h19 h30 h41 h52⟩
set_option maxRecDepth 100000 in
set_option maxHeartbeats 4000000 in
theorem m_X3_become_01 {G : fGm} {σ : fSt} {τ : fLt}  : MS G iX3_become 2 [.ref (wc 0 2), .ref (wc 1 2)] σ τ (rP none τ (fun σ' => (∀ c, c = 3 ∨ c = 4 ∨ c = 5 ∨ c = 6 ∨ c = 7 → σ' (wc 0 c) = σ (wc 1 c)) ∧ σ' (wc 0 2) 5 = σ (wc 1 2) 5 ∧ ∀ k, (∀ c, 2 ≤ c → c < 8 → k ≠ wc 0 c) → σ' k = σ k)) := by
  refine ms_of (by decide +kernel) (Nat.le_of_ble_eq_true rfl) ?_
  show VW _ _ _ _ _ _ 0 [(0, _), (1, _)] []
  refine v_aload_n (I := iX3_become) dX3_become_0 rfl ?_
  refine v_get (I := iX3_become) g_X3_9 dX3_become_1 (by decide) (ae_w2 (by decide) _ _) rfl ?_
  refine v_aload_n (I := iX3_become) dX3_become_4 rfl ?_
  refine v_get (I := iX3_become) g_X3_9 dX3_become_5 (by decide) (ae_w2 (by decide) _ _) rfl ?_
  refine v_callSv (I := iX3_become) (I' := iX9_copy) lk_X3_35 c_X9_copy dX3_become_8 (m_X9_copy (by decide) (by decide) (ae_w3 (by decide)) (ae_w3 (by decide)) (by decide)) rfl rfl (by decide) (by decide) (Nat.le_of_ble_eq_true rfl) ?_
  refine v_aload_n (I := iX3_become) dX3_become_11 rfl ?_
  refine v_get (I := iX3_become) g_X3_15 dX3_become_12 (by decide) (ae_w2 (by decide) _ _) rfl ?_
  refine v_aload_n (I := iX3_become) dX3_become_15 rfl ?_
  refine v_get (I := iX3_become) g_X3_15 dX3_become_16 (by decide) (ae_w2 (by decide) _ _) rfl ?_
  refine v_callSv (I := iX3_become) (I' := iX9_copy) lk_X3_35 c_X9_copy dX3_become_19 (m_X9_copy (by decide) (by decide) (ae_w4 (by decide)) (ae_w4 (by decide)) (by decide)) rfl rfl (by decide) (by decide) (Nat.le_of_ble_eq_true rfl) ?_
  refine v_aload_n (I := iX3_become) dX3_become_22 rfl ?_
  refine v_get (I := iX3_become) g_X3_18 dX3_become_23 (by decide) (ae_w2 (by decide) _ _) rfl ?_
  refine v_aload_n (I := iX3_become) dX3_become_26 rfl ?_
  refine v_get (I := iX3_become) g_X3_18 dX3_become_27 (by decide) (ae_w2 (by decide) _ _) rfl ?_
  refine v_callSv (I := iX3_become) (I' := iX9_copy) lk_X3_35 c_X9_copy dX3_become_30 (m_X9_copy (by decide) (by decide) (ae_w5 (by decide)) (ae_w5 (by decide)) (by decide)) rfl rfl (by decide) (by decide) (Nat.le_of_ble_eq_true rfl) ?_
  refine v_aload_n (I := iX3_become) dX3_become_33 rfl ?_
  refine v_get (I := iX3_become) g_X3_21 dX3_become_34 (by decide) (ae_w2 (by decide) _ _) rfl ?_
  refine v_aload_n (I := iX3_become) dX3_become_37 rfl ?_
  refine v_get (I := iX3_become) g_X3_21 dX3_become_38 (by decide) (ae_w2 (by decide) _ _) rfl ?_
  refine v_callSv (I := iX3_become) (I' := iX9_copy) lk_X3_35 c_X9_copy dX3_become_41 (m_X9_copy (by decide) (by decide) (ae_w6 (by decide)) (ae_w6 (by decide)) (by decide)) rfl rfl (by decide) (by decide) (Nat.le_of_ble_eq_true rfl) ?_
  refine v_aload_n (I := iX3_become) dX3_become_44 rfl ?_
  refine v_get (I := iX3_become) g_X3_24 dX3_become_45 (by decide) (ae_w2 (by decide) _ _) rfl ?_
  refine v_aload_n (I := iX3_become) dX3_become_48 rfl ?_
  refine v_get (I := iX3_become) g_X3_24 dX3_become_49 (by decide) (ae_w2 (by decide) _ _) rfl ?_
  refine v_callSv (I := iX3_become) (I' := iX9_copy) lk_X3_35 c_X9_copy dX3_become_52 (m_X9_copy (by decide) (by decide) (ae_w7 (by decide)) (ae_w7 (by decide)) (by decide)) rfl rfl (by decide) (by decide) (Nat.le_of_ble_eq_true rfl) ?_
  refine v_aload_n (I := iX3_become) dX3_become_55 rfl ?_
  refine v_aload_n (I := iX3_become) dX3_become_56 rfl ?_
  refine v_get (I := iX3_become) g_X3_27 dX3_become_57 (by decide) (ae_w2 (by decide) _ _) rfl ?_
  refine v_putI (I := iX3_become) p_X3_27 dX3_become_60 (by decide) (ae_w2 (by decide) _ _) (ae_w2 (by decide) _ _) rfl rfl (by simp) ?_
  exact v_vret (I := iX3_become) rfl dX3_become_63 ⟨rfl, rfl, fun c hc => by rcases hc with rfl | rfl | rfl | rfl | rfl <;> rfl, rfl, fun k hk => by simp only [up2, va_up, hk 2 (by decide) (by decide), hk 3 (by decide) (by decide), hk 4 (by decide) (by decide), hk 5 (by decide) (by decide), hk 6 (by decide) (by decide), hk 7 (by decide) (by decide), if_false]⟩
set_option maxRecDepth 100000 in
set_option maxHeartbeats 4000000 in
theorem m_X1_become_01 {G : fGm} {σ : fSt} {τ : fLt}  : MS G iX1_become 2 [.ref (wc 0 8), .ref (wc 1 8)] σ τ (rP none τ (fun σ' => (∀ c, c = 9 ∨ c = 10 ∨ c = 11 → σ' (wc 0 c) = σ (wc 1 c)) ∧ σ' (wc 0 8) 3 = σ (wc 1 8) 3 ∧ ∀ k, (∀ c, 8 ≤ c → c < 12 → k ≠ wc 0 c) → σ' k = σ k)) := by
  refine ms_of (by decide +kernel) (Nat.le_of_ble_eq_true rfl) ?_
  show VW _ _ _ _ _ _ 0 [(0, _), (1, _)] []
  refine v_aload_n (I := iX1_become) dX1_become_0 rfl ?_
  refine v_get (I := iX1_become) g_X1_9 dX1_become_1 (by decide) (ae_w8 (by decide) _ _) rfl ?_
  refine v_aload_n (I := iX1_become) dX1_become_4 rfl ?_
  refine v_get (I := iX1_become) g_X1_9 dX1_become_5 (by decide) (ae_w8 (by decide) _ _) rfl ?_
  refine v_callSv (I := iX1_become) (I' := iX9_copy) lk_X1_25 c_X9_copy dX1_become_8 (m_X9_copy (by decide) (by decide) (ae_w9 (by decide)) (ae_w9 (by decide)) (by decide)) rfl rfl (by decide) (by decide) (Nat.le_of_ble_eq_true rfl) ?_
  refine v_aload_n (I := iX1_become) dX1_become_11 rfl ?_
  refine v_get (I := iX1_become) g_X1_15 dX1_become_12 (by decide) (ae_w8 (by decide) _ _) rfl ?_
  refine v_aload_n (I := iX1_become) dX1_become_15 rfl ?_
  refine v_get (I := iX1_become) g_X1_15 dX1_become_16 (by decide) (ae_w8 (by decide) _ _) rfl ?_
  refine v_callSv (I := iX1_become) (I' := iX9_copy) lk_X1_25 c_X9_copy dX1_become_19 (m_X9_copy (by decide) (by decide) (ae_w10 (by decide)) (ae_w10 (by decide)) (by decide)) rfl rfl (by decide) (by decide) (Nat.le_of_ble_eq_true rfl) ?_
  refine v_aload_n (I := iX1_become) dX1_become_22 rfl ?_
  refine v_get (I := iX1_become) g_X1_18 dX1_become_23 (by decide) (ae_w8 (by decide) _ _) rfl ?_
  refine v_aload_n (I := iX1_become) dX1_become_26 rfl ?_
  refine v_get (I := iX1_become) g_X1_18 dX1_become_27 (by decide) (ae_w8 (by decide) _ _) rfl ?_
  refine v_callSv (I := iX1_become) (I' := iX9_copy) lk_X1_25 c_X9_copy dX1_become_30 (m_X9_copy (by decide) (by decide) (ae_w11 (by decide)) (ae_w11 (by decide)) (by decide)) rfl rfl (by decide) (by decide) (Nat.le_of_ble_eq_true rfl) ?_
  refine v_aload_n (I := iX1_become) dX1_become_33 rfl ?_
  refine v_aload_n (I := iX1_become) dX1_become_34 rfl ?_
  refine v_get (I := iX1_become) g_X1_21 dX1_become_35 (by decide) (ae_w8 (by decide) _ _) rfl ?_
  refine v_putI (I := iX1_become) p_X1_21 dX1_become_38 (by decide) (ae_w8 (by decide) _ _) (ae_w8 (by decide) _ _) rfl rfl (by simp) ?_
  exact v_vret (I := iX1_become) rfl dX1_become_41 ⟨rfl, rfl, fun c hc => by rcases hc with rfl | rfl | rfl <;> rfl, rfl, fun k hk => by simp only [up2, va_up, hk 8 (by decide) (by decide), hk 9 (by decide) (by decide), hk 10 (by decide) (by decide), hk 11 (by decide) (by decide), if_false]⟩
set_option maxRecDepth 100000 in
set_option maxHeartbeats 4000000 in
theorem m_X7_become12_01 {G : fGm} {σ : fSt} {τ : fLt}  : MS G iX7_become 2 [.ref (wc 0 12), .ref (wc 1 12)] σ τ (rP none τ (fun σ' => σ' (wc 0 13) = σ (wc 1 13) ∧ σ' (wc 0 12) 1 = σ (wc 1 12) 1 ∧ ∀ k, k ≠ wc 0 12 → k ≠ wc 0 13 → σ' k = σ k)) := by
  refine ms_of (by decide +kernel) (Nat.le_of_ble_eq_true rfl) ?_
  show VW _ _ _ _ _ _ 0 [(0, _), (1, _)] []
  refine v_aload_n (I := iX7_become) dX7_become_0 rfl ?_
  refine v_get (I := iX7_become) g_X7_9 dX7_become_1 (by decide) (ae_w12 (by decide) _ _) rfl ?_
  refine v_aload_n (I := iX7_become) dX7_become_4 rfl ?_
  refine v_get (I := iX7_become) g_X7_9 dX7_become_5 (by decide) (ae_w12 (by decide) _ _) rfl ?_
  refine v_callSv (I := iX7_become) (I' := iX9_copy) lk_X7_22 c_X9_copy dX7_become_8 (m_X9_copy (by decide) (by decide) (ae_w13 (by decide)) (ae_w13 (by decide)) (by decide)) rfl rfl (by decide) (by decide) (Nat.le_of_ble_eq_true rfl) ?_
  refine v_aload_n (I := iX7_become) dX7_become_11 rfl ?_
  refine v_aload_n (I := iX7_become) dX7_become_12 rfl ?_
  refine v_get (I := iX7_become) g_X7_15 dX7_become_13 (by decide) (ae_w12 (by decide) _ _) rfl ?_
  refine v_putI (I := iX7_become) p_X7_15 dX7_become_16 (by decide) (ae_w12 (by decide) _ _) (ae_w12 (by decide) _ _) rfl rfl (by simp) ?_
  exact v_vret (I := iX7_become) rfl dX7_become_19 ⟨rfl, rfl, rfl, rfl, fun k k1 k2 => by simp only [up2, va_up, k1, k2, if_false]⟩
set_option maxRecDepth 100000 in
set_option maxHeartbeats 4000000 in
theorem m_X7_become15_01 {G : fGm} {σ : fSt} {τ : fLt}  : MS G iX7_become 2 [.ref (wc 0 15), .ref (wc 1 15)] σ τ (rP none τ (fun σ' => σ' (wc 0 16) = σ (wc 1 16) ∧ σ' (wc 0 15) 1 = σ (wc 1 15) 1 ∧ ∀ k, k ≠ wc 0 15 → k ≠ wc 0 16 → σ' k = σ k)) := by
  refine ms_of (by decide +kernel) (Nat.le_of_ble_eq_true rfl) ?_
  show VW _ _ _ _ _ _ 0 [(0, _), (1, _)] []
  refine v_aload_n (I := iX7_become) dX7_become_0 rfl ?_
  refine v_get (I := iX7_become) g_X7_9 dX7_become_1 (by decide) (ae_w15 (by decide) _ _) rfl ?_
  refine v_aload_n (I := iX7_become) dX7_become_4 rfl ?_
  refine v_get (I := iX7_become) g_X7_9 dX7_become_5 (by decide) (ae_w15 (by decide) _ _) rfl ?_
  refine v_callSv (I := iX7_become) (I' := iX9_copy) lk_X7_22 c_X9_copy dX7_become_8 (m_X9_copy (by decide) (by decide) (ae_w16 (by decide)) (ae_w16 (by decide)) (by decide)) rfl rfl (by decide) (by decide) (Nat.le_of_ble_eq_true rfl) ?_
  refine v_aload_n (I := iX7_become) dX7_become_11 rfl ?_
  refine v_aload_n (I := iX7_become) dX7_become_12 rfl ?_
  refine v_get (I := iX7_become) g_X7_15 dX7_become_13 (by decide) (ae_w15 (by decide) _ _) rfl ?_
  refine v_putI (I := iX7_become) p_X7_15 dX7_become_16 (by decide) (ae_w15 (by decide) _ _) (ae_w15 (by decide) _ _) rfl rfl (by simp) ?_
  exact v_vret (I := iX7_become) rfl dX7_become_19 ⟨rfl, rfl, rfl, rfl, fun k k1 k2 => by simp only [up2, va_up, k1, k2, if_false]⟩
theorem bec_fin_01 {σ s19 s30 s41 s52 : fSt}
    (h19 : (∀ c, c = 3 ∨ c = 4 ∨ c = 5 ∨ c = 6 ∨ c = 7 → s19 (wc 0 c) = (va_up σ (wc 0 1) (σ (wc 1 1))) (wc 1 c)) ∧ s19 (wc 0 2) 5 = (va_up σ (wc 0 1) (σ (wc 1 1))) (wc 1 2) 5 ∧ ∀ k, (∀ c, 2 ≤ c → c < 8 → k ≠ wc 0 c) → s19 k = (va_up σ (wc 0 1) (σ (wc 1 1))) k)
    (h30 : (∀ c, c = 9 ∨ c = 10 ∨ c = 11 → s30 (wc 0 c) = s19 (wc 1 c)) ∧ s30 (wc 0 8) 3 = s19 (wc 1 8) 3 ∧ ∀ k, (∀ c, 8 ≤ c → c < 12 → k ≠ wc 0 c) → s30 k = s19 k)
    (h41 : s41 (wc 0 13) = s30 (wc 1 13) ∧ s41 (wc 0 12) 1 = s30 (wc 1 12) 1 ∧ ∀ k, k ≠ wc 0 12 → k ≠ wc 0 13 → s41 k = s30 k)
    (h52 : s52 (wc 0 16) = s41 (wc 1 16) ∧ s52 (wc 0 15) 1 = s41 (wc 1 15) 1 ∧ ∀ k, k ≠ wc 0 15 → k ≠ wc 0 16 → s52 k = s41 k) :
    Bec 0 1 σ (up2 (up2 (va_up (va_up s52 (wc 0 18) (s52 (wc 1 18))) (wc 0 19) (va_up s52 (wc 0 18) (s52 (wc 1 18)) (wc 1 19))) (wc 0 0) 7 (va_up (va_up s52 (wc 0 18) (s52 (wc 1 18))) (wc 0 19) (va_up s52 (wc 0 18) (s52 (wc 1 18)) (wc 1 19)) (wc 1 0) 7)) (wc 0 0) 8 (up2 (va_up (va_up s52 (wc 0 18) (s52 (wc 1 18))) (wc 0 19) (va_up s52 (wc 0 18) (s52 (wc 1 18)) (wc 1 19))) (wc 0 0) 7 (va_up (va_up s52 (wc 0 18) (s52 (wc 1 18))) (wc 0 19) (va_up s52 (wc 0 18) (s52 (wc 1 18)) (wc 1 19)) (wc 1 0) 7) (wc 1 0) 8)) := by
  obtain ⟨a1, a2, a3⟩ := h19
  obtain ⟨b1, b2, b3⟩ := h30
  obtain ⟨c1, c2, c3⟩ := h41
  obtain ⟨d1, d2, d3⟩ := h52
  have A : ∀ c, c < 22 → s19 (wc 1 c) = σ (wc 1 c) := fun c hc => (a3 _ fun c' _ h8 => by unfold wc; omega).trans (va_up_o _ _ (by unfold wc; omega))
  have Bk : ∀ c, c < 22 → s30 (wc 1 c) = σ (wc 1 c) := fun c hc => (b3 _ fun c' _ h8 => by unfold wc; omega).trans (A c hc)
  have Ck : ∀ c, c < 22 → s41 (wc 1 c) = σ (wc 1 c) := fun c hc => (c3 _ (by unfold wc; omega) (by unfold wc; omega)).trans (Bk c hc)
  have Dk : ∀ c, c < 22 → s52 (wc 1 c) = σ (wc 1 c) := fun c hc => (d3 _ (by unfold wc; omega) (by unfold wc; omega)).trans (Ck c hc)
  have e12 : ∀ c, c < 12 → 12 ≤ 12 → s52 (wc 0 c) = s30 (wc 0 c) := fun c hc _ => (d3 _ (wc_ne (by omega)) (wc_ne (by omega))).trans (c3 _ (wc_ne (by omega)) (wc_ne (by omega)))
  have e8 : ∀ c, c < 8 → s52 (wc 0 c) = s19 (wc 0 c) := fun c hc => (e12 c (by omega) (Nat.le_refl _)).trans (b3 _ fun c' h8 _ => wc_ne (by omega))
  refine ⟨fun g hg => V_become hg (fun c hc => ?_) ?_ ?_ ?_ ?_ ?_ ?_, fun k hk => ?_⟩
  · rcases hc with rfl | rfl | rfl | rfl | rfl | rfl | rfl | rfl | rfl | rfl | rfl | rfl | rfl
    · exact (e8 1 (by decide)).trans ((a3 _ fun c' h2 _ => wc_ne (by omega)).trans (va_up_s _ _ _))
    · exact (e8 3 (by decide)).trans (a1 3 (by simp))
    · exact (e8 4 (by decide)).trans (a1 4 (by simp))
    · exact (e8 5 (by decide)).trans (a1 5 (by simp))
    · exact (e8 6 (by decide)).trans (a1 6 (by simp))
    · exact (e8 7 (by decide)).trans (a1 7 (by simp))
    · exact (e12 9 (by decide) (Nat.le_refl _)).trans ((b1 9 (by simp)).trans (A 9 (by decide)))
    · exact (e12 10 (by decide) (Nat.le_refl _)).trans ((b1 10 (by simp)).trans (A 10 (by decide)))
    · exact (e12 11 (by decide) (Nat.le_refl _)).trans ((b1 11 (by simp)).trans (A 11 (by decide)))
    · exact (d3 _ (wc_ne (by decide)) (wc_ne (by decide))).trans (c1.trans (Bk 13 (by decide)))
    · exact d1.trans (Ck 16 (by decide))
    · exact Dk 18 (by decide)
    · exact Dk 19 (by decide)
  · show s52 (wc 0 2) 5 = _
    rw [e8 2 (by decide)]; exact a2
  · show s52 (wc 0 8) 3 = _
    rw [e12 8 (by decide) (Nat.le_refl _), b2, A 8 (by decide)]
  · show s52 (wc 1 0) 7 = _
    exact congrFun (Dk 0 (by decide)) 7
  · show s52 (wc 1 0) 8 = _
    exact congrFun (Dk 0 (by decide)) 8
  · show s52 (wc 0 12) 1 = _
    rw [d3 _ (wc_ne (by decide)) (wc_ne (by decide)), c2, Bk 12 (by decide)]
  · show s52 (wc 0 15) 1 = _
    rw [d2, Ck 15 (by decide)]
  · rw [up2_kf _ _ _ (hk 0 (by decide)), up2_kf _ _ _ (hk 0 (by decide)), va_up_o _ _ (hk 19 (by decide)), va_up_o _ _ (hk 18 (by decide)), d3 _ (hk 15 (by decide)) (hk 16 (by decide)), c3 _ (hk 12 (by decide)) (hk 13 (by decide)), b3 _ (fun c _ h => hk c (by omega)), a3 _ (fun c _ h => hk c (by omega)), va_up_o _ _ (hk 1 (by decide))]
set_option maxRecDepth 100000 in
set_option maxHeartbeats 8000000 in
theorem m_X8_become_01 {G : fGm} {σ : fSt} {τ : fLt} : MS G iX8_become 3 [.ref (wc 0 0), .ref (wc 1 0)] σ τ (rP none τ (Bec 0 1 σ)) := by
  refine ms_of (by decide +kernel) (Nat.le_of_ble_eq_true rfl) ?_
  show VW _ _ _ _ _ _ 0 [(0, _), (1, _)] []
  refine v_aload_n (I := iX8_become) dX8_become_0 rfl ?_
  refine v_get (I := iX8_become) g_X8_18 dX8_become_1 (by decide) (ae_w0 (by decide) _ _) rfl ?_
  refine v_aload_n (I := iX8_become) dX8_become_4 rfl ?_
  refine v_get (I := iX8_become) g_X8_18 dX8_become_5 (by decide) (ae_w0 (by decide) _ _) rfl ?_
  refine v_callSv (I := iX8_become) (I' := iX9_copy) lk_X8_78 c_X9_copy dX8_become_8 (m_X9_copy (by decide) (by decide) (ae_w1 (by decide)) (ae_w1 (by decide)) (by decide)) rfl rfl (by decide) (by decide) (Nat.le_of_ble_eq_true rfl) ?_
  refine v_aload_n (I := iX8_become) dX8_become_11 rfl ?_
  refine v_get (I := iX8_become) g_X8_26 dX8_become_12 (by decide) (ae_w0 (by decide) _ _) rfl ?_
  refine v_aload_n (I := iX8_become) dX8_become_15 rfl ?_
  refine v_get (I := iX8_become) g_X8_26 dX8_become_16 (by decide) (ae_w0 (by decide) _ _) rfl ?_
  refine v_callVvP (I := iX8_become) (I' := iX3_become) lk_X8_82 c_X3_become dX8_become_19 (m_X3_become_01) rfl rfl (by decide) (ae_w2 (by decide) _ _) rfl (by decide) (by decide) (Nat.le_of_ble_eq_true rfl) (fun s19 h19 => ?_)
  refine v_aload_n (I := iX8_become) dX8_become_22 rfl ?_
  refine v_get (I := iX8_become) g_X8_33 dX8_become_23 (by decide) (ae_w0 (by decide) _ _) rfl ?_
  refine v_aload_n (I := iX8_become) dX8_become_26 rfl ?_
  refine v_get (I := iX8_become) g_X8_33 dX8_become_27 (by decide) (ae_w0 (by decide) _ _) rfl ?_
  refine v_callVvP (I := iX8_become) (I' := iX1_become) lk_X8_86 c_X1_become dX8_become_30 (m_X1_become_01) rfl rfl (by decide) (ae_w8 (by decide) _ _) rfl (by decide) (by decide) (Nat.le_of_ble_eq_true rfl) (fun s30 h30 => ?_)
  refine v_aload_n (I := iX8_become) dX8_become_33 rfl ?_
  refine v_get (I := iX8_become) g_X8_40 dX8_become_34 (by decide) (ae_w0 (by decide) _ _) rfl ?_
  refine v_aload_n (I := iX8_become) dX8_become_37 rfl ?_
  refine v_get (I := iX8_become) g_X8_40 dX8_become_38 (by decide) (ae_w0 (by decide) _ _) rfl ?_
  refine v_callVvP (I := iX8_become) (I' := iX7_become) lk_X8_89 c_X7_become dX8_become_41 (m_X7_become12_01) rfl rfl (by decide) (ae_w12 (by decide) _ _) rfl (by decide) (by decide) (Nat.le_of_ble_eq_true rfl) (fun s41 h41 => ?_)
  refine v_aload_n (I := iX8_become) dX8_become_44 rfl ?_
  refine v_get (I := iX8_become) g_X8_44 dX8_become_45 (by decide) (ae_w0 (by decide) _ _) rfl ?_
  refine v_aload_n (I := iX8_become) dX8_become_48 rfl ?_
  refine v_get (I := iX8_become) g_X8_44 dX8_become_49 (by decide) (ae_w0 (by decide) _ _) rfl ?_
  refine v_callVvP (I := iX8_become) (I' := iX7_become) lk_X8_89 c_X7_become dX8_become_52 (m_X7_become15_01) rfl rfl (by decide) (ae_w15 (by decide) _ _) rfl (by decide) (by decide) (Nat.le_of_ble_eq_true rfl) (fun s52 h52 => ?_)
  refine v_aload_n (I := iX8_become) dX8_become_55 rfl ?_
  refine v_get (I := iX8_become) g_X8_47 dX8_become_56 (by decide) (ae_w0 (by decide) _ _) rfl ?_
  refine v_aload_n (I := iX8_become) dX8_become_59 rfl ?_
  refine v_get (I := iX8_become) g_X8_47 dX8_become_60 (by decide) (ae_w0 (by decide) _ _) rfl ?_
  refine v_callSv (I := iX8_become) (I' := iX9_copy) lk_X8_78 c_X9_copy dX8_become_63 (m_X9_copy (by decide) (by decide) (ae_w18 (by decide)) (ae_w18 (by decide)) (by decide)) rfl rfl (by decide) (by decide) (Nat.le_of_ble_eq_true rfl) ?_
  refine v_aload_n (I := iX8_become) dX8_become_66 rfl ?_
  refine v_get (I := iX8_become) g_X8_50 dX8_become_67 (by decide) (ae_w0 (by decide) _ _) rfl ?_
  refine v_aload_n (I := iX8_become) dX8_become_70 rfl ?_
  refine v_get (I := iX8_become) g_X8_50 dX8_become_71 (by decide) (ae_w0 (by decide) _ _) rfl ?_
  refine v_callSv (I := iX8_become) (I' := iX9_copy) lk_X8_78 c_X9_copy dX8_become_74 (m_X9_copy (by decide) (by decide) (ae_w19 (by decide)) (ae_w19 (by decide)) (by decide)) rfl rfl (by decide) (by decide) (Nat.le_of_ble_eq_true rfl) ?_
  refine v_aload_n (I := iX8_become) dX8_become_77 rfl ?_
  refine v_aload_n (I := iX8_become) dX8_become_78 rfl ?_
  refine v_get (I := iX8_become) g_X8_53 dX8_become_79 (by decide) (ae_w0 (by decide) _ _) rfl ?_
  refine v_putI (I := iX8_become) p_X8_53 dX8_become_82 (by decide) (ae_w0 (by decide) _ _) (ae_w0 (by decide) _ _) rfl rfl (by simp) ?_
  refine v_aload_n (I := iX8_become) dX8_become_85 rfl ?_
  refine v_aload_n (I := iX8_become) dX8_become_86 rfl ?_
  refine v_get (I := iX8_become) g_X8_57 dX8_become_87 (by decide) (ae_w0 (by decide) _ _) rfl ?_
  refine v_putI (I := iX8_become) p_X8_57 dX8_become_90 (by decide) (ae_w0 (by decide) _ _) (ae_w0 (by decide) _ _) rfl rfl (by simp) ?_
  exact v_vret (I := iX8_become) rfl dX8_become_93 ⟨rfl, rfl, bec_fin_01 h19 h30 h41 h52⟩
