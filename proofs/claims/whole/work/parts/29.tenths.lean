set_option maxRecDepth 100000 in
theorem m_X8_passTenth0 {G : fGm} {σ : fSt} {τ : fLt} {w : Nat} {g : gS} (hw : w < 3) (hV : V w σ g) (h15 : g 15 = 0) : MS G iX8_passTenth 6 [.ref (wc w 0)] σ τ (rW none τ w σ g) := by
  refine ms_of (by decide +kernel) (Nat.le_of_ble_eq_true rfl) ?_
  show VW _ _ _ _ _ _ 0 [(0, _)] []
  refine v_aload_n (I := iX8_passTenth) dX8_passTenth_0 rfl ?_
  refine v_get (I := iX8_passTenth) g_X8_33 dX8_passTenth_1 (wc_lt hw (by decide)) (ae_w0 hw _ _) rfl ?_
  refine v_get (I := iX8_passTenth) g_X8_103 dX8_passTenth_4 (wc_lt hw (by decide)) (ae_w8 hw _ _) rfl ?_
  rw [V_n15 hV]
  refine v_if_ne (I := iX8_passTenth) (tgt := 11) dX8_passTenth_7 (by decide) (fun c7 => ?_) (fun c7 => ?_)
  · exact absurd h15 c7
  · exact v_vret (I := iX8_passTenth) rfl dX8_passTenth_10 ⟨rfl, rfl, hV, FrW.rf⟩
theorem m_X8_passTenth {G : fGm} {σ : fSt} {τ : fLt} {w : Nat} {g : gS} (hw : w < 3) (hV : V w σ g) (hI : IV g) : MS G iX8_passTenth 6 [.ref (wc w 0)] σ τ (rW none τ w σ (gTenths g 1)) := by
  by_cases h15 : 0 < g 15
  · rw [gTenths_s h15]
    exact m_X8_passTenth1 hw hV hI h15
  · rw [gTenths_0 h15]
    have h0 : (0 : Int32) ≤ g 15 := (hI.1 15 (by decide)).1
    exact m_X8_passTenth0 hw hV (by grind)
theorem gTenths_1 (g : gS) (n : Nat) : gTenths g (n + 1) = gTenths (gTenths g 1) n := rfl
theorem gTenths_add (g : gS) (m n : Nat) : gTenths g (m + n) = gTenths (gTenths g m) n := by
  induction m generalizing g with
  | zero => rw [Nat.zero_add]; rfl
  | succ m ih => rw [Nat.succ_add, gTenths_1, ih, gTenths_1 g m]
set_option maxRecDepth 100000 in
set_option maxHeartbeats 4000000 in
theorem m_X8_pass {G : fGm} {σ : fSt} {τ : fLt} {w n : Nat} {g : gS} {x : Int32} (hw : w < 3) (hV : V w σ g) (hI : IV g) (hx : x = nI n) (hn : n < 1000) : MS G iX8_pass 7 [.ref (wc w 0), .int x] σ τ (rW none τ w σ (gTenths g n)) := by
  refine ms_of (by decide +kernel) (Nat.le_of_ble_eq_true rfl) ?_
  show VW _ _ _ _ _ _ 0 [(0, _), (1, _)] []
  have key : ∀ (m k : Nat) {g9 : gS} {σ9 : fSt} {y : Int32}, k + m = n → V w σ9 g9 → IV g9 → FrW w σ σ9 → gTenths g9 m = gTenths g n → y = nI k → VW G iX8_pass (rW none τ w σ (gTenths g n)) 7 σ9 τ 2 [(2, .int y), (0, .ref (wc w 0)), (1, .int x)] [] := by
    intro m
    induction m with
    | zero =>
      intro k g9 σ9 y hkm hV9 hI9 hF9 he hk
      show VW _ _ _ _ _ _ 2 [(2, _), (0, _), (1, _)] []
      refine v_iload_n (I := iX8_pass) dX8_pass_2 rfl ?_
      refine v_iload_n (I := iX8_pass) dX8_pass_3 rfl ?_
      refine v_icmp_ge (I := iX8_pass) (tgt := 17) dX8_pass_4 (by decide) (fun c4 => ?_) (fun c4 => ?_)
      · exact v_vret (I := iX8_pass) rfl dX8_pass_17 ⟨rfl, rfl, by rw [← he]; exact hV9, hF9⟩
      · exact absurd (by rw [hk, hx]; exact nI_le (by omega) (by omega)) c4
    | succ m ih =>
      intro k g9 σ9 y hkm hV9 hI9 hF9 he hk
      show VW _ _ _ _ _ _ 2 [(2, _), (0, _), (1, _)] []
      refine v_iload_n (I := iX8_pass) dX8_pass_2 rfl ?_
      refine v_iload_n (I := iX8_pass) dX8_pass_3 rfl ?_
      refine v_icmp_ge (I := iX8_pass) (tgt := 17) dX8_pass_4 (by decide) (fun c4 => ?_) (fun c4 => ?_)
      · exact absurd c4 (by rw [hk, hx]; exact nI_ge (by omega) (by omega))
      · refine v_aload_n (I := iX8_pass) dX8_pass_7 rfl ?_
        refine v_callVvP (I := iX8_pass) (I' := iX8_passTenth) lk_X8_134 c_X8_passTenth dX8_pass_8 (m_X8_passTenth hw hV9 hI9) rfl rfl (wc_lt hw (by decide)) (ae_w0 hw _ _) rfl (by decide) (by decide) (Nat.le_of_ble_eq_true rfl) (fun s8 h8 => ?_)
        refine v_iinc (I := iX8_pass) (ls1 := [(2, _), (0, _), (1, _)]) dX8_pass_11 rfl rfl (by decide) rfl ?_
        refine v_goto (I := iX8_pass) (tgt := 2) dX8_pass_14 (by decide) ?_
        exact ih (k + 1) (by omega) h8.1 (IV_tenths 1 hI9) (hF9.tr h8.2) he (by rw [hk]; exact nI_1 k)
  refine v_iconst (I := iX8_pass) (v := 0) dX8_pass_0 (by decide) ?_
  refine v_istore_n (I := iX8_pass) (ls1 := [(2, _), (0, _), (1, _)]) dX8_pass_1 (by decide) rfl ?_
  exact key n 0 (by omega) hV hI FrW.rf rfl rfl
theorem FrT.rf {σ : fSt} : FrT σ σ := fun _ _ _ _ => rfl
theorem FrT.tr {σ σ1 σ2 : fSt} (h1 : FrT σ σ1) (h2 : FrT σ1 σ2) : FrT σ σ2 := fun k a b c => (h2 k a b c).trans (h1 k a b c)
set_option maxRecDepth 100000 in
set_option maxHeartbeats 4000000 in
theorem m_X10_tenthsGo {G : fGm} {σ : fSt} {τ : fLt} {n : Nat} {x : Int32} (hI : IV (σ 88)) (hx : x = nI n) (hn : n < 1000) : MS G iX10_tenthsGo 7 [.ref 87, .int x] σ τ (rG τ σ (gTenths (σ 88) n)) := by
  refine ms_of (by decide +kernel) (Nat.le_of_ble_eq_true rfl) ?_
  show VW _ _ _ _ _ _ 0 [(0, _), (1, _)] []
  have key : ∀ (m k : Nat) {σ9 : fSt} {y : Int32}, k + m = n → IV (σ9 88) → FrT σ σ9 → gTenths (σ9 88) m = gTenths (σ 88) n → y = nI k → VW G iX10_tenthsGo (rG τ σ (gTenths (σ 88) n)) 7 σ9 τ 2 [(2, .int y), (0, .ref 87), (1, .int x)] [] := by
    intro m
    induction m with
    | zero =>
      intro k σ9 y hkm hI9 hF9 he hk
      show VW _ _ _ _ _ _ 2 [(2, _), (0, _), (1, _)] []
      refine v_iload_n (I := iX10_tenthsGo) dX10_tenthsGo_2 rfl ?_
      refine v_iload_n (I := iX10_tenthsGo) dX10_tenthsGo_3 rfl ?_
      refine v_icmp_ge (I := iX10_tenthsGo) (tgt := 27) dX10_tenthsGo_4 (by decide) (fun c4 => ?_) (fun c4 => ?_)
      · exact v_vret (I := iX10_tenthsGo) rfl dX10_tenthsGo_27 ⟨rfl, rfl, by rw [← he]; rfl, hF9⟩
      · exact absurd (by rw [hk, hx]; exact nI_le (by omega) (by omega)) c4
    | succ m ih =>
      intro k σ9 y hkm hI9 hF9 he hk
      show VW _ _ _ _ _ _ 2 [(2, _), (0, _), (1, _)] []
      refine v_iload_n (I := iX10_tenthsGo) dX10_tenthsGo_2 rfl ?_
      refine v_iload_n (I := iX10_tenthsGo) dX10_tenthsGo_3 rfl ?_
      refine v_icmp_ge (I := iX10_tenthsGo) (tgt := 27) dX10_tenthsGo_4 (by decide) (fun c4 => ?_) (fun c4 => ?_)
      · exact absurd c4 (by rw [hk, hx]; exact nI_ge (by omega) (by omega))
      · refine v_aload_n (I := iX10_tenthsGo) dX10_tenthsGo_7 rfl ?_
        refine v_get (I := iX10_tenthsGo) g_X10_9 dX10_tenthsGo_8 (by decide) (ae_87 _ _) rfl ?_
        refine v_bipush (I := iX10_tenthsGo) (v := 15) dX10_tenthsGo_11 (by decide) ?_
        refine v_ialdN (I := iX10_tenthsGo) (j := 15) (by decide) (by decide) (by decide) dX10_tenthsGo_13 (by decide) (ae_88 _ _) ?_
        refine v_if_le (I := iX10_tenthsGo) (tgt := 27) dX10_tenthsGo_14 (by decide) (fun c14 => ?_) (fun c14 => ?_)
        · rw [gTenths_0 (by grind)] at he
          exact v_vret (I := iX10_tenthsGo) rfl dX10_tenthsGo_27 ⟨rfl, rfl, he, hF9⟩
        · have c14b : 0 < σ9 88 15 := by grind
          refine v_aload_n (I := iX10_tenthsGo) dX10_tenthsGo_17 rfl ?_
          refine v_callVvP (I := iX10_tenthsGo) (I' := iX10_tenth) lk_X10_257 c_X10_tenth dX10_tenthsGo_18 (m_X10_tenth hI9 c14b) rfl rfl (by decide) (ae_87 _ _) rfl (by decide) (by decide) (Nat.le_of_ble_eq_true rfl) (fun s18 h18 => ?_)
          refine v_iinc (I := iX10_tenthsGo) (ls1 := [(2, _), (0, _), (1, _)]) dX10_tenthsGo_21 rfl rfl (by decide) rfl ?_
          refine v_goto (I := iX10_tenthsGo) (tgt := 2) dX10_tenthsGo_24 (by decide) ?_
          exact ih (k + 1) (by omega) (by rw [h18.1]; exact IV_tenth hI9 c14b) (hF9.tr h18.2) (by rw [h18.1, ← gTenths_s c14b]; exact he) (by rw [hk]; exact nI_1 k)
  refine v_iconst (I := iX10_tenthsGo) (v := 0) dX10_tenthsGo_0 (by decide) ?_
  refine v_istore_n (I := iX10_tenthsGo) (ls1 := [(2, _), (0, _), (1, _)]) dX10_tenthsGo_1 (by decide) rfl ?_
  exact key n 0 (by omega) hI FrT.rf rfl rfl
