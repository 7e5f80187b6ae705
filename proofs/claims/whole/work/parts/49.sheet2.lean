def zf (f : Nat → Int32) (q m : Nat) : Nat → Int32 := fun j => if 24 * q ≤ j ∧ j < 24 * q + m then 0 else f j
theorem zf_0 (f : Nat → Int32) (q : Nat) : zf f q 0 = f := by
  funext j
  exact if_neg (by omega)
theorem zf_s (f : Nat → Int32) (q m : Nat) : va_up (zf f q m) (24 * q + m) 0 = zf f q (m + 1) := by
  funext j
  by_cases e : j = 24 * q + m
  · subst e
    rw [va_up_s]
    exact (if_pos (by omega)).symm
  · rw [va_up_o _ _ e]
    unfold zf
    by_cases h : 24 * q ≤ j ∧ j < 24 * q + m
    · rw [if_pos h, if_pos (by omega)]
    · rw [if_neg h, if_neg (by omega)]
def sheetN (ρ : fSt) (q : Nat) (b n : Int32) : fSt := va_up (up2 (up2 ρ 101 q b) 102 q (if b = 0 then 0 else n)) 103 (zf (ρ 103) q 24)
def sheetS (ρ : fSt) (s b n : Int32) : Int32 × fSt := if (0 ≤ s ∧ s ≤ 3) ∧ (b = 0 ∨ b = 8 ∨ b = 16 ∨ b = 32) then (if b ≠ 0 ∧ n < 0 then (errV 3, errS ρ 3) else if b ≠ 0 ∧ 24 < n then (errV 1, errS ρ 1) else (1, sheetN ρ s.toNatClampNeg b n)) else (errV 1, errS ρ 1)
theorem sheetN_o {ρ : fSt} {q : Nat} {b n : Int32} (k : Nat) (h1 : k ≠ 101) (h2 : k ≠ 102) (h3 : k ≠ 103) : sheetN ρ q b n k = ρ k := by
  unfold sheetN
  rw [va_up_o _ _ h3, up2_kf _ _ _ h2, up2_kf _ _ _ h1]
theorem sheetN_1 {ρ : fSt} {q : Nat} {b n : Int32} : sheetN ρ q b n 101 = va_up (ρ 101) q b := by
  unfold sheetN
  rw [va_up_o _ _ (by decide), up2_kf _ _ _ (by decide), up2_f]
theorem sheetN_2 {ρ : fSt} {q : Nat} {b n : Int32} : sheetN ρ q b n 102 = va_up (ρ 102) q (if b = 0 then 0 else n) := by
  unfold sheetN
  rw [va_up_o _ _ (by decide), up2_f, up2_kf _ _ _ (by decide)]
theorem sheetN_3 {ρ : fSt} {q : Nat} {b n : Int32} : sheetN ρ q b n 103 = zf (ρ 103) q 24 := va_up_s _ _ _
theorem sheetN_102 {ρ : fSt} (h : OKr ρ) {q : Nat} {b n : Int32} (hn : b ≠ 0 → 0 ≤ n ∧ n ≤ 24) : ∀ s, s < 4 → 0 ≤ sheetN ρ q b n 102 s ∧ sheetN ρ q b n 102 s ≤ 24 := by
  intro s hs
  rw [sheetN_2]
  by_cases e : s = q
  · subst e
    rw [va_up_s]
    by_cases e0 : b = 0
    · rw [if_pos e0]; exact ⟨by decide, by decide⟩
    · rw [if_neg e0]; exact hn e0
  · rw [va_up_o _ _ e]; exact h.2.2.1 s hs
theorem CR_begin {σ s ρ : fSt} (h : CR σ ρ) {q : Nat} {b n : Int32} (hq : q < 4) (hn : b ≠ 0 → 0 ≤ n ∧ n ≤ 24) (h1 : s (sc q) 1 = b) (h2 : s (sc q) 2 = hld n 0 24) (h3 : ∀ j, j < 24 → s (sc q + 1) j = 0) (hf : ∀ k, k ≠ sc q → k ≠ sc q + 1 → s k = σ k) : CR s (sheetN ρ q b n) := by
  refine CR_sheet h (fun k hk => hf k (by unfold sc; omega) (by unfold sc; omega)) sheetN_o (fun s9 hs9 => ?_) (sheetN_102 h.2.2.2.2.2 hn)
  rw [sheetN_1, sheetN_2, sheetN_3]
  have h4 := CR_sh h hs9
  by_cases e : s9 = q
  · subst e
    rw [va_up_s, va_up_s]
    refine ⟨h1, fun hb => ?_, fun j hj => ?_⟩
    · rw [h2, if_neg hb]
      have := hn hb
      unfold hld
      grind
    · rw [h3 j hj]
      exact (if_pos (by omega)).symm
  · rw [va_up_o _ _ e, va_up_o _ _ e, hf (sc s9) (by unfold sc; omega) (by unfold sc; omega), hf (sc s9 + 1) (by unfold sc; omega) (by unfold sc; omega)]
    refine ⟨h4.1, h4.2.1, fun j hj => ?_⟩
    rw [h4.2.2 j hj]
    exact (if_neg (by omega)).symm
theorem RR_begin {σ s ρ : fSt} (h : RR σ ρ) {q : Nat} {b n : Int32} (hn : b ≠ 0 → 0 ≤ n ∧ n ≤ 24) (h3 : s 103 = zf (σ 103) q 24) (hf : ∀ k, k ≠ 103 → s k = up2 (up2 σ 101 q b) 102 q (if b = 0 then 0 else n) k) : RR s (sheetN ρ q b n) := by
  refine RR_sheet h (fun k a b c _ => (hf k c).trans ((up2_kf _ _ _ b).trans (up2_kf _ _ _ a))) sheetN_o ?_ ?_ ?_ (sheetN_102 h.2.2.2.2.2.2.2.2.2.2.2 hn)
  · rw [hf 101 (by decide), sheetN_1, up2_kf _ _ _ (by decide), up2_f, h.2.2.2.2.2.2.1]
  · rw [hf 102 (by decide), sheetN_2, up2_f, up2_kf _ _ _ (by decide), h.2.2.2.2.2.2.2.1]
  · rw [h3, sheetN_3, h.2.2.2.2.2.2.2.2.1]
set_option maxRecDepth 100000 in
set_option maxHeartbeats 8000000 in
theorem m_X5_begin {G : fGm} {σ : fSt} {τ : fLt} {q : Nat} {b n : Int32} (hq : q < 4) : MS G iX5_begin 2 [.ref (sc q), .int b, .int n] σ τ (rP none τ (fun s => s (sc q) 1 = b ∧ s (sc q) 2 = hld n 0 24 ∧ (∀ j, j < 24 → s (sc q + 1) j = 0) ∧ ∀ k, k ≠ sc q → k ≠ sc q + 1 → s k = σ k)) := by
  refine ms_of (by decide +kernel) (Nat.le_of_ble_eq_true rfl) ?_
  show VW _ _ _ _ _ _ 0 [(0, _), (1, _), (2, _)] []
  have key : ∀ (m k : Nat) {σ9 : fSt} {y : Int32}, k + m = 24 → (∀ j, j < k → σ9 (sc q + 1) j = 0) → (∀ k9, k9 ≠ sc q + 1 → σ9 k9 = up2 (up2 σ (sc q) 1 b) (sc q) 2 (hld n 0 24) k9) → y = nI k → VW G iX5_begin (rP none τ (fun s => s (sc q) 1 = b ∧ s (sc q) 2 = hld n 0 24 ∧ (∀ j, j < 24 → s (sc q + 1) j = 0) ∧ ∀ k, k ≠ sc q → k ≠ sc q + 1 → s k = σ k)) 2 σ9 τ 18 [(3, .int y), (0, .ref (sc q)), (1, .int b), (2, .int n)] [] := by
    intro m
    induction m with
    | zero =>
      intro k σ9 y hkm h0 hf hk
      have hkN : k = 24 := hkm
      show VW _ _ _ _ _ _ 18 [(3, _), (0, _), (1, _), (2, _)] []
      refine v_iload_n (I := iX5_begin) dX5_begin_18 rfl ?_
      refine v_aload_n (I := iX5_begin) dX5_begin_19 rfl ?_
      refine v_get (I := iX5_begin) g_X5_9 dX5_begin_20 (sc_lt hq) (ae_s0 hq _ _) rfl ?_
      refine v_alenI (I := iX5_begin) dX5_begin_23 (sc1_lt hq) (ae_s1 hq _ _) ?_
      refine v_icmp_ge (I := iX5_begin) (tgt := 40) dX5_begin_24 (by decide) (fun c24 => ?_) (fun c24 => ?_)
      · exact v_vret (I := iX5_begin) rfl dX5_begin_40 ⟨rfl, rfl, by rw [hf _ (by unfold sc; omega), up2_j _ _ (by decide), up2_s], by rw [hf _ (by unfold sc; omega), up2_s], fun j hj => h0 j (by omega), fun k a b => (hf k b).trans ((up2_kf _ _ _ a).trans (up2_kf _ _ _ a))⟩
      · exact absurd (by rw [hk, hkN]; exact Int32.le_refl _) c24
    | succ m ih =>
      intro k σ9 y hkm h0 hf hk
      subst hk
      show VW _ _ _ _ _ _ 18 [(3, _), (0, _), (1, _), (2, _)] []
      refine v_iload_n (I := iX5_begin) dX5_begin_18 rfl ?_
      refine v_aload_n (I := iX5_begin) dX5_begin_19 rfl ?_
      refine v_get (I := iX5_begin) g_X5_9 dX5_begin_20 (sc_lt hq) (ae_s0 hq _ _) rfl ?_
      refine v_alenI (I := iX5_begin) dX5_begin_23 (sc1_lt hq) (ae_s1 hq _ _) ?_
      refine v_icmp_ge (I := iX5_begin) (tgt := 40) dX5_begin_24 (by decide) (fun c24 => ?_) (fun c24 => ?_)
      · exact absurd c24 (by exact nI_ge (b := 24) (by omega) (by decide))
      · refine v_aload_n (I := iX5_begin) dX5_begin_27 rfl ?_
        refine v_get (I := iX5_begin) g_X5_9 dX5_begin_28 (sc_lt hq) (ae_s0 hq _ _) rfl ?_
        refine v_iload_n (I := iX5_begin) dX5_begin_31 rfl ?_
        refine v_iconst (I := iX5_begin) (v := 0) dX5_begin_32 (by decide) ?_
        refine v_iastN (I := iX5_begin) (j := k) rfl (by omega) (by decide) dX5_begin_33 (sc1_lt hq) (fun _ => ae_s1 hq _ _) ?_
        refine v_iinc (I := iX5_begin) (ls1 := [(3, _), (0, _), (1, _), (2, _)]) dX5_begin_34 rfl rfl (by decide) rfl ?_
        refine v_goto (I := iX5_begin) (tgt := 18) dX5_begin_37 (by decide) ?_
        exact ih (k + 1) (by omega) (fun j hj => by
          by_cases e : j = k
          · subst e; exact up2_s _ _ _ _
          · rw [up2_j _ _ e]; exact h0 j (by omega)) (fun k9 h9 => (up2_kf _ _ _ h9).trans (hf k9 h9)) (by exact nI_1 k)
  refine v_aload_n (I := iX5_begin) dX5_begin_0 rfl ?_
  refine v_iload_n (I := iX5_begin) dX5_begin_1 rfl ?_
  refine v_putI (I := iX5_begin) p_X5_15 dX5_begin_2 (sc_lt hq) (ae_s0 hq _ _) (ae_s0 hq _ _) rfl rfl (by simp) ?_
  refine v_aload_n (I := iX5_begin) dX5_begin_5 rfl ?_
  refine v_iload_n (I := iX5_begin) dX5_begin_6 rfl ?_
  refine v_iconst (I := iX5_begin) (v := 0) dX5_begin_7 (by decide) ?_
  refine v_bipush (I := iX5_begin) (v := 24) dX5_begin_8 (by decide) ?_
  refine v_callSi (I := iX5_begin) (I' := iX9_held) lk_X5_22 c_X9_held dX5_begin_10 (m_X9_held) rfl rfl (by decide) (by decide) (Nat.le_of_ble_eq_true rfl) ?_
  refine v_putI (I := iX5_begin) p_X5_19 dX5_begin_13 (sc_lt hq) (ae_s0 hq _ _) (ae_s0 hq _ _) rfl rfl (by simp) ?_
  refine v_iconst (I := iX5_begin) (v := 0) dX5_begin_16 (by decide) ?_
  refine v_istore_n (I := iX5_begin) (ls1 := [(3, _), (0, _), (1, _), (2, _)]) dX5_begin_17 (by decide) rfl ?_
  exact key 24 0 (by omega) (fun j hj => by omega) (fun k9 _ => rfl) rfl
set_option maxRecDepth 100000 in
set_option maxHeartbeats 8000000 in
theorem m_X9_sheet {G : fGm} {σ : fSt} {τ : fLt} {ρ : fSt} (hC : CR σ ρ) {s b n : Int32} : MS G iX9_sheet 4 [.ref 0, .int s, .int b, .int n] σ τ (rC τ σ (sheetS ρ s b n)) := by
  refine ms_of (by decide +kernel) (Nat.le_of_ble_eq_true rfl) ?_
  show VW _ _ _ _ _ _ 0 [(0, _), (1, _), (2, _), (3, _)] []
  by_cases hs : 0 ≤ s ∧ s ≤ 3
  · obtain ⟨q, hq, hqx⟩ : ∃ q, q < 4 ∧ s = nI q := in2_nI (by decide) ⟨hs.1, by show s < 4; have := hs.2; grind⟩
    have hqc : s.toNatClampNeg = q := by rw [hqx]; exact nI_clamp (by omega)
    have hSH := CR_sh hC hq
    have J : (b = 0 ∨ b = 8 ∨ b = 16 ∨ b = 32) → VW G iX9_sheet (rC τ σ (sheetS ρ s b n)) 4 σ τ 40 [(4, .ref (sc q)), (0, .ref 0), (1, .int s), (2, .int b), (3, .int n)] [] := by
      intro hb
      show VW _ _ _ _ _ _ 40 [(4, _), (0, _), (1, _), (2, _), (3, _)] []
      refine v_iload_n (I := iX9_sheet) dX9_sheet_40 rfl ?_
      refine v_if_eq (I := iX9_sheet) (tgt := 54) dX9_sheet_41 (by decide) (fun c41 => ?_) (fun c41 => ?_)
      · refine v_iload_n (I := iX9_sheet) dX9_sheet_54 rfl ?_
        refine v_if_eq (I := iX9_sheet) (tgt := 70) dX9_sheet_55 (by decide) (fun c55 => ?_) (fun c55 => ?_)
        · refine v_aload (I := iX9_sheet) dX9_sheet_70 rfl ?_
          refine v_iload_n (I := iX9_sheet) dX9_sheet_72 rfl ?_
          refine v_iload_n (I := iX9_sheet) dX9_sheet_73 rfl ?_
          refine v_callVvP (I := iX9_sheet) (I' := iX5_begin) lk_X9_262 c_X5_begin dX9_sheet_74 (m_X5_begin hq) rfl rfl (sc_lt hq) (ae_s0 hq _ _) rfl (by decide) (by decide) (Nat.le_of_ble_eq_true rfl) (fun s74 h74 => ?_)
          refine v_iconst (I := iX9_sheet) (v := 1) dX9_sheet_77 (by decide) ?_
          exact v_iret (I := iX9_sheet) rfl dX9_sheet_78 (by unfold sheetS; rw [if_pos ⟨hs, hb⟩, hqc, if_neg (by grind), if_neg (by grind)]; exact ⟨rfl, rfl, CR_begin hC hq (fun h9 => by grind) h74.1 h74.2.1 h74.2.2.1 h74.2.2.2, fun k9 h9 => h74.2.2.2 k9 (by unfold sc; omega) (by unfold sc; omega)⟩)
        · refine v_iload_n (I := iX9_sheet) dX9_sheet_58 rfl ?_
          refine v_bipush (I := iX9_sheet) (v := 24) dX9_sheet_59 (by decide) ?_
          refine v_icmp_le (I := iX9_sheet) (tgt := 70) dX9_sheet_61 (by decide) (fun c61 => ?_) (fun c61 => ?_)
          · refine v_aload (I := iX9_sheet) dX9_sheet_70 rfl ?_
            refine v_iload_n (I := iX9_sheet) dX9_sheet_72 rfl ?_
            refine v_iload_n (I := iX9_sheet) dX9_sheet_73 rfl ?_
            refine v_callVvP (I := iX9_sheet) (I' := iX5_begin) lk_X9_262 c_X5_begin dX9_sheet_74 (m_X5_begin hq) rfl rfl (sc_lt hq) (ae_s0 hq _ _) rfl (by decide) (by decide) (Nat.le_of_ble_eq_true rfl) (fun s74 h74 => ?_)
            refine v_iconst (I := iX9_sheet) (v := 1) dX9_sheet_77 (by decide) ?_
            exact v_iret (I := iX9_sheet) rfl dX9_sheet_78 (by unfold sheetS; rw [if_pos ⟨hs, hb⟩, hqc, if_neg (by grind), if_neg (by grind)]; exact ⟨rfl, rfl, CR_begin hC hq (fun h9 => by grind) h74.1 h74.2.1 h74.2.2.1 h74.2.2.2, fun k9 h9 => h74.2.2.2 k9 (by unfold sc; omega) (by unfold sc; omega)⟩)
          · refine v_aload_n (I := iX9_sheet) dX9_sheet_64 rfl ?_
            refine v_iconst (I := iX9_sheet) (v := 1) dX9_sheet_65 (by decide) ?_
            refine v_callVi (I := iX9_sheet) (I' := iX9_refused) lk_X9_62 c_X9_refused dX9_sheet_66 (m_X9_refused (e := 1) (by decide) (by decide) (by decide)) rfl rfl (by decide) (ae_0 _ _) rfl (by decide) (by decide) (Nat.le_of_ble_eq_true rfl) ?_
            exact v_iret (I := iX9_sheet) rfl dX9_sheet_69 (by unfold sheetS; rw [if_pos ⟨hs, hb⟩, if_neg (by grind), if_pos (by grind)]; exact ⟨rfl, rfl, CR_err hC (by decide) (by decide), FC.up (by decide)⟩)
      · refine v_iload_n (I := iX9_sheet) dX9_sheet_44 rfl ?_
        refine v_if_ge (I := iX9_sheet) (tgt := 54) dX9_sheet_45 (by decide) (fun c45 => ?_) (fun c45 => ?_)
        · refine v_iload_n (I := iX9_sheet) dX9_sheet_54 rfl ?_
          refine v_if_eq (I := iX9_sheet) (tgt := 70) dX9_sheet_55 (by decide) (fun c55 => ?_) (fun c55 => ?_)
          · refine v_aload (I := iX9_sheet) dX9_sheet_70 rfl ?_
            refine v_iload_n (I := iX9_sheet) dX9_sheet_72 rfl ?_
            refine v_iload_n (I := iX9_sheet) dX9_sheet_73 rfl ?_
            refine v_callVvP (I := iX9_sheet) (I' := iX5_begin) lk_X9_262 c_X5_begin dX9_sheet_74 (m_X5_begin hq) rfl rfl (sc_lt hq) (ae_s0 hq _ _) rfl (by decide) (by decide) (Nat.le_of_ble_eq_true rfl) (fun s74 h74 => ?_)
            refine v_iconst (I := iX9_sheet) (v := 1) dX9_sheet_77 (by decide) ?_
            exact v_iret (I := iX9_sheet) rfl dX9_sheet_78 (by unfold sheetS; rw [if_pos ⟨hs, hb⟩, hqc, if_neg (by grind), if_neg (by grind)]; exact ⟨rfl, rfl, CR_begin hC hq (fun h9 => by grind) h74.1 h74.2.1 h74.2.2.1 h74.2.2.2, fun k9 h9 => h74.2.2.2 k9 (by unfold sc; omega) (by unfold sc; omega)⟩)
          · refine v_iload_n (I := iX9_sheet) dX9_sheet_58 rfl ?_
            refine v_bipush (I := iX9_sheet) (v := 24) dX9_sheet_59 (by decide) ?_
            refine v_icmp_le (I := iX9_sheet) (tgt := 70) dX9_sheet_61 (by decide) (fun c61 => ?_) (fun c61 => ?_)
            · refine v_aload (I := iX9_sheet) dX9_sheet_70 rfl ?_
              refine v_iload_n (I := iX9_sheet) dX9_sheet_72 rfl ?_
              refine v_iload_n (I := iX9_sheet) dX9_sheet_73 rfl ?_
              refine v_callVvP (I := iX9_sheet) (I' := iX5_begin) lk_X9_262 c_X5_begin dX9_sheet_74 (m_X5_begin hq) rfl rfl (sc_lt hq) (ae_s0 hq _ _) rfl (by decide) (by decide) (Nat.le_of_ble_eq_true rfl) (fun s74 h74 => ?_)
              refine v_iconst (I := iX9_sheet) (v := 1) dX9_sheet_77 (by decide) ?_
              exact v_iret (I := iX9_sheet) rfl dX9_sheet_78 (by unfold sheetS; rw [if_pos ⟨hs, hb⟩, hqc, if_neg (by grind), if_neg (by grind)]; exact ⟨rfl, rfl, CR_begin hC hq (fun h9 => by grind) h74.1 h74.2.1 h74.2.2.1 h74.2.2.2, fun k9 h9 => h74.2.2.2 k9 (by unfold sc; omega) (by unfold sc; omega)⟩)
            · refine v_aload_n (I := iX9_sheet) dX9_sheet_64 rfl ?_
              refine v_iconst (I := iX9_sheet) (v := 1) dX9_sheet_65 (by decide) ?_
              refine v_callVi (I := iX9_sheet) (I' := iX9_refused) lk_X9_62 c_X9_refused dX9_sheet_66 (m_X9_refused (e := 1) (by decide) (by decide) (by decide)) rfl rfl (by decide) (ae_0 _ _) rfl (by decide) (by decide) (Nat.le_of_ble_eq_true rfl) ?_
              exact v_iret (I := iX9_sheet) rfl dX9_sheet_69 (by unfold sheetS; rw [if_pos ⟨hs, hb⟩, if_neg (by grind), if_pos (by grind)]; exact ⟨rfl, rfl, CR_err hC (by decide) (by decide), FC.up (by decide)⟩)
        · refine v_aload_n (I := iX9_sheet) dX9_sheet_48 rfl ?_
          refine v_iconst (I := iX9_sheet) (v := 3) dX9_sheet_49 (by decide) ?_
          refine v_callVi (I := iX9_sheet) (I' := iX9_refused) lk_X9_62 c_X9_refused dX9_sheet_50 (m_X9_refused (e := 3) (by decide) (by decide) (by decide)) rfl rfl (by decide) (ae_0 _ _) rfl (by decide) (by decide) (Nat.le_of_ble_eq_true rfl) ?_
          exact v_iret (I := iX9_sheet) rfl dX9_sheet_53 (by unfold sheetS; rw [if_pos ⟨hs, hb⟩, if_pos (by grind)]; exact ⟨rfl, rfl, CR_err hC (by decide) (by decide), FC.up (by decide)⟩)
    refine v_aload_n (I := iX9_sheet) dX9_sheet_0 rfl ?_
    refine v_iload_n (I := iX9_sheet) dX9_sheet_1 rfl ?_
    refine v_callVr (I := iX9_sheet) (I' := iX9_sheetAt) lk_X9_258 c_X9_sheetAt dX9_sheet_2 (m_X9_sheetAt hqx hq) rfl rfl (by decide) (ae_0 _ _) rfl (by decide) (by decide) (Nat.le_of_ble_eq_true rfl) ?_
    refine v_astore (I := iX9_sheet) (ls1 := [(4, _), (0, _), (1, _), (2, _), (3, _)]) dX9_sheet_5 (by decide) rfl ?_
    refine v_aload (I := iX9_sheet) dX9_sheet_7 rfl ?_
    refine v_ifnull (I := iX9_sheet) dX9_sheet_9 ?_
    refine v_iload_n (I := iX9_sheet) dX9_sheet_12 rfl ?_
    refine v_if_eq (I := iX9_sheet) (tgt := 40) dX9_sheet_13 (by decide) (fun c13 => ?_) (fun c13 => ?_)
    · exact J (by grind)
    · refine v_iload_n (I := iX9_sheet) dX9_sheet_16 rfl ?_
      refine v_bipush (I := iX9_sheet) (v := 8) dX9_sheet_17 (by decide) ?_
      refine v_icmp_eq (I := iX9_sheet) (tgt := 40) dX9_sheet_19 (by decide) (fun c19 => ?_) (fun c19 => ?_)
      · exact J (by grind)
      · refine v_iload_n (I := iX9_sheet) dX9_sheet_22 rfl ?_
        refine v_bipush (I := iX9_sheet) (v := 16) dX9_sheet_23 (by decide) ?_
        refine v_icmp_eq (I := iX9_sheet) (tgt := 40) dX9_sheet_25 (by decide) (fun c25 => ?_) (fun c25 => ?_)
        · exact J (by grind)
        · refine v_iload_n (I := iX9_sheet) dX9_sheet_28 rfl ?_
          refine v_bipush (I := iX9_sheet) (v := 32) dX9_sheet_29 (by decide) ?_
          refine v_icmp_eq (I := iX9_sheet) (tgt := 40) dX9_sheet_31 (by decide) (fun c31 => ?_) (fun c31 => ?_)
          · exact J (by grind)
          · refine v_aload_n (I := iX9_sheet) dX9_sheet_34 rfl ?_
            refine v_iconst (I := iX9_sheet) (v := 1) dX9_sheet_35 (by decide) ?_
            refine v_callVi (I := iX9_sheet) (I' := iX9_refused) lk_X9_62 c_X9_refused dX9_sheet_36 (m_X9_refused (e := 1) (by decide) (by decide) (by decide)) rfl rfl (by decide) (ae_0 _ _) rfl (by decide) (by decide) (Nat.le_of_ble_eq_true rfl) ?_
            exact v_iret (I := iX9_sheet) rfl dX9_sheet_39 (by unfold sheetS; rw [if_neg (by grind)]; exact ⟨rfl, rfl, CR_err hC (by decide) (by decide), FC.up (by decide)⟩)
  · skip
    refine v_aload_n (I := iX9_sheet) dX9_sheet_0 rfl ?_
    refine v_iload_n (I := iX9_sheet) dX9_sheet_1 rfl ?_
    refine v_callVE (I := iX9_sheet) (I' := iX9_sheetAt) lk_X9_258 c_X9_sheetAt dX9_sheet_2 (m_X9_sheetAt0 hs) rfl rfl (by decide) (ae_0 _ _) rfl (by decide) (by decide) (Nat.le_of_ble_eq_true rfl) ?_
    refine v_astoreN (I := iX9_sheet) (ls1 := [(4, _), (0, _), (1, _), (2, _), (3, _)]) dX9_sheet_5 (by decide) rfl ?_
    refine v_aloadN (I := iX9_sheet) dX9_sheet_7 rfl ?_
    refine v_ifnullN (I := iX9_sheet) (tgt := 34) dX9_sheet_9 (by decide) ?_
    refine v_aload_n (I := iX9_sheet) dX9_sheet_34 rfl ?_
    refine v_iconst (I := iX9_sheet) (v := 1) dX9_sheet_35 (by decide) ?_
    refine v_callVi (I := iX9_sheet) (I' := iX9_refused) lk_X9_62 c_X9_refused dX9_sheet_36 (m_X9_refused (e := 1) (by decide) (by decide) (by decide)) rfl rfl (by decide) (ae_0 _ _) rfl (by decide) (by decide) (Nat.le_of_ble_eq_true rfl) ?_
    exact v_iret (I := iX9_sheet) rfl dX9_sheet_39 (by unfold sheetS; rw [if_neg (fun h9 => hs h9.1)]; exact ⟨rfl, rfl, CR_err hC (by decide) (by decide), FC.up (by decide)⟩)
set_option maxRecDepth 100000 in
set_option maxHeartbeats 8000000 in
theorem m_X10_sheet {G : fGm} {σ : fSt} {τ : fLt} {ρ : fSt} (hR : RR σ ρ) {s b n : Int32} : MS G iX10_sheet 2 [.ref 87, .int s, .int b, .int n] σ τ (rR τ σ (sheetS ρ s b n)) := by
  refine ms_of (by decide +kernel) (Nat.le_of_ble_eq_true rfl) ?_
  show VW _ _ _ _ _ _ 0 [(0, _), (1, _), (2, _), (3, _)] []
  have J : (0 ≤ s ∧ s ≤ 3) → (b = 0 ∨ b = 8 ∨ b = 16 ∨ b = 32) → VW G iX10_sheet (rR τ σ (sheetS ρ s b n)) 2 σ τ 36 [(0, .ref 87), (1, .int s), (2, .int b), (3, .int n)] [] := by
    intro hs hb
    show VW _ _ _ _ _ _ 36 [(0, _), (1, _), (2, _), (3, _)] []
    refine v_iload_n (I := iX10_sheet) dX10_sheet_36 rfl ?_
    refine v_if_eq (I := iX10_sheet) (tgt := 52) dX10_sheet_37 (by decide) (fun c37 => ?_) (fun c37 => ?_)
    · refine v_iload_n (I := iX10_sheet) dX10_sheet_52 rfl ?_
      refine v_if_eq (I := iX10_sheet) (tgt := 69) dX10_sheet_53 (by decide) (fun c53 => ?_) (fun c53 => ?_)
      · have hn1 : ¬ (b ≠ 0 ∧ n < 0) := by grind
        have hn2 : ¬ (b ≠ 0 ∧ 24 < n) := by grind
        have hn : b ≠ 0 → 0 ≤ n ∧ n ≤ 24 := by grind
        obtain ⟨q, hq, hqx⟩ : ∃ q, q < 4 ∧ s = nI q := in2_nI (by decide) ⟨hs.1, by show s < 4; have := hs.2; grind⟩
        have hqc : s.toNatClampNeg = q := by rw [hqx]; exact nI_clamp (by omega)
        refine v_aload_n (I := iX10_sheet) dX10_sheet_69 rfl ?_
        refine v_get (I := iX10_sheet) g_X10_57 dX10_sheet_70 (by decide) (ae_87 _ _) rfl ?_
        refine v_iload_n (I := iX10_sheet) dX10_sheet_73 rfl ?_
        refine v_iload_n (I := iX10_sheet) dX10_sheet_74 rfl ?_
        refine v_iastN (I := iX10_sheet) (j := q) hqx hq (by decide) dX10_sheet_75 (by decide) (fun _ => ae_101 _ _) ?_
        refine v_aload_n (I := iX10_sheet) dX10_sheet_76 rfl ?_
        refine v_get (I := iX10_sheet) g_X10_60 dX10_sheet_77 (by decide) (ae_87 _ _) rfl ?_
        refine v_iload_n (I := iX10_sheet) dX10_sheet_80 rfl ?_
        refine v_iload_n (I := iX10_sheet) dX10_sheet_81 rfl ?_
        refine v_if_ne (I := iX10_sheet) (tgt := 89) dX10_sheet_82 (by decide) (fun c82 => ?_) (fun c82 => ?_)
        · have hw : (if b = 0 then 0 else n) = n := if_neg (by grind)
          refine v_iload_n (I := iX10_sheet) dX10_sheet_89 rfl ?_
          refine v_iastN (I := iX10_sheet) (j := q) hqx hq (by decide) dX10_sheet_90 (by decide) (fun _ => ae_102 _ _) ?_
          refine v_iconst (I := iX10_sheet) (v := 0) dX10_sheet_91 (by decide) ?_
          refine v_istore (I := iX10_sheet) (ls1 := [(4, _), (0, _), (1, _), (2, _), (3, _)]) dX10_sheet_92 (by decide) rfl ?_
          have key : ∀ (m k : Nat) {σ9 : fSt} {y : Int32}, k + m = 24 → σ9 103 = zf (σ 103) q k → (∀ k9, k9 ≠ 103 → σ9 k9 = up2 (up2 σ 101 q b) 102 q (if b = 0 then 0 else n) k9) → y = nI k → VW G iX10_sheet (rR τ σ (sheetS ρ s b n)) 2 σ9 τ 94 [(4, .int y), (0, .ref 87), (1, .int s), (2, .int b), (3, .int n)] [] := by
            intro m
            induction m with
            | zero =>
              intro k σ9 y hkm h3 hf hk
              have hkN : k = 24 := hkm
              show VW _ _ _ _ _ _ 94 [(4, _), (0, _), (1, _), (2, _), (3, _)] []
              refine v_iload (I := iX10_sheet) dX10_sheet_94 rfl ?_
              refine v_bipush (I := iX10_sheet) (v := 24) dX10_sheet_96 (by decide) ?_
              refine v_icmp_ge (I := iX10_sheet) (tgt := 120) dX10_sheet_98 (by decide) (fun c98 => ?_) (fun c98 => ?_)
              · refine v_iconst (I := iX10_sheet) (v := 1) dX10_sheet_120 (by decide) ?_
                exact v_iret (I := iX10_sheet) rfl dX10_sheet_121 (by unfold sheetS; rw [if_pos ⟨hs, hb⟩, hqc, if_neg hn1, if_neg hn2]; exact ⟨rfl, rfl, RR_begin hR hn (by rw [h3, hkN]) hf, fun k9 h9 => (hf k9 (by omega)).trans ((up2_kf _ _ _ (by omega)).trans (up2_kf _ _ _ (by omega)))⟩)
              · exact absurd (by rw [hk, hkN]; exact Int32.le_refl _) c98
            | succ m ih =>
              intro k σ9 y hkm h3 hf hk
              subst hk
              show VW _ _ _ _ _ _ 94 [(4, _), (0, _), (1, _), (2, _), (3, _)] []
              refine v_iload (I := iX10_sheet) dX10_sheet_94 rfl ?_
              refine v_bipush (I := iX10_sheet) (v := 24) dX10_sheet_96 (by decide) ?_
              refine v_icmp_ge (I := iX10_sheet) (tgt := 120) dX10_sheet_98 (by decide) (fun c98 => ?_) (fun c98 => ?_)
              · exact absurd c98 (by exact nI_ge (b := 24) (by omega) (by decide))
              · refine v_aload_n (I := iX10_sheet) dX10_sheet_101 rfl ?_
                refine v_get (I := iX10_sheet) g_X10_63 dX10_sheet_102 (by decide) (ae_87 _ _) rfl ?_
                refine v_bipush (I := iX10_sheet) (v := 24) dX10_sheet_105 (by decide) ?_
                refine v_iload_n (I := iX10_sheet) dX10_sheet_107 rfl ?_
                refine v_imul (I := iX10_sheet) dX10_sheet_108 ?_
                refine v_iload (I := iX10_sheet) dX10_sheet_109 rfl ?_
                refine v_iadd (I := iX10_sheet) dX10_sheet_111 ?_
                refine v_iconst (I := iX10_sheet) (v := 0) dX10_sheet_112 (by decide) ?_
                refine v_iastN (I := iX10_sheet) (j := (24 * q + k)) (by rw [hqx, show (24 : Int32) = nI 24 from rfl, pk_mul, nI_add]) (by omega) (by decide) dX10_sheet_113 (by decide) (fun _ => ae_103 _ _) ?_
                refine v_iinc (I := iX10_sheet) (ls1 := [(4, _), (0, _), (1, _), (2, _), (3, _)]) dX10_sheet_114 rfl rfl (by decide) rfl ?_
                refine v_goto (I := iX10_sheet) (tgt := 94) dX10_sheet_117 (by decide) ?_
                exact ih (k + 1) (by omega) (by rw [up2_f, h3, zf_s]) (fun k9 h9 => (up2_kf _ _ _ h9).trans (hf k9 h9)) (by exact nI_1 k)
          exact key 24 0 (by omega) (by rw [up2_kf _ _ _ (by decide), up2_kf _ _ _ (by decide), zf_0]) (fun k9 _ => by rw [hw]) rfl
        · have hw : (if b = 0 then 0 else n) = 0 := if_pos (by grind)
          refine v_iconst (I := iX10_sheet) (v := 0) dX10_sheet_85 (by decide) ?_
          refine v_goto (I := iX10_sheet) (tgt := 90) dX10_sheet_86 (by decide) ?_
          refine v_iastN (I := iX10_sheet) (j := q) hqx hq (by decide) dX10_sheet_90 (by decide) (fun _ => ae_102 _ _) ?_
          refine v_iconst (I := iX10_sheet) (v := 0) dX10_sheet_91 (by decide) ?_
          refine v_istore (I := iX10_sheet) (ls1 := [(4, _), (0, _), (1, _), (2, _), (3, _)]) dX10_sheet_92 (by decide) rfl ?_
          have key : ∀ (m k : Nat) {σ9 : fSt} {y : Int32}, k + m = 24 → σ9 103 = zf (σ 103) q k → (∀ k9, k9 ≠ 103 → σ9 k9 = up2 (up2 σ 101 q b) 102 q (if b = 0 then 0 else n) k9) → y = nI k → VW G iX10_sheet (rR τ σ (sheetS ρ s b n)) 2 σ9 τ 94 [(4, .int y), (0, .ref 87), (1, .int s), (2, .int b), (3, .int n)] [] := by
            intro m
            induction m with
            | zero =>
              intro k σ9 y hkm h3 hf hk
              have hkN : k = 24 := hkm
              show VW _ _ _ _ _ _ 94 [(4, _), (0, _), (1, _), (2, _), (3, _)] []
              refine v_iload (I := iX10_sheet) dX10_sheet_94 rfl ?_
              refine v_bipush (I := iX10_sheet) (v := 24) dX10_sheet_96 (by decide) ?_
              refine v_icmp_ge (I := iX10_sheet) (tgt := 120) dX10_sheet_98 (by decide) (fun c98 => ?_) (fun c98 => ?_)
              · refine v_iconst (I := iX10_sheet) (v := 1) dX10_sheet_120 (by decide) ?_
                exact v_iret (I := iX10_sheet) rfl dX10_sheet_121 (by unfold sheetS; rw [if_pos ⟨hs, hb⟩, hqc, if_neg hn1, if_neg hn2]; exact ⟨rfl, rfl, RR_begin hR hn (by rw [h3, hkN]) hf, fun k9 h9 => (hf k9 (by omega)).trans ((up2_kf _ _ _ (by omega)).trans (up2_kf _ _ _ (by omega)))⟩)
              · exact absurd (by rw [hk, hkN]; exact Int32.le_refl _) c98
            | succ m ih =>
              intro k σ9 y hkm h3 hf hk
              subst hk
              show VW _ _ _ _ _ _ 94 [(4, _), (0, _), (1, _), (2, _), (3, _)] []
              refine v_iload (I := iX10_sheet) dX10_sheet_94 rfl ?_
              refine v_bipush (I := iX10_sheet) (v := 24) dX10_sheet_96 (by decide) ?_
              refine v_icmp_ge (I := iX10_sheet) (tgt := 120) dX10_sheet_98 (by decide) (fun c98 => ?_) (fun c98 => ?_)
              · exact absurd c98 (by exact nI_ge (b := 24) (by omega) (by decide))
              · refine v_aload_n (I := iX10_sheet) dX10_sheet_101 rfl ?_
                refine v_get (I := iX10_sheet) g_X10_63 dX10_sheet_102 (by decide) (ae_87 _ _) rfl ?_
                refine v_bipush (I := iX10_sheet) (v := 24) dX10_sheet_105 (by decide) ?_
                refine v_iload_n (I := iX10_sheet) dX10_sheet_107 rfl ?_
                refine v_imul (I := iX10_sheet) dX10_sheet_108 ?_
                refine v_iload (I := iX10_sheet) dX10_sheet_109 rfl ?_
                refine v_iadd (I := iX10_sheet) dX10_sheet_111 ?_
                refine v_iconst (I := iX10_sheet) (v := 0) dX10_sheet_112 (by decide) ?_
                refine v_iastN (I := iX10_sheet) (j := (24 * q + k)) (by rw [hqx, show (24 : Int32) = nI 24 from rfl, pk_mul, nI_add]) (by omega) (by decide) dX10_sheet_113 (by decide) (fun _ => ae_103 _ _) ?_
                refine v_iinc (I := iX10_sheet) (ls1 := [(4, _), (0, _), (1, _), (2, _), (3, _)]) dX10_sheet_114 rfl rfl (by decide) rfl ?_
                refine v_goto (I := iX10_sheet) (tgt := 94) dX10_sheet_117 (by decide) ?_
                exact ih (k + 1) (by omega) (by rw [up2_f, h3, zf_s]) (fun k9 h9 => (up2_kf _ _ _ h9).trans (hf k9 h9)) (by exact nI_1 k)
          exact key 24 0 (by omega) (by rw [up2_kf _ _ _ (by decide), up2_kf _ _ _ (by decide), zf_0]) (fun k9 _ => by rw [hw]) rfl
      · refine v_iload_n (I := iX10_sheet) dX10_sheet_56 rfl ?_
        refine v_bipush (I := iX10_sheet) (v := 24) dX10_sheet_57 (by decide) ?_
        refine v_icmp_le (I := iX10_sheet) (tgt := 69) dX10_sheet_59 (by decide) (fun c59 => ?_) (fun c59 => ?_)
        · have hn1 : ¬ (b ≠ 0 ∧ n < 0) := by grind
          have hn2 : ¬ (b ≠ 0 ∧ 24 < n) := by grind
          have hn : b ≠ 0 → 0 ≤ n ∧ n ≤ 24 := by grind
          obtain ⟨q, hq, hqx⟩ : ∃ q, q < 4 ∧ s = nI q := in2_nI (by decide) ⟨hs.1, by show s < 4; have := hs.2; grind⟩
          have hqc : s.toNatClampNeg = q := by rw [hqx]; exact nI_clamp (by omega)
          refine v_aload_n (I := iX10_sheet) dX10_sheet_69 rfl ?_
          refine v_get (I := iX10_sheet) g_X10_57 dX10_sheet_70 (by decide) (ae_87 _ _) rfl ?_
          refine v_iload_n (I := iX10_sheet) dX10_sheet_73 rfl ?_
          refine v_iload_n (I := iX10_sheet) dX10_sheet_74 rfl ?_
          refine v_iastN (I := iX10_sheet) (j := q) hqx hq (by decide) dX10_sheet_75 (by decide) (fun _ => ae_101 _ _) ?_
          refine v_aload_n (I := iX10_sheet) dX10_sheet_76 rfl ?_
          refine v_get (I := iX10_sheet) g_X10_60 dX10_sheet_77 (by decide) (ae_87 _ _) rfl ?_
          refine v_iload_n (I := iX10_sheet) dX10_sheet_80 rfl ?_
          refine v_iload_n (I := iX10_sheet) dX10_sheet_81 rfl ?_
          refine v_if_ne (I := iX10_sheet) (tgt := 89) dX10_sheet_82 (by decide) (fun c82 => ?_) (fun c82 => ?_)
          · have hw : (if b = 0 then 0 else n) = n := if_neg (by grind)
            refine v_iload_n (I := iX10_sheet) dX10_sheet_89 rfl ?_
            refine v_iastN (I := iX10_sheet) (j := q) hqx hq (by decide) dX10_sheet_90 (by decide) (fun _ => ae_102 _ _) ?_
            refine v_iconst (I := iX10_sheet) (v := 0) dX10_sheet_91 (by decide) ?_
            refine v_istore (I := iX10_sheet) (ls1 := [(4, _), (0, _), (1, _), (2, _), (3, _)]) dX10_sheet_92 (by decide) rfl ?_
            have key : ∀ (m k : Nat) {σ9 : fSt} {y : Int32}, k + m = 24 → σ9 103 = zf (σ 103) q k → (∀ k9, k9 ≠ 103 → σ9 k9 = up2 (up2 σ 101 q b) 102 q (if b = 0 then 0 else n) k9) → y = nI k → VW G iX10_sheet (rR τ σ (sheetS ρ s b n)) 2 σ9 τ 94 [(4, .int y), (0, .ref 87), (1, .int s), (2, .int b), (3, .int n)] [] := by
              intro m
              induction m with
              | zero =>
                intro k σ9 y hkm h3 hf hk
                have hkN : k = 24 := hkm
                show VW _ _ _ _ _ _ 94 [(4, _), (0, _), (1, _), (2, _), (3, _)] []
                refine v_iload (I := iX10_sheet) dX10_sheet_94 rfl ?_
                refine v_bipush (I := iX10_sheet) (v := 24) dX10_sheet_96 (by decide) ?_
                refine v_icmp_ge (I := iX10_sheet) (tgt := 120) dX10_sheet_98 (by decide) (fun c98 => ?_) (fun c98 => ?_)
                · refine v_iconst (I := iX10_sheet) (v := 1) dX10_sheet_120 (by decide) ?_
                  exact v_iret (I := iX10_sheet) rfl dX10_sheet_121 (by unfold sheetS; rw [if_pos ⟨hs, hb⟩, hqc, if_neg hn1, if_neg hn2]; exact ⟨rfl, rfl, RR_begin hR hn (by rw [h3, hkN]) hf, fun k9 h9 => (hf k9 (by omega)).trans ((up2_kf _ _ _ (by omega)).trans (up2_kf _ _ _ (by omega)))⟩)
                · exact absurd (by rw [hk, hkN]; exact Int32.le_refl _) c98
              | succ m ih =>
                intro k σ9 y hkm h3 hf hk
                subst hk
                show VW _ _ _ _ _ _ 94 [(4, _), (0, _), (1, _), (2, _), (3, _)] []
                refine v_iload (I := iX10_sheet) dX10_sheet_94 rfl ?_
                refine v_bipush (I := iX10_sheet) (v := 24) dX10_sheet_96 (by decide) ?_
                refine v_icmp_ge (I := iX10_sheet) (tgt := 120) dX10_sheet_98 (by decide) (fun c98 => ?_) (fun c98 => ?_)
                · exact absurd c98 (by exact nI_ge (b := 24) (by omega) (by decide))
                · refine v_aload_n (I := iX10_sheet) dX10_sheet_101 rfl ?_
                  refine v_get (I := iX10_sheet) g_X10_63 dX10_sheet_102 (by decide) (ae_87 _ _) rfl ?_
                  refine v_bipush (I := iX10_sheet) (v := 24) dX10_sheet_105 (by decide) ?_
                  refine v_iload_n (I := iX10_sheet) dX10_sheet_107 rfl ?_
                  refine v_imul (I := iX10_sheet) dX10_sheet_108 ?_
                  refine v_iload (I := iX10_sheet) dX10_sheet_109 rfl ?_
                  refine v_iadd (I := iX10_sheet) dX10_sheet_111 ?_
                  refine v_iconst (I := iX10_sheet) (v := 0) dX10_sheet_112 (by decide) ?_
                  refine v_iastN (I := iX10_sheet) (j := (24 * q + k)) (by rw [hqx, show (24 : Int32) = nI 24 from rfl, pk_mul, nI_add]) (by omega) (by decide) dX10_sheet_113 (by decide) (fun _ => ae_103 _ _) ?_
                  refine v_iinc (I := iX10_sheet) (ls1 := [(4, _), (0, _), (1, _), (2, _), (3, _)]) dX10_sheet_114 rfl rfl (by decide) rfl ?_
                  refine v_goto (I := iX10_sheet) (tgt := 94) dX10_sheet_117 (by decide) ?_
                  exact ih (k + 1) (by omega) (by rw [up2_f, h3, zf_s]) (fun k9 h9 => (up2_kf _ _ _ h9).trans (hf k9 h9)) (by exact nI_1 k)
            exact key 24 0 (by omega) (by rw [up2_kf _ _ _ (by decide), up2_kf _ _ _ (by decide), zf_0]) (fun k9 _ => by rw [hw]) rfl
          · have hw : (if b = 0 then 0 else n) = 0 := if_pos (by grind)
            refine v_iconst (I := iX10_sheet) (v := 0) dX10_sheet_85 (by decide) ?_
            refine v_goto (I := iX10_sheet) (tgt := 90) dX10_sheet_86 (by decide) ?_
            refine v_iastN (I := iX10_sheet) (j := q) hqx hq (by decide) dX10_sheet_90 (by decide) (fun _ => ae_102 _ _) ?_
            refine v_iconst (I := iX10_sheet) (v := 0) dX10_sheet_91 (by decide) ?_
            refine v_istore (I := iX10_sheet) (ls1 := [(4, _), (0, _), (1, _), (2, _), (3, _)]) dX10_sheet_92 (by decide) rfl ?_
            have key : ∀ (m k : Nat) {σ9 : fSt} {y : Int32}, k + m = 24 → σ9 103 = zf (σ 103) q k → (∀ k9, k9 ≠ 103 → σ9 k9 = up2 (up2 σ 101 q b) 102 q (if b = 0 then 0 else n) k9) → y = nI k → VW G iX10_sheet (rR τ σ (sheetS ρ s b n)) 2 σ9 τ 94 [(4, .int y), (0, .ref 87), (1, .int s), (2, .int b), (3, .int n)] [] := by
              intro m
              induction m with
              | zero =>
                intro k σ9 y hkm h3 hf hk
                have hkN : k = 24 := hkm
                show VW _ _ _ _ _ _ 94 [(4, _), (0, _), (1, _), (2, _), (3, _)] []
                refine v_iload (I := iX10_sheet) dX10_sheet_94 rfl ?_
                refine v_bipush (I := iX10_sheet) (v := 24) dX10_sheet_96 (by decide) ?_
                refine v_icmp_ge (I := iX10_sheet) (tgt := 120) dX10_sheet_98 (by decide) (fun c98 => ?_) (fun c98 => ?_)
                · refine v_iconst (I := iX10_sheet) (v := 1) dX10_sheet_120 (by decide) ?_
                  exact v_iret (I := iX10_sheet) rfl dX10_sheet_121 (by unfold sheetS; rw [if_pos ⟨hs, hb⟩, hqc, if_neg hn1, if_neg hn2]; exact ⟨rfl, rfl, RR_begin hR hn (by rw [h3, hkN]) hf, fun k9 h9 => (hf k9 (by omega)).trans ((up2_kf _ _ _ (by omega)).trans (up2_kf _ _ _ (by omega)))⟩)
                · exact absurd (by rw [hk, hkN]; exact Int32.le_refl _) c98
              | succ m ih =>
                intro k σ9 y hkm h3 hf hk
                subst hk
                show VW _ _ _ _ _ _ 94 [(4, _), (0, _), (1, _), (2, _), (3, _)] []
                refine v_iload (I := iX10_sheet) dX10_sheet_94 rfl ?_
                refine v_bipush (I := iX10_sheet) (v := 24) dX10_sheet_96 (by decide) ?_
                refine v_icmp_ge (I := iX10_sheet) (tgt := 120) dX10_sheet_98 (by decide) (fun c98 => ?_) (fun c98 => ?_)
                · exact absurd c98 (by exact nI_ge (b := 24) (by omega) (by decide))
                · refine v_aload_n (I := iX10_sheet) dX10_sheet_101 rfl ?_
                  refine v_get (I := iX10_sheet) g_X10_63 dX10_sheet_102 (by decide) (ae_87 _ _) rfl ?_
                  refine v_bipush (I := iX10_sheet) (v := 24) dX10_sheet_105 (by decide) ?_
                  refine v_iload_n (I := iX10_sheet) dX10_sheet_107 rfl ?_
                  refine v_imul (I := iX10_sheet) dX10_sheet_108 ?_
                  refine v_iload (I := iX10_sheet) dX10_sheet_109 rfl ?_
                  refine v_iadd (I := iX10_sheet) dX10_sheet_111 ?_
                  refine v_iconst (I := iX10_sheet) (v := 0) dX10_sheet_112 (by decide) ?_
                  refine v_iastN (I := iX10_sheet) (j := (24 * q + k)) (by rw [hqx, show (24 : Int32) = nI 24 from rfl, pk_mul, nI_add]) (by omega) (by decide) dX10_sheet_113 (by decide) (fun _ => ae_103 _ _) ?_
                  refine v_iinc (I := iX10_sheet) (ls1 := [(4, _), (0, _), (1, _), (2, _), (3, _)]) dX10_sheet_114 rfl rfl (by decide) rfl ?_
                  refine v_goto (I := iX10_sheet) (tgt := 94) dX10_sheet_117 (by decide) ?_
                  exact ih (k + 1) (by omega) (by rw [up2_f, h3, zf_s]) (fun k9 h9 => (up2_kf _ _ _ h9).trans (hf k9 h9)) (by exact nI_1 k)
            exact key 24 0 (by omega) (by rw [up2_kf _ _ _ (by decide), up2_kf _ _ _ (by decide), zf_0]) (fun k9 _ => by rw [hw]) rfl
        · refine v_aload_n (I := iX10_sheet) dX10_sheet_62 rfl ?_
          refine v_ldc (I := iX10_sheet) k_X10_91 dX10_sheet_63 ?_
          refine v_callVi (I := iX10_sheet) (I' := iX10_finding) lk_X10_92 c_X10_finding dX10_sheet_65 (m_X10_findE (e := 1) (by decide) (by decide)) rfl rfl (by decide) (ae_87 _ _) rfl (by decide) (by decide) (Nat.le_of_ble_eq_true rfl) ?_
          exact v_iret (I := iX10_sheet) rfl dX10_sheet_68 (by unfold sheetS; rw [if_pos ⟨hs, hb⟩, if_neg (by grind), if_pos (by grind)]; exact ⟨rfl, rfl, RR_err hR, FR.up (by decide)⟩)
    · refine v_iload_n (I := iX10_sheet) dX10_sheet_40 rfl ?_
      refine v_if_ge (I := iX10_sheet) (tgt := 52) dX10_sheet_41 (by decide) (fun c41 => ?_) (fun c41 => ?_)
      · refine v_iload_n (I := iX10_sheet) dX10_sheet_52 rfl ?_
        refine v_if_eq (I := iX10_sheet) (tgt := 69) dX10_sheet_53 (by decide) (fun c53 => ?_) (fun c53 => ?_)
        · have hn1 : ¬ (b ≠ 0 ∧ n < 0) := by grind
          have hn2 : ¬ (b ≠ 0 ∧ 24 < n) := by grind
          have hn : b ≠ 0 → 0 ≤ n ∧ n ≤ 24 := by grind
          obtain ⟨q, hq, hqx⟩ : ∃ q, q < 4 ∧ s = nI q := in2_nI (by decide) ⟨hs.1, by show s < 4; have := hs.2; grind⟩
          have hqc : s.toNatClampNeg = q := by rw [hqx]; exact nI_clamp (by omega)
          refine v_aload_n (I := iX10_sheet) dX10_sheet_69 rfl ?_
          refine v_get (I := iX10_sheet) g_X10_57 dX10_sheet_70 (by decide) (ae_87 _ _) rfl ?_
          refine v_iload_n (I := iX10_sheet) dX10_sheet_73 rfl ?_
          refine v_iload_n (I := iX10_sheet) dX10_sheet_74 rfl ?_
          refine v_iastN (I := iX10_sheet) (j := q) hqx hq (by decide) dX10_sheet_75 (by decide) (fun _ => ae_101 _ _) ?_
          refine v_aload_n (I := iX10_sheet) dX10_sheet_76 rfl ?_
          refine v_get (I := iX10_sheet) g_X10_60 dX10_sheet_77 (by decide) (ae_87 _ _) rfl ?_
          refine v_iload_n (I := iX10_sheet) dX10_sheet_80 rfl ?_
          refine v_iload_n (I := iX10_sheet) dX10_sheet_81 rfl ?_
          refine v_if_ne (I := iX10_sheet) (tgt := 89) dX10_sheet_82 (by decide) (fun c82 => ?_) (fun c82 => ?_)
          · have hw : (if b = 0 then 0 else n) = n := if_neg (by grind)
            refine v_iload_n (I := iX10_sheet) dX10_sheet_89 rfl ?_
            refine v_iastN (I := iX10_sheet) (j := q) hqx hq (by decide) dX10_sheet_90 (by decide) (fun _ => ae_102 _ _) ?_
            refine v_iconst (I := iX10_sheet) (v := 0) dX10_sheet_91 (by decide) ?_
            refine v_istore (I := iX10_sheet) (ls1 := [(4, _), (0, _), (1, _), (2, _), (3, _)]) dX10_sheet_92 (by decide) rfl ?_
            have key : ∀ (m k : Nat) {σ9 : fSt} {y : Int32}, k + m = 24 → σ9 103 = zf (σ 103) q k → (∀ k9, k9 ≠ 103 → σ9 k9 = up2 (up2 σ 101 q b) 102 q (if b = 0 then 0 else n) k9) → y = nI k → VW G iX10_sheet (rR τ σ (sheetS ρ s b n)) 2 σ9 τ 94 [(4, .int y), (0, .ref 87), (1, .int s), (2, .int b), (3, .int n)] [] := by
              intro m
              induction m with
              | zero =>
                intro k σ9 y hkm h3 hf hk
                have hkN : k = 24 := hkm
                show VW _ _ _ _ _ _ 94 [(4, _), (0, _), (1, _), (2, _), (3, _)] []
                refine v_iload (I := iX10_sheet) dX10_sheet_94 rfl ?_
                refine v_bipush (I := iX10_sheet) (v := 24) dX10_sheet_96 (by decide) ?_
                refine v_icmp_ge (I := iX10_sheet) (tgt := 120) dX10_sheet_98 (by decide) (fun c98 => ?_) (fun c98 => ?_)
                · refine v_iconst (I := iX10_sheet) (v := 1) dX10_sheet_120 (by decide) ?_
                  exact v_iret (I := iX10_sheet) rfl dX10_sheet_121 (by unfold sheetS; rw [if_pos ⟨hs, hb⟩, hqc, if_neg hn1, if_neg hn2]; exact ⟨rfl, rfl, RR_begin hR hn (by rw [h3, hkN]) hf, fun k9 h9 => (hf k9 (by omega)).trans ((up2_kf _ _ _ (by omega)).trans (up2_kf _ _ _ (by omega)))⟩)
                · exact absurd (by rw [hk, hkN]; exact Int32.le_refl _) c98
              | succ m ih =>
                intro k σ9 y hkm h3 hf hk
                subst hk
                show VW _ _ _ _ _ _ 94 [(4, _), (0, _), (1, _), (2, _), (3, _)] []
                refine v_iload (I := iX10_sheet) dX10_sheet_94 rfl ?_
                refine v_bipush (I := iX10_sheet) (v := 24) dX10_sheet_96 (by decide) ?_
                refine v_icmp_ge (I := iX10_sheet) (tgt := 120) dX10_sheet_98 (by decide) (fun c98 => ?_) (fun c98 => ?_)
                · exact absurd c98 (by exact nI_ge (b := 24) (by omega) (by decide))
                · refine v_aload_n (I := iX10_sheet) dX10_sheet_101 rfl ?_
                  refine v_get (I := iX10_sheet) g_X10_63 dX10_sheet_102 (by decide) (ae_87 _ _) rfl ?_
                  refine v_bipush (I := iX10_sheet) (v := 24) dX10_sheet_105 (by decide) ?_
                  refine v_iload_n (I := iX10_sheet) dX10_sheet_107 rfl ?_
                  refine v_imul (I := iX10_sheet) dX10_sheet_108 ?_
                  refine v_iload (I := iX10_sheet) dX10_sheet_109 rfl ?_
                  refine v_iadd (I := iX10_sheet) dX10_sheet_111 ?_
                  refine v_iconst (I := iX10_sheet) (v := 0) dX10_sheet_112 (by decide) ?_
                  refine v_iastN (I := iX10_sheet) (j := (24 * q + k)) (by rw [hqx, show (24 : Int32) = nI 24 from rfl, pk_mul, nI_add]) (by omega) (by decide) dX10_sheet_113 (by decide) (fun _ => ae_103 _ _) ?_
                  refine v_iinc (I := iX10_sheet) (ls1 := [(4, _), (0, _), (1, _), (2, _), (3, _)]) dX10_sheet_114 rfl rfl (by decide) rfl ?_
                  refine v_goto (I := iX10_sheet) (tgt := 94) dX10_sheet_117 (by decide) ?_
                  exact ih (k + 1) (by omega) (by rw [up2_f, h3, zf_s]) (fun k9 h9 => (up2_kf _ _ _ h9).trans (hf k9 h9)) (by exact nI_1 k)
            exact key 24 0 (by omega) (by rw [up2_kf _ _ _ (by decide), up2_kf _ _ _ (by decide), zf_0]) (fun k9 _ => by rw [hw]) rfl
          · have hw : (if b = 0 then 0 else n) = 0 := if_pos (by grind)
            refine v_iconst (I := iX10_sheet) (v := 0) dX10_sheet_85 (by decide) ?_
            refine v_goto (I := iX10_sheet) (tgt := 90) dX10_sheet_86 (by decide) ?_
            refine v_iastN (I := iX10_sheet) (j := q) hqx hq (by decide) dX10_sheet_90 (by decide) (fun _ => ae_102 _ _) ?_
            refine v_iconst (I := iX10_sheet) (v := 0) dX10_sheet_91 (by decide) ?_
            refine v_istore (I := iX10_sheet) (ls1 := [(4, _), (0, _), (1, _), (2, _), (3, _)]) dX10_sheet_92 (by decide) rfl ?_
            have key : ∀ (m k : Nat) {σ9 : fSt} {y : Int32}, k + m = 24 → σ9 103 = zf (σ 103) q k → (∀ k9, k9 ≠ 103 → σ9 k9 = up2 (up2 σ 101 q b) 102 q (if b = 0 then 0 else n) k9) → y = nI k → VW G iX10_sheet (rR τ σ (sheetS ρ s b n)) 2 σ9 τ 94 [(4, .int y), (0, .ref 87), (1, .int s), (2, .int b), (3, .int n)] [] := by
              intro m
              induction m with
              | zero =>
                intro k σ9 y hkm h3 hf hk
                have hkN : k = 24 := hkm
                show VW _ _ _ _ _ _ 94 [(4, _), (0, _), (1, _), (2, _), (3, _)] []
                refine v_iload (I := iX10_sheet) dX10_sheet_94 rfl ?_
                refine v_bipush (I := iX10_sheet) (v := 24) dX10_sheet_96 (by decide) ?_
                refine v_icmp_ge (I := iX10_sheet) (tgt := 120) dX10_sheet_98 (by decide) (fun c98 => ?_) (fun c98 => ?_)
                · refine v_iconst (I := iX10_sheet) (v := 1) dX10_sheet_120 (by decide) ?_
                  exact v_iret (I := iX10_sheet) rfl dX10_sheet_121 (by unfold sheetS; rw [if_pos ⟨hs, hb⟩, hqc, if_neg hn1, if_neg hn2]; exact ⟨rfl, rfl, RR_begin hR hn (by rw [h3, hkN]) hf, fun k9 h9 => (hf k9 (by omega)).trans ((up2_kf _ _ _ (by omega)).trans (up2_kf _ _ _ (by omega)))⟩)
                · exact absurd (by rw [hk, hkN]; exact Int32.le_refl _) c98
              | succ m ih =>
                intro k σ9 y hkm h3 hf hk
                subst hk
                show VW _ _ _ _ _ _ 94 [(4, _), (0, _), (1, _), (2, _), (3, _)] []
                refine v_iload (I := iX10_sheet) dX10_sheet_94 rfl ?_
                refine v_bipush (I := iX10_sheet) (v := 24) dX10_sheet_96 (by decide) ?_
                refine v_icmp_ge (I := iX10_sheet) (tgt := 120) dX10_sheet_98 (by decide) (fun c98 => ?_) (fun c98 => ?_)
                · exact absurd c98 (by exact nI_ge (b := 24) (by omega) (by decide))
                · refine v_aload_n (I := iX10_sheet) dX10_sheet_101 rfl ?_
                  refine v_get (I := iX10_sheet) g_X10_63 dX10_sheet_102 (by decide) (ae_87 _ _) rfl ?_
                  refine v_bipush (I := iX10_sheet) (v := 24) dX10_sheet_105 (by decide) ?_
                  refine v_iload_n (I := iX10_sheet) dX10_sheet_107 rfl ?_
                  refine v_imul (I := iX10_sheet) dX10_sheet_108 ?_
                  refine v_iload (I := iX10_sheet) dX10_sheet_109 rfl ?_
                  refine v_iadd (I := iX10_sheet) dX10_sheet_111 ?_
                  refine v_iconst (I := iX10_sheet) (v := 0) dX10_sheet_112 (by decide) ?_
                  refine v_iastN (I := iX10_sheet) (j := (24 * q + k)) (by rw [hqx, show (24 : Int32) = nI 24 from rfl, pk_mul, nI_add]) (by omega) (by decide) dX10_sheet_113 (by decide) (fun _ => ae_103 _ _) ?_
                  refine v_iinc (I := iX10_sheet) (ls1 := [(4, _), (0, _), (1, _), (2, _), (3, _)]) dX10_sheet_114 rfl rfl (by decide) rfl ?_
                  refine v_goto (I := iX10_sheet) (tgt := 94) dX10_sheet_117 (by decide) ?_
                  exact ih (k + 1) (by omega) (by rw [up2_f, h3, zf_s]) (fun k9 h9 => (up2_kf _ _ _ h9).trans (hf k9 h9)) (by exact nI_1 k)
            exact key 24 0 (by omega) (by rw [up2_kf _ _ _ (by decide), up2_kf _ _ _ (by decide), zf_0]) (fun k9 _ => by rw [hw]) rfl
        · refine v_iload_n (I := iX10_sheet) dX10_sheet_56 rfl ?_
          refine v_bipush (I := iX10_sheet) (v := 24) dX10_sheet_57 (by decide) ?_
          refine v_icmp_le (I := iX10_sheet) (tgt := 69) dX10_sheet_59 (by decide) (fun c59 => ?_) (fun c59 => ?_)
          · have hn1 : ¬ (b ≠ 0 ∧ n < 0) := by grind
            have hn2 : ¬ (b ≠ 0 ∧ 24 < n) := by grind
            have hn : b ≠ 0 → 0 ≤ n ∧ n ≤ 24 := by grind
            obtain ⟨q, hq, hqx⟩ : ∃ q, q < 4 ∧ s = nI q := in2_nI (by decide) ⟨hs.1, by show s < 4; have := hs.2; grind⟩
            have hqc : s.toNatClampNeg = q := by rw [hqx]; exact nI_clamp (by omega)
            refine v_aload_n (I := iX10_sheet) dX10_sheet_69 rfl ?_
            refine v_get (I := iX10_sheet) g_X10_57 dX10_sheet_70 (by decide) (ae_87 _ _) rfl ?_
            refine v_iload_n (I := iX10_sheet) dX10_sheet_73 rfl ?_
            refine v_iload_n (I := iX10_sheet) dX10_sheet_74 rfl ?_
            refine v_iastN (I := iX10_sheet) (j := q) hqx hq (by decide) dX10_sheet_75 (by decide) (fun _ => ae_101 _ _) ?_
            refine v_aload_n (I := iX10_sheet) dX10_sheet_76 rfl ?_
            refine v_get (I := iX10_sheet) g_X10_60 dX10_sheet_77 (by decide) (ae_87 _ _) rfl ?_
            refine v_iload_n (I := iX10_sheet) dX10_sheet_80 rfl ?_
            refine v_iload_n (I := iX10_sheet) dX10_sheet_81 rfl ?_
            refine v_if_ne (I := iX10_sheet) (tgt := 89) dX10_sheet_82 (by decide) (fun c82 => ?_) (fun c82 => ?_)
            · have hw : (if b = 0 then 0 else n) = n := if_neg (by grind)
              refine v_iload_n (I := iX10_sheet) dX10_sheet_89 rfl ?_
              refine v_iastN (I := iX10_sheet) (j := q) hqx hq (by decide) dX10_sheet_90 (by decide) (fun _ => ae_102 _ _) ?_
              refine v_iconst (I := iX10_sheet) (v := 0) dX10_sheet_91 (by decide) ?_
              refine v_istore (I := iX10_sheet) (ls1 := [(4, _), (0, _), (1, _), (2, _), (3, _)]) dX10_sheet_92 (by decide) rfl ?_
              have key : ∀ (m k : Nat) {σ9 : fSt} {y : Int32}, k + m = 24 → σ9 103 = zf (σ 103) q k → (∀ k9, k9 ≠ 103 → σ9 k9 = up2 (up2 σ 101 q b) 102 q (if b = 0 then 0 else n) k9) → y = nI k → VW G iX10_sheet (rR τ σ (sheetS ρ s b n)) 2 σ9 τ 94 [(4, .int y), (0, .ref 87), (1, .int s), (2, .int b), (3, .int n)] [] := by
                intro m
                induction m with
                | zero =>
                  intro k σ9 y hkm h3 hf hk
                  have hkN : k = 24 := hkm
                  show VW _ _ _ _ _ _ 94 [(4, _), (0, _), (1, _), (2, _), (3, _)] []
                  refine v_iload (I := iX10_sheet) dX10_sheet_94 rfl ?_
                  refine v_bipush (I := iX10_sheet) (v := 24) dX10_sheet_96 (by decide) ?_
                  refine v_icmp_ge (I := iX10_sheet) (tgt := 120) dX10_sheet_98 (by decide) (fun c98 => ?_) (fun c98 => ?_)
                  · refine v_iconst (I := iX10_sheet) (v := 1) dX10_sheet_120 (by decide) ?_
                    exact v_iret (I := iX10_sheet) rfl dX10_sheet_121 (by unfold sheetS; rw [if_pos ⟨hs, hb⟩, hqc, if_neg hn1, if_neg hn2]; exact ⟨rfl, rfl, RR_begin hR hn (by rw [h3, hkN]) hf, fun k9 h9 => (hf k9 (by omega)).trans ((up2_kf _ _ _ (by omega)).trans (up2_kf _ _ _ (by omega)))⟩)
                  · exact absurd (by rw [hk, hkN]; exact Int32.le_refl _) c98
                | succ m ih =>
                  intro k σ9 y hkm h3 hf hk
                  subst hk
                  show VW _ _ _ _ _ _ 94 [(4, _), (0, _), (1, _), (2, _), (3, _)] []
                  refine v_iload (I := iX10_sheet) dX10_sheet_94 rfl ?_
                  refine v_bipush (I := iX10_sheet) (v := 24) dX10_sheet_96 (by decide) ?_
                  refine v_icmp_ge (I := iX10_sheet) (tgt := 120) dX10_sheet_98 (by decide) (fun c98 => ?_) (fun c98 => ?_)
                  · exact absurd c98 (by exact nI_ge (b := 24) (by omega) (by decide))
                  · refine v_aload_n (I := iX10_sheet) dX10_sheet_101 rfl ?_
                    refine v_get (I := iX10_sheet) g_X10_63 dX10_sheet_102 (by decide) (ae_87 _ _) rfl ?_
                    refine v_bipush (I := iX10_sheet) (v := 24) dX10_sheet_105 (by decide) ?_
                    refine v_iload_n (I := iX10_sheet) dX10_sheet_107 rfl ?_
                    refine v_imul (I := iX10_sheet) dX10_sheet_108 ?_
                    refine v_iload (I := iX10_sheet) dX10_sheet_109 rfl ?_
                    refine v_iadd (I := iX10_sheet) dX10_sheet_111 ?_
                    refine v_iconst (I := iX10_sheet) (v := 0) dX10_sheet_112 (by decide) ?_
                    refine v_iastN (I := iX10_sheet) (j := (24 * q + k)) (by rw [hqx, show (24 : Int32) = nI 24 from rfl, pk_mul, nI_add]) (by omega) (by decide) dX10_sheet_113 (by decide) (fun _ => ae_103 _ _) ?_
                    refine v_iinc (I := iX10_sheet) (ls1 := [(4, _), (0, _), (1, _), (2, _), (3, _)]) dX10_sheet_114 rfl rfl (by decide) rfl ?_
                    refine v_goto (I := iX10_sheet) (tgt := 94) dX10_sheet_117 (by decide) ?_
                    exact ih (k + 1) (by omega) (by rw [up2_f, h3, zf_s]) (fun k9 h9 => (up2_kf _ _ _ h9).trans (hf k9 h9)) (by exact nI_1 k)
              exact key 24 0 (by omega) (by rw [up2_kf _ _ _ (by decide), up2_kf _ _ _ (by decide), zf_0]) (fun k9 _ => by rw [hw]) rfl
            · have hw : (if b = 0 then 0 else n) = 0 := if_pos (by grind)
              refine v_iconst (I := iX10_sheet) (v := 0) dX10_sheet_85 (by decide) ?_
              refine v_goto (I := iX10_sheet) (tgt := 90) dX10_sheet_86 (by decide) ?_
              refine v_iastN (I := iX10_sheet) (j := q) hqx hq (by decide) dX10_sheet_90 (by decide) (fun _ => ae_102 _ _) ?_
              refine v_iconst (I := iX10_sheet) (v := 0) dX10_sheet_91 (by decide) ?_
              refine v_istore (I := iX10_sheet) (ls1 := [(4, _), (0, _), (1, _), (2, _), (3, _)]) dX10_sheet_92 (by decide) rfl ?_
              have key : ∀ (m k : Nat) {σ9 : fSt} {y : Int32}, k + m = 24 → σ9 103 = zf (σ 103) q k → (∀ k9, k9 ≠ 103 → σ9 k9 = up2 (up2 σ 101 q b) 102 q (if b = 0 then 0 else n) k9) → y = nI k → VW G iX10_sheet (rR τ σ (sheetS ρ s b n)) 2 σ9 τ 94 [(4, .int y), (0, .ref 87), (1, .int s), (2, .int b), (3, .int n)] [] := by
                intro m
                induction m with
                | zero =>
                  intro k σ9 y hkm h3 hf hk
                  have hkN : k = 24 := hkm
                  show VW _ _ _ _ _ _ 94 [(4, _), (0, _), (1, _), (2, _), (3, _)] []
                  refine v_iload (I := iX10_sheet) dX10_sheet_94 rfl ?_
                  refine v_bipush (I := iX10_sheet) (v := 24) dX10_sheet_96 (by decide) ?_
                  refine v_icmp_ge (I := iX10_sheet) (tgt := 120) dX10_sheet_98 (by decide) (fun c98 => ?_) (fun c98 => ?_)
                  · refine v_iconst (I := iX10_sheet) (v := 1) dX10_sheet_120 (by decide) ?_
                    exact v_iret (I := iX10_sheet) rfl dX10_sheet_121 (by unfold sheetS; rw [if_pos ⟨hs, hb⟩, hqc, if_neg hn1, if_neg hn2]; exact ⟨rfl, rfl, RR_begin hR hn (by rw [h3, hkN]) hf, fun k9 h9 => (hf k9 (by omega)).trans ((up2_kf _ _ _ (by omega)).trans (up2_kf _ _ _ (by omega)))⟩)
                  · exact absurd (by rw [hk, hkN]; exact Int32.le_refl _) c98
                | succ m ih =>
                  intro k σ9 y hkm h3 hf hk
                  subst hk
                  show VW _ _ _ _ _ _ 94 [(4, _), (0, _), (1, _), (2, _), (3, _)] []
                  refine v_iload (I := iX10_sheet) dX10_sheet_94 rfl ?_
                  refine v_bipush (I := iX10_sheet) (v := 24) dX10_sheet_96 (by decide) ?_
                  refine v_icmp_ge (I := iX10_sheet) (tgt := 120) dX10_sheet_98 (by decide) (fun c98 => ?_) (fun c98 => ?_)
                  · exact absurd c98 (by exact nI_ge (b := 24) (by omega) (by decide))
                  · refine v_aload_n (I := iX10_sheet) dX10_sheet_101 rfl ?_
                    refine v_get (I := iX10_sheet) g_X10_63 dX10_sheet_102 (by decide) (ae_87 _ _) rfl ?_
                    refine v_bipush (I := iX10_sheet) (v := 24) dX10_sheet_105 (by decide) ?_
                    refine v_iload_n (I := iX10_sheet) dX10_sheet_107 rfl ?_
                    refine v_imul (I := iX10_sheet) dX10_sheet_108 ?_
                    refine v_iload (I := iX10_sheet) dX10_sheet_109 rfl ?_
                    refine v_iadd (I := iX10_sheet) dX10_sheet_111 ?_
                    refine v_iconst (I := iX10_sheet) (v := 0) dX10_sheet_112 (by decide) ?_
                    refine v_iastN (I := iX10_sheet) (j := (24 * q + k)) (by rw [hqx, show (24 : Int32) = nI 24 from rfl, pk_mul, nI_add]) (by omega) (by decide) dX10_sheet_113 (by decide) (fun _ => ae_103 _ _) ?_
                    refine v_iinc (I := iX10_sheet) (ls1 := [(4, _), (0, _), (1, _), (2, _), (3, _)]) dX10_sheet_114 rfl rfl (by decide) rfl ?_
                    refine v_goto (I := iX10_sheet) (tgt := 94) dX10_sheet_117 (by decide) ?_
                    exact ih (k + 1) (by omega) (by rw [up2_f, h3, zf_s]) (fun k9 h9 => (up2_kf _ _ _ h9).trans (hf k9 h9)) (by exact nI_1 k)
              exact key 24 0 (by omega) (by rw [up2_kf _ _ _ (by decide), up2_kf _ _ _ (by decide), zf_0]) (fun k9 _ => by rw [hw]) rfl
          · refine v_aload_n (I := iX10_sheet) dX10_sheet_62 rfl ?_
            refine v_ldc (I := iX10_sheet) k_X10_91 dX10_sheet_63 ?_
            refine v_callVi (I := iX10_sheet) (I' := iX10_finding) lk_X10_92 c_X10_finding dX10_sheet_65 (m_X10_findE (e := 1) (by decide) (by decide)) rfl rfl (by decide) (ae_87 _ _) rfl (by decide) (by decide) (Nat.le_of_ble_eq_true rfl) ?_
            exact v_iret (I := iX10_sheet) rfl dX10_sheet_68 (by unfold sheetS; rw [if_pos ⟨hs, hb⟩, if_neg (by grind), if_pos (by grind)]; exact ⟨rfl, rfl, RR_err hR, FR.up (by decide)⟩)
      · refine v_aload_n (I := iX10_sheet) dX10_sheet_44 rfl ?_
        refine v_ldcw (I := iX10_sheet) k_X10_260 dX10_sheet_45 ?_
        refine v_callVi (I := iX10_sheet) (I' := iX10_finding) lk_X10_92 c_X10_finding dX10_sheet_48 (m_X10_findE (e := 3) (by decide) (by decide)) rfl rfl (by decide) (ae_87 _ _) rfl (by decide) (by decide) (Nat.le_of_ble_eq_true rfl) ?_
        exact v_iret (I := iX10_sheet) rfl dX10_sheet_51 (by unfold sheetS; rw [if_pos ⟨hs, hb⟩, if_pos (by grind)]; exact ⟨rfl, rfl, RR_err hR, FR.up (by decide)⟩)
  refine v_iload_n (I := iX10_sheet) dX10_sheet_0 rfl ?_
  refine v_callSi (I := iX10_sheet) (I' := iX10_isSheet) lk_X10_315 c_X10_isSheet dX10_sheet_1 (m_X10_isSheet) rfl rfl (by decide) (by decide) (Nat.le_of_ble_eq_true rfl) ?_
  refine v_if_eqB (I := iX10_sheet) (tgt := 29) dX10_sheet_4 (by decide) (fun c4 => ?_) (fun c4 => ?_)
  · refine v_aload_n (I := iX10_sheet) dX10_sheet_29 rfl ?_
    refine v_ldc (I := iX10_sheet) k_X10_91 dX10_sheet_30 ?_
    refine v_callVi (I := iX10_sheet) (I' := iX10_finding) lk_X10_92 c_X10_finding dX10_sheet_32 (m_X10_findE (e := 1) (by decide) (by decide)) rfl rfl (by decide) (ae_87 _ _) rfl (by decide) (by decide) (Nat.le_of_ble_eq_true rfl) ?_
    exact v_iret (I := iX10_sheet) rfl dX10_sheet_35 (by unfold sheetS; rw [if_neg (by grind)]; exact ⟨rfl, rfl, RR_err hR, FR.up (by decide)⟩)
  · refine v_iload_n (I := iX10_sheet) dX10_sheet_7 rfl ?_
    refine v_if_eq (I := iX10_sheet) (tgt := 36) dX10_sheet_8 (by decide) (fun c8 => ?_) (fun c8 => ?_)
    · exact J (by grind) (by grind)
    · refine v_iload_n (I := iX10_sheet) dX10_sheet_11 rfl ?_
      refine v_bipush (I := iX10_sheet) (v := 8) dX10_sheet_12 (by decide) ?_
      refine v_icmp_eq (I := iX10_sheet) (tgt := 36) dX10_sheet_14 (by decide) (fun c14 => ?_) (fun c14 => ?_)
      · exact J (by grind) (by grind)
      · refine v_iload_n (I := iX10_sheet) dX10_sheet_17 rfl ?_
        refine v_bipush (I := iX10_sheet) (v := 16) dX10_sheet_18 (by decide) ?_
        refine v_icmp_eq (I := iX10_sheet) (tgt := 36) dX10_sheet_20 (by decide) (fun c20 => ?_) (fun c20 => ?_)
        · exact J (by grind) (by grind)
        · refine v_iload_n (I := iX10_sheet) dX10_sheet_23 rfl ?_
          refine v_bipush (I := iX10_sheet) (v := 32) dX10_sheet_24 (by decide) ?_
          refine v_icmp_eq (I := iX10_sheet) (tgt := 36) dX10_sheet_26 (by decide) (fun c26 => ?_) (fun c26 => ?_)
          · exact J (by grind) (by grind)
          · refine v_aload_n (I := iX10_sheet) dX10_sheet_29 rfl ?_
            refine v_ldc (I := iX10_sheet) k_X10_91 dX10_sheet_30 ?_
            refine v_callVi (I := iX10_sheet) (I' := iX10_finding) lk_X10_92 c_X10_finding dX10_sheet_32 (m_X10_findE (e := 1) (by decide) (by decide)) rfl rfl (by decide) (ae_87 _ _) rfl (by decide) (by decide) (Nat.le_of_ble_eq_true rfl) ?_
            exact v_iret (I := iX10_sheet) rfl dX10_sheet_35 (by unfold sheetS; rw [if_neg (by grind)]; exact ⟨rfl, rfl, RR_err hR, FR.up (by decide)⟩)
