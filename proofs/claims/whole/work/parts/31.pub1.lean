def errV (e : Nat) : Int32 := -1000000000 - nI e
theorem bnd_floor : ∀ f, f < 10 → bnd (19 + 2 * f) = (0, 9) ∧ bnd (19 + 2 * f + 1) = (-9, 9) := by decide +kernel
theorem bnd_hold : ∀ f, f < 8 → bnd (39 + 3 * f + 0) = (0, 99) ∧ bnd (39 + 3 * f + 1) = (0, 99) ∧ bnd (39 + 3 * f + 2) = (0, 1) := by decide +kernel
theorem bnd_going : ∀ f, f < 8 → bnd (63 + 3 * f + 0) = (0, 6) ∧ bnd (63 + 3 * f + 1) = (0, 99) ∧ bnd (63 + 3 * f + 2) = (0, 60) := by decide +kernel
theorem ixT (b a f w : Nat) (h : b + a * f + w < 2 ^ 31) : (nI b + nI a * nI f + nI w).toNatClampNeg = b + a * f + w := by rw [pk_mul, nI_add, nI_add]; exact nI_clamp h
theorem V_slipU {w : Nat} {σ : fSt} {g : gS} (h : V w σ g) {f : Nat} {x : Int32} (hf : f < 10) : V w (up2 σ (wc w 3) f x) (va_up g (19 + 2 * f) x) := by
  have := V_up (19 + 2 * f) (x := x) (by omega) h
  rw [(loc_slip f hf).1] at this
  exact this
theorem V_slopeU {w : Nat} {σ : fSt} {g : gS} (h : V w σ g) {f : Nat} {x : Int32} (hf : f < 10) : V w (up2 σ (wc w 4) f x) (va_up g (19 + 2 * f + 1) x) := by
  have := V_up (19 + 2 * f + 1) (x := x) (by omega) h
  rw [(loc_slip f hf).2] at this
  exact this
theorem V_holdU {w : Nat} {σ : fSt} {g : gS} (h : V w σ g) {f : Nat} {x : Int32} (hf : f < 8) : V w (up2 σ (wc w 5) f x) (va_up g (39 + 3 * f + 0) x) ∧ V w (up2 σ (wc w 6) f x) (va_up g (39 + 3 * f + 1) x) ∧ V w (up2 σ (wc w 7) f x) (va_up g (39 + 3 * f + 2) x) := by
  have h0 := V_up (39 + 3 * f + 0) (x := x) (by omega) h
  have h1 := V_up (39 + 3 * f + 1) (x := x) (by omega) h
  have h2 := V_up (39 + 3 * f + 2) (x := x) (by omega) h
  rw [(loc_hold f hf).1] at h0
  rw [(loc_hold f hf).2.1] at h1
  rw [(loc_hold f hf).2.2] at h2
  exact ⟨h0, h1, h2⟩
theorem V_goingU {w : Nat} {σ : fSt} {g : gS} (h : V w σ g) {f : Nat} {x : Int32} (hf : f < 8) : V w (up2 σ (wc w 9) f x) (va_up g (63 + 3 * f + 0) x) ∧ V w (up2 σ (wc w 10) f x) (va_up g (63 + 3 * f + 1) x) ∧ V w (up2 σ (wc w 11) f x) (va_up g (63 + 3 * f + 2) x) := by
  have h0 := V_up (63 + 3 * f + 0) (x := x) (by omega) h
  have h1 := V_up (63 + 3 * f + 1) (x := x) (by omega) h
  have h2 := V_up (63 + 3 * f + 2) (x := x) (by omega) h
  rw [(loc_going f hf).1] at h0
  rw [(loc_going f hf).2.1] at h1
  rw [(loc_going f hf).2.2] at h2
  exact ⟨h0, h1, h2⟩
theorem IV_floor {g : gS} (h : IV g) {f : Nat} {x : Int32} (hf : f < 10) (h0 : 0 ≤ x ∧ x ≤ 9) : IV (va_up g (19 + 2 * f) x) := IV_up h ⟨by omega, by omega, by omega, by omega, fun j hj => by omega⟩ (by rw [(bnd_floor f hf).1]; exact h0)
theorem IV_floor1 {g : gS} (h : IV g) {f : Nat} {x : Int32} (hf : f < 10) (h0 : -9 ≤ x ∧ x ≤ 9) : IV (va_up g (19 + 2 * f + 1) x) := IV_up h ⟨by omega, by omega, by omega, by omega, fun j hj => by omega⟩ (by rw [(bnd_floor f hf).2]; exact h0)
set_option maxRecDepth 100000 in
set_option maxHeartbeats 4000000 in
theorem m_X9_refused {G : fGm} {σ : fSt} {τ : fLt} {x : Int32} {e : Nat} (hx : x = nI e) (h1 : 1 ≤ e) (h6 : e ≤ 6) : MS G iX9_refused 1 [.ref 0, .int x] σ τ (rT (some (.int (errV e))) (up2 σ 84 (e - 1) (σ 84 (e - 1) + 1)) τ) := by
  refine ms_of (by decide +kernel) (Nat.le_of_ble_eq_true rfl) ?_
  show VW _ _ _ _ _ _ 0 [(0, _), (1, _)] []
  have hj : x - 1 = nI (e - 1) := by rw [hx, show (1 : Int32) = nI 1 from rfl]; exact pk_sub h1
  refine v_aload_n (I := iX9_refused) dX9_refused_0 rfl ?_
  refine v_get (I := iX9_refused) g_X9_42 dX9_refused_1 (by decide) (ae_0 _ _) rfl ?_
  refine v_iload_n (I := iX9_refused) dX9_refused_4 rfl ?_
  refine v_iconst (I := iX9_refused) (v := 1) dX9_refused_5 (by decide) ?_
  refine v_isub (I := iX9_refused) dX9_refused_6 ?_
  refine v_aload_n (I := iX9_refused) dX9_refused_7 rfl ?_
  refine v_get (I := iX9_refused) g_X9_42 dX9_refused_8 (by decide) (ae_0 _ _) rfl ?_
  refine v_iload_n (I := iX9_refused) dX9_refused_11 rfl ?_
  refine v_iconst (I := iX9_refused) (v := 1) dX9_refused_12 (by decide) ?_
  refine v_isub (I := iX9_refused) dX9_refused_13 ?_
  refine v_callSi (I := iX9_refused) (I' := iX9_at) lk_X9_104 c_X9_at dX9_refused_14 (m_X9_at (by decide) (ae_84) (by decide)) rfl rfl (by decide) (by decide) (Nat.le_of_ble_eq_true rfl) ?_
  rw [rdA_eq hj (by omega) (by decide)]
  refine v_iconst (I := iX9_refused) (v := 1) dX9_refused_17 (by decide) ?_
  refine v_iadd (I := iX9_refused) dX9_refused_18 ?_
  refine v_callSi (I := iX9_refused) (I' := iX9_exchange) lk_X9_78 c_X9_exchange dX9_refused_19 (m_X9_exchange (by decide) (ae_84) (by decide)) rfl rfl (by decide) (by decide) (Nat.le_of_ble_eq_true rfl) ?_
  rw [wrA_eq hj (by omega) (by decide)]
  refine v_pop (I := iX9_refused) dX9_refused_22 rfl ?_
  refine v_ldcw (I := iX9_refused) k_X9_296 dX9_refused_23 ?_
  refine v_iload_n (I := iX9_refused) dX9_refused_26 rfl ?_
  refine v_isub (I := iX9_refused) dX9_refused_27 ?_
  exact v_iret (I := iX9_refused) rfl dX9_refused_28 ⟨by rw [hx]; rfl, rfl, rfl⟩
set_option maxRecDepth 100000 in
set_option maxHeartbeats 4000000 in
theorem m_X10_findE {G : fGm} {σ : fSt} {τ : fLt} {x : Int32} {e : Nat} (hx : x = errV e) (h6 : e ≤ 6) : MS G iX10_finding 0 [.ref 87, .int x] σ τ (rT (some (.int (errV e))) (up2 σ 91 e (σ 91 e + 1)) τ) := by
  refine ms_of (by decide +kernel) (Nat.le_of_ble_eq_true rfl) ?_
  show VW _ _ _ _ _ _ 0 [(0, _), (1, _)] []
  have hj : -1000000000 - x = nI e := by rw [hx]; unfold errV; grind
  refine v_aload_n (I := iX10_finding) dX10_finding_0 rfl ?_
  refine v_get (I := iX10_finding) g_X10_19 dX10_finding_1 (by decide) (ae_87 _ _) rfl ?_
  refine v_ldc (I := iX10_finding) k_X10_69 dX10_finding_4 ?_
  refine v_iload_n (I := iX10_finding) dX10_finding_6 rfl ?_
  refine v_isub (I := iX10_finding) dX10_finding_7 ?_
  refine v_dup2_11 (I := iX10_finding) dX10_finding_8 rfl rfl ?_
  refine v_ialdN (I := iX10_finding) (j := e) hj (by omega) (by decide) dX10_finding_9 (by decide) (ae_91 _ _) ?_
  refine v_iconst (I := iX10_finding) (v := 1) dX10_finding_10 (by decide) ?_
  refine v_iadd (I := iX10_finding) dX10_finding_11 ?_
  refine v_iastN (I := iX10_finding) (j := e) hj (by omega) (by decide) dX10_finding_12 (by decide) (fun _ => ae_91 _ _) ?_
  refine v_iload_n (I := iX10_finding) dX10_finding_13 rfl ?_
  exact v_iret (I := iX10_finding) rfl dX10_finding_14 ⟨by rw [hx], rfl, rfl⟩
set_option maxRecDepth 100000 in
set_option maxHeartbeats 4000000 in
theorem m_X9_isHold {G : fGm} {σ : fSt} {τ : fLt} {x : Int32} {g : gS} (hV : V 0 σ g) : MS G iX9_isHold 1 [.ref 0, .int x] σ τ (rT (some (.int (if 0 ≤ x ∧ x ≤ g 14 - 1 then 1 else 0))) σ τ) := by
  refine ms_of (by decide +kernel) (Nat.le_of_ble_eq_true rfl) ?_
  show VW _ _ _ _ _ _ 0 [(0, _), (1, _)] []
  refine v_iload_n (I := iX9_isHold) dX9_isHold_0 rfl ?_
  refine v_iconst (I := iX9_isHold) (v := 0) dX9_isHold_1 (by decide) ?_
  refine v_aload_n (I := iX9_isHold) dX9_isHold_2 rfl ?_
  refine v_get (I := iX9_isHold) g_X9_10 dX9_isHold_3 (by decide) (ae_0 _ _) rfl ?_
  refine v_get (I := iX9_isHold) g_X9_66 dX9_isHold_6 (by decide) (ae_w0 (by decide) _ _) rfl ?_
  refine v_get (I := iX9_isHold) g_X9_86 dX9_isHold_9 (by decide) (ae_w2 (by decide) _ _) rfl ?_
  rw [V_n14 hV]
  refine v_iconst (I := iX9_isHold) (v := 1) dX9_isHold_12 (by decide) ?_
  refine v_isub (I := iX9_isHold) dX9_isHold_13 ?_
  refine v_callSi (I := iX9_isHold) (I' := iX9_within) lk_X9_58 c_X9_within dX9_isHold_14 (m_X9_within) rfl rfl (by decide) (by decide) (Nat.le_of_ble_eq_true rfl) ?_
  exact v_zret (I := iX9_isHold) rfl nar_b dX9_isHold_17 ⟨by first | rfl | (simp only [*]; done) | (simp [*]; done), rfl, rfl⟩
set_option maxRecDepth 100000 in
set_option maxHeartbeats 4000000 in
theorem m_X9_isGoing {G : fGm} {σ : fSt} {τ : fLt} {x : Int32} {g : gS} (hV : V 0 σ g) : MS G iX9_isGoing 1 [.ref 0, .int x] σ τ (rT (some (.int (if 0 ≤ x ∧ x ≤ g 15 - 1 then 1 else 0))) σ τ) := by
  refine ms_of (by decide +kernel) (Nat.le_of_ble_eq_true rfl) ?_
  show VW _ _ _ _ _ _ 0 [(0, _), (1, _)] []
  refine v_iload_n (I := iX9_isGoing) dX9_isGoing_0 rfl ?_
  refine v_iconst (I := iX9_isGoing) (v := 0) dX9_isGoing_1 (by decide) ?_
  refine v_aload_n (I := iX9_isGoing) dX9_isGoing_2 rfl ?_
  refine v_get (I := iX9_isGoing) g_X9_10 dX9_isGoing_3 (by decide) (ae_0 _ _) rfl ?_
  refine v_get (I := iX9_isGoing) g_X9_120 dX9_isGoing_6 (by decide) (ae_w0 (by decide) _ _) rfl ?_
  refine v_get (I := iX9_isGoing) g_X9_124 dX9_isGoing_9 (by decide) (ae_w8 (by decide) _ _) rfl ?_
  rw [V_n15 hV]
  refine v_iconst (I := iX9_isGoing) (v := 1) dX9_isGoing_12 (by decide) ?_
  refine v_isub (I := iX9_isGoing) dX9_isGoing_13 ?_
  refine v_callSi (I := iX9_isGoing) (I' := iX9_within) lk_X9_58 c_X9_within dX9_isGoing_14 (m_X9_within) rfl rfl (by decide) (by decide) (Nat.le_of_ble_eq_true rfl) ?_
  exact v_zret (I := iX9_isGoing) rfl nar_b dX9_isGoing_17 ⟨by first | rfl | (simp only [*]; done) | (simp [*]; done), rfl, rfl⟩
def floorS (ρ : fSt) (f w v : Int32) : Int32 × fSt := if (0 ≤ f ∧ f ≤ 9) ∧ (w = 0 ∧ 0 ≤ v ∧ v ≤ 9 ∨ w = 1 ∧ -9 ≤ v ∧ v ≤ 9) then (ρ 88 (19 + 2 * f + w).toNatClampNeg, rowS ρ (va_up (ρ 88) (19 + 2 * f + w).toNatClampNeg v)) else (errV 1, errS ρ 1)
set_option maxRecDepth 100000 in
set_option maxHeartbeats 4000000 in
theorem m_X9_floor {G : fGm} {σ : fSt} {τ : fLt} {ρ : fSt} (hC : CR σ ρ) {f w v : Int32} : MS G iX9_floor 2 [.ref 0, .int f, .int w, .int v] σ τ (rC τ σ (floorS ρ f w v)) := by
  refine ms_of (by decide +kernel) (Nat.le_of_ble_eq_true rfl) ?_
  show VW _ _ _ _ _ _ 0 [(0, _), (1, _), (2, _), (3, _)] []
  refine v_iload_n (I := iX9_floor) dX9_floor_0 rfl ?_
  refine v_iconst (I := iX9_floor) (v := 0) dX9_floor_1 (by decide) ?_
  refine v_bipush (I := iX9_floor) (v := 9) dX9_floor_2 (by decide) ?_
  refine v_callSi (I := iX9_floor) (I' := iX9_within) lk_X9_58 c_X9_within dX9_floor_4 (m_X9_within) rfl rfl (by decide) (by decide) (Nat.le_of_ble_eq_true rfl) ?_
  refine v_if_eqB (I := iX9_floor) (tgt := 38) dX9_floor_7 (by decide) (fun c7 => ?_) (fun c7 => ?_)
  · refine v_aload_n (I := iX9_floor) dX9_floor_38 rfl ?_
    refine v_iconst (I := iX9_floor) (v := 1) dX9_floor_39 (by decide) ?_
    refine v_callVi (I := iX9_floor) (I' := iX9_refused) lk_X9_62 c_X9_refused dX9_floor_40 (m_X9_refused (e := 1) (by decide) (by decide) (by decide)) rfl rfl (by decide) (ae_0 _ _) rfl (by decide) (by decide) (Nat.le_of_ble_eq_true rfl) ?_
    exact v_iret (I := iX9_floor) rfl dX9_floor_43 (by unfold floorS; rw [if_neg (by grind)]; exact ⟨rfl, rfl, CR_err hC (by decide) (by decide), FC.up (by decide)⟩)
  · refine v_iload_n (I := iX9_floor) dX9_floor_10 rfl ?_
    refine v_iconst (I := iX9_floor) (v := 0) dX9_floor_11 (by decide) ?_
    refine v_iconst (I := iX9_floor) (v := 1) dX9_floor_12 (by decide) ?_
    refine v_callSi (I := iX9_floor) (I' := iX9_within) lk_X9_58 c_X9_within dX9_floor_13 (m_X9_within) rfl rfl (by decide) (by decide) (Nat.le_of_ble_eq_true rfl) ?_
    refine v_if_eqB (I := iX9_floor) (tgt := 38) dX9_floor_16 (by decide) (fun c16 => ?_) (fun c16 => ?_)
    · refine v_aload_n (I := iX9_floor) dX9_floor_38 rfl ?_
      refine v_iconst (I := iX9_floor) (v := 1) dX9_floor_39 (by decide) ?_
      refine v_callVi (I := iX9_floor) (I' := iX9_refused) lk_X9_62 c_X9_refused dX9_floor_40 (m_X9_refused (e := 1) (by decide) (by decide) (by decide)) rfl rfl (by decide) (ae_0 _ _) rfl (by decide) (by decide) (Nat.le_of_ble_eq_true rfl) ?_
      exact v_iret (I := iX9_floor) rfl dX9_floor_43 (by unfold floorS; rw [if_neg (by grind)]; exact ⟨rfl, rfl, CR_err hC (by decide) (by decide), FC.up (by decide)⟩)
    · refine v_iload_n (I := iX9_floor) dX9_floor_19 rfl ?_
      refine v_iload_n (I := iX9_floor) dX9_floor_20 rfl ?_
      refine v_if_ne (I := iX9_floor) (tgt := 28) dX9_floor_21 (by decide) (fun c21 => ?_) (fun c21 => ?_)
      · refine v_bipush (I := iX9_floor) (v := -9) dX9_floor_28 (by decide) ?_
        refine v_bipush (I := iX9_floor) (v := 9) dX9_floor_30 (by decide) ?_
        refine v_callSi (I := iX9_floor) (I' := iX9_within) lk_X9_58 c_X9_within dX9_floor_32 (m_X9_within) rfl rfl (by decide) (by decide) (Nat.le_of_ble_eq_true rfl) ?_
        refine v_if_neB (I := iX9_floor) (tgt := 44) dX9_floor_35 (by decide) (fun c35 => ?_) (fun c35 => ?_)
        · obtain ⟨q, hq, hfx⟩ : ∃ q, q < 10 ∧ f = nI q := in2_nI (by decide) ⟨by grind, by show f < 10; grind⟩
          refine v_iload_n (I := iX9_floor) dX9_floor_44 rfl ?_
          refine v_if_ne (I := iX9_floor) (tgt := 61) dX9_floor_45 (by decide) (fun c45 => ?_) (fun c45 => ?_)
          · refine v_aload_n (I := iX9_floor) dX9_floor_61 rfl ?_
            refine v_get (I := iX9_floor) g_X9_10 dX9_floor_62 (by decide) (ae_0 _ _) rfl ?_
            refine v_get (I := iX9_floor) g_X9_66 dX9_floor_65 (by decide) (ae_w0 (by decide) _ _) rfl ?_
            refine v_get (I := iX9_floor) g_X9_75 dX9_floor_68 (by decide) (ae_w2 (by decide) _ _) rfl ?_
            refine v_iload_n (I := iX9_floor) dX9_floor_71 rfl ?_
            refine v_iload_n (I := iX9_floor) dX9_floor_72 rfl ?_
            refine v_callSi (I := iX9_floor) (I' := iX9_exchange) lk_X9_78 c_X9_exchange dX9_floor_73 (m_X9_exchange (by decide) (ae_w4 (by decide)) (by decide)) rfl rfl (by decide) (by decide) (Nat.le_of_ble_eq_true rfl) ?_
            rw [wrA_eq hfx hq (by decide), rdA_eq hfx hq (by decide)]
            exact v_iret (I := iX9_floor) rfl dX9_floor_76 (by
      unfold floorS
      first
      | (rw [if_pos (by grind), show (19 + 2 * f + w).toNatClampNeg = 19 + 2 * q by rw [hfx, c45]; exact ixT 19 2 q 0 (by omega)]; exact ⟨by rw [V_slip hC.1 hq], rfl, CR_row hC (V_slipU hC.1 hq) (FrW.up (by decide)) (IV_floor hC.2.2.2.2.2.1 hq (by grind)), FC.up (by decide)⟩)
      | (rw [if_pos (by grind), show (19 + 2 * f + w).toNatClampNeg = 19 + 2 * q + 1 by rw [hfx, show w = 1 by grind]; exact ixT 19 2 q 1 (by omega)]; exact ⟨by rw [V_slope hC.1 hq], rfl, CR_row hC (V_slopeU hC.1 hq) (FrW.up (by decide)) (IV_floor1 hC.2.2.2.2.2.1 hq (by grind)), FC.up (by decide)⟩))
          · refine v_aload_n (I := iX9_floor) dX9_floor_48 rfl ?_
            refine v_get (I := iX9_floor) g_X9_10 dX9_floor_49 (by decide) (ae_0 _ _) rfl ?_
            refine v_get (I := iX9_floor) g_X9_66 dX9_floor_52 (by decide) (ae_w0 (by decide) _ _) rfl ?_
            refine v_get (I := iX9_floor) g_X9_70 dX9_floor_55 (by decide) (ae_w2 (by decide) _ _) rfl ?_
            refine v_goto (I := iX9_floor) (tgt := 71) dX9_floor_58 (by decide) ?_
            refine v_iload_n (I := iX9_floor) dX9_floor_71 rfl ?_
            refine v_iload_n (I := iX9_floor) dX9_floor_72 rfl ?_
            refine v_callSi (I := iX9_floor) (I' := iX9_exchange) lk_X9_78 c_X9_exchange dX9_floor_73 (m_X9_exchange (by decide) (ae_w3 (by decide)) (by decide)) rfl rfl (by decide) (by decide) (Nat.le_of_ble_eq_true rfl) ?_
            rw [wrA_eq hfx hq (by decide), rdA_eq hfx hq (by decide)]
            exact v_iret (I := iX9_floor) rfl dX9_floor_76 (by
      unfold floorS
      first
      | (rw [if_pos (by grind), show (19 + 2 * f + w).toNatClampNeg = 19 + 2 * q by rw [hfx, c45]; exact ixT 19 2 q 0 (by omega)]; exact ⟨by rw [V_slip hC.1 hq], rfl, CR_row hC (V_slipU hC.1 hq) (FrW.up (by decide)) (IV_floor hC.2.2.2.2.2.1 hq (by grind)), FC.up (by decide)⟩)
      | (rw [if_pos (by grind), show (19 + 2 * f + w).toNatClampNeg = 19 + 2 * q + 1 by rw [hfx, show w = 1 by grind]; exact ixT 19 2 q 1 (by omega)]; exact ⟨by rw [V_slope hC.1 hq], rfl, CR_row hC (V_slopeU hC.1 hq) (FrW.up (by decide)) (IV_floor1 hC.2.2.2.2.2.1 hq (by grind)), FC.up (by decide)⟩))
        · refine v_aload_n (I := iX9_floor) dX9_floor_38 rfl ?_
          refine v_iconst (I := iX9_floor) (v := 1) dX9_floor_39 (by decide) ?_
          refine v_callVi (I := iX9_floor) (I' := iX9_refused) lk_X9_62 c_X9_refused dX9_floor_40 (m_X9_refused (e := 1) (by decide) (by decide) (by decide)) rfl rfl (by decide) (ae_0 _ _) rfl (by decide) (by decide) (Nat.le_of_ble_eq_true rfl) ?_
          exact v_iret (I := iX9_floor) rfl dX9_floor_43 (by unfold floorS; rw [if_neg (by grind)]; exact ⟨rfl, rfl, CR_err hC (by decide) (by decide), FC.up (by decide)⟩)
      · refine v_iconst (I := iX9_floor) (v := 0) dX9_floor_24 (by decide) ?_
        refine v_goto (I := iX9_floor) (tgt := 30) dX9_floor_25 (by decide) ?_
        refine v_bipush (I := iX9_floor) (v := 9) dX9_floor_30 (by decide) ?_
        refine v_callSi (I := iX9_floor) (I' := iX9_within) lk_X9_58 c_X9_within dX9_floor_32 (m_X9_within) rfl rfl (by decide) (by decide) (Nat.le_of_ble_eq_true rfl) ?_
        refine v_if_neB (I := iX9_floor) (tgt := 44) dX9_floor_35 (by decide) (fun c35 => ?_) (fun c35 => ?_)
        · obtain ⟨q, hq, hfx⟩ : ∃ q, q < 10 ∧ f = nI q := in2_nI (by decide) ⟨by grind, by show f < 10; grind⟩
          refine v_iload_n (I := iX9_floor) dX9_floor_44 rfl ?_
          refine v_if_ne (I := iX9_floor) (tgt := 61) dX9_floor_45 (by decide) (fun c45 => ?_) (fun c45 => ?_)
          · refine v_aload_n (I := iX9_floor) dX9_floor_61 rfl ?_
            refine v_get (I := iX9_floor) g_X9_10 dX9_floor_62 (by decide) (ae_0 _ _) rfl ?_
            refine v_get (I := iX9_floor) g_X9_66 dX9_floor_65 (by decide) (ae_w0 (by decide) _ _) rfl ?_
            refine v_get (I := iX9_floor) g_X9_75 dX9_floor_68 (by decide) (ae_w2 (by decide) _ _) rfl ?_
            refine v_iload_n (I := iX9_floor) dX9_floor_71 rfl ?_
            refine v_iload_n (I := iX9_floor) dX9_floor_72 rfl ?_
            refine v_callSi (I := iX9_floor) (I' := iX9_exchange) lk_X9_78 c_X9_exchange dX9_floor_73 (m_X9_exchange (by decide) (ae_w4 (by decide)) (by decide)) rfl rfl (by decide) (by decide) (Nat.le_of_ble_eq_true rfl) ?_
            rw [wrA_eq hfx hq (by decide), rdA_eq hfx hq (by decide)]
            exact v_iret (I := iX9_floor) rfl dX9_floor_76 (by
      unfold floorS
      first
      | (rw [if_pos (by grind), show (19 + 2 * f + w).toNatClampNeg = 19 + 2 * q by rw [hfx, c45]; exact ixT 19 2 q 0 (by omega)]; exact ⟨by rw [V_slip hC.1 hq], rfl, CR_row hC (V_slipU hC.1 hq) (FrW.up (by decide)) (IV_floor hC.2.2.2.2.2.1 hq (by grind)), FC.up (by decide)⟩)
      | (rw [if_pos (by grind), show (19 + 2 * f + w).toNatClampNeg = 19 + 2 * q + 1 by rw [hfx, show w = 1 by grind]; exact ixT 19 2 q 1 (by omega)]; exact ⟨by rw [V_slope hC.1 hq], rfl, CR_row hC (V_slopeU hC.1 hq) (FrW.up (by decide)) (IV_floor1 hC.2.2.2.2.2.1 hq (by grind)), FC.up (by decide)⟩))
          · refine v_aload_n (I := iX9_floor) dX9_floor_48 rfl ?_
            refine v_get (I := iX9_floor) g_X9_10 dX9_floor_49 (by decide) (ae_0 _ _) rfl ?_
            refine v_get (I := iX9_floor) g_X9_66 dX9_floor_52 (by decide) (ae_w0 (by decide) _ _) rfl ?_
            refine v_get (I := iX9_floor) g_X9_70 dX9_floor_55 (by decide) (ae_w2 (by decide) _ _) rfl ?_
            refine v_goto (I := iX9_floor) (tgt := 71) dX9_floor_58 (by decide) ?_
            refine v_iload_n (I := iX9_floor) dX9_floor_71 rfl ?_
            refine v_iload_n (I := iX9_floor) dX9_floor_72 rfl ?_
            refine v_callSi (I := iX9_floor) (I' := iX9_exchange) lk_X9_78 c_X9_exchange dX9_floor_73 (m_X9_exchange (by decide) (ae_w3 (by decide)) (by decide)) rfl rfl (by decide) (by decide) (Nat.le_of_ble_eq_true rfl) ?_
            rw [wrA_eq hfx hq (by decide), rdA_eq hfx hq (by decide)]
            exact v_iret (I := iX9_floor) rfl dX9_floor_76 (by
      unfold floorS
      first
      | (rw [if_pos (by grind), show (19 + 2 * f + w).toNatClampNeg = 19 + 2 * q by rw [hfx, c45]; exact ixT 19 2 q 0 (by omega)]; exact ⟨by rw [V_slip hC.1 hq], rfl, CR_row hC (V_slipU hC.1 hq) (FrW.up (by decide)) (IV_floor hC.2.2.2.2.2.1 hq (by grind)), FC.up (by decide)⟩)
      | (rw [if_pos (by grind), show (19 + 2 * f + w).toNatClampNeg = 19 + 2 * q + 1 by rw [hfx, show w = 1 by grind]; exact ixT 19 2 q 1 (by omega)]; exact ⟨by rw [V_slope hC.1 hq], rfl, CR_row hC (V_slopeU hC.1 hq) (FrW.up (by decide)) (IV_floor1 hC.2.2.2.2.2.1 hq (by grind)), FC.up (by decide)⟩))
        · refine v_aload_n (I := iX9_floor) dX9_floor_38 rfl ?_
          refine v_iconst (I := iX9_floor) (v := 1) dX9_floor_39 (by decide) ?_
          refine v_callVi (I := iX9_floor) (I' := iX9_refused) lk_X9_62 c_X9_refused dX9_floor_40 (m_X9_refused (e := 1) (by decide) (by decide) (by decide)) rfl rfl (by decide) (ae_0 _ _) rfl (by decide) (by decide) (Nat.le_of_ble_eq_true rfl) ?_
          exact v_iret (I := iX9_floor) rfl dX9_floor_43 (by unfold floorS; rw [if_neg (by grind)]; exact ⟨rfl, rfl, CR_err hC (by decide) (by decide), FC.up (by decide)⟩)
set_option maxRecDepth 100000 in
set_option maxHeartbeats 4000000 in
theorem m_X10_floor {G : fGm} {σ : fSt} {τ : fLt} {ρ : fSt} (hR : RR σ ρ) {f w v : Int32} : MS G iX10_floor 2 [.ref 87, .int f, .int w, .int v] σ τ (rR τ σ (floorS ρ f w v)) := by
  refine ms_of (by decide +kernel) (Nat.le_of_ble_eq_true rfl) ?_
  show VW _ _ _ _ _ _ 0 [(0, _), (1, _), (2, _), (3, _)] []
  have J : VW G iX10_floor (rR τ σ (floorS ρ f w v)) 2 σ τ 47 [(4, .int (if (0 ≤ f ∧ f ≤ 9) ∧ (w = 0 ∧ 0 ≤ v ∧ v ≤ 9 ∨ w = 1 ∧ -9 ≤ v ∧ v ≤ 9) then 1 else 0)), (0, .ref 87), (1, .int f), (2, .int w), (3, .int v)] [] := by
    show VW _ _ _ _ _ _ 47 [(4, _), (0, _), (1, _), (2, _), (3, _)] []
    refine v_iload (I := iX10_floor) dX10_floor_47 rfl ?_
    refine v_if_eqB (I := iX10_floor) (tgt := 68) dX10_floor_49 (by decide) (fun c49 => ?_) (fun c49 => ?_)
    · refine v_aload_n (I := iX10_floor) dX10_floor_68 rfl ?_
      refine v_ldc (I := iX10_floor) k_X10_91 dX10_floor_69 ?_
      refine v_callVi (I := iX10_floor) (I' := iX10_finding) lk_X10_92 c_X10_finding dX10_floor_71 (m_X10_findE (e := 1) (by decide) (by decide)) rfl rfl (by decide) (ae_87 _ _) rfl (by decide) (by decide) (Nat.le_of_ble_eq_true rfl) ?_
      exact v_iret (I := iX10_floor) rfl dX10_floor_74 (by unfold floorS; rw [if_neg (by grind)]; exact ⟨rfl, rfl, RR_err hR, FR.up (by decide)⟩)
    · obtain ⟨q, hq, hfx⟩ : ∃ q, q < 10 ∧ f = nI q := in2_nI (by decide) ⟨by grind, by show f < 10; grind⟩
      obtain ⟨z, hz, hwz⟩ : ∃ z, z < 2 ∧ w = nI z := in2_nI (by decide) ⟨by grind, by show w < 2; grind⟩
      refine v_aload_n (I := iX10_floor) dX10_floor_52 rfl ?_
      refine v_bipush (I := iX10_floor) (v := 19) dX10_floor_53 (by decide) ?_
      refine v_iconst (I := iX10_floor) (v := 2) dX10_floor_55 (by decide) ?_
      refine v_iload_n (I := iX10_floor) dX10_floor_56 rfl ?_
      refine v_imul (I := iX10_floor) dX10_floor_57 ?_
      refine v_iadd (I := iX10_floor) dX10_floor_58 ?_
      refine v_iload_n (I := iX10_floor) dX10_floor_59 rfl ?_
      refine v_iadd (I := iX10_floor) dX10_floor_60 ?_
      refine v_iload_n (I := iX10_floor) dX10_floor_61 rfl ?_
      refine v_callVi (I := iX10_floor) (I' := iX10_become) lk_X10_88 c_X10_become dX10_floor_62 (m_X10_become (j := 19 + 2 * q + z) (by rw [hfx, hwz, show (19 : Int32) = nI 19 from rfl, show (2 : Int32) = nI 2 from rfl, pk_mul, nI_add, nI_add]) (by omega)) rfl rfl (by decide) (ae_87 _ _) rfl (by decide) (by decide) (Nat.le_of_ble_eq_true rfl) ?_
      refine v_goto (I := iX10_floor) (tgt := 74) dX10_floor_65 (by decide) ?_
      exact v_iret (I := iX10_floor) rfl dX10_floor_74 (by
        unfold floorS
        rw [if_pos (by grind), show (19 + 2 * f + w).toNatClampNeg = 19 + 2 * q + z by rw [hfx, hwz]; exact ixT 19 2 q z (by omega)]
        refine ⟨by rw [hR.1], rfl, ?_, FR.up (by decide)⟩
        rw [show up2 σ 88 (19 + 2 * q + z) v = va_up σ 88 (va_up (σ 88) (19 + 2 * q + z) v) from rfl, hR.1]
        exact RR_row hR (by rcases (show z = 0 ∨ z = 1 by omega) with rfl | rfl; exact IV_floor hR.2.2.2.2.2.2.2.2.2.2.2.1 hq (by have h9 : w = 0 := hwz; grind); exact IV_floor1 hR.2.2.2.2.2.2.2.2.2.2.2.1 hq (by have h9 : w = 1 := hwz; grind)))
  refine v_iload_n (I := iX10_floor) dX10_floor_0 rfl ?_
  refine v_iconst (I := iX10_floor) (v := 0) dX10_floor_1 (by decide) ?_
  refine v_bipush (I := iX10_floor) (v := 9) dX10_floor_2 (by decide) ?_
  refine v_callSi (I := iX10_floor) (I' := iX10_within) lk_X10_79 c_X10_within dX10_floor_4 (m_X10_within) rfl rfl (by decide) (by decide) (Nat.le_of_ble_eq_true rfl) ?_
  refine v_if_eqB (I := iX10_floor) (tgt := 44) dX10_floor_7 (by decide) (fun c7 => ?_) (fun c7 => ?_)
  · refine v_iconst (I := iX10_floor) (v := 0) dX10_floor_44 (by decide) ?_
    refine v_istore (I := iX10_floor) (ls1 := [(4, _), (0, _), (1, _), (2, _), (3, _)]) dX10_floor_45 (by decide) rfl ?_
    first
    | (rw [if_pos (by grind)] at J; exact J)
    | (rw [if_neg (by grind)] at J; exact J)
  · refine v_iload_n (I := iX10_floor) dX10_floor_10 rfl ?_
    refine v_if_ne (I := iX10_floor) (tgt := 24) dX10_floor_11 (by decide) (fun c11 => ?_) (fun c11 => ?_)
    · refine v_iload_n (I := iX10_floor) dX10_floor_24 rfl ?_
      refine v_iconst (I := iX10_floor) (v := 1) dX10_floor_25 (by decide) ?_
      refine v_icmp_ne (I := iX10_floor) (tgt := 44) dX10_floor_26 (by decide) (fun c26 => ?_) (fun c26 => ?_)
      · refine v_iconst (I := iX10_floor) (v := 0) dX10_floor_44 (by decide) ?_
        refine v_istore (I := iX10_floor) (ls1 := [(4, _), (0, _), (1, _), (2, _), (3, _)]) dX10_floor_45 (by decide) rfl ?_
        first
        | (rw [if_pos (by grind)] at J; exact J)
        | (rw [if_neg (by grind)] at J; exact J)
      · refine v_iload_n (I := iX10_floor) dX10_floor_29 rfl ?_
        refine v_bipush (I := iX10_floor) (v := -9) dX10_floor_30 (by decide) ?_
        refine v_bipush (I := iX10_floor) (v := 9) dX10_floor_32 (by decide) ?_
        refine v_callSi (I := iX10_floor) (I' := iX10_within) lk_X10_79 c_X10_within dX10_floor_34 (m_X10_within) rfl rfl (by decide) (by decide) (Nat.le_of_ble_eq_true rfl) ?_
        refine v_if_eqB (I := iX10_floor) (tgt := 44) dX10_floor_37 (by decide) (fun c37 => ?_) (fun c37 => ?_)
        · refine v_iconst (I := iX10_floor) (v := 0) dX10_floor_44 (by decide) ?_
          refine v_istore (I := iX10_floor) (ls1 := [(4, _), (0, _), (1, _), (2, _), (3, _)]) dX10_floor_45 (by decide) rfl ?_
          first
          | (rw [if_pos (by grind)] at J; exact J)
          | (rw [if_neg (by grind)] at J; exact J)
        · refine v_iconst (I := iX10_floor) (v := 1) dX10_floor_40 (by decide) ?_
          refine v_goto (I := iX10_floor) (tgt := 45) dX10_floor_41 (by decide) ?_
          refine v_istore (I := iX10_floor) (ls1 := [(4, _), (0, _), (1, _), (2, _), (3, _)]) dX10_floor_45 (by decide) rfl ?_
          first
          | (rw [if_pos (by grind)] at J; exact J)
          | (rw [if_neg (by grind)] at J; exact J)
    · refine v_iload_n (I := iX10_floor) dX10_floor_14 rfl ?_
      refine v_iconst (I := iX10_floor) (v := 0) dX10_floor_15 (by decide) ?_
      refine v_bipush (I := iX10_floor) (v := 9) dX10_floor_16 (by decide) ?_
      refine v_callSi (I := iX10_floor) (I' := iX10_within) lk_X10_79 c_X10_within dX10_floor_18 (m_X10_within) rfl rfl (by decide) (by decide) (Nat.le_of_ble_eq_true rfl) ?_
      refine v_if_neB (I := iX10_floor) (tgt := 40) dX10_floor_21 (by decide) (fun c21 => ?_) (fun c21 => ?_)
      · refine v_iconst (I := iX10_floor) (v := 1) dX10_floor_40 (by decide) ?_
        refine v_goto (I := iX10_floor) (tgt := 45) dX10_floor_41 (by decide) ?_
        refine v_istore (I := iX10_floor) (ls1 := [(4, _), (0, _), (1, _), (2, _), (3, _)]) dX10_floor_45 (by decide) rfl ?_
        first
        | (rw [if_pos (by grind)] at J; exact J)
        | (rw [if_neg (by grind)] at J; exact J)
      · refine v_iload_n (I := iX10_floor) dX10_floor_24 rfl ?_
        refine v_iconst (I := iX10_floor) (v := 1) dX10_floor_25 (by decide) ?_
        refine v_icmp_ne (I := iX10_floor) (tgt := 44) dX10_floor_26 (by decide) (fun c26 => ?_) (fun c26 => ?_)
        · refine v_iconst (I := iX10_floor) (v := 0) dX10_floor_44 (by decide) ?_
          refine v_istore (I := iX10_floor) (ls1 := [(4, _), (0, _), (1, _), (2, _), (3, _)]) dX10_floor_45 (by decide) rfl ?_
          first
          | (rw [if_pos (by grind)] at J; exact J)
          | (rw [if_neg (by grind)] at J; exact J)
        · refine v_iload_n (I := iX10_floor) dX10_floor_29 rfl ?_
          refine v_bipush (I := iX10_floor) (v := -9) dX10_floor_30 (by decide) ?_
          refine v_bipush (I := iX10_floor) (v := 9) dX10_floor_32 (by decide) ?_
          refine v_callSi (I := iX10_floor) (I' := iX10_within) lk_X10_79 c_X10_within dX10_floor_34 (m_X10_within) rfl rfl (by decide) (by decide) (Nat.le_of_ble_eq_true rfl) ?_
          refine v_if_eqB (I := iX10_floor) (tgt := 44) dX10_floor_37 (by decide) (fun c37 => ?_) (fun c37 => ?_)
          · refine v_iconst (I := iX10_floor) (v := 0) dX10_floor_44 (by decide) ?_
            refine v_istore (I := iX10_floor) (ls1 := [(4, _), (0, _), (1, _), (2, _), (3, _)]) dX10_floor_45 (by decide) rfl ?_
            first
            | (rw [if_pos (by grind)] at J; exact J)
            | (rw [if_neg (by grind)] at J; exact J)
          · refine v_iconst (I := iX10_floor) (v := 1) dX10_floor_40 (by decide) ?_
            refine v_goto (I := iX10_floor) (tgt := 45) dX10_floor_41 (by decide) ?_
            refine v_istore (I := iX10_floor) (ls1 := [(4, _), (0, _), (1, _), (2, _), (3, _)]) dX10_floor_45 (by decide) rfl ?_
            first
            | (rw [if_pos (by grind)] at J; exact J)
            | (rw [if_neg (by grind)] at J; exact J)
