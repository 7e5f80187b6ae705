theorem df_X0 : ∀ j, j < 4 → defaultValue (tyX0 j) = vp_V [.int 0, .int 0, .int 0, .int 0] j := by
  intro j hj
  rcases (show j = 0 ∨ j = 1 ∨ j = 2 ∨ j = 3 by omega) with rfl | rfl | rfl | rfl <;> rfl
theorem df_X1 : ∀ j, j < 4 → defaultValue (tyX1 j) = vp_V [.null, .null, .null, .int 0] j := by
  intro j hj
  rcases (show j = 0 ∨ j = 1 ∨ j = 2 ∨ j = 3 by omega) with rfl | rfl | rfl | rfl <;> rfl
theorem df_X2 : ∀ j, j < 7 → defaultValue (tyX2 j) = vp_V [.null, .null, .int 0, .int 0, .int 0, .int 0, .int 0] j := by
  intro j hj
  rcases (show j = 0 ∨ j = 1 ∨ j = 2 ∨ j = 3 ∨ j = 4 ∨ j = 5 ∨ j = 6 by omega) with rfl | rfl | rfl | rfl | rfl | rfl | rfl <;> rfl
theorem df_X3 : ∀ j, j < 6 → defaultValue (tyX3 j) = vp_V [.null, .null, .null, .null, .null, .int 0] j := by
  intro j hj
  rcases (show j = 0 ∨ j = 1 ∨ j = 2 ∨ j = 3 ∨ j = 4 ∨ j = 5 by omega) with rfl | rfl | rfl | rfl | rfl | rfl <;> rfl
theorem df_X4 : ∀ j, j < 4 → defaultValue (tyX4 j) = vp_V [.long 0, .long 0, .null, .null] j := by
  intro j hj
  rcases (show j = 0 ∨ j = 1 ∨ j = 2 ∨ j = 3 by omega) with rfl | rfl | rfl | rfl <;> rfl
theorem df_X5 : ∀ j, j < 3 → defaultValue (tyX5 j) = vp_V [.null, .int 0, .int 0] j := by
  intro j hj
  rcases (show j = 0 ∨ j = 1 ∨ j = 2 by omega) with rfl | rfl | rfl <;> rfl
theorem df_X6 : ∀ j, j < 6 → defaultValue (tyX6 j) = vp_V [.null, .int 0, .int 0, .int 0, .int 0, .int 0] j := by
  intro j hj
  rcases (show j = 0 ∨ j = 1 ∨ j = 2 ∨ j = 3 ∨ j = 4 ∨ j = 5 by omega) with rfl | rfl | rfl | rfl | rfl | rfl <;> rfl
theorem df_X7 : ∀ j, j < 3 → defaultValue (tyX7 j) = vp_V [.null, .int 0, .null] j := by
  intro j hj
  rcases (show j = 0 ∨ j = 1 ∨ j = 2 by omega) with rfl | rfl | rfl <;> rfl
theorem df_X8 : ∀ j, j < 11 → defaultValue (tyX8 j) = vp_V [.null, .null, .null, .null, .null, .null, .null, .int 0, .int 0, .null, .null] j := by
  intro j hj
  rcases (show j = 0 ∨ j = 1 ∨ j = 2 ∨ j = 3 ∨ j = 4 ∨ j = 5 ∨ j = 6 ∨ j = 7 ∨ j = 8 ∨ j = 9 ∨ j = 10 by omega) with rfl | rfl | rfl | rfl | rfl | rfl | rfl | rfl | rfl | rfl | rfl <;> rfl
theorem df_X9 : ∀ j, j < 9 → defaultValue (tyX9 j) = vp_V [.null, .null, .null, .null, .null, .null, .null, .null, .int 0] j := by
  intro j hj
  rcases (show j = 0 ∨ j = 1 ∨ j = 2 ∨ j = 3 ∨ j = 4 ∨ j = 5 ∨ j = 6 ∨ j = 7 ∨ j = 8 by omega) with rfl | rfl | rfl | rfl | rfl | rfl | rfl | rfl | rfl <;> rfl
theorem df_X10 : ∀ j, j < 28 → defaultValue (tyX10 j) = vp_V [.null, .null, .null, .int 0, .null, .null, .null, .null, .int 0, .int 0, .int 0, .int 0, .null, .int 0, .null, .null, .null, .null, .long 0, .long 0, .null, .int 0, .int 0, .int 0, .null, .null, .null, .null] j := by
  intro j hj
  rcases (show j = 0 ∨ j = 1 ∨ j = 2 ∨ j = 3 ∨ j = 4 ∨ j = 5 ∨ j = 6 ∨ j = 7 ∨ j = 8 ∨ j = 9 ∨ j = 10 ∨ j = 11 ∨ j = 12 ∨ j = 13 ∨ j = 14 ∨ j = 15 ∨ j = 16 ∨ j = 17 ∨ j = 18 ∨ j = 19 ∨ j = 20 ∨ j = 21 ∨ j = 22 ∨ j = 23 ∨ j = 24 ∨ j = 25 ∨ j = 26 ∨ j = 27 by omega) with rfl | rfl | rfl | rfl | rfl | rfl | rfl | rfl | rfl | rfl | rfl | rfl | rfl | rfl | rfl | rfl | rfl | rfl | rfl | rfl | rfl | rfl | rfl | rfl | rfl | rfl | rfl | rfl <;> rfl
def kX0 (G : fGm) (b : Nat) (ad : Nat → Nat) : va_W := [(b, .inr (0, [.int 0, .int 0, .int 0, .int 0]))]
set_option maxRecDepth 100000 in
set_option maxHeartbeats 8000000 in
theorem m_init_X0 (G : fGm) (N0 b : Nat) : NM G N0 iX0_init 1 0 0 b (.inr (0, [.int 0, .int 0, .int 0, .int 0])) (fun w => ∃ ad : Nat → Nat, w = kX0 G b ad) := by
  refine nm_of (by decide +kernel) (Nat.le_of_ble_eq_true rfl) (fun A => ?_)
  refine n_aload_n (I := iX0_init) dX0_init_0 rfl ?_
  refine n_objInit (I := iX0_init) lm_X0_1 dX0_init_1 (by decide) (Nat.le_of_ble_eq_true rfl) ?_
  exact n_vret (I := iX0_init) rfl dX0_init_4 (by decide) (by decide) ⟨rfl, fun k => [b].getD k 0, rfl⟩
def kX1 (G : fGm) (b : Nat) (ad : Nat → Nat) : va_W := [(b, .inr (1, [.ref (ad 1), .ref (ad 2), .ref (ad 3), .int 0])),
  ((ad 1), .inl (G.2.2.1 0, 8, .inl (fun _ => 0))),
  ((ad 2), .inl (G.2.2.1 0, 8, .inl (fun _ => 0))),
  ((ad 3), .inl (G.2.2.1 0, 8, .inl (fun _ => 0)))]
set_option maxRecDepth 100000 in
set_option maxHeartbeats 8000000 in
theorem m_init_X1 (G : fGm) (N0 b : Nat) : NM G N0 iX1_init 1 3 24 b (.inr (1, [.null, .null, .null, .int 0])) (fun w => ∃ ad : Nat → Nat, w = kX1 G b ad) := by
  refine nm_of (by decide +kernel) (Nat.le_of_ble_eq_true rfl) (fun A => ?_)
  refine n_aload_n (I := iX1_init) dX1_init_0 rfl ?_
  refine n_objInit (I := iX1_init) lm_X1_3 dX1_init_1 (by decide) (Nat.le_of_ble_eq_true rfl) ?_
  refine n_aload_n (I := iX1_init) dX1_init_4 rfl ?_
  refine n_bipush (I := iX1_init) (v := 8) dX1_init_5 (by decide) ?_
  refine n_newI (I := iX1_init) (N := 8) (by decide) (by decide) (by decide) dX1_init_7 (by decide) (by decide) (fun q7 => ?_)
  show NW G N0 A iX1_init _ _ _ _ [(b, .inr (1, [.null, .null, .null, .int 0])), (q7, .inl (G.2.2.1 0, 8, .inl (fun _ => 0)))] _ _ _ _ _
  refine n_putF (ws1 := [(b, .inr (1, [.ref q7, .null, .null, .int 0])), (q7, .inl (G.2.2.1 0, 8, .inl (fun _ => 0)))]) (I := iX1_init) (ci := 1) (j := 0) (q0 := 0) (a := b) (fs := [.null, .null, .null, .int 0]) (tyv := tyX1 0) fl_X1_9 ul_X1 tyX1_ok nmX1 rfl rfl (by decide) rfl rfl rfl rfl (tyX1_ok 0 (by decide)) rfl rfl (Nat.le_of_ble_eq_true rfl) dX1_init_9 rfl ?_
  refine n_aload_n (I := iX1_init) dX1_init_12 rfl ?_
  refine n_bipush (I := iX1_init) (v := 8) dX1_init_13 (by decide) ?_
  refine n_newI (I := iX1_init) (N := 8) (by decide) (by decide) (by decide) dX1_init_15 (by decide) (by decide) (fun q15 => ?_)
  show NW G N0 A iX1_init _ _ _ _ [(b, .inr (1, [.ref q7, .null, .null, .int 0])), (q7, .inl (G.2.2.1 0, 8, .inl (fun _ => 0))), (q15, .inl (G.2.2.1 0, 8, .inl (fun _ => 0)))] _ _ _ _ _
  refine n_putF (ws1 := [(b, .inr (1, [.ref q7, .ref q15, .null, .int 0])), (q7, .inl (G.2.2.1 0, 8, .inl (fun _ => 0))), (q15, .inl (G.2.2.1 0, 8, .inl (fun _ => 0)))]) (I := iX1_init) (ci := 1) (j := 1) (q0 := 0) (a := b) (fs := [.ref q7, .null, .null, .int 0]) (tyv := tyX1 1) fl_X1_15 ul_X1 tyX1_ok nmX1 rfl rfl (by decide) rfl rfl rfl rfl (tyX1_ok 1 (by decide)) rfl rfl (Nat.le_of_ble_eq_true rfl) dX1_init_17 rfl ?_
  refine n_aload_n (I := iX1_init) dX1_init_20 rfl ?_
  refine n_bipush (I := iX1_init) (v := 8) dX1_init_21 (by decide) ?_
  refine n_newI (I := iX1_init) (N := 8) (by decide) (by decide) (by decide) dX1_init_23 (by decide) (by decide) (fun q23 => ?_)
  show NW G N0 A iX1_init _ _ _ _ [(b, .inr (1, [.ref q7, .ref q15, .null, .int 0])), (q7, .inl (G.2.2.1 0, 8, .inl (fun _ => 0))), (q15, .inl (G.2.2.1 0, 8, .inl (fun _ => 0))), (q23, .inl (G.2.2.1 0, 8, .inl (fun _ => 0)))] _ _ _ _ _
  refine n_putF (ws1 := [(b, .inr (1, [.ref q7, .ref q15, .ref q23, .int 0])), (q7, .inl (G.2.2.1 0, 8, .inl (fun _ => 0))), (q15, .inl (G.2.2.1 0, 8, .inl (fun _ => 0))), (q23, .inl (G.2.2.1 0, 8, .inl (fun _ => 0)))]) (I := iX1_init) (ci := 1) (j := 2) (q0 := 0) (a := b) (fs := [.ref q7, .ref q15, .null, .int 0]) (tyv := tyX1 2) fl_X1_18 ul_X1 tyX1_ok nmX1 rfl rfl (by decide) rfl rfl rfl rfl (tyX1_ok 2 (by decide)) rfl rfl (Nat.le_of_ble_eq_true rfl) dX1_init_25 rfl ?_
  refine n_aload_n (I := iX1_init) dX1_init_28 rfl ?_
  refine n_iconst (I := iX1_init) (v := 0) dX1_init_29 (by decide) ?_
  refine n_put (ws1 := [(b, .inr (1, [.ref q7, .ref q15, .ref q23, .int 0])), (q7, .inl (G.2.2.1 0, 8, .inl (fun _ => 0))), (q15, .inl (G.2.2.1 0, 8, .inl (fun _ => 0))), (q23, .inl (G.2.2.1 0, 8, .inl (fun _ => 0)))]) (I := iX1_init) (ci := 1) (j := 3) (q0 := 0) (a := b) (fs := [.ref q7, .ref q15, .ref q23, .int 0]) (tyv := tyX1 3) fl_X1_21 ul_X1 tyX1_ok nmX1 rfl rfl (by decide) rfl rfl (tyX1_ok 3 (by decide)) rfl rfl (Nat.le_of_ble_eq_true rfl) dX1_init_30 rfl ?_
  exact n_vret (I := iX1_init) rfl dX1_init_33 (by decide) (by decide) ⟨rfl, fun k => [b, q7, q15, q23].getD k 0, rfl⟩
def kX3 (G : fGm) (b : Nat) (ad : Nat → Nat) : va_W := [(b, .inr (3, [.ref (ad 1), .ref (ad 2), .ref (ad 3), .ref (ad 4), .ref (ad 5), .int 0])),
  ((ad 1), .inl (G.2.2.1 0, 10, .inl (fun _ => 0))),
  ((ad 2), .inl (G.2.2.1 0, 10, .inl (fun _ => 0))),
  ((ad 3), .inl (G.2.2.1 0, 8, .inl (fun _ => 0))),
  ((ad 4), .inl (G.2.2.1 0, 8, .inl (fun _ => 0))),
  ((ad 5), .inl (G.2.2.1 0, 8, .inl (fun _ => 0)))]
set_option maxRecDepth 100000 in
set_option maxHeartbeats 8000000 in
theorem m_init_X3 (G : fGm) (N0 b : Nat) : NM G N0 iX3_init 1 5 44 b (.inr (3, [.null, .null, .null, .null, .null, .int 0])) (fun w => ∃ ad : Nat → Nat, w = kX3 G b ad) := by
  refine nm_of (by decide +kernel) (Nat.le_of_ble_eq_true rfl) (fun A => ?_)
  refine n_aload_n (I := iX3_init) dX3_init_0 rfl ?_
  refine n_objInit (I := iX3_init) lm_X3_3 dX3_init_1 (by decide) (Nat.le_of_ble_eq_true rfl) ?_
  refine n_aload_n (I := iX3_init) dX3_init_4 rfl ?_
  refine n_bipush (I := iX3_init) (v := 10) dX3_init_5 (by decide) ?_
  refine n_newI (I := iX3_init) (N := 10) (by decide) (by decide) (by decide) dX3_init_7 (by decide) (by decide) (fun q7 => ?_)
  show NW G N0 A iX3_init _ _ _ _ [(b, .inr (3, [.null, .null, .null, .null, .null, .int 0])), (q7, .inl (G.2.2.1 0, 10, .inl (fun _ => 0)))] _ _ _ _ _
  refine n_putF (ws1 := [(b, .inr (3, [.ref q7, .null, .null, .null, .null, .int 0])), (q7, .inl (G.2.2.1 0, 10, .inl (fun _ => 0)))]) (I := iX3_init) (ci := 3) (j := 0) (q0 := 0) (a := b) (fs := [.null, .null, .null, .null, .null, .int 0]) (tyv := tyX3 0) fl_X3_9 ul_X3 tyX3_ok nmX3 rfl rfl (by decide) rfl rfl rfl rfl (tyX3_ok 0 (by decide)) rfl rfl (Nat.le_of_ble_eq_true rfl) dX3_init_9 rfl ?_
  refine n_aload_n (I := iX3_init) dX3_init_12 rfl ?_
  refine n_bipush (I := iX3_init) (v := 10) dX3_init_13 (by decide) ?_
  refine n_newI (I := iX3_init) (N := 10) (by decide) (by decide) (by decide) dX3_init_15 (by decide) (by decide) (fun q15 => ?_)
  show NW G N0 A iX3_init _ _ _ _ [(b, .inr (3, [.ref q7, .null, .null, .null, .null, .int 0])), (q7, .inl (G.2.2.1 0, 10, .inl (fun _ => 0))), (q15, .inl (G.2.2.1 0, 10, .inl (fun _ => 0)))] _ _ _ _ _
  refine n_putF (ws1 := [(b, .inr (3, [.ref q7, .ref q15, .null, .null, .null, .int 0])), (q7, .inl (G.2.2.1 0, 10, .inl (fun _ => 0))), (q15, .inl (G.2.2.1 0, 10, .inl (fun _ => 0)))]) (I := iX3_init) (ci := 3) (j := 1) (q0 := 0) (a := b) (fs := [.ref q7, .null, .null, .null, .null, .int 0]) (tyv := tyX3 1) fl_X3_15 ul_X3 tyX3_ok nmX3 rfl rfl (by decide) rfl rfl rfl rfl (tyX3_ok 1 (by decide)) rfl rfl (Nat.le_of_ble_eq_true rfl) dX3_init_17 rfl ?_
  refine n_aload_n (I := iX3_init) dX3_init_20 rfl ?_
  refine n_bipush (I := iX3_init) (v := 8) dX3_init_21 (by decide) ?_
  refine n_newI (I := iX3_init) (N := 8) (by decide) (by decide) (by decide) dX3_init_23 (by decide) (by decide) (fun q23 => ?_)
  show NW G N0 A iX3_init _ _ _ _ [(b, .inr (3, [.ref q7, .ref q15, .null, .null, .null, .int 0])), (q7, .inl (G.2.2.1 0, 10, .inl (fun _ => 0))), (q15, .inl (G.2.2.1 0, 10, .inl (fun _ => 0))), (q23, .inl (G.2.2.1 0, 8, .inl (fun _ => 0)))] _ _ _ _ _
  refine n_putF (ws1 := [(b, .inr (3, [.ref q7, .ref q15, .ref q23, .null, .null, .int 0])), (q7, .inl (G.2.2.1 0, 10, .inl (fun _ => 0))), (q15, .inl (G.2.2.1 0, 10, .inl (fun _ => 0))), (q23, .inl (G.2.2.1 0, 8, .inl (fun _ => 0)))]) (I := iX3_init) (ci := 3) (j := 2) (q0 := 0) (a := b) (fs := [.ref q7, .ref q15, .null, .null, .null, .int 0]) (tyv := tyX3 2) fl_X3_18 ul_X3 tyX3_ok nmX3 rfl rfl (by decide) rfl rfl rfl rfl (tyX3_ok 2 (by decide)) rfl rfl (Nat.le_of_ble_eq_true rfl) dX3_init_25 rfl ?_
  refine n_aload_n (I := iX3_init) dX3_init_28 rfl ?_
  refine n_bipush (I := iX3_init) (v := 8) dX3_init_29 (by decide) ?_
  refine n_newI (I := iX3_init) (N := 8) (by decide) (by decide) (by decide) dX3_init_31 (by decide) (by decide) (fun q31 => ?_)
  show NW G N0 A iX3_init _ _ _ _ [(b, .inr (3, [.ref q7, .ref q15, .ref q23, .null, .null, .int 0])), (q7, .inl (G.2.2.1 0, 10, .inl (fun _ => 0))), (q15, .inl (G.2.2.1 0, 10, .inl (fun _ => 0))), (q23, .inl (G.2.2.1 0, 8, .inl (fun _ => 0))), (q31, .inl (G.2.2.1 0, 8, .inl (fun _ => 0)))] _ _ _ _ _
  refine n_putF (ws1 := [(b, .inr (3, [.ref q7, .ref q15, .ref q23, .ref q31, .null, .int 0])), (q7, .inl (G.2.2.1 0, 10, .inl (fun _ => 0))), (q15, .inl (G.2.2.1 0, 10, .inl (fun _ => 0))), (q23, .inl (G.2.2.1 0, 8, .inl (fun _ => 0))), (q31, .inl (G.2.2.1 0, 8, .inl (fun _ => 0)))]) (I := iX3_init) (ci := 3) (j := 3) (q0 := 0) (a := b) (fs := [.ref q7, .ref q15, .ref q23, .null, .null, .int 0]) (tyv := tyX3 3) fl_X3_21 ul_X3 tyX3_ok nmX3 rfl rfl (by decide) rfl rfl rfl rfl (tyX3_ok 3 (by decide)) rfl rfl (Nat.le_of_ble_eq_true rfl) dX3_init_33 rfl ?_
  refine n_aload_n (I := iX3_init) dX3_init_36 rfl ?_
  refine n_bipush (I := iX3_init) (v := 8) dX3_init_37 (by decide) ?_
  refine n_newI (I := iX3_init) (N := 8) (by decide) (by decide) (by decide) dX3_init_39 (by decide) (by decide) (fun q39 => ?_)
  show NW G N0 A iX3_init _ _ _ _ [(b, .inr (3, [.ref q7, .ref q15, .ref q23, .ref q31, .null, .int 0])), (q7, .inl (G.2.2.1 0, 10, .inl (fun _ => 0))), (q15, .inl (G.2.2.1 0, 10, .inl (fun _ => 0))), (q23, .inl (G.2.2.1 0, 8, .inl (fun _ => 0))), (q31, .inl (G.2.2.1 0, 8, .inl (fun _ => 0))), (q39, .inl (G.2.2.1 0, 8, .inl (fun _ => 0)))] _ _ _ _ _
  refine n_putF (ws1 := [(b, .inr (3, [.ref q7, .ref q15, .ref q23, .ref q31, .ref q39, .int 0])), (q7, .inl (G.2.2.1 0, 10, .inl (fun _ => 0))), (q15, .inl (G.2.2.1 0, 10, .inl (fun _ => 0))), (q23, .inl (G.2.2.1 0, 8, .inl (fun _ => 0))), (q31, .inl (G.2.2.1 0, 8, .inl (fun _ => 0))), (q39, .inl (G.2.2.1 0, 8, .inl (fun _ => 0)))]) (I := iX3_init) (ci := 3) (j := 4) (q0 := 0) (a := b) (fs := [.ref q7, .ref q15, .ref q23, .ref q31, .null, .int 0]) (tyv := tyX3 4) fl_X3_24 ul_X3 tyX3_ok nmX3 rfl rfl (by decide) rfl rfl rfl rfl (tyX3_ok 4 (by decide)) rfl rfl (Nat.le_of_ble_eq_true rfl) dX3_init_41 rfl ?_
  refine n_aload_n (I := iX3_init) dX3_init_44 rfl ?_
  refine n_iconst (I := iX3_init) (v := 0) dX3_init_45 (by decide) ?_
  refine n_put (ws1 := [(b, .inr (3, [.ref q7, .ref q15, .ref q23, .ref q31, .ref q39, .int 0])), (q7, .inl (G.2.2.1 0, 10, .inl (fun _ => 0))), (q15, .inl (G.2.2.1 0, 10, .inl (fun _ => 0))), (q23, .inl (G.2.2.1 0, 8, .inl (fun _ => 0))), (q31, .inl (G.2.2.1 0, 8, .inl (fun _ => 0))), (q39, .inl (G.2.2.1 0, 8, .inl (fun _ => 0)))]) (I := iX3_init) (ci := 3) (j := 5) (q0 := 0) (a := b) (fs := [.ref q7, .ref q15, .ref q23, .ref q31, .ref q39, .int 0]) (tyv := tyX3 5) fl_X3_27 ul_X3 tyX3_ok nmX3 rfl rfl (by decide) rfl rfl (tyX3_ok 5 (by decide)) rfl rfl (Nat.le_of_ble_eq_true rfl) dX3_init_46 rfl ?_
  exact n_vret (I := iX3_init) rfl dX3_init_49 (by decide) (by decide) ⟨rfl, fun k => [b, q7, q15, q23, q31, q39].getD k 0, rfl⟩
def kX4 (G : fGm) (b : Nat) (ad : Nat → Nat) : va_W := [(b, .inr (4, [.long 0, .long 1, .ref (ad 1), .ref (ad 2)])),
  ((ad 1), .inl (G.2.2.1 1, 199, .inr (.inl (fun _ => 0)))),
  ((ad 2), .inl (G.2.2.1 1, 199, .inr (.inl (fun _ => 0))))]
set_option maxRecDepth 100000 in
set_option maxHeartbeats 8000000 in
theorem m_init_X4 (G : fGm) (N0 b : Nat) : NM G N0 iX4_init 1 2 398 b (.inr (4, [.long 0, .long 0, .null, .null])) (fun w => ∃ ad : Nat → Nat, w = kX4 G b ad) := by
  refine nm_of (by decide +kernel) (Nat.le_of_ble_eq_true rfl) (fun A => ?_)
  refine n_aload_n (I := iX4_init) dX4_init_0 rfl ?_
  refine n_objInit (I := iX4_init) lm_X4_3 dX4_init_1 (by decide) (Nat.le_of_ble_eq_true rfl) ?_
  refine n_aload_n (I := iX4_init) dX4_init_4 rfl ?_
  refine n_lconst (I := iX4_init) (v := 0) dX4_init_5 (by decide) ?_
  refine n_put (ws1 := [(b, .inr (4, [.long 0, .long 0, .null, .null]))]) (I := iX4_init) (ci := 4) (j := 0) (q0 := 0) (a := b) (fs := [.long 0, .long 0, .null, .null]) (tyv := tyX4 0) fl_X4_9 ul_X4 tyX4_ok nmX4 rfl rfl (by decide) rfl rfl (tyX4_ok 0 (by decide)) rfl rfl (Nat.le_of_ble_eq_true rfl) dX4_init_6 rfl ?_
  refine n_aload_n (I := iX4_init) dX4_init_9 rfl ?_
  refine n_lconst (I := iX4_init) (v := 1) dX4_init_10 (by decide) ?_
  refine n_put (ws1 := [(b, .inr (4, [.long 0, .long 1, .null, .null]))]) (I := iX4_init) (ci := 4) (j := 1) (q0 := 0) (a := b) (fs := [.long 0, .long 0, .null, .null]) (tyv := tyX4 1) fl_X4_15 ul_X4 tyX4_ok nmX4 rfl rfl (by decide) rfl rfl (tyX4_ok 1 (by decide)) rfl rfl (Nat.le_of_ble_eq_true rfl) dX4_init_11 rfl ?_
  refine n_aload_n (I := iX4_init) dX4_init_14 rfl ?_
  refine n_sipush (I := iX4_init) (v := 199) dX4_init_15 (by decide) ?_
  refine n_newJ (I := iX4_init) (N := 199) (by decide) (by decide) (by decide) dX4_init_18 (by decide) (by decide) (fun q18 => ?_)
  show NW G N0 A iX4_init _ _ _ _ [(b, .inr (4, [.long 0, .long 1, .null, .null])), (q18, .inl (G.2.2.1 1, 199, .inr (.inl (fun _ => 0))))] _ _ _ _ _
  refine n_putF (ws1 := [(b, .inr (4, [.long 0, .long 1, .ref q18, .null])), (q18, .inl (G.2.2.1 1, 199, .inr (.inl (fun _ => 0))))]) (I := iX4_init) (ci := 4) (j := 2) (q0 := 0) (a := b) (fs := [.long 0, .long 1, .null, .null]) (tyv := tyX4 2) fl_X4_18 ul_X4 tyX4_ok nmX4 rfl rfl (by decide) rfl rfl rfl rfl (tyX4_ok 2 (by decide)) rfl rfl (Nat.le_of_ble_eq_true rfl) dX4_init_20 rfl ?_
  refine n_aload_n (I := iX4_init) dX4_init_23 rfl ?_
  refine n_sipush (I := iX4_init) (v := 199) dX4_init_24 (by decide) ?_
  refine n_newJ (I := iX4_init) (N := 199) (by decide) (by decide) (by decide) dX4_init_27 (by decide) (by decide) (fun q27 => ?_)
  show NW G N0 A iX4_init _ _ _ _ [(b, .inr (4, [.long 0, .long 1, .ref q18, .null])), (q18, .inl (G.2.2.1 1, 199, .inr (.inl (fun _ => 0)))), (q27, .inl (G.2.2.1 1, 199, .inr (.inl (fun _ => 0))))] _ _ _ _ _
  refine n_putF (ws1 := [(b, .inr (4, [.long 0, .long 1, .ref q18, .ref q27])), (q18, .inl (G.2.2.1 1, 199, .inr (.inl (fun _ => 0)))), (q27, .inl (G.2.2.1 1, 199, .inr (.inl (fun _ => 0))))]) (I := iX4_init) (ci := 4) (j := 3) (q0 := 0) (a := b) (fs := [.long 0, .long 1, .ref q18, .null]) (tyv := tyX4 3) fl_X4_22 ul_X4 tyX4_ok nmX4 rfl rfl (by decide) rfl rfl rfl rfl (tyX4_ok 3 (by decide)) rfl rfl (Nat.le_of_ble_eq_true rfl) dX4_init_29 rfl ?_
  exact n_vret (I := iX4_init) rfl dX4_init_32 (by decide) (by decide) ⟨rfl, fun k => [b, q18, q27].getD k 0, rfl⟩
def kX5 (G : fGm) (b : Nat) (ad : Nat → Nat) : va_W := [(b, .inr (5, [.ref (ad 1), .int 0, .int 0])),
  ((ad 1), .inl (G.2.2.1 0, 24, .inl (fun _ => 0)))]
set_option maxRecDepth 100000 in
set_option maxHeartbeats 8000000 in
theorem m_init_X5 (G : fGm) (N0 b : Nat) : NM G N0 iX5_init 1 1 24 b (.inr (5, [.null, .int 0, .int 0])) (fun w => ∃ ad : Nat → Nat, w = kX5 G b ad) := by
  refine nm_of (by decide +kernel) (Nat.le_of_ble_eq_true rfl) (fun A => ?_)
  refine n_aload_n (I := iX5_init) dX5_init_0 rfl ?_
  refine n_objInit (I := iX5_init) lm_X5_3 dX5_init_1 (by decide) (Nat.le_of_ble_eq_true rfl) ?_
  refine n_aload_n (I := iX5_init) dX5_init_4 rfl ?_
  refine n_bipush (I := iX5_init) (v := 24) dX5_init_5 (by decide) ?_
  refine n_newI (I := iX5_init) (N := 24) (by decide) (by decide) (by decide) dX5_init_7 (by decide) (by decide) (fun q7 => ?_)
  show NW G N0 A iX5_init _ _ _ _ [(b, .inr (5, [.null, .int 0, .int 0])), (q7, .inl (G.2.2.1 0, 24, .inl (fun _ => 0)))] _ _ _ _ _
  refine n_putF (ws1 := [(b, .inr (5, [.ref q7, .int 0, .int 0])), (q7, .inl (G.2.2.1 0, 24, .inl (fun _ => 0)))]) (I := iX5_init) (ci := 5) (j := 0) (q0 := 0) (a := b) (fs := [.null, .int 0, .int 0]) (tyv := tyX5 0) fl_X5_9 ul_X5 tyX5_ok nmX5 rfl rfl (by decide) rfl rfl rfl rfl (tyX5_ok 0 (by decide)) rfl rfl (Nat.le_of_ble_eq_true rfl) dX5_init_9 rfl ?_
  refine n_aload_n (I := iX5_init) dX5_init_12 rfl ?_
  refine n_iconst (I := iX5_init) (v := 0) dX5_init_13 (by decide) ?_
  refine n_put (ws1 := [(b, .inr (5, [.ref q7, .int 0, .int 0])), (q7, .inl (G.2.2.1 0, 24, .inl (fun _ => 0)))]) (I := iX5_init) (ci := 5) (j := 1) (q0 := 0) (a := b) (fs := [.ref q7, .int 0, .int 0]) (tyv := tyX5 1) fl_X5_15 ul_X5 tyX5_ok nmX5 rfl rfl (by decide) rfl rfl (tyX5_ok 1 (by decide)) rfl rfl (Nat.le_of_ble_eq_true rfl) dX5_init_14 rfl ?_
  refine n_aload_n (I := iX5_init) dX5_init_17 rfl ?_
  refine n_iconst (I := iX5_init) (v := 0) dX5_init_18 (by decide) ?_
  refine n_put (ws1 := [(b, .inr (5, [.ref q7, .int 0, .int 0])), (q7, .inl (G.2.2.1 0, 24, .inl (fun _ => 0)))]) (I := iX5_init) (ci := 5) (j := 2) (q0 := 0) (a := b) (fs := [.ref q7, .int 0, .int 0]) (tyv := tyX5 2) fl_X5_19 ul_X5 tyX5_ok nmX5 rfl rfl (by decide) rfl rfl (tyX5_ok 2 (by decide)) rfl rfl (Nat.le_of_ble_eq_true rfl) dX5_init_19 rfl ?_
  exact n_vret (I := iX5_init) rfl dX5_init_22 (by decide) (by decide) ⟨rfl, fun k => [b, q7].getD k 0, rfl⟩
def kX6 (G : fGm) (b : Nat) (ad : Nat → Nat) : va_W := [(b, .inr (6, [.ref (ad 1), .int 0, .int 0, .int 0, .int 0, .int 0])),
  ((ad 1), .inl (G.2.2.1 0, 30, .inl (fun _ => 0)))]
set_option maxRecDepth 100000 in
set_option maxHeartbeats 8000000 in
theorem m_init_X6 (G : fGm) (N0 b : Nat) : NM G N0 iX6_init 1 1 30 b (.inr (6, [.null, .int 0, .int 0, .int 0, .int 0, .int 0])) (fun w => ∃ ad : Nat → Nat, w = kX6 G b ad) := by
  refine nm_of (by decide +kernel) (Nat.le_of_ble_eq_true rfl) (fun A => ?_)
  refine n_aload_n (I := iX6_init) dX6_init_0 rfl ?_
  refine n_objInit (I := iX6_init) lm_X6_3 dX6_init_1 (by decide) (Nat.le_of_ble_eq_true rfl) ?_
  refine n_aload_n (I := iX6_init) dX6_init_4 rfl ?_
  refine n_bipush (I := iX6_init) (v := 30) dX6_init_5 (by decide) ?_
  refine n_newI (I := iX6_init) (N := 30) (by decide) (by decide) (by decide) dX6_init_7 (by decide) (by decide) (fun q7 => ?_)
  show NW G N0 A iX6_init _ _ _ _ [(b, .inr (6, [.null, .int 0, .int 0, .int 0, .int 0, .int 0])), (q7, .inl (G.2.2.1 0, 30, .inl (fun _ => 0)))] _ _ _ _ _
  refine n_putF (ws1 := [(b, .inr (6, [.ref q7, .int 0, .int 0, .int 0, .int 0, .int 0])), (q7, .inl (G.2.2.1 0, 30, .inl (fun _ => 0)))]) (I := iX6_init) (ci := 6) (j := 0) (q0 := 0) (a := b) (fs := [.null, .int 0, .int 0, .int 0, .int 0, .int 0]) (tyv := tyX6 0) fl_X6_9 ul_X6 tyX6_ok nmX6 rfl rfl (by decide) rfl rfl rfl rfl (tyX6_ok 0 (by decide)) rfl rfl (Nat.le_of_ble_eq_true rfl) dX6_init_9 rfl ?_
  refine n_aload_n (I := iX6_init) dX6_init_12 rfl ?_
  refine n_iconst (I := iX6_init) (v := 0) dX6_init_13 (by decide) ?_
  refine n_put (ws1 := [(b, .inr (6, [.ref q7, .int 0, .int 0, .int 0, .int 0, .int 0])), (q7, .inl (G.2.2.1 0, 30, .inl (fun _ => 0)))]) (I := iX6_init) (ci := 6) (j := 1) (q0 := 0) (a := b) (fs := [.ref q7, .int 0, .int 0, .int 0, .int 0, .int 0]) (tyv := tyX6 1) fl_X6_15 ul_X6 tyX6_ok nmX6 rfl rfl (by decide) rfl rfl (tyX6_ok 1 (by decide)) rfl rfl (Nat.le_of_ble_eq_true rfl) dX6_init_14 rfl ?_
  refine n_aload_n (I := iX6_init) dX6_init_17 rfl ?_
  refine n_iconst (I := iX6_init) (v := 0) dX6_init_18 (by decide) ?_
  refine n_put (ws1 := [(b, .inr (6, [.ref q7, .int 0, .int 0, .int 0, .int 0, .int 0])), (q7, .inl (G.2.2.1 0, 30, .inl (fun _ => 0)))]) (I := iX6_init) (ci := 6) (j := 2) (q0 := 0) (a := b) (fs := [.ref q7, .int 0, .int 0, .int 0, .int 0, .int 0]) (tyv := tyX6 2) fl_X6_19 ul_X6 tyX6_ok nmX6 rfl rfl (by decide) rfl rfl (tyX6_ok 2 (by decide)) rfl rfl (Nat.le_of_ble_eq_true rfl) dX6_init_19 rfl ?_
  exact n_vret (I := iX6_init) rfl dX6_init_22 (by decide) (by decide) ⟨rfl, fun k => [b, q7].getD k 0, rfl⟩
def kX7 (G : fGm) (b : Nat) (ad : Nat → Nat) : va_W := [(b, .inr (7, [.ref (ad 1), .int 0, .ref (ad 2)])),
  ((ad 1), .inl (G.2.2.1 0, 60, .inl (fun _ => 0))),
  ((ad 2), .inl (G.2.2.1 0, 60, .inl (fun _ => 0)))]
set_option maxRecDepth 100000 in
set_option maxHeartbeats 8000000 in
theorem m_init_X7 (G : fGm) (N0 b : Nat) : NM G N0 iX7_init 1 2 120 b (.inr (7, [.null, .int 0, .null])) (fun w => ∃ ad : Nat → Nat, w = kX7 G b ad) := by
  refine nm_of (by decide +kernel) (Nat.le_of_ble_eq_true rfl) (fun A => ?_)
  refine n_aload_n (I := iX7_init) dX7_init_0 rfl ?_
  refine n_objInit (I := iX7_init) lm_X7_3 dX7_init_1 (by decide) (Nat.le_of_ble_eq_true rfl) ?_
  refine n_aload_n (I := iX7_init) dX7_init_4 rfl ?_
  refine n_bipush (I := iX7_init) (v := 60) dX7_init_5 (by decide) ?_
  refine n_newI (I := iX7_init) (N := 60) (by decide) (by decide) (by decide) dX7_init_7 (by decide) (by decide) (fun q7 => ?_)
  show NW G N0 A iX7_init _ _ _ _ [(b, .inr (7, [.null, .int 0, .null])), (q7, .inl (G.2.2.1 0, 60, .inl (fun _ => 0)))] _ _ _ _ _
  refine n_putF (ws1 := [(b, .inr (7, [.ref q7, .int 0, .null])), (q7, .inl (G.2.2.1 0, 60, .inl (fun _ => 0)))]) (I := iX7_init) (ci := 7) (j := 0) (q0 := 0) (a := b) (fs := [.null, .int 0, .null]) (tyv := tyX7 0) fl_X7_9 ul_X7 tyX7_ok nmX7 rfl rfl (by decide) rfl rfl rfl rfl (tyX7_ok 0 (by decide)) rfl rfl (Nat.le_of_ble_eq_true rfl) dX7_init_9 rfl ?_
  refine n_aload_n (I := iX7_init) dX7_init_12 rfl ?_
  refine n_iconst (I := iX7_init) (v := 0) dX7_init_13 (by decide) ?_
  refine n_put (ws1 := [(b, .inr (7, [.ref q7, .int 0, .null])), (q7, .inl (G.2.2.1 0, 60, .inl (fun _ => 0)))]) (I := iX7_init) (ci := 7) (j := 1) (q0 := 0) (a := b) (fs := [.ref q7, .int 0, .null]) (tyv := tyX7 1) fl_X7_15 ul_X7 tyX7_ok nmX7 rfl rfl (by decide) rfl rfl (tyX7_ok 1 (by decide)) rfl rfl (Nat.le_of_ble_eq_true rfl) dX7_init_14 rfl ?_
  refine n_aload_n (I := iX7_init) dX7_init_17 rfl ?_
  refine n_bipush (I := iX7_init) (v := 60) dX7_init_18 (by decide) ?_
  refine n_newI (I := iX7_init) (N := 60) (by decide) (by decide) (by decide) dX7_init_20 (by decide) (by decide) (fun q20 => ?_)
  show NW G N0 A iX7_init _ _ _ _ [(b, .inr (7, [.ref q7, .int 0, .null])), (q7, .inl (G.2.2.1 0, 60, .inl (fun _ => 0))), (q20, .inl (G.2.2.1 0, 60, .inl (fun _ => 0)))] _ _ _ _ _
  refine n_putF (ws1 := [(b, .inr (7, [.ref q7, .int 0, .ref q20])), (q7, .inl (G.2.2.1 0, 60, .inl (fun _ => 0))), (q20, .inl (G.2.2.1 0, 60, .inl (fun _ => 0)))]) (I := iX7_init) (ci := 7) (j := 2) (q0 := 0) (a := b) (fs := [.ref q7, .int 0, .null]) (tyv := tyX7 2) fl_X7_19 ul_X7 tyX7_ok nmX7 rfl rfl (by decide) rfl rfl rfl rfl (tyX7_ok 2 (by decide)) rfl rfl (Nat.le_of_ble_eq_true rfl) dX7_init_22 rfl ?_
  exact n_vret (I := iX7_init) rfl dX7_init_25 (by decide) (by decide) ⟨rfl, fun k => [b, q7, q20].getD k 0, rfl⟩
