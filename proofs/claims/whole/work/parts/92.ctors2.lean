def kX2 (G : fGm) (b : Nat) (ad : Nat → Nat) : va_W := [(b, .inr (2, [.ref (ad 1), .ref (ad 4), .int 0, .int 0, .int 0, .int 0, .int 1])),
  ((ad 1), .inr (7, [.ref (ad 2), .int 0, .ref (ad 3)])),
  ((ad 2), .inl (G.2.2.1 0, 60, .inl (fun _ => 0))),
  ((ad 3), .inl (G.2.2.1 0, 60, .inl (fun _ => 0))),
  ((ad 4), .inl (G.2.2.1 0, 60, .inl (fun _ => 0)))]
set_option maxRecDepth 100000 in
set_option maxHeartbeats 8000000 in
theorem m_init_X2 (G : fGm) (N0 b : Nat) : NM G N0 iX2_init 2 4 183 b (.inr (2, [.null, .null, .int 0, .int 0, .int 0, .int 0, .int 0])) (fun w => ∃ ad : Nat → Nat, w = kX2 G b ad) := by
  refine nm_of (by decide +kernel) (Nat.le_of_ble_eq_true rfl) (fun A => ?_)
  refine n_aload_n (I := iX2_init) dX2_init_0 rfl ?_
  refine n_objInit (I := iX2_init) lm_X2_3 dX2_init_1 (by decide) (Nat.le_of_ble_eq_true rfl) ?_
  refine n_aload_n (I := iX2_init) dX2_init_4 rfl ?_
  refine n_new (I := iX2_init) (ci := 7) (fs := [.null, .int 0, .null]) cl_X2_9 inst_X7 ini_FirstSteps_Text ul_X7 tyX7_ok rfl df_X7 dX2_init_5 (by decide) (by decide) (fun q5 => ?_)
  refine n_dup (I := iX2_init) dX2_init_8 rfl ?_
  refine n_init (I := iX2_init) (I' := iX7_init) lk_X2_11 c_X7_init rfl dX2_init_9 (m_init_X7 G N0 q5) rfl (by decide) (by decide) (Nat.le_of_ble_eq_true rfl) (by decide) (by decide) (fun w1 hw1 => ?_)
  obtain ⟨a9, rfl⟩ := hw1
  show NW G N0 A iX2_init _ _ _ _ ([(b, .inr (2, [.null, .null, .int 0, .int 0, .int 0, .int 0, .int 0]))] ++ kX7 G q5 a9) _ _ _ _ _
  refine n_putF (ws1 := ([(b, .inr (2, [.ref q5, .null, .int 0, .int 0, .int 0, .int 0, .int 0]))] ++ kX7 G q5 a9)) (I := iX2_init) (ci := 2) (j := 0) (q0 := 0) (a := b) (fs := [.null, .null, .int 0, .int 0, .int 0, .int 0, .int 0]) (tyv := tyX2 0) fl_X2_12 ul_X2 tyX2_ok nmX2 rfl rfl (by decide) rfl rfl rfl rfl (tyX2_ok 0 (by decide)) rfl rfl (Nat.le_of_ble_eq_true rfl) dX2_init_12 rfl ?_
  refine n_aload_n (I := iX2_init) dX2_init_15 rfl ?_
  refine n_bipush (I := iX2_init) (v := 60) dX2_init_16 (by decide) ?_
  refine n_newI (I := iX2_init) (N := 60) (by decide) (by decide) (by decide) dX2_init_18 (by decide) (by decide) (fun q18 => ?_)
  refine n_putF (ws1 := (([(b, .inr (2, [.ref q5, .ref q18, .int 0, .int 0, .int 0, .int 0, .int 0]))] ++ kX7 G q5 a9) ++ [(q18, .inl (G.2.2.1 0, 60, .inl (fun _ => 0)))])) (I := iX2_init) (ci := 2) (j := 1) (q0 := 0) (a := b) (fs := [.ref q5, .null, .int 0, .int 0, .int 0, .int 0, .int 0]) (tyv := tyX2 1) fl_X2_18 ul_X2 tyX2_ok nmX2 rfl rfl (by decide) rfl rfl rfl rfl (tyX2_ok 1 (by decide)) rfl rfl (Nat.le_of_ble_eq_true rfl) dX2_init_20 rfl ?_
  refine n_aload_n (I := iX2_init) dX2_init_23 rfl ?_
  refine n_iconst (I := iX2_init) (v := 0) dX2_init_24 (by decide) ?_
  refine n_put (ws1 := (([(b, .inr (2, [.ref q5, .ref q18, .int 0, .int 0, .int 0, .int 0, .int 0]))] ++ kX7 G q5 a9) ++ [(q18, .inl (G.2.2.1 0, 60, .inl (fun _ => 0)))])) (I := iX2_init) (ci := 2) (j := 2) (q0 := 0) (a := b) (fs := [.ref q5, .ref q18, .int 0, .int 0, .int 0, .int 0, .int 0]) (tyv := tyX2 2) fl_X2_22 ul_X2 tyX2_ok nmX2 rfl rfl (by decide) rfl rfl (tyX2_ok 2 (by decide)) rfl rfl (Nat.le_of_ble_eq_true rfl) dX2_init_25 rfl ?_
  refine n_aload_n (I := iX2_init) dX2_init_28 rfl ?_
  refine n_iconst (I := iX2_init) (v := 0) dX2_init_29 (by decide) ?_
  refine n_put (ws1 := (([(b, .inr (2, [.ref q5, .ref q18, .int 0, .int 0, .int 0, .int 0, .int 0]))] ++ kX7 G q5 a9) ++ [(q18, .inl (G.2.2.1 0, 60, .inl (fun _ => 0)))])) (I := iX2_init) (ci := 2) (j := 3) (q0 := 0) (a := b) (fs := [.ref q5, .ref q18, .int 0, .int 0, .int 0, .int 0, .int 0]) (tyv := tyX2 3) fl_X2_26 ul_X2 tyX2_ok nmX2 rfl rfl (by decide) rfl rfl (tyX2_ok 3 (by decide)) rfl rfl (Nat.le_of_ble_eq_true rfl) dX2_init_30 rfl ?_
  refine n_aload_n (I := iX2_init) dX2_init_33 rfl ?_
  refine n_iconst (I := iX2_init) (v := 0) dX2_init_34 (by decide) ?_
  refine n_put (ws1 := (([(b, .inr (2, [.ref q5, .ref q18, .int 0, .int 0, .int 0, .int 0, .int 0]))] ++ kX7 G q5 a9) ++ [(q18, .inl (G.2.2.1 0, 60, .inl (fun _ => 0)))])) (I := iX2_init) (ci := 2) (j := 4) (q0 := 0) (a := b) (fs := [.ref q5, .ref q18, .int 0, .int 0, .int 0, .int 0, .int 0]) (tyv := tyX2 4) fl_X2_29 ul_X2 tyX2_ok nmX2 rfl rfl (by decide) rfl rfl (tyX2_ok 4 (by decide)) rfl rfl (Nat.le_of_ble_eq_true rfl) dX2_init_35 rfl ?_
  refine n_aload_n (I := iX2_init) dX2_init_38 rfl ?_
  refine n_iconst (I := iX2_init) (v := 0) dX2_init_39 (by decide) ?_
  refine n_put (ws1 := (([(b, .inr (2, [.ref q5, .ref q18, .int 0, .int 0, .int 0, .int 0, .int 0]))] ++ kX7 G q5 a9) ++ [(q18, .inl (G.2.2.1 0, 60, .inl (fun _ => 0)))])) (I := iX2_init) (ci := 2) (j := 5) (q0 := 0) (a := b) (fs := [.ref q5, .ref q18, .int 0, .int 0, .int 0, .int 0, .int 0]) (tyv := tyX2 5) fl_X2_32 ul_X2 tyX2_ok nmX2 rfl rfl (by decide) rfl rfl (tyX2_ok 5 (by decide)) rfl rfl (Nat.le_of_ble_eq_true rfl) dX2_init_40 rfl ?_
  refine n_aload_n (I := iX2_init) dX2_init_43 rfl ?_
  refine n_iconst (I := iX2_init) (v := 1) dX2_init_44 (by decide) ?_
  refine n_put (ws1 := (([(b, .inr (2, [.ref q5, .ref q18, .int 0, .int 0, .int 0, .int 0, .int 1]))] ++ kX7 G q5 a9) ++ [(q18, .inl (G.2.2.1 0, 60, .inl (fun _ => 0)))])) (I := iX2_init) (ci := 2) (j := 6) (q0 := 0) (a := b) (fs := [.ref q5, .ref q18, .int 0, .int 0, .int 0, .int 0, .int 0]) (tyv := tyX2 6) fl_X2_35 ul_X2 tyX2_ok nmX2 rfl rfl (by decide) rfl rfl (tyX2_ok 6 (by decide)) rfl rfl (Nat.le_of_ble_eq_true rfl) dX2_init_45 rfl ?_
  exact n_vret (I := iX2_init) rfl dX2_init_48 (by decide) (by decide) ⟨rfl, fun k => [b, q5, (a9 1), (a9 2), q18].getD k 0, rfl⟩
def kX8 (G : fGm) (b : Nat) (ad : Nat → Nat) : va_W := [(b, .inr (8, [.ref (ad 1), .ref (ad 2), .ref (ad 8), .ref (ad 12), .ref (ad 15), .ref (ad 18), .ref (ad 19), .int 0, .int 0, .ref (ad 20), .ref (ad 21)])),
  ((ad 1), .inl (G.2.2.1 0, 15, .inl (fun j => (sTb 0).getD j 0))),
  ((ad 2), .inr (3, [.ref (ad 3), .ref (ad 4), .ref (ad 5), .ref (ad 6), .ref (ad 7), .int 0])),
  ((ad 3), .inl (G.2.2.1 0, 10, .inl (fun _ => 0))),
  ((ad 4), .inl (G.2.2.1 0, 10, .inl (fun _ => 0))),
  ((ad 5), .inl (G.2.2.1 0, 8, .inl (fun _ => 0))),
  ((ad 6), .inl (G.2.2.1 0, 8, .inl (fun _ => 0))),
  ((ad 7), .inl (G.2.2.1 0, 8, .inl (fun _ => 0))),
  ((ad 8), .inr (1, [.ref (ad 9), .ref (ad 10), .ref (ad 11), .int 0])),
  ((ad 9), .inl (G.2.2.1 0, 8, .inl (fun _ => 0))),
  ((ad 10), .inl (G.2.2.1 0, 8, .inl (fun _ => 0))),
  ((ad 11), .inl (G.2.2.1 0, 8, .inl (fun _ => 0))),
  ((ad 12), .inr (7, [.ref (ad 13), .int 0, .ref (ad 14)])),
  ((ad 13), .inl (G.2.2.1 0, 60, .inl (fun _ => 0))),
  ((ad 14), .inl (G.2.2.1 0, 60, .inl (fun _ => 0))),
  ((ad 15), .inr (7, [.ref (ad 16), .int 0, .ref (ad 17)])),
  ((ad 16), .inl (G.2.2.1 0, 60, .inl (fun _ => 0))),
  ((ad 17), .inl (G.2.2.1 0, 60, .inl (fun _ => 0))),
  ((ad 18), .inl (G.2.2.1 0, 60, .inl (fun _ => 0))),
  ((ad 19), .inl (G.2.2.1 0, 24, .inl (fun _ => 0))),
  ((ad 20), .inr (0, [.int 0, .int 0, .int 0, .int 0])),
  ((ad 21), .inl (G.2.2.1 0, 5, .inl (fun _ => 0)))]
set_option maxRecDepth 100000 in
set_option maxHeartbeats 8000000 in
theorem m_init_X8 (G : fGm) (N0 b : Nat) : NM G N0 iX8_init 2 21 432 b (.inr (8, [.null, .null, .null, .null, .null, .null, .null, .int 0, .int 0, .null, .null])) (fun w => ∃ ad : Nat → Nat, w = kX8 G b ad) := by
  refine nm_of (by decide +kernel) (Nat.le_of_ble_eq_true rfl) (fun A => ?_)
  refine n_aload_n (I := iX8_init) dX8_init_0 rfl ?_
  refine n_objInit (I := iX8_init) lm_X8_3 dX8_init_1 (by decide) (Nat.le_of_ble_eq_true rfl) ?_
  refine n_aload_n (I := iX8_init) dX8_init_4 rfl ?_
  refine n_getsF (I := iX8_init) fln_X8_9 dX8_init_5 ?_
  refine n_clone (I := iX8_init) rfl dX8_init_8 (by decide) (Nat.le_of_ble_eq_true rfl) (by decide) (by decide) (fun q8 => ?_)
  show NW G N0 A iX8_init _ _ _ _ [(b, .inr (8, [.null, .null, .null, .null, .null, .null, .null, .int 0, .int 0, .null, .null])), (q8, .inl (G.2.2.1 0, 15, .inl (fun j => (sTb 0).getD j 0)))] _ _ _ _ _
  refine n_castI (I := iX8_init) (q0 := 1) (n := 15) (f := (fun j => (sTb 0).getD j 0)) wk_cl rfl dX8_init_11 ?_
  refine n_putF (ws1 := [(b, .inr (8, [.ref q8, .null, .null, .null, .null, .null, .null, .int 0, .int 0, .null, .null])), (q8, .inl (G.2.2.1 0, 15, .inl (fun j => (sTb 0).getD j 0)))]) (I := iX8_init) (ci := 8) (j := 0) (q0 := 0) (a := b) (fs := [.null, .null, .null, .null, .null, .null, .null, .int 0, .int 0, .null, .null]) (tyv := tyX8 0) fl_X8_18 ul_X8 tyX8_ok nmX8 rfl rfl (by decide) rfl rfl rfl rfl (tyX8_ok 0 (by decide)) rfl rfl (Nat.le_of_ble_eq_true rfl) dX8_init_14 rfl ?_
  refine n_aload_n (I := iX8_init) dX8_init_17 rfl ?_
  refine n_new (I := iX8_init) (ci := 3) (fs := [.null, .null, .null, .null, .null, .int 0]) cl_X8_23 inst_X3 ini_FirstSteps_Room ul_X3 tyX3_ok rfl df_X3 dX8_init_18 (by decide) (by decide) (fun q18 => ?_)
  refine n_dup (I := iX8_init) dX8_init_21 rfl ?_
  refine n_init (I := iX8_init) (I' := iX3_init) lk_X8_25 c_X3_init rfl dX8_init_22 (m_init_X3 G N0 q18) rfl (by decide) (by decide) (Nat.le_of_ble_eq_true rfl) (by decide) (by decide) (fun w1 hw1 => ?_)
  obtain ⟨a22, rfl⟩ := hw1
  show NW G N0 A iX8_init _ _ _ _ ([(b, .inr (8, [.ref q8, .null, .null, .null, .null, .null, .null, .int 0, .int 0, .null, .null])), (q8, .inl (G.2.2.1 0, 15, .inl (fun j => (sTb 0).getD j 0)))] ++ kX3 G q18 a22) _ _ _ _ _
  refine n_putF (ws1 := ([(b, .inr (8, [.ref q8, .ref q18, .null, .null, .null, .null, .null, .int 0, .int 0, .null, .null])), (q8, .inl (G.2.2.1 0, 15, .inl (fun j => (sTb 0).getD j 0)))] ++ kX3 G q18 a22)) (I := iX8_init) (ci := 8) (j := 1) (q0 := 0) (a := b) (fs := [.ref q8, .null, .null, .null, .null, .null, .null, .int 0, .int 0, .null, .null]) (tyv := tyX8 1) fl_X8_26 ul_X8 tyX8_ok nmX8 rfl rfl (by decide) rfl rfl rfl rfl (tyX8_ok 1 (by decide)) rfl rfl (Nat.le_of_ble_eq_true rfl) dX8_init_25 rfl ?_
  refine n_aload_n (I := iX8_init) dX8_init_28 rfl ?_
  refine n_new (I := iX8_init) (ci := 1) (fs := [.null, .null, .null, .int 0]) cl_X8_30 inst_X1 ini_FirstSteps_Goings ul_X1 tyX1_ok rfl df_X1 dX8_init_29 (by decide) (by decide) (fun q29 => ?_)
  refine n_dup (I := iX8_init) dX8_init_32 rfl ?_
  refine n_init (I := iX8_init) (I' := iX1_init) lk_X8_32 c_X1_init rfl dX8_init_33 (m_init_X1 G N0 q29) rfl (by decide) (by decide) (Nat.le_of_ble_eq_true rfl) (by decide) (by decide) (fun w1 hw1 => ?_)
  obtain ⟨a33, rfl⟩ := hw1
  show NW G N0 A iX8_init _ _ _ _ (([(b, .inr (8, [.ref q8, .ref q18, .null, .null, .null, .null, .null, .int 0, .int 0, .null, .null])), (q8, .inl (G.2.2.1 0, 15, .inl (fun j => (sTb 0).getD j 0)))] ++ kX3 G q18 a22) ++ kX1 G q29 a33) _ _ _ _ _
  refine n_putF (ws1 := (([(b, .inr (8, [.ref q8, .ref q18, .ref q29, .null, .null, .null, .null, .int 0, .int 0, .null, .null])), (q8, .inl (G.2.2.1 0, 15, .inl (fun j => (sTb 0).getD j 0)))] ++ kX3 G q18 a22) ++ kX1 G q29 a33)) (I := iX8_init) (ci := 8) (j := 2) (q0 := 0) (a := b) (fs := [.ref q8, .ref q18, .null, .null, .null, .null, .null, .int 0, .int 0, .null, .null]) (tyv := tyX8 2) fl_X8_33 ul_X8 tyX8_ok nmX8 rfl rfl (by decide) rfl rfl rfl rfl (tyX8_ok 2 (by decide)) rfl rfl (Nat.le_of_ble_eq_true rfl) dX8_init_36 rfl ?_
  refine n_aload_n (I := iX8_init) dX8_init_39 rfl ?_
  refine n_new (I := iX8_init) (ci := 7) (fs := [.null, .int 0, .null]) cl_X8_37 inst_X7 ini_FirstSteps_Text ul_X7 tyX7_ok rfl df_X7 dX8_init_40 (by decide) (by decide) (fun q40 => ?_)
  refine n_dup (I := iX8_init) dX8_init_43 rfl ?_
  refine n_init (I := iX8_init) (I' := iX7_init) lk_X8_39 c_X7_init rfl dX8_init_44 (m_init_X7 G N0 q40) rfl (by decide) (by decide) (Nat.le_of_ble_eq_true rfl) (by decide) (by decide) (fun w1 hw1 => ?_)
  obtain ⟨a44, rfl⟩ := hw1
  show NW G N0 A iX8_init _ _ _ _ ((([(b, .inr (8, [.ref q8, .ref q18, .ref q29, .null, .null, .null, .null, .int 0, .int 0, .null, .null])), (q8, .inl (G.2.2.1 0, 15, .inl (fun j => (sTb 0).getD j 0)))] ++ kX3 G q18 a22) ++ kX1 G q29 a33) ++ kX7 G q40 a44) _ _ _ _ _
  refine n_putF (ws1 := ((([(b, .inr (8, [.ref q8, .ref q18, .ref q29, .ref q40, .null, .null, .null, .int 0, .int 0, .null, .null])), (q8, .inl (G.2.2.1 0, 15, .inl (fun j => (sTb 0).getD j 0)))] ++ kX3 G q18 a22) ++ kX1 G q29 a33) ++ kX7 G q40 a44)) (I := iX8_init) (ci := 8) (j := 3) (q0 := 0) (a := b) (fs := [.ref q8, .ref q18, .ref q29, .null, .null, .null, .null, .int 0, .int 0, .null, .null]) (tyv := tyX8 3) fl_X8_40 ul_X8 tyX8_ok nmX8 rfl rfl (by decide) rfl rfl rfl rfl (tyX8_ok 3 (by decide)) rfl rfl (Nat.le_of_ble_eq_true rfl) dX8_init_47 rfl ?_
  refine n_aload_n (I := iX8_init) dX8_init_50 rfl ?_
  refine n_new (I := iX8_init) (ci := 7) (fs := [.null, .int 0, .null]) cl_X8_37 inst_X7 ini_FirstSteps_Text ul_X7 tyX7_ok rfl df_X7 dX8_init_51 (by decide) (by decide) (fun q51 => ?_)
  refine n_dup (I := iX8_init) dX8_init_54 rfl ?_
  refine n_init (I := iX8_init) (I' := iX7_init) lk_X8_39 c_X7_init rfl dX8_init_55 (m_init_X7 G N0 q51) rfl (by decide) (by decide) (Nat.le_of_ble_eq_true rfl) (by decide) (by decide) (fun w1 hw1 => ?_)
  obtain ⟨a55, rfl⟩ := hw1
  show NW G N0 A iX8_init _ _ _ _ (((([(b, .inr (8, [.ref q8, .ref q18, .ref q29, .ref q40, .null, .null, .null, .int 0, .int 0, .null, .null])), (q8, .inl (G.2.2.1 0, 15, .inl (fun j => (sTb 0).getD j 0)))] ++ kX3 G q18 a22) ++ kX1 G q29 a33) ++ kX7 G q40 a44) ++ kX7 G q51 a55) _ _ _ _ _
  refine n_putF (ws1 := (((([(b, .inr (8, [.ref q8, .ref q18, .ref q29, .ref q40, .ref q51, .null, .null, .int 0, .int 0, .null, .null])), (q8, .inl (G.2.2.1 0, 15, .inl (fun j => (sTb 0).getD j 0)))] ++ kX3 G q18 a22) ++ kX1 G q29 a33) ++ kX7 G q40 a44) ++ kX7 G q51 a55)) (I := iX8_init) (ci := 8) (j := 4) (q0 := 0) (a := b) (fs := [.ref q8, .ref q18, .ref q29, .ref q40, .null, .null, .null, .int 0, .int 0, .null, .null]) (tyv := tyX8 4) fl_X8_44 ul_X8 tyX8_ok nmX8 rfl rfl (by decide) rfl rfl rfl rfl (tyX8_ok 4 (by decide)) rfl rfl (Nat.le_of_ble_eq_true rfl) dX8_init_58 rfl ?_
  refine n_aload_n (I := iX8_init) dX8_init_61 rfl ?_
  refine n_bipush (I := iX8_init) (v := 60) dX8_init_62 (by decide) ?_
  refine n_newI (I := iX8_init) (N := 60) (by decide) (by decide) (by decide) dX8_init_64 (by decide) (by decide) (fun q64 => ?_)
  refine n_putF (ws1 := ((((([(b, .inr (8, [.ref q8, .ref q18, .ref q29, .ref q40, .ref q51, .ref q64, .null, .int 0, .int 0, .null, .null])), (q8, .inl (G.2.2.1 0, 15, .inl (fun j => (sTb 0).getD j 0)))] ++ kX3 G q18 a22) ++ kX1 G q29 a33) ++ kX7 G q40 a44) ++ kX7 G q51 a55) ++ [(q64, .inl (G.2.2.1 0, 60, .inl (fun _ => 0)))])) (I := iX8_init) (ci := 8) (j := 5) (q0 := 0) (a := b) (fs := [.ref q8, .ref q18, .ref q29, .ref q40, .ref q51, .null, .null, .int 0, .int 0, .null, .null]) (tyv := tyX8 5) fl_X8_47 ul_X8 tyX8_ok nmX8 rfl rfl (by decide) rfl rfl rfl rfl (tyX8_ok 5 (by decide)) rfl rfl (Nat.le_of_ble_eq_true rfl) dX8_init_66 rfl ?_
  refine n_aload_n (I := iX8_init) dX8_init_69 rfl ?_
  refine n_bipush (I := iX8_init) (v := 24) dX8_init_70 (by decide) ?_
  refine n_newI (I := iX8_init) (N := 24) (by decide) (by decide) (by decide) dX8_init_72 (by decide) (by decide) (fun q72 => ?_)
  refine n_putF (ws1 := (((((([(b, .inr (8, [.ref q8, .ref q18, .ref q29, .ref q40, .ref q51, .ref q64, .ref q72, .int 0, .int 0, .null, .null])), (q8, .inl (G.2.2.1 0, 15, .inl (fun j => (sTb 0).getD j 0)))] ++ kX3 G q18 a22) ++ kX1 G q29 a33) ++ kX7 G q40 a44) ++ kX7 G q51 a55) ++ [(q64, .inl (G.2.2.1 0, 60, .inl (fun _ => 0)))]) ++ [(q72, .inl (G.2.2.1 0, 24, .inl (fun _ => 0)))])) (I := iX8_init) (ci := 8) (j := 6) (q0 := 0) (a := b) (fs := [.ref q8, .ref q18, .ref q29, .ref q40, .ref q51, .ref q64, .null, .int 0, .int 0, .null, .null]) (tyv := tyX8 6) fl_X8_50 ul_X8 tyX8_ok nmX8 rfl rfl (by decide) rfl rfl rfl rfl (tyX8_ok 6 (by decide)) rfl rfl (Nat.le_of_ble_eq_true rfl) dX8_init_74 rfl ?_
  refine n_aload_n (I := iX8_init) dX8_init_77 rfl ?_
  refine n_iconst (I := iX8_init) (v := 0) dX8_init_78 (by decide) ?_
  refine n_put (ws1 := (((((([(b, .inr (8, [.ref q8, .ref q18, .ref q29, .ref q40, .ref q51, .ref q64, .ref q72, .int 0, .int 0, .null, .null])), (q8, .inl (G.2.2.1 0, 15, .inl (fun j => (sTb 0).getD j 0)))] ++ kX3 G q18 a22) ++ kX1 G q29 a33) ++ kX7 G q40 a44) ++ kX7 G q51 a55) ++ [(q64, .inl (G.2.2.1 0, 60, .inl (fun _ => 0)))]) ++ [(q72, .inl (G.2.2.1 0, 24, .inl (fun _ => 0)))])) (I := iX8_init) (ci := 8) (j := 7) (q0 := 0) (a := b) (fs := [.ref q8, .ref q18, .ref q29, .ref q40, .ref q51, .ref q64, .ref q72, .int 0, .int 0, .null, .null]) (tyv := tyX8 7) fl_X8_53 ul_X8 tyX8_ok nmX8 rfl rfl (by decide) rfl rfl (tyX8_ok 7 (by decide)) rfl rfl (Nat.le_of_ble_eq_true rfl) dX8_init_79 rfl ?_
  refine n_aload_n (I := iX8_init) dX8_init_82 rfl ?_
  refine n_iconst (I := iX8_init) (v := 0) dX8_init_83 (by decide) ?_
  refine n_put (ws1 := (((((([(b, .inr (8, [.ref q8, .ref q18, .ref q29, .ref q40, .ref q51, .ref q64, .ref q72, .int 0, .int 0, .null, .null])), (q8, .inl (G.2.2.1 0, 15, .inl (fun j => (sTb 0).getD j 0)))] ++ kX3 G q18 a22) ++ kX1 G q29 a33) ++ kX7 G q40 a44) ++ kX7 G q51 a55) ++ [(q64, .inl (G.2.2.1 0, 60, .inl (fun _ => 0)))]) ++ [(q72, .inl (G.2.2.1 0, 24, .inl (fun _ => 0)))])) (I := iX8_init) (ci := 8) (j := 8) (q0 := 0) (a := b) (fs := [.ref q8, .ref q18, .ref q29, .ref q40, .ref q51, .ref q64, .ref q72, .int 0, .int 0, .null, .null]) (tyv := tyX8 8) fl_X8_57 ul_X8 tyX8_ok nmX8 rfl rfl (by decide) rfl rfl (tyX8_ok 8 (by decide)) rfl rfl (Nat.le_of_ble_eq_true rfl) dX8_init_84 rfl ?_
  refine n_aload_n (I := iX8_init) dX8_init_87 rfl ?_
  refine n_new (I := iX8_init) (ci := 0) (fs := [.int 0, .int 0, .int 0, .int 0]) cl_X8_60 inst_X0 ini_FirstSteps_Gait ul_X0 tyX0_ok rfl df_X0 dX8_init_88 (by decide) (by decide) (fun q88 => ?_)
  refine n_dup (I := iX8_init) dX8_init_91 rfl ?_
  refine n_init (I := iX8_init) (I' := iX0_init) lk_X8_62 c_X0_init rfl dX8_init_92 (m_init_X0 G N0 q88) rfl (by decide) (by decide) (Nat.le_of_ble_eq_true rfl) (by decide) (by decide) (fun w1 hw1 => ?_)
  obtain ⟨a92, rfl⟩ := hw1
  show NW G N0 A iX8_init _ _ _ _ ((((((([(b, .inr (8, [.ref q8, .ref q18, .ref q29, .ref q40, .ref q51, .ref q64, .ref q72, .int 0, .int 0, .null, .null])), (q8, .inl (G.2.2.1 0, 15, .inl (fun j => (sTb 0).getD j 0)))] ++ kX3 G q18 a22) ++ kX1 G q29 a33) ++ kX7 G q40 a44) ++ kX7 G q51 a55) ++ [(q64, .inl (G.2.2.1 0, 60, .inl (fun _ => 0)))]) ++ [(q72, .inl (G.2.2.1 0, 24, .inl (fun _ => 0)))]) ++ kX0 G q88 a92) _ _ _ _ _
  refine n_putF (ws1 := ((((((([(b, .inr (8, [.ref q8, .ref q18, .ref q29, .ref q40, .ref q51, .ref q64, .ref q72, .int 0, .int 0, .ref q88, .null])), (q8, .inl (G.2.2.1 0, 15, .inl (fun j => (sTb 0).getD j 0)))] ++ kX3 G q18 a22) ++ kX1 G q29 a33) ++ kX7 G q40 a44) ++ kX7 G q51 a55) ++ [(q64, .inl (G.2.2.1 0, 60, .inl (fun _ => 0)))]) ++ [(q72, .inl (G.2.2.1 0, 24, .inl (fun _ => 0)))]) ++ kX0 G q88 a92)) (I := iX8_init) (ci := 8) (j := 9) (q0 := 0) (a := b) (fs := [.ref q8, .ref q18, .ref q29, .ref q40, .ref q51, .ref q64, .ref q72, .int 0, .int 0, .null, .null]) (tyv := tyX8 9) fl_X8_63 ul_X8 tyX8_ok nmX8 rfl rfl (by decide) rfl rfl rfl rfl (tyX8_ok 9 (by decide)) rfl rfl (Nat.le_of_ble_eq_true rfl) dX8_init_95 rfl ?_
  refine n_aload_n (I := iX8_init) dX8_init_98 rfl ?_
  refine n_ldcS (I := iX8_init) (tx := "fswlh") (q := G.2.2.2 (1010 + 0)) dX8_init_99 (fun U h => h.2.2.2.1) ?_
  refine n_callVS (I := iX8_init) (I' := iJ0_length_8abf5) (i0 := 0) lk_X8_69 c_J0_length_8abf5 rfl (by decide) dX8_init_101 (nv_length (by decide)) (by decide) (by decide) (Nat.le_of_ble_eq_true rfl) (by decide) (by decide) ?_
  refine n_newI (I := iX8_init) (N := 5) (by decide) (by decide) (by decide) dX8_init_104 (by decide) (by decide) (fun q104 => ?_)
  refine n_putF (ws1 := (((((((([(b, .inr (8, [.ref q8, .ref q18, .ref q29, .ref q40, .ref q51, .ref q64, .ref q72, .int 0, .int 0, .ref q88, .ref q104])), (q8, .inl (G.2.2.1 0, 15, .inl (fun j => (sTb 0).getD j 0)))] ++ kX3 G q18 a22) ++ kX1 G q29 a33) ++ kX7 G q40 a44) ++ kX7 G q51 a55) ++ [(q64, .inl (G.2.2.1 0, 60, .inl (fun _ => 0)))]) ++ [(q72, .inl (G.2.2.1 0, 24, .inl (fun _ => 0)))]) ++ kX0 G q88 a92) ++ [(q104, .inl (G.2.2.1 0, 5, .inl (fun _ => 0)))])) (I := iX8_init) (ci := 8) (j := 10) (q0 := 0) (a := b) (fs := [.ref q8, .ref q18, .ref q29, .ref q40, .ref q51, .ref q64, .ref q72, .int 0, .int 0, .ref q88, .null]) (tyv := tyX8 10) fl_X8_75 ul_X8 tyX8_ok nmX8 rfl rfl (by decide) rfl rfl rfl rfl (tyX8_ok 10 (by decide)) rfl rfl (Nat.le_of_ble_eq_true rfl) dX8_init_106 rfl ?_
  exact n_vret (I := iX8_init) rfl dX8_init_109 (by decide) (by decide) ⟨rfl, fun k => [b, q8, q18, (a22 1), (a22 2), (a22 3), (a22 4), (a22 5), q29, (a33 1), (a33 2), (a33 3), q40, (a44 1), (a44 2), q51, (a55 1), (a55 2), q64, q72, q88, q104].getD k 0, rfl⟩
