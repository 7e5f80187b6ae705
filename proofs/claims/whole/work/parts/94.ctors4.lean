def kX9 (G : fGm) (b : Nat) (ad : Nat → Nat) : va_W := [(b, .inr (9, [.ref (ad 1), .ref (ad 23), .ref (ad 45), .ref (ad 67), .ref (ad 72), .ref (ad 75), .ref (ad 76), .ref (ad 77), .int 0])),
  ((ad 1), .inr (8, [.ref (ad 2), .ref (ad 3), .ref (ad 9), .ref (ad 13), .ref (ad 16), .ref (ad 19), .ref (ad 20), .int 0, .int 0, .ref (ad 21), .ref (ad 22)])),
  ((ad 2), .inl (G.2.2.1 0, 15, .inl (fun j => (sTb 0).getD j 0))),
  ((ad 3), .inr (3, [.ref (ad 4), .ref (ad 5), .ref (ad 6), .ref (ad 7), .ref (ad 8), .int 0])),
  ((ad 4), .inl (G.2.2.1 0, 10, .inl (fun _ => 0))),
  ((ad 5), .inl (G.2.2.1 0, 10, .inl (fun _ => 0))),
  ((ad 6), .inl (G.2.2.1 0, 8, .inl (fun _ => 0))),
  ((ad 7), .inl (G.2.2.1 0, 8, .inl (fun _ => 0))),
  ((ad 8), .inl (G.2.2.1 0, 8, .inl (fun _ => 0))),
  ((ad 9), .inr (1, [.ref (ad 10), .ref (ad 11), .ref (ad 12), .int 0])),
  ((ad 10), .inl (G.2.2.1 0, 8, .inl (fun _ => 0))),
  ((ad 11), .inl (G.2.2.1 0, 8, .inl (fun _ => 0))),
  ((ad 12), .inl (G.2.2.1 0, 8, .inl (fun _ => 0))),
  ((ad 13), .inr (7, [.ref (ad 14), .int 0, .ref (ad 15)])),
  ((ad 14), .inl (G.2.2.1 0, 60, .inl (fun _ => 0))),
  ((ad 15), .inl (G.2.2.1 0, 60, .inl (fun _ => 0))),
  ((ad 16), .inr (7, [.ref (ad 17), .int 0, .ref (ad 18)])),
  ((ad 17), .inl (G.2.2.1 0, 60, .inl (fun _ => 0))),
  ((ad 18), .inl (G.2.2.1 0, 60, .inl (fun _ => 0))),
  ((ad 19), .inl (G.2.2.1 0, 60, .inl (fun _ => 0))),
  ((ad 20), .inl (G.2.2.1 0, 24, .inl (fun _ => 0))),
  ((ad 21), .inr (0, [.int 0, .int 0, .int 0, .int 0])),
  ((ad 22), .inl (G.2.2.1 0, 5, .inl (fun _ => 0))),
  ((ad 23), .inr (8, [.ref (ad 24), .ref (ad 25), .ref (ad 31), .ref (ad 35), .ref (ad 38), .ref (ad 41), .ref (ad 42), .int 0, .int 0, .ref (ad 43), .ref (ad 44)])),
  ((ad 24), .inl (G.2.2.1 0, 15, .inl (fun j => (sTb 0).getD j 0))),
  ((ad 25), .inr (3, [.ref (ad 26), .ref (ad 27), .ref (ad 28), .ref (ad 29), .ref (ad 30), .int 0])),
  ((ad 26), .inl (G.2.2.1 0, 10, .inl (fun _ => 0))),
  ((ad 27), .inl (G.2.2.1 0, 10, .inl (fun _ => 0))),
  ((ad 28), .inl (G.2.2.1 0, 8, .inl (fun _ => 0))),
  ((ad 29), .inl (G.2.2.1 0, 8, .inl (fun _ => 0))),
  ((ad 30), .inl (G.2.2.1 0, 8, .inl (fun _ => 0))),
  ((ad 31), .inr (1, [.ref (ad 32), .ref (ad 33), .ref (ad 34), .int 0])),
  ((ad 32), .inl (G.2.2.1 0, 8, .inl (fun _ => 0))),
  ((ad 33), .inl (G.2.2.1 0, 8, .inl (fun _ => 0))),
  ((ad 34), .inl (G.2.2.1 0, 8, .inl (fun _ => 0))),
  ((ad 35), .inr (7, [.ref (ad 36), .int 0, .ref (ad 37)])),
  ((ad 36), .inl (G.2.2.1 0, 60, .inl (fun _ => 0))),
  ((ad 37), .inl (G.2.2.1 0, 60, .inl (fun _ => 0))),
  ((ad 38), .inr (7, [.ref (ad 39), .int 0, .ref (ad 40)])),
  ((ad 39), .inl (G.2.2.1 0, 60, .inl (fun _ => 0))),
  ((ad 40), .inl (G.2.2.1 0, 60, .inl (fun _ => 0))),
  ((ad 41), .inl (G.2.2.1 0, 60, .inl (fun _ => 0))),
  ((ad 42), .inl (G.2.2.1 0, 24, .inl (fun _ => 0))),
  ((ad 43), .inr (0, [.int 0, .int 0, .int 0, .int 0])),
  ((ad 44), .inl (G.2.2.1 0, 5, .inl (fun _ => 0))),
  ((ad 45), .inr (8, [.ref (ad 46), .ref (ad 47), .ref (ad 53), .ref (ad 57), .ref (ad 60), .ref (ad 63), .ref (ad 64), .int 0, .int 0, .ref (ad 65), .ref (ad 66)])),
  ((ad 46), .inl (G.2.2.1 0, 15, .inl (fun j => (sTb 0).getD j 0))),
  ((ad 47), .inr (3, [.ref (ad 48), .ref (ad 49), .ref (ad 50), .ref (ad 51), .ref (ad 52), .int 0])),
  ((ad 48), .inl (G.2.2.1 0, 10, .inl (fun _ => 0))),
  ((ad 49), .inl (G.2.2.1 0, 10, .inl (fun _ => 0))),
  ((ad 50), .inl (G.2.2.1 0, 8, .inl (fun _ => 0))),
  ((ad 51), .inl (G.2.2.1 0, 8, .inl (fun _ => 0))),
  ((ad 52), .inl (G.2.2.1 0, 8, .inl (fun _ => 0))),
  ((ad 53), .inr (1, [.ref (ad 54), .ref (ad 55), .ref (ad 56), .int 0])),
  ((ad 54), .inl (G.2.2.1 0, 8, .inl (fun _ => 0))),
  ((ad 55), .inl (G.2.2.1 0, 8, .inl (fun _ => 0))),
  ((ad 56), .inl (G.2.2.1 0, 8, .inl (fun _ => 0))),
  ((ad 57), .inr (7, [.ref (ad 58), .int 0, .ref (ad 59)])),
  ((ad 58), .inl (G.2.2.1 0, 60, .inl (fun _ => 0))),
  ((ad 59), .inl (G.2.2.1 0, 60, .inl (fun _ => 0))),
  ((ad 60), .inr (7, [.ref (ad 61), .int 0, .ref (ad 62)])),
  ((ad 61), .inl (G.2.2.1 0, 60, .inl (fun _ => 0))),
  ((ad 62), .inl (G.2.2.1 0, 60, .inl (fun _ => 0))),
  ((ad 63), .inl (G.2.2.1 0, 60, .inl (fun _ => 0))),
  ((ad 64), .inl (G.2.2.1 0, 24, .inl (fun _ => 0))),
  ((ad 65), .inr (0, [.int 0, .int 0, .int 0, .int 0])),
  ((ad 66), .inl (G.2.2.1 0, 5, .inl (fun _ => 0))),
  ((ad 67), .inr (2, [.ref (ad 68), .ref (ad 71), .int 0, .int 0, .int 0, .int 0, .int 1])),
  ((ad 68), .inr (7, [.ref (ad 69), .int 0, .ref (ad 70)])),
  ((ad 69), .inl (G.2.2.1 0, 60, .inl (fun _ => 0))),
  ((ad 70), .inl (G.2.2.1 0, 60, .inl (fun _ => 0))),
  ((ad 71), .inl (G.2.2.1 0, 60, .inl (fun _ => 0))),
  ((ad 72), .inr (4, [.long 0, .long 1, .ref (ad 73), .ref (ad 74)])),
  ((ad 73), .inl (G.2.2.1 1, 199, .inr (.inl (fun _ => 0)))),
  ((ad 74), .inl (G.2.2.1 1, 199, .inr (.inl (fun _ => 0)))),
  ((ad 75), .inl (G.2.2.1 (2 + 0), 4, .inr (.inr (.inr (.inr (va_up (va_up (va_up (va_up (fun _ => none) (Int32.toNatClampNeg 0) (some (ad 79))) (Int32.toNatClampNeg 1) (some (ad 81))) (Int32.toNatClampNeg 2) (some (ad 83))) (Int32.toNatClampNeg 3) (some (ad 85)))))))),
  ((ad 76), .inl (G.2.2.1 0, 6, .inl (fun _ => 0))),
  ((ad 77), .inr (6, [.ref (ad 78), .int 0, .int 0, .int 0, .int 0, .int 0])),
  ((ad 78), .inl (G.2.2.1 0, 30, .inl (fun _ => 0))),
  ((ad 79), .inr (5, [.ref (ad 80), .int 0, .int 0])),
  ((ad 80), .inl (G.2.2.1 0, 24, .inl (fun _ => 0))),
  ((ad 81), .inr (5, [.ref (ad 82), .int 0, .int 0])),
  ((ad 82), .inl (G.2.2.1 0, 24, .inl (fun _ => 0))),
  ((ad 83), .inr (5, [.ref (ad 84), .int 0, .int 0])),
  ((ad 84), .inl (G.2.2.1 0, 24, .inl (fun _ => 0))),
  ((ad 85), .inr (5, [.ref (ad 86), .int 0, .int 0])),
  ((ad 86), .inl (G.2.2.1 0, 24, .inl (fun _ => 0)))]
set_option maxRecDepth 100000 in
set_option maxHeartbeats 8000000 in
theorem m_init_X9 (G : fGm) (N0 b : Nat) : NM G N0 iX9_init 3 86 2075 b (.inr (9, [.null, .null, .null, .null, .null, .null, .null, .null, .int 0])) (fun w => ∃ ad : Nat → Nat, w = kX9 G b ad) := by
  refine nm_of (by decide +kernel) (Nat.le_of_ble_eq_true rfl) (fun A => ?_)
  refine n_aload_n (I := iX9_init) dX9_init_0 rfl ?_
  refine n_objInit (I := iX9_init) lm_X9_1 dX9_init_1 (by decide) (Nat.le_of_ble_eq_true rfl) ?_
  refine n_aload_n (I := iX9_init) dX9_init_4 rfl ?_
  refine n_new (I := iX9_init) (ci := 8) (fs := [.null, .null, .null, .null, .null, .null, .null, .int 0, .int 0, .null, .null]) cl_X9_7 inst_X8 ini_FirstSteps_World ul_X8 tyX8_ok rfl df_X8 dX9_init_5 (by decide) (by decide) (fun q5 => ?_)
  refine n_dup (I := iX9_init) dX9_init_8 rfl ?_
  refine n_init (I := iX9_init) (I' := iX8_init) lk_X9_9 c_X8_init rfl dX9_init_9 (m_init_X8 G N0 q5) rfl (by decide) (by decide) (Nat.le_of_ble_eq_true rfl) (by decide) (by decide) (fun w1 hw1 => ?_)
  obtain ⟨a9, rfl⟩ := hw1
  show NW G N0 A iX9_init _ _ _ _ ([(b, .inr (9, [.null, .null, .null, .null, .null, .null, .null, .null, .int 0]))] ++ kX8 G q5 a9) _ _ _ _ _
  refine n_putF (ws1 := ([(b, .inr (9, [.ref q5, .null, .null, .null, .null, .null, .null, .null, .int 0]))] ++ kX8 G q5 a9)) (I := iX9_init) (ci := 9) (j := 0) (q0 := 0) (a := b) (fs := [.null, .null, .null, .null, .null, .null, .null, .null, .int 0]) (tyv := tyX9 0) fl_X9_10 ul_X9 tyX9_ok nmX9 rfl rfl (by decide) rfl rfl rfl rfl (tyX9_ok 0 (by decide)) rfl rfl (Nat.le_of_ble_eq_true rfl) dX9_init_12 rfl ?_
  refine n_aload_n (I := iX9_init) dX9_init_15 rfl ?_
  refine n_new (I := iX9_init) (ci := 8) (fs := [.null, .null, .null, .null, .null, .null, .null, .int 0, .int 0, .null, .null]) cl_X9_7 inst_X8 ini_FirstSteps_World ul_X8 tyX8_ok rfl df_X8 dX9_init_16 (by decide) (by decide) (fun q16 => ?_)
  refine n_dup (I := iX9_init) dX9_init_19 rfl ?_
  refine n_init (I := iX9_init) (I' := iX8_init) lk_X9_9 c_X8_init rfl dX9_init_20 (m_init_X8 G N0 q16) rfl (by decide) (by decide) (Nat.le_of_ble_eq_true rfl) (by decide) (by decide) (fun w1 hw1 => ?_)
  obtain ⟨a20, rfl⟩ := hw1
  show NW G N0 A iX9_init _ _ _ _ (([(b, .inr (9, [.ref q5, .null, .null, .null, .null, .null, .null, .null, .int 0]))] ++ kX8 G q5 a9) ++ kX8 G q16 a20) _ _ _ _ _
  refine n_putF (ws1 := (([(b, .inr (9, [.ref q5, .ref q16, .null, .null, .null, .null, .null, .null, .int 0]))] ++ kX8 G q5 a9) ++ kX8 G q16 a20)) (I := iX9_init) (ci := 9) (j := 1) (q0 := 0) (a := b) (fs := [.ref q5, .null, .null, .null, .null, .null, .null, .null, .int 0]) (tyv := tyX9 1) fl_X9_16 ul_X9 tyX9_ok nmX9 rfl rfl (by decide) rfl rfl rfl rfl (tyX9_ok 1 (by decide)) rfl rfl (Nat.le_of_ble_eq_true rfl) dX9_init_23 rfl ?_
  refine n_aload_n (I := iX9_init) dX9_init_26 rfl ?_
  refine n_new (I := iX9_init) (ci := 8) (fs := [.null, .null, .null, .null, .null, .null, .null, .int 0, .int 0, .null, .null]) cl_X9_7 inst_X8 ini_FirstSteps_World ul_X8 tyX8_ok rfl df_X8 dX9_init_27 (by decide) (by decide) (fun q27 => ?_)
  refine n_dup (I := iX9_init) dX9_init_30 rfl ?_
  refine n_init (I := iX9_init) (I' := iX8_init) lk_X9_9 c_X8_init rfl dX9_init_31 (m_init_X8 G N0 q27) rfl (by decide) (by decide) (Nat.le_of_ble_eq_true rfl) (by decide) (by decide) (fun w1 hw1 => ?_)
  obtain ⟨a31, rfl⟩ := hw1
  show NW G N0 A iX9_init _ _ _ _ ((([(b, .inr (9, [.ref q5, .ref q16, .null, .null, .null, .null, .null, .null, .int 0]))] ++ kX8 G q5 a9) ++ kX8 G q16 a20) ++ kX8 G q27 a31) _ _ _ _ _
  refine n_putF (ws1 := ((([(b, .inr (9, [.ref q5, .ref q16, .ref q27, .null, .null, .null, .null, .null, .int 0]))] ++ kX8 G q5 a9) ++ kX8 G q16 a20) ++ kX8 G q27 a31)) (I := iX9_init) (ci := 9) (j := 2) (q0 := 0) (a := b) (fs := [.ref q5, .ref q16, .null, .null, .null, .null, .null, .null, .int 0]) (tyv := tyX9 2) fl_X9_19 ul_X9 tyX9_ok nmX9 rfl rfl (by decide) rfl rfl rfl rfl (tyX9_ok 2 (by decide)) rfl rfl (Nat.le_of_ble_eq_true rfl) dX9_init_34 rfl ?_
  refine n_aload_n (I := iX9_init) dX9_init_37 rfl ?_
  refine n_new (I := iX9_init) (ci := 2) (fs := [.null, .null, .int 0, .int 0, .int 0, .int 0, .int 0]) cl_X9_22 inst_X2 ini_FirstSteps_Reader ul_X2 tyX2_ok rfl df_X2 dX9_init_38 (by decide) (by decide) (fun q38 => ?_)
  refine n_dup (I := iX9_init) dX9_init_41 rfl ?_
  refine n_init (I := iX9_init) (I' := iX2_init) lk_X9_24 c_X2_init rfl dX9_init_42 (m_init_X2 G N0 q38) rfl (by decide) (by decide) (Nat.le_of_ble_eq_true rfl) (by decide) (by decide) (fun w1 hw1 => ?_)
  obtain ⟨a42, rfl⟩ := hw1
  show NW G N0 A iX9_init _ _ _ _ (((([(b, .inr (9, [.ref q5, .ref q16, .ref q27, .null, .null, .null, .null, .null, .int 0]))] ++ kX8 G q5 a9) ++ kX8 G q16 a20) ++ kX8 G q27 a31) ++ kX2 G q38 a42) _ _ _ _ _
  refine n_putF (ws1 := (((([(b, .inr (9, [.ref q5, .ref q16, .ref q27, .ref q38, .null, .null, .null, .null, .int 0]))] ++ kX8 G q5 a9) ++ kX8 G q16 a20) ++ kX8 G q27 a31) ++ kX2 G q38 a42)) (I := iX9_init) (ci := 9) (j := 3) (q0 := 0) (a := b) (fs := [.ref q5, .ref q16, .ref q27, .null, .null, .null, .null, .null, .int 0]) (tyv := tyX9 3) fl_X9_25 ul_X9 tyX9_ok nmX9 rfl rfl (by decide) rfl rfl rfl rfl (tyX9_ok 3 (by decide)) rfl rfl (Nat.le_of_ble_eq_true rfl) dX9_init_45 rfl ?_
  refine n_aload_n (I := iX9_init) dX9_init_48 rfl ?_
  refine n_new (I := iX9_init) (ci := 4) (fs := [.long 0, .long 0, .null, .null]) cl_X9_29 inst_X4 ini_FirstSteps_Rows ul_X4 tyX4_ok rfl df_X4 dX9_init_49 (by decide) (by decide) (fun q49 => ?_)
  refine n_dup (I := iX9_init) dX9_init_52 rfl ?_
  refine n_init (I := iX9_init) (I' := iX4_init) lk_X9_31 c_X4_init rfl dX9_init_53 (m_init_X4 G N0 q49) rfl (by decide) (by decide) (Nat.le_of_ble_eq_true rfl) (by decide) (by decide) (fun w1 hw1 => ?_)
  obtain ⟨a53, rfl⟩ := hw1
  show NW G N0 A iX9_init _ _ _ _ ((((([(b, .inr (9, [.ref q5, .ref q16, .ref q27, .ref q38, .null, .null, .null, .null, .int 0]))] ++ kX8 G q5 a9) ++ kX8 G q16 a20) ++ kX8 G q27 a31) ++ kX2 G q38 a42) ++ kX4 G q49 a53) _ _ _ _ _
  refine n_putF (ws1 := ((((([(b, .inr (9, [.ref q5, .ref q16, .ref q27, .ref q38, .ref q49, .null, .null, .null, .int 0]))] ++ kX8 G q5 a9) ++ kX8 G q16 a20) ++ kX8 G q27 a31) ++ kX2 G q38 a42) ++ kX4 G q49 a53)) (I := iX9_init) (ci := 9) (j := 4) (q0 := 0) (a := b) (fs := [.ref q5, .ref q16, .ref q27, .ref q38, .null, .null, .null, .null, .int 0]) (tyv := tyX9 4) fl_X9_32 ul_X9 tyX9_ok nmX9 rfl rfl (by decide) rfl rfl rfl rfl (tyX9_ok 4 (by decide)) rfl rfl (Nat.le_of_ble_eq_true rfl) dX9_init_56 rfl ?_
  refine n_aload_n (I := iX9_init) dX9_init_59 rfl ?_
  refine n_iconst (I := iX9_init) (v := 4) dX9_init_60 (by decide) ?_
  refine n_newQ (I := iX9_init) (t := 0) (N := 4) (Cn := RX5) cl_X9_36 (fun U h => h.2.2.2.2.2.2.2.2.1.1) rfl (by decide) (by decide) (by decide) dX9_init_61 (by decide) (by decide) (fun q61 => ?_)
  refine n_putF (ws1 := (((((([(b, .inr (9, [.ref q5, .ref q16, .ref q27, .ref q38, .ref q49, .ref q61, .null, .null, .int 0]))] ++ kX8 G q5 a9) ++ kX8 G q16 a20) ++ kX8 G q27 a31) ++ kX2 G q38 a42) ++ kX4 G q49 a53) ++ [(q61, .inl (G.2.2.1 (2 + 0), 4, .inr (.inr (.inr (.inr (fun _ => none))))))])) (I := iX9_init) (ci := 9) (j := 5) (q0 := 0) (a := b) (fs := [.ref q5, .ref q16, .ref q27, .ref q38, .ref q49, .null, .null, .null, .int 0]) (tyv := tyX9 5) fl_X9_38 ul_X9 tyX9_ok nmX9 rfl rfl (by decide) rfl rfl rfl rfl (tyX9_ok 5 (by decide)) rfl rfl (Nat.le_of_ble_eq_true rfl) dX9_init_64 rfl ?_
  refine n_aload_n (I := iX9_init) dX9_init_67 rfl ?_
  refine n_bipush (I := iX9_init) (v := 6) dX9_init_68 (by decide) ?_
  refine n_newI (I := iX9_init) (N := 6) (by decide) (by decide) (by decide) dX9_init_70 (by decide) (by decide) (fun q70 => ?_)
  refine n_putF (ws1 := ((((((([(b, .inr (9, [.ref q5, .ref q16, .ref q27, .ref q38, .ref q49, .ref q61, .ref q70, .null, .int 0]))] ++ kX8 G q5 a9) ++ kX8 G q16 a20) ++ kX8 G q27 a31) ++ kX2 G q38 a42) ++ kX4 G q49 a53) ++ [(q61, .inl (G.2.2.1 (2 + 0), 4, .inr (.inr (.inr (.inr (fun _ => none))))))]) ++ [(q70, .inl (G.2.2.1 0, 6, .inl (fun _ => 0)))])) (I := iX9_init) (ci := 9) (j := 6) (q0 := 0) (a := b) (fs := [.ref q5, .ref q16, .ref q27, .ref q38, .ref q49, .ref q61, .null, .null, .int 0]) (tyv := tyX9 6) fl_X9_42 ul_X9 tyX9_ok nmX9 rfl rfl (by decide) rfl rfl rfl rfl (tyX9_ok 6 (by decide)) rfl rfl (Nat.le_of_ble_eq_true rfl) dX9_init_72 rfl ?_
  refine n_aload_n (I := iX9_init) dX9_init_75 rfl ?_
  refine n_new (I := iX9_init) (ci := 6) (fs := [.null, .int 0, .int 0, .int 0, .int 0, .int 0]) cl_X9_46 inst_X6 ini_FirstSteps_Speech ul_X6 tyX6_ok rfl df_X6 dX9_init_76 (by decide) (by decide) (fun q76 => ?_)
  refine n_dup (I := iX9_init) dX9_init_79 rfl ?_
  refine n_init (I := iX9_init) (I' := iX6_init) lk_X9_48 c_X6_init rfl dX9_init_80 (m_init_X6 G N0 q76) rfl (by decide) (by decide) (Nat.le_of_ble_eq_true rfl) (by decide) (by decide) (fun w1 hw1 => ?_)
  obtain ⟨a80, rfl⟩ := hw1
  show NW G N0 A iX9_init _ _ _ _ (((((((([(b, .inr (9, [.ref q5, .ref q16, .ref q27, .ref q38, .ref q49, .ref q61, .ref q70, .null, .int 0]))] ++ kX8 G q5 a9) ++ kX8 G q16 a20) ++ kX8 G q27 a31) ++ kX2 G q38 a42) ++ kX4 G q49 a53) ++ [(q61, .inl (G.2.2.1 (2 + 0), 4, .inr (.inr (.inr (.inr (fun _ => none))))))]) ++ [(q70, .inl (G.2.2.1 0, 6, .inl (fun _ => 0)))]) ++ kX6 G q76 a80) _ _ _ _ _
  refine n_putF (ws1 := (((((((([(b, .inr (9, [.ref q5, .ref q16, .ref q27, .ref q38, .ref q49, .ref q61, .ref q70, .ref q76, .int 0]))] ++ kX8 G q5 a9) ++ kX8 G q16 a20) ++ kX8 G q27 a31) ++ kX2 G q38 a42) ++ kX4 G q49 a53) ++ [(q61, .inl (G.2.2.1 (2 + 0), 4, .inr (.inr (.inr (.inr (fun _ => none))))))]) ++ [(q70, .inl (G.2.2.1 0, 6, .inl (fun _ => 0)))]) ++ kX6 G q76 a80)) (I := iX9_init) (ci := 9) (j := 7) (q0 := 0) (a := b) (fs := [.ref q5, .ref q16, .ref q27, .ref q38, .ref q49, .ref q61, .ref q70, .null, .int 0]) (tyv := tyX9 7) fl_X9_49 ul_X9 tyX9_ok nmX9 rfl rfl (by decide) rfl rfl rfl rfl (tyX9_ok 7 (by decide)) rfl rfl (Nat.le_of_ble_eq_true rfl) dX9_init_83 rfl ?_
  refine n_aload_n (I := iX9_init) dX9_init_86 rfl ?_
  refine n_iconst (I := iX9_init) (v := 0) dX9_init_87 (by decide) ?_
  refine n_put (ws1 := (((((((([(b, .inr (9, [.ref q5, .ref q16, .ref q27, .ref q38, .ref q49, .ref q61, .ref q70, .ref q76, .int 0]))] ++ kX8 G q5 a9) ++ kX8 G q16 a20) ++ kX8 G q27 a31) ++ kX2 G q38 a42) ++ kX4 G q49 a53) ++ [(q61, .inl (G.2.2.1 (2 + 0), 4, .inr (.inr (.inr (.inr (fun _ => none))))))]) ++ [(q70, .inl (G.2.2.1 0, 6, .inl (fun _ => 0)))]) ++ kX6 G q76 a80)) (I := iX9_init) (ci := 9) (j := 8) (q0 := 0) (a := b) (fs := [.ref q5, .ref q16, .ref q27, .ref q38, .ref q49, .ref q61, .ref q70, .ref q76, .int 0]) (tyv := tyX9 8) fl_X9_53 ul_X9 tyX9_ok nmX9 rfl rfl (by decide) rfl rfl (tyX9_ok 8 (by decide)) rfl rfl (Nat.le_of_ble_eq_true rfl) dX9_init_88 rfl ?_
  refine n_iconst (I := iX9_init) (v := 0) dX9_init_91 (by decide) ?_
  refine n_istore_n (I := iX9_init) dX9_init_92 (by decide) rfl ?_
  refine n_iload_n (I := iX9_init) dX9_init_93 rfl ?_
  refine n_aload_n (I := iX9_init) dX9_init_94 rfl ?_
  refine n_get (I := iX9_init) (ci := 9) (q0 := 0) (a := b) (fs := [.ref q5, .ref q16, .ref q27, .ref q38, .ref q49, .ref q61, .ref q70, .ref q76, .int 0]) g_X9_38 dX9_init_95 rfl rfl ?_
  refine n_alenQ (I := iX9_init) (q0 := 75) (a := q61) (t := 0) (n := 4) (f := (fun _ => none)) (v := 4) rfl rfl (by decide) dX9_init_98 ?_
  refine n_ifge_no (I := iX9_init) (tgt := 121) dX9_init_99 (by decide) (by decide) ?_
  refine n_aload_n (I := iX9_init) dX9_init_102 rfl ?_
  refine n_get (I := iX9_init) (ci := 9) (q0 := 0) (a := b) (fs := [.ref q5, .ref q16, .ref q27, .ref q38, .ref q49, .ref q61, .ref q70, .ref q76, .int 0]) g_X9_38 dX9_init_103 rfl rfl ?_
  refine n_iload_n (I := iX9_init) dX9_init_106 rfl ?_
  refine n_new (I := iX9_init) (ci := 5) (fs := [.null, .int 0, .int 0]) cl_X9_36 inst_X5 ini_FirstSteps_Sheet ul_X5 tyX5_ok rfl df_X5 dX9_init_107 (by decide) (by decide) (fun q107 => ?_)
  refine n_dup (I := iX9_init) dX9_init_110 rfl ?_
  refine n_init (I := iX9_init) (I' := iX5_init) lk_X9_57 c_X5_init rfl dX9_init_111 (m_init_X5 G N0 q107) rfl (by decide) (by decide) (Nat.le_of_ble_eq_true rfl) (by decide) (by decide) (fun w1 hw1 => ?_)
  obtain ⟨a111, rfl⟩ := hw1
  show NW G N0 A iX9_init _ _ _ _ ((((((((([(b, .inr (9, [.ref q5, .ref q16, .ref q27, .ref q38, .ref q49, .ref q61, .ref q70, .ref q76, .int 0]))] ++ kX8 G q5 a9) ++ kX8 G q16 a20) ++ kX8 G q27 a31) ++ kX2 G q38 a42) ++ kX4 G q49 a53) ++ [(q61, .inl (G.2.2.1 (2 + 0), 4, .inr (.inr (.inr (.inr (fun _ => none))))))]) ++ [(q70, .inl (G.2.2.1 0, 6, .inl (fun _ => 0)))]) ++ kX6 G q76 a80) ++ kX5 G q107 a111) _ _ _ _ _
  refine n_astQ (ws1 := ((((((((([(b, .inr (9, [.ref q5, .ref q16, .ref q27, .ref q38, .ref q49, .ref q61, .ref q70, .ref q76, .int 0]))] ++ kX8 G q5 a9) ++ kX8 G q16 a20) ++ kX8 G q27 a31) ++ kX2 G q38 a42) ++ kX4 G q49 a53) ++ [(q61, .inl (G.2.2.1 (2 + 0), 4, .inr (.inr (.inr (.inr (va_up (fun _ => none) (Int32.toNatClampNeg 0) (some q107)))))))]) ++ [(q70, .inl (G.2.2.1 0, 6, .inl (fun _ => 0)))]) ++ kX6 G q76 a80) ++ kX5 G q107 a111)) (I := iX9_init) (q0 := 75) (qk := 79) (ci := 5) (a := q61) (v := q107) (t := 0) (n := 4) (vs := [.ref (a111 1), .int 0, .int 0]) (f := (fun _ => none)) (r := (RX5, TX5, 3)) rfl rfl rfl rfl (by unfold vp_in; decide) dX9_init_114 rfl ?_
  refine n_iinc (I := iX9_init) (v := 1) dX9_init_115 rfl (by decide) (by decide) rfl ?_
  refine n_goto (I := iX9_init) (tgt := 93) dX9_init_118 (by decide) ?_
  refine n_iload_n (I := iX9_init) dX9_init_93 rfl ?_
  refine n_aload_n (I := iX9_init) dX9_init_94 rfl ?_
  refine n_get (I := iX9_init) (ci := 9) (q0 := 0) (a := b) (fs := [.ref q5, .ref q16, .ref q27, .ref q38, .ref q49, .ref q61, .ref q70, .ref q76, .int 0]) g_X9_38 dX9_init_95 rfl rfl ?_
  refine n_alenQ (I := iX9_init) (q0 := 75) (a := q61) (t := 0) (n := 4) (f := (va_up (fun _ => none) (Int32.toNatClampNeg 0) (some q107))) (v := 4) rfl rfl (by decide) dX9_init_98 ?_
  refine n_ifge_no (I := iX9_init) (tgt := 121) dX9_init_99 (by decide) (by decide) ?_
  refine n_aload_n (I := iX9_init) dX9_init_102 rfl ?_
  refine n_get (I := iX9_init) (ci := 9) (q0 := 0) (a := b) (fs := [.ref q5, .ref q16, .ref q27, .ref q38, .ref q49, .ref q61, .ref q70, .ref q76, .int 0]) g_X9_38 dX9_init_103 rfl rfl ?_
  refine n_iload_n (I := iX9_init) dX9_init_106 rfl ?_
  refine n_new (I := iX9_init) (ci := 5) (fs := [.null, .int 0, .int 0]) cl_X9_36 inst_X5 ini_FirstSteps_Sheet ul_X5 tyX5_ok rfl df_X5 dX9_init_107 (by decide) (by decide) (fun q107_2 => ?_)
  refine n_dup (I := iX9_init) dX9_init_110 rfl ?_
  refine n_init (I := iX9_init) (I' := iX5_init) lk_X9_57 c_X5_init rfl dX9_init_111 (m_init_X5 G N0 q107_2) rfl (by decide) (by decide) (Nat.le_of_ble_eq_true rfl) (by decide) (by decide) (fun w1 hw1 => ?_)
  obtain ⟨a111_2, rfl⟩ := hw1
  show NW G N0 A iX9_init _ _ _ _ (((((((((([(b, .inr (9, [.ref q5, .ref q16, .ref q27, .ref q38, .ref q49, .ref q61, .ref q70, .ref q76, .int 0]))] ++ kX8 G q5 a9) ++ kX8 G q16 a20) ++ kX8 G q27 a31) ++ kX2 G q38 a42) ++ kX4 G q49 a53) ++ [(q61, .inl (G.2.2.1 (2 + 0), 4, .inr (.inr (.inr (.inr (va_up (fun _ => none) (Int32.toNatClampNeg 0) (some q107)))))))]) ++ [(q70, .inl (G.2.2.1 0, 6, .inl (fun _ => 0)))]) ++ kX6 G q76 a80) ++ kX5 G q107 a111) ++ kX5 G q107_2 a111_2) _ _ _ _ _
  refine n_astQ (ws1 := (((((((((([(b, .inr (9, [.ref q5, .ref q16, .ref q27, .ref q38, .ref q49, .ref q61, .ref q70, .ref q76, .int 0]))] ++ kX8 G q5 a9) ++ kX8 G q16 a20) ++ kX8 G q27 a31) ++ kX2 G q38 a42) ++ kX4 G q49 a53) ++ [(q61, .inl (G.2.2.1 (2 + 0), 4, .inr (.inr (.inr (.inr (va_up (va_up (fun _ => none) (Int32.toNatClampNeg 0) (some q107)) (Int32.toNatClampNeg 1) (some q107_2)))))))]) ++ [(q70, .inl (G.2.2.1 0, 6, .inl (fun _ => 0)))]) ++ kX6 G q76 a80) ++ kX5 G q107 a111) ++ kX5 G q107_2 a111_2)) (I := iX9_init) (q0 := 75) (qk := 81) (ci := 5) (a := q61) (v := q107_2) (t := 0) (n := 4) (vs := [.ref (a111_2 1), .int 0, .int 0]) (f := (va_up (fun _ => none) (Int32.toNatClampNeg 0) (some q107))) (r := (RX5, TX5, 3)) rfl rfl rfl rfl (by unfold vp_in; decide) dX9_init_114 rfl ?_
  refine n_iinc (I := iX9_init) (v := 2) dX9_init_115 rfl (by decide) (by decide) rfl ?_
  refine n_goto (I := iX9_init) (tgt := 93) dX9_init_118 (by decide) ?_
  refine n_iload_n (I := iX9_init) dX9_init_93 rfl ?_
  refine n_aload_n (I := iX9_init) dX9_init_94 rfl ?_
  refine n_get (I := iX9_init) (ci := 9) (q0 := 0) (a := b) (fs := [.ref q5, .ref q16, .ref q27, .ref q38, .ref q49, .ref q61, .ref q70, .ref q76, .int 0]) g_X9_38 dX9_init_95 rfl rfl ?_
  refine n_alenQ (I := iX9_init) (q0 := 75) (a := q61) (t := 0) (n := 4) (f := (va_up (va_up (fun _ => none) (Int32.toNatClampNeg 0) (some q107)) (Int32.toNatClampNeg 1) (some q107_2))) (v := 4) rfl rfl (by decide) dX9_init_98 ?_
  refine n_ifge_no (I := iX9_init) (tgt := 121) dX9_init_99 (by decide) (by decide) ?_
  refine n_aload_n (I := iX9_init) dX9_init_102 rfl ?_
  refine n_get (I := iX9_init) (ci := 9) (q0 := 0) (a := b) (fs := [.ref q5, .ref q16, .ref q27, .ref q38, .ref q49, .ref q61, .ref q70, .ref q76, .int 0]) g_X9_38 dX9_init_103 rfl rfl ?_
  refine n_iload_n (I := iX9_init) dX9_init_106 rfl ?_
  refine n_new (I := iX9_init) (ci := 5) (fs := [.null, .int 0, .int 0]) cl_X9_36 inst_X5 ini_FirstSteps_Sheet ul_X5 tyX5_ok rfl df_X5 dX9_init_107 (by decide) (by decide) (fun q107_3 => ?_)
  refine n_dup (I := iX9_init) dX9_init_110 rfl ?_
  refine n_init (I := iX9_init) (I' := iX5_init) lk_X9_57 c_X5_init rfl dX9_init_111 (m_init_X5 G N0 q107_3) rfl (by decide) (by decide) (Nat.le_of_ble_eq_true rfl) (by decide) (by decide) (fun w1 hw1 => ?_)
  obtain ⟨a111_3, rfl⟩ := hw1
  show NW G N0 A iX9_init _ _ _ _ ((((((((((([(b, .inr (9, [.ref q5, .ref q16, .ref q27, .ref q38, .ref q49, .ref q61, .ref q70, .ref q76, .int 0]))] ++ kX8 G q5 a9) ++ kX8 G q16 a20) ++ kX8 G q27 a31) ++ kX2 G q38 a42) ++ kX4 G q49 a53) ++ [(q61, .inl (G.2.2.1 (2 + 0), 4, .inr (.inr (.inr (.inr (va_up (va_up (fun _ => none) (Int32.toNatClampNeg 0) (some q107)) (Int32.toNatClampNeg 1) (some q107_2)))))))]) ++ [(q70, .inl (G.2.2.1 0, 6, .inl (fun _ => 0)))]) ++ kX6 G q76 a80) ++ kX5 G q107 a111) ++ kX5 G q107_2 a111_2) ++ kX5 G q107_3 a111_3) _ _ _ _ _
  refine n_astQ (ws1 := ((((((((((([(b, .inr (9, [.ref q5, .ref q16, .ref q27, .ref q38, .ref q49, .ref q61, .ref q70, .ref q76, .int 0]))] ++ kX8 G q5 a9) ++ kX8 G q16 a20) ++ kX8 G q27 a31) ++ kX2 G q38 a42) ++ kX4 G q49 a53) ++ [(q61, .inl (G.2.2.1 (2 + 0), 4, .inr (.inr (.inr (.inr (va_up (va_up (va_up (fun _ => none) (Int32.toNatClampNeg 0) (some q107)) (Int32.toNatClampNeg 1) (some q107_2)) (Int32.toNatClampNeg 2) (some q107_3)))))))]) ++ [(q70, .inl (G.2.2.1 0, 6, .inl (fun _ => 0)))]) ++ kX6 G q76 a80) ++ kX5 G q107 a111) ++ kX5 G q107_2 a111_2) ++ kX5 G q107_3 a111_3)) (I := iX9_init) (q0 := 75) (qk := 83) (ci := 5) (a := q61) (v := q107_3) (t := 0) (n := 4) (vs := [.ref (a111_3 1), .int 0, .int 0]) (f := (va_up (va_up (fun _ => none) (Int32.toNatClampNeg 0) (some q107)) (Int32.toNatClampNeg 1) (some q107_2))) (r := (RX5, TX5, 3)) rfl rfl rfl rfl (by unfold vp_in; decide) dX9_init_114 rfl ?_
  refine n_iinc (I := iX9_init) (v := 3) dX9_init_115 rfl (by decide) (by decide) rfl ?_
  refine n_goto (I := iX9_init) (tgt := 93) dX9_init_118 (by decide) ?_
  refine n_iload_n (I := iX9_init) dX9_init_93 rfl ?_
  refine n_aload_n (I := iX9_init) dX9_init_94 rfl ?_
  refine n_get (I := iX9_init) (ci := 9) (q0 := 0) (a := b) (fs := [.ref q5, .ref q16, .ref q27, .ref q38, .ref q49, .ref q61, .ref q70, .ref q76, .int 0]) g_X9_38 dX9_init_95 rfl rfl ?_
  refine n_alenQ (I := iX9_init) (q0 := 75) (a := q61) (t := 0) (n := 4) (f := (va_up (va_up (va_up (fun _ => none) (Int32.toNatClampNeg 0) (some q107)) (Int32.toNatClampNeg 1) (some q107_2)) (Int32.toNatClampNeg 2) (some q107_3))) (v := 4) rfl rfl (by decide) dX9_init_98 ?_
  refine n_ifge_no (I := iX9_init) (tgt := 121) dX9_init_99 (by decide) (by decide) ?_
  refine n_aload_n (I := iX9_init) dX9_init_102 rfl ?_
  refine n_get (I := iX9_init) (ci := 9) (q0 := 0) (a := b) (fs := [.ref q5, .ref q16, .ref q27, .ref q38, .ref q49, .ref q61, .ref q70, .ref q76, .int 0]) g_X9_38 dX9_init_103 rfl rfl ?_
  refine n_iload_n (I := iX9_init) dX9_init_106 rfl ?_
  refine n_new (I := iX9_init) (ci := 5) (fs := [.null, .int 0, .int 0]) cl_X9_36 inst_X5 ini_FirstSteps_Sheet ul_X5 tyX5_ok rfl df_X5 dX9_init_107 (by decide) (by decide) (fun q107_4 => ?_)
  refine n_dup (I := iX9_init) dX9_init_110 rfl ?_
  refine n_init (I := iX9_init) (I' := iX5_init) lk_X9_57 c_X5_init rfl dX9_init_111 (m_init_X5 G N0 q107_4) rfl (by decide) (by decide) (Nat.le_of_ble_eq_true rfl) (by decide) (by decide) (fun w1 hw1 => ?_)
  obtain ⟨a111_4, rfl⟩ := hw1
  show NW G N0 A iX9_init _ _ _ _ (((((((((((([(b, .inr (9, [.ref q5, .ref q16, .ref q27, .ref q38, .ref q49, .ref q61, .ref q70, .ref q76, .int 0]))] ++ kX8 G q5 a9) ++ kX8 G q16 a20) ++ kX8 G q27 a31) ++ kX2 G q38 a42) ++ kX4 G q49 a53) ++ [(q61, .inl (G.2.2.1 (2 + 0), 4, .inr (.inr (.inr (.inr (va_up (va_up (va_up (fun _ => none) (Int32.toNatClampNeg 0) (some q107)) (Int32.toNatClampNeg 1) (some q107_2)) (Int32.toNatClampNeg 2) (some q107_3)))))))]) ++ [(q70, .inl (G.2.2.1 0, 6, .inl (fun _ => 0)))]) ++ kX6 G q76 a80) ++ kX5 G q107 a111) ++ kX5 G q107_2 a111_2) ++ kX5 G q107_3 a111_3) ++ kX5 G q107_4 a111_4) _ _ _ _ _
  refine n_astQ (ws1 := (((((((((((([(b, .inr (9, [.ref q5, .ref q16, .ref q27, .ref q38, .ref q49, .ref q61, .ref q70, .ref q76, .int 0]))] ++ kX8 G q5 a9) ++ kX8 G q16 a20) ++ kX8 G q27 a31) ++ kX2 G q38 a42) ++ kX4 G q49 a53) ++ [(q61, .inl (G.2.2.1 (2 + 0), 4, .inr (.inr (.inr (.inr (va_up (va_up (va_up (va_up (fun _ => none) (Int32.toNatClampNeg 0) (some q107)) (Int32.toNatClampNeg 1) (some q107_2)) (Int32.toNatClampNeg 2) (some q107_3)) (Int32.toNatClampNeg 3) (some q107_4)))))))]) ++ [(q70, .inl (G.2.2.1 0, 6, .inl (fun _ => 0)))]) ++ kX6 G q76 a80) ++ kX5 G q107 a111) ++ kX5 G q107_2 a111_2) ++ kX5 G q107_3 a111_3) ++ kX5 G q107_4 a111_4)) (I := iX9_init) (q0 := 75) (qk := 85) (ci := 5) (a := q61) (v := q107_4) (t := 0) (n := 4) (vs := [.ref (a111_4 1), .int 0, .int 0]) (f := (va_up (va_up (va_up (fun _ => none) (Int32.toNatClampNeg 0) (some q107)) (Int32.toNatClampNeg 1) (some q107_2)) (Int32.toNatClampNeg 2) (some q107_3))) (r := (RX5, TX5, 3)) rfl rfl rfl rfl (by unfold vp_in; decide) dX9_init_114 rfl ?_
  refine n_iinc (I := iX9_init) (v := 4) dX9_init_115 rfl (by decide) (by decide) rfl ?_
  refine n_goto (I := iX9_init) (tgt := 93) dX9_init_118 (by decide) ?_
  refine n_iload_n (I := iX9_init) dX9_init_93 rfl ?_
  refine n_aload_n (I := iX9_init) dX9_init_94 rfl ?_
  refine n_get (I := iX9_init) (ci := 9) (q0 := 0) (a := b) (fs := [.ref q5, .ref q16, .ref q27, .ref q38, .ref q49, .ref q61, .ref q70, .ref q76, .int 0]) g_X9_38 dX9_init_95 rfl rfl ?_
  refine n_alenQ (I := iX9_init) (q0 := 75) (a := q61) (t := 0) (n := 4) (f := (va_up (va_up (va_up (va_up (fun _ => none) (Int32.toNatClampNeg 0) (some q107)) (Int32.toNatClampNeg 1) (some q107_2)) (Int32.toNatClampNeg 2) (some q107_3)) (Int32.toNatClampNeg 3) (some q107_4))) (v := 4) rfl rfl (by decide) dX9_init_98 ?_
  refine n_ifge_yes (I := iX9_init) (tgt := 121) dX9_init_99 (by decide) (by decide) ?_
  exact n_vret (I := iX9_init) rfl dX9_init_121 (by decide) (by decide) ⟨rfl, fun k => [b, q5, (a9 1), (a9 2), (a9 3), (a9 4), (a9 5), (a9 6), (a9 7), (a9 8), (a9 9), (a9 10), (a9 11), (a9 12), (a9 13), (a9 14), (a9 15), (a9 16), (a9 17), (a9 18), (a9 19), (a9 20), (a9 21), q16, (a20 1), (a20 2), (a20 3), (a20 4), (a20 5), (a20 6), (a20 7), (a20 8), (a20 9), (a20 10), (a20 11), (a20 12), (a20 13), (a20 14), (a20 15), (a20 16), (a20 17), (a20 18), (a20 19), (a20 20), (a20 21), q27, (a31 1), (a31 2), (a31 3), (a31 4), (a31 5), (a31 6), (a31 7), (a31 8), (a31 9), (a31 10), (a31 11), (a31 12), (a31 13), (a31 14), (a31 15), (a31 16), (a31 17), (a31 18), (a31 19), (a31 20), (a31 21), q38, (a42 1), (a42 2), (a42 3), (a42 4), q49, (a53 1), (a53 2), q61, q70, q76, (a80 1), q107, (a111 1), q107_2, (a111_2 1), q107_3, (a111_3 1), q107_4, (a111_4 1)].getD k 0, rfl⟩
