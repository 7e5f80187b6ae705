def kOw (k a : Int32) : Bool := if k = 0 then true else if k = 1 then decide (a = 0 ∨ a = 3) else if k = 2 then decide (a = 1) else if k = 3 then decide (a = 2) else if k = 4 then decide (a = 0 ∨ a = 2) else if k = 5 then decide (a = 1) else decide (a < 2)
set_option maxRecDepth 100000 in
set_option maxHeartbeats 4000000 in
theorem m_X10_hasOwn {G : fGm} {σ : fSt} {τ : fLt} {k a : Int32} : MS G iX10_hasOwn 0 [.int k, .int a] σ τ (rT (some (.int (if kOw k a = true then 1 else 0))) σ τ) := by
  refine ms_of (by decide +kernel) (Nat.le_of_ble_eq_true rfl) ?_
  show VW _ _ _ _ _ _ 0 [(0, _), (1, _)] []
  refine v_iload_n (I := iX10_hasOwn) dX10_hasOwn_0 rfl ?_
  by_cases s1_0 : k = 0
  · refine v_tabIn (I := iX10_hasOwn) (tgt := 40) (off := 39) (v := 0) dX10_hasOwn_1 s1_0 (by decide) (by decide) (by decide) (by decide) ?_
    refine v_iconst (I := iX10_hasOwn) (v := 1) dX10_hasOwn_40 (by decide) ?_
    exact v_zret (I := iX10_hasOwn) rfl rfl dX10_hasOwn_41 ⟨by unfold kOw; grind, rfl, rfl⟩
  by_cases s1_1 : k = 1
  · refine v_tabIn (I := iX10_hasOwn) (tgt := 42) (off := 41) (v := 1) dX10_hasOwn_1 s1_1 (by decide) (by decide) (by decide) (by decide) ?_
    refine v_iload_n (I := iX10_hasOwn) dX10_hasOwn_42 rfl ?_
    refine v_if_eq (I := iX10_hasOwn) (tgt := 51) dX10_hasOwn_43 (by decide) (fun c43 => ?_) (fun c43 => ?_)
    · refine v_iconst (I := iX10_hasOwn) (v := 1) dX10_hasOwn_51 (by decide) ?_
      refine v_goto (I := iX10_hasOwn) (tgt := 56) dX10_hasOwn_52 (by decide) ?_
      exact v_zret (I := iX10_hasOwn) rfl rfl dX10_hasOwn_56 ⟨by unfold kOw; grind, rfl, rfl⟩
    · refine v_iload_n (I := iX10_hasOwn) dX10_hasOwn_46 rfl ?_
      refine v_iconst (I := iX10_hasOwn) (v := 3) dX10_hasOwn_47 (by decide) ?_
      refine v_icmp_ne (I := iX10_hasOwn) (tgt := 55) dX10_hasOwn_48 (by decide) (fun c48 => ?_) (fun c48 => ?_)
      · refine v_iconst (I := iX10_hasOwn) (v := 0) dX10_hasOwn_55 (by decide) ?_
        exact v_zret (I := iX10_hasOwn) rfl rfl dX10_hasOwn_56 ⟨by unfold kOw; grind, rfl, rfl⟩
      · refine v_iconst (I := iX10_hasOwn) (v := 1) dX10_hasOwn_51 (by decide) ?_
        refine v_goto (I := iX10_hasOwn) (tgt := 56) dX10_hasOwn_52 (by decide) ?_
        exact v_zret (I := iX10_hasOwn) rfl rfl dX10_hasOwn_56 ⟨by unfold kOw; grind, rfl, rfl⟩
  by_cases s1_2 : k = 2
  · refine v_tabIn (I := iX10_hasOwn) (tgt := 57) (off := 56) (v := 2) dX10_hasOwn_1 s1_2 (by decide) (by decide) (by decide) (by decide) ?_
    refine v_iload_n (I := iX10_hasOwn) dX10_hasOwn_57 rfl ?_
    refine v_iconst (I := iX10_hasOwn) (v := 1) dX10_hasOwn_58 (by decide) ?_
    refine v_icmp_ne (I := iX10_hasOwn) (tgt := 66) dX10_hasOwn_59 (by decide) (fun c59 => ?_) (fun c59 => ?_)
    · refine v_iconst (I := iX10_hasOwn) (v := 0) dX10_hasOwn_66 (by decide) ?_
      exact v_zret (I := iX10_hasOwn) rfl rfl dX10_hasOwn_67 ⟨by unfold kOw; grind, rfl, rfl⟩
    · refine v_iconst (I := iX10_hasOwn) (v := 1) dX10_hasOwn_62 (by decide) ?_
      refine v_goto (I := iX10_hasOwn) (tgt := 67) dX10_hasOwn_63 (by decide) ?_
      exact v_zret (I := iX10_hasOwn) rfl rfl dX10_hasOwn_67 ⟨by unfold kOw; grind, rfl, rfl⟩
  by_cases s1_3 : k = 3
  · refine v_tabIn (I := iX10_hasOwn) (tgt := 68) (off := 67) (v := 3) dX10_hasOwn_1 s1_3 (by decide) (by decide) (by decide) (by decide) ?_
    refine v_iload_n (I := iX10_hasOwn) dX10_hasOwn_68 rfl ?_
    refine v_iconst (I := iX10_hasOwn) (v := 2) dX10_hasOwn_69 (by decide) ?_
    refine v_icmp_ne (I := iX10_hasOwn) (tgt := 77) dX10_hasOwn_70 (by decide) (fun c70 => ?_) (fun c70 => ?_)
    · refine v_iconst (I := iX10_hasOwn) (v := 0) dX10_hasOwn_77 (by decide) ?_
      exact v_zret (I := iX10_hasOwn) rfl rfl dX10_hasOwn_78 ⟨by unfold kOw; grind, rfl, rfl⟩
    · refine v_iconst (I := iX10_hasOwn) (v := 1) dX10_hasOwn_73 (by decide) ?_
      refine v_goto (I := iX10_hasOwn) (tgt := 78) dX10_hasOwn_74 (by decide) ?_
      exact v_zret (I := iX10_hasOwn) rfl rfl dX10_hasOwn_78 ⟨by unfold kOw; grind, rfl, rfl⟩
  by_cases s1_4 : k = 4
  · refine v_tabIn (I := iX10_hasOwn) (tgt := 79) (off := 78) (v := 4) dX10_hasOwn_1 s1_4 (by decide) (by decide) (by decide) (by decide) ?_
    refine v_iload_n (I := iX10_hasOwn) dX10_hasOwn_79 rfl ?_
    refine v_if_eq (I := iX10_hasOwn) (tgt := 88) dX10_hasOwn_80 (by decide) (fun c80 => ?_) (fun c80 => ?_)
    · refine v_iconst (I := iX10_hasOwn) (v := 1) dX10_hasOwn_88 (by decide) ?_
      refine v_goto (I := iX10_hasOwn) (tgt := 93) dX10_hasOwn_89 (by decide) ?_
      exact v_zret (I := iX10_hasOwn) rfl rfl dX10_hasOwn_93 ⟨by unfold kOw; grind, rfl, rfl⟩
    · refine v_iload_n (I := iX10_hasOwn) dX10_hasOwn_83 rfl ?_
      refine v_iconst (I := iX10_hasOwn) (v := 2) dX10_hasOwn_84 (by decide) ?_
      refine v_icmp_ne (I := iX10_hasOwn) (tgt := 92) dX10_hasOwn_85 (by decide) (fun c85 => ?_) (fun c85 => ?_)
      · refine v_iconst (I := iX10_hasOwn) (v := 0) dX10_hasOwn_92 (by decide) ?_
        exact v_zret (I := iX10_hasOwn) rfl rfl dX10_hasOwn_93 ⟨by unfold kOw; grind, rfl, rfl⟩
      · refine v_iconst (I := iX10_hasOwn) (v := 1) dX10_hasOwn_88 (by decide) ?_
        refine v_goto (I := iX10_hasOwn) (tgt := 93) dX10_hasOwn_89 (by decide) ?_
        exact v_zret (I := iX10_hasOwn) rfl rfl dX10_hasOwn_93 ⟨by unfold kOw; grind, rfl, rfl⟩
  by_cases s1_5 : k = 5
  · refine v_tabIn (I := iX10_hasOwn) (tgt := 57) (off := 56) (v := 5) dX10_hasOwn_1 s1_5 (by decide) (by decide) (by decide) (by decide) ?_
    refine v_iload_n (I := iX10_hasOwn) dX10_hasOwn_57 rfl ?_
    refine v_iconst (I := iX10_hasOwn) (v := 1) dX10_hasOwn_58 (by decide) ?_
    refine v_icmp_ne (I := iX10_hasOwn) (tgt := 66) dX10_hasOwn_59 (by decide) (fun c59 => ?_) (fun c59 => ?_)
    · refine v_iconst (I := iX10_hasOwn) (v := 0) dX10_hasOwn_66 (by decide) ?_
      exact v_zret (I := iX10_hasOwn) rfl rfl dX10_hasOwn_67 ⟨by unfold kOw; grind, rfl, rfl⟩
    · refine v_iconst (I := iX10_hasOwn) (v := 1) dX10_hasOwn_62 (by decide) ?_
      refine v_goto (I := iX10_hasOwn) (tgt := 67) dX10_hasOwn_63 (by decide) ?_
      exact v_zret (I := iX10_hasOwn) rfl rfl dX10_hasOwn_67 ⟨by unfold kOw; grind, rfl, rfl⟩
  refine v_tabDef (I := iX10_hasOwn) (tgt := 94) dX10_hasOwn_1 (by decide) (fun off h1 h2 ho => ?_) (by decide) ?_
  · obtain ⟨j, hj, hjx⟩ := i32_rng (n := 6) h1 h2 (by decide)
    match j, hj with
    | 0, _ => exact absurd (hjx.trans (by decide)) s1_0
    | 1, _ => exact absurd (hjx.trans (by decide)) s1_1
    | 2, _ => exact absurd (hjx.trans (by decide)) s1_2
    | 3, _ => exact absurd (hjx.trans (by decide)) s1_3
    | 4, _ => exact absurd (hjx.trans (by decide)) s1_4
    | 5, _ => exact absurd (hjx.trans (by decide)) s1_5
    | j + 6, h => omega
  refine v_iload_n (I := iX10_hasOwn) dX10_hasOwn_94 rfl ?_
  refine v_iconst (I := iX10_hasOwn) (v := 2) dX10_hasOwn_95 (by decide) ?_
  refine v_icmp_ge (I := iX10_hasOwn) (tgt := 103) dX10_hasOwn_96 (by decide) (fun c96 => ?_) (fun c96 => ?_)
  · refine v_iconst (I := iX10_hasOwn) (v := 0) dX10_hasOwn_103 (by decide) ?_
    exact v_zret (I := iX10_hasOwn) rfl rfl dX10_hasOwn_104 ⟨by unfold kOw; grind, rfl, rfl⟩
  · refine v_iconst (I := iX10_hasOwn) (v := 1) dX10_hasOwn_99 (by decide) ?_
    refine v_goto (I := iX10_hasOwn) (tgt := 104) dX10_hasOwn_100 (by decide) ?_
    exact v_zret (I := iX10_hasOwn) rfl rfl dX10_hasOwn_104 ⟨by unfold kOw; grind, rfl, rfl⟩
