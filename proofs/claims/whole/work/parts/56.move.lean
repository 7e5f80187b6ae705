section VWCOPY
variable {G : fGm} {I : fMI} {Q : Option Value → fSt → fLt → Prop} {d : Nat} {σ : fSt} {τ : fLt} {pc : Nat} {ls : List (Nat × Value)} {st : List Value}
/-- some ints of a row are copied into a row of the same length, or of itself -/
theorem v_copyi {k1 k2 n idx sp dp c : Nat} (hw : Cond.methodLink I.1.cls idx arraycopyName ∈ W0) (hd : decode I.2.1 pc = .ok (.invokestatic idx, 3)) (hk1 : k1 < 105) (hk2 : k2 < 105) (ha1 : ∀ f g, aent k1 f g = aI n f) (ha2 : ∀ f g, aent k2 f g = aI n f) (hn : n < 2 ^ 31) (hsp : sp + c ≤ n) (hdp : dp + c ≤ n) (h1 : 1 ≤ d) (hs : (st.map fun v => v.category).sum ≤ 8)
    (kk : VW G I Q d (va_up σ k2 (va_cpy (σ k1) (σ k2) sp dp c)) τ (pc + 3) ls st) : VW G I Q d σ τ pc ls (.int (nI c) :: .int (nI dp) :: .ref k2 :: .int (nI sp) :: .ref k1 :: st) := by
  intro p e s m args below meth c9 H locs L C hP hS hL
  obtain ⟨hx, hb, hr, hml, hts, hown, hlocks, hK, hRo, hI⟩ := id C
  have hnf : nativeFrameWords "java/lang/System" "arraycopy" 5 + 11 ≤ 50 := by decide +kernel
  have es : (nI sp).toNatClampNeg = sp := nI_clamp (by omega)
  have ed : (nI dp).toNatClampNeg = dp := nI_clamp (by omega)
  have en : (nI c).toNatClampNeg = c := nI_clamp (by omega)
  refine va_copyi hx hb (hml.trans hL.1.symm) hown (hts _ hw) (hts _ wm_arraycopy.1) (hts _ wm_arraycopy.2.1) (hts _ wm_arraycopy.2.2) hK hP (pic_D hI σ τ) hS k1 k2 0 0 (ty := .int) (pic_at hk1 (ha1 _ _)) (pic_at hk2 (ha2 _ _)) (gT0 G) (gT0 G) rfl (sp := nI sp) (dp := nI dp) (n := nI c) (nI_pos (by omega)) (nI_pos (by omega)) (nI_pos (by omega)) (by rw [es, en]; omega) (by rw [ed, en]; omega) (fun i hi => rfl) h1 (by rw [cV_cats]; show _ ≤ 64 * d; omega) hd (fun H1 locs1 hP1 hD1 hS1 => ?_)
  refine kk _ _ _ _ _ _ _ _ _ _ _ C ?_ hS1 hL
  rw [es, ed, en] at hP1
  rw [pic_set (σ' := va_up σ k2 (va_cpy (σ k1) (σ k2) sp dp c)) (τ' := τ) hk2 ?_ ?_] at hP1
  · exact hP1
  · show _ = cE G (aent k2 (va_up σ k2 _ k2) (τ k2))
    rw [va_up_s, ha2]
    rfl
  · intro i hi
    exact ⟨va_up_o _ _ hi, rfl⟩
end VWCOPY
set_option maxRecDepth 100000 in
set_option maxHeartbeats 4000000 in
theorem m_X5_has {G : fGm} {σ : fSt} {τ : fLt} {q : Nat} {i n : Int32} (hq : q < 4) : MS G iX5_has 0 [.ref (sc q), .int i, .int n] σ τ (rT (some (.int (if 0 ≤ i ∧ 0 ≤ n ∧ i ≤ σ (sc q) 2 ∧ n ≤ σ (sc q) 2 - i then 1 else 0))) σ τ) := by
  refine ms_of (by decide +kernel) (Nat.le_of_ble_eq_true rfl) ?_
  show VW _ _ _ _ _ _ 0 [(0, _), (1, _), (2, _)] []
  refine v_iload_n (I := iX5_has) dX5_has_0 rfl ?_
  refine v_if_lt (I := iX5_has) (tgt := 30) dX5_has_1 (by decide) (fun c1 => ?_) (fun c1 => ?_)
  · refine v_iconst (I := iX5_has) (v := 0) dX5_has_30 (by decide) ?_
    exact v_zret (I := iX5_has) rfl rfl dX5_has_31 ⟨by grind, rfl, rfl⟩
  · refine v_iload_n (I := iX5_has) dX5_has_4 rfl ?_
    refine v_if_lt (I := iX5_has) (tgt := 30) dX5_has_5 (by decide) (fun c5 => ?_) (fun c5 => ?_)
    · refine v_iconst (I := iX5_has) (v := 0) dX5_has_30 (by decide) ?_
      exact v_zret (I := iX5_has) rfl rfl dX5_has_31 ⟨by grind, rfl, rfl⟩
    · refine v_iload_n (I := iX5_has) dX5_has_8 rfl ?_
      refine v_aload_n (I := iX5_has) dX5_has_9 rfl ?_
      refine v_get (I := iX5_has) g_X5_19 dX5_has_10 (sc_lt hq) (ae_s0 hq _ _) rfl ?_
      refine v_icmp_gt (I := iX5_has) (tgt := 30) dX5_has_13 (by decide) (fun c13 => ?_) (fun c13 => ?_)
      · refine v_iconst (I := iX5_has) (v := 0) dX5_has_30 (by decide) ?_
        exact v_zret (I := iX5_has) rfl rfl dX5_has_31 ⟨by grind, rfl, rfl⟩
      · refine v_iload_n (I := iX5_has) dX5_has_16 rfl ?_
        refine v_aload_n (I := iX5_has) dX5_has_17 rfl ?_
        refine v_get (I := iX5_has) g_X5_19 dX5_has_18 (sc_lt hq) (ae_s0 hq _ _) rfl ?_
        refine v_iload_n (I := iX5_has) dX5_has_21 rfl ?_
        refine v_isub (I := iX5_has) dX5_has_22 ?_
        refine v_icmp_gt (I := iX5_has) (tgt := 30) dX5_has_23 (by decide) (fun c23 => ?_) (fun c23 => ?_)
        · refine v_iconst (I := iX5_has) (v := 0) dX5_has_30 (by decide) ?_
          exact v_zret (I := iX5_has) rfl rfl dX5_has_31 ⟨by grind, rfl, rfl⟩
        · refine v_iconst (I := iX5_has) (v := 1) dX5_has_26 (by decide) ?_
          refine v_goto (I := iX5_has) (tgt := 31) dX5_has_27 (by decide) ?_
          exact v_zret (I := iX5_has) rfl rfl dX5_has_31 ⟨by grind, rfl, rfl⟩
