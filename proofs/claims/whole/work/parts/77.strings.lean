section VWS
variable {G : fGm} {I : fMI} {Q : Option Value → fSt → fLt → Prop} {d : Nat} {σ : fSt} {τ : fLt} {pc : Nat} {ls : List (Nat × Value)} {st : List Value}
theorem v_strC {i idx : Nat} (hi : i < 2) (hw : Cond.fieldLink I.1.cls idx RJ0 "coder" "B" ∈ W0) (hd : decode I.2.1 pc = .ok (.getfield idx, 3))
    (kk : VW G I Q d σ τ (pc + 3) ls (.int 0 :: st)) : VW G I Q d σ τ pc ls (.ref (1010 + i) :: st) := by
  intro p e s m args below meth c H locs L C hP hS hL
  obtain ⟨hx, hb, hr, hml, hts, hown, hlocks, hK, hRo, hI⟩ := id C
  exact vk_getf hx hb (hRo.2.1.1 i hi).2.1 hS hown (hts _ hw) (fun x h => h) hd (kk _ _ _ _ _ _ _ _ _ _ _ C hP hS hL)
theorem v_strV {i idx : Nat} (hi : i < 2) (hw : Cond.fieldLink I.1.cls idx RJ0 "value" "[B" ∈ W0) (hd : decode I.2.1 pc = .ok (.getfield idx, 3))
    (kk : VW G I Q d σ τ (pc + 3) ls (.ref (1020 + i) :: st)) : VW G I Q d σ τ pc ls (.ref (1010 + i) :: st) := by
  intro p e s m args below meth c H locs L C hP hS hL
  obtain ⟨hx, hb, hr, hml, hts, hown, hlocks, hK, hRo, hI⟩ := id C
  exact vk_getf hx hb (hRo.2.1.1 i hi).2.2.1 hS hown (hts _ hw) (fun x h => h) hd (kk _ _ _ _ _ _ _ _ _ _ _ C hP hS hL)
theorem v_strLen {i : Nat} (hi : i < 2) (hd : decode I.2.1 pc = .ok (.arraylength, 1))
    (kk : VW G I Q d σ τ (pc + 1) ls (.int (nI (kLen.getD i 0)) :: st)) : VW G I Q d σ τ pc ls (.ref (1020 + i) :: st) := by
  intro p e s m args below meth c H locs L C hP hS hL
  obtain ⟨hx, hb, hr, hml, hts, hown, hlocks, hK, hRo, hI⟩ := id C
  exact va_tlen hx hb (hRo.2.1.1 i hi).2.2.2 hS rfl hd (kk _ _ _ _ _ _ _ _ _ _ _ C hP hS hL)
theorem kLen_lt (i : Nat) (hi : i < 2) : kLen.getD i 0 < 2 ^ 31 := by
  rcases (show i = 0 ∨ i = 1 by omega) with rfl | rfl <;> decide
theorem v_strB {i j : Nat} {x : Int32} (hi : i < 2) (hj : x = nI j) (hjn : j < kLen.getD i 0) (hd : decode I.2.1 pc = .ok (.baload, 1))
    (kk : VW G I Q d σ τ (pc + 1) ls (.int ((kByt.getD i []).getD j 0) :: st)) : VW G I Q d σ τ pc ls (.int x :: .ref (1020 + i) :: st) := by
  subst hj
  intro p e s m args below meth c H locs L C hP hS hL
  obtain ⟨hx, hb, hr, hml, hts, hown, hlocks, hK, hRo, hI⟩ := id C
  refine va_tb hx hb (hRo.2.1.1 i hi).2.2.2 hS (vp_in_nI hjn (kLen_lt i hi)) (v := .int ((kByt.getD i []).getD j 0)) ?_ hd (kk _ _ _ _ _ _ _ _ _ _ _ C hP hS hL)
  rw [nI_clamp (Nat.lt_trans hjn (kLen_lt i hi))]
theorem v_getsCS {idx : Nat} (hw : Cond.fieldLink I.1.cls idx RJ0 "COMPACT_STRINGS" "Z" ∈ W0) (hd : decode I.2.1 pc = .ok (.getstatic idx, 3))
    (kk : VW G I Q d σ τ (pc + 3) ls (.int 1 :: st)) : VW G I Q d σ τ pc ls st := by
  intro p e s m args below meth c H locs L C hP hS hL
  obtain ⟨hx, hb, hr, hml, hts, hown, hlocks, hK, hRo, hI⟩ := id C
  exact va_gets hx hb hRo.2.2.2.2.1.1 hS hown (hts _ hw) (fun x h => h) hd (kk _ _ _ _ _ _ _ _ _ _ _ C hP hS hL)
theorem v_getsSI {idx : Nat} (hw : Cond.fieldLink I.1.cls idx RJ3 "SIOOBE_FORMATTER" "Ljava/util/function/BiFunction;" ∈ W0) (hd : decode I.2.1 pc = .ok (.getstatic idx, 3))
    (kk : ∀ v : Value, v.category = 1 → VW G I Q d σ τ (pc + 3) ls (v :: st)) : VW G I Q d σ τ pc ls st := by
  intro p e s m args below meth c H locs L C hP hS hL
  obtain ⟨hx, hb, hr, hml, hts, hown, hlocks, hK, hRo, hI⟩ := id C
  rcases hRo.2.2.2.2.1.2 with h | h
  · exact va_gets hx hb h hS hown (hts _ hw) (fun x h => h) hd (kk .null rfl _ _ _ _ _ _ _ _ _ _ _ C hP hS hL)
  · exact va_gets hx hb h hS hown (hts _ hw) (fun x h => h) hd (kk (.ref 1031) rfl _ _ _ _ _ _ _ _ _ _ _ C hP hS hL)
theorem v_ldcS_0 (hI9 : I.1.cls = RX9) (hd : decode I.2.1 pc = .ok (.ldc 173, 2)) (kk : VW G I Q d σ τ (pc + 2) ls (.ref (1010 + 0) :: st)) : VW G I Q d σ τ pc ls st := by
  intro p e s m args below meth c H locs L C hP hS hL
  obtain ⟨hx, hb, hr, hml, hts, hown, hlocks, hK, hRo, hI⟩ := id C
  rw [hI9] at hown
  exact va_ldcS hx hb hown hRo.2.2.1 hd (kk _ _ _ _ _ _ _ _ _ _ _ C hP hS hL)
theorem v_ldcS_1 (hI9 : I.1.cls = RX9) (hd : decode I.2.1 pc = .ok (.ldc 175, 2)) (kk : VW G I Q d σ τ (pc + 2) ls (.ref (1010 + 1) :: st)) : VW G I Q d σ τ pc ls st := by
  intro p e s m args below meth c H locs L C hP hS hL
  obtain ⟨hx, hb, hr, hml, hts, hown, hlocks, hK, hRo, hI⟩ := id C
  rw [hI9] at hown
  exact va_ldcS hx hb hown hRo.2.2.2.1 hd (kk _ _ _ _ _ _ _ _ _ _ _ C hP hS hL)
theorem v_ishr {x y : Int32} (hd : decode I.2.1 pc = .ok (.ishr, 1)) (k : VW G I Q d σ τ (pc + 1) ls (.int (x >>> (y &&& 31)) :: st)) : VW G I Q d σ τ pc ls (.int y :: .int x :: st) := by
  intro p e s m args below meth c H locs L C hP hS hL
  exact lv_ishr C.1 C.2.1 hd (k _ _ _ _ _ _ _ _ _ _ _ C hP hS hL)
/-- a method of a constant text -/
theorem v_callVS {I' : fMI} {d' n idx i : Nat} {As st0 : List Value} {v : Value} {σ1 : fSt} {τ1 : fLt} (hlk : Lk I.1.cls idx I'.1) (hc : CalV I' n) (hd : decode I.2.1 pc = .ok (.invokevirtual idx, 3)) (hm : MS G I' d' (.ref (1010 + i) :: As) σ τ (rT (some v) σ1 τ1))
    (hst : st0 = As.reverse ++ .ref (1010 + i) :: st) (hn : As.length = n) (hi : i < 2) (hcl : I'.1.cls = RJ0) (hdd : d' + 1 ≤ d) (hnl : I'.2.2.1 ≤ 45) (hs : (st.map fun v => v.category).sum ≤ 8)
    (kk : VW G I Q d σ1 τ1 (pc + 3) ls (v :: st)) : VW G I Q d σ τ pc ls st0 := by
  subst hst
  intro p e s m args below meth c H locs L C hP hS hL
  obtain ⟨hx, hb, hr, hml, hts, hown, hlocks, hK, hRo, hI⟩ := id C
  obtain ⟨hc1, hc2, hc3, hc5, hc4⟩ := hc
  have hG := ms_good hc1
  have hrecv : ∃ cellB : Cell, H[G.2.2.2 (1010 + i)]? = some cellB ∧ cellB.vm.isStatics = false ∧ s.vm.findClass I'.1.cls = some cellB.cls := by
    rw [hcl]
    exact vk_recv (adK := fun i => G.2.2.2 (1010 + i)) (adV := fun i => G.2.2.2 (1020 + i)) (i := i) hRo.2.1 hi hS
  have hpre : PreV s H I'.1.cls (G.2.2.2 (1010 + i)) (va_Pc ((Value.ref (1010 + i) :: As).map (cV G)) (fun U => va_P G.2.1 vwCl (pic G σ τ) U.heap ∧ va_K G.2.1 vwCl (gT G) U ∧ Ro G U ∧ Ij G)) (As.map (cV G)) :=
    ⟨ms_blind G _ σ τ, hrecv, fun U hU hW => ⟨rfl, by rw [hU]; exact hP, va_K.moved hW.alike hK, Ro.warm hW (fun a h1 h2 => by rw [hU]; exact hS.2.1 a h1 h2) hRo, hI⟩⟩
  have hR : (rmD d').frames + 1 ≤ (rmD d).frames ∧ 8 + (I'.2.2.1 + 11) + (rmD d').locals ≤ (rmD d).locals := ⟨hdd, by show 8 + (I'.2.2.1 + 11) + 64 * d' ≤ 64 * d; omega⟩
  have hstk : (F0 m pc L ((As.reverse ++ Value.ref (1010 + i) :: st).map (cV G))).stack = (As.map (cV G)).reverse ++ Value.ref (G.2.2.2 (1010 + i)) :: st.map (cV G) := by
    show (As.reverse ++ Value.ref (1010 + i) :: st).map (cV G) = _
    rw [List.map_append, List.map_reverse]
    rfl
  have hlen : (As.map (cV G)).length = n := by rw [List.length_map]; exact hn
  have kk' : ∀ v' σ' τ', rT (some v) σ1 τ1 v' σ' τ' → VW G I Q d σ' τ' (pc + 3) ls (v'.toList ++ st) := fun _ _ _ h => by obtain ⟨rfl, rfl, rfl⟩ := h; exact kk
  refine v_go C hS hL (a := (Value.ref (G.2.2.2 (1010 + i)) :: As.map (cV G)).toArray) ?_ kk'
  rcases hlk with hlk | ⟨host, hlk⟩
  · exact va_runV (n := n) ⟨hx, hb, hml, hown, hts⟩ hm ⟨callB_of n hts hG rfl rfl rfl (hts _ hc2) (hts _ hlk) hc4 hR, hts _ hc3, hts _ hc5⟩ hpre rfl hlen hL.1 hstk (lv_room (by rw [cV_cats]; exact hs)) hd ⟨Nat.le_refl _, Nat.le_refl _⟩
  · exact va_runVN (n := n) ⟨hx, hb, hml, hown, hts⟩ hm ⟨va_cnB n hts hG rfl rfl rfl (hRo.2.2.2.2.2 _ hlk) (hts _ hc2) hc4 hR, hts _ hc3, hts _ hc5⟩ hpre rfl hlen hL.1 hstk (lv_room (by rw [cV_cats]; exact hs)) hd ⟨Nat.le_refl _, Nat.le_refl _⟩
end VWS
/-- the first place of a byte -/
def ixF (i : Nat) (x : Int32) : Nat → Nat → Int32
  | 0, _ => -1
  | m + 1, j => if (kByt.getD i []).getD j 0 = x then nI j else ixF i x m (j + 1)
theorem ixF_0 : ∀ c, c < 256 → ixF 0 (nI c).toInt8.toInt32 5 0 = nmI 0 (nI c) := by decide +kernel
theorem ixF_1 : ∀ c, c < 256 → ixF 1 (nI c).toInt8.toInt32 4 0 = nmI 1 (nI c) := by decide +kernel
theorem ixF_nm {i : Nat} {b : Int32} (hi : i < 2) (hb : 0 ≤ b ∧ b ≤ 255) : ixF i b.toInt8.toInt32 (kLen.getD i 0) 0 = nmI i b := by
  obtain ⟨c, hc, rfl⟩ := in2_nI (x := b) (n := 256) (by decide) ⟨hb.1, by have := hb.2; show b < 256; grind⟩
  rcases (show i = 0 ∨ i = 1 by omega) with rfl | rfl
  · exact ixF_0 c hc
  · exact ixF_1 c hc
set_option maxRecDepth 100000 in
set_option maxHeartbeats 8000000 in
theorem m_J0_coder_7d493 {G : fGm} {σ : fSt} {τ : fLt} {i : Nat} (hi : i < 2) : MS G iJ0_coder_7d493 0 [.ref (1010 + i)] σ τ (rT (some (.int (0))) σ τ) := by
  refine ms_of (by decide +kernel) (Nat.le_of_ble_eq_true rfl) ?_
  show VW _ _ _ _ _ _ 0 [(0, _)] []
  refine v_getsCS (I := iJ0_coder_7d493) fl_J0_38 dJ0_coder_7d493_0 ?_
  refine v_if_eq (I := iJ0_coder_7d493) (tgt := 13) dJ0_coder_7d493_3 (by decide) (fun c3 => ?_) (fun c3 => ?_)
  · exact absurd c3 (by decide)
  · refine v_aload_n (I := iJ0_coder_7d493) dJ0_coder_7d493_6 rfl ?_
    refine v_strC (I := iJ0_coder_7d493) hi fl_J0_15 dJ0_coder_7d493_7 ?_
    refine v_goto (I := iJ0_coder_7d493) (tgt := 14) dJ0_coder_7d493_10 (by decide) ?_
    exact v_zret (I := iJ0_coder_7d493) rfl rfl dJ0_coder_7d493_14 ⟨rfl, rfl, rfl⟩
set_option maxRecDepth 100000 in
set_option maxHeartbeats 8000000 in
theorem m_J0_isLatin1_aae02 {G : fGm} {σ : fSt} {τ : fLt} {i : Nat} (hi : i < 2) : MS G iJ0_isLatin1_aae02 0 [.ref (1010 + i)] σ τ (rT (some (.int (1))) σ τ) := by
  refine ms_of (by decide +kernel) (Nat.le_of_ble_eq_true rfl) ?_
  show VW _ _ _ _ _ _ 0 [(0, _)] []
  refine v_getsCS (I := iJ0_isLatin1_aae02) fl_J0_38 dJ0_isLatin1_aae02_0 ?_
  refine v_if_eq (I := iJ0_isLatin1_aae02) (tgt := 17) dJ0_isLatin1_aae02_3 (by decide) (fun c3 => ?_) (fun c3 => ?_)
  · exact absurd c3 (by decide)
  · refine v_aload_n (I := iJ0_isLatin1_aae02) dJ0_isLatin1_aae02_6 rfl ?_
    refine v_strC (I := iJ0_isLatin1_aae02) hi fl_J0_15 dJ0_isLatin1_aae02_7 ?_
    refine v_if_ne (I := iJ0_isLatin1_aae02) (tgt := 17) dJ0_isLatin1_aae02_10 (by decide) (fun c10 => ?_) (fun c10 => ?_)
    · exact absurd rfl c10
    · refine v_iconst (I := iJ0_isLatin1_aae02) (v := 1) dJ0_isLatin1_aae02_13 (by decide) ?_
      refine v_goto (I := iJ0_isLatin1_aae02) (tgt := 18) dJ0_isLatin1_aae02_14 (by decide) ?_
      exact v_zret (I := iJ0_isLatin1_aae02) rfl rfl dJ0_isLatin1_aae02_18 ⟨rfl, rfl, rfl⟩
set_option maxRecDepth 100000 in
set_option maxHeartbeats 8000000 in
theorem m_J0_length_8abf5 {G : fGm} {σ : fSt} {τ : fLt} {i : Nat} (hi : i < 2) : MS G iJ0_length_8abf5 1 [.ref (1010 + i)] σ τ (rT (some (.int (nI (kLen.getD i 0)))) σ τ) := by
  refine ms_of (by decide +kernel) (Nat.le_of_ble_eq_true rfl) ?_
  show VW _ _ _ _ _ _ 0 [(0, _)] []
  refine v_aload_n (I := iJ0_length_8abf5) dJ0_length_8abf5_0 rfl ?_
  refine v_strV (I := iJ0_length_8abf5) hi fl_J0_9 dJ0_length_8abf5_1 ?_
  refine v_strLen (I := iJ0_length_8abf5) hi dJ0_length_8abf5_4 ?_
  refine v_aload_n (I := iJ0_length_8abf5) dJ0_length_8abf5_5 rfl ?_
  refine v_callVS (I := iJ0_length_8abf5) (I' := iJ0_coder_7d493) lk_J0_335 c_J0_coder_7d493 dJ0_length_8abf5_6 (m_J0_coder_7d493 hi) rfl rfl hi rfl (by decide) (by decide) (Nat.le_of_ble_eq_true rfl) ?_
  refine v_ishr (I := iJ0_length_8abf5) dJ0_length_8abf5_9 ?_
  exact v_iret (I := iJ0_length_8abf5) rfl dJ0_length_8abf5_10 ⟨by rcases (show i = 0 ∨ i = 1 by omega) with rfl | rfl <;> rfl, rfl, rfl⟩
set_option maxRecDepth 100000 in
set_option maxHeartbeats 8000000 in
theorem m_J1_canEncode_9a6ad {G : fGm} {σ : fSt} {τ : fLt} {b : Int32} (hb : 0 ≤ b ∧ b ≤ 255) : MS G iJ1_canEncode_9a6ad 0 [.int b] σ τ (rT (some (.int (1))) σ τ) := by
  refine ms_of (by decide +kernel) (Nat.le_of_ble_eq_true rfl) ?_
  show VW _ _ _ _ _ _ 0 [(0, _)] []
  refine v_iload_n (I := iJ1_canEncode_9a6ad) dJ1_canEncode_9a6ad_0 rfl ?_
  refine v_if_lt (I := iJ1_canEncode_9a6ad) (tgt := 15) dJ1_canEncode_9a6ad_1 (by decide) (fun c1 => ?_) (fun c1 => ?_)
  · exact absurd hb.1 (by grind)
  · refine v_iload_n (I := iJ1_canEncode_9a6ad) dJ1_canEncode_9a6ad_4 rfl ?_
    refine v_sipush (I := iJ1_canEncode_9a6ad) (v := 255) dJ1_canEncode_9a6ad_5 (by decide) ?_
    refine v_icmp_gt (I := iJ1_canEncode_9a6ad) (tgt := 15) dJ1_canEncode_9a6ad_8 (by decide) (fun c8 => ?_) (fun c8 => ?_)
    · exact absurd hb.2 (by grind)
    · refine v_iconst (I := iJ1_canEncode_9a6ad) (v := 1) dJ1_canEncode_9a6ad_11 (by decide) ?_
      refine v_goto (I := iJ1_canEncode_9a6ad) (tgt := 16) dJ1_canEncode_9a6ad_12 (by decide) ?_
      exact v_zret (I := iJ1_canEncode_9a6ad) rfl rfl dJ1_canEncode_9a6ad_16 ⟨rfl, rfl, rfl⟩
set_option maxRecDepth 100000 in
set_option maxHeartbeats 8000000 in
theorem m_J1_indexOfChar_4cfef {G : fGm} {σ : fSt} {τ : fLt} {i : Nat} (hi : i < 2) {b : Int32} : MS G iJ1_indexOfChar_4cfef 0 [.ref (1020 + i), .int b, .int 0, .int (nI (kLen.getD i 0))] σ τ (rT (some (.int (ixF i b.toInt8.toInt32 (kLen.getD i 0) 0))) σ τ) := by
  refine ms_of (by decide +kernel) (Nat.le_of_ble_eq_true rfl) ?_
  show VW _ _ _ _ _ _ 0 [(0, _), (1, _), (2, _), (3, _)] []
  have key : ∀ (m j : Nat) {y : Int32}, j + m = kLen.getD i 0 → ixF i b.toInt8.toInt32 m j = ixF i b.toInt8.toInt32 (kLen.getD i 0) 0 → y = nI j → VW G iJ1_indexOfChar_4cfef (rT (some (.int (ixF i b.toInt8.toInt32 (kLen.getD i 0) 0))) σ τ) 0 σ τ 7 [(5, .int y), (4, .int b.toInt8.toInt32), (0, .ref (1020 + i)), (1, .int b), (2, .int 0), (3, .int (nI (kLen.getD i 0)))] [] := by
    intro m
    induction m with
    | zero =>
      intro j y hjm he hy
      have hjm0 : j = kLen.getD i 0 := hjm
      subst hy
      show VW _ _ _ _ _ _ 7 [(5, _), (4, _), (0, _), (1, _), (2, _), (3, _)] []
      refine v_iload (I := iJ1_indexOfChar_4cfef) dJ1_indexOfChar_4cfef_7 rfl ?_
      refine v_iload_n (I := iJ1_indexOfChar_4cfef) dJ1_indexOfChar_4cfef_9 rfl ?_
      refine v_icmp_ge (I := iJ1_indexOfChar_4cfef) (tgt := 31) dJ1_indexOfChar_4cfef_10 (by decide) (fun c10 => ?_) (fun c10 => ?_)
      · refine v_iconst (I := iJ1_indexOfChar_4cfef) (v := -1) dJ1_indexOfChar_4cfef_31 (by decide) ?_
        exact v_iret (I := iJ1_indexOfChar_4cfef) rfl dJ1_indexOfChar_4cfef_32 ⟨by rw [← he]; rfl, rfl, rfl⟩
      · exact absurd (by rw [hjm0]; exact Int32.le_refl _) c10
    | succ m ih =>
      intro j y hjm he hy
      subst hy
      show VW _ _ _ _ _ _ 7 [(5, _), (4, _), (0, _), (1, _), (2, _), (3, _)] []
      refine v_iload (I := iJ1_indexOfChar_4cfef) dJ1_indexOfChar_4cfef_7 rfl ?_
      refine v_iload_n (I := iJ1_indexOfChar_4cfef) dJ1_indexOfChar_4cfef_9 rfl ?_
      refine v_icmp_ge (I := iJ1_indexOfChar_4cfef) (tgt := 31) dJ1_indexOfChar_4cfef_10 (by decide) (fun c10 => ?_) (fun c10 => ?_)
      · exact absurd c10 (by exact nI_ge (by omega) (kLen_lt i hi))
      · refine v_aload_n (I := iJ1_indexOfChar_4cfef) dJ1_indexOfChar_4cfef_13 rfl ?_
        refine v_iload (I := iJ1_indexOfChar_4cfef) dJ1_indexOfChar_4cfef_14 rfl ?_
        refine v_strB (I := iJ1_indexOfChar_4cfef) (j := j) hi rfl (by omega) dJ1_indexOfChar_4cfef_16 ?_
        refine v_iload (I := iJ1_indexOfChar_4cfef) dJ1_indexOfChar_4cfef_17 rfl ?_
        refine v_icmp_ne (I := iJ1_indexOfChar_4cfef) (tgt := 25) dJ1_indexOfChar_4cfef_19 (by decide) (fun c19 => ?_) (fun c19 => ?_)
        · refine v_iinc (I := iJ1_indexOfChar_4cfef) (ls1 := [(5, _), (4, _), (0, _), (1, _), (2, _), (3, _)]) dJ1_indexOfChar_4cfef_25 rfl rfl (by decide) rfl ?_
          refine v_goto (I := iJ1_indexOfChar_4cfef) (tgt := 7) dJ1_indexOfChar_4cfef_28 (by decide) ?_
          exact ih (j + 1) (by omega) (by rw [← he]; conv => rhs; unfold ixF; rw [if_neg c19]) (nI_1 j)
        · refine v_iload (I := iJ1_indexOfChar_4cfef) dJ1_indexOfChar_4cfef_22 rfl ?_
          exact v_iret (I := iJ1_indexOfChar_4cfef) rfl dJ1_indexOfChar_4cfef_24 ⟨by rw [← he]; unfold ixF; rw [if_pos c19], rfl, rfl⟩
  refine v_iload_n (I := iJ1_indexOfChar_4cfef) dJ1_indexOfChar_4cfef_0 rfl ?_
  refine v_i2b (I := iJ1_indexOfChar_4cfef) dJ1_indexOfChar_4cfef_1 ?_
  refine v_istore (I := iJ1_indexOfChar_4cfef) (ls1 := [(4, _), (0, _), (1, _), (2, _), (3, _)]) dJ1_indexOfChar_4cfef_2 (by decide) rfl ?_
  refine v_iload_n (I := iJ1_indexOfChar_4cfef) dJ1_indexOfChar_4cfef_4 rfl ?_
  refine v_istore (I := iJ1_indexOfChar_4cfef) (ls1 := [(5, _), (4, _), (0, _), (1, _), (2, _), (3, _)]) dJ1_indexOfChar_4cfef_5 (by decide) rfl ?_
  exact key _ 0 (by omega) rfl rfl
set_option maxRecDepth 100000 in
set_option maxHeartbeats 8000000 in
theorem m_J1_indexOf_4cfef {G : fGm} {σ : fSt} {τ : fLt} {i : Nat} (hi : i < 2) {b : Int32} (hb : 0 ≤ b ∧ b ≤ 255) : MS G iJ1_indexOf_4cfef 1 [.ref (1020 + i), .int b, .int 0, .int (nI (kLen.getD i 0))] σ τ (rT (some (.int (nmI i b))) σ τ) := by
  refine ms_of (by decide +kernel) (Nat.le_of_ble_eq_true rfl) ?_
  show VW _ _ _ _ _ _ 0 [(0, _), (1, _), (2, _), (3, _)] []
  refine v_iload_n (I := iJ1_indexOf_4cfef) dJ1_indexOf_4cfef_0 rfl ?_
  refine v_callSi (I := iJ1_indexOf_4cfef) (I' := iJ1_canEncode_9a6ad) lk_J1_88 c_J1_canEncode_9a6ad dJ1_indexOf_4cfef_1 (m_J1_canEncode_9a6ad hb) rfl rfl (by decide) (by decide) (Nat.le_of_ble_eq_true rfl) ?_
  refine v_if_ne (I := iJ1_indexOf_4cfef) (tgt := 9) dJ1_indexOf_4cfef_4 (by decide) (fun c4 => ?_) (fun c4 => ?_)
  · refine v_iload_n (I := iJ1_indexOf_4cfef) dJ1_indexOf_4cfef_9 rfl ?_
    refine v_iconst (I := iJ1_indexOf_4cfef) (v := 0) dJ1_indexOf_4cfef_10 (by decide) ?_
    refine v_max (I := iJ1_indexOf_4cfef) lm_J1_92 dJ1_indexOf_4cfef_11 (by decide) (Nat.le_of_ble_eq_true rfl) ?_
    rw [show (if (0 : Int32) < 0 then (0 : Int32) else 0) = 0 from rfl]
    refine v_istore_n (I := iJ1_indexOf_4cfef) (ls1 := [(2, _), (0, _), (1, _), (3, _)]) dJ1_indexOf_4cfef_14 (by decide) rfl ?_
    refine v_iload_n (I := iJ1_indexOf_4cfef) dJ1_indexOf_4cfef_15 rfl ?_
    refine v_aload_n (I := iJ1_indexOf_4cfef) dJ1_indexOf_4cfef_16 rfl ?_
    refine v_strLen (I := iJ1_indexOf_4cfef) hi dJ1_indexOf_4cfef_17 ?_
    refine v_min (I := iJ1_indexOf_4cfef) lm_J1_38 dJ1_indexOf_4cfef_18 (by decide) (Nat.le_of_ble_eq_true rfl) ?_
    rw [show (if nI (kLen.getD i 0) < nI (kLen.getD i 0) then nI (kLen.getD i 0) else nI (kLen.getD i 0)) = nI (kLen.getD i 0) by grind]
    refine v_istore_n (I := iJ1_indexOf_4cfef) (ls1 := [(3, _), (2, _), (0, _), (1, _)]) dJ1_indexOf_4cfef_21 (by decide) rfl ?_
    refine v_iload_n (I := iJ1_indexOf_4cfef) dJ1_indexOf_4cfef_22 rfl ?_
    refine v_iload_n (I := iJ1_indexOf_4cfef) dJ1_indexOf_4cfef_23 rfl ?_
    refine v_icmp_lt (I := iJ1_indexOf_4cfef) (tgt := 29) dJ1_indexOf_4cfef_24 (by decide) (fun c24 => ?_) (fun c24 => ?_)
    · refine v_aload_n (I := iJ1_indexOf_4cfef) dJ1_indexOf_4cfef_29 rfl ?_
      refine v_iload_n (I := iJ1_indexOf_4cfef) dJ1_indexOf_4cfef_30 rfl ?_
      refine v_iload_n (I := iJ1_indexOf_4cfef) dJ1_indexOf_4cfef_31 rfl ?_
      refine v_iload_n (I := iJ1_indexOf_4cfef) dJ1_indexOf_4cfef_32 rfl ?_
      refine v_callSi (I := iJ1_indexOf_4cfef) (I' := iJ1_indexOfChar_4cfef) lk_J1_95 c_J1_indexOfChar_4cfef dJ1_indexOf_4cfef_33 (m_J1_indexOfChar_4cfef hi) rfl rfl (by decide) (by decide) (Nat.le_of_ble_eq_true rfl) ?_
      rw [ixF_nm hi hb]
      exact v_iret (I := iJ1_indexOf_4cfef) rfl dJ1_indexOf_4cfef_36 ⟨rfl, rfl, rfl⟩
    · exact absurd (by rcases (show i = 0 ∨ i = 1 by omega) with rfl | rfl <;> decide) c24
  · exact absurd c4 (by decide)
set_option maxRecDepth 100000 in
set_option maxHeartbeats 8000000 in
theorem m_J0_indexOf_7cf53 {G : fGm} {σ : fSt} {τ : fLt} {i : Nat} (hi : i < 2) {b : Int32} (hb : 0 ≤ b ∧ b ≤ 255) : MS G iJ0_indexOf_7cf53 2 [.ref (1010 + i), .int b, .int 0] σ τ (rT (some (.int (nmI i b))) σ τ) := by
  refine ms_of (by decide +kernel) (Nat.le_of_ble_eq_true rfl) ?_
  show VW _ _ _ _ _ _ 0 [(0, _), (1, _), (2, _)] []
  refine v_aload_n (I := iJ0_indexOf_7cf53) dJ0_indexOf_7cf53_0 rfl ?_
  refine v_callVS (I := iJ0_indexOf_7cf53) (I' := iJ0_isLatin1_aae02) lk_J0_492 c_J0_isLatin1_aae02 dJ0_indexOf_7cf53_1 (m_J0_isLatin1_aae02 hi) rfl rfl hi rfl (by decide) (by decide) (Nat.le_of_ble_eq_true rfl) ?_
  refine v_if_eq (I := iJ0_indexOf_7cf53) (tgt := 23) dJ0_indexOf_7cf53_4 (by decide) (fun c4 => ?_) (fun c4 => ?_)
  · exact absurd c4 (by decide)
  · refine v_aload_n (I := iJ0_indexOf_7cf53) dJ0_indexOf_7cf53_7 rfl ?_
    refine v_strV (I := iJ0_indexOf_7cf53) hi fl_J0_9 dJ0_indexOf_7cf53_8 ?_
    refine v_iload_n (I := iJ0_indexOf_7cf53) dJ0_indexOf_7cf53_11 rfl ?_
    refine v_iload_n (I := iJ0_indexOf_7cf53) dJ0_indexOf_7cf53_12 rfl ?_
    refine v_aload_n (I := iJ0_indexOf_7cf53) dJ0_indexOf_7cf53_13 rfl ?_
    refine v_callVS (I := iJ0_indexOf_7cf53) (I' := iJ0_length_8abf5) lk_J0_505 c_J0_length_8abf5 dJ0_indexOf_7cf53_14 (m_J0_length_8abf5 hi) rfl rfl hi rfl (by decide) (by decide) (Nat.le_of_ble_eq_true rfl) ?_
    refine v_callSi (I := iJ0_indexOf_7cf53) (I' := iJ1_indexOf_4cfef) lk_J0_637 c_J1_indexOf_4cfef dJ0_indexOf_7cf53_17 (m_J1_indexOf_4cfef hi hb) rfl rfl (by decide) (by decide) (Nat.le_of_ble_eq_true rfl) ?_
    refine v_goto (I := iJ0_indexOf_7cf53) (tgt := 36) dJ0_indexOf_7cf53_20 (by decide) ?_
    exact v_iret (I := iJ0_indexOf_7cf53) rfl dJ0_indexOf_7cf53_36 ⟨rfl, rfl, rfl⟩
set_option maxRecDepth 100000 in
set_option maxHeartbeats 8000000 in
theorem m_J0_indexOf_0f7a4 {G : fGm} {σ : fSt} {τ : fLt} {i : Nat} (hi : i < 2) {b : Int32} (hb : 0 ≤ b ∧ b ≤ 255) : MS G iJ0_indexOf_0f7a4 3 [.ref (1010 + i), .int b] σ τ (rT (some (.int (nmI i b))) σ τ) := by
  refine ms_of (by decide +kernel) (Nat.le_of_ble_eq_true rfl) ?_
  show VW _ _ _ _ _ _ 0 [(0, _), (1, _)] []
  refine v_aload_n (I := iJ0_indexOf_0f7a4) dJ0_indexOf_0f7a4_0 rfl ?_
  refine v_iload_n (I := iJ0_indexOf_0f7a4) dJ0_indexOf_0f7a4_1 rfl ?_
  refine v_iconst (I := iJ0_indexOf_0f7a4) (v := 0) dJ0_indexOf_0f7a4_2 (by decide) ?_
  refine v_callVS (I := iJ0_indexOf_0f7a4) (I' := iJ0_indexOf_7cf53) lk_J0_633 c_J0_indexOf_7cf53 dJ0_indexOf_0f7a4_3 (m_J0_indexOf_7cf53 hi hb) rfl rfl hi rfl (by decide) (by decide) (Nat.le_of_ble_eq_true rfl) ?_
  exact v_iret (I := iJ0_indexOf_0f7a4) rfl dJ0_indexOf_0f7a4_6 ⟨rfl, rfl, rfl⟩
set_option maxRecDepth 100000 in
theorem m_J3_checkIndex_8e157 {G : fGm} {σ : fSt} {τ : fLt} {j n : Nat} {v : Value} (hv : v.category = 1) (hj : j < n) (hn : n < 2 ^ 31) : MS G iJ3_checkIndex_8e157 0 [.int (nI j), .int (nI n), v] σ τ (rT (some (.int (nI j))) σ τ) := by
  refine ms_of (by decide +kernel) (by cases v <;> first | exact Nat.le_of_ble_eq_true rfl | exact absurd (show (2 : Nat) = 1 from hv) (by decide)) ?_
  show VW _ _ _ _ _ _ 0 [(0, _), (1, _), (2, _)] []
  refine v_iload_n (I := iJ3_checkIndex_8e157) dJ3_checkIndex_8e157_0 rfl ?_
  refine v_if_lt (I := iJ3_checkIndex_8e157) (tgt := 9) dJ3_checkIndex_8e157_1 (by decide) (fun c1 => ?_) (fun c1 => ?_)
  · exact absurd c1 (nI_pos (by omega))
  · refine v_iload_n (I := iJ3_checkIndex_8e157) dJ3_checkIndex_8e157_4 rfl ?_
    refine v_iload_n (I := iJ3_checkIndex_8e157) dJ3_checkIndex_8e157_5 rfl ?_
    refine v_icmp_lt (I := iJ3_checkIndex_8e157) (tgt := 16) dJ3_checkIndex_8e157_6 (by decide) (fun c6 => ?_) (fun c6 => ?_)
    · refine v_iload_n (I := iJ3_checkIndex_8e157) dJ3_checkIndex_8e157_16 rfl ?_
      exact v_iret (I := iJ3_checkIndex_8e157) rfl dJ3_checkIndex_8e157_17 ⟨rfl, rfl, rfl⟩
    · exact absurd (nI_lt hj hn) c6
set_option maxRecDepth 100000 in
set_option maxHeartbeats 8000000 in
theorem m_J0_checkIndex_df160 {G : fGm} {σ : fSt} {τ : fLt} {j n : Nat} (hj : j < n) (hn : n < 2 ^ 31) : MS G iJ0_checkIndex_df160 1 [.int (nI j), .int (nI n)] σ τ (rT none σ τ) := by
  refine ms_of (by decide +kernel) (Nat.le_of_ble_eq_true rfl) ?_
  show VW _ _ _ _ _ _ 0 [(0, _), (1, _)] []
  refine v_iload_n (I := iJ0_checkIndex_df160) dJ0_checkIndex_df160_0 rfl ?_
  refine v_iload_n (I := iJ0_checkIndex_df160) dJ0_checkIndex_df160_1 rfl ?_
  refine v_getsSI (I := iJ0_checkIndex_df160) fl_J0_1053 dJ0_checkIndex_df160_2 (fun v9 hv9 => ?_)
  refine v_callSi (I := iJ0_checkIndex_df160) (I' := iJ3_checkIndex_8e157) lk_J0_1059 c_J3_checkIndex_8e157 dJ0_checkIndex_df160_5 (m_J3_checkIndex_8e157 hv9 hj hn) rfl rfl (by decide) (by decide) (Nat.le_of_ble_eq_true rfl) ?_
  refine v_pop (I := iJ0_checkIndex_df160) dJ0_checkIndex_df160_8 rfl ?_
  exact v_vret (I := iJ0_checkIndex_df160) rfl dJ0_checkIndex_df160_9 ⟨rfl, rfl, rfl⟩
theorem kB_0 : ∀ j, j < 5 → (((kByt.getD 0 []).getD j 0 &&& 255).toUInt32 % 65536).toInt32 = (kByt.getD 0 []).getD j 0 ∧ narrow .char (.int ((kByt.getD 0 []).getD j 0)) = .int ((kByt.getD 0 []).getD j 0) := by
  intro j hj
  rcases (show j = 0 ∨ j = 1 ∨ j = 2 ∨ j = 3 ∨ j = 4 by omega) with rfl | rfl | rfl | rfl | rfl <;> exact ⟨rfl, rfl⟩
theorem kB_1 : ∀ j, j < 4 → (((kByt.getD 1 []).getD j 0 &&& 255).toUInt32 % 65536).toInt32 = (kByt.getD 1 []).getD j 0 ∧ narrow .char (.int ((kByt.getD 1 []).getD j 0)) = .int ((kByt.getD 1 []).getD j 0) := by
  intro j hj
  rcases (show j = 0 ∨ j = 1 ∨ j = 2 ∨ j = 3 by omega) with rfl | rfl | rfl | rfl <;> exact ⟨rfl, rfl⟩
theorem kB_c {i j : Nat} (hi : i < 2) (hj : j < kLen.getD i 0) : (((kByt.getD i []).getD j 0 &&& 255).toUInt32 % 65536).toInt32 = (kByt.getD i []).getD j 0 := by
  rcases (show i = 0 ∨ i = 1 by omega) with rfl | rfl
  · exact (kB_0 j hj).1
  · exact (kB_1 j hj).1
theorem kB_n {i j : Nat} (hi : i < 2) (hj : j < kLen.getD i 0) : narrow .char (.int ((kByt.getD i []).getD j 0)) = .int ((kByt.getD i []).getD j 0) := by
  rcases (show i = 0 ∨ i = 1 by omega) with rfl | rfl
  · exact (kB_0 j hj).2
  · exact (kB_1 j hj).2
set_option maxRecDepth 100000 in
set_option maxHeartbeats 8000000 in
theorem m_J1_charAt_3b067 {G : fGm} {σ : fSt} {τ : fLt} {i : Nat} (hi : i < 2) {j : Nat} (hj : j < kLen.getD i 0) : MS G iJ1_charAt_3b067 2 [.ref (1020 + i), .int (nI j)] σ τ (rT (some (.int ((kByt.getD i []).getD j 0))) σ τ) := by
  refine ms_of (by decide +kernel) (Nat.le_of_ble_eq_true rfl) ?_
  show VW _ _ _ _ _ _ 0 [(0, _), (1, _)] []
  refine v_iload_n (I := iJ1_charAt_3b067) dJ1_charAt_3b067_0 rfl ?_
  refine v_aload_n (I := iJ1_charAt_3b067) dJ1_charAt_3b067_1 rfl ?_
  refine v_strLen (I := iJ1_charAt_3b067) hi dJ1_charAt_3b067_2 ?_
  refine v_callSv (I := iJ1_charAt_3b067) (I' := iJ0_checkIndex_df160) lk_J1_9 c_J0_checkIndex_df160 dJ1_charAt_3b067_3 (m_J0_checkIndex_df160 hj (kLen_lt i hi)) rfl rfl (by decide) (by decide) (Nat.le_of_ble_eq_true rfl) ?_
  refine v_aload_n (I := iJ1_charAt_3b067) dJ1_charAt_3b067_6 rfl ?_
  refine v_iload_n (I := iJ1_charAt_3b067) dJ1_charAt_3b067_7 rfl ?_
  refine v_strB (I := iJ1_charAt_3b067) (j := j) hi rfl hj dJ1_charAt_3b067_8 ?_
  refine v_sipush (I := iJ1_charAt_3b067) (v := 255) dJ1_charAt_3b067_9 (by decide) ?_
  refine v_iand (I := iJ1_charAt_3b067) dJ1_charAt_3b067_12 ?_
  refine v_i2c (I := iJ1_charAt_3b067) dJ1_charAt_3b067_13 ?_
  exact v_zret (I := iJ1_charAt_3b067) rfl (by rw [kB_c hi hj]; exact kB_n hi hj) dJ1_charAt_3b067_14 ⟨by rw [kB_c hi hj], rfl, rfl⟩
set_option maxRecDepth 100000 in
set_option maxHeartbeats 8000000 in
theorem m_J0_charAt_5068e {G : fGm} {σ : fSt} {τ : fLt} {i : Nat} (hi : i < 2) {j : Nat} (hj : j < kLen.getD i 0) : MS G iJ0_charAt_5068e 3 [.ref (1010 + i), .int (nI j)] σ τ (rT (some (.int ((kByt.getD i []).getD j 0))) σ τ) := by
  refine ms_of (by decide +kernel) (Nat.le_of_ble_eq_true rfl) ?_
  show VW _ _ _ _ _ _ 0 [(0, _), (1, _)] []
  refine v_aload_n (I := iJ0_charAt_5068e) dJ0_charAt_5068e_0 rfl ?_
  refine v_callVS (I := iJ0_charAt_5068e) (I' := iJ0_isLatin1_aae02) lk_J0_492 c_J0_isLatin1_aae02 dJ0_charAt_5068e_1 (m_J0_isLatin1_aae02 hi) rfl rfl hi rfl (by decide) (by decide) (Nat.le_of_ble_eq_true rfl) ?_
  refine v_if_eq (I := iJ0_charAt_5068e) (tgt := 16) dJ0_charAt_5068e_4 (by decide) (fun c4 => ?_) (fun c4 => ?_)
  · exact absurd c4 (by decide)
  · refine v_aload_n (I := iJ0_charAt_5068e) dJ0_charAt_5068e_7 rfl ?_
    refine v_strV (I := iJ0_charAt_5068e) hi fl_J0_9 dJ0_charAt_5068e_8 ?_
    refine v_iload_n (I := iJ0_charAt_5068e) dJ0_charAt_5068e_11 rfl ?_
    refine v_callSi (I := iJ0_charAt_5068e) (I' := iJ1_charAt_3b067) lk_J0_495 c_J1_charAt_3b067 dJ0_charAt_5068e_12 (m_J1_charAt_3b067 hi hj) rfl rfl (by decide) (by decide) (Nat.le_of_ble_eq_true rfl) ?_
    exact v_zret (I := iJ0_charAt_5068e) rfl (kB_n hi hj) dJ0_charAt_5068e_15 ⟨rfl, rfl, rfl⟩
