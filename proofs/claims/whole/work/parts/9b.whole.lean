theorem wl_9 : Cond.methodLink RL 9 yX9_init ∈ W0 := iW (tI1 (List.mem_of_getElem? (i := 21) (by decide +kernel))) (by decide +kernel)
theorem wl_12 : Cond.methodLink RL 12 yX10_init ∈ W0 := iW (tI4 (List.mem_of_getElem? (i := 180) (by decide +kernel))) (by decide +kernel)
theorem ro_of {G : fGm} {s : State} {q9 : Nat} {a9 : Nat → Nat} {q10 : Nat} {a10 : Nat → Nat} {b : Nat} (hN : RoN G s.heap.size s) (h5 : ∀ i, i < 5 → va_Z RX9 (sNm i) "[I" (.ref (G.2.2.2 (1000 + i))) (fun q => s.heap.size ≤ q) s s.heap ∧ va_T .int (G.2.2.2 (1000 + i)) (sTb i).length (fun j => .int ((sTb i).getD j 0)) (fun q => s.heap.size ≤ q) s s.heap)
    (r1 : vk_R RX9 173 "fswlh" (G.2.2.2 1010) s) (r2 : vk_R RX9 175 "grwl" (G.2.2.2 1011) s) (hz : va_Z RJ3 "SIOOBE_FORMATTER" "Ljava/util/function/BiFunction;" .null (fun q => s.heap.size ≤ q) s s.heap ∨ va_Z RJ3 "SIOOBE_FORMATTER" "Ljava/util/function/BiFunction;" (.ref (G.2.2.2 1031)) (fun q => s.heap.size ≤ q) s s.heap)
    (hA : ∀ k, k < 105 → s.heap.size ≤ adF q9 a9 q10 a10 b G.2.2.2 k) : Ro (gF G q9 a9 q10 a10 b) s := by
  have hRg : ∀ q, Reg (gF G q9 a9 q10 a10 b) q → s.heap.size ≤ q := by
    intro q h
    obtain ⟨k, hk, e⟩ := h
    rw [e]
    exact hA k hk
  refine ⟨fun i hi => ?_, ?_, r1, r2, ⟨hN.2.2.2.2.2.2.1.narrow hRg, hz.imp (fun h => h.narrow hRg) (fun h => h.narrow hRg)⟩, hN.2.2.2.2.2.2.2.1⟩
  · rcases (show i = 0 ∨ i = 1 ∨ i = 2 ∨ i = 3 ∨ i = 4 by omega) with rfl | rfl | rfl | rfl | rfl
    · exact ⟨(h5 0 (by decide)).1.narrow hRg, (h5 0 (by decide)).2.narrow hRg⟩
    · exact ⟨(h5 1 (by decide)).1.narrow hRg, (h5 1 (by decide)).2.narrow hRg⟩
    · exact ⟨(h5 2 (by decide)).1.narrow hRg, (h5 2 (by decide)).2.narrow hRg⟩
    · exact ⟨(h5 3 (by decide)).1.narrow hRg, (h5 3 (by decide)).2.narrow hRg⟩
    · exact ⟨(h5 4 (by decide)).1.narrow hRg, (h5 4 (by decide)).2.narrow hRg⟩
  · have hv := hN.2.2.1.narrow hRg
    refine ⟨fun i hi => ?_, fun i j hi hj h => ?_⟩
    · rcases (show i = 0 ∨ i = 1 by omega) with rfl | rfl
      · exact hv.1 0 (by decide)
      · exact hv.1 1 (by decide)
    · rcases (show i = 0 ∨ i = 1 by omega) with rfl | rfl <;> rcases (show j = 0 ∨ j = 1 by omega) with rfl | rfl
      · rfl
      · exact hv.2 0 1 (by decide) (by decide) h
      · exact hv.2 1 0 (by decide) (by decide) h
      · rfl
set_option maxHeartbeats 8000000 in
set_option maxRecDepth 100000 in
theorem whole_start {p : Program} {e : Env} {s : State} {m : MethodId} {below : List Frame} {meth : Method} {c : Code} (l : Launch) (hflags : l.flags = flags0) {b L : Nat} {xs : Nat → Int32} (hL : L ≤ 384) (C0 : lw_At p s m meth c b L xs) : W p l e room_1 s m #[Value.ref b] below meth c s.heap [] 0 0 (lw_Z below #[Value.ref b] s) (entryFrame m ([Value.ref b] : List Value).toArray 4) := by
  obtain ⟨hx, hb, hr, hml, hown, hts, hX, hbl, hlocks, hgv⟩ := id C0
  have hs : ∀ c ∈ flatC NB, c.before #[Value.ref b] s = true := flat_of_before _ hgv
  have hb : c.code = cL_law := hb
  have hown : s.vm.findClass RL = some m.cls := hown
  have hts0 : ∀ w ∈ W0, w.before #[Value.ref b] s = true := fun w hw => hts w (W0_in w hw)
  obtain ⟨G0, hl0, hK, hRo, h5, r1, r2, hz⟩ := st_all l hs hts
  subst hl0
  have hA : ∀ q : Nat, s.heap.size ≤ q → (fun q : Nat => s.heap.size ≤ q) q := fun _ h => h
  have hS : va_S (fun q : Nat => s.heap.size ≤ q) s.heap s.heap [] := va_S.rf
  have hP : va_P G0.2.1 vwCl [] s.heap := fun k q h => by simp at h
  have hD : va_D (fun q : Nat => s.heap.size ≤ q) [] := ⟨fun i j p q h => by simp at h, fun k q h => by simp at h⟩
  have hl := lv_entry ([.ref b]) (n := 4) (Nat.le_of_ble_eq_true rfl)
  rw [lg_entry_eq]
  generalize (lg_sl ([.ref b]) ++ List.replicate (4 - (lg_sl ([.ref b])).length) Slot.unset).toArray = ls at hl ⊢
  have hl : lv_has ls 4 [(0, .ref b)] := hl
  refine va_new (ci := 9) (fs := [.null, .null, .null, .null, .null, .null, .null, .null, .int 0]) (C := RX9) (T := TX9) (N := 9) hx hb hts0 ul_X9 tyX9 tyX9_ok hown (hts0 _ cl_L_7) (hts0 _ inst_X9) (hts0 _ ini_FirstSteps) hK hP hD hS hA rfl df_X9 (by decide) (by decide) dL_law_0 (fun q9 H hP hD hS => ?_)
  refine lv_dup hx hb dL_law_3 rfl ?_
  have hP : va_P G0.2.1 vwCl (([] : va_W) ++ [(q9, .inr (9, [.null, .null, .null, .null, .null, .null, .null, .null, .int 0]))]) H := hP
  have hD : va_D (fun q => s.heap.size ≤ q) (([] : va_W) ++ [(q9, .inr (9, [.null, .null, .null, .null, .null, .null, .null, .null, .int 0]))]) := hD
  have hpre : PreS s H (PreN G0 s.heap.size H.size [(q9, .inr (9, [.null, .null, .null, .null, .null, .null, .null, .null, .int 0]))] [.ref q9]) [.ref q9] := ⟨n_blind G0 _ _ _ _, fun U hU hW => ⟨rfl, by rw [hU], by rw [hU]; exact fun k x hx => hP _ x (w_right hx), va_K.moved hW.alike hK, RoN.warm hW (fun a h1 h2 => by rw [hU]; exact hS.2.1 a h1 h2) hRo, hS.1, ⟨fun i j x y hi hj hxy => by have := hD.1 _ _ x y (w_right (wr := ([] : va_W)) hi) (w_right (wr := ([] : va_W)) hj) hxy; omega, fun k x hx => hD.2 _ x (w_right hx)⟩⟩⟩
  refine g_go (G := G0) (Q' := fun v w1 => v = none ∧ ∃ ad : Nat → Nat, w1 = kX9 G0 q9 ad) (a := (Value.ref q9 :: []).toArray) (st := [.ref q9]) (wr := ([] : va_W)) (wc := [(q9, .inr (9, [.null, .null, .null, .null, .null, .null, .null, .null, .int 0]))]) (mc' := 86) (ms' := 2075) hA hP hD hS
    (va_runI (n := 0) (As := []) (nL := 4) ⟨hx, hb, hml, hown, hts0⟩ (m_init_X9 G0 s.heap.size q9 H.size) ⟨callB_of 0 hts0 (ms_good c_X9_init.1) rfl rfl rfl (hts0 _ c_X9_init.2.1) (hts0 _ wl_9) c_X9_init.2.2.2.2 (by decide), rfl, hts0 _ c_X9_init.2.2.1⟩ hpre rfl rfl hl.1 rfl (lv_room (Nat.le_of_ble_eq_true rfl)) dL_law_4 (by decide))
    (fun v w1 H locs hq hP hD hS => ?_)
  obtain ⟨rfl, a9, rfl⟩ := hq
  refine lv_astore_n (lv' := [(1, .ref q9), (0, .ref b)]) hx hb dL_law_7 rfl hl (by decide) rfl (fun ls hl => ?_)
  have hP : va_P G0.2.1 vwCl (kX9 G0 q9 a9) H := hP
  have hD : va_D (fun q : Nat => s.heap.size ≤ q) (kX9 G0 q9 a9) := hD
  refine va_new (ci := 10) (fs := [.null, .null, .null, .int 0, .null, .null, .null, .null, .int 0, .int 0, .int 0, .int 0, .null, .int 0, .null, .null, .null, .null, .long 0, .long 0, .null, .int 0, .int 0, .int 0, .null, .null, .null, .null]) (C := RX10) (T := TX10) (N := 28) hx hb hts0 ul_X10 tyX10 tyX10_ok hown (hts0 _ cl_L_10) (hts0 _ inst_X10) (hts0 _ ini_FirstStepsModel) hK hP hD hS hA rfl df_X10 (by decide) (by decide) dL_law_8 (fun q10 H hP hD hS => ?_)
  refine lv_dup hx hb dL_law_11 rfl ?_
  have hP : va_P G0.2.1 vwCl (kX9 G0 q9 a9 ++ [(q10, .inr (10, [.null, .null, .null, .int 0, .null, .null, .null, .null, .int 0, .int 0, .int 0, .int 0, .null, .int 0, .null, .null, .null, .null, .long 0, .long 0, .null, .int 0, .int 0, .int 0, .null, .null, .null, .null]))]) H := hP
  have hD : va_D (fun q => s.heap.size ≤ q) (kX9 G0 q9 a9 ++ [(q10, .inr (10, [.null, .null, .null, .int 0, .null, .null, .null, .null, .int 0, .int 0, .int 0, .int 0, .null, .int 0, .null, .null, .null, .null, .long 0, .long 0, .null, .int 0, .int 0, .int 0, .null, .null, .null, .null]))]) := hD
  have hpre : PreS s H (PreN G0 s.heap.size H.size [(q10, .inr (10, [.null, .null, .null, .int 0, .null, .null, .null, .null, .int 0, .int 0, .int 0, .int 0, .null, .int 0, .null, .null, .null, .null, .long 0, .long 0, .null, .int 0, .int 0, .int 0, .null, .null, .null, .null]))] [.ref q10]) [.ref q10] := ⟨n_blind G0 _ _ _ _, fun U hU hW => ⟨rfl, by rw [hU], by rw [hU]; exact fun k x hx => hP _ x (w_right hx), va_K.moved hW.alike hK, RoN.warm hW (fun a h1 h2 => by rw [hU]; exact hS.2.1 a h1 h2) hRo, hS.1, ⟨fun i j x y hi hj hxy => by have := hD.1 _ _ x y (w_right (wr := kX9 G0 q9 a9) hi) (w_right (wr := kX9 G0 q9 a9) hj) hxy; omega, fun k x hx => hD.2 _ x (w_right hx)⟩⟩⟩
  refine g_go (G := G0) (Q' := fun v w1 => v = none ∧ ∃ ad : Nat → Nat, w1 = kX10 G0 q10 ad) (a := (Value.ref q10 :: []).toArray) (st := [.ref q10]) (wr := kX9 G0 q9 a9) (wc := [(q10, .inr (10, [.null, .null, .null, .int 0, .null, .null, .null, .null, .int 0, .int 0, .int 0, .int 0, .null, .int 0, .null, .null, .null, .null, .long 0, .long 0, .null, .int 0, .int 0, .int 0, .null, .null, .null, .null]))]) (mc' := 17) (ms' := 1589) hA hP hD hS
    (va_runI (n := 0) (As := []) (nL := 4) ⟨hx, hb, hml, hown, hts0⟩ (m_init_X10 G0 s.heap.size q10 H.size) ⟨callB_of 0 hts0 (ms_good c_X10_init.1) rfl rfl rfl (hts0 _ c_X10_init.2.1) (hts0 _ wl_12) c_X10_init.2.2.2.2 (by decide), rfl, hts0 _ c_X10_init.2.2.1⟩ hpre rfl rfl hl.1 rfl (lv_room (Nat.le_of_ble_eq_true rfl)) dL_law_12 (by decide))
    (fun v w1 H locs hq hP hD hS => ?_)
  obtain ⟨rfl, a10, rfl⟩ := hq
  refine lv_astore_n (lv' := [(2, .ref q10), (1, .ref q9), (0, .ref b)]) hx hb dL_law_15 rfl hl (by decide) rfl (fun ls hl => ?_)
  refine lv_iconst (v := 0) hx hb dL_law_16 (by decide) ?_
  refine lv_istore_n (lv' := [(3, .int 0), (2, .ref q10), (1, .ref q9), (0, .ref b)]) hx hb dL_law_17 rfl hl (by decide) rfl (fun ls hl => ?_)
  obtain ⟨hI, hAd⟩ := fin_I (b := b) hD
  have hP9 := fin_P (b := b) hP
  refine va_forget hS.2.2 ?_
  refine W.widen (k := 600000) (n := 7302250) (by decide) (by decide) ?_
  have hS9 : va_S (Reg (gF G0 q9 a9 q10 a10 b)) s.heap H [] := ⟨hS.1, fun q h1 h2 => hS.2.1 q h1 (Nat.not_le.mpr h1), fun q hq => by simp at hq⟩
  exact law_loop (G := gF G0 q9 a9 q10 a10 b) (xs := xs) hL (L + 1) 0 (by omega) (by decide) s0_CR s0_RR rfl p e s m below meth c H [] ls
    ⟨hx, hb, hr, hml, hown, hts0, hX, hbl, hlocks, hK, ro_of hRo h5 r1 r2 hz hAd, hI, hAd, rfl⟩ hP9 hS9 (lv_sub hl [0, 3, 2, 1] rfl)
