theorem wk_link : Cond.methodLink RX8 13 ⟨"[I", "clone", "()Ljava/lang/Object;"⟩ ∈ W0 := iW (tI1 (List.mem_of_getElem? (i := 35) (by decide +kernel))) (by decide +kernel)
theorem wk_same : Cond.sameMethod "[I" "java/lang/Object" "clone" "()Ljava/lang/Object;" ∈ W0 := iW (tI1 (List.mem_of_getElem? (i := 36) (by decide +kernel))) (by decide +kernel)
theorem wk_nat : Cond.native ⟨"java/lang/Object", "clone", "()Ljava/lang/Object;"⟩ ∈ W0 := iW (tI1 (List.mem_of_getElem? (i := 37) (by decide +kernel))) (by decide +kernel)
theorem wk_inst : Cond.instanceMethod ⟨"java/lang/Object", "clone", "()Ljava/lang/Object;"⟩ ∈ W0 := iW (tI1 (List.mem_of_getElem? (i := 38) (by decide +kernel))) (by decide +kernel)
theorem wk_sel : Cond.selects "[I" ⟨"[I", "clone", "()Ljava/lang/Object;"⟩ ⟨"java/lang/Object", "clone", "()Ljava/lang/Object;"⟩ ∈ W0 := iW (tI1 (List.mem_of_getElem? (i := 39) (by decide +kernel))) (by decide +kernel)
theorem wk_cl : Cond.classLink RX8 14 "[I" ∈ W0 := iW (tI1 (List.mem_of_getElem? (i := 41) (by decide +kernel))) (by decide +kernel)
section NWK
variable {G : fGm} {N0 : Nat} {A : Nat → Prop} {I : fMI} {Q : Option Value → va_W → Prop} {d mc ms : Nat} {ws : va_W} {kc ks pc : Nat} {ls : List (Nat × Value)} {st : List Value}
theorem n_castI {idx q0 a n : Nat} {f : Nat → Int32} (hw : Cond.classLink I.1.cls idx "[I" ∈ W0) (he : ws[q0]? = some (a, .inl (G.2.2.1 0, n, .inl f))) (hd : decode I.2.1 pc = .ok (.checkcast idx, 3)) (k : NW G N0 A I Q d mc ms ws kc ks (pc + 3) ls (.ref a :: st)) : NW G N0 A I Q d mc ms ws kc ks pc ls (.ref a :: st) := by
  intro p e s m args below meth c H locs L C hA hN hP hD hS hL
  obtain ⟨hx, hb, hr9, hml, hts, hown, hlocks, hK, hRo, hN0, hnme⟩ := id C
  exact va_castA hx hb hown (hts _ hw) hP q0 he (va_nm_int (hK.2 0 _ rfl).2) hd (k _ _ _ _ _ _ _ _ _ _ _ C hA hN hP hD hS hL)
theorem n_clone (hI : I.1.cls = RX8) (hd : decode I.2.1 pc = .ok (.invokevirtual 13, 3)) (h1d : 1 ≤ d) (hs : (st.map fun v => v.category).sum ≤ 8) (hkc : kc + 1 ≤ mc) (hks : ks + 15 ≤ ms)
    (k : ∀ q, NW G N0 A I Q d mc ms (ws ++ [(q, .inl (G.2.2.1 0, 15, .inl (fun j => (sTb 0).getD j 0)))]) (kc + 1) (ks + 15) (pc + 3) ls (.ref q :: st)) : NW G N0 A I Q d mc ms ws kc ks pc ls (.ref (G.2.2.2 1000) :: st) := by
  intro p e s m args below meth c H locs L C hA hN hP hD hS hL
  obtain ⟨hx, hb, hr9, hml, hts, hown, hlocks, hK, hRo, hN0, hnme⟩ := id C
  obtain ⟨cell, h1, h2, h3, h4, h5, h6⟩ := hRo.2.1
  have hnm : s.vm.findClass "[I" = some (G.2.2.1 0) := va_nm_int (hK.2 0 _ rfl).2
  obtain ⟨c0, t0', f1, f2, f3⟩ := Cond.castable_spec (va_Nw.use (A := args) rfl hRo.2.2.2.2.2.2.2.2.2)
  cases hnm.symm.trans f1
  have hsz : cell.slots.size = 15 := by rw [h4, Array.size_ofFn]
  have hcellE : ({ cls := cell.cls, slots := cell.slots } : Cell) = vp_cell (G.2.2.1 0) (15, .inl (fun j => (sTb 0).getD j 0)) := by rw [h5, h4]; rfl
  have hH : H[G.2.2.2 1000]? = some cell := by rw [hS.2.1 _ (Array.getElem?_eq_some_iff.mp h1).1 (fun z => h6 (hN _ z))]; exact h1
  intro T hT X
  have hcellT : T.heap[G.2.2.2 1000]? = some cell := by rw [hT]; exact hH
  obtain ⟨-, kA, hkA, comp, hkind⟩ := State.isArrayOf_alike X.warmed.alike h2
  obtain ⟨-, kS, hkS, compS, hkindS⟩ := id h2
  have hown8 : s.vm.findClass RX8 = some m.cls := by rw [← hI]; exact hown
  obtain ⟨vm', X', st'⟩ := X.cloneArray hx hown8 (hts _ wk_link) (hts _ wk_same) (hts _ wk_nat) (hts _ wk_inst) (hts _ wk_sel) (a := G.2.2.2 1000) (cell := cell) hcellT h2.1 h3 (by rw [h5]; exact hnm) f2 (by rw [h5]; exact f3)
    (fun i v hv => by
      have hfit : fits .int v = true := va_fit (cA := G.2.2.1 0) (n := 15) (F := fun j => Value.int ((sTb 0).getD j 0)) (fun i _ => rfl) i v (by rw [h4] at hv; exact hv)
      simpa [State.fitsSlot, State.slotType?, hkA, hkind] using hfit)
    (g := F0 m pc L (.ref (G.2.2.2 1000) :: st)) rfl (by rw [hml]; exact hL.1) rfl (by rw [hb]; exact hd) h1d (by show 2 * 0 + _ + 14 ≤ 64 * d; omega) hkc (by rw [hsz]; exact hks) (hloader := Vm.clonesLoader_of_array hkS hkindS)
  rw [hcellE, hsz] at X'
  generalize hH1 : H.push (vp_cell (G.2.2.1 0) (15, .inl (fun j => (sTb 0).getD j 0))) = H1
  have z1 : H1.size = H.size + 1 := by rw [← hH1, Array.size_push]
  have e1 : H1[H.size]? = some (vp_cell (G.2.2.1 0) (15, .inl (fun j => (sTb 0).getD j 0))) := by rw [← hH1, Array.getElem?_push_size]
  have o1 : ∀ q : Nat, q < H.size → H1[q]? = H[q]? := fun q hq => by rw [← hH1, Array.getElem?_push, if_neg (Nat.ne_of_lt hq)]
  have hk : ∀ (k : Nat) (y : Nat × va_E), ws[k]? = some y → H1[y.1]? = H[y.1]? := fun k y hy => o1 y.1 ((hP k y hy).lt)
  obtain ⟨t, b1, b2⟩ := k H.size _ _ _ _ _ _ _ _ H1 _ _ C hA hN ((hP.kept hk).app (fun k y hy => by
      have hz : k < 1 := (List.getElem?_eq_some_iff.mp hy).1
      rw [show k = 0 by omega] at hy
      cases hy
      exact e1)) (hD.push hP rfl (hA _ hS.1)) ⟨Nat.le_trans hS.1 (by omega), fun y h1 h2 => (o1 y (Nat.lt_of_lt_of_le h1 hS.1)).trans (hS.2.1 y h1 h2), hS.2.2⟩ hL
    ((T.setVm vm').pushCell (vp_cell (G.2.2.1 0) (15, .inl (fun j => (sTb 0).getD j 0)))) (by rw [← hH1, ← hT]; rfl) X'
  refine ⟨t, st' t ?_, b2⟩
  rw [hcellE, hT]
  exact b1
theorem nv_coder {i : Nat} (hi : i < 2) : NV G N0 iJ0_coder_7d493 0 (G.2.2.2 (1010 + i)) 0 := by
  refine nv_of (by decide +kernel) (Nat.le_of_ble_eq_true rfl) (fun A => ?_)
  refine n_getsCS (I := iJ0_coder_7d493) fl_J0_38 dJ0_coder_7d493_0 ?_
  refine n_ifeq_no (I := iJ0_coder_7d493) (tgt := 13) dJ0_coder_7d493_3 (by decide) (by decide) ?_
  refine n_aload_n (I := iJ0_coder_7d493) dJ0_coder_7d493_6 rfl ?_
  refine n_strC (I := iJ0_coder_7d493) hi fl_J0_15 dJ0_coder_7d493_7 ?_
  refine n_goto (I := iJ0_coder_7d493) (tgt := 14) dJ0_coder_7d493_10 (by decide) ?_
  exact n_zret (I := iJ0_coder_7d493) rfl rfl dJ0_coder_7d493_14 rfl rfl ⟨rfl, rfl⟩
theorem nv_length {i : Nat} (hi : i < 2) : NV G N0 iJ0_length_8abf5 1 (G.2.2.2 (1010 + i)) (nI (kLen.getD i 0)) := by
  refine nv_of (by decide +kernel) (Nat.le_of_ble_eq_true rfl) (fun A => ?_)
  refine n_aload_n (I := iJ0_length_8abf5) dJ0_length_8abf5_0 rfl ?_
  refine n_strV (I := iJ0_length_8abf5) hi fl_J0_9 dJ0_length_8abf5_1 ?_
  refine n_strLen (I := iJ0_length_8abf5) hi dJ0_length_8abf5_4 ?_
  refine n_aload_n (I := iJ0_length_8abf5) dJ0_length_8abf5_5 rfl ?_
  refine n_callVS (I := iJ0_length_8abf5) (I' := iJ0_coder_7d493) lk_J0_335 c_J0_coder_7d493 rfl hi dJ0_length_8abf5_6 (nv_coder hi) (by decide) (by decide) (Nat.le_of_ble_eq_true rfl) (Nat.le_refl _) (Nat.le_refl _) ?_
  refine n_ishr (I := iJ0_length_8abf5) dJ0_length_8abf5_9 ?_
  have hz : nI (kLen.getD i 0) >>> ((0 : Int32) &&& 31) = nI (kLen.getD i 0) := by rcases (show i = 0 ∨ i = 1 by omega) with rfl | rfl <;> rfl
  rw [hz]
  exact n_zret (I := iJ0_length_8abf5) rfl rfl dJ0_length_8abf5_10 rfl rfl ⟨rfl, rfl⟩
end NWK
