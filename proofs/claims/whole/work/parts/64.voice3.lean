def sayB (rec : Nat → Nat → Int32 → vS → Int32 × vS) (ks : Nat) (sp m : Int32) (h : Nat) (b x : Int32) (s1 : vS) : Int32 × vS :=
  if b = 10 then (x + sp, s1)
  else if b = 11 then ((rec ks 0 x s1).1 * 2, (rec ks 0 x s1).2)
  else if b = 12 then ((rec ks 1 x s1).1 - m, (rec ks 1 x s1).2)
  else if b = 13 then (if m - sp = 0 then (0, (s1.1, s1.2.1, true)) else (x / (m - sp), s1))
  else if b = 20 then ((rec (vAb h) 0 x s1).1 - 3, (rec (vAb h) 0 x s1).2)
  else if b = 21 then ((rec (vAb h) 3 x s1).1 + (rec ks 1 1 (rec (vAb h) 3 x s1).2).1, (rec ks 1 1 (rec (vAb h) 3 x s1).2).2)
  else if b = 30 then (0 - (rec (vAb h) 1 x s1).1, (rec (vAb h) 1 x s1).2)
  else if b = 40 then rec (vAb h) 2 (x / 2) s1
  else if b = 50 then ((rec (vAb h) 0 x s1).1 * 3, (rec (vAb h) 0 x s1).2)
  else if b = 51 then ((rec (vAb h) 2 x s1).1 ^^^ sp, (rec (vAb h) 2 x s1).2)
  else if b = 60 then rec (vAb h) 1 (x + 1) s1
  else if b = 70 then (4, s1)
  else if b = 71 then ((rec (vAb h) 1 x s1).1 + m, (rec (vAb h) 1 x s1).2)
  else (0, s1)
theorem sayF_succ (ks : Nat) (sp m : Int32) (n k a : Nat) (x : Int32) (s : vS) : sayF ks sp m (n + 1) k a x s = if s.2.2 = true then (0, s) else sayB (sayF ks sp m n) ks sp m (vHome 7 k a) (vBd (vHome 7 k a) a) x (vBg (vBd (vHome 7 k a) a) s) := rfl
theorem vBg_cnt {b : Int32} {s : vS} (h : s.2.1 ≤ 30) : (vBg b s).2.1 ≤ 30 := by
  unfold vBg
  split
  · show s.2.1 + 1 ≤ 30
    omega
  · exact h
theorem say_cnt {ks : Nat} {sp m : Int32} : ∀ (n k a : Nat) (x : Int32) (s : vS), s.2.1 ≤ 30 → (sayF ks sp m n k a x s).2.2.1 ≤ 30 := by
  intro n
  induction n with
  | zero => intro k a x s h; exact h
  | succ n ih =>
    intro k a x s h
    rw [sayF_succ]
    have h1 : (vBg (vBd (vHome 7 k a) a) s).2.1 ≤ 30 := vBg_cnt h
    generalize vBg (vBd (vHome 7 k a) a) s = s1 at h1 ⊢
    split
    · exact h
    · generalize vBd (vHome 7 k a) a = b
      unfold sayB
      by_cases e10 : b = 10
      · rw [if_pos e10]; exact h1
      rw [if_neg e10]
      by_cases e11 : b = 11
      · rw [if_pos e11]; exact ih _ _ _ _ h1
      rw [if_neg e11]
      by_cases e12 : b = 12
      · rw [if_pos e12]; exact ih _ _ _ _ h1
      rw [if_neg e12]
      by_cases e13 : b = 13
      · rw [if_pos e13]; split <;> exact h1
      rw [if_neg e13]
      by_cases e20 : b = 20
      · rw [if_pos e20]; exact ih _ _ _ _ h1
      rw [if_neg e20]
      by_cases e21 : b = 21
      · rw [if_pos e21]; exact ih _ _ _ _ (ih _ _ _ _ h1)
      rw [if_neg e21]
      by_cases e30 : b = 30
      · rw [if_pos e30]; exact ih _ _ _ _ h1
      rw [if_neg e30]
      by_cases e40 : b = 40
      · rw [if_pos e40]; exact ih _ _ _ _ h1
      rw [if_neg e40]
      by_cases e50 : b = 50
      · rw [if_pos e50]; exact ih _ _ _ _ h1
      rw [if_neg e50]
      by_cases e51 : b = 51
      · rw [if_pos e51]; exact ih _ _ _ _ h1
      rw [if_neg e51]
      by_cases e60 : b = 60
      · rw [if_pos e60]; exact ih _ _ _ _ h1
      rw [if_neg e60]
      by_cases e70 : b = 70
      · rw [if_pos e70]; exact h1
      rw [if_neg e70]
      by_cases e71 : b = 71
      · rw [if_pos e71]; exact ih _ _ _ _ h1
      rw [if_neg e71]
      exact h1
/-- the class's cells as a voice has them -/
def cvS (σ : fSt) (s : vS) : fSt := va_up (va_up σ 86 s.1) 85 (va_up (va_up (σ 85) 1 (nI s.2.1)) 2 (if s.2.2 = true then 1 else 0))
theorem cvS_1 {σ : fSt} {s : vS} : cvS σ s 85 1 = nI s.2.1 := by simp [cvS, va_up]
theorem cvS_2 {σ : fSt} {s : vS} : cvS σ s 85 2 = if s.2.2 = true then 1 else 0 := by simp [cvS, va_up]
theorem cvS_o {σ : fSt} {s : vS} {j : Nat} (h1 : j ≠ 1) (h2 : j ≠ 2) : cvS σ s 85 j = σ 85 j := by simp [cvS, va_up, h1, h2]
theorem cvS_bg {σ : fSt} {s : vS} {b : Int32} : bgC (cvS σ s) s.2.1 b = cvS σ (vBg b s) := by
  unfold bgC vBg
  split
  · funext k j
    by_cases e5 : k = 85
    · subst e5
      by_cases e1 : j = 1
      · subst e1; simp [cvS, up2, va_up]
      · by_cases e2 : j = 2
        · subst e2; simp [cvS, up2, va_up]
        · simp [cvS, up2, va_up, e1, e2]
    · by_cases e6 : k = 86
      · subst e6; simp [cvS, up2, va_up]
      · simp [cvS, up2, va_up, e5, e6]
  · rfl
theorem cvS_pt {σ : fSt} {s : vS} : up2 (cvS σ s) 85 2 1 = cvS σ (s.1, s.2.1, true) := by
  funext k j
  by_cases e5 : k = 85
  · subst e5
    by_cases e1 : j = 1
    · subst e1; simp [cvS, up2, va_up]
    · by_cases e2 : j = 2
      · subst e2; simp [cvS, up2, va_up]
      · simp [cvS, up2, va_up, e1, e2]
  · simp [cvS, up2, va_up, e5]
theorem vK1 : ∀ k, k < 7 → ∀ a, a < 4 → nI k * 4 + nI a = nI (4 * k + a) := by decide +kernel
theorem vK2 : ∀ k, k < 7 → ∀ a, a < 4 → vBd k a = 0 → (sTb 3).getD k 0 = nI (vAb k) ∧ vAb k < 7 := by decide +kernel
theorem vK3 : ∀ k, k < 7 → ∀ a, a < 4 → (vBd k a = 10 ∨ vBd k a = 11 ∨ vBd k a = 12 ∨ vBd k a = 13) ∨ ((sTb 3).getD k 0 = nI (vAb k) ∧ vAb k < 7) := by decide +kernel
theorem vBd_eq {k a : Nat} : (sTb 4).getD (4 * k + a) 0 = vBd k a := rfl
set_option maxRecDepth 100000 in
set_option maxHeartbeats 8000000 in
theorem m_X6_say {G : fGm} {ks : Nat} {sp m : Int32} (hks : ks < 7) : ∀ (f : Nat) {σ : fSt} {τ : fLt} {k a : Nat} {kv av x dv : Int32} {s : vS}, f ≤ 30 → σ 85 3 = nI ks → σ 85 4 = sp → σ 85 5 = m → kv = nI k → k < 7 → av = nI a → a < 4 → dv = nI (30 - f) → s.2.1 ≤ 30 →
    MS G iX6_say (f + 2) [.ref 85, .int kv, .int av, .int x, .int dv] (cvS σ s) τ (rT (some (.int (sayF ks sp m f k a x s).1)) (cvS σ (sayF ks sp m f k a x s).2) τ) := by
  intro f
  induction f with
  | zero =>
    intro σ τ k a kv av x dv s hf h3 h4 h5 hk hk7 ha ha4 hd hs
    subst hk ha
    refine ms_of (by decide +kernel) (Nat.le_of_ble_eq_true rfl) ?_
    show VW _ _ _ _ _ _ 0 [(0, _), (1, _), (2, _), (3, _), (4, _)] []
    refine v_aload_n (I := iX6_say) dX6_say_0 rfl ?_
    refine v_get (I := iX6_say) g_X6_19 dX6_say_1 (by decide) (ae_85 _ _) rfl ?_
    rw [cvS_2]
    refine v_if_ne (I := iX6_say) (tgt := 14) dX6_say_4 (by decide) (fun c4 => ?_) (fun c4 => ?_)
    · refine v_iconst (I := iX6_say) (v := 0) dX6_say_14 (by decide) ?_
      exact v_iret (I := iX6_say) rfl dX6_say_15 ⟨rfl, rfl, rfl⟩
    · refine v_iload (I := iX6_say) dX6_say_7 rfl ?_
      refine v_bipush (I := iX6_say) (v := 30) dX6_say_9 (by decide) ?_
      refine v_icmp_lt (I := iX6_say) (tgt := 16) dX6_say_11 (by decide) (fun c11 => ?_) (fun c11 => ?_)
      · exact absurd c11 (by rw [hd]; exact fun h9 => absurd (nI_ltI (a := 30) (b := 30) (by decide) (by decide) |>.mp h9) (by decide))
      · refine v_iconst (I := iX6_say) (v := 0) dX6_say_14 (by decide) ?_
        exact v_iret (I := iX6_say) rfl dX6_say_15 ⟨rfl, rfl, rfl⟩
  | succ f ih =>
    intro σ τ k a kv av x dv s hf h3 h4 h5 hk hk7 ha ha4 hd hs
    subst hk ha
    have hd9 : nI (30 - f) = nI (30 - f) := rfl
    refine ms_of (by decide +kernel) (Nat.le_of_ble_eq_true rfl) ?_
    show VW _ _ _ _ _ _ 0 [(0, _), (1, _), (2, _), (3, _), (4, _)] []
    have hho := vHome_own k hk7 a ha4
    have J : ∀ {h : Nat} {iv hv : Int32}, ¬ s.2.2 = true → h = vHome 7 k a → hv = nI h → VW G iX6_say (rT (some (.int (sayF ks sp m (f + 1) k a x s).1)) (cvS σ (sayF ks sp m (f + 1) k a x s).2) τ) (f + 1 + 2) (cvS σ s) τ 60 [(6, .int iv), (5, .int hv), (0, .ref 85), (1, .int (nI k)), (2, .int (nI a)), (3, .int x), (4, .int dv)] [] := by
      intro h iv hv hp hE hv
      subst hv
      rw [sayF_succ, if_neg hp, ← hE]
      have h7 : h < 7 := by rw [hE]; exact hho.1
      clear hE
      have hE : vBg (vBd h a) s = vBg (vBd h a) s := rfl
      show VW _ _ _ _ _ _ 60 [(6, _), (5, _), (0, _), (1, _), (2, _), (3, _), (4, _)] []
      refine v_getsN (I := iX6_say) (i := 4) (by decide) fln_X6_48 dX6_say_60 ?_
      refine v_iload (I := iX6_say) dX6_say_63 rfl ?_
      refine v_iconst (I := iX6_say) (v := 4) dX6_say_65 (by decide) ?_
      refine v_imul (I := iX6_say) dX6_say_66 ?_
      refine v_iload_n (I := iX6_say) dX6_say_67 rfl ?_
      refine v_iadd (I := iX6_say) dX6_say_68 ?_
      refine v_callSi (I := iX6_say) (I' := iX9_at) lk_X6_28 c_X9_at dX6_say_69 (m_X9_at_tab (j := 4) (by decide)) rfl rfl (by omega) (by decide) (Nat.le_of_ble_eq_true rfl) ?_
      rw [vK1 _ h7 _ ha4, rdA_eq (n := (sTb 4).length) (f := fun q => (sTb 4).getD q 0) rfl (show 4 * h + a < 28 by omega) (by decide), vBd_eq]
      refine v_istore (I := iX6_say) (ls1 := [(6, _), (5, _), (0, _), (1, _), (2, _), (3, _), (4, _)]) dX6_say_72 (by decide) rfl ?_
      refine v_aload_n (I := iX6_say) dX6_say_74 rfl ?_
      refine v_iload (I := iX6_say) dX6_say_75 rfl ?_
      refine v_callVv (I := iX6_say) (I' := iX6_begin) lk_X6_54 c_X6_begin dX6_say_77 (m_X6_begin (c := s.2.1) cvS_1 hs) rfl rfl (by decide) (ae_85 _ _) rfl (by omega) (by decide) (Nat.le_of_ble_eq_true rfl) ?_
      rw [cvS_bg]
      have hs1 : (vBg (vBd h a) s).2.1 ≤ 30 := vBg_cnt hs
      rw [hE]
      generalize vBg (vBd h a) s = s1 at hs1 ⊢
      refine v_getsN (I := iX6_say) (i := 3) (by decide) fln_X6_51 dX6_say_80 ?_
      refine v_iload (I := iX6_say) dX6_say_83 rfl ?_
      refine v_callSi (I := iX6_say) (I' := iX9_at) lk_X6_28 c_X9_at dX6_say_85 (m_X9_at_tab (j := 3) (by decide)) rfl rfl (by omega) (by decide) (Nat.le_of_ble_eq_true rfl) ?_
      rw [rdA_eq (n := (sTb 3).length) (f := fun q => (sTb 3).getD q 0) rfl (show h < 7 by omega) (by decide)]
      refine v_istore (I := iX6_say) (ls1 := [(7, _), (6, _), (5, _), (0, _), (1, _), (2, _), (3, _), (4, _)]) dX6_say_88 (by decide) rfl ?_
      refine v_iload (I := iX6_say) dX6_say_90 rfl ?_
      refine v_iconst (I := iX6_say) (v := 1) dX6_say_92 (by decide) ?_
      refine v_iadd (I := iX6_say) dX6_say_93 ?_
      rw [hd, show nI (30 - (f + 1)) + 1 = nI (30 - f) by rw [nI_1]; congr 1; omega]
      refine v_istore (I := iX6_say) (ls1 := [(8, _), (7, _), (6, _), (5, _), (0, _), (1, _), (2, _), (3, _), (4, _)]) dX6_say_94 (by decide) rfl ?_
      refine v_iload (I := iX6_say) dX6_say_96 rfl ?_
      by_cases s98_10 : vBd h a = 10
      · refine v_lookIn (I := iX6_say) (tgt := 212) (off := 114) (v := 10) dX6_say_98 s98_10 (by decide) (by decide) (by decide) ?_
        refine v_iload_n (I := iX6_say) dX6_say_212 rfl ?_
        refine v_aload_n (I := iX6_say) dX6_say_213 rfl ?_
        refine v_get (I := iX6_say) g_X6_35 dX6_say_214 (by decide) (ae_85 _ _) rfl ?_
        rw [cvS_o (by decide) (by decide), h4]
        refine v_iadd (I := iX6_say) dX6_say_217 ?_
        exact v_iret (I := iX6_say) rfl dX6_say_218 ⟨by rw [s98_10]; rfl, by rw [s98_10]; rfl, rfl⟩
      by_cases s98_11 : vBd h a = 11
      · refine v_lookIn (I := iX6_say) (tgt := 219) (off := 121) (v := 11) dX6_say_98 s98_11 (by decide) (by decide) (by decide) ?_
        refine v_aload_n (I := iX6_say) dX6_say_219 rfl ?_
        refine v_aload_n (I := iX6_say) dX6_say_220 rfl ?_
        refine v_get (I := iX6_say) g_X6_32 dX6_say_221 (by decide) (ae_85 _ _) rfl ?_
        rw [cvS_o (by decide) (by decide), h3]
        refine v_iconst (I := iX6_say) (v := 0) dX6_say_224 (by decide) ?_
        refine v_iload_n (I := iX6_say) dX6_say_225 rfl ?_
        refine v_iload (I := iX6_say) dX6_say_226 rfl ?_
        refine v_callSi (I := iX6_say) (I' := iX6_say) lk_X6_44 c_X6_say dX6_say_228 (ih (k := ks) (a := 0) (x := x) (s := s1) (by omega) h3 h4 h5 rfl hks rfl (by decide) hd9 hs1) rfl rfl (by omega) (by decide) (Nat.le_of_ble_eq_true rfl) ?_
        refine v_iconst (I := iX6_say) (v := 2) dX6_say_231 (by decide) ?_
        refine v_imul (I := iX6_say) dX6_say_232 ?_
        exact v_iret (I := iX6_say) rfl dX6_say_233 ⟨by rw [s98_11]; rfl, by rw [s98_11]; rfl, rfl⟩
      by_cases s98_12 : vBd h a = 12
      · refine v_lookIn (I := iX6_say) (tgt := 234) (off := 136) (v := 12) dX6_say_98 s98_12 (by decide) (by decide) (by decide) ?_
        refine v_aload_n (I := iX6_say) dX6_say_234 rfl ?_
        refine v_aload_n (I := iX6_say) dX6_say_235 rfl ?_
        refine v_get (I := iX6_say) g_X6_32 dX6_say_236 (by decide) (ae_85 _ _) rfl ?_
        rw [cvS_o (by decide) (by decide), h3]
        refine v_iconst (I := iX6_say) (v := 1) dX6_say_239 (by decide) ?_
        refine v_iload_n (I := iX6_say) dX6_say_240 rfl ?_
        refine v_iload (I := iX6_say) dX6_say_241 rfl ?_
        refine v_callSi (I := iX6_say) (I' := iX6_say) lk_X6_44 c_X6_say dX6_say_243 (ih (k := ks) (a := 1) (x := x) (s := s1) (by omega) h3 h4 h5 rfl hks rfl (by decide) hd9 hs1) rfl rfl (by omega) (by decide) (Nat.le_of_ble_eq_true rfl) ?_
        refine v_aload_n (I := iX6_say) dX6_say_246 rfl ?_
        refine v_get (I := iX6_say) g_X6_41 dX6_say_247 (by decide) (ae_85 _ _) rfl ?_
        rw [cvS_o (by decide) (by decide), h5]
        refine v_isub (I := iX6_say) dX6_say_250 ?_
        exact v_iret (I := iX6_say) rfl dX6_say_251 ⟨by rw [s98_12]; rfl, by rw [s98_12]; rfl, rfl⟩
      by_cases s98_13 : vBd h a = 13
      · refine v_lookIn (I := iX6_say) (tgt := 252) (off := 154) (v := 13) dX6_say_98 s98_13 (by decide) (by decide) (by decide) ?_
        refine v_aload_n (I := iX6_say) dX6_say_252 rfl ?_
        refine v_iload_n (I := iX6_say) dX6_say_253 rfl ?_
        refine v_aload_n (I := iX6_say) dX6_say_254 rfl ?_
        refine v_get (I := iX6_say) g_X6_41 dX6_say_255 (by decide) (ae_85 _ _) rfl ?_
        rw [cvS_o (by decide) (by decide), h5]
        refine v_aload_n (I := iX6_say) dX6_say_258 rfl ?_
        refine v_get (I := iX6_say) g_X6_35 dX6_say_259 (by decide) (ae_85 _ _) rfl ?_
        rw [cvS_o (by decide) (by decide), h4]
        refine v_isub (I := iX6_say) dX6_say_262 ?_
        by_cases hz : m - sp = 0
        · refine v_callVi (I := iX6_say) (I' := iX6_divided) lk_X6_58 c_X6_divided dX6_say_263 (m_X6_divided0 hz) rfl rfl (by decide) (ae_85 _ _) rfl (by omega) (by decide) (Nat.le_of_ble_eq_true rfl) ?_
          rw [cvS_pt]
          exact v_iret (I := iX6_say) rfl dX6_say_266 ⟨by rw [s98_13]; show _ = some (Value.int (if m - sp = 0 then _ else _ : Int32 × vS).1); rw [if_pos hz], by rw [s98_13]; show _ = cvS σ (if m - sp = 0 then _ else _ : Int32 × vS).2; rw [if_pos hz], rfl⟩
        · refine v_callVi (I := iX6_say) (I' := iX6_divided) lk_X6_58 c_X6_divided dX6_say_263 (m_X6_divided hz) rfl rfl (by decide) (ae_85 _ _) rfl (by omega) (by decide) (Nat.le_of_ble_eq_true rfl) ?_
          exact v_iret (I := iX6_say) rfl dX6_say_266 ⟨by rw [s98_13]; show _ = some (Value.int (if m - sp = 0 then _ else _ : Int32 × vS).1); rw [if_neg hz], by rw [s98_13]; show _ = cvS σ (if m - sp = 0 then _ else _ : Int32 × vS).2; rw [if_neg hz], rfl⟩
      by_cases s98_20 : vBd h a = 20
      · refine v_lookIn (I := iX6_say) (tgt := 267) (off := 169) (v := 20) dX6_say_98 s98_20 (by decide) (by decide) (by decide) ?_
        refine v_aload_n (I := iX6_say) dX6_say_267 rfl ?_
        have hab := (vK3 h h7 a ha4).resolve_left (fun h9 => by rcases h9 with h9 | h9 | h9 | h9 <;> contradiction)
        refine v_iload (I := iX6_say) dX6_say_268 rfl ?_
        rw [hab.1]
        refine v_iconst (I := iX6_say) (v := 0) dX6_say_270 (by decide) ?_
        refine v_iload_n (I := iX6_say) dX6_say_271 rfl ?_
        refine v_iload (I := iX6_say) dX6_say_272 rfl ?_
        refine v_callSi (I := iX6_say) (I' := iX6_say) lk_X6_44 c_X6_say dX6_say_274 (ih (k := (vAb h)) (a := 0) (x := x) (s := s1) (by omega) h3 h4 h5 rfl hab.2 rfl (by decide) hd9 hs1) rfl rfl (by omega) (by decide) (Nat.le_of_ble_eq_true rfl) ?_
        refine v_iconst (I := iX6_say) (v := 3) dX6_say_277 (by decide) ?_
        refine v_isub (I := iX6_say) dX6_say_278 ?_
        exact v_iret (I := iX6_say) rfl dX6_say_279 ⟨by rw [s98_20]; rfl, by rw [s98_20]; rfl, rfl⟩
      by_cases s98_21 : vBd h a = 21
      · refine v_lookIn (I := iX6_say) (tgt := 280) (off := 182) (v := 21) dX6_say_98 s98_21 (by decide) (by decide) (by decide) ?_
        refine v_aload_n (I := iX6_say) dX6_say_280 rfl ?_
        have hab := (vK3 h h7 a ha4).resolve_left (fun h9 => by rcases h9 with h9 | h9 | h9 | h9 <;> contradiction)
        refine v_iload (I := iX6_say) dX6_say_281 rfl ?_
        rw [hab.1]
        refine v_iconst (I := iX6_say) (v := 3) dX6_say_283 (by decide) ?_
        refine v_iload_n (I := iX6_say) dX6_say_284 rfl ?_
        refine v_iload (I := iX6_say) dX6_say_285 rfl ?_
        refine v_callSi (I := iX6_say) (I' := iX6_say) lk_X6_44 c_X6_say dX6_say_287 (ih (k := (vAb h)) (a := 3) (x := x) (s := s1) (by omega) h3 h4 h5 rfl hab.2 rfl (by decide) hd9 hs1) rfl rfl (by omega) (by decide) (Nat.le_of_ble_eq_true rfl) ?_
        refine v_aload_n (I := iX6_say) dX6_say_290 rfl ?_
        refine v_aload_n (I := iX6_say) dX6_say_291 rfl ?_
        refine v_get (I := iX6_say) g_X6_32 dX6_say_292 (by decide) (ae_85 _ _) rfl ?_
        rw [cvS_o (by decide) (by decide), h3]
        refine v_iconst (I := iX6_say) (v := 1) dX6_say_295 (by decide) ?_
        refine v_iconst (I := iX6_say) (v := 1) dX6_say_296 (by decide) ?_
        refine v_iload (I := iX6_say) dX6_say_297 rfl ?_
        refine v_callSi (I := iX6_say) (I' := iX6_say) lk_X6_44 c_X6_say dX6_say_299 (ih (k := ks) (a := 1) (x := 1) (s := (sayF ks sp m f (vAb h) 3 x s1).2) (by omega) h3 h4 h5 rfl hks rfl (by decide) hd9 (say_cnt _ _ _ _ _ hs1)) rfl rfl (by omega) (by decide) (Nat.le_of_ble_eq_true rfl) ?_
        refine v_iadd (I := iX6_say) dX6_say_302 ?_
        exact v_iret (I := iX6_say) rfl dX6_say_303 ⟨by rw [s98_21]; rfl, by rw [s98_21]; rfl, rfl⟩
      by_cases s98_30 : vBd h a = 30
      · refine v_lookIn (I := iX6_say) (tgt := 304) (off := 206) (v := 30) dX6_say_98 s98_30 (by decide) (by decide) (by decide) ?_
        refine v_iconst (I := iX6_say) (v := 0) dX6_say_304 (by decide) ?_
        refine v_aload_n (I := iX6_say) dX6_say_305 rfl ?_
        have hab := (vK3 h h7 a ha4).resolve_left (fun h9 => by rcases h9 with h9 | h9 | h9 | h9 <;> contradiction)
        refine v_iload (I := iX6_say) dX6_say_306 rfl ?_
        rw [hab.1]
        refine v_iconst (I := iX6_say) (v := 1) dX6_say_308 (by decide) ?_
        refine v_iload_n (I := iX6_say) dX6_say_309 rfl ?_
        refine v_iload (I := iX6_say) dX6_say_310 rfl ?_
        refine v_callSi (I := iX6_say) (I' := iX6_say) lk_X6_44 c_X6_say dX6_say_312 (ih (k := (vAb h)) (a := 1) (x := x) (s := s1) (by omega) h3 h4 h5 rfl hab.2 rfl (by decide) hd9 hs1) rfl rfl (by omega) (by decide) (Nat.le_of_ble_eq_true rfl) ?_
        refine v_isub (I := iX6_say) dX6_say_315 ?_
        exact v_iret (I := iX6_say) rfl dX6_say_316 ⟨by rw [s98_30]; rfl, by rw [s98_30]; rfl, rfl⟩
      by_cases s98_40 : vBd h a = 40
      · refine v_lookIn (I := iX6_say) (tgt := 317) (off := 219) (v := 40) dX6_say_98 s98_40 (by decide) (by decide) (by decide) ?_
        refine v_aload_n (I := iX6_say) dX6_say_317 rfl ?_
        have hab := (vK3 h h7 a ha4).resolve_left (fun h9 => by rcases h9 with h9 | h9 | h9 | h9 <;> contradiction)
        refine v_iload (I := iX6_say) dX6_say_318 rfl ?_
        rw [hab.1]
        refine v_iconst (I := iX6_say) (v := 2) dX6_say_320 (by decide) ?_
        refine v_iload_n (I := iX6_say) dX6_say_321 rfl ?_
        refine v_iconst (I := iX6_say) (v := 2) dX6_say_322 (by decide) ?_
        refine v_idiv (I := iX6_say) dX6_say_323 (by decide) ?_
        refine v_iload (I := iX6_say) dX6_say_324 rfl ?_
        refine v_callSi (I := iX6_say) (I' := iX6_say) lk_X6_44 c_X6_say dX6_say_326 (ih (k := (vAb h)) (a := 2) (x := (x / 2)) (s := s1) (by omega) h3 h4 h5 rfl hab.2 rfl (by decide) hd9 hs1) rfl rfl (by omega) (by decide) (Nat.le_of_ble_eq_true rfl) ?_
        exact v_iret (I := iX6_say) rfl dX6_say_329 ⟨by rw [s98_40]; rfl, by rw [s98_40]; rfl, rfl⟩
      by_cases s98_50 : vBd h a = 50
      · refine v_lookIn (I := iX6_say) (tgt := 330) (off := 232) (v := 50) dX6_say_98 s98_50 (by decide) (by decide) (by decide) ?_
        refine v_aload_n (I := iX6_say) dX6_say_330 rfl ?_
        have hab := (vK3 h h7 a ha4).resolve_left (fun h9 => by rcases h9 with h9 | h9 | h9 | h9 <;> contradiction)
        refine v_iload (I := iX6_say) dX6_say_331 rfl ?_
        rw [hab.1]
        refine v_iconst (I := iX6_say) (v := 0) dX6_say_333 (by decide) ?_
        refine v_iload_n (I := iX6_say) dX6_say_334 rfl ?_
        refine v_iload (I := iX6_say) dX6_say_335 rfl ?_
        refine v_callSi (I := iX6_say) (I' := iX6_say) lk_X6_44 c_X6_say dX6_say_337 (ih (k := (vAb h)) (a := 0) (x := x) (s := s1) (by omega) h3 h4 h5 rfl hab.2 rfl (by decide) hd9 hs1) rfl rfl (by omega) (by decide) (Nat.le_of_ble_eq_true rfl) ?_
        refine v_iconst (I := iX6_say) (v := 3) dX6_say_340 (by decide) ?_
        refine v_imul (I := iX6_say) dX6_say_341 ?_
        exact v_iret (I := iX6_say) rfl dX6_say_342 ⟨by rw [s98_50]; rfl, by rw [s98_50]; rfl, rfl⟩
      by_cases s98_51 : vBd h a = 51
      · refine v_lookIn (I := iX6_say) (tgt := 343) (off := 245) (v := 51) dX6_say_98 s98_51 (by decide) (by decide) (by decide) ?_
        refine v_aload_n (I := iX6_say) dX6_say_343 rfl ?_
        have hab := (vK3 h h7 a ha4).resolve_left (fun h9 => by rcases h9 with h9 | h9 | h9 | h9 <;> contradiction)
        refine v_iload (I := iX6_say) dX6_say_344 rfl ?_
        rw [hab.1]
        refine v_iconst (I := iX6_say) (v := 2) dX6_say_346 (by decide) ?_
        refine v_iload_n (I := iX6_say) dX6_say_347 rfl ?_
        refine v_iload (I := iX6_say) dX6_say_348 rfl ?_
        refine v_callSi (I := iX6_say) (I' := iX6_say) lk_X6_44 c_X6_say dX6_say_350 (ih (k := (vAb h)) (a := 2) (x := x) (s := s1) (by omega) h3 h4 h5 rfl hab.2 rfl (by decide) hd9 hs1) rfl rfl (by omega) (by decide) (Nat.le_of_ble_eq_true rfl) ?_
        refine v_aload_n (I := iX6_say) dX6_say_353 rfl ?_
        refine v_get (I := iX6_say) g_X6_35 dX6_say_354 (by decide) (ae_85 _ _) rfl ?_
        rw [cvS_o (by decide) (by decide), h4]
        refine v_ixor (I := iX6_say) dX6_say_357 ?_
        exact v_iret (I := iX6_say) rfl dX6_say_358 ⟨by rw [s98_51]; rfl, by rw [s98_51]; rfl, rfl⟩
      by_cases s98_60 : vBd h a = 60
      · refine v_lookIn (I := iX6_say) (tgt := 359) (off := 261) (v := 60) dX6_say_98 s98_60 (by decide) (by decide) (by decide) ?_
        refine v_aload_n (I := iX6_say) dX6_say_359 rfl ?_
        have hab := (vK3 h h7 a ha4).resolve_left (fun h9 => by rcases h9 with h9 | h9 | h9 | h9 <;> contradiction)
        refine v_iload (I := iX6_say) dX6_say_360 rfl ?_
        rw [hab.1]
        refine v_iconst (I := iX6_say) (v := 1) dX6_say_362 (by decide) ?_
        refine v_iload_n (I := iX6_say) dX6_say_363 rfl ?_
        refine v_iconst (I := iX6_say) (v := 1) dX6_say_364 (by decide) ?_
        refine v_iadd (I := iX6_say) dX6_say_365 ?_
        refine v_iload (I := iX6_say) dX6_say_366 rfl ?_
        refine v_callSi (I := iX6_say) (I' := iX6_say) lk_X6_44 c_X6_say dX6_say_368 (ih (k := (vAb h)) (a := 1) (x := (x + 1)) (s := s1) (by omega) h3 h4 h5 rfl hab.2 rfl (by decide) hd9 hs1) rfl rfl (by omega) (by decide) (Nat.le_of_ble_eq_true rfl) ?_
        exact v_iret (I := iX6_say) rfl dX6_say_371 ⟨by rw [s98_60]; rfl, by rw [s98_60]; rfl, rfl⟩
      by_cases s98_70 : vBd h a = 70
      · refine v_lookIn (I := iX6_say) (tgt := 372) (off := 274) (v := 70) dX6_say_98 s98_70 (by decide) (by decide) (by decide) ?_
        refine v_iconst (I := iX6_say) (v := 4) dX6_say_372 (by decide) ?_
        exact v_iret (I := iX6_say) rfl dX6_say_373 ⟨by rw [s98_70]; rfl, by rw [s98_70]; rfl, rfl⟩
      by_cases s98_71 : vBd h a = 71
      · refine v_lookIn (I := iX6_say) (tgt := 374) (off := 276) (v := 71) dX6_say_98 s98_71 (by decide) (by decide) (by decide) ?_
        refine v_aload_n (I := iX6_say) dX6_say_374 rfl ?_
        have hab := (vK3 h h7 a ha4).resolve_left (fun h9 => by rcases h9 with h9 | h9 | h9 | h9 <;> contradiction)
        refine v_iload (I := iX6_say) dX6_say_375 rfl ?_
        rw [hab.1]
        refine v_iconst (I := iX6_say) (v := 1) dX6_say_377 (by decide) ?_
        refine v_iload_n (I := iX6_say) dX6_say_378 rfl ?_
        refine v_iload (I := iX6_say) dX6_say_379 rfl ?_
        refine v_callSi (I := iX6_say) (I' := iX6_say) lk_X6_44 c_X6_say dX6_say_381 (ih (k := (vAb h)) (a := 1) (x := x) (s := s1) (by omega) h3 h4 h5 rfl hab.2 rfl (by decide) hd9 hs1) rfl rfl (by omega) (by decide) (Nat.le_of_ble_eq_true rfl) ?_
        refine v_aload_n (I := iX6_say) dX6_say_384 rfl ?_
        refine v_get (I := iX6_say) g_X6_41 dX6_say_385 (by decide) (ae_85 _ _) rfl ?_
        rw [cvS_o (by decide) (by decide), h5]
        refine v_iadd (I := iX6_say) dX6_say_388 ?_
        exact v_iret (I := iX6_say) rfl dX6_say_389 ⟨by rw [s98_71]; rfl, by rw [s98_71]; rfl, rfl⟩
      refine v_lookDef (I := iX6_say) (tgt := 390) dX6_say_98 (by decide) (by decide) (by simp [Op.lookupswitch.offset, i32_lk2 s98_10 (z := 10) (by decide), i32_lk2 s98_11 (z := 11) (by decide), i32_lk2 s98_12 (z := 12) (by decide), i32_lk2 s98_13 (z := 13) (by decide), i32_lk2 s98_20 (z := 20) (by decide), i32_lk2 s98_21 (z := 21) (by decide), i32_lk2 s98_30 (z := 30) (by decide), i32_lk2 s98_40 (z := 40) (by decide), i32_lk2 s98_50 (z := 50) (by decide), i32_lk2 s98_51 (z := 51) (by decide), i32_lk2 s98_60 (z := 60) (by decide), i32_lk2 s98_70 (z := 70) (by decide), i32_lk2 s98_71 (z := 71) (by decide)]) ?_
      refine v_iconst (I := iX6_say) (v := 0) dX6_say_390 (by decide) ?_
      exact v_iret (I := iX6_say) rfl dX6_say_391 ⟨by unfold sayB; simp only [s98_10, s98_11, s98_12, s98_13, s98_20, s98_21, s98_30, s98_40, s98_50, s98_51, s98_60, s98_70, s98_71, if_false], by unfold sayB; simp only [s98_10, s98_11, s98_12, s98_13, s98_20, s98_21, s98_30, s98_40, s98_50, s98_51, s98_60, s98_70, s98_71, if_false], rfl⟩
    have key : ¬ s.2.2 = true → ∀ (n i : Nat) {hm : Nat} {iv hv : Int32}, i + n = 7 → hm < 7 → hv = nI hm → iv = nI i → vHome n hm a = vHome 7 k a → VW G iX6_say (rT (some (.int (sayF ks sp m (f + 1) k a x s).1)) (cvS σ (sayF ks sp m (f + 1) k a x s).2) τ) (f + 1 + 2) (cvS σ s) τ 22 [(6, .int iv), (5, .int hv), (0, .ref 85), (1, .int (nI k)), (2, .int (nI a)), (3, .int x), (4, .int dv)] [] := by
      intro hp n
      induction n with
      | zero =>
        intro i hm iv hv hin hm7 hv hi hhome
        subst hv
        show VW _ _ _ _ _ _ 22 [(6, _), (5, _), (0, _), (1, _), (2, _), (3, _), (4, _)] []
        refine v_iload (I := iX6_say) dX6_say_22 rfl ?_
        refine v_bipush (I := iX6_say) (v := 7) dX6_say_24 (by decide) ?_
        refine v_icmp_ge (I := iX6_say) (tgt := 60) dX6_say_26 (by decide) (fun c26 => ?_) (fun c26 => ?_)
        · exact J hp hhome rfl
        · exact absurd (by rw [hi]; exact nI_le (a := 7) (by omega) (by omega)) c26
      | succ n ihn =>
        intro i hm iv hv hin hm7 hv hi hhome
        subst hv
        show VW _ _ _ _ _ _ 22 [(6, _), (5, _), (0, _), (1, _), (2, _), (3, _), (4, _)] []
        refine v_iload (I := iX6_say) dX6_say_22 rfl ?_
        refine v_bipush (I := iX6_say) (v := 7) dX6_say_24 (by decide) ?_
        refine v_icmp_ge (I := iX6_say) (tgt := 60) dX6_say_26 (by decide) (fun c26 => ?_) (fun c26 => ?_)
        · exact absurd c26 (by rw [hi]; exact nI_ge (b := 7) (by omega) (by decide))
        · refine v_getsN (I := iX6_say) (i := 4) (by decide) fln_X6_48 dX6_say_29 ?_
          refine v_iload (I := iX6_say) dX6_say_32 rfl ?_
          refine v_iconst (I := iX6_say) (v := 4) dX6_say_34 (by decide) ?_
          refine v_imul (I := iX6_say) dX6_say_35 ?_
          refine v_iload_n (I := iX6_say) dX6_say_36 rfl ?_
          refine v_iadd (I := iX6_say) dX6_say_37 ?_
          refine v_callSi (I := iX6_say) (I' := iX9_at) lk_X6_28 c_X9_at dX6_say_38 (m_X9_at_tab (j := 4) (by decide)) rfl rfl (by omega) (by decide) (Nat.le_of_ble_eq_true rfl) ?_
          rw [vK1 _ hm7 _ ha4, rdA_eq (n := (sTb 4).length) (f := fun q => (sTb 4).getD q 0) rfl (show 4 * hm + a < 28 by omega) (by decide), vBd_eq]
          refine v_if_ne (I := iX6_say) (tgt := 60) dX6_say_41 (by decide) (fun c41 => ?_) (fun c41 => ?_)
          · have hb0 := c41
            exact J hp (by rw [← hhome]; unfold vHome; rw [if_neg hb0]) rfl
          · have hb0 := c41
            have hab := vK2 hm hm7 a ha4 hb0
            refine v_getsN (I := iX6_say) (i := 3) (by decide) fln_X6_51 dX6_say_44 ?_
            refine v_iload (I := iX6_say) dX6_say_47 rfl ?_
            refine v_callSi (I := iX6_say) (I' := iX9_at) lk_X6_28 c_X9_at dX6_say_49 (m_X9_at_tab (j := 3) (by decide)) rfl rfl (by omega) (by decide) (Nat.le_of_ble_eq_true rfl) ?_
            rw [rdA_eq (n := (sTb 3).length) (f := fun q => (sTb 3).getD q 0) rfl (show hm < 7 by omega) (by decide)]
            rw [hab.1]
            refine v_istore (I := iX6_say) (ls1 := [(5, _), (6, _), (0, _), (1, _), (2, _), (3, _), (4, _)]) dX6_say_52 (by decide) rfl ?_
            refine v_iinc (I := iX6_say) (ls1 := [(6, _), (5, _), (0, _), (1, _), (2, _), (3, _), (4, _)]) dX6_say_54 rfl rfl (by decide) rfl ?_
            refine v_goto (I := iX6_say) (tgt := 22) dX6_say_57 (by decide) ?_
            exact ihn (i + 1) (by omega) hab.2 rfl (by rw [hi]; exact nI_1 i) (by rw [← hhome]; conv => rhs; unfold vHome; rw [if_pos hb0])
    refine v_aload_n (I := iX6_say) dX6_say_0 rfl ?_
    refine v_get (I := iX6_say) g_X6_19 dX6_say_1 (by decide) (ae_85 _ _) rfl ?_
    rw [cvS_2]
    refine v_if_ne (I := iX6_say) (tgt := 14) dX6_say_4 (by decide) (fun c4 => ?_) (fun c4 => ?_)
    · have hp : s.2.2 = true := by
        by_cases hp : s.2.2 = true
        · exact hp
        · rw [if_neg hp] at c4; exact absurd rfl c4
      refine v_iconst (I := iX6_say) (v := 0) dX6_say_14 (by decide) ?_
      exact v_iret (I := iX6_say) rfl dX6_say_15 ⟨by rw [sayF_succ, if_pos hp], by rw [sayF_succ, if_pos hp], rfl⟩
    · have hp : ¬ s.2.2 = true := fun hp => by
        rw [if_pos hp] at c4; exact absurd c4 (by decide)
      refine v_iload (I := iX6_say) dX6_say_7 rfl ?_
      refine v_bipush (I := iX6_say) (v := 30) dX6_say_9 (by decide) ?_
      refine v_icmp_lt (I := iX6_say) (tgt := 16) dX6_say_11 (by decide) (fun c11 => ?_) (fun c11 => ?_)
      · refine v_iload_n (I := iX6_say) dX6_say_16 rfl ?_
        refine v_istore (I := iX6_say) (ls1 := [(5, _), (0, _), (1, _), (2, _), (3, _), (4, _)]) dX6_say_17 (by decide) rfl ?_
        refine v_iconst (I := iX6_say) (v := 0) dX6_say_19 (by decide) ?_
        refine v_istore (I := iX6_say) (ls1 := [(6, _), (5, _), (0, _), (1, _), (2, _), (3, _), (4, _)]) dX6_say_20 (by decide) rfl ?_
        exact key hp 7 0 rfl hk7 rfl rfl rfl
      · exact absurd (by rw [hd]; exact nI_lt (a := 30 - (f + 1)) (b := 30) (by omega) (by decide)) c11
