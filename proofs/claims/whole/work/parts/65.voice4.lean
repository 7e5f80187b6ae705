/-- the reference's cells as a voice has them -/
def rvS (σ : fSt) (s : vS) : fSt := va_up (va_up σ 100 s.1) 87 (va_up (va_up (σ 87) 21 (nI s.2.1)) 23 (if s.2.2 = true then 1 else 0))
theorem rvS_1 {σ : fSt} {s : vS} : rvS σ s 87 21 = nI s.2.1 := by simp [rvS, va_up]
theorem rvS_2 {σ : fSt} {s : vS} : rvS σ s 87 23 = if s.2.2 = true then 1 else 0 := by simp [rvS, va_up]
theorem rvS_o {σ : fSt} {s : vS} {j : Nat} (h1 : j ≠ 21) (h2 : j ≠ 23) : rvS σ s 87 j = σ 87 j := by simp [rvS, va_up, h1, h2]
theorem rvS_k {σ : fSt} {s : vS} {k : Nat} (h1 : k ≠ 87) (h2 : k ≠ 100) : rvS σ s k = σ k := by simp [rvS, va_up, h1, h2]
theorem rvS_bg {σ : fSt} {s : vS} {b : Int32} : bgR (rvS σ s) s.2.1 b = rvS σ (vBg b s) := by
  unfold bgR vBg
  split
  · funext k j
    by_cases e5 : k = 87
    · subst e5
      by_cases e1 : j = 21
      · subst e1; simp [rvS, cvS, up2, va_up]
      · by_cases e2 : j = 23
        · subst e2; simp [rvS, cvS, up2, va_up]
        · simp [rvS, cvS, up2, va_up, e1, e2]
    · by_cases e6 : k = 100
      · subst e6; simp [rvS, cvS, up2, va_up]
      · simp [rvS, cvS, up2, va_up, e5, e6]
  · rfl
theorem rvS_pt {σ : fSt} {s : vS} : up2 (rvS σ s) 87 23 1 = rvS σ (s.1, s.2.1, true) := by
  funext k j
  by_cases e5 : k = 87
  · subst e5
    by_cases e1 : j = 21
    · subst e1; simp [rvS, cvS, up2, va_up]
    · by_cases e2 : j = 23
      · subst e2; simp [rvS, cvS, up2, va_up]
      · simp [rvS, cvS, up2, va_up, e1, e2]
  · simp [rvS, cvS, up2, va_up, e5]
theorem rvS_p0 {σ : fSt} {s : vS} (h : ¬ s.2.2 = true) : up2 (rvS σ s) 87 23 0 = rvS σ s := by
  funext k j
  by_cases e5 : k = 87
  · subst e5
    by_cases e2 : j = 23
    · subst e2; simp [rvS, cvS, up2, va_up]; exact Bool.eq_false_iff.mpr h
    · simp [rvS, cvS, up2, va_up, e2]
  · simp [rvS, cvS, up2, va_up, e5]
theorem vBg_p {b : Int32} {s : vS} : (vBg b s).2.2 = s.2.2 := by
  unfold vBg
  split <;> rfl
/-- the contract of bodyFrom, n calls deep -/
def RecB (G : fGm) (σ : fSt) (τ : fLt) (ks : Nat) (sp m : Int32) (n D : Nat) : Prop := ∀ (k a : Nat) (kv av x : Int32) (s : vS), kv = nI k → k < 7 → av = nI a → a < 4 → s.2.1 ≤ 30 → okF ks n k a = true →
  MS G iX10_bodyFrom D [.ref 87, .int kv, .int av, .int x] (rvS σ s) τ (rT (some (.int (sayF ks sp m n k a x s).1)) (rvS σ (sayF ks sp m n k a x s).2) τ)
theorem okF6 : ∀ ks, ks < 7 → ∀ a, a < 4 → okF ks 6 ks a = true := by decide +kernel
theorem vOwn : ∀ k, k < 7 → ∀ a, a < 4 → (kOw (nI k) (nI a) = true ↔ vBd k a ≠ 0) := by decide +kernel
theorem i32_sub0 {x y : Int32} : x - y = 0 ↔ x = y := by constructor <;> intro h <;> grind
theorem i32_neg {x : Int32} : -x = 0 - x := by grind
set_option maxRecDepth 100000 in
set_option maxHeartbeats 8000000 in
theorem m_X10_voiced {G : fGm} {σ : fSt} {τ : fLt} {ks q : Nat} {m : Int32} (hks : ks < 7) (hq : q < 8) (hsp : σ 87 22 = nI q) (hK : σ 88 (63 + 3 * q + 0) = nI ks) (hM : σ 88 (63 + 3 * q + 1) = m) {n D : Nat} (hB : RecB G σ τ ks (nI q) m n D) {a : Nat} {av x : Int32} {s : vS} (ha : av = nI a) (ha4 : a < 4) (hs : s.2.1 ≤ 30) (hok : okF ks n ks a = true) :
    MS G iX10_voiced (D + 1) [.ref 87, .int av, .int x] (rvS σ s) τ (rT (some (.int (sayF ks (nI q) m n ks a x s).1)) (rvS σ (sayF ks (nI q) m n ks a x s).2) τ) := by
  refine ms_of (by decide +kernel) (Nat.le_of_ble_eq_true rfl) ?_
  show VW _ _ _ _ _ _ 0 [(0, _), (1, _), (2, _)] []
  refine v_aload_n (I := iX10_voiced) dX10_voiced_0 rfl ?_
  refine v_aload_n (I := iX10_voiced) dX10_voiced_1 rfl ?_
  refine v_aload_n (I := iX10_voiced) dX10_voiced_2 rfl ?_
  refine v_get (I := iX10_voiced) g_X10_293 dX10_voiced_3 (by decide) (ae_87 _ _) rfl ?_
  rw [rvS_o (by decide) (by decide), hsp]
  refine v_iconst (I := iX10_voiced) (v := 0) dX10_voiced_6 (by decide) ?_
  refine v_callVi (I := iX10_voiced) (I' := iX10_goingOf) lk_X10_125 c_X10_goingOf dX10_voiced_7 (m_X10_goingOf (i := q) (f := 0) rfl hq (by decide) (by decide)) rfl rfl (by decide) (ae_87 _ _) rfl (by omega) (by decide) (Nat.le_of_ble_eq_true rfl) ?_
  rw [rvS_k (by decide) (by decide), hK]
  refine v_iload_n (I := iX10_voiced) dX10_voiced_10 rfl ?_
  refine v_iload_n (I := iX10_voiced) dX10_voiced_11 rfl ?_
  refine v_callVi (I := iX10_voiced) (I' := iX10_bodyFrom) lk_X10_296 c_X10_bodyFrom dX10_voiced_12 (hB ks a _ _ x s rfl hks ha ha4 hs hok) rfl rfl (by decide) (ae_87 _ _) rfl (by omega) (by decide) (Nat.le_of_ble_eq_true rfl) ?_
  exact v_iret (I := iX10_voiced) rfl dX10_voiced_15 ⟨by first | rfl | (simp only [*]; done) | (simp [*]; done), rfl, rfl⟩
set_option maxRecDepth 100000 in
set_option maxHeartbeats 8000000 in
theorem m_X10_body10 {G : fGm} {σ : fSt} {τ : fLt} {ks q : Nat} {m : Int32} (hks : ks < 7) (hq : q < 8) (hsp : σ 87 22 = nI q) (hK : σ 88 (63 + 3 * q + 0) = nI ks) (hM : σ 88 (63 + 3 * q + 1) = m) {n D : Nat} (hB : RecB G σ τ ks (nI q) m n D) {kv av x : Int32} {s : vS} (hk : kv = 0) (ha : av = 0) (hs : s.2.1 ≤ 30) (hp : ¬ s.2.2 = true)  :
    MS G iX10_body (D + 2) [.ref 87, .int kv, .int av, .int x] (rvS σ s) τ (rT (some (.int (sayB (sayF ks (nI q) m n) ks (nI q) m 0 10 x (vBg 10 s)).1)) (rvS σ (sayB (sayF ks (nI q) m n) ks (nI q) m 0 10 x (vBg 10 s)).2) τ) := by
  refine ms_of (by decide +kernel) (Nat.le_of_ble_eq_true rfl) ?_
  show VW _ _ _ _ _ _ 0 [(0, _), (1, _), (2, _), (3, _)] []
  refine v_aload_n (I := iX10_body) dX10_body_0 rfl ?_
  refine v_aload_n (I := iX10_body) dX10_body_1 rfl ?_
  refine v_get (I := iX10_body) g_X10_293 dX10_body_2 (by decide) (ae_87 _ _) rfl ?_
  rw [rvS_o (by decide) (by decide), hsp]
  refine v_iconst (I := iX10_body) (v := 1) dX10_body_5 (by decide) ?_
  refine v_callVi (I := iX10_body) (I' := iX10_goingOf) lk_X10_125 c_X10_goingOf dX10_body_6 (m_X10_goingOf (i := q) (f := 1) rfl hq (by decide) (by decide)) rfl rfl (by decide) (ae_87 _ _) rfl (by omega) (by decide) (Nat.le_of_ble_eq_true rfl) ?_
  rw [rvS_k (by decide) (by decide), hM]
  refine v_istore (I := iX10_body) (ls1 := [(4, _), (0, _), (1, _), (2, _), (3, _)]) dX10_body_9 (by decide) rfl ?_
  refine v_iconst (I := iX10_body) (v := 4) dX10_body_11 (by decide) ?_
  refine v_iload_n (I := iX10_body) dX10_body_12 rfl ?_
  refine v_imul (I := iX10_body) dX10_body_13 ?_
  refine v_iload_n (I := iX10_body) dX10_body_14 rfl ?_
  refine v_iadd (I := iX10_body) dX10_body_15 ?_
  refine v_tabIn (I := iX10_body) (tgt := 132) (off := 116) (v := 0) dX10_body_16 (by rw [hk, ha]; decide) (by decide) (by decide) (by decide) (by decide) ?_
  refine v_aload_n (I := iX10_body) dX10_body_132 rfl ?_
  refine v_bipush (I := iX10_body) (v := 10) dX10_body_133 (by decide) ?_
  refine v_callVv (I := iX10_body) (I' := iX10_began) lk_X10_308 c_X10_began dX10_body_135 (m_X10_began (c := s.2.1) rvS_1 hs) rfl rfl (by decide) (ae_87 _ _) rfl (by omega) (by decide) (Nat.le_of_ble_eq_true rfl) ?_
  rw [rvS_bg]
  have hs1 : (vBg 10 s).2.1 ≤ 30 := vBg_cnt hs
  have hp1 : ¬ (vBg 10 s).2.2 = true := by rw [vBg_p]; exact hp
  generalize vBg 10 s = s1 at hs1 hp1 ⊢
  refine v_iload_n (I := iX10_body) dX10_body_138 rfl ?_
  refine v_aload_n (I := iX10_body) dX10_body_139 rfl ?_
  refine v_get (I := iX10_body) g_X10_293 dX10_body_140 (by decide) (ae_87 _ _) rfl ?_
  rw [rvS_o (by decide) (by decide), hsp]
  refine v_iadd (I := iX10_body) dX10_body_143 ?_
  exact v_iret (I := iX10_body) rfl dX10_body_144 ⟨rfl, rfl, rfl⟩
set_option maxRecDepth 100000 in
set_option maxHeartbeats 8000000 in
theorem m_X10_body11 {G : fGm} {σ : fSt} {τ : fLt} {ks q : Nat} {m : Int32} (hks : ks < 7) (hq : q < 8) (hsp : σ 87 22 = nI q) (hK : σ 88 (63 + 3 * q + 0) = nI ks) (hM : σ 88 (63 + 3 * q + 1) = m) {n D : Nat} (hB : RecB G σ τ ks (nI q) m n D) {kv av x : Int32} {s : vS} (hk : kv = 0) (ha : av = 1) (hs : s.2.1 ≤ 30) (hp : ¬ s.2.2 = true) (hok : okF ks n ks 0 = true) :
    MS G iX10_body (D + 2) [.ref 87, .int kv, .int av, .int x] (rvS σ s) τ (rT (some (.int (sayB (sayF ks (nI q) m n) ks (nI q) m 0 11 x (vBg 11 s)).1)) (rvS σ (sayB (sayF ks (nI q) m n) ks (nI q) m 0 11 x (vBg 11 s)).2) τ) := by
  refine ms_of (by decide +kernel) (Nat.le_of_ble_eq_true rfl) ?_
  show VW _ _ _ _ _ _ 0 [(0, _), (1, _), (2, _), (3, _)] []
  refine v_aload_n (I := iX10_body) dX10_body_0 rfl ?_
  refine v_aload_n (I := iX10_body) dX10_body_1 rfl ?_
  refine v_get (I := iX10_body) g_X10_293 dX10_body_2 (by decide) (ae_87 _ _) rfl ?_
  rw [rvS_o (by decide) (by decide), hsp]
  refine v_iconst (I := iX10_body) (v := 1) dX10_body_5 (by decide) ?_
  refine v_callVi (I := iX10_body) (I' := iX10_goingOf) lk_X10_125 c_X10_goingOf dX10_body_6 (m_X10_goingOf (i := q) (f := 1) rfl hq (by decide) (by decide)) rfl rfl (by decide) (ae_87 _ _) rfl (by omega) (by decide) (Nat.le_of_ble_eq_true rfl) ?_
  rw [rvS_k (by decide) (by decide), hM]
  refine v_istore (I := iX10_body) (ls1 := [(4, _), (0, _), (1, _), (2, _), (3, _)]) dX10_body_9 (by decide) rfl ?_
  refine v_iconst (I := iX10_body) (v := 4) dX10_body_11 (by decide) ?_
  refine v_iload_n (I := iX10_body) dX10_body_12 rfl ?_
  refine v_imul (I := iX10_body) dX10_body_13 ?_
  refine v_iload_n (I := iX10_body) dX10_body_14 rfl ?_
  refine v_iadd (I := iX10_body) dX10_body_15 ?_
  refine v_tabIn (I := iX10_body) (tgt := 145) (off := 129) (v := 1) dX10_body_16 (by rw [hk, ha]; decide) (by decide) (by decide) (by decide) (by decide) ?_
  refine v_aload_n (I := iX10_body) dX10_body_145 rfl ?_
  refine v_bipush (I := iX10_body) (v := 11) dX10_body_146 (by decide) ?_
  refine v_callVv (I := iX10_body) (I' := iX10_began) lk_X10_308 c_X10_began dX10_body_148 (m_X10_began (c := s.2.1) rvS_1 hs) rfl rfl (by decide) (ae_87 _ _) rfl (by omega) (by decide) (Nat.le_of_ble_eq_true rfl) ?_
  rw [rvS_bg]
  have hs1 : (vBg 11 s).2.1 ≤ 30 := vBg_cnt hs
  have hp1 : ¬ (vBg 11 s).2.2 = true := by rw [vBg_p]; exact hp
  generalize vBg 11 s = s1 at hs1 hp1 ⊢
  refine v_aload_n (I := iX10_body) dX10_body_151 rfl ?_
  refine v_iconst (I := iX10_body) (v := 0) dX10_body_152 (by decide) ?_
  refine v_iload_n (I := iX10_body) dX10_body_153 rfl ?_
  refine v_callVi (I := iX10_body) (I' := iX10_voiced) lk_X10_311 c_X10_voiced dX10_body_154 (m_X10_voiced hks hq hsp hK hM hB (a := 0) (x := x) (s := s1) rfl (by decide) hs1 hok) rfl rfl (by decide) (ae_87 _ _) rfl (by omega) (by decide) (Nat.le_of_ble_eq_true rfl) ?_
  refine v_iconst (I := iX10_body) (v := 2) dX10_body_157 (by decide) ?_
  refine v_imul (I := iX10_body) dX10_body_158 ?_
  exact v_iret (I := iX10_body) rfl dX10_body_159 ⟨rfl, rfl, rfl⟩
set_option maxRecDepth 100000 in
set_option maxHeartbeats 8000000 in
theorem m_X10_body12 {G : fGm} {σ : fSt} {τ : fLt} {ks q : Nat} {m : Int32} (hks : ks < 7) (hq : q < 8) (hsp : σ 87 22 = nI q) (hK : σ 88 (63 + 3 * q + 0) = nI ks) (hM : σ 88 (63 + 3 * q + 1) = m) {n D : Nat} (hB : RecB G σ τ ks (nI q) m n D) {kv av x : Int32} {s : vS} (hk : kv = 0) (ha : av = 2) (hs : s.2.1 ≤ 30) (hp : ¬ s.2.2 = true) (hok : okF ks n ks 1 = true) :
    MS G iX10_body (D + 2) [.ref 87, .int kv, .int av, .int x] (rvS σ s) τ (rT (some (.int (sayB (sayF ks (nI q) m n) ks (nI q) m 0 12 x (vBg 12 s)).1)) (rvS σ (sayB (sayF ks (nI q) m n) ks (nI q) m 0 12 x (vBg 12 s)).2) τ) := by
  refine ms_of (by decide +kernel) (Nat.le_of_ble_eq_true rfl) ?_
  show VW _ _ _ _ _ _ 0 [(0, _), (1, _), (2, _), (3, _)] []
  refine v_aload_n (I := iX10_body) dX10_body_0 rfl ?_
  refine v_aload_n (I := iX10_body) dX10_body_1 rfl ?_
  refine v_get (I := iX10_body) g_X10_293 dX10_body_2 (by decide) (ae_87 _ _) rfl ?_
  rw [rvS_o (by decide) (by decide), hsp]
  refine v_iconst (I := iX10_body) (v := 1) dX10_body_5 (by decide) ?_
  refine v_callVi (I := iX10_body) (I' := iX10_goingOf) lk_X10_125 c_X10_goingOf dX10_body_6 (m_X10_goingOf (i := q) (f := 1) rfl hq (by decide) (by decide)) rfl rfl (by decide) (ae_87 _ _) rfl (by omega) (by decide) (Nat.le_of_ble_eq_true rfl) ?_
  rw [rvS_k (by decide) (by decide), hM]
  refine v_istore (I := iX10_body) (ls1 := [(4, _), (0, _), (1, _), (2, _), (3, _)]) dX10_body_9 (by decide) rfl ?_
  refine v_iconst (I := iX10_body) (v := 4) dX10_body_11 (by decide) ?_
  refine v_iload_n (I := iX10_body) dX10_body_12 rfl ?_
  refine v_imul (I := iX10_body) dX10_body_13 ?_
  refine v_iload_n (I := iX10_body) dX10_body_14 rfl ?_
  refine v_iadd (I := iX10_body) dX10_body_15 ?_
  refine v_tabIn (I := iX10_body) (tgt := 160) (off := 144) (v := 2) dX10_body_16 (by rw [hk, ha]; decide) (by decide) (by decide) (by decide) (by decide) ?_
  refine v_aload_n (I := iX10_body) dX10_body_160 rfl ?_
  refine v_bipush (I := iX10_body) (v := 12) dX10_body_161 (by decide) ?_
  refine v_callVv (I := iX10_body) (I' := iX10_began) lk_X10_308 c_X10_began dX10_body_163 (m_X10_began (c := s.2.1) rvS_1 hs) rfl rfl (by decide) (ae_87 _ _) rfl (by omega) (by decide) (Nat.le_of_ble_eq_true rfl) ?_
  rw [rvS_bg]
  have hs1 : (vBg 12 s).2.1 ≤ 30 := vBg_cnt hs
  have hp1 : ¬ (vBg 12 s).2.2 = true := by rw [vBg_p]; exact hp
  generalize vBg 12 s = s1 at hs1 hp1 ⊢
  refine v_aload_n (I := iX10_body) dX10_body_166 rfl ?_
  refine v_iconst (I := iX10_body) (v := 1) dX10_body_167 (by decide) ?_
  refine v_iload_n (I := iX10_body) dX10_body_168 rfl ?_
  refine v_callVi (I := iX10_body) (I' := iX10_voiced) lk_X10_311 c_X10_voiced dX10_body_169 (m_X10_voiced hks hq hsp hK hM hB (a := 1) (x := x) (s := s1) rfl (by decide) hs1 hok) rfl rfl (by decide) (ae_87 _ _) rfl (by omega) (by decide) (Nat.le_of_ble_eq_true rfl) ?_
  refine v_iload (I := iX10_body) dX10_body_172 rfl ?_
  refine v_isub (I := iX10_body) dX10_body_174 ?_
  exact v_iret (I := iX10_body) rfl dX10_body_175 ⟨rfl, rfl, rfl⟩
set_option maxRecDepth 100000 in
set_option maxHeartbeats 8000000 in
theorem m_X10_body13 {G : fGm} {σ : fSt} {τ : fLt} {ks q : Nat} {m : Int32} (hks : ks < 7) (hq : q < 8) (hsp : σ 87 22 = nI q) (hK : σ 88 (63 + 3 * q + 0) = nI ks) (hM : σ 88 (63 + 3 * q + 1) = m) {n D : Nat} (hB : RecB G σ τ ks (nI q) m n D) {kv av x : Int32} {s : vS} (hk : kv = 0) (ha : av = 3) (hs : s.2.1 ≤ 30) (hp : ¬ s.2.2 = true)  :
    MS G iX10_body (D + 2) [.ref 87, .int kv, .int av, .int x] (rvS σ s) τ (rT (some (.int (sayB (sayF ks (nI q) m n) ks (nI q) m 0 13 x (vBg 13 s)).1)) (rvS σ (sayB (sayF ks (nI q) m n) ks (nI q) m 0 13 x (vBg 13 s)).2) τ) := by
  refine ms_of (by decide +kernel) (Nat.le_of_ble_eq_true rfl) ?_
  show VW _ _ _ _ _ _ 0 [(0, _), (1, _), (2, _), (3, _)] []
  refine v_aload_n (I := iX10_body) dX10_body_0 rfl ?_
  refine v_aload_n (I := iX10_body) dX10_body_1 rfl ?_
  refine v_get (I := iX10_body) g_X10_293 dX10_body_2 (by decide) (ae_87 _ _) rfl ?_
  rw [rvS_o (by decide) (by decide), hsp]
  refine v_iconst (I := iX10_body) (v := 1) dX10_body_5 (by decide) ?_
  refine v_callVi (I := iX10_body) (I' := iX10_goingOf) lk_X10_125 c_X10_goingOf dX10_body_6 (m_X10_goingOf (i := q) (f := 1) rfl hq (by decide) (by decide)) rfl rfl (by decide) (ae_87 _ _) rfl (by omega) (by decide) (Nat.le_of_ble_eq_true rfl) ?_
  rw [rvS_k (by decide) (by decide), hM]
  refine v_istore (I := iX10_body) (ls1 := [(4, _), (0, _), (1, _), (2, _), (3, _)]) dX10_body_9 (by decide) rfl ?_
  refine v_iconst (I := iX10_body) (v := 4) dX10_body_11 (by decide) ?_
  refine v_iload_n (I := iX10_body) dX10_body_12 rfl ?_
  refine v_imul (I := iX10_body) dX10_body_13 ?_
  refine v_iload_n (I := iX10_body) dX10_body_14 rfl ?_
  refine v_iadd (I := iX10_body) dX10_body_15 ?_
  refine v_tabIn (I := iX10_body) (tgt := 176) (off := 160) (v := 3) dX10_body_16 (by rw [hk, ha]; decide) (by decide) (by decide) (by decide) (by decide) ?_
  refine v_aload_n (I := iX10_body) dX10_body_176 rfl ?_
  refine v_bipush (I := iX10_body) (v := 13) dX10_body_177 (by decide) ?_
  refine v_callVv (I := iX10_body) (I' := iX10_began) lk_X10_308 c_X10_began dX10_body_179 (m_X10_began (c := s.2.1) rvS_1 hs) rfl rfl (by decide) (ae_87 _ _) rfl (by omega) (by decide) (Nat.le_of_ble_eq_true rfl) ?_
  rw [rvS_bg]
  have hs1 : (vBg 13 s).2.1 ≤ 30 := vBg_cnt hs
  have hp1 : ¬ (vBg 13 s).2.2 = true := by rw [vBg_p]; exact hp
  generalize vBg 13 s = s1 at hs1 hp1 ⊢
  refine v_aload_n (I := iX10_body) dX10_body_182 rfl ?_
  refine v_iload (I := iX10_body) dX10_body_183 rfl ?_
  refine v_aload_n (I := iX10_body) dX10_body_185 rfl ?_
  refine v_get (I := iX10_body) g_X10_293 dX10_body_186 (by decide) (ae_87 _ _) rfl ?_
  rw [rvS_o (by decide) (by decide), hsp]
  refine v_icmp_ne (I := iX10_body) (tgt := 196) dX10_body_189 (by decide) (fun c189 => ?_) (fun c189 => ?_)
  · have hz : ¬ m - nI q = 0 := fun h9 => c189 (i32_sub0.mp h9)
    refine v_iconst (I := iX10_body) (v := 0) dX10_body_196 (by decide) ?_
    refine v_putI (I := iX10_body) p_X10_302 dX10_body_197 (by decide) (ae_87 _ _) (ae_87 _ _) rfl rfl (by simp) ?_
    first | rw [rvS_pt] | rw [rvS_p0 hp1]
    refine v_aload_n (I := iX10_body) dX10_body_200 rfl ?_
    refine v_get (I := iX10_body) g_X10_302 dX10_body_201 (by decide) (ae_87 _ _) rfl ?_
    first | rw [rvS_2, if_neg hp1] | (rw [rvS_2]; show VW _ _ _ _ _ _ _ _ [.int 1])
    refine v_if_eq (I := iX10_body) (tgt := 211) dX10_body_204 (by decide) (fun c204 => ?_) (fun c204 => ?_)
    · refine v_iload_n (I := iX10_body) dX10_body_211 rfl ?_
      refine v_iload (I := iX10_body) dX10_body_212 rfl ?_
      refine v_aload_n (I := iX10_body) dX10_body_214 rfl ?_
      refine v_get (I := iX10_body) g_X10_293 dX10_body_215 (by decide) (ae_87 _ _) rfl ?_
      rw [rvS_o (by decide) (by decide), hsp]
      refine v_isub (I := iX10_body) dX10_body_218 ?_
      refine v_idiv (I := iX10_body) dX10_body_219 (by first | exact hz | exact absurd c204 (by decide)) ?_
      exact v_iret (I := iX10_body) rfl dX10_body_220 (by first | exact absurd c204 (by decide) | exact absurd rfl c204 | exact ⟨by show _ = some (Value.int (if m - nI q = 0 then _ else _ : Int32 × vS).1); rw [if_pos hz], by show _ = rvS σ (if m - nI q = 0 then _ else _ : Int32 × vS).2; rw [if_pos hz], rfl⟩ | exact ⟨by show _ = some (Value.int (if m - nI q = 0 then _ else _ : Int32 × vS).1); rw [if_neg hz], by show _ = rvS σ (if m - nI q = 0 then _ else _ : Int32 × vS).2; rw [if_neg hz], rfl⟩)
    · refine v_iconst (I := iX10_body) (v := 0) dX10_body_207 (by decide) ?_
      refine v_goto (I := iX10_body) (tgt := 220) dX10_body_208 (by decide) ?_
      exact v_iret (I := iX10_body) rfl dX10_body_220 (by first | exact absurd c204 (by decide) | exact absurd rfl c204 | exact ⟨by show _ = some (Value.int (if m - nI q = 0 then _ else _ : Int32 × vS).1); rw [if_pos hz], by show _ = rvS σ (if m - nI q = 0 then _ else _ : Int32 × vS).2; rw [if_pos hz], rfl⟩ | exact ⟨by show _ = some (Value.int (if m - nI q = 0 then _ else _ : Int32 × vS).1); rw [if_neg hz], by show _ = rvS σ (if m - nI q = 0 then _ else _ : Int32 × vS).2; rw [if_neg hz], rfl⟩)
  · have hz : m - nI q = 0 := i32_sub0.mpr c189
    refine v_iconst (I := iX10_body) (v := 1) dX10_body_192 (by decide) ?_
    refine v_goto (I := iX10_body) (tgt := 197) dX10_body_193 (by decide) ?_
    refine v_putI (I := iX10_body) p_X10_302 dX10_body_197 (by decide) (ae_87 _ _) (ae_87 _ _) rfl rfl (by simp) ?_
    first | rw [rvS_pt] | rw [rvS_p0 hp1]
    refine v_aload_n (I := iX10_body) dX10_body_200 rfl ?_
    refine v_get (I := iX10_body) g_X10_302 dX10_body_201 (by decide) (ae_87 _ _) rfl ?_
    first | rw [rvS_2, if_neg hp1] | (rw [rvS_2]; show VW _ _ _ _ _ _ _ _ [.int 1])
    refine v_if_eq (I := iX10_body) (tgt := 211) dX10_body_204 (by decide) (fun c204 => ?_) (fun c204 => ?_)
    · refine v_iload_n (I := iX10_body) dX10_body_211 rfl ?_
      refine v_iload (I := iX10_body) dX10_body_212 rfl ?_
      refine v_aload_n (I := iX10_body) dX10_body_214 rfl ?_
      refine v_get (I := iX10_body) g_X10_293 dX10_body_215 (by decide) (ae_87 _ _) rfl ?_
      rw [rvS_o (by decide) (by decide), hsp]
      refine v_isub (I := iX10_body) dX10_body_218 ?_
      refine v_idiv (I := iX10_body) dX10_body_219 (by first | exact hz | exact absurd c204 (by decide)) ?_
      exact v_iret (I := iX10_body) rfl dX10_body_220 (by first | exact absurd c204 (by decide) | exact absurd rfl c204 | exact ⟨by show _ = some (Value.int (if m - nI q = 0 then _ else _ : Int32 × vS).1); rw [if_pos hz], by show _ = rvS σ (if m - nI q = 0 then _ else _ : Int32 × vS).2; rw [if_pos hz], rfl⟩ | exact ⟨by show _ = some (Value.int (if m - nI q = 0 then _ else _ : Int32 × vS).1); rw [if_neg hz], by show _ = rvS σ (if m - nI q = 0 then _ else _ : Int32 × vS).2; rw [if_neg hz], rfl⟩)
    · refine v_iconst (I := iX10_body) (v := 0) dX10_body_207 (by decide) ?_
      refine v_goto (I := iX10_body) (tgt := 220) dX10_body_208 (by decide) ?_
      exact v_iret (I := iX10_body) rfl dX10_body_220 (by first | exact absurd c204 (by decide) | exact absurd rfl c204 | exact ⟨by show _ = some (Value.int (if m - nI q = 0 then _ else _ : Int32 × vS).1); rw [if_pos hz], by show _ = rvS σ (if m - nI q = 0 then _ else _ : Int32 × vS).2; rw [if_pos hz], rfl⟩ | exact ⟨by show _ = some (Value.int (if m - nI q = 0 then _ else _ : Int32 × vS).1); rw [if_neg hz], by show _ = rvS σ (if m - nI q = 0 then _ else _ : Int32 × vS).2; rw [if_neg hz], rfl⟩)
set_option maxRecDepth 100000 in
set_option maxHeartbeats 8000000 in
theorem m_X10_body20 {G : fGm} {σ : fSt} {τ : fLt} {ks q : Nat} {m : Int32} (hks : ks < 7) (hq : q < 8) (hsp : σ 87 22 = nI q) (hK : σ 88 (63 + 3 * q + 0) = nI ks) (hM : σ 88 (63 + 3 * q + 1) = m) {n D : Nat} (hB : RecB G σ τ ks (nI q) m n D) {kv av x : Int32} {s : vS} (hk : kv = 1) (ha : av = 0) (hs : s.2.1 ≤ 30) (hp : ¬ s.2.2 = true) (hok : okF ks n 0 0 = true) :
    MS G iX10_body (D + 2) [.ref 87, .int kv, .int av, .int x] (rvS σ s) τ (rT (some (.int (sayB (sayF ks (nI q) m n) ks (nI q) m 1 20 x (vBg 20 s)).1)) (rvS σ (sayB (sayF ks (nI q) m n) ks (nI q) m 1 20 x (vBg 20 s)).2) τ) := by
  refine ms_of (by decide +kernel) (Nat.le_of_ble_eq_true rfl) ?_
  show VW _ _ _ _ _ _ 0 [(0, _), (1, _), (2, _), (3, _)] []
  refine v_aload_n (I := iX10_body) dX10_body_0 rfl ?_
  refine v_aload_n (I := iX10_body) dX10_body_1 rfl ?_
  refine v_get (I := iX10_body) g_X10_293 dX10_body_2 (by decide) (ae_87 _ _) rfl ?_
  rw [rvS_o (by decide) (by decide), hsp]
  refine v_iconst (I := iX10_body) (v := 1) dX10_body_5 (by decide) ?_
  refine v_callVi (I := iX10_body) (I' := iX10_goingOf) lk_X10_125 c_X10_goingOf dX10_body_6 (m_X10_goingOf (i := q) (f := 1) rfl hq (by decide) (by decide)) rfl rfl (by decide) (ae_87 _ _) rfl (by omega) (by decide) (Nat.le_of_ble_eq_true rfl) ?_
  rw [rvS_k (by decide) (by decide), hM]
  refine v_istore (I := iX10_body) (ls1 := [(4, _), (0, _), (1, _), (2, _), (3, _)]) dX10_body_9 (by decide) rfl ?_
  refine v_iconst (I := iX10_body) (v := 4) dX10_body_11 (by decide) ?_
  refine v_iload_n (I := iX10_body) dX10_body_12 rfl ?_
  refine v_imul (I := iX10_body) dX10_body_13 ?_
  refine v_iload_n (I := iX10_body) dX10_body_14 rfl ?_
  refine v_iadd (I := iX10_body) dX10_body_15 ?_
  refine v_tabIn (I := iX10_body) (tgt := 221) (off := 205) (v := 4) dX10_body_16 (by rw [hk, ha]; decide) (by decide) (by decide) (by decide) (by decide) ?_
  refine v_aload_n (I := iX10_body) dX10_body_221 rfl ?_
  refine v_bipush (I := iX10_body) (v := 20) dX10_body_222 (by decide) ?_
  refine v_callVv (I := iX10_body) (I' := iX10_began) lk_X10_308 c_X10_began dX10_body_224 (m_X10_began (c := s.2.1) rvS_1 hs) rfl rfl (by decide) (ae_87 _ _) rfl (by omega) (by decide) (Nat.le_of_ble_eq_true rfl) ?_
  rw [rvS_bg]
  have hs1 : (vBg 20 s).2.1 ≤ 30 := vBg_cnt hs
  have hp1 : ¬ (vBg 20 s).2.2 = true := by rw [vBg_p]; exact hp
  generalize vBg 20 s = s1 at hs1 hp1 ⊢
  refine v_aload_n (I := iX10_body) dX10_body_227 rfl ?_
  refine v_iconst (I := iX10_body) (v := 0) dX10_body_228 (by decide) ?_
  refine v_iconst (I := iX10_body) (v := 0) dX10_body_229 (by decide) ?_
  refine v_iload_n (I := iX10_body) dX10_body_230 rfl ?_
  refine v_callVi (I := iX10_body) (I' := iX10_bodyFrom) lk_X10_296 c_X10_bodyFrom dX10_body_231 (hB 0 0 _ _ x s1 rfl (by decide) rfl (by decide) hs1 hok) rfl rfl (by decide) (ae_87 _ _) rfl (by omega) (by decide) (Nat.le_of_ble_eq_true rfl) ?_
  refine v_iconst (I := iX10_body) (v := 3) dX10_body_234 (by decide) ?_
  refine v_isub (I := iX10_body) dX10_body_235 ?_
  exact v_iret (I := iX10_body) rfl dX10_body_236 ⟨rfl, rfl, rfl⟩
set_option maxRecDepth 100000 in
set_option maxHeartbeats 8000000 in
theorem m_X10_body21 {G : fGm} {σ : fSt} {τ : fLt} {ks q : Nat} {m : Int32} (hks : ks < 7) (hq : q < 8) (hsp : σ 87 22 = nI q) (hK : σ 88 (63 + 3 * q + 0) = nI ks) (hM : σ 88 (63 + 3 * q + 1) = m) {n D : Nat} (hB : RecB G σ τ ks (nI q) m n D) {kv av x : Int32} {s : vS} (hk : kv = 1) (ha : av = 3) (hs : s.2.1 ≤ 30) (hp : ¬ s.2.2 = true) (hok : okF ks n 0 3 = true ∧ okF ks n ks 1 = true) :
    MS G iX10_body (D + 2) [.ref 87, .int kv, .int av, .int x] (rvS σ s) τ (rT (some (.int (sayB (sayF ks (nI q) m n) ks (nI q) m 1 21 x (vBg 21 s)).1)) (rvS σ (sayB (sayF ks (nI q) m n) ks (nI q) m 1 21 x (vBg 21 s)).2) τ) := by
  refine ms_of (by decide +kernel) (Nat.le_of_ble_eq_true rfl) ?_
  show VW _ _ _ _ _ _ 0 [(0, _), (1, _), (2, _), (3, _)] []
  refine v_aload_n (I := iX10_body) dX10_body_0 rfl ?_
  refine v_aload_n (I := iX10_body) dX10_body_1 rfl ?_
  refine v_get (I := iX10_body) g_X10_293 dX10_body_2 (by decide) (ae_87 _ _) rfl ?_
  rw [rvS_o (by decide) (by decide), hsp]
  refine v_iconst (I := iX10_body) (v := 1) dX10_body_5 (by decide) ?_
  refine v_callVi (I := iX10_body) (I' := iX10_goingOf) lk_X10_125 c_X10_goingOf dX10_body_6 (m_X10_goingOf (i := q) (f := 1) rfl hq (by decide) (by decide)) rfl rfl (by decide) (ae_87 _ _) rfl (by omega) (by decide) (Nat.le_of_ble_eq_true rfl) ?_
  rw [rvS_k (by decide) (by decide), hM]
  refine v_istore (I := iX10_body) (ls1 := [(4, _), (0, _), (1, _), (2, _), (3, _)]) dX10_body_9 (by decide) rfl ?_
  refine v_iconst (I := iX10_body) (v := 4) dX10_body_11 (by decide) ?_
  refine v_iload_n (I := iX10_body) dX10_body_12 rfl ?_
  refine v_imul (I := iX10_body) dX10_body_13 ?_
  refine v_iload_n (I := iX10_body) dX10_body_14 rfl ?_
  refine v_iadd (I := iX10_body) dX10_body_15 ?_
  refine v_tabIn (I := iX10_body) (tgt := 237) (off := 221) (v := 7) dX10_body_16 (by rw [hk, ha]; decide) (by decide) (by decide) (by decide) (by decide) ?_
  refine v_aload_n (I := iX10_body) dX10_body_237 rfl ?_
  refine v_bipush (I := iX10_body) (v := 21) dX10_body_238 (by decide) ?_
  refine v_callVv (I := iX10_body) (I' := iX10_began) lk_X10_308 c_X10_began dX10_body_240 (m_X10_began (c := s.2.1) rvS_1 hs) rfl rfl (by decide) (ae_87 _ _) rfl (by omega) (by decide) (Nat.le_of_ble_eq_true rfl) ?_
  rw [rvS_bg]
  have hs1 : (vBg 21 s).2.1 ≤ 30 := vBg_cnt hs
  have hp1 : ¬ (vBg 21 s).2.2 = true := by rw [vBg_p]; exact hp
  generalize vBg 21 s = s1 at hs1 hp1 ⊢
  refine v_aload_n (I := iX10_body) dX10_body_243 rfl ?_
  refine v_iconst (I := iX10_body) (v := 0) dX10_body_244 (by decide) ?_
  refine v_iconst (I := iX10_body) (v := 3) dX10_body_245 (by decide) ?_
  refine v_iload_n (I := iX10_body) dX10_body_246 rfl ?_
  refine v_callVi (I := iX10_body) (I' := iX10_bodyFrom) lk_X10_296 c_X10_bodyFrom dX10_body_247 (hB 0 3 _ _ x s1 rfl (by decide) rfl (by decide) hs1 hok.1) rfl rfl (by decide) (ae_87 _ _) rfl (by omega) (by decide) (Nat.le_of_ble_eq_true rfl) ?_
  refine v_istore (I := iX10_body) (ls1 := [(5, _), (4, _), (0, _), (1, _), (2, _), (3, _)]) dX10_body_250 (by decide) rfl ?_
  refine v_iload (I := iX10_body) dX10_body_252 rfl ?_
  refine v_aload_n (I := iX10_body) dX10_body_254 rfl ?_
  refine v_iconst (I := iX10_body) (v := 1) dX10_body_255 (by decide) ?_
  refine v_iconst (I := iX10_body) (v := 1) dX10_body_256 (by decide) ?_
  refine v_callVi (I := iX10_body) (I' := iX10_voiced) lk_X10_311 c_X10_voiced dX10_body_257 (m_X10_voiced hks hq hsp hK hM hB (a := 1) (x := 1) (s := (sayF ks (nI q) m n 0 3 x s1).2) rfl (by decide) (say_cnt _ _ _ _ _ hs1) hok.2) rfl rfl (by decide) (ae_87 _ _) rfl (by omega) (by decide) (Nat.le_of_ble_eq_true rfl) ?_
  refine v_iadd (I := iX10_body) dX10_body_260 ?_
  exact v_iret (I := iX10_body) rfl dX10_body_261 ⟨rfl, rfl, rfl⟩
set_option maxRecDepth 100000 in
set_option maxHeartbeats 8000000 in
theorem m_X10_body30 {G : fGm} {σ : fSt} {τ : fLt} {ks q : Nat} {m : Int32} (hks : ks < 7) (hq : q < 8) (hsp : σ 87 22 = nI q) (hK : σ 88 (63 + 3 * q + 0) = nI ks) (hM : σ 88 (63 + 3 * q + 1) = m) {n D : Nat} (hB : RecB G σ τ ks (nI q) m n D) {kv av x : Int32} {s : vS} (hk : kv = 2) (ha : av = 1) (hs : s.2.1 ≤ 30) (hp : ¬ s.2.2 = true) (hok : okF ks n 1 1 = true) :
    MS G iX10_body (D + 2) [.ref 87, .int kv, .int av, .int x] (rvS σ s) τ (rT (some (.int (sayB (sayF ks (nI q) m n) ks (nI q) m 2 30 x (vBg 30 s)).1)) (rvS σ (sayB (sayF ks (nI q) m n) ks (nI q) m 2 30 x (vBg 30 s)).2) τ) := by
  refine ms_of (by decide +kernel) (Nat.le_of_ble_eq_true rfl) ?_
  show VW _ _ _ _ _ _ 0 [(0, _), (1, _), (2, _), (3, _)] []
  refine v_aload_n (I := iX10_body) dX10_body_0 rfl ?_
  refine v_aload_n (I := iX10_body) dX10_body_1 rfl ?_
  refine v_get (I := iX10_body) g_X10_293 dX10_body_2 (by decide) (ae_87 _ _) rfl ?_
  rw [rvS_o (by decide) (by decide), hsp]
  refine v_iconst (I := iX10_body) (v := 1) dX10_body_5 (by decide) ?_
  refine v_callVi (I := iX10_body) (I' := iX10_goingOf) lk_X10_125 c_X10_goingOf dX10_body_6 (m_X10_goingOf (i := q) (f := 1) rfl hq (by decide) (by decide)) rfl rfl (by decide) (ae_87 _ _) rfl (by omega) (by decide) (Nat.le_of_ble_eq_true rfl) ?_
  rw [rvS_k (by decide) (by decide), hM]
  refine v_istore (I := iX10_body) (ls1 := [(4, _), (0, _), (1, _), (2, _), (3, _)]) dX10_body_9 (by decide) rfl ?_
  refine v_iconst (I := iX10_body) (v := 4) dX10_body_11 (by decide) ?_
  refine v_iload_n (I := iX10_body) dX10_body_12 rfl ?_
  refine v_imul (I := iX10_body) dX10_body_13 ?_
  refine v_iload_n (I := iX10_body) dX10_body_14 rfl ?_
  refine v_iadd (I := iX10_body) dX10_body_15 ?_
  refine v_tabIn (I := iX10_body) (tgt := 262) (off := 246) (v := 9) dX10_body_16 (by rw [hk, ha]; decide) (by decide) (by decide) (by decide) (by decide) ?_
  refine v_aload_n (I := iX10_body) dX10_body_262 rfl ?_
  refine v_bipush (I := iX10_body) (v := 30) dX10_body_263 (by decide) ?_
  refine v_callVv (I := iX10_body) (I' := iX10_began) lk_X10_308 c_X10_began dX10_body_265 (m_X10_began (c := s.2.1) rvS_1 hs) rfl rfl (by decide) (ae_87 _ _) rfl (by omega) (by decide) (Nat.le_of_ble_eq_true rfl) ?_
  rw [rvS_bg]
  have hs1 : (vBg 30 s).2.1 ≤ 30 := vBg_cnt hs
  have hp1 : ¬ (vBg 30 s).2.2 = true := by rw [vBg_p]; exact hp
  generalize vBg 30 s = s1 at hs1 hp1 ⊢
  refine v_aload_n (I := iX10_body) dX10_body_268 rfl ?_
  refine v_iconst (I := iX10_body) (v := 1) dX10_body_269 (by decide) ?_
  refine v_iconst (I := iX10_body) (v := 1) dX10_body_270 (by decide) ?_
  refine v_iload_n (I := iX10_body) dX10_body_271 rfl ?_
  refine v_callVi (I := iX10_body) (I' := iX10_bodyFrom) lk_X10_296 c_X10_bodyFrom dX10_body_272 (hB 1 1 _ _ x s1 rfl (by decide) rfl (by decide) hs1 hok) rfl rfl (by decide) (ae_87 _ _) rfl (by omega) (by decide) (Nat.le_of_ble_eq_true rfl) ?_
  refine v_ineg (I := iX10_body) dX10_body_275 ?_
  rw [i32_neg]
  exact v_iret (I := iX10_body) rfl dX10_body_276 ⟨rfl, rfl, rfl⟩
set_option maxRecDepth 100000 in
set_option maxHeartbeats 8000000 in
theorem m_X10_body40 {G : fGm} {σ : fSt} {τ : fLt} {ks q : Nat} {m : Int32} (hks : ks < 7) (hq : q < 8) (hsp : σ 87 22 = nI q) (hK : σ 88 (63 + 3 * q + 0) = nI ks) (hM : σ 88 (63 + 3 * q + 1) = m) {n D : Nat} (hB : RecB G σ τ ks (nI q) m n D) {kv av x : Int32} {s : vS} (hk : kv = 3) (ha : av = 2) (hs : s.2.1 ≤ 30) (hp : ¬ s.2.2 = true) (hok : okF ks n 0 2 = true) :
    MS G iX10_body (D + 2) [.ref 87, .int kv, .int av, .int x] (rvS σ s) τ (rT (some (.int (sayB (sayF ks (nI q) m n) ks (nI q) m 3 40 x (vBg 40 s)).1)) (rvS σ (sayB (sayF ks (nI q) m n) ks (nI q) m 3 40 x (vBg 40 s)).2) τ) := by
  refine ms_of (by decide +kernel) (Nat.le_of_ble_eq_true rfl) ?_
  show VW _ _ _ _ _ _ 0 [(0, _), (1, _), (2, _), (3, _)] []
  refine v_aload_n (I := iX10_body) dX10_body_0 rfl ?_
  refine v_aload_n (I := iX10_body) dX10_body_1 rfl ?_
  refine v_get (I := iX10_body) g_X10_293 dX10_body_2 (by decide) (ae_87 _ _) rfl ?_
  rw [rvS_o (by decide) (by decide), hsp]
  refine v_iconst (I := iX10_body) (v := 1) dX10_body_5 (by decide) ?_
  refine v_callVi (I := iX10_body) (I' := iX10_goingOf) lk_X10_125 c_X10_goingOf dX10_body_6 (m_X10_goingOf (i := q) (f := 1) rfl hq (by decide) (by decide)) rfl rfl (by decide) (ae_87 _ _) rfl (by omega) (by decide) (Nat.le_of_ble_eq_true rfl) ?_
  rw [rvS_k (by decide) (by decide), hM]
  refine v_istore (I := iX10_body) (ls1 := [(4, _), (0, _), (1, _), (2, _), (3, _)]) dX10_body_9 (by decide) rfl ?_
  refine v_iconst (I := iX10_body) (v := 4) dX10_body_11 (by decide) ?_
  refine v_iload_n (I := iX10_body) dX10_body_12 rfl ?_
  refine v_imul (I := iX10_body) dX10_body_13 ?_
  refine v_iload_n (I := iX10_body) dX10_body_14 rfl ?_
  refine v_iadd (I := iX10_body) dX10_body_15 ?_
  refine v_tabIn (I := iX10_body) (tgt := 277) (off := 261) (v := 14) dX10_body_16 (by rw [hk, ha]; decide) (by decide) (by decide) (by decide) (by decide) ?_
  refine v_aload_n (I := iX10_body) dX10_body_277 rfl ?_
  refine v_bipush (I := iX10_body) (v := 40) dX10_body_278 (by decide) ?_
  refine v_callVv (I := iX10_body) (I' := iX10_began) lk_X10_308 c_X10_began dX10_body_280 (m_X10_began (c := s.2.1) rvS_1 hs) rfl rfl (by decide) (ae_87 _ _) rfl (by omega) (by decide) (Nat.le_of_ble_eq_true rfl) ?_
  rw [rvS_bg]
  have hs1 : (vBg 40 s).2.1 ≤ 30 := vBg_cnt hs
  have hp1 : ¬ (vBg 40 s).2.2 = true := by rw [vBg_p]; exact hp
  generalize vBg 40 s = s1 at hs1 hp1 ⊢
  refine v_aload_n (I := iX10_body) dX10_body_283 rfl ?_
  refine v_iconst (I := iX10_body) (v := 0) dX10_body_284 (by decide) ?_
  refine v_iconst (I := iX10_body) (v := 2) dX10_body_285 (by decide) ?_
  refine v_iload_n (I := iX10_body) dX10_body_286 rfl ?_
  refine v_iconst (I := iX10_body) (v := 2) dX10_body_287 (by decide) ?_
  refine v_idiv (I := iX10_body) dX10_body_288 (by decide) ?_
  refine v_callVi (I := iX10_body) (I' := iX10_bodyFrom) lk_X10_296 c_X10_bodyFrom dX10_body_289 (hB 0 2 _ _ (x / 2) s1 rfl (by decide) rfl (by decide) hs1 hok) rfl rfl (by decide) (ae_87 _ _) rfl (by omega) (by decide) (Nat.le_of_ble_eq_true rfl) ?_
  exact v_iret (I := iX10_body) rfl dX10_body_292 ⟨rfl, rfl, rfl⟩
set_option maxRecDepth 100000 in
set_option maxHeartbeats 8000000 in
theorem m_X10_body50 {G : fGm} {σ : fSt} {τ : fLt} {ks q : Nat} {m : Int32} (hks : ks < 7) (hq : q < 8) (hsp : σ 87 22 = nI q) (hK : σ 88 (63 + 3 * q + 0) = nI ks) (hM : σ 88 (63 + 3 * q + 1) = m) {n D : Nat} (hB : RecB G σ τ ks (nI q) m n D) {kv av x : Int32} {s : vS} (hk : kv = 4) (ha : av = 0) (hs : s.2.1 ≤ 30) (hp : ¬ s.2.2 = true) (hok : okF ks n 3 0 = true) :
    MS G iX10_body (D + 2) [.ref 87, .int kv, .int av, .int x] (rvS σ s) τ (rT (some (.int (sayB (sayF ks (nI q) m n) ks (nI q) m 4 50 x (vBg 50 s)).1)) (rvS σ (sayB (sayF ks (nI q) m n) ks (nI q) m 4 50 x (vBg 50 s)).2) τ) := by
  refine ms_of (by decide +kernel) (Nat.le_of_ble_eq_true rfl) ?_
  show VW _ _ _ _ _ _ 0 [(0, _), (1, _), (2, _), (3, _)] []
  refine v_aload_n (I := iX10_body) dX10_body_0 rfl ?_
  refine v_aload_n (I := iX10_body) dX10_body_1 rfl ?_
  refine v_get (I := iX10_body) g_X10_293 dX10_body_2 (by decide) (ae_87 _ _) rfl ?_
  rw [rvS_o (by decide) (by decide), hsp]
  refine v_iconst (I := iX10_body) (v := 1) dX10_body_5 (by decide) ?_
  refine v_callVi (I := iX10_body) (I' := iX10_goingOf) lk_X10_125 c_X10_goingOf dX10_body_6 (m_X10_goingOf (i := q) (f := 1) rfl hq (by decide) (by decide)) rfl rfl (by decide) (ae_87 _ _) rfl (by omega) (by decide) (Nat.le_of_ble_eq_true rfl) ?_
  rw [rvS_k (by decide) (by decide), hM]
  refine v_istore (I := iX10_body) (ls1 := [(4, _), (0, _), (1, _), (2, _), (3, _)]) dX10_body_9 (by decide) rfl ?_
  refine v_iconst (I := iX10_body) (v := 4) dX10_body_11 (by decide) ?_
  refine v_iload_n (I := iX10_body) dX10_body_12 rfl ?_
  refine v_imul (I := iX10_body) dX10_body_13 ?_
  refine v_iload_n (I := iX10_body) dX10_body_14 rfl ?_
  refine v_iadd (I := iX10_body) dX10_body_15 ?_
  refine v_tabIn (I := iX10_body) (tgt := 293) (off := 277) (v := 16) dX10_body_16 (by rw [hk, ha]; decide) (by decide) (by decide) (by decide) (by decide) ?_
  refine v_aload_n (I := iX10_body) dX10_body_293 rfl ?_
  refine v_bipush (I := iX10_body) (v := 50) dX10_body_294 (by decide) ?_
  refine v_callVv (I := iX10_body) (I' := iX10_began) lk_X10_308 c_X10_began dX10_body_296 (m_X10_began (c := s.2.1) rvS_1 hs) rfl rfl (by decide) (ae_87 _ _) rfl (by omega) (by decide) (Nat.le_of_ble_eq_true rfl) ?_
  rw [rvS_bg]
  have hs1 : (vBg 50 s).2.1 ≤ 30 := vBg_cnt hs
  have hp1 : ¬ (vBg 50 s).2.2 = true := by rw [vBg_p]; exact hp
  generalize vBg 50 s = s1 at hs1 hp1 ⊢
  refine v_aload_n (I := iX10_body) dX10_body_299 rfl ?_
  refine v_iconst (I := iX10_body) (v := 3) dX10_body_300 (by decide) ?_
  refine v_iconst (I := iX10_body) (v := 0) dX10_body_301 (by decide) ?_
  refine v_iload_n (I := iX10_body) dX10_body_302 rfl ?_
  refine v_callVi (I := iX10_body) (I' := iX10_bodyFrom) lk_X10_296 c_X10_bodyFrom dX10_body_303 (hB 3 0 _ _ x s1 rfl (by decide) rfl (by decide) hs1 hok) rfl rfl (by decide) (ae_87 _ _) rfl (by omega) (by decide) (Nat.le_of_ble_eq_true rfl) ?_
  refine v_iconst (I := iX10_body) (v := 3) dX10_body_306 (by decide) ?_
  refine v_imul (I := iX10_body) dX10_body_307 ?_
  exact v_iret (I := iX10_body) rfl dX10_body_308 ⟨rfl, rfl, rfl⟩
set_option maxRecDepth 100000 in
set_option maxHeartbeats 8000000 in
theorem m_X10_body51 {G : fGm} {σ : fSt} {τ : fLt} {ks q : Nat} {m : Int32} (hks : ks < 7) (hq : q < 8) (hsp : σ 87 22 = nI q) (hK : σ 88 (63 + 3 * q + 0) = nI ks) (hM : σ 88 (63 + 3 * q + 1) = m) {n D : Nat} (hB : RecB G σ τ ks (nI q) m n D) {kv av x : Int32} {s : vS} (hk : kv = 4) (ha : av = 2) (hs : s.2.1 ≤ 30) (hp : ¬ s.2.2 = true) (hok : okF ks n 3 2 = true) :
    MS G iX10_body (D + 2) [.ref 87, .int kv, .int av, .int x] (rvS σ s) τ (rT (some (.int (sayB (sayF ks (nI q) m n) ks (nI q) m 4 51 x (vBg 51 s)).1)) (rvS σ (sayB (sayF ks (nI q) m n) ks (nI q) m 4 51 x (vBg 51 s)).2) τ) := by
  refine ms_of (by decide +kernel) (Nat.le_of_ble_eq_true rfl) ?_
  show VW _ _ _ _ _ _ 0 [(0, _), (1, _), (2, _), (3, _)] []
  refine v_aload_n (I := iX10_body) dX10_body_0 rfl ?_
  refine v_aload_n (I := iX10_body) dX10_body_1 rfl ?_
  refine v_get (I := iX10_body) g_X10_293 dX10_body_2 (by decide) (ae_87 _ _) rfl ?_
  rw [rvS_o (by decide) (by decide), hsp]
  refine v_iconst (I := iX10_body) (v := 1) dX10_body_5 (by decide) ?_
  refine v_callVi (I := iX10_body) (I' := iX10_goingOf) lk_X10_125 c_X10_goingOf dX10_body_6 (m_X10_goingOf (i := q) (f := 1) rfl hq (by decide) (by decide)) rfl rfl (by decide) (ae_87 _ _) rfl (by omega) (by decide) (Nat.le_of_ble_eq_true rfl) ?_
  rw [rvS_k (by decide) (by decide), hM]
  refine v_istore (I := iX10_body) (ls1 := [(4, _), (0, _), (1, _), (2, _), (3, _)]) dX10_body_9 (by decide) rfl ?_
  refine v_iconst (I := iX10_body) (v := 4) dX10_body_11 (by decide) ?_
  refine v_iload_n (I := iX10_body) dX10_body_12 rfl ?_
  refine v_imul (I := iX10_body) dX10_body_13 ?_
  refine v_iload_n (I := iX10_body) dX10_body_14 rfl ?_
  refine v_iadd (I := iX10_body) dX10_body_15 ?_
  refine v_tabIn (I := iX10_body) (tgt := 309) (off := 293) (v := 18) dX10_body_16 (by rw [hk, ha]; decide) (by decide) (by decide) (by decide) (by decide) ?_
  refine v_aload_n (I := iX10_body) dX10_body_309 rfl ?_
  refine v_bipush (I := iX10_body) (v := 51) dX10_body_310 (by decide) ?_
  refine v_callVv (I := iX10_body) (I' := iX10_began) lk_X10_308 c_X10_began dX10_body_312 (m_X10_began (c := s.2.1) rvS_1 hs) rfl rfl (by decide) (ae_87 _ _) rfl (by omega) (by decide) (Nat.le_of_ble_eq_true rfl) ?_
  rw [rvS_bg]
  have hs1 : (vBg 51 s).2.1 ≤ 30 := vBg_cnt hs
  have hp1 : ¬ (vBg 51 s).2.2 = true := by rw [vBg_p]; exact hp
  generalize vBg 51 s = s1 at hs1 hp1 ⊢
  refine v_aload_n (I := iX10_body) dX10_body_315 rfl ?_
  refine v_iconst (I := iX10_body) (v := 3) dX10_body_316 (by decide) ?_
  refine v_iconst (I := iX10_body) (v := 2) dX10_body_317 (by decide) ?_
  refine v_iload_n (I := iX10_body) dX10_body_318 rfl ?_
  refine v_callVi (I := iX10_body) (I' := iX10_bodyFrom) lk_X10_296 c_X10_bodyFrom dX10_body_319 (hB 3 2 _ _ x s1 rfl (by decide) rfl (by decide) hs1 hok) rfl rfl (by decide) (ae_87 _ _) rfl (by omega) (by decide) (Nat.le_of_ble_eq_true rfl) ?_
  refine v_aload_n (I := iX10_body) dX10_body_322 rfl ?_
  refine v_get (I := iX10_body) g_X10_293 dX10_body_323 (by decide) (ae_87 _ _) rfl ?_
  rw [rvS_o (by decide) (by decide), hsp]
  refine v_ixor (I := iX10_body) dX10_body_326 ?_
  exact v_iret (I := iX10_body) rfl dX10_body_327 ⟨rfl, rfl, rfl⟩
set_option maxRecDepth 100000 in
set_option maxHeartbeats 8000000 in
theorem m_X10_body60 {G : fGm} {σ : fSt} {τ : fLt} {ks q : Nat} {m : Int32} (hks : ks < 7) (hq : q < 8) (hsp : σ 87 22 = nI q) (hK : σ 88 (63 + 3 * q + 0) = nI ks) (hM : σ 88 (63 + 3 * q + 1) = m) {n D : Nat} (hB : RecB G σ τ ks (nI q) m n D) {kv av x : Int32} {s : vS} (hk : kv = 5) (ha : av = 1) (hs : s.2.1 ≤ 30) (hp : ¬ s.2.2 = true) (hok : okF ks n 3 1 = true) :
    MS G iX10_body (D + 2) [.ref 87, .int kv, .int av, .int x] (rvS σ s) τ (rT (some (.int (sayB (sayF ks (nI q) m n) ks (nI q) m 5 60 x (vBg 60 s)).1)) (rvS σ (sayB (sayF ks (nI q) m n) ks (nI q) m 5 60 x (vBg 60 s)).2) τ) := by
  refine ms_of (by decide +kernel) (Nat.le_of_ble_eq_true rfl) ?_
  show VW _ _ _ _ _ _ 0 [(0, _), (1, _), (2, _), (3, _)] []
  refine v_aload_n (I := iX10_body) dX10_body_0 rfl ?_
  refine v_aload_n (I := iX10_body) dX10_body_1 rfl ?_
  refine v_get (I := iX10_body) g_X10_293 dX10_body_2 (by decide) (ae_87 _ _) rfl ?_
  rw [rvS_o (by decide) (by decide), hsp]
  refine v_iconst (I := iX10_body) (v := 1) dX10_body_5 (by decide) ?_
  refine v_callVi (I := iX10_body) (I' := iX10_goingOf) lk_X10_125 c_X10_goingOf dX10_body_6 (m_X10_goingOf (i := q) (f := 1) rfl hq (by decide) (by decide)) rfl rfl (by decide) (ae_87 _ _) rfl (by omega) (by decide) (Nat.le_of_ble_eq_true rfl) ?_
  rw [rvS_k (by decide) (by decide), hM]
  refine v_istore (I := iX10_body) (ls1 := [(4, _), (0, _), (1, _), (2, _), (3, _)]) dX10_body_9 (by decide) rfl ?_
  refine v_iconst (I := iX10_body) (v := 4) dX10_body_11 (by decide) ?_
  refine v_iload_n (I := iX10_body) dX10_body_12 rfl ?_
  refine v_imul (I := iX10_body) dX10_body_13 ?_
  refine v_iload_n (I := iX10_body) dX10_body_14 rfl ?_
  refine v_iadd (I := iX10_body) dX10_body_15 ?_
  refine v_tabIn (I := iX10_body) (tgt := 328) (off := 312) (v := 21) dX10_body_16 (by rw [hk, ha]; decide) (by decide) (by decide) (by decide) (by decide) ?_
  refine v_aload_n (I := iX10_body) dX10_body_328 rfl ?_
  refine v_bipush (I := iX10_body) (v := 60) dX10_body_329 (by decide) ?_
  refine v_callVv (I := iX10_body) (I' := iX10_began) lk_X10_308 c_X10_began dX10_body_331 (m_X10_began (c := s.2.1) rvS_1 hs) rfl rfl (by decide) (ae_87 _ _) rfl (by omega) (by decide) (Nat.le_of_ble_eq_true rfl) ?_
  rw [rvS_bg]
  have hs1 : (vBg 60 s).2.1 ≤ 30 := vBg_cnt hs
  have hp1 : ¬ (vBg 60 s).2.2 = true := by rw [vBg_p]; exact hp
  generalize vBg 60 s = s1 at hs1 hp1 ⊢
  refine v_aload_n (I := iX10_body) dX10_body_334 rfl ?_
  refine v_iconst (I := iX10_body) (v := 3) dX10_body_335 (by decide) ?_
  refine v_iconst (I := iX10_body) (v := 1) dX10_body_336 (by decide) ?_
  refine v_iload_n (I := iX10_body) dX10_body_337 rfl ?_
  refine v_iconst (I := iX10_body) (v := 1) dX10_body_338 (by decide) ?_
  refine v_iadd (I := iX10_body) dX10_body_339 ?_
  refine v_callVi (I := iX10_body) (I' := iX10_bodyFrom) lk_X10_296 c_X10_bodyFrom dX10_body_340 (hB 3 1 _ _ (x + 1) s1 rfl (by decide) rfl (by decide) hs1 hok) rfl rfl (by decide) (ae_87 _ _) rfl (by omega) (by decide) (Nat.le_of_ble_eq_true rfl) ?_
  exact v_iret (I := iX10_body) rfl dX10_body_343 ⟨rfl, rfl, rfl⟩
set_option maxRecDepth 100000 in
set_option maxHeartbeats 8000000 in
theorem m_X10_body70 {G : fGm} {σ : fSt} {τ : fLt} {ks q : Nat} {m : Int32} (hks : ks < 7) (hq : q < 8) (hsp : σ 87 22 = nI q) (hK : σ 88 (63 + 3 * q + 0) = nI ks) (hM : σ 88 (63 + 3 * q + 1) = m) {n D : Nat} (hB : RecB G σ τ ks (nI q) m n D) {kv av x : Int32} {s : vS} (hk : kv = 6) (ha : av = 0) (hs : s.2.1 ≤ 30) (hp : ¬ s.2.2 = true)  :
    MS G iX10_body (D + 2) [.ref 87, .int kv, .int av, .int x] (rvS σ s) τ (rT (some (.int (sayB (sayF ks (nI q) m n) ks (nI q) m 6 70 x (vBg 70 s)).1)) (rvS σ (sayB (sayF ks (nI q) m n) ks (nI q) m 6 70 x (vBg 70 s)).2) τ) := by
  refine ms_of (by decide +kernel) (Nat.le_of_ble_eq_true rfl) ?_
  show VW _ _ _ _ _ _ 0 [(0, _), (1, _), (2, _), (3, _)] []
  refine v_aload_n (I := iX10_body) dX10_body_0 rfl ?_
  refine v_aload_n (I := iX10_body) dX10_body_1 rfl ?_
  refine v_get (I := iX10_body) g_X10_293 dX10_body_2 (by decide) (ae_87 _ _) rfl ?_
  rw [rvS_o (by decide) (by decide), hsp]
  refine v_iconst (I := iX10_body) (v := 1) dX10_body_5 (by decide) ?_
  refine v_callVi (I := iX10_body) (I' := iX10_goingOf) lk_X10_125 c_X10_goingOf dX10_body_6 (m_X10_goingOf (i := q) (f := 1) rfl hq (by decide) (by decide)) rfl rfl (by decide) (ae_87 _ _) rfl (by omega) (by decide) (Nat.le_of_ble_eq_true rfl) ?_
  rw [rvS_k (by decide) (by decide), hM]
  refine v_istore (I := iX10_body) (ls1 := [(4, _), (0, _), (1, _), (2, _), (3, _)]) dX10_body_9 (by decide) rfl ?_
  refine v_iconst (I := iX10_body) (v := 4) dX10_body_11 (by decide) ?_
  refine v_iload_n (I := iX10_body) dX10_body_12 rfl ?_
  refine v_imul (I := iX10_body) dX10_body_13 ?_
  refine v_iload_n (I := iX10_body) dX10_body_14 rfl ?_
  refine v_iadd (I := iX10_body) dX10_body_15 ?_
  refine v_tabIn (I := iX10_body) (tgt := 344) (off := 328) (v := 24) dX10_body_16 (by rw [hk, ha]; decide) (by decide) (by decide) (by decide) (by decide) ?_
  refine v_aload_n (I := iX10_body) dX10_body_344 rfl ?_
  refine v_bipush (I := iX10_body) (v := 70) dX10_body_345 (by decide) ?_
  refine v_callVv (I := iX10_body) (I' := iX10_began) lk_X10_308 c_X10_began dX10_body_347 (m_X10_began (c := s.2.1) rvS_1 hs) rfl rfl (by decide) (ae_87 _ _) rfl (by omega) (by decide) (Nat.le_of_ble_eq_true rfl) ?_
  rw [rvS_bg]
  have hs1 : (vBg 70 s).2.1 ≤ 30 := vBg_cnt hs
  have hp1 : ¬ (vBg 70 s).2.2 = true := by rw [vBg_p]; exact hp
  generalize vBg 70 s = s1 at hs1 hp1 ⊢
  refine v_iconst (I := iX10_body) (v := 4) dX10_body_350 (by decide) ?_
  exact v_iret (I := iX10_body) rfl dX10_body_351 ⟨rfl, rfl, rfl⟩
set_option maxRecDepth 100000 in
set_option maxHeartbeats 8000000 in
theorem m_X10_body71 {G : fGm} {σ : fSt} {τ : fLt} {ks q : Nat} {m : Int32} (hks : ks < 7) (hq : q < 8) (hsp : σ 87 22 = nI q) (hK : σ 88 (63 + 3 * q + 0) = nI ks) (hM : σ 88 (63 + 3 * q + 1) = m) {n D : Nat} (hB : RecB G σ τ ks (nI q) m n D) {kv av x : Int32} {s : vS} (hk : kv = 6) (ha : av = 1) (hs : s.2.1 ≤ 30) (hp : ¬ s.2.2 = true) (hok : okF ks n 0 1 = true) :
    MS G iX10_body (D + 2) [.ref 87, .int kv, .int av, .int x] (rvS σ s) τ (rT (some (.int (sayB (sayF ks (nI q) m n) ks (nI q) m 6 71 x (vBg 71 s)).1)) (rvS σ (sayB (sayF ks (nI q) m n) ks (nI q) m 6 71 x (vBg 71 s)).2) τ) := by
  refine ms_of (by decide +kernel) (Nat.le_of_ble_eq_true rfl) ?_
  show VW _ _ _ _ _ _ 0 [(0, _), (1, _), (2, _), (3, _)] []
  refine v_aload_n (I := iX10_body) dX10_body_0 rfl ?_
  refine v_aload_n (I := iX10_body) dX10_body_1 rfl ?_
  refine v_get (I := iX10_body) g_X10_293 dX10_body_2 (by decide) (ae_87 _ _) rfl ?_
  rw [rvS_o (by decide) (by decide), hsp]
  refine v_iconst (I := iX10_body) (v := 1) dX10_body_5 (by decide) ?_
  refine v_callVi (I := iX10_body) (I' := iX10_goingOf) lk_X10_125 c_X10_goingOf dX10_body_6 (m_X10_goingOf (i := q) (f := 1) rfl hq (by decide) (by decide)) rfl rfl (by decide) (ae_87 _ _) rfl (by omega) (by decide) (Nat.le_of_ble_eq_true rfl) ?_
  rw [rvS_k (by decide) (by decide), hM]
  refine v_istore (I := iX10_body) (ls1 := [(4, _), (0, _), (1, _), (2, _), (3, _)]) dX10_body_9 (by decide) rfl ?_
  refine v_iconst (I := iX10_body) (v := 4) dX10_body_11 (by decide) ?_
  refine v_iload_n (I := iX10_body) dX10_body_12 rfl ?_
  refine v_imul (I := iX10_body) dX10_body_13 ?_
  refine v_iload_n (I := iX10_body) dX10_body_14 rfl ?_
  refine v_iadd (I := iX10_body) dX10_body_15 ?_
  refine v_tabOut (I := iX10_body) (tgt := 352) dX10_body_16 (by decide) (by rw [hk, ha]; decide) ?_
  refine v_aload_n (I := iX10_body) dX10_body_352 rfl ?_
  refine v_bipush (I := iX10_body) (v := 71) dX10_body_353 (by decide) ?_
  refine v_callVv (I := iX10_body) (I' := iX10_began) lk_X10_308 c_X10_began dX10_body_355 (m_X10_began (c := s.2.1) rvS_1 hs) rfl rfl (by decide) (ae_87 _ _) rfl (by omega) (by decide) (Nat.le_of_ble_eq_true rfl) ?_
  rw [rvS_bg]
  have hs1 : (vBg 71 s).2.1 ≤ 30 := vBg_cnt hs
  have hp1 : ¬ (vBg 71 s).2.2 = true := by rw [vBg_p]; exact hp
  generalize vBg 71 s = s1 at hs1 hp1 ⊢
  refine v_aload_n (I := iX10_body) dX10_body_358 rfl ?_
  refine v_iconst (I := iX10_body) (v := 0) dX10_body_359 (by decide) ?_
  refine v_iconst (I := iX10_body) (v := 1) dX10_body_360 (by decide) ?_
  refine v_iload_n (I := iX10_body) dX10_body_361 rfl ?_
  refine v_callVi (I := iX10_body) (I' := iX10_bodyFrom) lk_X10_296 c_X10_bodyFrom dX10_body_362 (hB 0 1 _ _ x s1 rfl (by decide) rfl (by decide) hs1 hok) rfl rfl (by decide) (ae_87 _ _) rfl (by omega) (by decide) (Nat.le_of_ble_eq_true rfl) ?_
  refine v_iload (I := iX10_body) dX10_body_365 rfl ?_
  refine v_iadd (I := iX10_body) dX10_body_367 ?_
  exact v_iret (I := iX10_body) rfl dX10_body_368 ⟨rfl, rfl, rfl⟩
/-- what the body needs of the depth -/
def okB (ks n h : Nat) (b : Int32) : Bool := if b = 11 then okF ks n ks 0 else if b = 12 then okF ks n ks 1
    else if b = 20 ∨ b = 50 then okF ks n (vAb h) 0
    else if b = 21 then okF ks n (vAb h) 3 && okF ks n ks 1
    else if b = 30 ∨ b = 60 ∨ b = 71 then okF ks n (vAb h) 1
    else if b = 40 ∨ b = 51 then okF ks n (vAb h) 2
    else true
set_option maxRecDepth 100000 in
theorem m_X10_bodyK {G : fGm} {σ : fSt} {τ : fLt} {ks q : Nat} {m : Int32} (hks : ks < 7) (hq : q < 8) (hsp : σ 87 22 = nI q) (hK : σ 88 (63 + 3 * q + 0) = nI ks) (hM : σ 88 (63 + 3 * q + 1) = m) {n D : Nat} (hB : RecB G σ τ ks (nI q) m n D) {h a : Nat} {kv av x : Int32} {s : vS} (hk : kv = nI h) (h7 : h < 7) (ha : av = nI a) (ha4 : a < 4) (hb : vBd h a ≠ 0) (hs : s.2.1 ≤ 30) (hp : ¬ s.2.2 = true) (hok : okB ks n h (vBd h a) = true) :
    MS G iX10_body (D + 2) [.ref 87, .int kv, .int av, .int x] (rvS σ s) τ (rT (some (.int (sayB (sayF ks (nI q) m n) ks (nI q) m h (vBd h a) x (vBg (vBd h a) s)).1)) (rvS σ (sayB (sayF ks (nI q) m n) ks (nI q) m h (vBd h a) x (vBg (vBd h a) s)).2) τ) := by
  rcases (show h = 0 ∨ h = 1 ∨ h = 2 ∨ h = 3 ∨ h = 4 ∨ h = 5 ∨ h = 6 by omega) with rfl | rfl | rfl | rfl | rfl | rfl | rfl <;> rcases (show a = 0 ∨ a = 1 ∨ a = 2 ∨ a = 3 by omega) with rfl | rfl | rfl | rfl
  · exact m_X10_body10 hks hq hsp hK hM hB hk ha hs hp 
  · exact m_X10_body11 hks hq hsp hK hM hB hk ha hs hp hok
  · exact m_X10_body12 hks hq hsp hK hM hB hk ha hs hp hok
  · exact m_X10_body13 hks hq hsp hK hM hB hk ha hs hp 
  · exact m_X10_body20 hks hq hsp hK hM hB hk ha hs hp hok
  · exact absurd (by decide) hb
  · exact absurd (by decide) hb
  · exact m_X10_body21 hks hq hsp hK hM hB hk ha hs hp (Bool.and_eq_true_iff.mp hok)
  · exact absurd (by decide) hb
  · exact m_X10_body30 hks hq hsp hK hM hB hk ha hs hp hok
  · exact absurd (by decide) hb
  · exact absurd (by decide) hb
  · exact absurd (by decide) hb
  · exact absurd (by decide) hb
  · exact m_X10_body40 hks hq hsp hK hM hB hk ha hs hp hok
  · exact absurd (by decide) hb
  · exact m_X10_body50 hks hq hsp hK hM hB hk ha hs hp hok
  · exact absurd (by decide) hb
  · exact m_X10_body51 hks hq hsp hK hM hB hk ha hs hp hok
  · exact absurd (by decide) hb
  · exact absurd (by decide) hb
  · exact m_X10_body60 hks hq hsp hK hM hB hk ha hs hp hok
  · exact absurd (by decide) hb
  · exact absurd (by decide) hb
  · exact m_X10_body70 hks hq hsp hK hM hB hk ha hs hp 
  · exact m_X10_body71 hks hq hsp hK hM hB hk ha hs hp hok
  · exact absurd (by decide) hb
  · exact absurd (by decide) hb
set_option maxRecDepth 100000 in
set_option maxHeartbeats 8000000 in
theorem m_X10_bodyFrom {G : fGm} {σ : fSt} {τ : fLt} {ks q : Nat} {m : Int32} (hks : ks < 7) (hq : q < 8) (hsp : σ 87 22 = nI q) (hK : σ 88 (63 + 3 * q + 0) = nI ks) (hM : σ 88 (63 + 3 * q + 1) = m) {n D : Nat} (hB : RecB G σ τ ks (nI q) m n D) : RecB G σ τ ks (nI q) m (n + 1) (D + 3) := by
  intro k0 a kv av x s hkv hk07 ha ha4 hs hok
  subst ha
  refine ms_of (by decide +kernel) (Nat.le_of_ble_eq_true rfl) ?_
  show VW _ _ _ _ _ _ 0 [(0, _), (1, _), (2, _), (3, _)] []
  have hok : okB ks n (vHome 7 k0 a) (vBd (vHome 7 k0 a) a) = true := hok
  have key : ∀ (c : Nat) {k : Nat} {ov : Int32}, ov = nI k → k < 7 → vHome c k a = vHome 7 k0 a → VW G iX10_bodyFrom (rT (some (.int (sayF ks (nI q) m (n + 1) k0 a x s).1)) (rvS σ (sayF ks (nI q) m (n + 1) k0 a x s).2) τ) (D + 3) (rvS σ s) τ 3 [(4, .int ov), (0, .ref 87), (1, .int kv), (2, .int (nI a)), (3, .int x)] [] := by
    intro c
    induction c with
    | zero =>
      intro k ov hov hk7 hhome
      subst hov
      have hE : k = vHome 7 k0 a := hhome
      have hb0 : ¬ vBd k a = 0 := by rw [hE]; exact (vHome_own k0 hk07 a ha4).2
      show VW _ _ _ _ _ _ 3 [(4, _), (0, _), (1, _), (2, _), (3, _)] []
      refine v_iload (I := iX10_bodyFrom) dX10_bodyFrom_3 rfl ?_
      refine v_iload_n (I := iX10_bodyFrom) dX10_bodyFrom_5 rfl ?_
      refine v_callSi (I := iX10_bodyFrom) (I' := iX10_hasOwn) lk_X10_299 c_X10_hasOwn dX10_bodyFrom_6 (m_X10_hasOwn) rfl rfl (by omega) (by decide) (Nat.le_of_ble_eq_true rfl) ?_
      refine v_if_neB (I := iX10_bodyFrom) (tgt := 22) dX10_bodyFrom_9 (by decide) (fun c9 => ?_) (fun c9 => ?_)
      · refine v_aload_n (I := iX10_bodyFrom) dX10_bodyFrom_22 rfl ?_
        refine v_get (I := iX10_bodyFrom) g_X10_302 dX10_bodyFrom_23 (by decide) (ae_87 _ _) rfl ?_
        rw [rvS_2]
        refine v_if_eq (I := iX10_bodyFrom) (tgt := 33) dX10_bodyFrom_26 (by decide) (fun c26 => ?_) (fun c26 => ?_)
        · have hp : ¬ s.2.2 = true := fun h9 => by rw [if_pos h9] at c26; exact absurd c26 (by decide)
          refine v_aload_n (I := iX10_bodyFrom) dX10_bodyFrom_33 rfl ?_
          refine v_iload (I := iX10_bodyFrom) dX10_bodyFrom_34 rfl ?_
          refine v_iload_n (I := iX10_bodyFrom) dX10_bodyFrom_36 rfl ?_
          refine v_iload_n (I := iX10_bodyFrom) dX10_bodyFrom_37 rfl ?_
          refine v_callVi (I := iX10_bodyFrom) (I' := iX10_body) lk_X10_305 c_X10_body dX10_bodyFrom_38 (m_X10_bodyK hks hq hsp hK hM hB rfl hk7 rfl ha4 hb0 hs hp (by rw [hE]; exact hok)) rfl rfl (by decide) (ae_87 _ _) rfl (by omega) (by decide) (Nat.le_of_ble_eq_true rfl) ?_
          exact v_iret (I := iX10_bodyFrom) rfl dX10_bodyFrom_41 (by rw [sayF_succ]; first | (rw [if_pos hp]; exact ⟨rfl, rfl, rfl⟩) | (rw [if_neg hp, ← hE]; exact ⟨rfl, rfl, rfl⟩))
        · have hp : s.2.2 = true := Decidable.byContradiction fun h9 => c26 (by rw [if_neg h9])
          refine v_iconst (I := iX10_bodyFrom) (v := 0) dX10_bodyFrom_29 (by decide) ?_
          refine v_goto (I := iX10_bodyFrom) (tgt := 41) dX10_bodyFrom_30 (by decide) ?_
          exact v_iret (I := iX10_bodyFrom) rfl dX10_bodyFrom_41 (by rw [sayF_succ]; first | (rw [if_pos hp]; exact ⟨rfl, rfl, rfl⟩) | (rw [if_neg hp, ← hE]; exact ⟨rfl, rfl, rfl⟩))
      · exact absurd ((vOwn k hk7 a ha4).mpr hb0) c9
    | succ c ih =>
      intro k ov hov hk7 hhome
      subst hov
      show VW _ _ _ _ _ _ 3 [(4, _), (0, _), (1, _), (2, _), (3, _)] []
      refine v_iload (I := iX10_bodyFrom) dX10_bodyFrom_3 rfl ?_
      refine v_iload_n (I := iX10_bodyFrom) dX10_bodyFrom_5 rfl ?_
      refine v_callSi (I := iX10_bodyFrom) (I' := iX10_hasOwn) lk_X10_299 c_X10_hasOwn dX10_bodyFrom_6 (m_X10_hasOwn) rfl rfl (by omega) (by decide) (Nat.le_of_ble_eq_true rfl) ?_
      refine v_if_neB (I := iX10_bodyFrom) (tgt := 22) dX10_bodyFrom_9 (by decide) (fun c9 => ?_) (fun c9 => ?_)
      · have hb0 : ¬ vBd k a = 0 := (vOwn k hk7 a ha4).mp c9
        have hE : k = vHome 7 k0 a := by rw [← hhome]; unfold vHome; rw [if_neg hb0]
        refine v_aload_n (I := iX10_bodyFrom) dX10_bodyFrom_22 rfl ?_
        refine v_get (I := iX10_bodyFrom) g_X10_302 dX10_bodyFrom_23 (by decide) (ae_87 _ _) rfl ?_
        rw [rvS_2]
        refine v_if_eq (I := iX10_bodyFrom) (tgt := 33) dX10_bodyFrom_26 (by decide) (fun c26 => ?_) (fun c26 => ?_)
        · have hp : ¬ s.2.2 = true := fun h9 => by rw [if_pos h9] at c26; exact absurd c26 (by decide)
          refine v_aload_n (I := iX10_bodyFrom) dX10_bodyFrom_33 rfl ?_
          refine v_iload (I := iX10_bodyFrom) dX10_bodyFrom_34 rfl ?_
          refine v_iload_n (I := iX10_bodyFrom) dX10_bodyFrom_36 rfl ?_
          refine v_iload_n (I := iX10_bodyFrom) dX10_bodyFrom_37 rfl ?_
          refine v_callVi (I := iX10_bodyFrom) (I' := iX10_body) lk_X10_305 c_X10_body dX10_bodyFrom_38 (m_X10_bodyK hks hq hsp hK hM hB rfl hk7 rfl ha4 hb0 hs hp (by rw [hE]; exact hok)) rfl rfl (by decide) (ae_87 _ _) rfl (by omega) (by decide) (Nat.le_of_ble_eq_true rfl) ?_
          exact v_iret (I := iX10_bodyFrom) rfl dX10_bodyFrom_41 (by rw [sayF_succ]; first | (rw [if_pos hp]; exact ⟨rfl, rfl, rfl⟩) | (rw [if_neg hp, ← hE]; exact ⟨rfl, rfl, rfl⟩))
        · have hp : s.2.2 = true := Decidable.byContradiction fun h9 => c26 (by rw [if_neg h9])
          refine v_iconst (I := iX10_bodyFrom) (v := 0) dX10_bodyFrom_29 (by decide) ?_
          refine v_goto (I := iX10_bodyFrom) (tgt := 41) dX10_bodyFrom_30 (by decide) ?_
          exact v_iret (I := iX10_bodyFrom) rfl dX10_bodyFrom_41 (by rw [sayF_succ]; first | (rw [if_pos hp]; exact ⟨rfl, rfl, rfl⟩) | (rw [if_neg hp, ← hE]; exact ⟨rfl, rfl, rfl⟩))
      · have hb0 : vBd k a = 0 := Decidable.byContradiction fun h9 => c9 ((vOwn k hk7 a ha4).mpr h9)
        have hv := vK2 k hk7 a ha4 hb0
        have hk0 : ¬ k = 0 := fun h9 => by subst h9; rcases (show a = 0 ∨ a = 1 ∨ a = 2 ∨ a = 3 by omega) with rfl | rfl | rfl | rfl <;> exact absurd hb0 (by decide)
        have habv : (sTb 3).getD k 0 = nI (vAb k) := hv.1
        refine v_iload (I := iX10_bodyFrom) dX10_bodyFrom_12 rfl ?_
        refine v_callSi (I := iX10_bodyFrom) (I' := iX10_above) lk_X10_155 c_X10_above dX10_bodyFrom_14 (m_X10_above (k := nI k) ⟨nI_pos' (by omega), nI_le (a := k) (b := 6) (by omega) (by decide)⟩) rfl rfl (by omega) (by decide) (Nat.le_of_ble_eq_true rfl) ?_
        rw [nI_clamp (by omega)]
        refine v_istore (I := iX10_bodyFrom) (ls1 := [(4, _), (0, _), (1, _), (2, _), (3, _)]) dX10_bodyFrom_17 (by decide) rfl ?_
        refine v_goto (I := iX10_bodyFrom) (tgt := 3) dX10_bodyFrom_19 (by decide) ?_
        exact ih (k := vAb k) habv hv.2 (by rw [← hhome]; conv => rhs; unfold vHome; rw [if_pos hb0])
  refine v_iload_n (I := iX10_bodyFrom) dX10_bodyFrom_0 rfl ?_
  refine v_istore (I := iX10_bodyFrom) (ls1 := [(4, _), (0, _), (1, _), (2, _), (3, _)]) dX10_bodyFrom_1 (by decide) rfl ?_
  exact key 7 hkv hk07 rfl
theorem RecB_all {G : fGm} {σ : fSt} {τ : fLt} {ks q : Nat} {m : Int32} (hks : ks < 7) (hq : q < 8) (hsp : σ 87 22 = nI q) (hK : σ 88 (63 + 3 * q + 0) = nI ks) (hM : σ 88 (63 + 3 * q + 1) = m) : ∀ n, RecB G σ τ ks (nI q) m n (3 * n) := by
  intro n
  induction n with
  | zero => intro k a kv av x s _ _ _ _ _ h; exact absurd h (by simp [okF])
  | succ n ih => exact m_X10_bodyFrom hks hq hsp hK hM ih
