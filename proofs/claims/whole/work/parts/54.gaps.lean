def gapsN (g : gS) : Nat → Int32 → Int32 → Int32 → Int32 → Int32 → Int32 × Int32 × Int32
  | 0, _, _, a, d, w => (a, d, w)
  | m + 1, f, t, a, d, w => if f < t then (if gDaresI g (t - f) = true then gapsN g m t (gNxt g t) (a + 1) (d + 1) w else gapsN g m t (gNxt g t) (a + 1) d (mx w (t - f))) else (a, d, w)
def sel (what : Int32) (p : Int32 × Int32 × Int32) : Int32 := if what = 0 then p.1 else if what = 1 then p.2.1 else p.2.2
def gapsT (g : gS) : Int32 × Int32 × Int32 := gapsN g (g 14).toNatClampNeg (gNxt g (Int32.ofInt (-1))) (gNxt g (gNxt g (Int32.ofInt (-1)))) 0 0 0
def gapsS (ρ : fSt) (what : Int32) : Int32 × fSt := if 0 ≤ what ∧ what ≤ 2 then (sel what (gapsT (ρ 88)), ρ) else (errV 1, errS ρ 1)
/-- t is the cell behind f, or there is none -/
def Jn (g : gS) (N : Nat) (f t : Int32) : Prop := (t = -1 ∧ -1 ≤ f) ∨ ∃ h0, h0 < N ∧ t = gHc g h0 ∧ f < t ∧ 0 ≤ t
theorem J_next {g : gS} {N : Nat} {c : Int32} (hB : B g) (hN8 : N ≤ 8) (hNc : (g 14).toNatClampNeg = N) (hc : -1 ≤ c) : Jn g N c (gNxt g c) := by
  unfold gNxt
  rw [hNc]
  rcases nx_spec (g := g) hc N with ⟨h1, _⟩ | ⟨h0, h1, h2, h3, _⟩
  · exact Or.inl ⟨h1, hc⟩
  · rw [h2]
    refine Or.inr ⟨h0, h1, rfl, h3, ?_⟩
    have h9 := hB (39 + 3 * h0 + 0) (by omega)
    rw [(bnd_hold h0 (by omega)).1] at h9
    exact h9.1
theorem J_m1 {g : gS} {N : Nat} {c t : Int32} (h : Jn g N c t) : -1 ≤ t := by
  rcases h with ⟨h1, _⟩ | ⟨_, _, _, _, h4⟩ <;> grind
theorem J_lt {g : gS} {N : Nat} {c t : Int32} (h : Jn g N c t) : c < t ↔ ¬ t < 0 := by
  rcases h with ⟨h1, _⟩ | ⟨_, _, _, _, h4⟩ <;> grind
theorem J_cnt {g : gS} {N : Nat} {c t : Int32} (h : Jn g N c t) (h2 : c < t) : cntB g t N < cntB g c N := by
  rcases h with ⟨h1, _⟩ | ⟨h0, hh, e, hl, h4⟩
  · grind
  · subst e; exact cnt_lt hl N hh
set_option maxRecDepth 100000 in
set_option maxHeartbeats 4000000 in
theorem m_X9_gaps {G : fGm} {σ : fSt} {τ : fLt} {ρ : fSt} (hC : CR σ ρ) {what : Int32} : MS G iX9_gaps 3 [.ref 0, .int what] σ τ (rC τ σ (gapsS ρ what)) := by
  refine ms_of (by decide +kernel) (Nat.le_of_ble_eq_true rfl) ?_
  show VW _ _ _ _ _ _ 0 [(0, _), (1, _)] []
  refine v_iload_n (I := iX9_gaps) dX9_gaps_0 rfl ?_
  refine v_iconst (I := iX9_gaps) (v := 0) dX9_gaps_1 (by decide) ?_
  refine v_iconst (I := iX9_gaps) (v := 2) dX9_gaps_2 (by decide) ?_
  refine v_callSi (I := iX9_gaps) (I' := iX9_within) lk_X9_58 c_X9_within dX9_gaps_3 (m_X9_within) rfl rfl (by decide) (by decide) (Nat.le_of_ble_eq_true rfl) ?_
  refine v_if_neB (I := iX9_gaps) (tgt := 15) dX9_gaps_6 (by decide) (fun c6 => ?_) (fun c6 => ?_)
  · have hg : 0 ≤ what ∧ what ≤ 2 := by grind
    obtain ⟨N, hN8, hN, hNc⟩ := n14_nI hC.2.2.2.2.2.1.1
    refine v_iconst (I := iX9_gaps) (v := 0) dX9_gaps_15 (by decide) ?_
    refine v_istore_n (I := iX9_gaps) (ls1 := [(2, _), (0, _), (1, _)]) dX9_gaps_16 (by decide) rfl ?_
    refine v_iconst (I := iX9_gaps) (v := 0) dX9_gaps_17 (by decide) ?_
    refine v_istore_n (I := iX9_gaps) (ls1 := [(3, _), (2, _), (0, _), (1, _)]) dX9_gaps_18 (by decide) rfl ?_
    refine v_iconst (I := iX9_gaps) (v := 0) dX9_gaps_19 (by decide) ?_
    refine v_istore (I := iX9_gaps) (ls1 := [(4, _), (3, _), (2, _), (0, _), (1, _)]) dX9_gaps_20 (by decide) rfl ?_
    refine v_aload_n (I := iX9_gaps) dX9_gaps_22 rfl ?_
    refine v_get (I := iX9_gaps) g_X9_10 dX9_gaps_23 (by decide) (ae_0 _ _) rfl ?_
    refine v_get (I := iX9_gaps) g_X9_66 dX9_gaps_26 (by decide) (ae_w0 (by decide) _ _) rfl ?_
    refine v_iconst (I := iX9_gaps) (v := -1) dX9_gaps_29 (by decide) ?_
    refine v_callVi (I := iX9_gaps) (I' := iX3_nextCell) lk_X9_233 c_X3_nextCell dX9_gaps_30 (m_X3_nextCell (by decide) hC.1 hC.2.2.2.2.2.1.1) rfl rfl (by decide) (ae_w2 (by decide) _ _) rfl (by decide) (by decide) (Nat.le_of_ble_eq_true rfl) ?_
    refine v_istore (I := iX9_gaps) (ls1 := [(5, _), (4, _), (3, _), (2, _), (0, _), (1, _)]) dX9_gaps_33 (by decide) rfl ?_
    refine v_aload_n (I := iX9_gaps) dX9_gaps_35 rfl ?_
    refine v_get (I := iX9_gaps) g_X9_10 dX9_gaps_36 (by decide) (ae_0 _ _) rfl ?_
    refine v_get (I := iX9_gaps) g_X9_66 dX9_gaps_39 (by decide) (ae_w0 (by decide) _ _) rfl ?_
    refine v_iload (I := iX9_gaps) dX9_gaps_42 rfl ?_
    refine v_callVi (I := iX9_gaps) (I' := iX3_nextCell) lk_X9_233 c_X3_nextCell dX9_gaps_44 (m_X3_nextCell (by decide) hC.1 hC.2.2.2.2.2.1.1) rfl rfl (by decide) (ae_w2 (by decide) _ _) rfl (by decide) (by decide) (Nat.le_of_ble_eq_true rfl) ?_
    refine v_istore (I := iX9_gaps) (ls1 := [(6, _), (5, _), (4, _), (3, _), (2, _), (0, _), (1, _)]) dX9_gaps_47 (by decide) rfl ?_
    refine v_iconst (I := iX9_gaps) (v := 0) dX9_gaps_49 (by decide) ?_
    refine v_istore (I := iX9_gaps) (ls1 := [(7, _), (6, _), (5, _), (4, _), (3, _), (2, _), (0, _), (1, _)]) dX9_gaps_50 (by decide) rfl ?_
    have key : ∀ (m k : Nat) {σ9 : fSt} {y t f a d v : Int32}, k + m = N → V 0 σ9 (ρ 88) → FrW 0 σ σ9 → gapsN (ρ 88) m f t a d v = gapsT (ρ 88) → y = nI k → VW G iX9_gaps (rC τ σ (gapsS ρ what)) 3 σ9 τ 52 [(7, .int y), (6, .int t), (5, .int f), (4, .int v), (3, .int d), (2, .int a), (0, .ref 0), (1, .int what)] [] := by
      intro m
      induction m with
      | zero =>
        intro k σ9 y t f a d v hkm hV9 hF9 he hk
        have hkN : k = N := hkm
        have he : (a, d, v) = gapsT (ρ 88) := he
        show VW _ _ _ _ _ _ 52 [(7, _), (6, _), (5, _), (4, _), (3, _), (2, _), (0, _), (1, _)] []
        refine v_iload (I := iX9_gaps) dX9_gaps_52 rfl ?_
        refine v_aload_n (I := iX9_gaps) dX9_gaps_54 rfl ?_
        refine v_get (I := iX9_gaps) g_X9_10 dX9_gaps_55 (by decide) (ae_0 _ _) rfl ?_
        refine v_get (I := iX9_gaps) g_X9_66 dX9_gaps_58 (by decide) (ae_w0 (by decide) _ _) rfl ?_
        refine v_get (I := iX9_gaps) g_X9_86 dX9_gaps_61 (by decide) (ae_w2 (by decide) _ _) rfl ?_
        rw [V_n14 hV9, hN]
        refine v_icmp_ge (I := iX9_gaps) (tgt := 134) dX9_gaps_64 (by decide) (fun c64 => ?_) (fun c64 => ?_)
        · refine v_iload_n (I := iX9_gaps) dX9_gaps_134 rfl ?_
          refine v_if_ne (I := iX9_gaps) (tgt := 142) dX9_gaps_135 (by decide) (fun c135 => ?_) (fun c135 => ?_)
          · refine v_iload_n (I := iX9_gaps) dX9_gaps_142 rfl ?_
            refine v_iconst (I := iX9_gaps) (v := 1) dX9_gaps_143 (by decide) ?_
            refine v_icmp_ne (I := iX9_gaps) (tgt := 151) dX9_gaps_144 (by decide) (fun c144 => ?_) (fun c144 => ?_)
            · refine v_iload (I := iX9_gaps) dX9_gaps_151 rfl ?_
              exact v_iret (I := iX9_gaps) rfl dX9_gaps_153 (by unfold gapsS; rw [if_pos hg, ← he]; refine ⟨?_, rfl, CR_same hC hV9 hF9, FrW.C (by decide) hF9⟩; show some (Value.int _) = some (Value.int (sel what (a, d, v))); first | (rw [show sel what (a, d, v) = a from if_pos c135]) | (rw [show sel what (a, d, v) = d from (if_neg c135).trans (if_pos c144)]) | (rw [show sel what (a, d, v) = v from (if_neg c135).trans (if_neg c144)]))
            · refine v_iload_n (I := iX9_gaps) dX9_gaps_147 rfl ?_
              refine v_goto (I := iX9_gaps) (tgt := 153) dX9_gaps_148 (by decide) ?_
              exact v_iret (I := iX9_gaps) rfl dX9_gaps_153 (by unfold gapsS; rw [if_pos hg, ← he]; refine ⟨?_, rfl, CR_same hC hV9 hF9, FrW.C (by decide) hF9⟩; show some (Value.int _) = some (Value.int (sel what (a, d, v))); first | (rw [show sel what (a, d, v) = a from if_pos c135]) | (rw [show sel what (a, d, v) = d from (if_neg c135).trans (if_pos c144)]) | (rw [show sel what (a, d, v) = v from (if_neg c135).trans (if_neg c144)]))
          · refine v_iload_n (I := iX9_gaps) dX9_gaps_138 rfl ?_
            refine v_goto (I := iX9_gaps) (tgt := 153) dX9_gaps_139 (by decide) ?_
            exact v_iret (I := iX9_gaps) rfl dX9_gaps_153 (by unfold gapsS; rw [if_pos hg, ← he]; refine ⟨?_, rfl, CR_same hC hV9 hF9, FrW.C (by decide) hF9⟩; show some (Value.int _) = some (Value.int (sel what (a, d, v))); first | (rw [show sel what (a, d, v) = a from if_pos c135]) | (rw [show sel what (a, d, v) = d from (if_neg c135).trans (if_pos c144)]) | (rw [show sel what (a, d, v) = v from (if_neg c135).trans (if_neg c144)]))
        · exact absurd (by rw [hk, hkN]; exact Int32.le_refl _) c64
      | succ m ih =>
        intro k σ9 y t f a d v hkm hV9 hF9 he hk
        subst hk
        show VW _ _ _ _ _ _ 52 [(7, _), (6, _), (5, _), (4, _), (3, _), (2, _), (0, _), (1, _)] []
        refine v_iload (I := iX9_gaps) dX9_gaps_52 rfl ?_
        refine v_aload_n (I := iX9_gaps) dX9_gaps_54 rfl ?_
        refine v_get (I := iX9_gaps) g_X9_10 dX9_gaps_55 (by decide) (ae_0 _ _) rfl ?_
        refine v_get (I := iX9_gaps) g_X9_66 dX9_gaps_58 (by decide) (ae_w0 (by decide) _ _) rfl ?_
        refine v_get (I := iX9_gaps) g_X9_86 dX9_gaps_61 (by decide) (ae_w2 (by decide) _ _) rfl ?_
        rw [V_n14 hV9, hN]
        refine v_icmp_ge (I := iX9_gaps) (tgt := 134) dX9_gaps_64 (by decide) (fun c64 => ?_) (fun c64 => ?_)
        · exact absurd c64 (by exact nI_ge (by omega) (by omega))
        · refine v_iload (I := iX9_gaps) dX9_gaps_67 rfl ?_
          refine v_iload (I := iX9_gaps) dX9_gaps_69 rfl ?_
          refine v_icmp_le (I := iX9_gaps) (tgt := 134) dX9_gaps_71 (by decide) (fun c71 => ?_) (fun c71 => ?_)
          · refine v_iload_n (I := iX9_gaps) dX9_gaps_134 rfl ?_
            refine v_if_ne (I := iX9_gaps) (tgt := 142) dX9_gaps_135 (by decide) (fun c135 => ?_) (fun c135 => ?_)
            · refine v_iload_n (I := iX9_gaps) dX9_gaps_142 rfl ?_
              refine v_iconst (I := iX9_gaps) (v := 1) dX9_gaps_143 (by decide) ?_
              refine v_icmp_ne (I := iX9_gaps) (tgt := 151) dX9_gaps_144 (by decide) (fun c144 => ?_) (fun c144 => ?_)
              · refine v_iload (I := iX9_gaps) dX9_gaps_151 rfl ?_
                exact v_iret (I := iX9_gaps) rfl dX9_gaps_153 (by unfold gapsS; rw [if_pos hg, ← he, gapsN, if_neg (by grind)]; refine ⟨?_, rfl, CR_same hC hV9 hF9, FrW.C (by decide) hF9⟩; show some (Value.int _) = some (Value.int (sel what (a, d, v))); first | (rw [show sel what (a, d, v) = a from if_pos c135]) | (rw [show sel what (a, d, v) = d from (if_neg c135).trans (if_pos c144)]) | (rw [show sel what (a, d, v) = v from (if_neg c135).trans (if_neg c144)]))
              · refine v_iload_n (I := iX9_gaps) dX9_gaps_147 rfl ?_
                refine v_goto (I := iX9_gaps) (tgt := 153) dX9_gaps_148 (by decide) ?_
                exact v_iret (I := iX9_gaps) rfl dX9_gaps_153 (by unfold gapsS; rw [if_pos hg, ← he, gapsN, if_neg (by grind)]; refine ⟨?_, rfl, CR_same hC hV9 hF9, FrW.C (by decide) hF9⟩; show some (Value.int _) = some (Value.int (sel what (a, d, v))); first | (rw [show sel what (a, d, v) = a from if_pos c135]) | (rw [show sel what (a, d, v) = d from (if_neg c135).trans (if_pos c144)]) | (rw [show sel what (a, d, v) = v from (if_neg c135).trans (if_neg c144)]))
            · refine v_iload_n (I := iX9_gaps) dX9_gaps_138 rfl ?_
              refine v_goto (I := iX9_gaps) (tgt := 153) dX9_gaps_139 (by decide) ?_
              exact v_iret (I := iX9_gaps) rfl dX9_gaps_153 (by unfold gapsS; rw [if_pos hg, ← he, gapsN, if_neg (by grind)]; refine ⟨?_, rfl, CR_same hC hV9 hF9, FrW.C (by decide) hF9⟩; show some (Value.int _) = some (Value.int (sel what (a, d, v))); first | (rw [show sel what (a, d, v) = a from if_pos c135]) | (rw [show sel what (a, d, v) = d from (if_neg c135).trans (if_pos c144)]) | (rw [show sel what (a, d, v) = v from (if_neg c135).trans (if_neg c144)]))
          · have hlt : f < t := by grind
            refine v_iinc (I := iX9_gaps) (ls1 := [(2, _), (7, _), (6, _), (5, _), (4, _), (3, _), (0, _), (1, _)]) dX9_gaps_74 rfl rfl (by decide) rfl ?_
            refine v_aload_n (I := iX9_gaps) dX9_gaps_77 rfl ?_
            refine v_get (I := iX9_gaps) g_X9_10 dX9_gaps_78 (by decide) (ae_0 _ _) rfl ?_
            refine v_iload (I := iX9_gaps) dX9_gaps_81 rfl ?_
            refine v_iload (I := iX9_gaps) dX9_gaps_83 rfl ?_
            refine v_isub (I := iX9_gaps) dX9_gaps_85 ?_
            refine v_callViP (I := iX9_gaps) (I' := iX8_dares) lk_X9_236 c_X8_dares dX9_gaps_86 (m_X8_dares (by decide) hV9 hC.2.2.2.2.2.1.2.2.1) rfl rfl (by decide) (ae_w0 (by decide) _ _) rfl (by decide) (by decide) (Nat.le_of_ble_eq_true rfl) (fun s86 h86 => ?_)
            refine v_if_eqB (I := iX9_gaps) (tgt := 98) dX9_gaps_89 (by decide) (fun c89 => ?_) (fun c89 => ?_)
            · have hst : gapsN (ρ 88) m t (gNxt (ρ 88) t) (a + 1) d (mx v (t - f)) = gapsT (ρ 88) := by rw [← he, gapsN, if_pos hlt, if_neg c89]
              refine v_iload (I := iX9_gaps) dX9_gaps_98 rfl ?_
              refine v_iload (I := iX9_gaps) dX9_gaps_100 rfl ?_
              refine v_iload (I := iX9_gaps) dX9_gaps_102 rfl ?_
              refine v_isub (I := iX9_gaps) dX9_gaps_104 ?_
              refine v_max (I := iX9_gaps) lm_X9_225 dX9_gaps_105 (by decide) (Nat.le_of_ble_eq_true rfl) ?_
              rw [show (if v < t - f then t - f else v) = mx v (t - f) from rfl]
              refine v_istore (I := iX9_gaps) (ls1 := [(4, _), (2, _), (7, _), (6, _), (5, _), (3, _), (0, _), (1, _)]) dX9_gaps_108 (by decide) rfl ?_
              refine v_iload (I := iX9_gaps) dX9_gaps_110 rfl ?_
              refine v_istore (I := iX9_gaps) (ls1 := [(5, _), (4, _), (2, _), (7, _), (6, _), (3, _), (0, _), (1, _)]) dX9_gaps_112 (by decide) rfl ?_
              refine v_aload_n (I := iX9_gaps) dX9_gaps_114 rfl ?_
              refine v_get (I := iX9_gaps) g_X9_10 dX9_gaps_115 (by decide) (ae_0 _ _) rfl ?_
              refine v_get (I := iX9_gaps) g_X9_66 dX9_gaps_118 (by decide) (ae_w0 (by decide) _ _) rfl ?_
              refine v_iload (I := iX9_gaps) dX9_gaps_121 rfl ?_
              refine v_callVi (I := iX9_gaps) (I' := iX3_nextCell) lk_X9_233 c_X3_nextCell dX9_gaps_123 (m_X3_nextCell (by decide) h86.1 hC.2.2.2.2.2.1.1) rfl rfl (by decide) (ae_w2 (by decide) _ _) rfl (by decide) (by decide) (Nat.le_of_ble_eq_true rfl) ?_
              refine v_istore (I := iX9_gaps) (ls1 := [(6, _), (5, _), (4, _), (2, _), (7, _), (3, _), (0, _), (1, _)]) dX9_gaps_126 (by decide) rfl ?_
              refine v_iinc (I := iX9_gaps) (ls1 := [(7, _), (6, _), (5, _), (4, _), (2, _), (3, _), (0, _), (1, _)]) dX9_gaps_128 rfl rfl (by decide) rfl ?_
              refine v_goto (I := iX9_gaps) (tgt := 52) dX9_gaps_131 (by decide) ?_
              refine v_pick (I := iX9_gaps) (ls1 := [(7, _), (6, _), (5, _), (4, _), (3, _), (2, _), (0, _), (1, _)]) [0, 1, 2, 3, 5, 4, 6, 7] rfl ?_
              exact ih (k + 1) (by omega) h86.1 (hF9.tr h86.2) hst (by exact nI_1 k)
            · have hst : gapsN (ρ 88) m t (gNxt (ρ 88) t) (a + 1) (d + 1) v = gapsT (ρ 88) := by rw [← he, gapsN, if_pos hlt, if_pos c89]
              refine v_iinc (I := iX9_gaps) (ls1 := [(3, _), (2, _), (7, _), (6, _), (5, _), (4, _), (0, _), (1, _)]) dX9_gaps_92 rfl rfl (by decide) rfl ?_
              refine v_goto (I := iX9_gaps) (tgt := 110) dX9_gaps_95 (by decide) ?_
              refine v_iload (I := iX9_gaps) dX9_gaps_110 rfl ?_
              refine v_istore (I := iX9_gaps) (ls1 := [(5, _), (3, _), (2, _), (7, _), (6, _), (4, _), (0, _), (1, _)]) dX9_gaps_112 (by decide) rfl ?_
              refine v_aload_n (I := iX9_gaps) dX9_gaps_114 rfl ?_
              refine v_get (I := iX9_gaps) g_X9_10 dX9_gaps_115 (by decide) (ae_0 _ _) rfl ?_
              refine v_get (I := iX9_gaps) g_X9_66 dX9_gaps_118 (by decide) (ae_w0 (by decide) _ _) rfl ?_
              refine v_iload (I := iX9_gaps) dX9_gaps_121 rfl ?_
              refine v_callVi (I := iX9_gaps) (I' := iX3_nextCell) lk_X9_233 c_X3_nextCell dX9_gaps_123 (m_X3_nextCell (by decide) h86.1 hC.2.2.2.2.2.1.1) rfl rfl (by decide) (ae_w2 (by decide) _ _) rfl (by decide) (by decide) (Nat.le_of_ble_eq_true rfl) ?_
              refine v_istore (I := iX9_gaps) (ls1 := [(6, _), (5, _), (3, _), (2, _), (7, _), (4, _), (0, _), (1, _)]) dX9_gaps_126 (by decide) rfl ?_
              refine v_iinc (I := iX9_gaps) (ls1 := [(7, _), (6, _), (5, _), (3, _), (2, _), (4, _), (0, _), (1, _)]) dX9_gaps_128 rfl rfl (by decide) rfl ?_
              refine v_goto (I := iX9_gaps) (tgt := 52) dX9_gaps_131 (by decide) ?_
              refine v_pick (I := iX9_gaps) (ls1 := [(7, _), (6, _), (5, _), (4, _), (3, _), (2, _), (0, _), (1, _)]) [0, 1, 2, 5, 3, 4, 6, 7] rfl ?_
              exact ih (k + 1) (by omega) h86.1 (hF9.tr h86.2) hst (by exact nI_1 k)
    exact key N 0 (by omega) hC.1 FrW.rf (by unfold gapsT; rw [hNc]; rfl) rfl
  · refine v_aload_n (I := iX9_gaps) dX9_gaps_9 rfl ?_
    refine v_iconst (I := iX9_gaps) (v := 1) dX9_gaps_10 (by decide) ?_
    refine v_callVi (I := iX9_gaps) (I' := iX9_refused) lk_X9_62 c_X9_refused dX9_gaps_11 (m_X9_refused (e := 1) (by decide) (by decide) (by decide)) rfl rfl (by decide) (ae_0 _ _) rfl (by decide) (by decide) (Nat.le_of_ble_eq_true rfl) ?_
    exact v_iret (I := iX9_gaps) rfl dX9_gaps_14 (by unfold gapsS; rw [if_neg (by grind)]; exact ⟨rfl, rfl, CR_err hC (by decide) (by decide), FC.up (by decide)⟩)
set_option maxRecDepth 100000 in
set_option maxHeartbeats 4000000 in
theorem m_X10_gaps {G : fGm} {σ : fSt} {τ : fLt} {ρ : fSt} (hR : RR σ ρ) {what : Int32} : MS G iX10_gaps 4 [.ref 87, .int what] σ τ (rR τ σ (gapsS ρ what)) := by
  refine ms_of (by decide +kernel) (Nat.le_of_ble_eq_true rfl) ?_
  show VW _ _ _ _ _ _ 0 [(0, _), (1, _)] []
  refine v_iload_n (I := iX10_gaps) dX10_gaps_0 rfl ?_
  refine v_iconst (I := iX10_gaps) (v := 0) dX10_gaps_1 (by decide) ?_
  refine v_iconst (I := iX10_gaps) (v := 2) dX10_gaps_2 (by decide) ?_
  refine v_callSi (I := iX10_gaps) (I' := iX10_within) lk_X10_79 c_X10_within dX10_gaps_3 (m_X10_within) rfl rfl (by decide) (by decide) (Nat.le_of_ble_eq_true rfl) ?_
  refine v_if_neB (I := iX10_gaps) (tgt := 16) dX10_gaps_6 (by decide) (fun c6 => ?_) (fun c6 => ?_)
  · have hg : 0 ≤ what ∧ what ≤ 2 := by grind
    obtain ⟨N, hN8, hN, hNc⟩ := n14_nI hR.2.2.2.2.2.2.2.2.2.2.2.1.1
    have key : ∀ (m : Nat) {σ9 : fSt} {t f a d v : Int32}, cntB (ρ 88) f N ≤ m → Jn (ρ 88) N f t → Fr2 σ σ9 → gapsN (ρ 88) m f t a d v = gapsT (ρ 88) → VW G iX10_gaps (rR τ σ (gapsS ρ what)) 4 σ9 τ 47 [(6, .int t), (5, .int f), (4, .int v), (3, .int d), (2, .int a), (0, .ref 87), (1, .int what)] [] := by
      intro m
      induction m with
      | zero =>
        intro σ9 t f a d v hcn hJ hF9 he
        have he : (a, d, v) = gapsT (ρ 88) := he
        show VW _ _ _ _ _ _ 47 [(6, _), (5, _), (4, _), (3, _), (2, _), (0, _), (1, _)] []
        refine v_iload (I := iX10_gaps) dX10_gaps_47 rfl ?_
        refine v_if_lt (I := iX10_gaps) (tgt := 116) dX10_gaps_49 (by decide) (fun c49 => ?_) (fun c49 => ?_)
        · refine v_iload_n (I := iX10_gaps) dX10_gaps_116 rfl ?_
          refine v_if_ne (I := iX10_gaps) (tgt := 124) dX10_gaps_117 (by decide) (fun c117 => ?_) (fun c117 => ?_)
          · refine v_iload_n (I := iX10_gaps) dX10_gaps_124 rfl ?_
            refine v_iconst (I := iX10_gaps) (v := 1) dX10_gaps_125 (by decide) ?_
            refine v_icmp_ne (I := iX10_gaps) (tgt := 133) dX10_gaps_126 (by decide) (fun c126 => ?_) (fun c126 => ?_)
            · refine v_iload (I := iX10_gaps) dX10_gaps_133 rfl ?_
              exact v_iret (I := iX10_gaps) rfl dX10_gaps_135 (by unfold gapsS; rw [if_pos hg, ← he]; refine ⟨?_, rfl, RR_of hR (fun k hk => hF9 k (by omega) (by omega)) (by rw [hF9 87 (by decide) (by decide)]) (by rw [hF9 87 (by decide) (by decide)]), fun k hk => hF9 k (by omega) (by omega)⟩; show some (Value.int _) = some (Value.int (sel what (a, d, v))); first | (rw [show sel what (a, d, v) = a from if_pos c117]) | (rw [show sel what (a, d, v) = d from (if_neg c117).trans (if_pos c126)]) | (rw [show sel what (a, d, v) = v from (if_neg c117).trans (if_neg c126)]))
            · refine v_iload_n (I := iX10_gaps) dX10_gaps_129 rfl ?_
              refine v_goto (I := iX10_gaps) (tgt := 135) dX10_gaps_130 (by decide) ?_
              exact v_iret (I := iX10_gaps) rfl dX10_gaps_135 (by unfold gapsS; rw [if_pos hg, ← he]; refine ⟨?_, rfl, RR_of hR (fun k hk => hF9 k (by omega) (by omega)) (by rw [hF9 87 (by decide) (by decide)]) (by rw [hF9 87 (by decide) (by decide)]), fun k hk => hF9 k (by omega) (by omega)⟩; show some (Value.int _) = some (Value.int (sel what (a, d, v))); first | (rw [show sel what (a, d, v) = a from if_pos c117]) | (rw [show sel what (a, d, v) = d from (if_neg c117).trans (if_pos c126)]) | (rw [show sel what (a, d, v) = v from (if_neg c117).trans (if_neg c126)]))
          · refine v_iload_n (I := iX10_gaps) dX10_gaps_120 rfl ?_
            refine v_goto (I := iX10_gaps) (tgt := 135) dX10_gaps_121 (by decide) ?_
            exact v_iret (I := iX10_gaps) rfl dX10_gaps_135 (by unfold gapsS; rw [if_pos hg, ← he]; refine ⟨?_, rfl, RR_of hR (fun k hk => hF9 k (by omega) (by omega)) (by rw [hF9 87 (by decide) (by decide)]) (by rw [hF9 87 (by decide) (by decide)]), fun k hk => hF9 k (by omega) (by omega)⟩; show some (Value.int _) = some (Value.int (sel what (a, d, v))); first | (rw [show sel what (a, d, v) = a from if_pos c117]) | (rw [show sel what (a, d, v) = d from (if_neg c117).trans (if_pos c126)]) | (rw [show sel what (a, d, v) = v from (if_neg c117).trans (if_neg c126)]))
        · exact absurd (J_cnt hJ ((J_lt hJ).mpr (by grind))) (by omega)
      | succ m ih =>
        intro σ9 t f a d v hcm hJ hF9 he
        have h88 : σ9 88 = ρ 88 := (hF9 88 (by decide) (by decide)).trans hR.1
        show VW _ _ _ _ _ _ 47 [(6, _), (5, _), (4, _), (3, _), (2, _), (0, _), (1, _)] []
        refine v_iload (I := iX10_gaps) dX10_gaps_47 rfl ?_
        refine v_if_lt (I := iX10_gaps) (tgt := 116) dX10_gaps_49 (by decide) (fun c49 => ?_) (fun c49 => ?_)
        · refine v_iload_n (I := iX10_gaps) dX10_gaps_116 rfl ?_
          refine v_if_ne (I := iX10_gaps) (tgt := 124) dX10_gaps_117 (by decide) (fun c117 => ?_) (fun c117 => ?_)
          · refine v_iload_n (I := iX10_gaps) dX10_gaps_124 rfl ?_
            refine v_iconst (I := iX10_gaps) (v := 1) dX10_gaps_125 (by decide) ?_
            refine v_icmp_ne (I := iX10_gaps) (tgt := 133) dX10_gaps_126 (by decide) (fun c126 => ?_) (fun c126 => ?_)
            · refine v_iload (I := iX10_gaps) dX10_gaps_133 rfl ?_
              exact v_iret (I := iX10_gaps) rfl dX10_gaps_135 (by unfold gapsS; rw [if_pos hg, ← he, gapsN, if_neg (fun h9 => (J_lt hJ).mp h9 (by grind))]; refine ⟨?_, rfl, RR_of hR (fun k hk => hF9 k (by omega) (by omega)) (by rw [hF9 87 (by decide) (by decide)]) (by rw [hF9 87 (by decide) (by decide)]), fun k hk => hF9 k (by omega) (by omega)⟩; show some (Value.int _) = some (Value.int (sel what (a, d, v))); first | (rw [show sel what (a, d, v) = a from if_pos c117]) | (rw [show sel what (a, d, v) = d from (if_neg c117).trans (if_pos c126)]) | (rw [show sel what (a, d, v) = v from (if_neg c117).trans (if_neg c126)]))
            · refine v_iload_n (I := iX10_gaps) dX10_gaps_129 rfl ?_
              refine v_goto (I := iX10_gaps) (tgt := 135) dX10_gaps_130 (by decide) ?_
              exact v_iret (I := iX10_gaps) rfl dX10_gaps_135 (by unfold gapsS; rw [if_pos hg, ← he, gapsN, if_neg (fun h9 => (J_lt hJ).mp h9 (by grind))]; refine ⟨?_, rfl, RR_of hR (fun k hk => hF9 k (by omega) (by omega)) (by rw [hF9 87 (by decide) (by decide)]) (by rw [hF9 87 (by decide) (by decide)]), fun k hk => hF9 k (by omega) (by omega)⟩; show some (Value.int _) = some (Value.int (sel what (a, d, v))); first | (rw [show sel what (a, d, v) = a from if_pos c117]) | (rw [show sel what (a, d, v) = d from (if_neg c117).trans (if_pos c126)]) | (rw [show sel what (a, d, v) = v from (if_neg c117).trans (if_neg c126)]))
          · refine v_iload_n (I := iX10_gaps) dX10_gaps_120 rfl ?_
            refine v_goto (I := iX10_gaps) (tgt := 135) dX10_gaps_121 (by decide) ?_
            exact v_iret (I := iX10_gaps) rfl dX10_gaps_135 (by unfold gapsS; rw [if_pos hg, ← he, gapsN, if_neg (fun h9 => (J_lt hJ).mp h9 (by grind))]; refine ⟨?_, rfl, RR_of hR (fun k hk => hF9 k (by omega) (by omega)) (by rw [hF9 87 (by decide) (by decide)]) (by rw [hF9 87 (by decide) (by decide)]), fun k hk => hF9 k (by omega) (by omega)⟩; show some (Value.int _) = some (Value.int (sel what (a, d, v))); first | (rw [show sel what (a, d, v) = a from if_pos c117]) | (rw [show sel what (a, d, v) = d from (if_neg c117).trans (if_pos c126)]) | (rw [show sel what (a, d, v) = v from (if_neg c117).trans (if_neg c126)]))
        · have hlt : f < t := (J_lt hJ).mpr (by grind)
          refine v_aload_n (I := iX10_gaps) dX10_gaps_52 rfl ?_
          refine v_iload (I := iX10_gaps) dX10_gaps_53 rfl ?_
          refine v_iload (I := iX10_gaps) dX10_gaps_55 rfl ?_
          refine v_isub (I := iX10_gaps) dX10_gaps_57 ?_
          refine v_callViP (I := iX10_gaps) (I' := iX10_dares) lk_X10_287 c_X10_dares dX10_gaps_58 (m_X10_dares (by rw [h88]; exact hR.2.2.2.2.2.2.2.2.2.2.2.1.2.2.1)) rfl rfl (by decide) (ae_87 _ _) rfl (by decide) (by decide) (Nat.le_of_ble_eq_true rfl) (fun s58 h58 => ?_)
          rw [h88]
          have hFk : Fr2 σ s58 := fun k a9 b9 => (h58 k a9 b9).trans (hF9 k a9 b9)
          have h88k : s58 88 = ρ 88 := (hFk 88 (by decide) (by decide)).trans hR.1
          by_cases hd : gDaresI (ρ 88) (t - f) = true
          · rw [if_pos hd]
            have hst : gapsN (ρ 88) m t (gNxt (ρ 88) t) (a + 1) (d + 1) v = gapsT (ρ 88) := by rw [← he, gapsN, if_pos hlt, if_pos hd]
            refine v_istore (I := iX10_gaps) (ls1 := [(7, _), (6, _), (5, _), (4, _), (3, _), (2, _), (0, _), (1, _)]) dX10_gaps_61 (by decide) rfl ?_
            refine v_iinc (I := iX10_gaps) (ls1 := [(2, _), (7, _), (6, _), (5, _), (4, _), (3, _), (0, _), (1, _)]) dX10_gaps_63 rfl rfl (by decide) rfl ?_
            refine v_iload_n (I := iX10_gaps) dX10_gaps_66 rfl ?_
            refine v_iload (I := iX10_gaps) dX10_gaps_67 rfl ?_
            refine v_if_eq (I := iX10_gaps) (tgt := 76) dX10_gaps_69 (by decide) (fun c69 => ?_) (fun c69 => ?_)
            · exact absurd c69 (by decide)
            · refine v_iconst (I := iX10_gaps) (v := 1) dX10_gaps_72 (by decide) ?_
              refine v_goto (I := iX10_gaps) (tgt := 77) dX10_gaps_73 (by decide) ?_
              refine v_iadd (I := iX10_gaps) dX10_gaps_77 ?_
              refine v_istore_n (I := iX10_gaps) (ls1 := [(3, _), (2, _), (7, _), (6, _), (5, _), (4, _), (0, _), (1, _)]) dX10_gaps_78 (by decide) rfl ?_
              refine v_iload (I := iX10_gaps) dX10_gaps_79 rfl ?_
              refine v_if_eq (I := iX10_gaps) (tgt := 89) dX10_gaps_81 (by decide) (fun c81 => ?_) (fun c81 => ?_)
              · exact absurd c81 (by decide)
              · refine v_iload (I := iX10_gaps) dX10_gaps_84 rfl ?_
                refine v_goto (I := iX10_gaps) (tgt := 99) dX10_gaps_86 (by decide) ?_
                refine v_istore (I := iX10_gaps) (ls1 := [(4, _), (3, _), (2, _), (7, _), (6, _), (5, _), (0, _), (1, _)]) dX10_gaps_99 (by decide) rfl ?_
                refine v_iload (I := iX10_gaps) dX10_gaps_101 rfl ?_
                refine v_istore (I := iX10_gaps) (ls1 := [(5, _), (4, _), (3, _), (2, _), (7, _), (6, _), (0, _), (1, _)]) dX10_gaps_103 (by decide) rfl ?_
                refine v_aload_n (I := iX10_gaps) dX10_gaps_105 rfl ?_
                refine v_iload (I := iX10_gaps) dX10_gaps_106 rfl ?_
                refine v_callVi (I := iX10_gaps) (I' := iX10_nextCell) lk_X10_284 c_X10_nextCell dX10_gaps_108 (m_X10_nextCell (by rw [h88k]; exact hR.2.2.2.2.2.2.2.2.2.2.2.1.1)) rfl rfl (by decide) (ae_87 _ _) rfl (by decide) (by decide) (Nat.le_of_ble_eq_true rfl) ?_
                rw [h88k]
                refine v_istore (I := iX10_gaps) (ls1 := [(6, _), (5, _), (4, _), (3, _), (2, _), (7, _), (0, _), (1, _)]) dX10_gaps_111 (by decide) rfl ?_
                refine v_goto (I := iX10_gaps) (tgt := 47) dX10_gaps_113 (by decide) ?_
                refine v_pick (I := iX10_gaps) (ls1 := [(6, _), (5, _), (4, _), (3, _), (2, _), (0, _), (1, _)]) [0, 1, 2, 3, 4, 6, 7] rfl ?_
                exact ih (by have := J_cnt hJ hlt; omega) (J_next hR.2.2.2.2.2.2.2.2.2.2.2.1.1 hN8 hNc (J_m1 hJ)) hFk hst
          · rw [if_neg hd]
            have hst : gapsN (ρ 88) m t (gNxt (ρ 88) t) (a + 1) d (mx v (t - f)) = gapsT (ρ 88) := by rw [← he, gapsN, if_pos hlt, if_neg hd]
            refine v_istore (I := iX10_gaps) (ls1 := [(7, _), (6, _), (5, _), (4, _), (3, _), (2, _), (0, _), (1, _)]) dX10_gaps_61 (by decide) rfl ?_
            refine v_iinc (I := iX10_gaps) (ls1 := [(2, _), (7, _), (6, _), (5, _), (4, _), (3, _), (0, _), (1, _)]) dX10_gaps_63 rfl rfl (by decide) rfl ?_
            refine v_iload_n (I := iX10_gaps) dX10_gaps_66 rfl ?_
            refine v_iload (I := iX10_gaps) dX10_gaps_67 rfl ?_
            refine v_if_eq (I := iX10_gaps) (tgt := 76) dX10_gaps_69 (by decide) (fun c69 => ?_) (fun c69 => ?_)
            · refine v_iconst (I := iX10_gaps) (v := 0) dX10_gaps_76 (by decide) ?_
              refine v_iadd (I := iX10_gaps) dX10_gaps_77 ?_
              rw [Int32.add_zero]
              refine v_istore_n (I := iX10_gaps) (ls1 := [(3, _), (2, _), (7, _), (6, _), (5, _), (4, _), (0, _), (1, _)]) dX10_gaps_78 (by decide) rfl ?_
              refine v_iload (I := iX10_gaps) dX10_gaps_79 rfl ?_
              refine v_if_eq (I := iX10_gaps) (tgt := 89) dX10_gaps_81 (by decide) (fun c81 => ?_) (fun c81 => ?_)
              · refine v_iload (I := iX10_gaps) dX10_gaps_89 rfl ?_
                refine v_iload (I := iX10_gaps) dX10_gaps_91 rfl ?_
                refine v_iload (I := iX10_gaps) dX10_gaps_93 rfl ?_
                refine v_isub (I := iX10_gaps) dX10_gaps_95 ?_
                refine v_max (I := iX10_gaps) lm_X10_76 dX10_gaps_96 (by decide) (Nat.le_of_ble_eq_true rfl) ?_
                rw [show (if v < t - f then t - f else v) = mx v (t - f) from rfl]
                refine v_istore (I := iX10_gaps) (ls1 := [(4, _), (3, _), (2, _), (7, _), (6, _), (5, _), (0, _), (1, _)]) dX10_gaps_99 (by decide) rfl ?_
                refine v_iload (I := iX10_gaps) dX10_gaps_101 rfl ?_
                refine v_istore (I := iX10_gaps) (ls1 := [(5, _), (4, _), (3, _), (2, _), (7, _), (6, _), (0, _), (1, _)]) dX10_gaps_103 (by decide) rfl ?_
                refine v_aload_n (I := iX10_gaps) dX10_gaps_105 rfl ?_
                refine v_iload (I := iX10_gaps) dX10_gaps_106 rfl ?_
                refine v_callVi (I := iX10_gaps) (I' := iX10_nextCell) lk_X10_284 c_X10_nextCell dX10_gaps_108 (m_X10_nextCell (by rw [h88k]; exact hR.2.2.2.2.2.2.2.2.2.2.2.1.1)) rfl rfl (by decide) (ae_87 _ _) rfl (by decide) (by decide) (Nat.le_of_ble_eq_true rfl) ?_
                rw [h88k]
                refine v_istore (I := iX10_gaps) (ls1 := [(6, _), (5, _), (4, _), (3, _), (2, _), (7, _), (0, _), (1, _)]) dX10_gaps_111 (by decide) rfl ?_
                refine v_goto (I := iX10_gaps) (tgt := 47) dX10_gaps_113 (by decide) ?_
                refine v_pick (I := iX10_gaps) (ls1 := [(6, _), (5, _), (4, _), (3, _), (2, _), (0, _), (1, _)]) [0, 1, 2, 3, 4, 6, 7] rfl ?_
                exact ih (by have := J_cnt hJ hlt; omega) (J_next hR.2.2.2.2.2.2.2.2.2.2.2.1.1 hN8 hNc (J_m1 hJ)) hFk hst
              · exact absurd rfl c81
            · exact absurd rfl c69
    have hJ0 : Jn (ρ 88) N (-1) (gNxt (ρ 88) (Int32.ofInt (-1))) := J_next hR.2.2.2.2.2.2.2.2.2.2.2.1.1 hN8 hNc (by decide)
    have hF1 : -1 ≤ (gNxt (ρ 88) (Int32.ofInt (-1))) := J_m1 hJ0
    have hJ1 : Jn (ρ 88) N (gNxt (ρ 88) (Int32.ofInt (-1))) (gNxt (ρ 88) (gNxt (ρ 88) (Int32.ofInt (-1)))) := J_next hR.2.2.2.2.2.2.2.2.2.2.2.1.1 hN8 hNc hF1
    have he0 : gapsN (ρ 88) N (gNxt (ρ 88) (Int32.ofInt (-1))) (gNxt (ρ 88) (gNxt (ρ 88) (Int32.ofInt (-1)))) 0 0 0 = gapsT (ρ 88) := by unfold gapsT; rw [hNc]
    refine v_iconst (I := iX10_gaps) (v := 0) dX10_gaps_16 (by decide) ?_
    refine v_istore_n (I := iX10_gaps) (ls1 := [(2, _), (0, _), (1, _)]) dX10_gaps_17 (by decide) rfl ?_
    refine v_iconst (I := iX10_gaps) (v := 0) dX10_gaps_18 (by decide) ?_
    refine v_istore_n (I := iX10_gaps) (ls1 := [(3, _), (2, _), (0, _), (1, _)]) dX10_gaps_19 (by decide) rfl ?_
    refine v_iconst (I := iX10_gaps) (v := 0) dX10_gaps_20 (by decide) ?_
    refine v_istore (I := iX10_gaps) (ls1 := [(4, _), (3, _), (2, _), (0, _), (1, _)]) dX10_gaps_21 (by decide) rfl ?_
    refine v_aload_n (I := iX10_gaps) dX10_gaps_23 rfl ?_
    refine v_iconst (I := iX10_gaps) (v := -1) dX10_gaps_24 (by decide) ?_
    refine v_callVi (I := iX10_gaps) (I' := iX10_nextCell) lk_X10_284 c_X10_nextCell dX10_gaps_25 (m_X10_nextCell (by rw [hR.1]; exact hR.2.2.2.2.2.2.2.2.2.2.2.1.1)) rfl rfl (by decide) (ae_87 _ _) rfl (by decide) (by decide) (Nat.le_of_ble_eq_true rfl) ?_
    rw [hR.1]
    refine v_istore (I := iX10_gaps) (ls1 := [(5, _), (4, _), (3, _), (2, _), (0, _), (1, _)]) dX10_gaps_28 (by decide) rfl ?_
    refine v_iload (I := iX10_gaps) dX10_gaps_30 rfl ?_
    refine v_if_ge (I := iX10_gaps) (tgt := 39) dX10_gaps_32 (by decide) (fun c32 => ?_) (fun c32 => ?_)
    · refine v_aload_n (I := iX10_gaps) dX10_gaps_39 rfl ?_
      refine v_iload (I := iX10_gaps) dX10_gaps_40 rfl ?_
      refine v_callVi (I := iX10_gaps) (I' := iX10_nextCell) lk_X10_284 c_X10_nextCell dX10_gaps_42 (m_X10_nextCell (by rw [hR.1]; exact hR.2.2.2.2.2.2.2.2.2.2.2.1.1)) rfl rfl (by decide) (ae_87 _ _) rfl (by decide) (by decide) (Nat.le_of_ble_eq_true rfl) ?_
      rw [hR.1]
      refine v_istore (I := iX10_gaps) (ls1 := [(6, _), (5, _), (4, _), (3, _), (2, _), (0, _), (1, _)]) dX10_gaps_45 (by decide) rfl ?_
      exact key N (cnt_le N) hJ1 (fun _ _ _ => rfl) he0
    · have hm : (gNxt (ρ 88) (Int32.ofInt (-1))) = -1 := by grind
      have hto : gNxt (ρ 88) (gNxt (ρ 88) (Int32.ofInt (-1))) = (Int32.ofInt (-1)) := by
        have h9 : gNxt (ρ 88) (Int32.ofInt (-1)) = -1 := hm
        rw [hm]
        exact h9
      rw [hto] at hJ1 he0
      refine v_iconst (I := iX10_gaps) (v := -1) dX10_gaps_35 (by decide) ?_
      refine v_goto (I := iX10_gaps) (tgt := 45) dX10_gaps_36 (by decide) ?_
      refine v_istore (I := iX10_gaps) (ls1 := [(6, _), (5, _), (4, _), (3, _), (2, _), (0, _), (1, _)]) dX10_gaps_45 (by decide) rfl ?_
      exact key N (cnt_le N) hJ1 (fun _ _ _ => rfl) he0
  · refine v_aload_n (I := iX10_gaps) dX10_gaps_9 rfl ?_
    refine v_ldc (I := iX10_gaps) k_X10_91 dX10_gaps_10 ?_
    refine v_callVi (I := iX10_gaps) (I' := iX10_finding) lk_X10_92 c_X10_finding dX10_gaps_12 (m_X10_findE (e := 1) (by decide) (by decide)) rfl rfl (by decide) (ae_87 _ _) rfl (by decide) (by decide) (Nat.le_of_ble_eq_true rfl) ?_
    exact v_iret (I := iX10_gaps) rfl dX10_gaps_15 (by unfold gapsS; rw [if_neg (by grind)]; exact ⟨rfl, rfl, RR_err hR, FR.up (by decide)⟩)
