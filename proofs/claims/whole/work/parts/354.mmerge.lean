/-! change: the reference merges a number. -/
def Vs (Z Z' : Sg) (i : Nat) : Prop := ∀ k, k < 6 → g_i Z' 44 (6 * i + k) = g_i Z 44 (6 * i + k) ∧ g_i Z' 45 (6 * i + k) = g_i Z 45 (6 * i + k) ∧ g_i Z' 46 (6 * i + k) = g_i Z 46 (6 * i + k)
def Vr (Z Z' : Sg) (w m : Nat) (st : Int32) (V : Nat → Int32) (i : Nat) : Prop := ∀ k, k < 6 → ((g_i Z' 44 (6 * i + k) = g_i Z 44 (6 * i + k) ∧ g_i Z' 45 (6 * i + k) = g_i Z 45 (6 * i + k)) ∨ (w.testBit k = true ∧ g_i Z 44 (6 * i + k) < st ∧ g_i Z' 44 (6 * i + k) = st ∧ g_i Z' 45 (6 * i + k) = V k)) ∧ (g_i Z' 46 (6 * i + k) = g_i Z 46 (6 * i + k) ∨ (m.testBit k = true ∧ g_i Z' 46 (6 * i + k) = mx (g_i Z 46 (6 * i + k)) st))
theorem Vs.vr {Z Z' : Sg} {i w m : Nat} {st : Int32} {V : Nat → Int32} (h : Vs Z Z' i) : Vr Z Z' w m st V i := fun k hk => ⟨Or.inl ⟨(h k hk).1, (h k hk).2.1⟩, Or.inl (h k hk).2.2⟩
/-- what one turn of the merging loop changes -/
def Fm (Z Z' : Sg) (t i : Nat) : Prop := (∀ a x, g_r Z' a x = g_r Z a x ∧ g_l Z' a x = g_l Z a x) ∧ ∀ a x, ((a ≠ 44 ∧ a ≠ 45 ∧ a ≠ 46) ∨ x < 6 * i ∨ 6 * i + 6 ≤ x) ∧ ((a ≠ 47 ∧ a ≠ 49 ∧ a ≠ 50) ∨ x ≠ 61 * i + t) → g_i Z' a x = g_i Z a x
theorem st_ap21 {b : Nat} {σ : Sg} (h : SN b σ) {n i t w m c c' : Nat} {V : Nat → Int32} (hi : i < 3) (ht : t ≤ 60) (hW : Lw σ t w c V) (hM : Lr σ t m c') : ∃ Z', b_M_merge_21 (n + 1) σ 27 (nI t) 1 (nI i) = b_M_merge_21 n Z' 27 (nI t) 1 (nI (i + 1)) ∧ SN b Z' ∧ Fm σ Z' t i ∧ (g_i σ 42 i = 0 → g_i Z' 47 (61 * i + t) = g_i σ 47 (61 * i + t) ∧ g_i Z' 49 (61 * i + t) = g_i σ 49 (61 * i + t) ∧ g_i Z' 50 (61 * i + t) = g_i σ 50 (61 * i + t) ∧ Vs σ Z' i) ∧ (g_i σ 42 i ≠ 0 → (g_i σ 49 (61 * i + t) = 0 ∨ g_i σ 49 (61 * i + t) = 1) → g_i Z' 47 (61 * i + t) = (if 0 ≤ g_i σ 47 (61 * i + t) then g_i σ 47 (61 * i + t) else 0) ∧ g_i Z' 49 (61 * i + t) = 1 ∧ g_i Z' 50 (61 * i + t) = g_i σ 50 (61 * i + t) ∧ Vr σ Z' w m (g_i σ 28 t) V i) := by
  have hn : ¬ 3 ≤ i := by omega
  by_cases z : g_i σ 42 i = 0
  · refine ⟨σ, ?_, h, ⟨fun _ _ => ⟨rfl, rfl⟩, fun _ _ _ => rfl⟩, fun _ => ⟨rfl, rfl, rfl, fun _ _ => ⟨rfl, rfl, rfl⟩⟩, fun y => absurd z y⟩
    simp (disch := omega) only [↓reduceIte, ↓wi_e, ↓wn_e, ↓rc_i, ↓rc_l, ↓h.q0, ↓h.q1, ↓h.q2, ↓h.qr, ↓h.qc, ↓h.qr2, ↓h.qr3, ↓h.qr4, ↓h.qr5, ↓h.qc5, ↓h.qt, ↓h.qt4, ↓h.qt5, ↓h.qt6, ↓h.qm2, ↓h.qm3, ↓h.qm4, ↓h.qm5, ↓h.qm6, ↓h.qm7, ↓h.qm8, ↓h.qm9, ↓h.qm10, ↓h.qm11, ↓h.qm12, ↓h.qm13, ↓h.qm14, ↓h.qm15, ↓h.qm16, ↓h.qm17, ↓h.qm18, ↓h.qm19, ↓h.qm20, ↓h.qm21, ↓h.qm22, ↓h.qm23, ↓h.qm24, h.lt, kd_0, kd_1, kd_2, kd_3, kd_r, kd_ra, kd_rb, kd_rc, kd_rd, ln_ra, ln_rb, ln_rc, ln_rd, kd_c, kd_ca, ln_ca, kd_t, kd_ta, kd_tb, kd_tc, ln_ta, ln_tb, ln_tc, ln_1, ln_2, ln_3, ln_51, kd_27, kd_28, kd_29, kd_30, kd_31, kd_32, kd_33, kd_34, kd_35, kd_36, kd_37, kd_38, kd_39, kd_40, kd_41, kd_42, kd_43, kd_44, kd_45, kd_46, kd_47, kd_48, kd_49, kd_50, kd_51, ln_28, ln_29, ln_30, ln_31, ln_32, ln_33, ln_34, ln_35, ln_36, ln_37, ln_38, ln_39, ln_40, ln_41, ln_42, ln_43, ln_44, ln_45, ln_46, ln_47, ln_48, ln_49, ln_50, inb_n, cl_n, g_n_s_i, g_n_s_l, mul_3, mul_4, mul_6, mul_61, nI_add, nI_1, nle_0, nle_1, nle_2, nle_3, nle_4, nle_5, nle_6, nle_7, nle_60, nle_61, nlt_0, nlt_1, nlt_2, nlt_3, nlt_4, nlt_5, nlt_6, nlt_7, nlt_60, nlt_61, nge_0, nge_1, nge_2, nge_3, nge_4, nge_5, nge_6, nge_7, nge_60, nge_61, ngt_0, ngt_1, ngt_2, ngt_3, ngt_4, ngt_5, ngt_6, ngt_7, ngt_60, ngt_61, neq_0, neq_1, neq_2, neq_3, neq_4, neq_5, neq_6, neq_7, neq_60, neq_61, Nat.not_lt_zero, and_self, and_true, true_and, or_true, true_or, if_true, if_false, or_self, and_false, false_and, or_false, false_or, not_true_eq_false, not_false_eq_true, ne_eq, reduceCtorEq, eq_self, bind_s, c10, c01, c20, c30, c40, cl_0, inb_0, onI_l, onI_r, onV_l, onV_r, b_M_merge_21, b_M_merge_99, hn, z]
  · have h1 : SN b (if 0 ≤ g_i σ 47 (61 * i + t) then σ else s_i σ 47 (61 * i + t) 0) := by
      split
      · exact h
      · exact h
    have y47 : g_i (if 0 ≤ g_i σ 47 (61 * i + t) then σ else s_i σ 47 (61 * i + t) 0) 47 (61 * i + t) = if 0 ≤ g_i σ 47 (61 * i + t) then g_i σ 47 (61 * i + t) else 0 := by
      split
      · rfl
      · rw [gi_s ⟨rfl, rfl⟩]
    have yn : ∀ a x, a ≠ 47 ∨ x ≠ 61 * i + t → g_i (if 0 ≤ g_i σ 47 (61 * i + t) then σ else s_i σ 47 (61 * i + t) 0) a x = g_i σ a x := by
      intro a x q
      split
      · rfl
      · rw [gi_n q]
    have yr : ∀ a x, g_r (if 0 ≤ g_i σ 47 (61 * i + t) then σ else s_i σ 47 (61 * i + t) 0) a x = g_r σ a x ∧ g_l (if 0 ≤ g_i σ 47 (61 * i + t) then σ else s_i σ 47 (61 * i + t) 0) a x = g_l σ a x := by
      intro a x
      split
      · exact ⟨rfl, rfl⟩
      · exact ⟨rfl, rfl⟩
    have mk := p_make h hi (t := t) (by omega) 0
    have E : b_M_merge_21 (n + 1) σ 27 (nI t) 1 (nI i) = (f_M_make σ 27 (nI t) (nI i) 0).bind (fun s7 => (if (27 < s7.1 ∧ kd 27 = 4) then rc (g_r s7 27 23) none (fun b8 => (if (b8 < s7.1 ∧ kd b8 = 11) ∧ inb (((61 : Int32) * (nI i)) + (nI t)) (ln b8) = true then (if (g_i s7 b8 (((61 : Int32) * (nI i)) + (nI t)).toNatClampNeg) = 0 then (if 27 < s7.1 ∧ kd 27 = 4 then (f_M_apply s7 27 (nI t) (nI i)).bind (fun s9 => (b_M_merge_21 n s9 27 (nI t) 1 (nI (i + 1)))) else none) else b_M_merge_21 n s7 27 (nI t) 1 (nI (i + 1))) else none)) else none)) := by
      simp (disch := omega) only [↓reduceIte, ↓wi_e, ↓wn_e, ↓rc_i, ↓rc_l, ↓h.q0, ↓h.q1, ↓h.q2, ↓h.qr, ↓h.qc, ↓h.qr2, ↓h.qr3, ↓h.qr4, ↓h.qr5, ↓h.qc5, ↓h.qt, ↓h.qt4, ↓h.qt5, ↓h.qt6, ↓h.qm2, ↓h.qm3, ↓h.qm4, ↓h.qm5, ↓h.qm6, ↓h.qm7, ↓h.qm8, ↓h.qm9, ↓h.qm10, ↓h.qm11, ↓h.qm12, ↓h.qm13, ↓h.qm14, ↓h.qm15, ↓h.qm16, ↓h.qm17, ↓h.qm18, ↓h.qm19, ↓h.qm20, ↓h.qm21, ↓h.qm22, ↓h.qm23, ↓h.qm24, h.lt, kd_0, kd_1, kd_2, kd_3, kd_r, kd_ra, kd_rb, kd_rc, kd_rd, ln_ra, ln_rb, ln_rc, ln_rd, kd_c, kd_ca, ln_ca, kd_t, kd_ta, kd_tb, kd_tc, ln_ta, ln_tb, ln_tc, ln_1, ln_2, ln_3, ln_51, kd_27, kd_28, kd_29, kd_30, kd_31, kd_32, kd_33, kd_34, kd_35, kd_36, kd_37, kd_38, kd_39, kd_40, kd_41, kd_42, kd_43, kd_44, kd_45, kd_46, kd_47, kd_48, kd_49, kd_50, kd_51, ln_28, ln_29, ln_30, ln_31, ln_32, ln_33, ln_34, ln_35, ln_36, ln_37, ln_38, ln_39, ln_40, ln_41, ln_42, ln_43, ln_44, ln_45, ln_46, ln_47, ln_48, ln_49, ln_50, inb_n, cl_n, g_n_s_i, g_n_s_l, mul_3, mul_4, mul_6, mul_61, nI_add, nI_1, nle_0, nle_1, nle_2, nle_3, nle_4, nle_5, nle_6, nle_7, nle_60, nle_61, nlt_0, nlt_1, nlt_2, nlt_3, nlt_4, nlt_5, nlt_6, nlt_7, nlt_60, nlt_61, nge_0, nge_1, nge_2, nge_3, nge_4, nge_5, nge_6, nge_7, nge_60, nge_61, ngt_0, ngt_1, ngt_2, ngt_3, ngt_4, ngt_5, ngt_6, ngt_7, ngt_60, ngt_61, neq_0, neq_1, neq_2, neq_3, neq_4, neq_5, neq_6, neq_7, neq_60, neq_61, Nat.not_lt_zero, and_self, and_true, true_and, or_true, true_or, if_true, if_false, or_self, and_false, false_and, or_false, false_or, not_true_eq_false, not_false_eq_true, ne_eq, reduceCtorEq, eq_self, bind_s, c10, c01, c20, c30, c40, cl_0, inb_0, onI_l, onI_r, onV_l, onV_r, b_M_merge_21, hn, z, b_M_merge_53, b_M_merge_82, b_M_merge_99]
    rw [bq mk] at E
    generalize (if 0 ≤ g_i σ 47 (61 * i + t) then σ else s_i σ 47 (61 * i + t) 0) = Y at *
    have e49 : g_i Y 49 (61 * i + t) = g_i σ 49 (61 * i + t) := yn _ _ (by omega)
    by_cases ya : g_i σ 49 (61 * i + t) = 0
    · obtain ⟨τ, eτ, sτ, rτ, Fτ, vτ, Vτ⟩ := p_apply h1 hi ht (hW.cg (fun a x h1 h2 => yn a x (by omega))) (hM.cg (fun a x h1 h2 => yn a x (by omega)))
      refine ⟨τ, ?_, sτ, ⟨fun a x => ?_, fun a x q => ?_⟩, fun y => absurd y z, fun _ _ => ⟨?_, vτ, ?_, fun k hk => ?_⟩⟩
      · rw [E]
        simp (disch := omega) only [↓reduceIte, ↓wi_e, ↓wn_e, ↓rc_i, ↓rc_l, ↓h1.q0, ↓h1.q1, ↓h1.q2, ↓h1.qr, ↓h1.qc, ↓h1.qr2, ↓h1.qr3, ↓h1.qr4, ↓h1.qr5, ↓h1.qc5, ↓h1.qt, ↓h1.qt4, ↓h1.qt5, ↓h1.qt6, ↓h1.qm2, ↓h1.qm3, ↓h1.qm4, ↓h1.qm5, ↓h1.qm6, ↓h1.qm7, ↓h1.qm8, ↓h1.qm9, ↓h1.qm10, ↓h1.qm11, ↓h1.qm12, ↓h1.qm13, ↓h1.qm14, ↓h1.qm15, ↓h1.qm16, ↓h1.qm17, ↓h1.qm18, ↓h1.qm19, ↓h1.qm20, ↓h1.qm21, ↓h1.qm22, ↓h1.qm23, ↓h1.qm24, h1.lt, kd_0, kd_1, kd_2, kd_3, kd_r, kd_ra, kd_rb, kd_rc, kd_rd, ln_ra, ln_rb, ln_rc, ln_rd, kd_c, kd_ca, ln_ca, kd_t, kd_ta, kd_tb, kd_tc, ln_ta, ln_tb, ln_tc, ln_1, ln_2, ln_3, ln_51, kd_27, kd_28, kd_29, kd_30, kd_31, kd_32, kd_33, kd_34, kd_35, kd_36, kd_37, kd_38, kd_39, kd_40, kd_41, kd_42, kd_43, kd_44, kd_45, kd_46, kd_47, kd_48, kd_49, kd_50, kd_51, ln_28, ln_29, ln_30, ln_31, ln_32, ln_33, ln_34, ln_35, ln_36, ln_37, ln_38, ln_39, ln_40, ln_41, ln_42, ln_43, ln_44, ln_45, ln_46, ln_47, ln_48, ln_49, ln_50, inb_n, cl_n, g_n_s_i, g_n_s_l, mul_3, mul_4, mul_6, mul_61, nI_add, nI_1, nle_0, nle_1, nle_2, nle_3, nle_4, nle_5, nle_6, nle_7, nle_60, nle_61, nlt_0, nlt_1, nlt_2, nlt_3, nlt_4, nlt_5, nlt_6, nlt_7, nlt_60, nlt_61, nge_0, nge_1, nge_2, nge_3, nge_4, nge_5, nge_6, nge_7, nge_60, nge_61, ngt_0, ngt_1, ngt_2, ngt_3, ngt_4, ngt_5, ngt_6, ngt_7, ngt_60, ngt_61, neq_0, neq_1, neq_2, neq_3, neq_4, neq_5, neq_6, neq_7, neq_60, neq_61, Nat.not_lt_zero, and_self, and_true, true_and, or_true, true_or, if_true, if_false, or_self, and_false, false_and, or_false, false_or, not_true_eq_false, not_false_eq_true, ne_eq, reduceCtorEq, eq_self, bind_s, c10, c01, c20, c30, c40, cl_0, inb_0, onI_l, onI_r, onV_l, onV_r, e49, ya, ↓bq eτ]
      · rw [(rτ a x).1, (rτ a x).2]
        exact yr a x
      · rw [Fτ _ _ (by omega), yn _ _ (by omega)]
      · rw [Fτ _ _ (by omega), y47]
      · rw [Fτ _ _ (by omega), yn _ _ (by omega)]
      · obtain ⟨w1, w2, w3⟩ := Vτ k hk
        rw [yn 44 _ (by omega), yn 28 _ (by omega)] at w1 w2
        rw [yn 45 _ (by omega)] at w2
        rw [yn 46 _ (by omega), yn 28 _ (by omega)] at w3
        refine ⟨?_, ?_⟩
        · by_cases q : w.testBit k = true ∧ g_i σ 44 (6 * i + k) < g_i σ 28 t
          · rw [if_pos q] at w1 w2
            exact Or.inr ⟨q.1, q.2, w1, w2⟩
          · rw [if_neg q] at w1 w2
            exact Or.inl ⟨w1, w2⟩
        · by_cases q : m.testBit k = true
          · rw [if_pos q] at w3
            exact Or.inr ⟨q, w3⟩
          · rw [if_neg q] at w3
            exact Or.inl w3
    · refine ⟨Y, ?_, h1, ⟨yr, fun a x q => yn _ _ (by omega)⟩, fun y => absurd y z, fun _ y => ⟨y47, by rw [e49]; exact y.resolve_left ya, yn _ _ (by omega), Vs.vr (fun k hk => ⟨yn _ _ (by omega), yn _ _ (by omega), yn _ _ (by omega)⟩)⟩⟩
      rw [E]
      simp (disch := omega) only [↓reduceIte, ↓wi_e, ↓wn_e, ↓rc_i, ↓rc_l, ↓h1.q0, ↓h1.q1, ↓h1.q2, ↓h1.qr, ↓h1.qc, ↓h1.qr2, ↓h1.qr3, ↓h1.qr4, ↓h1.qr5, ↓h1.qc5, ↓h1.qt, ↓h1.qt4, ↓h1.qt5, ↓h1.qt6, ↓h1.qm2, ↓h1.qm3, ↓h1.qm4, ↓h1.qm5, ↓h1.qm6, ↓h1.qm7, ↓h1.qm8, ↓h1.qm9, ↓h1.qm10, ↓h1.qm11, ↓h1.qm12, ↓h1.qm13, ↓h1.qm14, ↓h1.qm15, ↓h1.qm16, ↓h1.qm17, ↓h1.qm18, ↓h1.qm19, ↓h1.qm20, ↓h1.qm21, ↓h1.qm22, ↓h1.qm23, ↓h1.qm24, h1.lt, kd_0, kd_1, kd_2, kd_3, kd_r, kd_ra, kd_rb, kd_rc, kd_rd, ln_ra, ln_rb, ln_rc, ln_rd, kd_c, kd_ca, ln_ca, kd_t, kd_ta, kd_tb, kd_tc, ln_ta, ln_tb, ln_tc, ln_1, ln_2, ln_3, ln_51, kd_27, kd_28, kd_29, kd_30, kd_31, kd_32, kd_33, kd_34, kd_35, kd_36, kd_37, kd_38, kd_39, kd_40, kd_41, kd_42, kd_43, kd_44, kd_45, kd_46, kd_47, kd_48, kd_49, kd_50, kd_51, ln_28, ln_29, ln_30, ln_31, ln_32, ln_33, ln_34, ln_35, ln_36, ln_37, ln_38, ln_39, ln_40, ln_41, ln_42, ln_43, ln_44, ln_45, ln_46, ln_47, ln_48, ln_49, ln_50, inb_n, cl_n, g_n_s_i, g_n_s_l, mul_3, mul_4, mul_6, mul_61, nI_add, nI_1, nle_0, nle_1, nle_2, nle_3, nle_4, nle_5, nle_6, nle_7, nle_60, nle_61, nlt_0, nlt_1, nlt_2, nlt_3, nlt_4, nlt_5, nlt_6, nlt_7, nlt_60, nlt_61, nge_0, nge_1, nge_2, nge_3, nge_4, nge_5, nge_6, nge_7, nge_60, nge_61, ngt_0, ngt_1, ngt_2, ngt_3, ngt_4, ngt_5, ngt_6, ngt_7, ngt_60, ngt_61, neq_0, neq_1, neq_2, neq_3, neq_4, neq_5, neq_6, neq_7, neq_60, neq_61, Nat.not_lt_zero, and_self, and_true, true_and, or_true, true_or, if_true, if_false, or_self, and_false, false_and, or_false, false_or, not_true_eq_false, not_false_eq_true, ne_eq, reduceCtorEq, eq_self, bind_s, c10, c01, c20, c30, c40, cl_0, inb_0, onI_l, onI_r, onV_l, onV_r, e49, ya]
theorem st_dr21 {b : Nat} {σ : Sg} (h : SN b σ) {n i t : Nat} (hi : i < 3) (ht : t ≤ 60) : ∃ Z', b_M_merge_21 (n + 1) σ 27 (nI t) 0 (nI i) = b_M_merge_21 n Z' 27 (nI t) 0 (nI (i + 1)) ∧ SN b Z' ∧ Fm σ Z' t i ∧ Vs σ Z' i ∧ (g_i σ 42 i = 0 → g_i Z' 47 (61 * i + t) = g_i σ 47 (61 * i + t) ∧ g_i Z' 49 (61 * i + t) = g_i σ 49 (61 * i + t) ∧ g_i Z' 50 (61 * i + t) = g_i σ 50 (61 * i + t)) ∧ (g_i σ 42 i ≠ 0 → g_i Z' 47 (61 * i + t) = (if 0 ≤ g_i σ 47 (61 * i + t) then g_i σ 47 (61 * i + t) else 2) ∧ g_i Z' 49 (61 * i + t) = g_i σ 49 (61 * i + t) ∧ g_i Z' 50 (61 * i + t) = 1) := by
  have hn : ¬ 3 ≤ i := by omega
  by_cases z : g_i σ 42 i = 0
  · refine ⟨σ, ?_, h, ⟨fun _ _ => ⟨rfl, rfl⟩, fun _ _ _ => rfl⟩, fun _ _ => ⟨rfl, rfl, rfl⟩, fun _ => ⟨rfl, rfl, rfl⟩, fun y => absurd z y⟩
    simp (disch := omega) only [↓reduceIte, ↓wi_e, ↓wn_e, ↓rc_i, ↓rc_l, ↓h.q0, ↓h.q1, ↓h.q2, ↓h.qr, ↓h.qc, ↓h.qr2, ↓h.qr3, ↓h.qr4, ↓h.qr5, ↓h.qc5, ↓h.qt, ↓h.qt4, ↓h.qt5, ↓h.qt6, ↓h.qm2, ↓h.qm3, ↓h.qm4, ↓h.qm5, ↓h.qm6, ↓h.qm7, ↓h.qm8, ↓h.qm9, ↓h.qm10, ↓h.qm11, ↓h.qm12, ↓h.qm13, ↓h.qm14, ↓h.qm15, ↓h.qm16, ↓h.qm17, ↓h.qm18, ↓h.qm19, ↓h.qm20, ↓h.qm21, ↓h.qm22, ↓h.qm23, ↓h.qm24, h.lt, kd_0, kd_1, kd_2, kd_3, kd_r, kd_ra, kd_rb, kd_rc, kd_rd, ln_ra, ln_rb, ln_rc, ln_rd, kd_c, kd_ca, ln_ca, kd_t, kd_ta, kd_tb, kd_tc, ln_ta, ln_tb, ln_tc, ln_1, ln_2, ln_3, ln_51, kd_27, kd_28, kd_29, kd_30, kd_31, kd_32, kd_33, kd_34, kd_35, kd_36, kd_37, kd_38, kd_39, kd_40, kd_41, kd_42, kd_43, kd_44, kd_45, kd_46, kd_47, kd_48, kd_49, kd_50, kd_51, ln_28, ln_29, ln_30, ln_31, ln_32, ln_33, ln_34, ln_35, ln_36, ln_37, ln_38, ln_39, ln_40, ln_41, ln_42, ln_43, ln_44, ln_45, ln_46, ln_47, ln_48, ln_49, ln_50, inb_n, cl_n, g_n_s_i, g_n_s_l, mul_3, mul_4, mul_6, mul_61, nI_add, nI_1, nle_0, nle_1, nle_2, nle_3, nle_4, nle_5, nle_6, nle_7, nle_60, nle_61, nlt_0, nlt_1, nlt_2, nlt_3, nlt_4, nlt_5, nlt_6, nlt_7, nlt_60, nlt_61, nge_0, nge_1, nge_2, nge_3, nge_4, nge_5, nge_6, nge_7, nge_60, nge_61, ngt_0, ngt_1, ngt_2, ngt_3, ngt_4, ngt_5, ngt_6, ngt_7, ngt_60, ngt_61, neq_0, neq_1, neq_2, neq_3, neq_4, neq_5, neq_6, neq_7, neq_60, neq_61, Nat.not_lt_zero, and_self, and_true, true_and, or_true, true_or, if_true, if_false, or_self, and_false, false_and, or_false, false_or, not_true_eq_false, not_false_eq_true, ne_eq, reduceCtorEq, eq_self, bind_s, c10, c01, c20, c30, c40, cl_0, inb_0, onI_l, onI_r, onV_l, onV_r, b_M_merge_21, b_M_merge_99, hn, z]
  · have h1 : SN b (if 0 ≤ g_i σ 47 (61 * i + t) then σ else s_i σ 47 (61 * i + t) 2) := by
      split
      · exact h
      · exact h
    have y47 : g_i (if 0 ≤ g_i σ 47 (61 * i + t) then σ else s_i σ 47 (61 * i + t) 2) 47 (61 * i + t) = if 0 ≤ g_i σ 47 (61 * i + t) then g_i σ 47 (61 * i + t) else 2 := by
      split
      · rfl
      · rw [gi_s ⟨rfl, rfl⟩]
    have yn : ∀ a x, a ≠ 47 ∨ x ≠ 61 * i + t → g_i (if 0 ≤ g_i σ 47 (61 * i + t) then σ else s_i σ 47 (61 * i + t) 2) a x = g_i σ a x := by
      intro a x q
      split
      · rfl
      · rw [gi_n q]
    have yr : ∀ a x, g_r (if 0 ≤ g_i σ 47 (61 * i + t) then σ else s_i σ 47 (61 * i + t) 2) a x = g_r σ a x ∧ g_l (if 0 ≤ g_i σ 47 (61 * i + t) then σ else s_i σ 47 (61 * i + t) 2) a x = g_l σ a x := by
      intro a x
      split
      · exact ⟨rfl, rfl⟩
      · exact ⟨rfl, rfl⟩
    have mk := p_make h hi (t := t) (by omega) 2
    have E : b_M_merge_21 (n + 1) σ 27 (nI t) 0 (nI i) = (f_M_make σ 27 (nI t) (nI i) 2).bind (fun s7 => b_M_merge_82 (b_M_merge_21 n) s7 27 (nI t) 0 (nI i)) := by
      simp (disch := omega) only [↓reduceIte, ↓wi_e, ↓wn_e, ↓rc_i, ↓rc_l, ↓h.q0, ↓h.q1, ↓h.q2, ↓h.qr, ↓h.qc, ↓h.qr2, ↓h.qr3, ↓h.qr4, ↓h.qr5, ↓h.qc5, ↓h.qt, ↓h.qt4, ↓h.qt5, ↓h.qt6, ↓h.qm2, ↓h.qm3, ↓h.qm4, ↓h.qm5, ↓h.qm6, ↓h.qm7, ↓h.qm8, ↓h.qm9, ↓h.qm10, ↓h.qm11, ↓h.qm12, ↓h.qm13, ↓h.qm14, ↓h.qm15, ↓h.qm16, ↓h.qm17, ↓h.qm18, ↓h.qm19, ↓h.qm20, ↓h.qm21, ↓h.qm22, ↓h.qm23, ↓h.qm24, h.lt, kd_0, kd_1, kd_2, kd_3, kd_r, kd_ra, kd_rb, kd_rc, kd_rd, ln_ra, ln_rb, ln_rc, ln_rd, kd_c, kd_ca, ln_ca, kd_t, kd_ta, kd_tb, kd_tc, ln_ta, ln_tb, ln_tc, ln_1, ln_2, ln_3, ln_51, kd_27, kd_28, kd_29, kd_30, kd_31, kd_32, kd_33, kd_34, kd_35, kd_36, kd_37, kd_38, kd_39, kd_40, kd_41, kd_42, kd_43, kd_44, kd_45, kd_46, kd_47, kd_48, kd_49, kd_50, kd_51, ln_28, ln_29, ln_30, ln_31, ln_32, ln_33, ln_34, ln_35, ln_36, ln_37, ln_38, ln_39, ln_40, ln_41, ln_42, ln_43, ln_44, ln_45, ln_46, ln_47, ln_48, ln_49, ln_50, inb_n, cl_n, g_n_s_i, g_n_s_l, mul_3, mul_4, mul_6, mul_61, nI_add, nI_1, nle_0, nle_1, nle_2, nle_3, nle_4, nle_5, nle_6, nle_7, nle_60, nle_61, nlt_0, nlt_1, nlt_2, nlt_3, nlt_4, nlt_5, nlt_6, nlt_7, nlt_60, nlt_61, nge_0, nge_1, nge_2, nge_3, nge_4, nge_5, nge_6, nge_7, nge_60, nge_61, ngt_0, ngt_1, ngt_2, ngt_3, ngt_4, ngt_5, ngt_6, ngt_7, ngt_60, ngt_61, neq_0, neq_1, neq_2, neq_3, neq_4, neq_5, neq_6, neq_7, neq_60, neq_61, Nat.not_lt_zero, and_self, and_true, true_and, or_true, true_or, if_true, if_false, or_self, and_false, false_and, or_false, false_or, not_true_eq_false, not_false_eq_true, ne_eq, reduceCtorEq, eq_self, bind_s, c10, c01, c20, c30, c40, cl_0, inb_0, onI_l, onI_r, onV_l, onV_r, b_M_merge_21, hn, z, b_M_merge_53]
    rw [bq mk] at E
    generalize (if 0 ≤ g_i σ 47 (61 * i + t) then σ else s_i σ 47 (61 * i + t) 2) = Y at *
    refine ⟨s_i Y 50 (61 * i + t) 1, ?_, h1, ⟨fun a x => yr a x, fun a x q => ?_⟩, fun k hk => ⟨?_, ?_, ?_⟩, fun y => absurd y z, fun _ => ⟨?_, ?_, ?_⟩⟩
    · rw [E]
      simp (disch := omega) only [↓reduceIte, ↓wi_e, ↓wn_e, ↓rc_i, ↓rc_l, ↓h1.q0, ↓h1.q1, ↓h1.q2, ↓h1.qr, ↓h1.qc, ↓h1.qr2, ↓h1.qr3, ↓h1.qr4, ↓h1.qr5, ↓h1.qc5, ↓h1.qt, ↓h1.qt4, ↓h1.qt5, ↓h1.qt6, ↓h1.qm2, ↓h1.qm3, ↓h1.qm4, ↓h1.qm5, ↓h1.qm6, ↓h1.qm7, ↓h1.qm8, ↓h1.qm9, ↓h1.qm10, ↓h1.qm11, ↓h1.qm12, ↓h1.qm13, ↓h1.qm14, ↓h1.qm15, ↓h1.qm16, ↓h1.qm17, ↓h1.qm18, ↓h1.qm19, ↓h1.qm20, ↓h1.qm21, ↓h1.qm22, ↓h1.qm23, ↓h1.qm24, h1.lt, kd_0, kd_1, kd_2, kd_3, kd_r, kd_ra, kd_rb, kd_rc, kd_rd, ln_ra, ln_rb, ln_rc, ln_rd, kd_c, kd_ca, ln_ca, kd_t, kd_ta, kd_tb, kd_tc, ln_ta, ln_tb, ln_tc, ln_1, ln_2, ln_3, ln_51, kd_27, kd_28, kd_29, kd_30, kd_31, kd_32, kd_33, kd_34, kd_35, kd_36, kd_37, kd_38, kd_39, kd_40, kd_41, kd_42, kd_43, kd_44, kd_45, kd_46, kd_47, kd_48, kd_49, kd_50, kd_51, ln_28, ln_29, ln_30, ln_31, ln_32, ln_33, ln_34, ln_35, ln_36, ln_37, ln_38, ln_39, ln_40, ln_41, ln_42, ln_43, ln_44, ln_45, ln_46, ln_47, ln_48, ln_49, ln_50, inb_n, cl_n, g_n_s_i, g_n_s_l, mul_3, mul_4, mul_6, mul_61, nI_add, nI_1, nle_0, nle_1, nle_2, nle_3, nle_4, nle_5, nle_6, nle_7, nle_60, nle_61, nlt_0, nlt_1, nlt_2, nlt_3, nlt_4, nlt_5, nlt_6, nlt_7, nlt_60, nlt_61, nge_0, nge_1, nge_2, nge_3, nge_4, nge_5, nge_6, nge_7, nge_60, nge_61, ngt_0, ngt_1, ngt_2, ngt_3, ngt_4, ngt_5, ngt_6, ngt_7, ngt_60, ngt_61, neq_0, neq_1, neq_2, neq_3, neq_4, neq_5, neq_6, neq_7, neq_60, neq_61, Nat.not_lt_zero, and_self, and_true, true_and, or_true, true_or, if_true, if_false, or_self, and_false, false_and, or_false, false_or, not_true_eq_false, not_false_eq_true, ne_eq, reduceCtorEq, eq_self, bind_s, c10, c01, c20, c30, c40, cl_0, inb_0, onI_l, onI_r, onV_l, onV_r, b_M_merge_82, b_M_merge_99]
    · rw [gi_n (by omega), yn _ _ (by omega)]
    · rw [gi_n (by omega), yn _ _ (by omega)]
    · rw [gi_n (by omega), yn _ _ (by omega)]
    · rw [gi_n (by omega), yn _ _ (by omega)]
    · rw [gi_n (by omega), y47]
    · rw [gi_n (by omega), yn _ _ (by omega)]
    · rw [gi_s ⟨rfl, rfl⟩]
theorem en_21 {σ : Sg} {n a : Nat} {x y : Int32} : b_M_merge_21 (n + 1) σ a x y (nI (2 + 1)) = some σ := by
  simp only [b_M_merge_21]
  rw [if_pos (by decide)]
/-- the whole merging of one number -/
def Gm (Z Z' : Sg) (t : Nat) : Prop := (∀ a x, g_r Z' a x = g_r Z a x ∧ g_l Z' a x = g_l Z a x) ∧ ∀ a x, (a < 44 ∨ 50 < a) ∨ (46 < a ∧ a < 51 ∧ x ≠ t ∧ x ≠ 61 + t ∧ x ≠ 122 + t) → g_i Z' a x = g_i Z a x
theorem p_mmerge {b : Nat} {σ : Sg} (h : SN b σ) {t w m c c' : Nat} {V : Nat → Int32} (ht : t ≤ 60) {u v s f a d : Nat → Int32} (H : HM σ t u v s f a d) (hf : ∀ i, i < 3 → f i ≠ 0 → 0 ≤ s i) (ha : ∀ i, i < 3 → a i = 0 ∨ a i = 1) (hW : Lw σ t w c V) (hM : Lr σ t m c') (hk : KN u s ∨ HA u a ∨ HA u d) (hk' : KN u s) : ∃ Z', f_M_merge σ 27 (nI t) (nI (uc u)) = some Z' ∧ SN b Z' ∧ Gm σ Z' t ∧ (∀ i, i < 3 → Oc u v s f a d (nvF u v) i (g_i Z' 47 (61 * i + t)) (g_i Z' 48 (61 * i + t)) (g_i Z' 49 (61 * i + t)) (g_i Z' 50 (61 * i + t))) ∧ ∀ i, i < 3 → (u i = 0 ∨ ¬ HA u a → Vs σ Z' i) ∧ (u i ≠ 0 → HA u a → Vr σ Z' w m (g_i σ 28 t) V i) := by
  obtain ⟨w1, e1, a1, a2⟩ := p_appSome h (t := t) (by omega) H
  obtain ⟨w2, e2, b1, b2⟩ := p_drpSome h (t := t) (by omega) H
  by_cases z1 : HA u a
  · have q := a1 z1
    subst q
    obtain ⟨Z1, f1, s1, F1, A1, B1⟩ := st_ap21 h (n := 998 + 1) (i := 0) (t := t) (w := w) (m := m) (by omega) ht hW hM
    obtain ⟨Z2, f2, s2, F2, A2, B2⟩ := st_ap21 s1 (n := 997 + 1) (i := 1) (t := t) (w := w) (m := m) (by omega) ht (hW.cg (fun a x h1 h2 => F1.2 a x (by omega))) (hM.cg (fun a x h1 h2 => F1.2 a x (by omega)))
    obtain ⟨Z3, f3, s3, F3, A3, B3⟩ := st_ap21 s2 (n := 996 + 1) (i := 2) (t := t) (w := w) (m := m) (by omega) ht (hW.cg (fun a x h1 h2 => by rw [F2.2 a x (by omega), F1.2 a x (by omega)])) (hM.cg (fun a x h1 h2 => by rw [F2.2 a x (by omega), F1.2 a x (by omega)]))
    have T : f_M_merge σ 27 (nI t) (nI (uc u)) = some Z3 := by
      simp (disch := omega) only [↓reduceIte, ↓wi_e, ↓wn_e, ↓rc_i, ↓rc_l, ↓h.q0, ↓h.q1, ↓h.q2, ↓h.qr, ↓h.qc, ↓h.qr2, ↓h.qr3, ↓h.qr4, ↓h.qr5, ↓h.qc5, ↓h.qt, ↓h.qt4, ↓h.qt5, ↓h.qt6, ↓h.qm2, ↓h.qm3, ↓h.qm4, ↓h.qm5, ↓h.qm6, ↓h.qm7, ↓h.qm8, ↓h.qm9, ↓h.qm10, ↓h.qm11, ↓h.qm12, ↓h.qm13, ↓h.qm14, ↓h.qm15, ↓h.qm16, ↓h.qm17, ↓h.qm18, ↓h.qm19, ↓h.qm20, ↓h.qm21, ↓h.qm22, ↓h.qm23, ↓h.qm24, h.lt, kd_0, kd_1, kd_2, kd_3, kd_r, kd_ra, kd_rb, kd_rc, kd_rd, ln_ra, ln_rb, ln_rc, ln_rd, kd_c, kd_ca, ln_ca, kd_t, kd_ta, kd_tb, kd_tc, ln_ta, ln_tb, ln_tc, ln_1, ln_2, ln_3, ln_51, kd_27, kd_28, kd_29, kd_30, kd_31, kd_32, kd_33, kd_34, kd_35, kd_36, kd_37, kd_38, kd_39, kd_40, kd_41, kd_42, kd_43, kd_44, kd_45, kd_46, kd_47, kd_48, kd_49, kd_50, kd_51, ln_28, ln_29, ln_30, ln_31, ln_32, ln_33, ln_34, ln_35, ln_36, ln_37, ln_38, ln_39, ln_40, ln_41, ln_42, ln_43, ln_44, ln_45, ln_46, ln_47, ln_48, ln_49, ln_50, inb_n, cl_n, g_n_s_i, g_n_s_l, mul_3, mul_4, mul_6, mul_61, nI_add, nI_1, nle_0, nle_1, nle_2, nle_3, nle_4, nle_5, nle_6, nle_7, nle_60, nle_61, nlt_0, nlt_1, nlt_2, nlt_3, nlt_4, nlt_5, nlt_6, nlt_7, nlt_60, nlt_61, nge_0, nge_1, nge_2, nge_3, nge_4, nge_5, nge_6, nge_7, nge_60, nge_61, ngt_0, ngt_1, ngt_2, ngt_3, ngt_4, ngt_5, ngt_6, ngt_7, ngt_60, ngt_61, neq_0, neq_1, neq_2, neq_3, neq_4, neq_5, neq_6, neq_7, neq_60, neq_61, Nat.not_lt_zero, and_self, and_true, true_and, or_true, true_or, if_true, if_false, or_self, and_false, false_and, or_false, false_or, not_true_eq_false, not_false_eq_true, ne_eq, reduceCtorEq, eq_self, bind_s, c10, c01, c20, c30, c40, cl_0, inb_0, onI_l, onI_r, onV_l, onV_r, f_M_merge, ↓bq e1, b_M_merge_18]
      exact f1.trans (f2.trans (f3.trans en_21))
    -- what happened to replica i
    have per : ∀ i, i < 3 → (u i = 0 → g_i Z3 47 (61 * i + t) = s i ∧ g_i Z3 49 (61 * i + t) = a i ∧ g_i Z3 50 (61 * i + t) = d i ∧ Vs σ Z3 i) ∧ (u i ≠ 0 → g_i Z3 47 (61 * i + t) = (if 0 ≤ s i then s i else 0) ∧ g_i Z3 49 (61 * i + t) = 1 ∧ g_i Z3 50 (61 * i + t) = d i ∧ Vr σ Z3 w m (g_i σ 28 t) V i) := by
      intro i hi
      obtain ⟨h1, h2, h3, h4, h5, h6⟩ := H i hi
      have hai := ha i hi
      obtain rfl | rfl | rfl : i = 0 ∨ i = 1 ∨ i = 2 := by omega
      · rw [h1, h3, h5, h6] at A1 B1
        have k47 : ∀ x, x = 47 ∨ x = 49 ∨ x = 50 → g_i Z3 x (61 * 0 + t) = g_i Z1 x (61 * 0 + t) := fun x hx => by rw [F3.2 _ _ (by omega), F2.2 _ _ (by omega)]
        have k44 : ∀ x k, k < 6 → g_i Z3 x (6 * 0 + k) = g_i Z1 x (6 * 0 + k) ∨ x = 47 ∨ x = 49 ∨ x = 50 := fun x k hk => by
          by_cases q : x = 47 ∨ x = 49 ∨ x = 50
          · exact Or.inr q
          · left
            rw [F3.2 _ _ (by omega), F2.2 _ _ (by omega)]
        have g44 : ∀ k, k < 6 → g_i Z3 44 (6 * 0 + k) = g_i Z1 44 (6 * 0 + k) ∧ g_i Z3 45 (6 * 0 + k) = g_i Z1 45 (6 * 0 + k) ∧ g_i Z3 46 (6 * 0 + k) = g_i Z1 46 (6 * 0 + k) := fun k hk => ⟨(k44 44 k hk).resolve_right (by omega), (k44 45 k hk).resolve_right (by omega), (k44 46 k hk).resolve_right (by omega)⟩
        rw [k47 47 (by omega), k47 49 (by omega), k47 50 (by omega)]
        refine ⟨fun y => ⟨(A1 y).1, (A1 y).2.1, (A1 y).2.2.1, fun k hk => ?_⟩, fun y => ⟨(B1 y hai).1, (B1 y hai).2.1, (B1 y hai).2.2.1, fun k hk => ?_⟩⟩
        · rw [(g44 k hk).1, (g44 k hk).2.1, (g44 k hk).2.2]
          exact (A1 y).2.2.2 k hk
        · rw [(g44 k hk).1, (g44 k hk).2.1, (g44 k hk).2.2]
          exact (B1 y hai).2.2.2 k hk
      · rw [F1.2 42 _ (by omega), h1, F1.2 47 _ (by omega), h3, F1.2 49 _ (by omega), h5, F1.2 50 _ (by omega), h6, F1.2 28 _ (by omega)] at B2
        rw [F1.2 42 _ (by omega), h1, F1.2 47 _ (by omega), h3, F1.2 49 _ (by omega), h5, F1.2 50 _ (by omega), h6] at A2
        have k47 : ∀ x, x = 47 ∨ x = 49 ∨ x = 50 → g_i Z3 x (61 * 1 + t) = g_i Z2 x (61 * 1 + t) := fun x hx => by rw [F3.2 _ _ (by omega)]
        have g44 : ∀ k, k < 6 → g_i Z3 44 (6 * 1 + k) = g_i Z2 44 (6 * 1 + k) ∧ g_i Z3 45 (6 * 1 + k) = g_i Z2 45 (6 * 1 + k) ∧ g_i Z3 46 (6 * 1 + k) = g_i Z2 46 (6 * 1 + k) := fun k hk => ⟨by rw [F3.2 _ _ (by omega)], by rw [F3.2 _ _ (by omega)], by rw [F3.2 _ _ (by omega)]⟩
        have o44 : ∀ k, k < 6 → g_i Z1 44 (6 * 1 + k) = g_i σ 44 (6 * 1 + k) ∧ g_i Z1 45 (6 * 1 + k) = g_i σ 45 (6 * 1 + k) ∧ g_i Z1 46 (6 * 1 + k) = g_i σ 46 (6 * 1 + k) := fun k hk => ⟨by rw [F1.2 _ _ (by omega)], by rw [F1.2 _ _ (by omega)], by rw [F1.2 _ _ (by omega)]⟩
        rw [k47 47 (by omega), k47 49 (by omega), k47 50 (by omega)]
        refine ⟨fun y => ⟨(A2 y).1, (A2 y).2.1, (A2 y).2.2.1, fun k hk => ?_⟩, fun y => ⟨(B2 y hai).1, (B2 y hai).2.1, (B2 y hai).2.2.1, fun k hk => ?_⟩⟩
        · rw [(g44 k hk).1, (g44 k hk).2.1, (g44 k hk).2.2, ← (o44 k hk).1, ← (o44 k hk).2.1, ← (o44 k hk).2.2]
          exact (A2 y).2.2.2 k hk
        · rw [(g44 k hk).1, (g44 k hk).2.1, (g44 k hk).2.2, ← (o44 k hk).1, ← (o44 k hk).2.1, ← (o44 k hk).2.2]
          exact (B2 y hai).2.2.2 k hk
      · have F12 : ∀ a x, ((a ≠ 44 ∧ a ≠ 45 ∧ a ≠ 46) ∨ 12 ≤ x) ∧ ((a ≠ 47 ∧ a ≠ 49 ∧ a ≠ 50) ∨ x = 61 * 2 + t) → g_i Z2 a x = g_i σ a x := fun a x q => by rw [F2.2 _ _ (by omega), F1.2 _ _ (by omega)]
        rw [F12 42 _ (by omega), h1, F12 47 _ (by omega), h3, F12 49 _ (by omega), h5, F12 50 _ (by omega), h6, F12 28 _ (by omega)] at B3
        rw [F12 42 _ (by omega), h1, F12 47 _ (by omega), h3, F12 49 _ (by omega), h5, F12 50 _ (by omega), h6] at A3
        have o44 : ∀ k, k < 6 → g_i Z2 44 (6 * 2 + k) = g_i σ 44 (6 * 2 + k) ∧ g_i Z2 45 (6 * 2 + k) = g_i σ 45 (6 * 2 + k) ∧ g_i Z2 46 (6 * 2 + k) = g_i σ 46 (6 * 2 + k) := fun k hk => ⟨F12 _ _ (by omega), F12 _ _ (by omega), F12 _ _ (by omega)⟩
        refine ⟨fun y => ⟨(A3 y).1, (A3 y).2.1, (A3 y).2.2.1, fun k hk => ?_⟩, fun y => ⟨(B3 y hai).1, (B3 y hai).2.1, (B3 y hai).2.2.1, fun k hk => ?_⟩⟩
        · rw [← (o44 k hk).1, ← (o44 k hk).2.1, ← (o44 k hk).2.2]
          exact (A3 y).2.2.2 k hk
        · rw [← (o44 k hk).1, ← (o44 k hk).2.1, ← (o44 k hk).2.2]
          exact (B3 y hai).2.2.2 k hk
    refine ⟨Z3, T, s3, ⟨fun a x => ?_, fun a x q => ?_⟩, fun i hi => ?_, fun i hi => ⟨fun y => ((per i hi).1 (y.resolve_right (fun y => y z1))).2.2.2, fun y _ => ((per i hi).2 y).2.2.2⟩⟩
    · rw [(F3.1 a x).1, (F3.1 a x).2, (F2.1 a x).1, (F2.1 a x).2]
      exact F1.1 a x
    · rw [F3.2 _ _ (by omega), F2.2 _ _ (by omega), F1.2 _ _ (by omega)]
    · have f48 : g_i Z3 48 (61 * i + t) = f i := by
        rw [F3.2 _ _ (by omega), F2.2 _ _ (by omega), F1.2 _ _ (by omega)]
        exact (H i hi).2.2.2.1
      obtain ⟨p1, p2⟩ := per i hi
      refine ⟨fun y => ⟨(p1 y).1, f48, (p1 y).2.1, (p1 y).2.2.1⟩, fun y _ => ⟨(p2 y).1, f48, (p2 y).2.1, (p2 y).2.2.1⟩, fun _ y => absurd z1 y, fun _ y => absurd z1 y, fun _ y => absurd z1 y⟩
  have q := a2 z1
  subst q
  by_cases z2 : HA u d
  · have q := b1 z2
    subst q
    obtain ⟨Z1, f1, s1, F1, W1, A1, B1⟩ := st_dr21 h (n := 998 + 1) (i := 0) (t := t) (by omega) ht
    obtain ⟨Z2, f2, s2, F2, W2, A2, B2⟩ := st_dr21 s1 (n := 997 + 1) (i := 1) (t := t) (by omega) ht
    obtain ⟨Z3, f3, s3, F3, W3, A3, B3⟩ := st_dr21 s2 (n := 996 + 1) (i := 2) (t := t) (by omega) ht
    have T : f_M_merge σ 27 (nI t) (nI (uc u)) = some Z3 := by
      simp (disch := omega) only [↓reduceIte, ↓wi_e, ↓wn_e, ↓rc_i, ↓rc_l, ↓h.q0, ↓h.q1, ↓h.q2, ↓h.qr, ↓h.qc, ↓h.qr2, ↓h.qr3, ↓h.qr4, ↓h.qr5, ↓h.qc5, ↓h.qt, ↓h.qt4, ↓h.qt5, ↓h.qt6, ↓h.qm2, ↓h.qm3, ↓h.qm4, ↓h.qm5, ↓h.qm6, ↓h.qm7, ↓h.qm8, ↓h.qm9, ↓h.qm10, ↓h.qm11, ↓h.qm12, ↓h.qm13, ↓h.qm14, ↓h.qm15, ↓h.qm16, ↓h.qm17, ↓h.qm18, ↓h.qm19, ↓h.qm20, ↓h.qm21, ↓h.qm22, ↓h.qm23, ↓h.qm24, h.lt, kd_0, kd_1, kd_2, kd_3, kd_r, kd_ra, kd_rb, kd_rc, kd_rd, ln_ra, ln_rb, ln_rc, ln_rd, kd_c, kd_ca, ln_ca, kd_t, kd_ta, kd_tb, kd_tc, ln_ta, ln_tb, ln_tc, ln_1, ln_2, ln_3, ln_51, kd_27, kd_28, kd_29, kd_30, kd_31, kd_32, kd_33, kd_34, kd_35, kd_36, kd_37, kd_38, kd_39, kd_40, kd_41, kd_42, kd_43, kd_44, kd_45, kd_46, kd_47, kd_48, kd_49, kd_50, kd_51, ln_28, ln_29, ln_30, ln_31, ln_32, ln_33, ln_34, ln_35, ln_36, ln_37, ln_38, ln_39, ln_40, ln_41, ln_42, ln_43, ln_44, ln_45, ln_46, ln_47, ln_48, ln_49, ln_50, inb_n, cl_n, g_n_s_i, g_n_s_l, mul_3, mul_4, mul_6, mul_61, nI_add, nI_1, nle_0, nle_1, nle_2, nle_3, nle_4, nle_5, nle_6, nle_7, nle_60, nle_61, nlt_0, nlt_1, nlt_2, nlt_3, nlt_4, nlt_5, nlt_6, nlt_7, nlt_60, nlt_61, nge_0, nge_1, nge_2, nge_3, nge_4, nge_5, nge_6, nge_7, nge_60, nge_61, ngt_0, ngt_1, ngt_2, ngt_3, ngt_4, ngt_5, ngt_6, ngt_7, ngt_60, ngt_61, neq_0, neq_1, neq_2, neq_3, neq_4, neq_5, neq_6, neq_7, neq_60, neq_61, Nat.not_lt_zero, and_self, and_true, true_and, or_true, true_or, if_true, if_false, or_self, and_false, false_and, or_false, false_or, not_true_eq_false, not_false_eq_true, ne_eq, reduceCtorEq, eq_self, bind_s, c10, c01, c20, c30, c40, cl_0, inb_0, onI_l, onI_r, onV_l, onV_r, f_M_merge, ↓bq e1, ↓bq e2, b_M_merge_18]
      exact f1.trans (f2.trans (f3.trans en_21))
    have per : ∀ i, i < 3 → (u i = 0 → g_i Z3 47 (61 * i + t) = s i ∧ g_i Z3 49 (61 * i + t) = a i ∧ g_i Z3 50 (61 * i + t) = d i) ∧ (u i ≠ 0 → g_i Z3 47 (61 * i + t) = (if 0 ≤ s i then s i else 2) ∧ g_i Z3 49 (61 * i + t) = a i ∧ g_i Z3 50 (61 * i + t) = 1) ∧ Vs σ Z3 i := by
      intro i hi
      obtain ⟨h1, h2, h3, h4, h5, h6⟩ := H i hi
      obtain rfl | rfl | rfl : i = 0 ∨ i = 1 ∨ i = 2 := by omega
      · rw [h1, h3, h5, h6] at A1
        rw [h1, h3, h5] at B1
        have k47 : ∀ x, x = 47 ∨ x = 49 ∨ x = 50 → g_i Z3 x (61 * 0 + t) = g_i Z1 x (61 * 0 + t) := fun x hx => by rw [F3.2 _ _ (by omega), F2.2 _ _ (by omega)]
        rw [k47 47 (by omega), k47 49 (by omega), k47 50 (by omega)]
        refine ⟨A1, B1, fun k hk => ?_⟩
        rw [F3.2 _ _ (by omega), F2.2 _ _ (by omega), F3.2 _ _ (by omega), F2.2 _ _ (by omega), F3.2 _ _ (by omega), F2.2 _ _ (by omega)]
        exact W1 k hk
      · rw [F1.2 42 _ (by omega), h1, F1.2 47 _ (by omega), h3, F1.2 49 _ (by omega), h5] at B2
        rw [F1.2 42 _ (by omega), h1, F1.2 47 _ (by omega), h3, F1.2 49 _ (by omega), h5, F1.2 50 _ (by omega), h6] at A2
        have k47 : ∀ x, x = 47 ∨ x = 49 ∨ x = 50 → g_i Z3 x (61 * 1 + t) = g_i Z2 x (61 * 1 + t) := fun x hx => by rw [F3.2 _ _ (by omega)]
        rw [k47 47 (by omega), k47 49 (by omega), k47 50 (by omega)]
        refine ⟨A2, B2, fun k hk => ?_⟩
        have := W2 k hk
        rw [F1.2 44 _ (by omega), F1.2 45 _ (by omega), F1.2 46 _ (by omega)] at this
        rw [F3.2 _ _ (by omega), F3.2 _ _ (by omega), F3.2 _ _ (by omega)]
        exact this
      · have F12 : ∀ a x, ((a ≠ 44 ∧ a ≠ 45 ∧ a ≠ 46) ∨ 12 ≤ x) ∧ ((a ≠ 47 ∧ a ≠ 49 ∧ a ≠ 50) ∨ x = 61 * 2 + t) → g_i Z2 a x = g_i σ a x := fun a x q => by rw [F2.2 _ _ (by omega), F1.2 _ _ (by omega)]
        rw [F12 42 _ (by omega), h1, F12 47 _ (by omega), h3, F12 49 _ (by omega), h5] at B3
        rw [F12 42 _ (by omega), h1, F12 47 _ (by omega), h3, F12 49 _ (by omega), h5, F12 50 _ (by omega), h6] at A3
        refine ⟨A3, B3, fun k hk => ?_⟩
        have := W3 k hk
        rw [F12 44 _ (by omega), F12 45 _ (by omega), F12 46 _ (by omega)] at this
        exact this
    refine ⟨Z3, T, s3, ⟨fun a x => ?_, fun a x q => ?_⟩, fun i hi => ?_, fun i hi => ⟨fun _ => (per i hi).2.2, fun _ y => absurd y z1⟩⟩
    · rw [(F3.1 a x).1, (F3.1 a x).2, (F2.1 a x).1, (F2.1 a x).2]
      exact F1.1 a x
    · rw [F3.2 _ _ (by omega), F2.2 _ _ (by omega), F1.2 _ _ (by omega)]
    · have f48 : g_i Z3 48 (61 * i + t) = f i := by
        rw [F3.2 _ _ (by omega), F2.2 _ _ (by omega), F1.2 _ _ (by omega)]
        exact (H i hi).2.2.2.1
      obtain ⟨p1, p2, _⟩ := per i hi
      refine ⟨fun y => ⟨(p1 y).1, f48, (p1 y).2.1, (p1 y).2.2⟩, fun _ y => absurd y z1, fun y _ _ => ⟨(p2 y).1, f48, (p2 y).2.1, (p2 y).2.2⟩, fun _ _ y => absurd z2 y, fun _ _ y => absurd z2 y⟩
  have q := b2 z2
  subst q
  refine ⟨S3 (mrF u v s f (nvF u v)) t σ, ?_, S3_s h, ⟨S3_r, fun a x q => S3_n (by omega)⟩, fun i hi => ?_, fun i hi => ⟨fun _ k hk => ⟨S3_n (by omega), S3_n (by omega), S3_n (by omega)⟩, fun _ y => absurd y z1⟩⟩
  · simp (disch := omega) only [↓reduceIte, ↓wi_e, ↓wn_e, ↓rc_i, ↓rc_l, ↓h.q0, ↓h.q1, ↓h.q2, ↓h.qr, ↓h.qc, ↓h.qr2, ↓h.qr3, ↓h.qr4, ↓h.qr5, ↓h.qc5, ↓h.qt, ↓h.qt4, ↓h.qt5, ↓h.qt6, ↓h.qm2, ↓h.qm3, ↓h.qm4, ↓h.qm5, ↓h.qm6, ↓h.qm7, ↓h.qm8, ↓h.qm9, ↓h.qm10, ↓h.qm11, ↓h.qm12, ↓h.qm13, ↓h.qm14, ↓h.qm15, ↓h.qm16, ↓h.qm17, ↓h.qm18, ↓h.qm19, ↓h.qm20, ↓h.qm21, ↓h.qm22, ↓h.qm23, ↓h.qm24, h.lt, kd_0, kd_1, kd_2, kd_3, kd_r, kd_ra, kd_rb, kd_rc, kd_rd, ln_ra, ln_rb, ln_rc, ln_rd, kd_c, kd_ca, ln_ca, kd_t, kd_ta, kd_tb, kd_tc, ln_ta, ln_tb, ln_tc, ln_1, ln_2, ln_3, ln_51, kd_27, kd_28, kd_29, kd_30, kd_31, kd_32, kd_33, kd_34, kd_35, kd_36, kd_37, kd_38, kd_39, kd_40, kd_41, kd_42, kd_43, kd_44, kd_45, kd_46, kd_47, kd_48, kd_49, kd_50, kd_51, ln_28, ln_29, ln_30, ln_31, ln_32, ln_33, ln_34, ln_35, ln_36, ln_37, ln_38, ln_39, ln_40, ln_41, ln_42, ln_43, ln_44, ln_45, ln_46, ln_47, ln_48, ln_49, ln_50, inb_n, cl_n, g_n_s_i, g_n_s_l, mul_3, mul_4, mul_6, mul_61, nI_add, nI_1, nle_0, nle_1, nle_2, nle_3, nle_4, nle_5, nle_6, nle_7, nle_60, nle_61, nlt_0, nlt_1, nlt_2, nlt_3, nlt_4, nlt_5, nlt_6, nlt_7, nlt_60, nlt_61, nge_0, nge_1, nge_2, nge_3, nge_4, nge_5, nge_6, nge_7, nge_60, nge_61, ngt_0, ngt_1, ngt_2, ngt_3, ngt_4, ngt_5, ngt_6, ngt_7, ngt_60, ngt_61, neq_0, neq_1, neq_2, neq_3, neq_4, neq_5, neq_6, neq_7, neq_60, neq_61, Nat.not_lt_zero, and_self, and_true, true_and, or_true, true_or, if_true, if_false, or_self, and_false, false_and, or_false, false_or, not_true_eq_false, not_false_eq_true, ne_eq, reduceCtorEq, eq_self, bind_s, c10, c01, c20, c30, c40, cl_0, inb_0, onI_l, onI_r, onV_l, onV_r, f_M_merge, ↓bq e1, ↓bq e2, ↓bq (p_fa h (t := t) (by omega) H)]
    rw [m116 h (by omega) H hf, p_se h (by omega)]
    rfl
  · obtain ⟨h1, h2, h3, h4, h5, h6⟩ := H i hi
    rw [(S3_v hi).1, (S3_v hi).2, h1, h3, h4, S3_n (by omega), S3_n (by omega), h5, h6]
    refine ⟨fun y => ?_, fun _ y => absurd y z1, fun _ _ y => absurd y z2, fun y _ _ _ => ?_, fun _ _ _ y => absurd hk' y⟩
    · rw [if_pos y, if_pos y]
      exact ⟨rfl, rfl, rfl, rfl⟩
    · rw [if_neg y, if_neg y]
      exact ⟨rfl, rfl, rfl, rfl⟩

