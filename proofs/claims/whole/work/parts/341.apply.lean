/-! apply of the reference. -/
/-- the reference's list of written keys at t: key k with value V k iff bit k of w -/
def Lw (σ : Sg) (t w n : Nat) (V : Nat → Int32) : Prop := n ≤ 4 ∧ g_i σ 33 t = nI n ∧ (∀ j, j < n → ∃ k, k < 6 ∧ w.testBit k = true ∧ g_i σ 34 (4 * t + j) = nI k ∧ g_i σ 35 (4 * t + j) = V k) ∧ (∀ k, k < 6 → w.testBit k = true → ∃ j, j < n ∧ g_i σ 34 (4 * t + j) = nI k)
def Lr (σ : Sg) (t m n : Nat) : Prop := n ≤ 4 ∧ g_i σ 29 t = nI n ∧ (∀ j, j < n → ∃ k, k < 6 ∧ m.testBit k = true ∧ g_i σ 30 (4 * t + j) = nI k) ∧ (∀ k, k < 6 → m.testBit k = true → ∃ j, j < n ∧ g_i σ 30 (4 * t + j) = nI k)
theorem Wl.lw {σ : Sg} {t m : Nat} (h : Wl σ t m) : Lw σ t m (pc m) (g_i σ (51 + 4 * t)) := ⟨h.2.1, h.2.2.2.1, h.2.2.2.2.1, h.2.2.2.2.2.1⟩
theorem Rl.lr {σ : Sg} {t m : Nat} (h : Rl σ t m) : Lr σ t m (pc m) := ⟨h.2.1, h.2.2.2.1, fun j hj => let ⟨k, a, b, c, _⟩ := h.2.2.2.2.1 j hj; ⟨k, a, b, c⟩, h.2.2.2.2.2⟩
theorem st_ap {b : Nat} {σ : Sg} (h : SN b σ) {n i t j k c : Nat} (hi : i < 3) (ht : t ≤ 60) (hc : c ≤ 4) (hj : j < c) (hk : k < 6) (ec : g_i σ 33 t = nI c) (ek : g_i σ 34 (4 * t + j) = nI k) : b_M_apply_16 (n + 1) σ 27 (nI t) (nI i) (nI (4 * t + j)) = b_M_apply_16 n (if g_i σ 44 (6 * i + k) < g_i σ 28 t then s_i (s_i σ 44 (6 * i + k) (g_i σ 28 t)) 45 (6 * i + k) (g_i σ 35 (4 * t + j)) else σ) 27 (nI t) (nI i) (nI (4 * t + (j + 1))) := by
  have hn : ¬ 4 * t + c ≤ 4 * t + j := by omega
  by_cases q : g_i σ 44 (6 * i + k) < g_i σ 28 t
  · rw [if_pos q]
    simp (disch := omega) only [↓reduceIte, ↓wi_e, ↓wn_e, ↓rc_i, ↓rc_l, ↓h.q0, ↓h.q1, ↓h.q2, ↓h.qr, ↓h.qc, ↓h.qr2, ↓h.qr3, ↓h.qr4, ↓h.qr5, ↓h.qc5, ↓h.qt, ↓h.qt4, ↓h.qt5, ↓h.qt6, ↓h.qm2, ↓h.qm3, ↓h.qm4, ↓h.qm5, ↓h.qm6, ↓h.qm7, ↓h.qm8, ↓h.qm9, ↓h.qm10, ↓h.qm11, ↓h.qm12, ↓h.qm13, ↓h.qm14, ↓h.qm15, ↓h.qm16, ↓h.qm17, ↓h.qm18, ↓h.qm19, ↓h.qm20, ↓h.qm21, ↓h.qm22, ↓h.qm23, ↓h.qm24, h.lt, kd_0, kd_1, kd_2, kd_3, kd_r, kd_ra, kd_rb, kd_rc, kd_rd, ln_ra, ln_rb, ln_rc, ln_rd, kd_c, kd_ca, ln_ca, kd_t, kd_ta, kd_tb, kd_tc, ln_ta, ln_tb, ln_tc, ln_1, ln_2, ln_3, ln_51, kd_27, kd_28, kd_29, kd_30, kd_31, kd_32, kd_33, kd_34, kd_35, kd_36, kd_37, kd_38, kd_39, kd_40, kd_41, kd_42, kd_43, kd_44, kd_45, kd_46, kd_47, kd_48, kd_49, kd_50, kd_51, ln_28, ln_29, ln_30, ln_31, ln_32, ln_33, ln_34, ln_35, ln_36, ln_37, ln_38, ln_39, ln_40, ln_41, ln_42, ln_43, ln_44, ln_45, ln_46, ln_47, ln_48, ln_49, ln_50, inb_n, cl_n, g_n_s_i, g_n_s_l, mul_3, mul_4, mul_6, mul_61, nI_add, nI_1, nle_0, nle_1, nle_2, nle_3, nle_4, nle_5, nle_6, nle_7, nle_60, nle_61, nlt_0, nlt_1, nlt_2, nlt_3, nlt_4, nlt_5, nlt_6, nlt_7, nlt_60, nlt_61, nge_0, nge_1, nge_2, nge_3, nge_4, nge_5, nge_6, nge_7, nge_60, nge_61, ngt_0, ngt_1, ngt_2, ngt_3, ngt_4, ngt_5, ngt_6, ngt_7, ngt_60, ngt_61, neq_0, neq_1, neq_2, neq_3, neq_4, neq_5, neq_6, neq_7, neq_60, neq_61, Nat.not_lt_zero, and_self, and_true, true_and, or_true, true_or, if_true, if_false, or_self, and_false, false_and, or_false, false_or, not_true_eq_false, not_false_eq_true, ne_eq, reduceCtorEq, eq_self, bind_s, c10, c01, c20, c30, c40, cl_0, inb_0, onI_l, onI_r, onV_l, onV_r, b_M_apply_16, b_M_apply_88, ec, ek, nle, hn, q, gi_n, Nat.add_assoc]
  · rw [if_neg q]
    simp (disch := omega) only [↓reduceIte, ↓wi_e, ↓wn_e, ↓rc_i, ↓rc_l, ↓h.q0, ↓h.q1, ↓h.q2, ↓h.qr, ↓h.qc, ↓h.qr2, ↓h.qr3, ↓h.qr4, ↓h.qr5, ↓h.qc5, ↓h.qt, ↓h.qt4, ↓h.qt5, ↓h.qt6, ↓h.qm2, ↓h.qm3, ↓h.qm4, ↓h.qm5, ↓h.qm6, ↓h.qm7, ↓h.qm8, ↓h.qm9, ↓h.qm10, ↓h.qm11, ↓h.qm12, ↓h.qm13, ↓h.qm14, ↓h.qm15, ↓h.qm16, ↓h.qm17, ↓h.qm18, ↓h.qm19, ↓h.qm20, ↓h.qm21, ↓h.qm22, ↓h.qm23, ↓h.qm24, h.lt, kd_0, kd_1, kd_2, kd_3, kd_r, kd_ra, kd_rb, kd_rc, kd_rd, ln_ra, ln_rb, ln_rc, ln_rd, kd_c, kd_ca, ln_ca, kd_t, kd_ta, kd_tb, kd_tc, ln_ta, ln_tb, ln_tc, ln_1, ln_2, ln_3, ln_51, kd_27, kd_28, kd_29, kd_30, kd_31, kd_32, kd_33, kd_34, kd_35, kd_36, kd_37, kd_38, kd_39, kd_40, kd_41, kd_42, kd_43, kd_44, kd_45, kd_46, kd_47, kd_48, kd_49, kd_50, kd_51, ln_28, ln_29, ln_30, ln_31, ln_32, ln_33, ln_34, ln_35, ln_36, ln_37, ln_38, ln_39, ln_40, ln_41, ln_42, ln_43, ln_44, ln_45, ln_46, ln_47, ln_48, ln_49, ln_50, inb_n, cl_n, g_n_s_i, g_n_s_l, mul_3, mul_4, mul_6, mul_61, nI_add, nI_1, nle_0, nle_1, nle_2, nle_3, nle_4, nle_5, nle_6, nle_7, nle_60, nle_61, nlt_0, nlt_1, nlt_2, nlt_3, nlt_4, nlt_5, nlt_6, nlt_7, nlt_60, nlt_61, nge_0, nge_1, nge_2, nge_3, nge_4, nge_5, nge_6, nge_7, nge_60, nge_61, ngt_0, ngt_1, ngt_2, ngt_3, ngt_4, ngt_5, ngt_6, ngt_7, ngt_60, ngt_61, neq_0, neq_1, neq_2, neq_3, neq_4, neq_5, neq_6, neq_7, neq_60, neq_61, Nat.not_lt_zero, and_self, and_true, true_and, or_true, true_or, if_true, if_false, or_self, and_false, false_and, or_false, false_or, not_true_eq_false, not_false_eq_true, ne_eq, reduceCtorEq, eq_self, bind_s, c10, c01, c20, c30, c40, cl_0, inb_0, onI_l, onI_r, onV_l, onV_r, b_M_apply_16, b_M_apply_88, ec, ek, nle, hn, q, Nat.add_assoc]
theorem en_ap {b : Nat} {σ : Sg} (h : SN b σ) {n i t c : Nat} (ht : t ≤ 60) (hc : c ≤ 4) (ec : g_i σ 33 t = nI c) : b_M_apply_16 (n + 1) σ 27 (nI t) (nI i) (nI (4 * t + c)) = b_M_apply_98 1000 σ 27 (nI t) (nI i) (nI (4 * t)) := by
  simp (disch := omega) only [↓reduceIte, ↓wi_e, ↓wn_e, ↓rc_i, ↓rc_l, ↓h.q0, ↓h.q1, ↓h.q2, ↓h.qr, ↓h.qc, ↓h.qr2, ↓h.qr3, ↓h.qr4, ↓h.qr5, ↓h.qc5, ↓h.qt, ↓h.qt4, ↓h.qt5, ↓h.qt6, ↓h.qm2, ↓h.qm3, ↓h.qm4, ↓h.qm5, ↓h.qm6, ↓h.qm7, ↓h.qm8, ↓h.qm9, ↓h.qm10, ↓h.qm11, ↓h.qm12, ↓h.qm13, ↓h.qm14, ↓h.qm15, ↓h.qm16, ↓h.qm17, ↓h.qm18, ↓h.qm19, ↓h.qm20, ↓h.qm21, ↓h.qm22, ↓h.qm23, ↓h.qm24, h.lt, kd_0, kd_1, kd_2, kd_3, kd_r, kd_ra, kd_rb, kd_rc, kd_rd, ln_ra, ln_rb, ln_rc, ln_rd, kd_c, kd_ca, ln_ca, kd_t, kd_ta, kd_tb, kd_tc, ln_ta, ln_tb, ln_tc, ln_1, ln_2, ln_3, ln_51, kd_27, kd_28, kd_29, kd_30, kd_31, kd_32, kd_33, kd_34, kd_35, kd_36, kd_37, kd_38, kd_39, kd_40, kd_41, kd_42, kd_43, kd_44, kd_45, kd_46, kd_47, kd_48, kd_49, kd_50, kd_51, ln_28, ln_29, ln_30, ln_31, ln_32, ln_33, ln_34, ln_35, ln_36, ln_37, ln_38, ln_39, ln_40, ln_41, ln_42, ln_43, ln_44, ln_45, ln_46, ln_47, ln_48, ln_49, ln_50, inb_n, cl_n, g_n_s_i, g_n_s_l, mul_3, mul_4, mul_6, mul_61, nI_add, nI_1, nle_0, nle_1, nle_2, nle_3, nle_4, nle_5, nle_6, nle_7, nle_60, nle_61, nlt_0, nlt_1, nlt_2, nlt_3, nlt_4, nlt_5, nlt_6, nlt_7, nlt_60, nlt_61, nge_0, nge_1, nge_2, nge_3, nge_4, nge_5, nge_6, nge_7, nge_60, nge_61, ngt_0, ngt_1, ngt_2, ngt_3, ngt_4, ngt_5, ngt_6, ngt_7, ngt_60, ngt_61, neq_0, neq_1, neq_2, neq_3, neq_4, neq_5, neq_6, neq_7, neq_60, neq_61, Nat.not_lt_zero, and_self, and_true, true_and, or_true, true_or, if_true, if_false, or_self, and_false, false_and, or_false, false_or, not_true_eq_false, not_false_eq_true, ne_eq, reduceCtorEq, eq_self, bind_s, c10, c01, c20, c30, c40, cl_0, inb_0, onI_l, onI_r, onV_l, onV_r, b_M_apply_16, ec, nle, Nat.le_refl]
theorem st_ar {b : Nat} {σ : Sg} (h : SN b σ) {n i t j k c : Nat} (hi : i < 3) (ht : t ≤ 60) (hc : c ≤ 4) (hj : j < c) (hk : k < 6) (ec : g_i σ 29 t = nI c) (ek : g_i σ 30 (4 * t + j) = nI k) : b_M_apply_98 (n + 1) σ 27 (nI t) (nI i) (nI (4 * t + j)) = b_M_apply_98 n (if g_i σ 28 t ≤ g_i σ 46 (6 * i + k) then σ else s_i σ 46 (6 * i + k) (g_i σ 28 t)) 27 (nI t) (nI i) (nI (4 * t + (j + 1))) := by
  have hn : ¬ 4 * t + c ≤ 4 * t + j := by omega
  by_cases q : g_i σ 28 t ≤ g_i σ 46 (6 * i + k)
  · rw [if_pos q]
    simp (disch := omega) only [↓reduceIte, ↓wi_e, ↓wn_e, ↓rc_i, ↓rc_l, ↓h.q0, ↓h.q1, ↓h.q2, ↓h.qr, ↓h.qc, ↓h.qr2, ↓h.qr3, ↓h.qr4, ↓h.qr5, ↓h.qc5, ↓h.qt, ↓h.qt4, ↓h.qt5, ↓h.qt6, ↓h.qm2, ↓h.qm3, ↓h.qm4, ↓h.qm5, ↓h.qm6, ↓h.qm7, ↓h.qm8, ↓h.qm9, ↓h.qm10, ↓h.qm11, ↓h.qm12, ↓h.qm13, ↓h.qm14, ↓h.qm15, ↓h.qm16, ↓h.qm17, ↓h.qm18, ↓h.qm19, ↓h.qm20, ↓h.qm21, ↓h.qm22, ↓h.qm23, ↓h.qm24, h.lt, kd_0, kd_1, kd_2, kd_3, kd_r, kd_ra, kd_rb, kd_rc, kd_rd, ln_ra, ln_rb, ln_rc, ln_rd, kd_c, kd_ca, ln_ca, kd_t, kd_ta, kd_tb, kd_tc, ln_ta, ln_tb, ln_tc, ln_1, ln_2, ln_3, ln_51, kd_27, kd_28, kd_29, kd_30, kd_31, kd_32, kd_33, kd_34, kd_35, kd_36, kd_37, kd_38, kd_39, kd_40, kd_41, kd_42, kd_43, kd_44, kd_45, kd_46, kd_47, kd_48, kd_49, kd_50, kd_51, ln_28, ln_29, ln_30, ln_31, ln_32, ln_33, ln_34, ln_35, ln_36, ln_37, ln_38, ln_39, ln_40, ln_41, ln_42, ln_43, ln_44, ln_45, ln_46, ln_47, ln_48, ln_49, ln_50, inb_n, cl_n, g_n_s_i, g_n_s_l, mul_3, mul_4, mul_6, mul_61, nI_add, nI_1, nle_0, nle_1, nle_2, nle_3, nle_4, nle_5, nle_6, nle_7, nle_60, nle_61, nlt_0, nlt_1, nlt_2, nlt_3, nlt_4, nlt_5, nlt_6, nlt_7, nlt_60, nlt_61, nge_0, nge_1, nge_2, nge_3, nge_4, nge_5, nge_6, nge_7, nge_60, nge_61, ngt_0, ngt_1, ngt_2, ngt_3, ngt_4, ngt_5, ngt_6, ngt_7, ngt_60, ngt_61, neq_0, neq_1, neq_2, neq_3, neq_4, neq_5, neq_6, neq_7, neq_60, neq_61, Nat.not_lt_zero, and_self, and_true, true_and, or_true, true_or, if_true, if_false, or_self, and_false, false_and, or_false, false_or, not_true_eq_false, not_false_eq_true, ne_eq, reduceCtorEq, eq_self, bind_s, c10, c01, c20, c30, c40, cl_0, inb_0, onI_l, onI_r, onV_l, onV_r, b_M_apply_98, b_M_apply_159, ec, ek, nle, hn, q, Nat.add_assoc]
  · rw [if_neg q]
    simp (disch := omega) only [↓reduceIte, ↓wi_e, ↓wn_e, ↓rc_i, ↓rc_l, ↓h.q0, ↓h.q1, ↓h.q2, ↓h.qr, ↓h.qc, ↓h.qr2, ↓h.qr3, ↓h.qr4, ↓h.qr5, ↓h.qc5, ↓h.qt, ↓h.qt4, ↓h.qt5, ↓h.qt6, ↓h.qm2, ↓h.qm3, ↓h.qm4, ↓h.qm5, ↓h.qm6, ↓h.qm7, ↓h.qm8, ↓h.qm9, ↓h.qm10, ↓h.qm11, ↓h.qm12, ↓h.qm13, ↓h.qm14, ↓h.qm15, ↓h.qm16, ↓h.qm17, ↓h.qm18, ↓h.qm19, ↓h.qm20, ↓h.qm21, ↓h.qm22, ↓h.qm23, ↓h.qm24, h.lt, kd_0, kd_1, kd_2, kd_3, kd_r, kd_ra, kd_rb, kd_rc, kd_rd, ln_ra, ln_rb, ln_rc, ln_rd, kd_c, kd_ca, ln_ca, kd_t, kd_ta, kd_tb, kd_tc, ln_ta, ln_tb, ln_tc, ln_1, ln_2, ln_3, ln_51, kd_27, kd_28, kd_29, kd_30, kd_31, kd_32, kd_33, kd_34, kd_35, kd_36, kd_37, kd_38, kd_39, kd_40, kd_41, kd_42, kd_43, kd_44, kd_45, kd_46, kd_47, kd_48, kd_49, kd_50, kd_51, ln_28, ln_29, ln_30, ln_31, ln_32, ln_33, ln_34, ln_35, ln_36, ln_37, ln_38, ln_39, ln_40, ln_41, ln_42, ln_43, ln_44, ln_45, ln_46, ln_47, ln_48, ln_49, ln_50, inb_n, cl_n, g_n_s_i, g_n_s_l, mul_3, mul_4, mul_6, mul_61, nI_add, nI_1, nle_0, nle_1, nle_2, nle_3, nle_4, nle_5, nle_6, nle_7, nle_60, nle_61, nlt_0, nlt_1, nlt_2, nlt_3, nlt_4, nlt_5, nlt_6, nlt_7, nlt_60, nlt_61, nge_0, nge_1, nge_2, nge_3, nge_4, nge_5, nge_6, nge_7, nge_60, nge_61, ngt_0, ngt_1, ngt_2, ngt_3, ngt_4, ngt_5, ngt_6, ngt_7, ngt_60, ngt_61, neq_0, neq_1, neq_2, neq_3, neq_4, neq_5, neq_6, neq_7, neq_60, neq_61, Nat.not_lt_zero, and_self, and_true, true_and, or_true, true_or, if_true, if_false, or_self, and_false, false_and, or_false, false_or, not_true_eq_false, not_false_eq_true, ne_eq, reduceCtorEq, eq_self, bind_s, c10, c01, c20, c30, c40, cl_0, inb_0, onI_l, onI_r, onV_l, onV_r, b_M_apply_98, b_M_apply_159, ec, ek, nle, hn, q, Nat.add_assoc]
theorem en_ar {b : Nat} {σ : Sg} (h : SN b σ) {n i t c : Nat} (ht : t ≤ 60) (hc : c ≤ 4) (ec : g_i σ 29 t = nI c) : b_M_apply_98 (n + 1) σ 27 (nI t) (nI i) (nI (4 * t + c)) = some σ := by
  simp (disch := omega) only [↓reduceIte, ↓wi_e, ↓wn_e, ↓rc_i, ↓rc_l, ↓h.q0, ↓h.q1, ↓h.q2, ↓h.qr, ↓h.qc, ↓h.qr2, ↓h.qr3, ↓h.qr4, ↓h.qr5, ↓h.qc5, ↓h.qt, ↓h.qt4, ↓h.qt5, ↓h.qt6, ↓h.qm2, ↓h.qm3, ↓h.qm4, ↓h.qm5, ↓h.qm6, ↓h.qm7, ↓h.qm8, ↓h.qm9, ↓h.qm10, ↓h.qm11, ↓h.qm12, ↓h.qm13, ↓h.qm14, ↓h.qm15, ↓h.qm16, ↓h.qm17, ↓h.qm18, ↓h.qm19, ↓h.qm20, ↓h.qm21, ↓h.qm22, ↓h.qm23, ↓h.qm24, h.lt, kd_0, kd_1, kd_2, kd_3, kd_r, kd_ra, kd_rb, kd_rc, kd_rd, ln_ra, ln_rb, ln_rc, ln_rd, kd_c, kd_ca, ln_ca, kd_t, kd_ta, kd_tb, kd_tc, ln_ta, ln_tb, ln_tc, ln_1, ln_2, ln_3, ln_51, kd_27, kd_28, kd_29, kd_30, kd_31, kd_32, kd_33, kd_34, kd_35, kd_36, kd_37, kd_38, kd_39, kd_40, kd_41, kd_42, kd_43, kd_44, kd_45, kd_46, kd_47, kd_48, kd_49, kd_50, kd_51, ln_28, ln_29, ln_30, ln_31, ln_32, ln_33, ln_34, ln_35, ln_36, ln_37, ln_38, ln_39, ln_40, ln_41, ln_42, ln_43, ln_44, ln_45, ln_46, ln_47, ln_48, ln_49, ln_50, inb_n, cl_n, g_n_s_i, g_n_s_l, mul_3, mul_4, mul_6, mul_61, nI_add, nI_1, nle_0, nle_1, nle_2, nle_3, nle_4, nle_5, nle_6, nle_7, nle_60, nle_61, nlt_0, nlt_1, nlt_2, nlt_3, nlt_4, nlt_5, nlt_6, nlt_7, nlt_60, nlt_61, nge_0, nge_1, nge_2, nge_3, nge_4, nge_5, nge_6, nge_7, nge_60, nge_61, ngt_0, ngt_1, ngt_2, ngt_3, ngt_4, ngt_5, ngt_6, ngt_7, ngt_60, ngt_61, neq_0, neq_1, neq_2, neq_3, neq_4, neq_5, neq_6, neq_7, neq_60, neq_61, Nat.not_lt_zero, and_self, and_true, true_and, or_true, true_or, if_true, if_false, or_self, and_false, false_and, or_false, false_or, not_true_eq_false, not_false_eq_true, ne_eq, reduceCtorEq, eq_self, bind_s, c10, c01, c20, c30, c40, cl_0, inb_0, onI_l, onI_r, onV_l, onV_r, b_M_apply_98, ec, nle, Nat.le_refl]
theorem lp_ap {b i t c : Nat} {V : Nat → Int32} (hi : i < 3) (ht : t ≤ 60) (hc : c ≤ 4) : ∀ d n j (σ : Sg), d + j = c → d < n → SN b σ → g_i σ 33 t = nI c → (∀ j, j < c → ∃ k, k < 6 ∧ g_i σ 34 (4 * t + j) = nI k ∧ g_i σ 35 (4 * t + j) = V k) → ∃ σ', b_M_apply_16 n σ 27 (nI t) (nI i) (nI (4 * t + j)) = b_M_apply_98 1000 σ' 27 (nI t) (nI i) (nI (4 * t)) ∧ SN b σ' ∧ (∀ a x, g_r σ' a x = g_r σ a x ∧ g_l σ' a x = g_l σ a x) ∧ (∀ a x, (a ≠ 44 ∧ a ≠ 45) ∨ x < 6 * i ∨ 6 * i + 6 ≤ x → g_i σ' a x = g_i σ a x) ∧
    ∀ k, k < 6 → ((∃ p, j ≤ p ∧ p < c ∧ g_i σ 34 (4 * t + p) = nI k) ∧ g_i σ 44 (6 * i + k) < g_i σ 28 t → g_i σ' 44 (6 * i + k) = g_i σ 28 t ∧ g_i σ' 45 (6 * i + k) = V k) ∧ (¬ ((∃ p, j ≤ p ∧ p < c ∧ g_i σ 34 (4 * t + p) = nI k) ∧ g_i σ 44 (6 * i + k) < g_i σ 28 t) → g_i σ' 44 (6 * i + k) = g_i σ 44 (6 * i + k) ∧ g_i σ' 45 (6 * i + k) = g_i σ 45 (6 * i + k)) := by
  intro d
  induction d with
  | zero =>
    intro n j σ hj hn h ec hK
    obtain ⟨n, rfl⟩ : ∃ q, n = q + 1 := ⟨n - 1, by omega⟩
    obtain rfl : j = c := by omega
    refine ⟨σ, en_ap h ht hc ec, h, fun _ _ => ⟨rfl, rfl⟩, fun _ _ _ => rfl, fun k hk => ⟨?_, fun _ => ⟨rfl, rfl⟩⟩⟩
    rintro ⟨⟨p, h1, h2, _⟩, _⟩
    omega
  | succ d ih =>
    intro n j σ hj hn h ec hK
    obtain ⟨n, rfl⟩ : ∃ q, n = q + 1 := ⟨n - 1, by omega⟩
    obtain ⟨k0, hk0, ek, ev⟩ := hK j (by omega)
    rw [st_ap h hi ht hc (by omega) hk0 ec ek]
    have fr : ∀ a x, (a ≠ 44 ∧ a ≠ 45) ∨ x ≠ 6 * i + k0 → g_i (if g_i σ 44 (6 * i + k0) < g_i σ 28 t then s_i (s_i σ 44 (6 * i + k0) (g_i σ 28 t)) 45 (6 * i + k0) (g_i σ 35 (4 * t + j)) else σ) a x = g_i σ a x := by
      intro a x q
      split
      · simp (disch := omega) only [gi_n]
      · rfl
    have s1 : SN b (if g_i σ 44 (6 * i + k0) < g_i σ 28 t then s_i (s_i σ 44 (6 * i + k0) (g_i σ 28 t)) 45 (6 * i + k0) (g_i σ 35 (4 * t + j)) else σ) := by
      split
      · exact h
      · exact h
    have s2 : ∀ a x, g_r (if g_i σ 44 (6 * i + k0) < g_i σ 28 t then s_i (s_i σ 44 (6 * i + k0) (g_i σ 28 t)) 45 (6 * i + k0) (g_i σ 35 (4 * t + j)) else σ) a x = g_r σ a x ∧ g_l (if g_i σ 44 (6 * i + k0) < g_i σ 28 t then s_i (s_i σ 44 (6 * i + k0) (g_i σ 28 t)) 45 (6 * i + k0) (g_i σ 35 (4 * t + j)) else σ) a x = g_l σ a x := by
      intro a x
      split
      · exact ⟨rfl, rfl⟩
      · exact ⟨rfl, rfl⟩
    have v1 : g_i σ 44 (6 * i + k0) < g_i σ 28 t → g_i (if g_i σ 44 (6 * i + k0) < g_i σ 28 t then s_i (s_i σ 44 (6 * i + k0) (g_i σ 28 t)) 45 (6 * i + k0) (g_i σ 35 (4 * t + j)) else σ) 44 (6 * i + k0) = g_i σ 28 t ∧ g_i (if g_i σ 44 (6 * i + k0) < g_i σ 28 t then s_i (s_i σ 44 (6 * i + k0) (g_i σ 28 t)) 45 (6 * i + k0) (g_i σ 35 (4 * t + j)) else σ) 45 (6 * i + k0) = V k0 := by
      intro q
      rw [if_pos q]
      simp (disch := omega) only [gi_n, gi_s]
      exact ⟨trivial, ev⟩
    have v2 : ¬ g_i σ 44 (6 * i + k0) < g_i σ 28 t → (if g_i σ 44 (6 * i + k0) < g_i σ 28 t then s_i (s_i σ 44 (6 * i + k0) (g_i σ 28 t)) 45 (6 * i + k0) (g_i σ 35 (4 * t + j)) else σ) = σ := fun q => if_neg q
    generalize (if g_i σ 44 (6 * i + k0) < g_i σ 28 t then s_i (s_i σ 44 (6 * i + k0) (g_i σ 28 t)) 45 (6 * i + k0) (g_i σ 35 (4 * t + j)) else σ) = τ at *
    obtain ⟨σ', e, hs, hr, hF, hV⟩ := ih n (j + 1) τ (by omega) (by omega) s1 (by rw [fr _ _ (by omega)]; exact ec) (by
      intro p hp
      rw [fr _ _ (by omega), fr _ _ (by omega)]
      exact hK p hp)
    refine ⟨σ', e, hs, fun a x => ?_, fun a x q => ?_, fun k hk => ?_⟩
    · rw [(hr a x).1, (hr a x).2]
      exact s2 a x
    · rw [hF a x q, fr a x (by omega)]
    · have hV := hV k hk
      rw [fr 28 t (by omega)] at hV
      have q34 : ∀ p, g_i τ 34 (4 * t + p) = g_i σ 34 (4 * t + p) := fun p => fr _ _ (by omega)
      simp only [q34] at hV
      by_cases ke : k = k0
      · subst ke
        have here : ∃ p, j ≤ p ∧ p < c ∧ g_i σ 34 (4 * t + p) = nI k := ⟨j, by omega, by omega, ek⟩
        by_cases q : g_i σ 44 (6 * i + k) < g_i σ 28 t
        · obtain ⟨v1a, v1b⟩ := v1 q
          have nl : ¬ g_i τ 44 (6 * i + k) < g_i σ 28 t := by
            rw [v1a]
            grind
          obtain ⟨w1, w2⟩ := hV.2 (fun z => nl z.2)
          refine ⟨fun _ => ⟨by rw [w1, v1a], by rw [w2, v1b]⟩, fun z => absurd ⟨here, q⟩ z⟩
        · have e := v2 q
          subst e
          refine ⟨fun z => absurd z.2 q, fun _ => hV.2 (fun z => q z.2)⟩
      · rw [fr 44 _ (by omega), fr 45 _ (by omega)] at hV
        have iff : (∃ p, j ≤ p ∧ p < c ∧ g_i σ 34 (4 * t + p) = nI k) ↔ (∃ p, j + 1 ≤ p ∧ p < c ∧ g_i σ 34 (4 * t + p) = nI k) := by
          constructor
          · rintro ⟨p, h1, h2, h3⟩
            refine ⟨p, ?_, h2, h3⟩
            by_cases z : p = j
            · subst z
              rw [ek, neq (by omega) (by omega)] at h3
              omega
            · omega
          · rintro ⟨p, h1, h2, h3⟩
            exact ⟨p, by omega, h2, h3⟩
        rw [iff]
        exact hV
theorem lp_ar {b i t c : Nat} (hi : i < 3) (ht : t ≤ 60) (hc : c ≤ 4) : ∀ d n j (σ : Sg), d + j = c → d < n → SN b σ → g_i σ 29 t = nI c → (∀ j, j < c → ∃ k, k < 6 ∧ g_i σ 30 (4 * t + j) = nI k) → ∃ σ', b_M_apply_98 n σ 27 (nI t) (nI i) (nI (4 * t + j)) = some σ' ∧ SN b σ' ∧ (∀ a x, g_r σ' a x = g_r σ a x ∧ g_l σ' a x = g_l σ a x) ∧ (∀ a x, a ≠ 46 ∨ x < 6 * i ∨ 6 * i + 6 ≤ x → g_i σ' a x = g_i σ a x) ∧
    ∀ k, k < 6 → ((∃ p, j ≤ p ∧ p < c ∧ g_i σ 30 (4 * t + p) = nI k) → g_i σ' 46 (6 * i + k) = mx (g_i σ 46 (6 * i + k)) (g_i σ 28 t)) ∧ (¬ (∃ p, j ≤ p ∧ p < c ∧ g_i σ 30 (4 * t + p) = nI k) → g_i σ' 46 (6 * i + k) = g_i σ 46 (6 * i + k)) := by
  intro d
  induction d with
  | zero =>
    intro n j σ hj hn h ec hK
    obtain ⟨n, rfl⟩ : ∃ q, n = q + 1 := ⟨n - 1, by omega⟩
    obtain rfl : j = c := by omega
    refine ⟨σ, en_ar h ht hc ec, h, fun _ _ => ⟨rfl, rfl⟩, fun _ _ _ => rfl, fun k hk => ⟨?_, fun _ => rfl⟩⟩
    rintro ⟨p, h1, h2, _⟩
    omega
  | succ d ih =>
    intro n j σ hj hn h ec hK
    obtain ⟨n, rfl⟩ : ∃ q, n = q + 1 := ⟨n - 1, by omega⟩
    obtain ⟨k0, hk0, ek⟩ := hK j (by omega)
    rw [st_ar h hi ht hc (by omega) hk0 ec ek]
    have fr : ∀ a x, a ≠ 46 ∨ x ≠ 6 * i + k0 → g_i (if g_i σ 28 t ≤ g_i σ 46 (6 * i + k0) then σ else s_i σ 46 (6 * i + k0) (g_i σ 28 t)) a x = g_i σ a x := by
      intro a x q
      split
      · rfl
      · simp (disch := omega) only [gi_n]
    have s1 : SN b (if g_i σ 28 t ≤ g_i σ 46 (6 * i + k0) then σ else s_i σ 46 (6 * i + k0) (g_i σ 28 t)) := by
      split
      · exact h
      · exact h
    have s2 : ∀ a x, g_r (if g_i σ 28 t ≤ g_i σ 46 (6 * i + k0) then σ else s_i σ 46 (6 * i + k0) (g_i σ 28 t)) a x = g_r σ a x ∧ g_l (if g_i σ 28 t ≤ g_i σ 46 (6 * i + k0) then σ else s_i σ 46 (6 * i + k0) (g_i σ 28 t)) a x = g_l σ a x := by
      intro a x
      split
      · exact ⟨rfl, rfl⟩
      · exact ⟨rfl, rfl⟩
    have v1 : g_i (if g_i σ 28 t ≤ g_i σ 46 (6 * i + k0) then σ else s_i σ 46 (6 * i + k0) (g_i σ 28 t)) 46 (6 * i + k0) = mx (g_i σ 46 (6 * i + k0)) (g_i σ 28 t) := by
      unfold mx
      by_cases q : g_i σ 28 t ≤ g_i σ 46 (6 * i + k0)
      · rw [if_pos q, if_neg (by grind)]
      · rw [if_neg q, if_pos (by grind), gi_s ⟨rfl, rfl⟩]
    generalize (if g_i σ 28 t ≤ g_i σ 46 (6 * i + k0) then σ else s_i σ 46 (6 * i + k0) (g_i σ 28 t)) = τ at *
    obtain ⟨σ', e, hs, hr, hF, hV⟩ := ih n (j + 1) τ (by omega) (by omega) s1 (by rw [fr _ _ (by omega)]; exact ec) (by
      intro p hp
      rw [fr _ _ (by omega)]
      exact hK p hp)
    refine ⟨σ', e, hs, fun a x => ?_, fun a x q => ?_, fun k hk => ?_⟩
    · rw [(hr a x).1, (hr a x).2]
      exact s2 a x
    · rw [hF a x q, fr a x (by omega)]
    · have hV := hV k hk
      rw [fr 28 t (by omega)] at hV
      have q34 : ∀ p, g_i τ 30 (4 * t + p) = g_i σ 30 (4 * t + p) := fun p => fr _ _ (by omega)
      simp only [q34] at hV
      by_cases ke : k = k0
      · subst ke
        rw [v1] at hV
        have here : ∃ p, j ≤ p ∧ p < c ∧ g_i σ 30 (4 * t + p) = nI k := ⟨j, by omega, by omega, ek⟩
        refine ⟨fun _ => ?_, fun z => absurd here z⟩
        by_cases q : ∃ p, j + 1 ≤ p ∧ p < c ∧ g_i σ 30 (4 * t + p) = nI k
        · rw [hV.1 q]
          unfold mx
          grind
        · rw [hV.2 q]
      · rw [fr 46 _ (by omega)] at hV
        have iff : (∃ p, j ≤ p ∧ p < c ∧ g_i σ 30 (4 * t + p) = nI k) ↔ (∃ p, j + 1 ≤ p ∧ p < c ∧ g_i σ 30 (4 * t + p) = nI k) := by
          constructor
          · rintro ⟨p, h1, h2, h3⟩
            refine ⟨p, ?_, h2, h3⟩
            by_cases z : p = j
            · subst z
              rw [ek, neq (by omega) (by omega)] at h3
              omega
            · omega
          · rintro ⟨p, h1, h2, h3⟩
            exact ⟨p, by omega, h2, h3⟩
        rw [iff]
        exact hV
theorem p_apply {b : Nat} {σ : Sg} (h : SN b σ) {i t w m n n' : Nat} {V : Nat → Int32} (hi : i < 3) (ht : t ≤ 60) (hW : Lw σ t w n V) (hM : Lr σ t m n') : ∃ σ', f_M_apply σ 27 (nI t) (nI i) = some σ' ∧ SN b σ' ∧ (∀ a x, g_r σ' a x = g_r σ a x ∧ g_l σ' a x = g_l σ a x) ∧ (∀ a x, ((a ≠ 44 ∧ a ≠ 45 ∧ a ≠ 46) ∨ x < 6 * i ∨ 6 * i + 6 ≤ x) ∧ (a ≠ 49 ∨ x ≠ 61 * i + t) → g_i σ' a x = g_i σ a x) ∧ g_i σ' 49 (61 * i + t) = 1 ∧
    ∀ k, k < 6 → g_i σ' 44 (6 * i + k) = (if w.testBit k = true ∧ g_i σ 44 (6 * i + k) < g_i σ 28 t then g_i σ 28 t else g_i σ 44 (6 * i + k)) ∧ g_i σ' 45 (6 * i + k) = (if w.testBit k = true ∧ g_i σ 44 (6 * i + k) < g_i σ 28 t then V k else g_i σ 45 (6 * i + k)) ∧ g_i σ' 46 (6 * i + k) = (if m.testBit k = true then mx (g_i σ 46 (6 * i + k)) (g_i σ 28 t) else g_i σ 46 (6 * i + k)) := by
  obtain ⟨w1, w2, w3, w4⟩ := hW
  obtain ⟨m1, m2, m3, m4⟩ := hM
  have f0 : ∀ a x, a ≠ 49 ∨ x ≠ 61 * i + t → g_i (s_i σ 49 (61 * i + t) 1) a x = g_i σ a x := fun a x q => gi_n q
  obtain ⟨σ1, e1, s1, r1, F1, V1⟩ := lp_ap (V := V) hi ht w1 n 1000 0 (s_i σ 49 (61 * i + t) 1) (by omega) (by omega) h (by rw [f0 _ _ (by omega)]; exact w2) (by
    intro j hj
    obtain ⟨k, a, _, c, d⟩ := w3 j hj
    exact ⟨k, a, by rw [f0 _ _ (by omega)]; exact c, by rw [f0 _ _ (by omega)]; exact d⟩)
  obtain ⟨σ2, e2, s2, r2, F2, V2⟩ := lp_ar hi ht m1 n' 1000 0 σ1 (by omega) (by omega) s1 (by rw [F1 _ _ (by omega), f0 _ _ (by omega)]; exact m2) (by
    intro j hj
    obtain ⟨k, a, _, c⟩ := m3 j hj
    exact ⟨k, a, by rw [F1 _ _ (by omega), f0 _ _ (by omega)]; exact c⟩)
  refine ⟨σ2, ?_, s2, fun a x => ?_, fun a x q => ?_, ?_, fun k hk => ?_⟩
  · simp (disch := omega) only [↓reduceIte, ↓wi_e, ↓wn_e, ↓rc_i, ↓rc_l, ↓h.q0, ↓h.q1, ↓h.q2, ↓h.qr, ↓h.qc, ↓h.qr2, ↓h.qr3, ↓h.qr4, ↓h.qr5, ↓h.qc5, ↓h.qt, ↓h.qt4, ↓h.qt5, ↓h.qt6, ↓h.qm2, ↓h.qm3, ↓h.qm4, ↓h.qm5, ↓h.qm6, ↓h.qm7, ↓h.qm8, ↓h.qm9, ↓h.qm10, ↓h.qm11, ↓h.qm12, ↓h.qm13, ↓h.qm14, ↓h.qm15, ↓h.qm16, ↓h.qm17, ↓h.qm18, ↓h.qm19, ↓h.qm20, ↓h.qm21, ↓h.qm22, ↓h.qm23, ↓h.qm24, h.lt, kd_0, kd_1, kd_2, kd_3, kd_r, kd_ra, kd_rb, kd_rc, kd_rd, ln_ra, ln_rb, ln_rc, ln_rd, kd_c, kd_ca, ln_ca, kd_t, kd_ta, kd_tb, kd_tc, ln_ta, ln_tb, ln_tc, ln_1, ln_2, ln_3, ln_51, kd_27, kd_28, kd_29, kd_30, kd_31, kd_32, kd_33, kd_34, kd_35, kd_36, kd_37, kd_38, kd_39, kd_40, kd_41, kd_42, kd_43, kd_44, kd_45, kd_46, kd_47, kd_48, kd_49, kd_50, kd_51, ln_28, ln_29, ln_30, ln_31, ln_32, ln_33, ln_34, ln_35, ln_36, ln_37, ln_38, ln_39, ln_40, ln_41, ln_42, ln_43, ln_44, ln_45, ln_46, ln_47, ln_48, ln_49, ln_50, inb_n, cl_n, g_n_s_i, g_n_s_l, mul_3, mul_4, mul_6, mul_61, nI_add, nI_1, nle_0, nle_1, nle_2, nle_3, nle_4, nle_5, nle_6, nle_7, nle_60, nle_61, nlt_0, nlt_1, nlt_2, nlt_3, nlt_4, nlt_5, nlt_6, nlt_7, nlt_60, nlt_61, nge_0, nge_1, nge_2, nge_3, nge_4, nge_5, nge_6, nge_7, nge_60, nge_61, ngt_0, ngt_1, ngt_2, ngt_3, ngt_4, ngt_5, ngt_6, ngt_7, ngt_60, ngt_61, neq_0, neq_1, neq_2, neq_3, neq_4, neq_5, neq_6, neq_7, neq_60, neq_61, Nat.not_lt_zero, and_self, and_true, true_and, or_true, true_or, if_true, if_false, or_self, and_false, false_and, or_false, false_or, not_true_eq_false, not_false_eq_true, ne_eq, reduceCtorEq, eq_self, bind_s, c10, c01, c20, c30, c40, cl_0, inb_0, onI_l, onI_r, onV_l, onV_r, f_M_apply]
    exact e1.trans e2
  · rw [(r2 a x).1, (r2 a x).2, (r1 a x).1, (r1 a x).2]
    exact ⟨rfl, rfl⟩
  · rw [F2 a x (by omega), F1 a x (by omega), f0 a x q.2]
  · rw [F2 _ _ (by omega), F1 _ _ (by omega), gi_s ⟨rfl, rfl⟩]
  · have a1 := V1 k hk
    have a2 := V2 k hk
    have q34 : ∀ p, g_i (s_i σ 49 (61 * i + t) 1) 34 (4 * t + p) = g_i σ 34 (4 * t + p) := fun p => f0 _ _ (by omega)
    have q30 : ∀ p, g_i σ1 30 (4 * t + p) = g_i σ 30 (4 * t + p) := fun p => by rw [F1 _ _ (by omega), f0 _ _ (by omega)]
    simp only [q34] at a1
    simp only [q30] at a2
    rw [f0 44 _ (by omega), f0 45 _ (by omega), f0 28 _ (by omega)] at a1
    rw [F1 46 _ (by omega), F1 28 _ (by omega), f0 46 _ (by omega), f0 28 _ (by omega)] at a2
    have k1 : (∃ p, 0 ≤ p ∧ p < n ∧ g_i σ 34 (4 * t + p) = nI k) ↔ w.testBit k = true := by
      constructor
      · rintro ⟨p, _, h2, h3⟩
        obtain ⟨k', hk', z1, z2, _⟩ := w3 p h2
        rw [z2, neq (by omega) (by omega)] at h3
        rw [← h3]
        exact z1
      · intro z
        obtain ⟨j, hj, e⟩ := w4 k hk z
        exact ⟨j, by omega, hj, e⟩
    have k2 : (∃ p, 0 ≤ p ∧ p < n' ∧ g_i σ 30 (4 * t + p) = nI k) ↔ m.testBit k = true := by
      constructor
      · rintro ⟨p, _, h2, h3⟩
        obtain ⟨k', hk', z1, z2⟩ := m3 p h2
        rw [z2, neq (by omega) (by omega)] at h3
        rw [← h3]
        exact z1
      · intro z
        obtain ⟨j, hj, e⟩ := m4 k hk z
        exact ⟨j, by omega, hj, e⟩
    rw [k1] at a1
    rw [k2] at a2
    rw [F2 44 _ (by omega), F2 45 _ (by omega)]
    refine ⟨?_, ?_, ?_⟩
    · by_cases z : w.testBit k = true ∧ g_i σ 44 (6 * i + k) < g_i σ 28 t
      · rw [if_pos z]; exact (a1.1 z).1
      · rw [if_neg z]; exact (a1.2 z).1
    · by_cases z : w.testBit k = true ∧ g_i σ 44 (6 * i + k) < g_i σ 28 t
      · rw [if_pos z]; exact (a1.1 z).2
      · rw [if_neg z]; exact (a1.2 z).2
    · by_cases z : m.testBit k = true
      · rw [if_pos z]; exact a2.1 z
      · rw [if_neg z]; exact a2.2 z

