/-! propose. -/
def cr3 (σ : Sg) (t : Nat) : Sg := s_i (s_i (s_i σ (8 + 5 * 0) t (-1)) (8 + 5 * 1) t (-1)) (8 + 5 * 2) t (-1)
theorem cr3_n {σ : Sg} {t a k : Nat} (h : (a ≠ 8 ∧ a ≠ 13 ∧ a ≠ 18) ∨ k ≠ t) : g_i (cr3 σ t) a k = g_i σ a k := by
  unfold cr3
  simp (disch := omega) only [gi_n]
theorem cr3_v {σ : Sg} {t i : Nat} (h : i < 3) : g_i (cr3 σ t) (8 + 5 * i) t = -1 := by
  unfold cr3
  obtain rfl | rfl | rfl : i = 0 ∨ i = 1 ∨ i = 2 := by omega
  · simp (disch := omega) only [gi_n, gi_s]
  · simp (disch := omega) only [gi_n, gi_s]
  · simp (disch := omega) only [gi_n, gi_s]
def fr3 (σ : Sg) (t : Nat) : Sg := s_i (s_i (s_i (s_i (s_i (s_i (s_i (s_i (s_i (s_i (s_i (s_i σ 47 (61 * 0 + t) (-1)) 48 (61 * 0 + t) 0) 49 (61 * 0 + t) 0) 50 (61 * 0 + t) 0) 47 (61 * 1 + t) (-1)) 48 (61 * 1 + t) 0) 49 (61 * 1 + t) 0) 50 (61 * 1 + t) 0) 47 (61 * 2 + t) (-1)) 48 (61 * 2 + t) 0) 49 (61 * 2 + t) 0) 50 (61 * 2 + t) 0
theorem fr3_n {σ : Sg} {t a k : Nat} (h : (a ≠ 47 ∧ a ≠ 48 ∧ a ≠ 49 ∧ a ≠ 50) ∨ (k ≠ t ∧ k ≠ 61 + t ∧ k ≠ 122 + t)) : g_i (fr3 σ t) a k = g_i σ a k := by
  unfold fr3
  simp (disch := omega) only [gi_n]
theorem fr3_v {σ : Sg} {t i : Nat} (h : i < 3) : g_i (fr3 σ t) 47 (61 * i + t) = -1 ∧ g_i (fr3 σ t) 48 (61 * i + t) = 0 ∧ g_i (fr3 σ t) 49 (61 * i + t) = 0 ∧ g_i (fr3 σ t) 50 (61 * i + t) = 0 := by
  unfold fr3
  obtain rfl | rfl | rfl : i = 0 ∨ i = 1 ∨ i = 2 := by omega
  · simp (disch := omega) only [gi_n, gi_s, and_self]
  · simp (disch := omega) only [gi_n, gi_s, and_self]
  · simp (disch := omega) only [gi_n, gi_s, and_self]
theorem p_Rforget {b : Nat} {σ : Sg} (h : SN b σ) {i t : Nat} (hi : i < 3) (ht : t < 61) : f_R_forget σ (4 + 5 * i) (nI t) = some (s_i σ (8 + 5 * i) t (-1)) := by
  simp (disch := omega) only [↓reduceIte, ↓wi_e, ↓wn_e, ↓rc_i, ↓rc_l, ↓h.q0, ↓h.q1, ↓h.q2, ↓h.qr, ↓h.qc, ↓h.qr2, ↓h.qr3, ↓h.qr4, ↓h.qr5, ↓h.qc5, ↓h.qt, ↓h.qt4, ↓h.qt5, ↓h.qt6, ↓h.qm2, ↓h.qm3, ↓h.qm4, ↓h.qm5, ↓h.qm6, ↓h.qm7, ↓h.qm8, ↓h.qm9, ↓h.qm10, ↓h.qm11, ↓h.qm12, ↓h.qm13, ↓h.qm14, ↓h.qm15, ↓h.qm16, ↓h.qm17, ↓h.qm18, ↓h.qm19, ↓h.qm20, ↓h.qm21, ↓h.qm22, ↓h.qm23, ↓h.qm24, h.lt, kd_0, kd_1, kd_2, kd_3, kd_r, kd_ra, kd_rb, kd_rc, kd_rd, ln_ra, ln_rb, ln_rc, ln_rd, kd_c, kd_ca, ln_ca, kd_t, kd_ta, kd_tb, kd_tc, ln_ta, ln_tb, ln_tc, ln_1, ln_2, ln_3, ln_51, kd_27, kd_28, kd_29, kd_30, kd_31, kd_32, kd_33, kd_34, kd_35, kd_36, kd_37, kd_38, kd_39, kd_40, kd_41, kd_42, kd_43, kd_44, kd_45, kd_46, kd_47, kd_48, kd_49, kd_50, kd_51, ln_28, ln_29, ln_30, ln_31, ln_32, ln_33, ln_34, ln_35, ln_36, ln_37, ln_38, ln_39, ln_40, ln_41, ln_42, ln_43, ln_44, ln_45, ln_46, ln_47, ln_48, ln_49, ln_50, inb_n, cl_n, g_n_s_i, g_n_s_l, mul_3, mul_4, mul_6, mul_61, nI_add, nI_1, nle_0, nle_1, nle_2, nle_3, nle_4, nle_5, nle_6, nle_7, nle_60, nle_61, nlt_0, nlt_1, nlt_2, nlt_3, nlt_4, nlt_5, nlt_6, nlt_7, nlt_60, nlt_61, nge_0, nge_1, nge_2, nge_3, nge_4, nge_5, nge_6, nge_7, nge_60, nge_61, ngt_0, ngt_1, ngt_2, ngt_3, ngt_4, ngt_5, ngt_6, ngt_7, ngt_60, ngt_61, neq_0, neq_1, neq_2, neq_3, neq_4, neq_5, neq_6, neq_7, neq_60, neq_61, Nat.not_lt_zero, and_self, and_true, true_and, or_true, true_or, if_true, if_false, or_self, and_false, false_and, or_false, false_or, not_true_eq_false, not_false_eq_true, ne_eq, reduceCtorEq, eq_self, bind_s, c10, c01, c20, c30, c40, cl_0, inb_0, onI_l, onI_r, onV_l, onV_r, f_R_forget]
theorem st_pp {b : Nat} {σ : Sg} (h : SN b σ) {n i t : Nat} (hi : i < 3) (ht1 : 1 ≤ t) (ht2 : t ≤ b) (e : g_i σ (48 + 4 * t) 0 = nI t) : b_G_propose_89 (n + 1) σ 0 (48 + 4 * t) (nI i) = b_G_propose_89 n (s_i σ (8 + 5 * i) t (-1)) 0 (48 + 4 * t) (nI (i + 1)) := by
  have hb6 := h.b60
  have hn : ¬ 3 ≤ i := by omega
  have pf : f_R_forget σ (4 + 5 * i) (g_i σ (48 + 4 * t) 0) = some (s_i σ (8 + 5 * i) t (-1)) := by
    rw [e]
    exact p_Rforget h hi (by omega)
  simp (disch := omega) only [↓reduceIte, ↓wi_e, ↓wn_e, ↓rc_i, ↓rc_l, ↓h.q0, ↓h.q1, ↓h.q2, ↓h.qr, ↓h.qc, ↓h.qr2, ↓h.qr3, ↓h.qr4, ↓h.qr5, ↓h.qc5, ↓h.qt, ↓h.qt4, ↓h.qt5, ↓h.qt6, ↓h.qm2, ↓h.qm3, ↓h.qm4, ↓h.qm5, ↓h.qm6, ↓h.qm7, ↓h.qm8, ↓h.qm9, ↓h.qm10, ↓h.qm11, ↓h.qm12, ↓h.qm13, ↓h.qm14, ↓h.qm15, ↓h.qm16, ↓h.qm17, ↓h.qm18, ↓h.qm19, ↓h.qm20, ↓h.qm21, ↓h.qm22, ↓h.qm23, ↓h.qm24, h.lt, kd_0, kd_1, kd_2, kd_3, kd_r, kd_ra, kd_rb, kd_rc, kd_rd, ln_ra, ln_rb, ln_rc, ln_rd, kd_c, kd_ca, ln_ca, kd_t, kd_ta, kd_tb, kd_tc, ln_ta, ln_tb, ln_tc, ln_1, ln_2, ln_3, ln_51, kd_27, kd_28, kd_29, kd_30, kd_31, kd_32, kd_33, kd_34, kd_35, kd_36, kd_37, kd_38, kd_39, kd_40, kd_41, kd_42, kd_43, kd_44, kd_45, kd_46, kd_47, kd_48, kd_49, kd_50, kd_51, ln_28, ln_29, ln_30, ln_31, ln_32, ln_33, ln_34, ln_35, ln_36, ln_37, ln_38, ln_39, ln_40, ln_41, ln_42, ln_43, ln_44, ln_45, ln_46, ln_47, ln_48, ln_49, ln_50, inb_n, cl_n, g_n_s_i, g_n_s_l, mul_3, mul_4, mul_6, mul_61, nI_add, nI_1, nle_0, nle_1, nle_2, nle_3, nle_4, nle_5, nle_6, nle_7, nle_60, nle_61, nlt_0, nlt_1, nlt_2, nlt_3, nlt_4, nlt_5, nlt_6, nlt_7, nlt_60, nlt_61, nge_0, nge_1, nge_2, nge_3, nge_4, nge_5, nge_6, nge_7, nge_60, nge_61, ngt_0, ngt_1, ngt_2, ngt_3, ngt_4, ngt_5, ngt_6, ngt_7, ngt_60, ngt_61, neq_0, neq_1, neq_2, neq_3, neq_4, neq_5, neq_6, neq_7, neq_60, neq_61, Nat.not_lt_zero, and_self, and_true, true_and, or_true, true_or, if_true, if_false, or_self, and_false, false_and, or_false, false_or, not_true_eq_false, not_false_eq_true, ne_eq, reduceCtorEq, eq_self, bind_s, c10, c01, c20, c30, c40, cl_0, inb_0, onI_l, onI_r, onV_l, onV_r, b_G_propose_89, hn, ↓bq pf]
theorem en_pp {σ : Sg} {n a c : Nat} : b_G_propose_89 (n + 1) σ a c (nI (2 + 1)) = some (.inl none, σ) := by
  simp only [b_G_propose_89]
  rw [if_pos (by decide)]
theorem p_pp {b : Nat} {σ : Sg} (h : SN b σ) {t : Nat} (ht1 : 1 ≤ t) (ht2 : t ≤ b) (e : g_i σ (48 + 4 * t) 0 = nI t) : b_G_propose_89 1000 σ 0 (48 + 4 * t) 0 = some (.inl none, cr3 σ t) := by
  show b_G_propose_89 (999 + 1) σ 0 (48 + 4 * t) (nI 0) = _
  rw [st_pp h (n := 998 + 1) (by omega) ht1 ht2 e, st_pp (by exact h) (n := 997 + 1) (by omega) ht1 ht2 (by rw [gi_n (by omega), e]), st_pp (by exact h) (n := 996 + 1) (by omega) ht1 ht2 (by rw [gi_n (by omega), gi_n (by omega), e]), en_pp]
  rfl
theorem st_mp {b : Nat} {σ : Sg} (h : SN b σ) {n i t : Nat} (hi : i < 3) (ht : t < 61) : b_M_propose_126 (n + 1) σ 27 (nI t) (nI i) = b_M_propose_126 n (s_i (s_i (s_i (s_i σ 47 (61 * i + t) (-1)) 48 (61 * i + t) 0) 49 (61 * i + t) 0) 50 (61 * i + t) 0) 27 (nI t) (nI (i + 1)) := by
  have hn : ¬ 3 ≤ i := by omega
  simp (disch := omega) only [↓reduceIte, ↓wi_e, ↓wn_e, ↓rc_i, ↓rc_l, ↓h.q0, ↓h.q1, ↓h.q2, ↓h.qr, ↓h.qc, ↓h.qr2, ↓h.qr3, ↓h.qr4, ↓h.qr5, ↓h.qc5, ↓h.qt, ↓h.qt4, ↓h.qt5, ↓h.qt6, ↓h.qm2, ↓h.qm3, ↓h.qm4, ↓h.qm5, ↓h.qm6, ↓h.qm7, ↓h.qm8, ↓h.qm9, ↓h.qm10, ↓h.qm11, ↓h.qm12, ↓h.qm13, ↓h.qm14, ↓h.qm15, ↓h.qm16, ↓h.qm17, ↓h.qm18, ↓h.qm19, ↓h.qm20, ↓h.qm21, ↓h.qm22, ↓h.qm23, ↓h.qm24, h.lt, kd_0, kd_1, kd_2, kd_3, kd_r, kd_ra, kd_rb, kd_rc, kd_rd, ln_ra, ln_rb, ln_rc, ln_rd, kd_c, kd_ca, ln_ca, kd_t, kd_ta, kd_tb, kd_tc, ln_ta, ln_tb, ln_tc, ln_1, ln_2, ln_3, ln_51, kd_27, kd_28, kd_29, kd_30, kd_31, kd_32, kd_33, kd_34, kd_35, kd_36, kd_37, kd_38, kd_39, kd_40, kd_41, kd_42, kd_43, kd_44, kd_45, kd_46, kd_47, kd_48, kd_49, kd_50, kd_51, ln_28, ln_29, ln_30, ln_31, ln_32, ln_33, ln_34, ln_35, ln_36, ln_37, ln_38, ln_39, ln_40, ln_41, ln_42, ln_43, ln_44, ln_45, ln_46, ln_47, ln_48, ln_49, ln_50, inb_n, cl_n, g_n_s_i, g_n_s_l, mul_3, mul_4, mul_6, mul_61, nI_add, nI_1, nle_0, nle_1, nle_2, nle_3, nle_4, nle_5, nle_6, nle_7, nle_60, nle_61, nlt_0, nlt_1, nlt_2, nlt_3, nlt_4, nlt_5, nlt_6, nlt_7, nlt_60, nlt_61, nge_0, nge_1, nge_2, nge_3, nge_4, nge_5, nge_6, nge_7, nge_60, nge_61, ngt_0, ngt_1, ngt_2, ngt_3, ngt_4, ngt_5, ngt_6, ngt_7, ngt_60, ngt_61, neq_0, neq_1, neq_2, neq_3, neq_4, neq_5, neq_6, neq_7, neq_60, neq_61, Nat.not_lt_zero, and_self, and_true, true_and, or_true, true_or, if_true, if_false, or_self, and_false, false_and, or_false, false_or, not_true_eq_false, not_false_eq_true, ne_eq, reduceCtorEq, eq_self, bind_s, c10, c01, c20, c30, c40, cl_0, inb_0, onI_l, onI_r, onV_l, onV_r, b_M_propose_126, hn]
theorem en_mp {σ : Sg} {n a : Nat} {x : Int32} : b_M_propose_126 (n + 1) σ a x (nI (2 + 1)) = some σ := by
  simp only [b_M_propose_126]
  rw [if_pos (by decide)]
theorem p_mp {b : Nat} {σ : Sg} (h : SN b σ) {t : Nat} (ht : t < 61) : b_M_propose_126 1000 σ 27 (nI t) 0 = some (fr3 σ t) := by
  show b_M_propose_126 (999 + 1) σ 27 (nI t) (nI 0) = _
  rw [st_mp h (n := 998 + 1) (by omega) ht, st_mp (by exact h) (n := 997 + 1) (by omega) ht, st_mp (by exact h) (n := 996 + 1) (by omega) ht, en_mp]
  rfl
/-- the class's client has begun to propose -/
def sp (σ : Sg) (c tm : Nat) : Sg := s_i (s_i (s_i (s_i (s_i (s_i σ (19 + 2 * c) 2 (nI tm)) (19 + 2 * c) 1 2) (20 + 2 * c) 0 (-1)) (20 + 2 * c) 1 (-1)) (20 + 2 * c) 2 (-1)) (19 + 2 * c) 4 0
theorem p_start {b : Nat} {σ : Sg} (h : SN b σ) {c tm : Nat} (hc : c < 4) : f_C_startProposal σ (19 + 2 * c) (nI tm) = some (sp σ c tm) := by
  have h1 : SN b (s_i (s_i σ (19 + 2 * c) 2 (nI tm)) (19 + 2 * c) 1 2) := h
  have q := p_forgetR (σ := s_i (s_i σ (19 + 2 * c) 2 (nI tm)) (19 + 2 * c) 1 2) (by rw [h1.1]; omega) hc (h1.c5 hc)
  simp (disch := omega) only [↓reduceIte, ↓wi_e, ↓wn_e, ↓rc_i, ↓rc_l, ↓h.q0, ↓h.q1, ↓h.q2, ↓h.qr, ↓h.qc, ↓h.qr2, ↓h.qr3, ↓h.qr4, ↓h.qr5, ↓h.qc5, ↓h.qt, ↓h.qt4, ↓h.qt5, ↓h.qt6, ↓h.qm2, ↓h.qm3, ↓h.qm4, ↓h.qm5, ↓h.qm6, ↓h.qm7, ↓h.qm8, ↓h.qm9, ↓h.qm10, ↓h.qm11, ↓h.qm12, ↓h.qm13, ↓h.qm14, ↓h.qm15, ↓h.qm16, ↓h.qm17, ↓h.qm18, ↓h.qm19, ↓h.qm20, ↓h.qm21, ↓h.qm22, ↓h.qm23, ↓h.qm24, h.lt, kd_0, kd_1, kd_2, kd_3, kd_r, kd_ra, kd_rb, kd_rc, kd_rd, ln_ra, ln_rb, ln_rc, ln_rd, kd_c, kd_ca, ln_ca, kd_t, kd_ta, kd_tb, kd_tc, ln_ta, ln_tb, ln_tc, ln_1, ln_2, ln_3, ln_51, kd_27, kd_28, kd_29, kd_30, kd_31, kd_32, kd_33, kd_34, kd_35, kd_36, kd_37, kd_38, kd_39, kd_40, kd_41, kd_42, kd_43, kd_44, kd_45, kd_46, kd_47, kd_48, kd_49, kd_50, kd_51, ln_28, ln_29, ln_30, ln_31, ln_32, ln_33, ln_34, ln_35, ln_36, ln_37, ln_38, ln_39, ln_40, ln_41, ln_42, ln_43, ln_44, ln_45, ln_46, ln_47, ln_48, ln_49, ln_50, inb_n, cl_n, g_n_s_i, g_n_s_l, mul_3, mul_4, mul_6, mul_61, nI_add, nI_1, nle_0, nle_1, nle_2, nle_3, nle_4, nle_5, nle_6, nle_7, nle_60, nle_61, nlt_0, nlt_1, nlt_2, nlt_3, nlt_4, nlt_5, nlt_6, nlt_7, nlt_60, nlt_61, nge_0, nge_1, nge_2, nge_3, nge_4, nge_5, nge_6, nge_7, nge_60, nge_61, ngt_0, ngt_1, ngt_2, ngt_3, ngt_4, ngt_5, ngt_6, ngt_7, ngt_60, ngt_61, neq_0, neq_1, neq_2, neq_3, neq_4, neq_5, neq_6, neq_7, neq_60, neq_61, Nat.not_lt_zero, and_self, and_true, true_and, or_true, true_or, if_true, if_false, or_self, and_false, false_and, or_false, false_or, not_true_eq_false, not_false_eq_true, ne_eq, reduceCtorEq, eq_self, bind_s, c10, c01, c20, c30, c40, cl_0, inb_0, onI_l, onI_r, onV_l, onV_r, f_C_startProposal, ↓bq q, sp]
theorem p_may {b : Nat} {σ : Sg} (h : SN b σ) {c : Nat} (hc : c < 4) : f_C_mayPropose σ (19 + 2 * c) = some (if g_i σ (19 + 2 * c) 1 = 1 ∨ g_i σ (19 + 2 * c) 1 = 2 then 1 else 0) := by
  simp (disch := omega) only [↓reduceIte, ↓wi_e, ↓wn_e, ↓rc_i, ↓rc_l, ↓h.q0, ↓h.q1, ↓h.q2, ↓h.qr, ↓h.qc, ↓h.qr2, ↓h.qr3, ↓h.qr4, ↓h.qr5, ↓h.qc5, ↓h.qt, ↓h.qt4, ↓h.qt5, ↓h.qt6, ↓h.qm2, ↓h.qm3, ↓h.qm4, ↓h.qm5, ↓h.qm6, ↓h.qm7, ↓h.qm8, ↓h.qm9, ↓h.qm10, ↓h.qm11, ↓h.qm12, ↓h.qm13, ↓h.qm14, ↓h.qm15, ↓h.qm16, ↓h.qm17, ↓h.qm18, ↓h.qm19, ↓h.qm20, ↓h.qm21, ↓h.qm22, ↓h.qm23, ↓h.qm24, h.lt, kd_0, kd_1, kd_2, kd_3, kd_r, kd_ra, kd_rb, kd_rc, kd_rd, ln_ra, ln_rb, ln_rc, ln_rd, kd_c, kd_ca, ln_ca, kd_t, kd_ta, kd_tb, kd_tc, ln_ta, ln_tb, ln_tc, ln_1, ln_2, ln_3, ln_51, kd_27, kd_28, kd_29, kd_30, kd_31, kd_32, kd_33, kd_34, kd_35, kd_36, kd_37, kd_38, kd_39, kd_40, kd_41, kd_42, kd_43, kd_44, kd_45, kd_46, kd_47, kd_48, kd_49, kd_50, kd_51, ln_28, ln_29, ln_30, ln_31, ln_32, ln_33, ln_34, ln_35, ln_36, ln_37, ln_38, ln_39, ln_40, ln_41, ln_42, ln_43, ln_44, ln_45, ln_46, ln_47, ln_48, ln_49, ln_50, inb_n, cl_n, g_n_s_i, g_n_s_l, mul_3, mul_4, mul_6, mul_61, nI_add, nI_1, nle_0, nle_1, nle_2, nle_3, nle_4, nle_5, nle_6, nle_7, nle_60, nle_61, nlt_0, nlt_1, nlt_2, nlt_3, nlt_4, nlt_5, nlt_6, nlt_7, nlt_60, nlt_61, nge_0, nge_1, nge_2, nge_3, nge_4, nge_5, nge_6, nge_7, nge_60, nge_61, ngt_0, ngt_1, ngt_2, ngt_3, ngt_4, ngt_5, ngt_6, ngt_7, ngt_60, ngt_61, neq_0, neq_1, neq_2, neq_3, neq_4, neq_5, neq_6, neq_7, neq_60, neq_61, Nat.not_lt_zero, and_self, and_true, true_and, or_true, true_or, if_true, if_false, or_self, and_false, false_and, or_false, false_or, not_true_eq_false, not_false_eq_true, ne_eq, reduceCtorEq, eq_self, bind_s, c10, c01, c20, c30, c40, cl_0, inb_0, onI_l, onI_r, onV_l, onV_r, b_C_mayPropose_21, b_C_mayPropose_16, f_C_mayPropose]
  grind
theorem mprop_c {b : Nat} {σ : Sg} (h : SN b σ) {c tm : Nat} (hc : c < 4) (h1 : 1 ≤ tm) (h2 : tm ≤ 1000000) : f_M_propose σ 27 (nI c) (nI tm) = b_M_propose_77 σ 27 (nI c) (nI tm) 27 (if (g_i σ 36 c = 1 ∨ g_i σ 36 c = 2) ∧ g_i σ 39 c < nI tm then 0 else 2) := by
  have n1 : ¬ tm < 1 := by omega
  have n2 : ¬ 1000000 < tm := by omega
  simp (disch := omega) only [↓reduceIte, ↓wi_e, ↓wn_e, ↓rc_i, ↓rc_l, ↓h.q0, ↓h.q1, ↓h.q2, ↓h.qr, ↓h.qc, ↓h.qr2, ↓h.qr3, ↓h.qr4, ↓h.qr5, ↓h.qc5, ↓h.qt, ↓h.qt4, ↓h.qt5, ↓h.qt6, ↓h.qm2, ↓h.qm3, ↓h.qm4, ↓h.qm5, ↓h.qm6, ↓h.qm7, ↓h.qm8, ↓h.qm9, ↓h.qm10, ↓h.qm11, ↓h.qm12, ↓h.qm13, ↓h.qm14, ↓h.qm15, ↓h.qm16, ↓h.qm17, ↓h.qm18, ↓h.qm19, ↓h.qm20, ↓h.qm21, ↓h.qm22, ↓h.qm23, ↓h.qm24, h.lt, kd_0, kd_1, kd_2, kd_3, kd_r, kd_ra, kd_rb, kd_rc, kd_rd, ln_ra, ln_rb, ln_rc, ln_rd, kd_c, kd_ca, ln_ca, kd_t, kd_ta, kd_tb, kd_tc, ln_ta, ln_tb, ln_tc, ln_1, ln_2, ln_3, ln_51, kd_27, kd_28, kd_29, kd_30, kd_31, kd_32, kd_33, kd_34, kd_35, kd_36, kd_37, kd_38, kd_39, kd_40, kd_41, kd_42, kd_43, kd_44, kd_45, kd_46, kd_47, kd_48, kd_49, kd_50, kd_51, ln_28, ln_29, ln_30, ln_31, ln_32, ln_33, ln_34, ln_35, ln_36, ln_37, ln_38, ln_39, ln_40, ln_41, ln_42, ln_43, ln_44, ln_45, ln_46, ln_47, ln_48, ln_49, ln_50, inb_n, cl_n, g_n_s_i, g_n_s_l, mul_3, mul_4, mul_6, mul_61, nI_add, nI_1, nle_0, nle_1, nle_2, nle_3, nle_4, nle_5, nle_6, nle_7, nle_60, nle_61, nlt_0, nlt_1, nlt_2, nlt_3, nlt_4, nlt_5, nlt_6, nlt_7, nlt_60, nlt_61, nge_0, nge_1, nge_2, nge_3, nge_4, nge_5, nge_6, nge_7, nge_60, nge_61, ngt_0, ngt_1, ngt_2, ngt_3, ngt_4, ngt_5, ngt_6, ngt_7, ngt_60, ngt_61, neq_0, neq_1, neq_2, neq_3, neq_4, neq_5, neq_6, neq_7, neq_60, neq_61, Nat.not_lt_zero, and_self, and_true, true_and, or_true, true_or, if_true, if_false, or_self, and_false, false_and, or_false, false_or, not_true_eq_false, not_false_eq_true, ne_eq, reduceCtorEq, eq_self, bind_s, c10, c01, c20, c30, c40, cl_0, inb_0, onI_l, onI_r, onV_l, onV_r, f_M_propose, b_M_propose_22, b_M_propose_41, b_M_propose_46, b_M_propose_72, ↓bq (p_mC1 hc), ↓bq (p_in _ _ _), nlt_1000000, n1, n2, ↓bq (p_stateOf h hc)]
  grind
theorem mprop_77 {b : Nat} {σ : Sg} (h : SN b σ) (x y z : Int32) (hx : z ≠ 0) : b_M_propose_77 σ 27 x y 27 z = some (s_i σ 27 0 z) := by
  simp (disch := omega) only [↓reduceIte, ↓wi_e, ↓wn_e, ↓rc_i, ↓rc_l, ↓h.q0, ↓h.q1, ↓h.q2, ↓h.qr, ↓h.qc, ↓h.qr2, ↓h.qr3, ↓h.qr4, ↓h.qr5, ↓h.qc5, ↓h.qt, ↓h.qt4, ↓h.qt5, ↓h.qt6, ↓h.qm2, ↓h.qm3, ↓h.qm4, ↓h.qm5, ↓h.qm6, ↓h.qm7, ↓h.qm8, ↓h.qm9, ↓h.qm10, ↓h.qm11, ↓h.qm12, ↓h.qm13, ↓h.qm14, ↓h.qm15, ↓h.qm16, ↓h.qm17, ↓h.qm18, ↓h.qm19, ↓h.qm20, ↓h.qm21, ↓h.qm22, ↓h.qm23, ↓h.qm24, h.lt, kd_0, kd_1, kd_2, kd_3, kd_r, kd_ra, kd_rb, kd_rc, kd_rd, ln_ra, ln_rb, ln_rc, ln_rd, kd_c, kd_ca, ln_ca, kd_t, kd_ta, kd_tb, kd_tc, ln_ta, ln_tb, ln_tc, ln_1, ln_2, ln_3, ln_51, kd_27, kd_28, kd_29, kd_30, kd_31, kd_32, kd_33, kd_34, kd_35, kd_36, kd_37, kd_38, kd_39, kd_40, kd_41, kd_42, kd_43, kd_44, kd_45, kd_46, kd_47, kd_48, kd_49, kd_50, kd_51, ln_28, ln_29, ln_30, ln_31, ln_32, ln_33, ln_34, ln_35, ln_36, ln_37, ln_38, ln_39, ln_40, ln_41, ln_42, ln_43, ln_44, ln_45, ln_46, ln_47, ln_48, ln_49, ln_50, inb_n, cl_n, g_n_s_i, g_n_s_l, mul_3, mul_4, mul_6, mul_61, nI_add, nI_1, nle_0, nle_1, nle_2, nle_3, nle_4, nle_5, nle_6, nle_7, nle_60, nle_61, nlt_0, nlt_1, nlt_2, nlt_3, nlt_4, nlt_5, nlt_6, nlt_7, nlt_60, nlt_61, nge_0, nge_1, nge_2, nge_3, nge_4, nge_5, nge_6, nge_7, nge_60, nge_61, ngt_0, ngt_1, ngt_2, ngt_3, ngt_4, ngt_5, ngt_6, ngt_7, ngt_60, ngt_61, neq_0, neq_1, neq_2, neq_3, neq_4, neq_5, neq_6, neq_7, neq_60, neq_61, Nat.not_lt_zero, and_self, and_true, true_and, or_true, true_or, if_true, if_false, or_self, and_false, false_and, or_false, false_or, not_true_eq_false, not_false_eq_true, ne_eq, reduceCtorEq, eq_self, bind_s, c10, c01, c20, c30, c40, cl_0, inb_0, onI_l, onI_r, onV_l, onV_r, b_M_propose_77, ↓bq (p_says h _), hx]
theorem mprop_a {b : Nat} {σ : Sg} (h : SN b σ) {c tm t : Nat} (hc : c < 4) (h2 : tm ≤ 1000000) (ht : t < 61) (et : g_i σ 37 c = nI t) : b_M_propose_77 σ 27 (nI c) (nI tm) 27 0 = some (fr3 (fg (s_i (s_i (s_i (s_i σ 27 0 0) 39 c (nI tm)) 28 t (nI (4 * tm + c))) 36 c 2) c) t) := by
  rw [b_M_propose_77, if_pos ⟨by rw [h.1]; omega, rfl⟩, bq (p_says h _)]
  dsimp only
  have et' : g_i (s_i σ 27 0 0) 37 c = nI t := by rw [gi_n (by omega), et]
  simp (disch := omega) only [↓reduceIte, ↓wi_e, ↓wn_e, ↓rc_i, ↓rc_l, ↓h.q0, ↓h.q1, ↓h.q2, ↓h.qr, ↓h.qc, ↓h.qr2, ↓h.qr3, ↓h.qr4, ↓h.qr5, ↓h.qc5, ↓h.qt, ↓h.qt4, ↓h.qt5, ↓h.qt6, ↓h.qm2, ↓h.qm3, ↓h.qm4, ↓h.qm5, ↓h.qm6, ↓h.qm7, ↓h.qm8, ↓h.qm9, ↓h.qm10, ↓h.qm11, ↓h.qm12, ↓h.qm13, ↓h.qm14, ↓h.qm15, ↓h.qm16, ↓h.qm17, ↓h.qm18, ↓h.qm19, ↓h.qm20, ↓h.qm21, ↓h.qm22, ↓h.qm23, ↓h.qm24, h.lt, kd_0, kd_1, kd_2, kd_3, kd_r, kd_ra, kd_rb, kd_rc, kd_rd, ln_ra, ln_rb, ln_rc, ln_rd, kd_c, kd_ca, ln_ca, kd_t, kd_ta, kd_tb, kd_tc, ln_ta, ln_tb, ln_tc, ln_1, ln_2, ln_3, ln_51, kd_27, kd_28, kd_29, kd_30, kd_31, kd_32, kd_33, kd_34, kd_35, kd_36, kd_37, kd_38, kd_39, kd_40, kd_41, kd_42, kd_43, kd_44, kd_45, kd_46, kd_47, kd_48, kd_49, kd_50, kd_51, ln_28, ln_29, ln_30, ln_31, ln_32, ln_33, ln_34, ln_35, ln_36, ln_37, ln_38, ln_39, ln_40, ln_41, ln_42, ln_43, ln_44, ln_45, ln_46, ln_47, ln_48, ln_49, ln_50, inb_n, cl_n, g_n_s_i, g_n_s_l, mul_3, mul_4, mul_6, mul_61, nI_add, nI_1, nle_0, nle_1, nle_2, nle_3, nle_4, nle_5, nle_6, nle_7, nle_60, nle_61, nlt_0, nlt_1, nlt_2, nlt_3, nlt_4, nlt_5, nlt_6, nlt_7, nlt_60, nlt_61, nge_0, nge_1, nge_2, nge_3, nge_4, nge_5, nge_6, nge_7, nge_60, nge_61, ngt_0, ngt_1, ngt_2, ngt_3, ngt_4, ngt_5, ngt_6, ngt_7, ngt_60, ngt_61, neq_0, neq_1, neq_2, neq_3, neq_4, neq_5, neq_6, neq_7, neq_60, neq_61, Nat.not_lt_zero, and_self, and_true, true_and, or_true, true_or, if_true, if_false, or_self, and_false, false_and, or_false, false_or, not_true_eq_false, not_false_eq_true, ne_eq, reduceCtorEq, eq_self, bind_s, c10, c01, c20, c30, c40, cl_0, inb_0, onI_l, onI_r, onV_l, onV_r, et, et']
  rw [bq (p_mfor (σ := s_i (s_i (s_i (s_i σ 27 0 0) 39 c (nI tm)) 28 t (nI (4 * tm + c))) 36 c 2) h hc)]
  exact p_mp (by exact h) ht
theorem nI_s {n : Nat} (hn : n ≤ 4000003) : (nI n).toInt = n := nI_toInt (by omega)
theorem r_prop' {b : Nat} {M W : Nat → Nat} {σ : Sg} (h : R b M W σ) {c t tm : Nat} (hc : c < 4) (ht1 : 1 ≤ t) (ht2 : t ≤ b) (s12 : g_i σ 36 c = 1 ∨ g_i σ 36 c = 2) (et : g_i σ 37 c = nI t) (h1 : 1 ≤ tm) (h2 : tm ≤ 1000000) (hlt : g_i σ 39 c < nI tm) {τ : Sg} (hs : SN b τ) (hF : ∀ a k, (a ≠ 48 + 4 * t ∨ k ≠ 1) ∧ (a ≠ 19 + 2 * c ∨ (k ≠ 1 ∧ k ≠ 2 ∧ k ≠ 4)) ∧ (a ≠ 20 + 2 * c ∨ 3 ≤ k) ∧ ((a ≠ 8 ∧ a ≠ 13 ∧ a ≠ 18) ∨ k ≠ t) ∧ (a ≠ 27 ∨ k ≠ 0) ∧ ((a ≠ 39 ∧ a ≠ 36) ∨ k ≠ c) ∧ (a ≠ 28 ∨ k ≠ t) ∧ ((a ≠ 40 ∧ a ≠ 41) ∨ k < 3 * c ∨ 3 * c + 2 < k) ∧ ((a ≠ 47 ∧ a ≠ 48 ∧ a ≠ 49 ∧ a ≠ 50) ∨ (k ≠ t ∧ k ≠ 61 + t ∧ k ≠ 122 + t)) → g_i τ a k = g_i σ a k) (hr : ∀ a k, g_r τ a k = g_r σ a k) (v1 : g_i τ (48 + 4 * t) 1 = nI (4 * tm + c)) (v2 : g_i τ (19 + 2 * c) 1 = 2) (v3 : g_i τ (19 + 2 * c) 2 = nI tm) (v4 : g_i τ (19 + 2 * c) 4 = 0) (v5 : ∀ r, r < 3 → g_i τ (20 + 2 * c) r = -1) (v6 : ∀ i, i < 3 → g_i τ (8 + 5 * i) t = -1) (v7 : g_i τ 39 c = nI tm) (v8 : g_i τ 28 t = nI (4 * tm + c)) (v9 : g_i τ 36 c = 2) (v10 : ∀ r, r < 3 → g_i τ 40 (3 * c + r) = -1) (v11 : ∀ r, r < 3 → g_i τ 41 (3 * c + r) = 0) (v12 : ∀ i, i < 3 → g_i τ 47 (61 * i + t) = -1 ∧ g_i τ 48 (61 * i + t) = 0 ∧ g_i τ 49 (61 * i + t) = 0 ∧ g_i τ 50 (61 * i + t) = 0) : R b M W τ := by
  have hb6 := h.r0.b60
  have ne0 : g_i σ 36 c ≠ 0 := by
    rcases s12 with q | q <;> rw [q] <;> decide
  have hS : (nI (4 * tm + c)).toInt = 4 * tm + c := by
    rw [nI_s (by omega)]
    omega
  have hT : (nI tm).toInt = tm := nI_s (by omega)
  have hL : (g_i σ 39 c).toInt < tm := by
    rw [← hT]
    exact Int32.lt_iff_toInt_lt.mp hlt
  have nB : ∀ x, Bd σ x → x ≠ nI (4 * tm + c) := by
    intro x hx e
    subst e
    have := hx.2.2 c hc (by rw [hS]; omega)
    rw [hS] at this
    omega
  have nz : nI (4 * tm + c) ≠ 0 := by
    rw [ne_eq, neq_0 (by omega)]
    omega
  have other : ∀ d, d < 4 → d ≠ c → ∀ u, g_i σ 37 d = nI u → g_i σ 36 d ≠ 0 → u ≠ t := by
    intro d hd hne u eu hz e
    subst e
    exact h.r12 d hd c hc hne hz ne0 (eu.trans et.symm)
  refine ⟨hs, by unfold Z1; simp (disch := omega) only [hF, v1, v2, v3, v4, v7, v8, v9]; exact h.r1, ?_, ?_, ?_, ?_, ?_, ⟨?_, ?_⟩, ?_, ?_, ?_, ?_, ?_, ?_, ?_, ?_, ?_, ⟨?_, ?_, ?_⟩⟩
  · intro i hi; have q := h.r2 i hi; revert q; simp (disch := omega) only [hF, v1, v2, v3, v4, v7, v8, v9]; exact id
  · intro i hi k hk; have q := h.r3 i hi k hk; revert q; simp (disch := omega) only [hF, v1, v2, v3, v4, v7, v8, v9]; exact id
  · intro i hi k hk; have q := h.r4 i hi k hk; revert q; simp (disch := omega) only [hF, v1, v2, v3, v4, v7, v8, v9]; exact id
  · intro i hi j hj k hk; have q := h.r5 i hi j hj k hk; revert q; simp (disch := omega) only [hF, v1, v2, v3, v4, v7, v8, v9]; exact id
  · intro i hi u hu
    by_cases e : u = t
    · subst e
      obtain ⟨a1, a2, a3, a4⟩ := v12 i hi
      rw [a1, a2, a3, a4]
      exact Or.inl ⟨v6 i hi, rfl, rfl, rfl, rfl⟩
    · have q := h.r6 i hi u hu; revert q; simp (disch := omega) only [hF, v1, v2, v3, v4, v7, v8, v9]; exact id
  · intro i hi u hu hbu; have q := h.r7.1 i hi u hu hbu; revert q; simp (disch := omega) only [hF, v1, v2, v3, v4, v7, v8, v9]; exact id
  · intro u hbu hu; have q := h.r7.2 u hbu hu; revert q; simp (disch := omega) only [hF, v1, v2, v3, v4, v7, v8, v9]; exact id
  · intro d hd
    have q := h.r8 d hd
    by_cases e : d = c
    · subst e
      rw [v2, v9, v3, v7]
      exact ⟨rfl, ⟨2, by omega, rfl⟩, rfl, fun e => absurd e (by decide)⟩
    · revert q; simp (disch := omega) only [hF, v1, v2, v3, v4, v7, v8, v9]; exact id
  · intro d hd
    have q := h.r9 d hd
    rw [hr]
    by_cases e : d = c
    · subst e
      rw [v9]
      simp (disch := omega) only [hF, v1, v2, v3, v4, v7, v8, v9]
      exact ⟨fun e => absurd e (by decide), fun _ => q.2 ne0⟩
    · revert q; simp (disch := omega) only [hF, v1, v2, v3, v4, v7, v8, v9]; exact id
  · intro d hd
    have q := h.r10 d hd
    by_cases e : d = c
    · subst e
      intro _
      refine ⟨fun r hr => ?_, 0, by omega, v4, fun r hr => ?_⟩
      · rw [v5 r hr, v10 r hr]; exact ⟨rfl, Or.inl rfl⟩
      · rw [v11 r hr, Nat.zero_testBit]; rfl
    · intro z
      have z' : g_i σ 36 d ≠ 0 := by revert z; simp (disch := omega) only [hF, v1, v2, v3, v4, v7, v8, v9]; exact id
      obtain ⟨q1, m, hm, q2, q3⟩ := q z'
      refine ⟨fun r hr => ?_, m, hm, ?_, fun r hr => ?_⟩
      · have := q1 r hr; revert this; simp (disch := omega) only [hF, v1, v2, v3, v4, v7, v8, v9]; exact id
      · revert q2; simp (disch := omega) only [hF, v1, v2, v3, v4, v7, v8, v9]; exact id
      · have := q3 r hr; revert this; simp (disch := omega) only [hF, v1, v2, v3, v4, v7, v8, v9]; exact id
  · intro u hu1 hu2
    obtain ⟨q1, q2, q3, q4⟩ := h.r11 u hu1 hu2
    refine ⟨by simp (disch := omega) only [hF, v1, v2, v3, v4, v7, v8, v9]; exact q1, ?_, ?_, ?_⟩
    · by_cases e : u = t
      · subst e
        rw [v1, v8]
      · simp (disch := omega) only [hF, v1, v2, v3, v4, v7, v8, v9]; exact q2
    · exact q3.cg (by simp (disch := omega) only [hF, v1, v2, v3, v4, v7, v8, v9]) (by simp (disch := omega) only [hF, v1, v2, v3, v4, v7, v8, v9]) (fun j hj => ⟨by simp (disch := omega) only [hF, v1, v2, v3, v4, v7, v8, v9], by simp (disch := omega) only [hF, v1, v2, v3, v4, v7, v8, v9], by simp (disch := omega) only [hF, v1, v2, v3, v4, v7, v8, v9]⟩) (fun k' hk' => ⟨by simp (disch := omega) only [hF, v1, v2, v3, v4, v7, v8, v9], by simp (disch := omega) only [hF, v1, v2, v3, v4, v7, v8, v9]⟩)
    · exact q4.cg (by simp (disch := omega) only [hF, v1, v2, v3, v4, v7, v8, v9]) (by simp (disch := omega) only [hF, v1, v2, v3, v4, v7, v8, v9]) (fun j hj => ⟨by simp (disch := omega) only [hF, v1, v2, v3, v4, v7, v8, v9], by simp (disch := omega) only [hF, v1, v2, v3, v4, v7, v8, v9]⟩) (fun k' hk' => by simp (disch := omega) only [hF, v1, v2, v3, v4, v7, v8, v9])
  · intro d hd d2 hd2 hne
    have q := h.r12 d hd d2 hd2 hne
    by_cases e : d = c
    · subst e
      simp (disch := omega) only [hF, v1, v2, v3, v4, v7, v8, v9]
      intro _ z
      exact q ne0 z
    · by_cases e' : d2 = c
      · subst e'
        simp (disch := omega) only [hF, v1, v2, v3, v4, v7, v8, v9]
        intro z _
        exact q z ne0
      · revert q; simp (disch := omega) only [hF, v1, v2, v3, v4, v7, v8, v9]; exact id
  · intro d hd u hu
    have q := h.r13 d hd u hu
    by_cases e : d = c
    · subst e
      rw [hF 37 d (by omega), et, neq (by omega) (by omega)]
      intro z
      subst z
      refine ⟨fun z => ?_, fun _ i hi => (v12 i hi).2.2⟩
      rw [v9] at z
      exact absurd z (by decide)
    · intro z
      have z' : g_i σ 37 d = nI u := by revert z; simp (disch := omega) only [hF, v1, v2, v3, v4, v7, v8, v9]; exact id
      have st : g_i τ 36 d = g_i σ 36 d := by simp (disch := omega) only [hF, v1, v2, v3, v4, v7, v8, v9]
      rw [st]
      refine ⟨fun y => ?_, fun y i hi => ?_⟩
      · have nu := other d hd e u z' (by rw [y]; decide)
        simp (disch := omega) only [hF, v1, v2, v3, v4, v7, v8, v9]
        exact (q z').1 y
      · have nu := other d hd e u z' (by rcases y with y | y | y <;> rw [y] <;> decide)
        simp (disch := omega) only [hF, v1, v2, v3, v4, v7, v8, v9]
        exact (q z').2 y i hi
  · intro i hi u hu1 hu2 k hk
    have q := h.r14 i hi u hu1 hu2 k hk
    by_cases e : u = t
    · subst e
      rw [(v12 i hi).2.2.1]
      intro z
      exact absurd rfl z
    · revert q; simp (disch := omega) only [hF, v1, v2, v3, v4, v7, v8, v9]; exact id
  · intro u hu1 hu2 i hi k hk
    have q := h.r15 u hu1 hu2 i hi k hk
    by_cases e : u = t
    · subst e
      simp (disch := omega) only [hF, v1, v2, v3, v4, v7, v8, v9]
      intro _ z
      exact absurd z (nB _ (h.r17.2.2 i hi k hk))
    · revert q; simp (disch := omega) only [hF, v1, v2, v3, v4, v7, v8, v9]; exact id
  · intro u hu1 hu2 u' hu1' hu2' hne
    have q := h.r16 u hu1 hu2 u' hu1' hu2' hne
    by_cases e : u = t
    · subst e
      simp (disch := omega) only [hF, v1, v2, v3, v4, v7, v8, v9]
      intro z
      exact absurd z.symm (nB _ (h.r17.2.1 u' hu1' hu2'))
    · by_cases e' : u' = t
      · subst e'
        simp (disch := omega) only [hF, v1, v2, v3, v4, v7, v8, v9]
        intro z
        exact absurd z (nB _ (h.r17.2.1 u hu1 hu2))
      · revert q; simp (disch := omega) only [hF, v1, v2, v3, v4, v7, v8, v9]; exact id
  · intro d hd
    have q := h.r17.1 d hd
    by_cases e : d = c
    · subst e
      rw [v7, hT]
      omega
    · revert q; simp (disch := omega) only [hF, v1, v2, v3, v4, v7, v8, v9]; exact id
  · intro u hu1 hu2
    by_cases e : u = t
    · subst e
      rw [v8]
      refine ⟨by rw [hS]; omega, by rw [hS]; omega, fun d hd hm => ?_⟩
      rw [hS] at hm
      have : d = c := by omega
      subst this
      rw [v7, hS, hT]
      omega
    · have q := h.r17.2.1 u hu1 hu2
      simp (disch := omega) only [hF, v1, v2, v3, v4, v7, v8, v9]
      refine ⟨q.1, q.2.1, fun d hd hm => ?_⟩
      have q3 := q.2.2 d hd hm
      by_cases e : d = c
      · subst e
        rw [v7, hT]
        omega
      · simp (disch := omega) only [hF, v1, v2, v3, v4, v7, v8, v9]
        exact q3
  · intro i hi k hk
    have q := h.r17.2.2 i hi k hk
    simp (disch := omega) only [hF, v1, v2, v3, v4, v7, v8, v9]
    refine ⟨q.1, q.2.1, fun d hd hm => ?_⟩
    have q3 := q.2.2 d hd hm
    by_cases e : d = c
    · subst e
      rw [v7, hT]
      omega
    · simp (disch := omega) only [hF, v1, v2, v3, v4, v7, v8, v9]
      exact q3
theorem fr3_s {b : Nat} {σ : Sg} (h : SN b σ) (t : Nat) : SN b (fr3 σ t) := h
theorem cr3_s {b : Nat} {σ : Sg} (h : SN b σ) (t : Nat) : SN b (cr3 σ t) := h
theorem sp_s {b : Nat} {σ : Sg} (h : SN b σ) (c tm : Nat) : SN b (sp σ c tm) := h
theorem fr3_r {σ : Sg} {t a k : Nat} : g_r (fr3 σ t) a k = g_r σ a k := rfl
theorem cr3_r {σ : Sg} {t a k : Nat} : g_r (cr3 σ t) a k = g_r σ a k := rfl
theorem sp_r {σ : Sg} {t c a k : Nat} : g_r (sp σ c t) a k = g_r σ a k := rfl
theorem sp_n {σ : Sg} {tm c a k : Nat} (h : (a ≠ 19 + 2 * c ∨ (k ≠ 1 ∧ k ≠ 2 ∧ k ≠ 4)) ∧ (a ≠ 20 + 2 * c ∨ 3 ≤ k)) : g_i (sp σ c tm) a k = g_i σ a k := by
  unfold sp
  simp (disch := omega) only [gi_n]
theorem sp_v {σ : Sg} {tm c : Nat} : g_i (sp σ c tm) (19 + 2 * c) 1 = 2 ∧ g_i (sp σ c tm) (19 + 2 * c) 2 = nI tm ∧ g_i (sp σ c tm) (19 + 2 * c) 4 = 0 ∧ ∀ r, r < 3 → g_i (sp σ c tm) (20 + 2 * c) r = -1 := by
  unfold sp
  refine ⟨?_, ?_, ?_, fun r hr => ?_⟩
  · simp (disch := omega) only [gi_n, gi_s]
  · simp (disch := omega) only [gi_n, gi_s]
  · simp (disch := omega) only [gi_n, gi_s]
  · obtain rfl | rfl | rfl : r = 0 ∨ r = 1 ∨ r = 2 := by omega
    · simp (disch := omega) only [gi_n, gi_s]
    · simp (disch := omega) only [gi_n, gi_s]
    · simp (disch := omega) only [gi_n, gi_s]
theorem r_prop {b : Nat} {M W : Nat → Nat} {σ : Sg} (h : R b M W σ) {c t tm : Nat} (hc : c < 4) (ht1 : 1 ≤ t) (ht2 : t ≤ b) (s12 : g_i σ 36 c = 1 ∨ g_i σ 36 c = 2) (et : g_i σ 37 c = nI t) (h1 : 1 ≤ tm) (h2 : tm ≤ 1000000) (hlt : g_i σ 39 c < nI tm) :
    R b M W (fr3 (fg (s_i (s_i (s_i (s_i (cr3 (sp (s_i σ (48 + 4 * t) 1 (nI (4 * tm + c))) c tm) t) 27 0 0) 39 c (nI tm)) 28 t (nI (4 * tm + c))) 36 c 2) c) t) := by
  have hb6 := h.r0.b60
  refine r_prop' h hc ht1 ht2 s12 et h1 h2 hlt (fr3_s (fg_s (((((cr3_s (sp_s (h.r0.i _ _ _) _ _) _).i _ _ _).i _ _ _).i _ _ _).i _ _ _)) _) ?_ ?_ ?_ ?_ ?_ ?_ ?_ ?_ ?_ ?_ ?_ ?_ ?_ ?_
  · intro a k q
    simp (disch := omega) only [fr3_n, fg_n, cr3_n, sp_n, gi_n, gi_s]
  · intro a k
    rw [fr3_r, fg_r, g_r_s_i, g_r_s_i, g_r_s_i, g_r_s_i, cr3_r, sp_r, g_r_s_i]
  · simp (disch := omega) only [fr3_n, fg_n, cr3_n, sp_n, gi_n, gi_s]
  · simp (disch := omega) only [fr3_n, fg_n, cr3_n, gi_n]; exact sp_v.1
  · simp (disch := omega) only [fr3_n, fg_n, cr3_n, gi_n]; exact sp_v.2.1
  · simp (disch := omega) only [fr3_n, fg_n, cr3_n, gi_n]; exact sp_v.2.2.1
  · intro r hr
    simp (disch := omega) only [fr3_n, fg_n, cr3_n, gi_n]
    exact sp_v.2.2.2 r hr
  · intro i hi
    simp (disch := omega) only [fr3_n, fg_n, gi_n, cr3_v]
  · simp (disch := omega) only [fr3_n, fg_n, cr3_n, sp_n, gi_n, gi_s]
  · simp (disch := omega) only [fr3_n, fg_n, cr3_n, sp_n, gi_n, gi_s]
  · simp (disch := omega) only [fr3_n, fg_n, cr3_n, sp_n, gi_n, gi_s]
  · intro r hr
    rw [fr3_n (by omega), fg_a hr]
  · intro r hr
    rw [fr3_n (by omega), fg_b hr]
  · intro i hi
    exact fr3_v hi
theorem o_propose {b : Nat} {M W : Nat → Nat} {σ : Sg} (h : R b M W σ) (x y : Int32) : OpV (f_L_propose σ 0 x y) (fun s => f_M_propose s 27 x y) := by
  have h0 := h.r0
  have hb6 := h0.b60
  rcases oor4 (x := x) with ⟨c, hc, rfl⟩ | hx
  rotate_left
  · refine OpV.bad h (k := 1) ?_ ?_
    · simp (disch := omega) only [↓reduceIte, ↓wi_e, ↓wn_e, ↓rc_i, ↓rc_l, ↓h0.q0, ↓h0.q1, ↓h0.q2, ↓h0.qr, ↓h0.qc, ↓h0.qr2, ↓h0.qr3, ↓h0.qr4, ↓h0.qr5, ↓h0.qc5, ↓h0.qt, ↓h0.qt4, ↓h0.qt5, ↓h0.qt6, ↓h0.qm2, ↓h0.qm3, ↓h0.qm4, ↓h0.qm5, ↓h0.qm6, ↓h0.qm7, ↓h0.qm8, ↓h0.qm9, ↓h0.qm10, ↓h0.qm11, ↓h0.qm12, ↓h0.qm13, ↓h0.qm14, ↓h0.qm15, ↓h0.qm16, ↓h0.qm17, ↓h0.qm18, ↓h0.qm19, ↓h0.qm20, ↓h0.qm21, ↓h0.qm22, ↓h0.qm23, ↓h0.qm24, h0.lt, kd_0, kd_1, kd_2, kd_3, kd_r, kd_ra, kd_rb, kd_rc, kd_rd, ln_ra, ln_rb, ln_rc, ln_rd, kd_c, kd_ca, ln_ca, kd_t, kd_ta, kd_tb, kd_tc, ln_ta, ln_tb, ln_tc, ln_1, ln_2, ln_3, ln_51, kd_27, kd_28, kd_29, kd_30, kd_31, kd_32, kd_33, kd_34, kd_35, kd_36, kd_37, kd_38, kd_39, kd_40, kd_41, kd_42, kd_43, kd_44, kd_45, kd_46, kd_47, kd_48, kd_49, kd_50, kd_51, ln_28, ln_29, ln_30, ln_31, ln_32, ln_33, ln_34, ln_35, ln_36, ln_37, ln_38, ln_39, ln_40, ln_41, ln_42, ln_43, ln_44, ln_45, ln_46, ln_47, ln_48, ln_49, ln_50, inb_n, cl_n, g_n_s_i, g_n_s_l, mul_3, mul_4, mul_6, mul_61, nI_add, nI_1, nle_0, nle_1, nle_2, nle_3, nle_4, nle_5, nle_6, nle_7, nle_60, nle_61, nlt_0, nlt_1, nlt_2, nlt_3, nlt_4, nlt_5, nlt_6, nlt_7, nlt_60, nlt_61, nge_0, nge_1, nge_2, nge_3, nge_4, nge_5, nge_6, nge_7, nge_60, nge_61, ngt_0, ngt_1, ngt_2, ngt_3, ngt_4, ngt_5, ngt_6, ngt_7, ngt_60, ngt_61, neq_0, neq_1, neq_2, neq_3, neq_4, neq_5, neq_6, neq_7, neq_60, neq_61, Nat.not_lt_zero, and_self, and_true, true_and, or_true, true_or, if_true, if_false, or_self, and_false, false_and, or_false, false_or, not_true_eq_false, not_false_eq_true, ne_eq, reduceCtorEq, eq_self, bind_s, c10, c01, c20, c30, c40, cl_0, inb_0, onI_l, onI_r, onV_l, onV_r, f_L_propose, f_G_propose, b_G_propose_18, ↓bq (p_isC0 hx)]
    · have c2 : ((0 : Int32) = 2) = False := by decide
      simp (disch := omega) only [↓reduceIte, ↓wi_e, ↓wn_e, ↓rc_i, ↓rc_l, ↓h0.q0, ↓h0.q1, ↓h0.q2, ↓h0.qr, ↓h0.qc, ↓h0.qr2, ↓h0.qr3, ↓h0.qr4, ↓h0.qr5, ↓h0.qc5, ↓h0.qt, ↓h0.qt4, ↓h0.qt5, ↓h0.qt6, ↓h0.qm2, ↓h0.qm3, ↓h0.qm4, ↓h0.qm5, ↓h0.qm6, ↓h0.qm7, ↓h0.qm8, ↓h0.qm9, ↓h0.qm10, ↓h0.qm11, ↓h0.qm12, ↓h0.qm13, ↓h0.qm14, ↓h0.qm15, ↓h0.qm16, ↓h0.qm17, ↓h0.qm18, ↓h0.qm19, ↓h0.qm20, ↓h0.qm21, ↓h0.qm22, ↓h0.qm23, ↓h0.qm24, h0.lt, kd_0, kd_1, kd_2, kd_3, kd_r, kd_ra, kd_rb, kd_rc, kd_rd, ln_ra, ln_rb, ln_rc, ln_rd, kd_c, kd_ca, ln_ca, kd_t, kd_ta, kd_tb, kd_tc, ln_ta, ln_tb, ln_tc, ln_1, ln_2, ln_3, ln_51, kd_27, kd_28, kd_29, kd_30, kd_31, kd_32, kd_33, kd_34, kd_35, kd_36, kd_37, kd_38, kd_39, kd_40, kd_41, kd_42, kd_43, kd_44, kd_45, kd_46, kd_47, kd_48, kd_49, kd_50, kd_51, ln_28, ln_29, ln_30, ln_31, ln_32, ln_33, ln_34, ln_35, ln_36, ln_37, ln_38, ln_39, ln_40, ln_41, ln_42, ln_43, ln_44, ln_45, ln_46, ln_47, ln_48, ln_49, ln_50, inb_n, cl_n, g_n_s_i, g_n_s_l, mul_3, mul_4, mul_6, mul_61, nI_add, nI_1, nle_0, nle_1, nle_2, nle_3, nle_4, nle_5, nle_6, nle_7, nle_60, nle_61, nlt_0, nlt_1, nlt_2, nlt_3, nlt_4, nlt_5, nlt_6, nlt_7, nlt_60, nlt_61, nge_0, nge_1, nge_2, nge_3, nge_4, nge_5, nge_6, nge_7, nge_60, nge_61, ngt_0, ngt_1, ngt_2, ngt_3, ngt_4, ngt_5, ngt_6, ngt_7, ngt_60, ngt_61, neq_0, neq_1, neq_2, neq_3, neq_4, neq_5, neq_6, neq_7, neq_60, neq_61, Nat.not_lt_zero, and_self, and_true, true_and, or_true, true_or, if_true, if_false, or_self, and_false, false_and, or_false, false_or, not_true_eq_false, not_false_eq_true, ne_eq, reduceCtorEq, eq_self, bind_s, c10, c01, c20, c30, c40, cl_0, inb_0, onI_l, onI_r, onV_l, onV_r, f_M_propose, b_M_propose_21, b_M_propose_22, b_M_propose_46, b_M_propose_77, ↓bq (p_mC0 hx), ↓bq (p_stateOf0 hx), c2, ↓bq (p_says h0 _)]
  by_cases hy : y < 1 ∨ 1000000 < y
  · refine OpV.bad h (k := 1) ?_ ?_
    · rcases hy with hy | hy
      · simp (disch := omega) only [↓reduceIte, ↓wi_e, ↓wn_e, ↓rc_i, ↓rc_l, ↓h0.q0, ↓h0.q1, ↓h0.q2, ↓h0.qr, ↓h0.qc, ↓h0.qr2, ↓h0.qr3, ↓h0.qr4, ↓h0.qr5, ↓h0.qc5, ↓h0.qt, ↓h0.qt4, ↓h0.qt5, ↓h0.qt6, ↓h0.qm2, ↓h0.qm3, ↓h0.qm4, ↓h0.qm5, ↓h0.qm6, ↓h0.qm7, ↓h0.qm8, ↓h0.qm9, ↓h0.qm10, ↓h0.qm11, ↓h0.qm12, ↓h0.qm13, ↓h0.qm14, ↓h0.qm15, ↓h0.qm16, ↓h0.qm17, ↓h0.qm18, ↓h0.qm19, ↓h0.qm20, ↓h0.qm21, ↓h0.qm22, ↓h0.qm23, ↓h0.qm24, h0.lt, kd_0, kd_1, kd_2, kd_3, kd_r, kd_ra, kd_rb, kd_rc, kd_rd, ln_ra, ln_rb, ln_rc, ln_rd, kd_c, kd_ca, ln_ca, kd_t, kd_ta, kd_tb, kd_tc, ln_ta, ln_tb, ln_tc, ln_1, ln_2, ln_3, ln_51, kd_27, kd_28, kd_29, kd_30, kd_31, kd_32, kd_33, kd_34, kd_35, kd_36, kd_37, kd_38, kd_39, kd_40, kd_41, kd_42, kd_43, kd_44, kd_45, kd_46, kd_47, kd_48, kd_49, kd_50, kd_51, ln_28, ln_29, ln_30, ln_31, ln_32, ln_33, ln_34, ln_35, ln_36, ln_37, ln_38, ln_39, ln_40, ln_41, ln_42, ln_43, ln_44, ln_45, ln_46, ln_47, ln_48, ln_49, ln_50, inb_n, cl_n, g_n_s_i, g_n_s_l, mul_3, mul_4, mul_6, mul_61, nI_add, nI_1, nle_0, nle_1, nle_2, nle_3, nle_4, nle_5, nle_6, nle_7, nle_60, nle_61, nlt_0, nlt_1, nlt_2, nlt_3, nlt_4, nlt_5, nlt_6, nlt_7, nlt_60, nlt_61, nge_0, nge_1, nge_2, nge_3, nge_4, nge_5, nge_6, nge_7, nge_60, nge_61, ngt_0, ngt_1, ngt_2, ngt_3, ngt_4, ngt_5, ngt_6, ngt_7, ngt_60, ngt_61, neq_0, neq_1, neq_2, neq_3, neq_4, neq_5, neq_6, neq_7, neq_60, neq_61, Nat.not_lt_zero, and_self, and_true, true_and, or_true, true_or, if_true, if_false, or_self, and_false, false_and, or_false, false_or, not_true_eq_false, not_false_eq_true, ne_eq, reduceCtorEq, eq_self, bind_s, c10, c01, c20, c30, c40, cl_0, inb_0, onI_l, onI_r, onV_l, onV_r, f_L_propose, f_G_propose, b_G_propose_18, ↓bq (p_isC1 hc), hy]
      · have hy' : ¬ y ≤ 1000000 := by grind
        simp (disch := omega) only [↓reduceIte, ↓wi_e, ↓wn_e, ↓rc_i, ↓rc_l, ↓h0.q0, ↓h0.q1, ↓h0.q2, ↓h0.qr, ↓h0.qc, ↓h0.qr2, ↓h0.qr3, ↓h0.qr4, ↓h0.qr5, ↓h0.qc5, ↓h0.qt, ↓h0.qt4, ↓h0.qt5, ↓h0.qt6, ↓h0.qm2, ↓h0.qm3, ↓h0.qm4, ↓h0.qm5, ↓h0.qm6, ↓h0.qm7, ↓h0.qm8, ↓h0.qm9, ↓h0.qm10, ↓h0.qm11, ↓h0.qm12, ↓h0.qm13, ↓h0.qm14, ↓h0.qm15, ↓h0.qm16, ↓h0.qm17, ↓h0.qm18, ↓h0.qm19, ↓h0.qm20, ↓h0.qm21, ↓h0.qm22, ↓h0.qm23, ↓h0.qm24, h0.lt, kd_0, kd_1, kd_2, kd_3, kd_r, kd_ra, kd_rb, kd_rc, kd_rd, ln_ra, ln_rb, ln_rc, ln_rd, kd_c, kd_ca, ln_ca, kd_t, kd_ta, kd_tb, kd_tc, ln_ta, ln_tb, ln_tc, ln_1, ln_2, ln_3, ln_51, kd_27, kd_28, kd_29, kd_30, kd_31, kd_32, kd_33, kd_34, kd_35, kd_36, kd_37, kd_38, kd_39, kd_40, kd_41, kd_42, kd_43, kd_44, kd_45, kd_46, kd_47, kd_48, kd_49, kd_50, kd_51, ln_28, ln_29, ln_30, ln_31, ln_32, ln_33, ln_34, ln_35, ln_36, ln_37, ln_38, ln_39, ln_40, ln_41, ln_42, ln_43, ln_44, ln_45, ln_46, ln_47, ln_48, ln_49, ln_50, inb_n, cl_n, g_n_s_i, g_n_s_l, mul_3, mul_4, mul_6, mul_61, nI_add, nI_1, nle_0, nle_1, nle_2, nle_3, nle_4, nle_5, nle_6, nle_7, nle_60, nle_61, nlt_0, nlt_1, nlt_2, nlt_3, nlt_4, nlt_5, nlt_6, nlt_7, nlt_60, nlt_61, nge_0, nge_1, nge_2, nge_3, nge_4, nge_5, nge_6, nge_7, nge_60, nge_61, ngt_0, ngt_1, ngt_2, ngt_3, ngt_4, ngt_5, ngt_6, ngt_7, ngt_60, ngt_61, neq_0, neq_1, neq_2, neq_3, neq_4, neq_5, neq_6, neq_7, neq_60, neq_61, Nat.not_lt_zero, and_self, and_true, true_and, or_true, true_or, if_true, if_false, or_self, and_false, false_and, or_false, false_or, not_true_eq_false, not_false_eq_true, ne_eq, reduceCtorEq, eq_self, bind_s, c10, c01, c20, c30, c40, cl_0, inb_0, onI_l, onI_r, onV_l, onV_r, f_L_propose, f_G_propose, b_G_propose_18, ↓bq (p_isC1 hc), hy', ite_self]
    · have v0 : (if y < 1 then (0 : Int32) else if 1000000 < y then 0 else 1) = 0 := by grind
      simp (disch := omega) only [↓reduceIte, ↓wi_e, ↓wn_e, ↓rc_i, ↓rc_l, ↓h0.q0, ↓h0.q1, ↓h0.q2, ↓h0.qr, ↓h0.qc, ↓h0.qr2, ↓h0.qr3, ↓h0.qr4, ↓h0.qr5, ↓h0.qc5, ↓h0.qt, ↓h0.qt4, ↓h0.qt5, ↓h0.qt6, ↓h0.qm2, ↓h0.qm3, ↓h0.qm4, ↓h0.qm5, ↓h0.qm6, ↓h0.qm7, ↓h0.qm8, ↓h0.qm9, ↓h0.qm10, ↓h0.qm11, ↓h0.qm12, ↓h0.qm13, ↓h0.qm14, ↓h0.qm15, ↓h0.qm16, ↓h0.qm17, ↓h0.qm18, ↓h0.qm19, ↓h0.qm20, ↓h0.qm21, ↓h0.qm22, ↓h0.qm23, ↓h0.qm24, h0.lt, kd_0, kd_1, kd_2, kd_3, kd_r, kd_ra, kd_rb, kd_rc, kd_rd, ln_ra, ln_rb, ln_rc, ln_rd, kd_c, kd_ca, ln_ca, kd_t, kd_ta, kd_tb, kd_tc, ln_ta, ln_tb, ln_tc, ln_1, ln_2, ln_3, ln_51, kd_27, kd_28, kd_29, kd_30, kd_31, kd_32, kd_33, kd_34, kd_35, kd_36, kd_37, kd_38, kd_39, kd_40, kd_41, kd_42, kd_43, kd_44, kd_45, kd_46, kd_47, kd_48, kd_49, kd_50, kd_51, ln_28, ln_29, ln_30, ln_31, ln_32, ln_33, ln_34, ln_35, ln_36, ln_37, ln_38, ln_39, ln_40, ln_41, ln_42, ln_43, ln_44, ln_45, ln_46, ln_47, ln_48, ln_49, ln_50, inb_n, cl_n, g_n_s_i, g_n_s_l, mul_3, mul_4, mul_6, mul_61, nI_add, nI_1, nle_0, nle_1, nle_2, nle_3, nle_4, nle_5, nle_6, nle_7, nle_60, nle_61, nlt_0, nlt_1, nlt_2, nlt_3, nlt_4, nlt_5, nlt_6, nlt_7, nlt_60, nlt_61, nge_0, nge_1, nge_2, nge_3, nge_4, nge_5, nge_6, nge_7, nge_60, nge_61, ngt_0, ngt_1, ngt_2, ngt_3, ngt_4, ngt_5, ngt_6, ngt_7, ngt_60, ngt_61, neq_0, neq_1, neq_2, neq_3, neq_4, neq_5, neq_6, neq_7, neq_60, neq_61, Nat.not_lt_zero, and_self, and_true, true_and, or_true, true_or, if_true, if_false, or_self, and_false, false_and, or_false, false_or, not_true_eq_false, not_false_eq_true, ne_eq, reduceCtorEq, eq_self, bind_s, c10, c01, c20, c30, c40, cl_0, inb_0, onI_l, onI_r, onV_l, onV_r, f_M_propose, b_M_propose_21, b_M_propose_22, b_M_propose_41, b_M_propose_46, b_M_propose_77, ↓bq (p_mC1 hc), ↓bq (p_in _ _ _), v0, ↓bq (p_stateOf h0 hc), ↓bq (p_says h0 _), ite_self]
  have ny1 : ¬ y < 1 := fun q => hy (Or.inl q)
  have ny2 : y ≤ 1000000 := by grind
  have ny0 : ¬ y < 0 := by
    intro q
    apply ny1
    rw [Int32.lt_iff_toInt_lt] at q ⊢
    have e1 : (0 : Int32).toInt = 0 := rfl
    have e2 : (1 : Int32).toInt = 1 := rfl
    omega
  obtain ⟨tm, htm, rfl⟩ := nI_of ny0
  have h1 : 1 ≤ tm := by
    rw [ngt_1 (by omega)] at ny1
    omega
  have h2 : tm ≤ 1000000 := by
    rwa [nge_1000000 (by omega)] at ny2
  obtain ⟨e1, ⟨s, hs5, es⟩, e3, e4⟩ := h.r8 c hc
  by_cases ok : (g_i σ 36 c = 1 ∨ g_i σ 36 c = 2) ∧ g_i σ 39 c < nI tm
  rotate_left
  · have hm : f_M_propose σ 27 (nI c) (nI tm) = some (s_i σ 27 0 2) := by
      rw [mprop_c h0 hc h1 h2, if_neg ok, mprop_77 h0 _ _ 2 (by decide)]
    refine OpV.bad h (k := 2) ?_ hm
    by_cases s0 : g_i σ 36 c = 0
    · have e9 := (h.r9 c hc).1 s0
      simp (disch := omega) only [↓reduceIte, ↓wi_e, ↓wn_e, ↓rc_i, ↓rc_l, ↓h0.q0, ↓h0.q1, ↓h0.q2, ↓h0.qr, ↓h0.qc, ↓h0.qr2, ↓h0.qr3, ↓h0.qr4, ↓h0.qr5, ↓h0.qc5, ↓h0.qt, ↓h0.qt4, ↓h0.qt5, ↓h0.qt6, ↓h0.qm2, ↓h0.qm3, ↓h0.qm4, ↓h0.qm5, ↓h0.qm6, ↓h0.qm7, ↓h0.qm8, ↓h0.qm9, ↓h0.qm10, ↓h0.qm11, ↓h0.qm12, ↓h0.qm13, ↓h0.qm14, ↓h0.qm15, ↓h0.qm16, ↓h0.qm17, ↓h0.qm18, ↓h0.qm19, ↓h0.qm20, ↓h0.qm21, ↓h0.qm22, ↓h0.qm23, ↓h0.qm24, h0.lt, kd_0, kd_1, kd_2, kd_3, kd_r, kd_ra, kd_rb, kd_rc, kd_rd, ln_ra, ln_rb, ln_rc, ln_rd, kd_c, kd_ca, ln_ca, kd_t, kd_ta, kd_tb, kd_tc, ln_ta, ln_tb, ln_tc, ln_1, ln_2, ln_3, ln_51, kd_27, kd_28, kd_29, kd_30, kd_31, kd_32, kd_33, kd_34, kd_35, kd_36, kd_37, kd_38, kd_39, kd_40, kd_41, kd_42, kd_43, kd_44, kd_45, kd_46, kd_47, kd_48, kd_49, kd_50, kd_51, ln_28, ln_29, ln_30, ln_31, ln_32, ln_33, ln_34, ln_35, ln_36, ln_37, ln_38, ln_39, ln_40, ln_41, ln_42, ln_43, ln_44, ln_45, ln_46, ln_47, ln_48, ln_49, ln_50, inb_n, cl_n, g_n_s_i, g_n_s_l, mul_3, mul_4, mul_6, mul_61, nI_add, nI_1, Nat.not_lt_zero, and_self, and_true, true_and, or_true, true_or, if_true, if_false, or_self, and_false, false_and, or_false, false_or, not_true_eq_false, not_false_eq_true, ne_eq, reduceCtorEq, eq_self, bind_s, c10, c01, c20, c30, c40, cl_0, inb_0, onI_l, onI_r, onV_l, onV_r, f_L_propose, f_G_propose, b_G_propose_61, ↓bq (p_isC1 hc), ny1, ny2, ↓rqn e9, sx_0, sx_1, sx_2, sx_3, sx_4, sx_5, sx_6, sx_7, sx_8, sx_9, sx_10, sx_11]
    · obtain ⟨t, ht1, ht2, et, er⟩ := (h.r9 c hc).2 s0
      by_cases s12 : g_i σ 36 c = 1 ∨ g_i σ 36 c = 2
      · have nl : ¬ g_i σ 39 c < nI tm := fun q => ok ⟨s12, q⟩
        simp (disch := omega) only [↓reduceIte, ↓wi_e, ↓wn_e, ↓rc_i, ↓rc_l, ↓h0.q0, ↓h0.q1, ↓h0.q2, ↓h0.qr, ↓h0.qc, ↓h0.qr2, ↓h0.qr3, ↓h0.qr4, ↓h0.qr5, ↓h0.qc5, ↓h0.qt, ↓h0.qt4, ↓h0.qt5, ↓h0.qt6, ↓h0.qm2, ↓h0.qm3, ↓h0.qm4, ↓h0.qm5, ↓h0.qm6, ↓h0.qm7, ↓h0.qm8, ↓h0.qm9, ↓h0.qm10, ↓h0.qm11, ↓h0.qm12, ↓h0.qm13, ↓h0.qm14, ↓h0.qm15, ↓h0.qm16, ↓h0.qm17, ↓h0.qm18, ↓h0.qm19, ↓h0.qm20, ↓h0.qm21, ↓h0.qm22, ↓h0.qm23, ↓h0.qm24, h0.lt, kd_0, kd_1, kd_2, kd_3, kd_r, kd_ra, kd_rb, kd_rc, kd_rd, ln_ra, ln_rb, ln_rc, ln_rd, kd_c, kd_ca, ln_ca, kd_t, kd_ta, kd_tb, kd_tc, ln_ta, ln_tb, ln_tc, ln_1, ln_2, ln_3, ln_51, kd_27, kd_28, kd_29, kd_30, kd_31, kd_32, kd_33, kd_34, kd_35, kd_36, kd_37, kd_38, kd_39, kd_40, kd_41, kd_42, kd_43, kd_44, kd_45, kd_46, kd_47, kd_48, kd_49, kd_50, kd_51, ln_28, ln_29, ln_30, ln_31, ln_32, ln_33, ln_34, ln_35, ln_36, ln_37, ln_38, ln_39, ln_40, ln_41, ln_42, ln_43, ln_44, ln_45, ln_46, ln_47, ln_48, ln_49, ln_50, inb_n, cl_n, g_n_s_i, g_n_s_l, mul_3, mul_4, mul_6, mul_61, nI_add, nI_1, Nat.not_lt_zero, and_self, and_true, true_and, or_true, true_or, if_true, if_false, or_self, and_false, false_and, or_false, false_or, not_true_eq_false, not_false_eq_true, ne_eq, reduceCtorEq, eq_self, bind_s, c10, c01, c20, c30, c40, cl_0, inb_0, onI_l, onI_r, onV_l, onV_r, f_L_propose, f_G_propose, b_G_propose_61, ↓bq (p_isC1 hc), ny1, ny2, ↓rq er, ↓bq (p_may h0 hc), e1, s12, e3, nl, sx_0, sx_1, sx_2, sx_3, sx_4, sx_5, sx_6, sx_7, sx_8, sx_9, sx_10, sx_11]
      · simp (disch := omega) only [↓reduceIte, ↓wi_e, ↓wn_e, ↓rc_i, ↓rc_l, ↓h0.q0, ↓h0.q1, ↓h0.q2, ↓h0.qr, ↓h0.qc, ↓h0.qr2, ↓h0.qr3, ↓h0.qr4, ↓h0.qr5, ↓h0.qc5, ↓h0.qt, ↓h0.qt4, ↓h0.qt5, ↓h0.qt6, ↓h0.qm2, ↓h0.qm3, ↓h0.qm4, ↓h0.qm5, ↓h0.qm6, ↓h0.qm7, ↓h0.qm8, ↓h0.qm9, ↓h0.qm10, ↓h0.qm11, ↓h0.qm12, ↓h0.qm13, ↓h0.qm14, ↓h0.qm15, ↓h0.qm16, ↓h0.qm17, ↓h0.qm18, ↓h0.qm19, ↓h0.qm20, ↓h0.qm21, ↓h0.qm22, ↓h0.qm23, ↓h0.qm24, h0.lt, kd_0, kd_1, kd_2, kd_3, kd_r, kd_ra, kd_rb, kd_rc, kd_rd, ln_ra, ln_rb, ln_rc, ln_rd, kd_c, kd_ca, ln_ca, kd_t, kd_ta, kd_tb, kd_tc, ln_ta, ln_tb, ln_tc, ln_1, ln_2, ln_3, ln_51, kd_27, kd_28, kd_29, kd_30, kd_31, kd_32, kd_33, kd_34, kd_35, kd_36, kd_37, kd_38, kd_39, kd_40, kd_41, kd_42, kd_43, kd_44, kd_45, kd_46, kd_47, kd_48, kd_49, kd_50, kd_51, ln_28, ln_29, ln_30, ln_31, ln_32, ln_33, ln_34, ln_35, ln_36, ln_37, ln_38, ln_39, ln_40, ln_41, ln_42, ln_43, ln_44, ln_45, ln_46, ln_47, ln_48, ln_49, ln_50, inb_n, cl_n, g_n_s_i, g_n_s_l, mul_3, mul_4, mul_6, mul_61, nI_add, nI_1, Nat.not_lt_zero, and_self, and_true, true_and, or_true, true_or, if_true, if_false, or_self, and_false, false_and, or_false, false_or, not_true_eq_false, not_false_eq_true, ne_eq, reduceCtorEq, eq_self, bind_s, c10, c01, c20, c30, c40, cl_0, inb_0, onI_l, onI_r, onV_l, onV_r, f_L_propose, f_G_propose, b_G_propose_61, ↓bq (p_isC1 hc), ny1, ny2, ↓rq er, ↓bq (p_may h0 hc), e1, s12, sx_0, sx_1, sx_2, sx_3, sx_4, sx_5, sx_6, sx_7, sx_8, sx_9, sx_10, sx_11]
  obtain ⟨s12, hl⟩ := ok
  have ne0 : g_i σ 36 c ≠ 0 := by
    rcases s12 with q | q <;> rw [q] <;> decide
  obtain ⟨t, ht1, ht2, et, er⟩ := (h.r9 c hc).2 ne0
  obtain ⟨q1, q2, q3, q4⟩ := h.r11 t ht1 ht2
  have hs0 : SN b (cr3 (sp (s_i σ (48 + 4 * t) 1 (nI (4 * tm + c))) c tm) t) := h0
  have ps := p_start (σ := s_i σ (48 + 4 * t) 1 (nI (4 * tm + c))) (tm := tm) h0 hc
  have pp := p_pp (σ := sp (s_i σ (48 + 4 * t) 1 (nI (4 * tm + c))) c tm) h0 ht1 ht2 (by unfold sp; simp (disch := omega) only [gi_n]; exact q1)
  have g : f_G_propose σ 0 (nI c) (nI tm) = some (.inl none, cr3 (sp (s_i σ (48 + 4 * t) 1 (nI (4 * tm + c))) c tm) t) := by
    simp (disch := omega) only [↓reduceIte, ↓wi_e, ↓wn_e, ↓rc_i, ↓rc_l, ↓h0.q0, ↓h0.q1, ↓h0.q2, ↓h0.qr, ↓h0.qc, ↓h0.qr2, ↓h0.qr3, ↓h0.qr4, ↓h0.qr5, ↓h0.qc5, ↓h0.qt, ↓h0.qt4, ↓h0.qt5, ↓h0.qt6, ↓h0.qm2, ↓h0.qm3, ↓h0.qm4, ↓h0.qm5, ↓h0.qm6, ↓h0.qm7, ↓h0.qm8, ↓h0.qm9, ↓h0.qm10, ↓h0.qm11, ↓h0.qm12, ↓h0.qm13, ↓h0.qm14, ↓h0.qm15, ↓h0.qm16, ↓h0.qm17, ↓h0.qm18, ↓h0.qm19, ↓h0.qm20, ↓h0.qm21, ↓h0.qm22, ↓h0.qm23, ↓h0.qm24, h0.lt, kd_0, kd_1, kd_2, kd_3, kd_r, kd_ra, kd_rb, kd_rc, kd_rd, ln_ra, ln_rb, ln_rc, ln_rd, kd_c, kd_ca, ln_ca, kd_t, kd_ta, kd_tb, kd_tc, ln_ta, ln_tb, ln_tc, ln_1, ln_2, ln_3, ln_51, kd_27, kd_28, kd_29, kd_30, kd_31, kd_32, kd_33, kd_34, kd_35, kd_36, kd_37, kd_38, kd_39, kd_40, kd_41, kd_42, kd_43, kd_44, kd_45, kd_46, kd_47, kd_48, kd_49, kd_50, kd_51, ln_28, ln_29, ln_30, ln_31, ln_32, ln_33, ln_34, ln_35, ln_36, ln_37, ln_38, ln_39, ln_40, ln_41, ln_42, ln_43, ln_44, ln_45, ln_46, ln_47, ln_48, ln_49, ln_50, inb_n, cl_n, g_n_s_i, g_n_s_l, mul_3, mul_4, mul_6, mul_61, nI_add, nI_1, Nat.not_lt_zero, and_self, and_true, true_and, or_true, true_or, if_true, if_false, or_self, and_false, false_and, or_false, false_or, not_true_eq_false, not_false_eq_true, ne_eq, reduceCtorEq, eq_self, bind_s, c10, c01, c20, c30, c40, cl_0, inb_0, onI_l, onI_r, onV_l, onV_r, f_G_propose, ↓bq (p_isC1 hc), ny1, ny2, ↓rq er, ↓bq (p_may h0 hc), e1, s12, e3, hl]
    rw [bq ps]
    exact pp
  have hR := r_prop h hc ht1 ht2 s12 et h1 h2 hl
  have fm : ∀ a j, 27 ≤ a → a ≤ 50 → g_i (cr3 (sp (s_i σ (48 + 4 * t) 1 (nI (4 * tm + c))) c tm) t) a j = g_i σ a j := by
    intro a j ha1 ha2
    rw [cr3_n (by omega)]
    unfold sp
    simp (disch := omega) only [gi_n]
  refine ⟨0, cr3 (sp (s_i σ (48 + 4 * t) 1 (nI (4 * tm + c))) c tm) t, _, b, M, W, ?_, h.n27, ?_, ?_, hR⟩
  · simp (disch := omega) only [↓reduceIte, ↓wi_e, ↓wn_e, ↓rc_i, ↓rc_l, ↓h0.q0, ↓h0.q1, ↓h0.q2, ↓h0.qr, ↓h0.qc, ↓h0.qr2, ↓h0.qr3, ↓h0.qr4, ↓h0.qr5, ↓h0.qc5, ↓h0.qt, ↓h0.qt4, ↓h0.qt5, ↓h0.qt6, ↓h0.qm2, ↓h0.qm3, ↓h0.qm4, ↓h0.qm5, ↓h0.qm6, ↓h0.qm7, ↓h0.qm8, ↓h0.qm9, ↓h0.qm10, ↓h0.qm11, ↓h0.qm12, ↓h0.qm13, ↓h0.qm14, ↓h0.qm15, ↓h0.qm16, ↓h0.qm17, ↓h0.qm18, ↓h0.qm19, ↓h0.qm20, ↓h0.qm21, ↓h0.qm22, ↓h0.qm23, ↓h0.qm24, h0.lt, kd_0, kd_1, kd_2, kd_3, kd_r, kd_ra, kd_rb, kd_rc, kd_rd, ln_ra, ln_rb, ln_rc, ln_rd, kd_c, kd_ca, ln_ca, kd_t, kd_ta, kd_tb, kd_tc, ln_ta, ln_tb, ln_tc, ln_1, ln_2, ln_3, ln_51, kd_27, kd_28, kd_29, kd_30, kd_31, kd_32, kd_33, kd_34, kd_35, kd_36, kd_37, kd_38, kd_39, kd_40, kd_41, kd_42, kd_43, kd_44, kd_45, kd_46, kd_47, kd_48, kd_49, kd_50, kd_51, ln_28, ln_29, ln_30, ln_31, ln_32, ln_33, ln_34, ln_35, ln_36, ln_37, ln_38, ln_39, ln_40, ln_41, ln_42, ln_43, ln_44, ln_45, ln_46, ln_47, ln_48, ln_49, ln_50, inb_n, cl_n, g_n_s_i, g_n_s_l, mul_3, mul_4, mul_6, mul_61, nI_add, nI_1, nle_0, nle_1, nle_2, nle_3, nle_4, nle_5, nle_6, nle_7, nle_60, nle_61, nlt_0, nlt_1, nlt_2, nlt_3, nlt_4, nlt_5, nlt_6, nlt_7, nlt_60, nlt_61, nge_0, nge_1, nge_2, nge_3, nge_4, nge_5, nge_6, nge_7, nge_60, nge_61, ngt_0, ngt_1, ngt_2, ngt_3, ngt_4, ngt_5, ngt_6, ngt_7, ngt_60, ngt_61, neq_0, neq_1, neq_2, neq_3, neq_4, neq_5, neq_6, neq_7, neq_60, neq_61, Nat.not_lt_zero, and_self, and_true, true_and, or_true, true_or, if_true, if_false, or_self, and_false, false_and, or_false, false_or, not_true_eq_false, not_false_eq_true, ne_eq, reduceCtorEq, eq_self, bind_s, c10, c01, c20, c30, c40, cl_0, inb_0, onI_l, onI_r, onV_l, onV_r, f_L_propose, ↓bq g]
  · show f_M_propose _ _ _ _ = _
    rw [mprop_c hs0 hc h1 h2, fm _ _ (by omega) (by omega), fm _ _ (by omega) (by omega), if_pos ⟨s12, hl⟩, mprop_a hs0 hc h2 (t := t) (by omega) (by rw [fm _ _ (by omega) (by omega), et])]
  · simp (disch := omega) only [fr3_n, fg_n, gi_n, gi_s]

