/-! change: the class's keys and views. -/
def kV (u p v : Int32) : Int32 := if u = 0 then v else if p ≤ v then v else p
def kX (u p x v y : Int32) : Int32 := if u = 0 then y else if p ≤ v then y else x
def MxF (u p : Nat → Int32) : Int32 := kV (u 2) (p 2) (kV (u 1) (p 1) (kV (u 0) (p 0) 0))
def VxF (u p x : Nat → Int32) : Int32 := kX (u 2) (p 2) (x 2) (kV (u 1) (p 1) (kV (u 0) (p 0) 0)) (kX (u 1) (p 1) (x 1) (kV (u 0) (p 0) 0) (kX (u 0) (p 0) (x 0) 0 0))
theorem st_k10 {b : Nat} {σ : Sg} (h : SN b σ) {n i k : Nat} (hi : i < 3) (hk : k < 6) (v x l : Int32) : b_G_mergeKey_10 (n + 1) σ 0 (nI k) v x l (nI i) = b_G_mergeKey_10 n σ 0 (nI k) (kV (g_i σ (4 + 5 * i) 0) (g_i σ (5 + 5 * i) k) v) (kX (g_i σ (4 + 5 * i) 0) (g_i σ (5 + 5 * i) k) (g_i σ (6 + 5 * i) k) v x) (mu (g_i σ (4 + 5 * i) 0) (g_i σ (7 + 5 * i) k) l) (nI (i + 1)) := by
  have hn : ¬ 3 ≤ i := by omega
  unfold kV kX mu
  by_cases z : g_i σ (4 + 5 * i) 0 = 0
  · simp only [if_pos z]
    simp (disch := omega) only [↓reduceIte, ↓wi_e, ↓wn_e, ↓rc_i, ↓rc_l, ↓h.q0, ↓h.q1, ↓h.q2, ↓h.qr, ↓h.qc, ↓h.qr2, ↓h.qr3, ↓h.qr4, ↓h.qr5, ↓h.qc5, ↓h.qt, ↓h.qt4, ↓h.qt5, ↓h.qt6, ↓h.qm2, ↓h.qm3, ↓h.qm4, ↓h.qm5, ↓h.qm6, ↓h.qm7, ↓h.qm8, ↓h.qm9, ↓h.qm10, ↓h.qm11, ↓h.qm12, ↓h.qm13, ↓h.qm14, ↓h.qm15, ↓h.qm16, ↓h.qm17, ↓h.qm18, ↓h.qm19, ↓h.qm20, ↓h.qm21, ↓h.qm22, ↓h.qm23, ↓h.qm24, h.lt, kd_0, kd_1, kd_2, kd_3, kd_r, kd_ra, kd_rb, kd_rc, kd_rd, ln_ra, ln_rb, ln_rc, ln_rd, kd_c, kd_ca, ln_ca, kd_t, kd_ta, kd_tb, kd_tc, ln_ta, ln_tb, ln_tc, ln_1, ln_2, ln_3, ln_51, kd_27, kd_28, kd_29, kd_30, kd_31, kd_32, kd_33, kd_34, kd_35, kd_36, kd_37, kd_38, kd_39, kd_40, kd_41, kd_42, kd_43, kd_44, kd_45, kd_46, kd_47, kd_48, kd_49, kd_50, kd_51, ln_28, ln_29, ln_30, ln_31, ln_32, ln_33, ln_34, ln_35, ln_36, ln_37, ln_38, ln_39, ln_40, ln_41, ln_42, ln_43, ln_44, ln_45, ln_46, ln_47, ln_48, ln_49, ln_50, inb_n, cl_n, g_n_s_i, g_n_s_l, mul_3, mul_4, mul_6, mul_61, nI_add, nI_1, nle_0, nle_1, nle_2, nle_3, nle_4, nle_5, nle_6, nle_7, nle_60, nle_61, nlt_0, nlt_1, nlt_2, nlt_3, nlt_4, nlt_5, nlt_6, nlt_7, nlt_60, nlt_61, nge_0, nge_1, nge_2, nge_3, nge_4, nge_5, nge_6, nge_7, nge_60, nge_61, ngt_0, ngt_1, ngt_2, ngt_3, ngt_4, ngt_5, ngt_6, ngt_7, ngt_60, ngt_61, neq_0, neq_1, neq_2, neq_3, neq_4, neq_5, neq_6, neq_7, neq_60, neq_61, Nat.not_lt_zero, and_self, and_true, true_and, or_true, true_or, if_true, if_false, or_self, and_false, false_and, or_false, false_or, not_true_eq_false, not_false_eq_true, ne_eq, reduceCtorEq, eq_self, bind_s, c10, c01, c20, c30, c40, cl_0, inb_0, onI_l, onI_r, onV_l, onV_r, b_G_mergeKey_10, b_G_mergeKey_60, b_G_mergeKey_82, hn, z]
  · simp only [if_neg z]
    by_cases y : g_i σ (5 + 5 * i) k ≤ v
    · simp only [if_pos y]
      simp (disch := omega) only [↓reduceIte, ↓wi_e, ↓wn_e, ↓rc_i, ↓rc_l, ↓h.q0, ↓h.q1, ↓h.q2, ↓h.qr, ↓h.qc, ↓h.qr2, ↓h.qr3, ↓h.qr4, ↓h.qr5, ↓h.qc5, ↓h.qt, ↓h.qt4, ↓h.qt5, ↓h.qt6, ↓h.qm2, ↓h.qm3, ↓h.qm4, ↓h.qm5, ↓h.qm6, ↓h.qm7, ↓h.qm8, ↓h.qm9, ↓h.qm10, ↓h.qm11, ↓h.qm12, ↓h.qm13, ↓h.qm14, ↓h.qm15, ↓h.qm16, ↓h.qm17, ↓h.qm18, ↓h.qm19, ↓h.qm20, ↓h.qm21, ↓h.qm22, ↓h.qm23, ↓h.qm24, h.lt, kd_0, kd_1, kd_2, kd_3, kd_r, kd_ra, kd_rb, kd_rc, kd_rd, ln_ra, ln_rb, ln_rc, ln_rd, kd_c, kd_ca, ln_ca, kd_t, kd_ta, kd_tb, kd_tc, ln_ta, ln_tb, ln_tc, ln_1, ln_2, ln_3, ln_51, kd_27, kd_28, kd_29, kd_30, kd_31, kd_32, kd_33, kd_34, kd_35, kd_36, kd_37, kd_38, kd_39, kd_40, kd_41, kd_42, kd_43, kd_44, kd_45, kd_46, kd_47, kd_48, kd_49, kd_50, kd_51, ln_28, ln_29, ln_30, ln_31, ln_32, ln_33, ln_34, ln_35, ln_36, ln_37, ln_38, ln_39, ln_40, ln_41, ln_42, ln_43, ln_44, ln_45, ln_46, ln_47, ln_48, ln_49, ln_50, inb_n, cl_n, g_n_s_i, g_n_s_l, mul_3, mul_4, mul_6, mul_61, nI_add, nI_1, nle_0, nle_1, nle_2, nle_3, nle_4, nle_5, nle_6, nle_7, nle_60, nle_61, nlt_0, nlt_1, nlt_2, nlt_3, nlt_4, nlt_5, nlt_6, nlt_7, nlt_60, nlt_61, nge_0, nge_1, nge_2, nge_3, nge_4, nge_5, nge_6, nge_7, nge_60, nge_61, ngt_0, ngt_1, ngt_2, ngt_3, ngt_4, ngt_5, ngt_6, ngt_7, ngt_60, ngt_61, neq_0, neq_1, neq_2, neq_3, neq_4, neq_5, neq_6, neq_7, neq_60, neq_61, Nat.not_lt_zero, and_self, and_true, true_and, or_true, true_or, if_true, if_false, or_self, and_false, false_and, or_false, false_or, not_true_eq_false, not_false_eq_true, ne_eq, reduceCtorEq, eq_self, bind_s, c10, c01, c20, c30, c40, cl_0, inb_0, onI_l, onI_r, onV_l, onV_r, b_G_mergeKey_10, b_G_mergeKey_60, b_G_mergeKey_82, hn, z, y, ↓bq (p_max _ _)]
    · simp only [if_neg y]
      simp (disch := omega) only [↓reduceIte, ↓wi_e, ↓wn_e, ↓rc_i, ↓rc_l, ↓h.q0, ↓h.q1, ↓h.q2, ↓h.qr, ↓h.qc, ↓h.qr2, ↓h.qr3, ↓h.qr4, ↓h.qr5, ↓h.qc5, ↓h.qt, ↓h.qt4, ↓h.qt5, ↓h.qt6, ↓h.qm2, ↓h.qm3, ↓h.qm4, ↓h.qm5, ↓h.qm6, ↓h.qm7, ↓h.qm8, ↓h.qm9, ↓h.qm10, ↓h.qm11, ↓h.qm12, ↓h.qm13, ↓h.qm14, ↓h.qm15, ↓h.qm16, ↓h.qm17, ↓h.qm18, ↓h.qm19, ↓h.qm20, ↓h.qm21, ↓h.qm22, ↓h.qm23, ↓h.qm24, h.lt, kd_0, kd_1, kd_2, kd_3, kd_r, kd_ra, kd_rb, kd_rc, kd_rd, ln_ra, ln_rb, ln_rc, ln_rd, kd_c, kd_ca, ln_ca, kd_t, kd_ta, kd_tb, kd_tc, ln_ta, ln_tb, ln_tc, ln_1, ln_2, ln_3, ln_51, kd_27, kd_28, kd_29, kd_30, kd_31, kd_32, kd_33, kd_34, kd_35, kd_36, kd_37, kd_38, kd_39, kd_40, kd_41, kd_42, kd_43, kd_44, kd_45, kd_46, kd_47, kd_48, kd_49, kd_50, kd_51, ln_28, ln_29, ln_30, ln_31, ln_32, ln_33, ln_34, ln_35, ln_36, ln_37, ln_38, ln_39, ln_40, ln_41, ln_42, ln_43, ln_44, ln_45, ln_46, ln_47, ln_48, ln_49, ln_50, inb_n, cl_n, g_n_s_i, g_n_s_l, mul_3, mul_4, mul_6, mul_61, nI_add, nI_1, nle_0, nle_1, nle_2, nle_3, nle_4, nle_5, nle_6, nle_7, nle_60, nle_61, nlt_0, nlt_1, nlt_2, nlt_3, nlt_4, nlt_5, nlt_6, nlt_7, nlt_60, nlt_61, nge_0, nge_1, nge_2, nge_3, nge_4, nge_5, nge_6, nge_7, nge_60, nge_61, ngt_0, ngt_1, ngt_2, ngt_3, ngt_4, ngt_5, ngt_6, ngt_7, ngt_60, ngt_61, neq_0, neq_1, neq_2, neq_3, neq_4, neq_5, neq_6, neq_7, neq_60, neq_61, Nat.not_lt_zero, and_self, and_true, true_and, or_true, true_or, if_true, if_false, or_self, and_false, false_and, or_false, false_or, not_true_eq_false, not_false_eq_true, ne_eq, reduceCtorEq, eq_self, bind_s, c10, c01, c20, c30, c40, cl_0, inb_0, onI_l, onI_r, onV_l, onV_r, b_G_mergeKey_10, b_G_mergeKey_60, b_G_mergeKey_82, hn, z, y, ↓bq (p_max _ _)]
def wk3 (v x l : Int32) (k : Nat) (σ : Sg) (i : Nat) : Sg := if g_i σ (4 + 5 * i) 0 = 0 then σ else s_i (s_i (s_i σ (5 + 5 * i) k v) (6 + 5 * i) k x) (7 + 5 * i) k l
def W3 (v x l : Int32) (k : Nat) (σ : Sg) : Sg := wk3 v x l k (wk3 v x l k (wk3 v x l k σ 0) 1) 2
theorem wk3_s {b : Nat} {σ : Sg} (h : SN b σ) {v x l : Int32} {k i : Nat} : SN b (wk3 v x l k σ i) := by
  unfold wk3
  split
  · exact h
  · exact h
theorem wk3_r {v x l : Int32} {k i : Nat} {σ : Sg} (a j : Nat) : g_r (wk3 v x l k σ i) a j = g_r σ a j ∧ g_l (wk3 v x l k σ i) a j = g_l σ a j := by
  unfold wk3
  split
  · exact ⟨rfl, rfl⟩
  · exact ⟨rfl, rfl⟩
theorem wk3_n {v x l : Int32} {k i : Nat} {σ : Sg} {a j : Nat} (q : (a ≠ 5 + 5 * i ∧ a ≠ 6 + 5 * i ∧ a ≠ 7 + 5 * i) ∨ j ≠ k) : g_i (wk3 v x l k σ i) a j = g_i σ a j := by
  unfold wk3
  split
  · rfl
  · simp (disch := omega) only [gi_n]
theorem wk3_v {v x l : Int32} {k i : Nat} {σ : Sg} : g_i (wk3 v x l k σ i) (5 + 5 * i) k = (if g_i σ (4 + 5 * i) 0 = 0 then g_i σ (5 + 5 * i) k else v) ∧ g_i (wk3 v x l k σ i) (6 + 5 * i) k = (if g_i σ (4 + 5 * i) 0 = 0 then g_i σ (6 + 5 * i) k else x) ∧ g_i (wk3 v x l k σ i) (7 + 5 * i) k = (if g_i σ (4 + 5 * i) 0 = 0 then g_i σ (7 + 5 * i) k else l) := by
  unfold wk3
  by_cases z : g_i σ (4 + 5 * i) 0 = 0
  · simp only [if_pos z, and_self]
  · simp only [if_neg z]
    simp (disch := omega) only [gi_n, gi_s, and_self]
theorem W3_s {b : Nat} {σ : Sg} (h : SN b σ) {v x l : Int32} {k : Nat} : SN b (W3 v x l k σ) := wk3_s (wk3_s (wk3_s h))
theorem W3_r {v x l : Int32} {k : Nat} {σ : Sg} (a j : Nat) : g_r (W3 v x l k σ) a j = g_r σ a j ∧ g_l (W3 v x l k σ) a j = g_l σ a j := by
  unfold W3
  rw [(wk3_r a j).1, (wk3_r a j).2, (wk3_r a j).1, (wk3_r a j).2, (wk3_r a j).1, (wk3_r a j).2]
  exact ⟨rfl, rfl⟩
theorem W3_n {v x l : Int32} {k : Nat} {σ : Sg} {a j : Nat} (q : (a < 5 ∨ 17 < a ∨ a % 5 = 3 ∨ a % 5 = 4) ∨ j ≠ k) : g_i (W3 v x l k σ) a j = g_i σ a j := by
  unfold W3
  rw [wk3_n (by omega), wk3_n (by omega), wk3_n (by omega)]
theorem W3_v {v x l : Int32} {k i : Nat} {σ : Sg} (hi : i < 3) : g_i (W3 v x l k σ) (5 + 5 * i) k = (if g_i σ (4 + 5 * i) 0 = 0 then g_i σ (5 + 5 * i) k else v) ∧ g_i (W3 v x l k σ) (6 + 5 * i) k = (if g_i σ (4 + 5 * i) 0 = 0 then g_i σ (6 + 5 * i) k else x) ∧ g_i (W3 v x l k σ) (7 + 5 * i) k = (if g_i σ (4 + 5 * i) 0 = 0 then g_i σ (7 + 5 * i) k else l) := by
  unfold W3
  obtain rfl | rfl | rfl : i = 0 ∨ i = 1 ∨ i = 2 := by omega
  · simp (disch := omega) only [wk3_n]
    exact wk3_v
  · have := wk3_v (v := v) (x := x) (l := l) (k := k) (i := 1) (σ := wk3 v x l k σ 0)
    revert this
    simp (disch := omega) only [wk3_n]
    exact id
  · have := wk3_v (v := v) (x := x) (l := l) (k := k) (i := 2) (σ := wk3 v x l k (wk3 v x l k σ 0) 1)
    revert this
    simp (disch := omega) only [wk3_n]
    exact id
theorem st_k91 {b : Nat} {σ : Sg} (h : SN b σ) {n i k : Nat} (hi : i < 3) (hk : k < 6) (v x l : Int32) : b_G_mergeKey_91 (n + 1) σ 0 (nI k) v x l (nI i) = b_G_mergeKey_91 n (wk3 v x l k σ i) 0 (nI k) v x l (nI (i + 1)) := by
  have hn : ¬ 3 ≤ i := by omega
  unfold wk3
  by_cases z : g_i σ (4 + 5 * i) 0 = 0
  · rw [if_pos z]
    simp (disch := omega) only [↓reduceIte, ↓wi_e, ↓wn_e, ↓rc_i, ↓rc_l, ↓h.q0, ↓h.q1, ↓h.q2, ↓h.qr, ↓h.qc, ↓h.qr2, ↓h.qr3, ↓h.qr4, ↓h.qr5, ↓h.qc5, ↓h.qt, ↓h.qt4, ↓h.qt5, ↓h.qt6, ↓h.qm2, ↓h.qm3, ↓h.qm4, ↓h.qm5, ↓h.qm6, ↓h.qm7, ↓h.qm8, ↓h.qm9, ↓h.qm10, ↓h.qm11, ↓h.qm12, ↓h.qm13, ↓h.qm14, ↓h.qm15, ↓h.qm16, ↓h.qm17, ↓h.qm18, ↓h.qm19, ↓h.qm20, ↓h.qm21, ↓h.qm22, ↓h.qm23, ↓h.qm24, h.lt, kd_0, kd_1, kd_2, kd_3, kd_r, kd_ra, kd_rb, kd_rc, kd_rd, ln_ra, ln_rb, ln_rc, ln_rd, kd_c, kd_ca, ln_ca, kd_t, kd_ta, kd_tb, kd_tc, ln_ta, ln_tb, ln_tc, ln_1, ln_2, ln_3, ln_51, kd_27, kd_28, kd_29, kd_30, kd_31, kd_32, kd_33, kd_34, kd_35, kd_36, kd_37, kd_38, kd_39, kd_40, kd_41, kd_42, kd_43, kd_44, kd_45, kd_46, kd_47, kd_48, kd_49, kd_50, kd_51, ln_28, ln_29, ln_30, ln_31, ln_32, ln_33, ln_34, ln_35, ln_36, ln_37, ln_38, ln_39, ln_40, ln_41, ln_42, ln_43, ln_44, ln_45, ln_46, ln_47, ln_48, ln_49, ln_50, inb_n, cl_n, g_n_s_i, g_n_s_l, mul_3, mul_4, mul_6, mul_61, nI_add, nI_1, nle_0, nle_1, nle_2, nle_3, nle_4, nle_5, nle_6, nle_7, nle_60, nle_61, nlt_0, nlt_1, nlt_2, nlt_3, nlt_4, nlt_5, nlt_6, nlt_7, nlt_60, nlt_61, nge_0, nge_1, nge_2, nge_3, nge_4, nge_5, nge_6, nge_7, nge_60, nge_61, ngt_0, ngt_1, ngt_2, ngt_3, ngt_4, ngt_5, ngt_6, ngt_7, ngt_60, ngt_61, neq_0, neq_1, neq_2, neq_3, neq_4, neq_5, neq_6, neq_7, neq_60, neq_61, Nat.not_lt_zero, and_self, and_true, true_and, or_true, true_or, if_true, if_false, or_self, and_false, false_and, or_false, false_or, not_true_eq_false, not_false_eq_true, ne_eq, reduceCtorEq, eq_self, bind_s, c10, c01, c20, c30, c40, cl_0, inb_0, onI_l, onI_r, onV_l, onV_r, b_G_mergeKey_91, b_G_mergeKey_150, hn, z]
  · rw [if_neg z]
    simp (disch := omega) only [↓reduceIte, ↓wi_e, ↓wn_e, ↓rc_i, ↓rc_l, ↓h.q0, ↓h.q1, ↓h.q2, ↓h.qr, ↓h.qc, ↓h.qr2, ↓h.qr3, ↓h.qr4, ↓h.qr5, ↓h.qc5, ↓h.qt, ↓h.qt4, ↓h.qt5, ↓h.qt6, ↓h.qm2, ↓h.qm3, ↓h.qm4, ↓h.qm5, ↓h.qm6, ↓h.qm7, ↓h.qm8, ↓h.qm9, ↓h.qm10, ↓h.qm11, ↓h.qm12, ↓h.qm13, ↓h.qm14, ↓h.qm15, ↓h.qm16, ↓h.qm17, ↓h.qm18, ↓h.qm19, ↓h.qm20, ↓h.qm21, ↓h.qm22, ↓h.qm23, ↓h.qm24, h.lt, kd_0, kd_1, kd_2, kd_3, kd_r, kd_ra, kd_rb, kd_rc, kd_rd, ln_ra, ln_rb, ln_rc, ln_rd, kd_c, kd_ca, ln_ca, kd_t, kd_ta, kd_tb, kd_tc, ln_ta, ln_tb, ln_tc, ln_1, ln_2, ln_3, ln_51, kd_27, kd_28, kd_29, kd_30, kd_31, kd_32, kd_33, kd_34, kd_35, kd_36, kd_37, kd_38, kd_39, kd_40, kd_41, kd_42, kd_43, kd_44, kd_45, kd_46, kd_47, kd_48, kd_49, kd_50, kd_51, ln_28, ln_29, ln_30, ln_31, ln_32, ln_33, ln_34, ln_35, ln_36, ln_37, ln_38, ln_39, ln_40, ln_41, ln_42, ln_43, ln_44, ln_45, ln_46, ln_47, ln_48, ln_49, ln_50, inb_n, cl_n, g_n_s_i, g_n_s_l, mul_3, mul_4, mul_6, mul_61, nI_add, nI_1, nle_0, nle_1, nle_2, nle_3, nle_4, nle_5, nle_6, nle_7, nle_60, nle_61, nlt_0, nlt_1, nlt_2, nlt_3, nlt_4, nlt_5, nlt_6, nlt_7, nlt_60, nlt_61, nge_0, nge_1, nge_2, nge_3, nge_4, nge_5, nge_6, nge_7, nge_60, nge_61, ngt_0, ngt_1, ngt_2, ngt_3, ngt_4, ngt_5, ngt_6, ngt_7, ngt_60, ngt_61, neq_0, neq_1, neq_2, neq_3, neq_4, neq_5, neq_6, neq_7, neq_60, neq_61, Nat.not_lt_zero, and_self, and_true, true_and, or_true, true_or, if_true, if_false, or_self, and_false, false_and, or_false, false_or, not_true_eq_false, not_false_eq_true, ne_eq, reduceCtorEq, eq_self, bind_s, c10, c01, c20, c30, c40, cl_0, inb_0, onI_l, onI_r, onV_l, onV_r, b_G_mergeKey_91, b_G_mergeKey_150, hn, z]
theorem en_k91 {σ : Sg} {n a : Nat} {k v x l : Int32} : b_G_mergeKey_91 (n + 1) σ a k v x l (nI (2 + 1)) = some σ := by
  simp only [b_G_mergeKey_91]
  rw [if_pos (by decide)]
theorem p_k91 {b : Nat} {σ : Sg} (h : SN b σ) {k : Nat} (hk : k < 6) (v x l : Int32) : b_G_mergeKey_91 1000 σ 0 (nI k) v x l 0 = some (W3 v x l k σ) := by
  show b_G_mergeKey_91 (999 + 1) σ 0 (nI k) v x l (nI 0) = _
  rw [st_k91 h (n := 998 + 1) (by omega) hk, st_k91 (wk3_s h) (n := 997 + 1) (by omega) hk, st_k91 (wk3_s (wk3_s h)) (n := 996 + 1) (by omega) hk, en_k91]
  rfl
theorem p_mergeKey {b : Nat} {σ : Sg} (h : SN b σ) {k : Nat} (hk : k < 6) {u p x l : Nat → Int32} (H : ∀ i, i < 3 → g_i σ (4 + 5 * i) 0 = u i ∧ g_i σ (5 + 5 * i) k = p i ∧ g_i σ (6 + 5 * i) k = x i ∧ g_i σ (7 + 5 * i) k = l i) : f_G_mergeKey σ 0 (nI k) = some (W3 (MxF u p) (VxF u p x) (nvF u l) k σ) := by
  show b_G_mergeKey_10 (999 + 1) σ 0 (nI k) 0 0 0 (nI 0) = _
  have E : ∀ v x l, b_G_mergeKey_10 (996 + 1) σ 0 (nI k) v x l (nI (0 + 1 + 1 + 1)) = some (W3 v x l k σ) := by
    intro v x l
    rw [← p_k91 h hk]
    generalize (996 : Nat) = n
    simp only [b_G_mergeKey_10]
    rw [if_pos (by decide)]
  obtain ⟨a1, a2, a3, a4⟩ := H 0 (by omega)
  obtain ⟨b1, b2, b3, b4⟩ := H (0 + 1) (by omega)
  obtain ⟨c1, c2, c3, c4⟩ := H (0 + 1 + 1) (by omega)
  rw [st_k10 h (n := 998 + 1) (by omega) hk, st_k10 h (n := 997 + 1) (by omega) hk, st_k10 h (n := 996 + 1) (by omega) hk, E, a1, a2, a3, a4, b1, b2, b3, b4, c1, c2, c3, c4]
  rfl
/-- the loop over the keys -/
theorem lp_key {b : Nat} {u : Nat → Int32} {p x l : Nat → Nat → Int32} (nx : Int32) : ∀ e n k (σ : Sg), e + k = 6 → e < n → SN b σ → (∀ i, i < 3 → g_i σ (4 + 5 * i) 0 = u i) → (∀ i, i < 3 → ∀ q, k ≤ q → q < 6 → g_i σ (5 + 5 * i) q = p q i ∧ g_i σ (6 + 5 * i) q = x q i ∧ g_i σ (7 + 5 * i) q = l q i) →
    ∃ σ', b_G_change_54 n σ 0 nx (nI k) = b_G_change_73 1000 σ' 0 nx 0 ∧ SN b σ' ∧ (∀ a j, g_r σ' a j = g_r σ a j ∧ g_l σ' a j = g_l σ a j) ∧ (∀ a j, (a < 5 ∨ 17 < a ∨ a % 5 = 3 ∨ a % 5 = 4) ∨ j < k ∨ 6 ≤ j → g_i σ' a j = g_i σ a j) ∧ ∀ i, i < 3 → ∀ q, k ≤ q → q < 6 → g_i σ' (5 + 5 * i) q = (if u i = 0 then p q i else MxF u (p q)) ∧ g_i σ' (6 + 5 * i) q = (if u i = 0 then x q i else VxF u (p q) (x q)) ∧ g_i σ' (7 + 5 * i) q = (if u i = 0 then l q i else nvF u (l q)) := by
  intro e
  induction e with
  | zero =>
    intro n k σ he hn h hu hp
    obtain ⟨n, rfl⟩ : ∃ q, n = q + 1 := ⟨n - 1, by omega⟩
    obtain rfl : k = 6 := by omega
    refine ⟨σ, ?_, h, fun _ _ => ⟨rfl, rfl⟩, fun _ _ _ => rfl, fun i hi q h1 h2 => absurd h2 (by omega)⟩
    simp only [b_G_change_54]
    rw [if_pos (by decide)]
  | succ e ih =>
    intro n k σ he hn h hu hp
    obtain ⟨n, rfl⟩ : ∃ q, n = q + 1 := ⟨n - 1, by omega⟩
    have hl : ¬ 6 ≤ k := by omega
    have pm := p_mergeKey h (k := k) (by omega) (u := u) (p := p k) (x := x k) (l := l k) (fun i hi => ⟨hu i hi, hp i hi k (by omega) (by omega)⟩)
    obtain ⟨σ2, e2, s2, r2, F2, V2⟩ := ih n (k + 1) (W3 (MxF u (p k)) (VxF u (p k) (x k)) (nvF u (l k)) k σ) (by omega) (by omega) (W3_s h) (by
      intro i hi
      rw [W3_n (by omega)]
      exact hu i hi) (by
      intro i hi q h1 h2
      rw [W3_n (by omega), W3_n (by omega), W3_n (by omega)]
      exact hp i hi q (by omega) h2)
    refine ⟨σ2, ?_, s2, fun a j => ?_, fun a j q => ?_, fun i hi q h1 h2 => ?_⟩
    · rw [← e2]
      simp (disch := omega) only [↓reduceIte, ↓wi_e, ↓wn_e, ↓rc_i, ↓rc_l, ↓h.q0, ↓h.q1, ↓h.q2, ↓h.qr, ↓h.qc, ↓h.qr2, ↓h.qr3, ↓h.qr4, ↓h.qr5, ↓h.qc5, ↓h.qt, ↓h.qt4, ↓h.qt5, ↓h.qt6, ↓h.qm2, ↓h.qm3, ↓h.qm4, ↓h.qm5, ↓h.qm6, ↓h.qm7, ↓h.qm8, ↓h.qm9, ↓h.qm10, ↓h.qm11, ↓h.qm12, ↓h.qm13, ↓h.qm14, ↓h.qm15, ↓h.qm16, ↓h.qm17, ↓h.qm18, ↓h.qm19, ↓h.qm20, ↓h.qm21, ↓h.qm22, ↓h.qm23, ↓h.qm24, h.lt, kd_0, kd_1, kd_2, kd_3, kd_r, kd_ra, kd_rb, kd_rc, kd_rd, ln_ra, ln_rb, ln_rc, ln_rd, kd_c, kd_ca, ln_ca, kd_t, kd_ta, kd_tb, kd_tc, ln_ta, ln_tb, ln_tc, ln_1, ln_2, ln_3, ln_51, kd_27, kd_28, kd_29, kd_30, kd_31, kd_32, kd_33, kd_34, kd_35, kd_36, kd_37, kd_38, kd_39, kd_40, kd_41, kd_42, kd_43, kd_44, kd_45, kd_46, kd_47, kd_48, kd_49, kd_50, kd_51, ln_28, ln_29, ln_30, ln_31, ln_32, ln_33, ln_34, ln_35, ln_36, ln_37, ln_38, ln_39, ln_40, ln_41, ln_42, ln_43, ln_44, ln_45, ln_46, ln_47, ln_48, ln_49, ln_50, inb_n, cl_n, g_n_s_i, g_n_s_l, mul_3, mul_4, mul_6, mul_61, nI_add, nI_1, nle_0, nle_1, nle_2, nle_3, nle_4, nle_5, nle_6, nle_7, nle_60, nle_61, nlt_0, nlt_1, nlt_2, nlt_3, nlt_4, nlt_5, nlt_6, nlt_7, nlt_60, nlt_61, nge_0, nge_1, nge_2, nge_3, nge_4, nge_5, nge_6, nge_7, nge_60, nge_61, ngt_0, ngt_1, ngt_2, ngt_3, ngt_4, ngt_5, ngt_6, ngt_7, ngt_60, ngt_61, neq_0, neq_1, neq_2, neq_3, neq_4, neq_5, neq_6, neq_7, neq_60, neq_61, Nat.not_lt_zero, and_self, and_true, true_and, or_true, true_or, if_true, if_false, or_self, and_false, false_and, or_false, false_or, not_true_eq_false, not_false_eq_true, ne_eq, reduceCtorEq, eq_self, bind_s, c10, c01, c20, c30, c40, cl_0, inb_0, onI_l, onI_r, onV_l, onV_r, b_G_change_54, hl, ↓bq pm]
    · rw [(r2 a j).1, (r2 a j).2]
      exact W3_r a j
    · rw [F2 a j (by omega), W3_n (by omega)]
    · by_cases z : q = k
      · subst z
        rw [F2 _ _ (by omega), F2 _ _ (by omega), F2 _ _ (by omega)]
        obtain ⟨w1, w2, w3⟩ := W3_v (v := MxF u (p q)) (x := VxF u (p q) (x q)) (l := nvF u (l q)) (k := q) (σ := σ) hi
        obtain ⟨p1, p2, p3⟩ := hp i hi q (by omega) h2
        rw [w1, w2, w3, hu i hi, p1, p2, p3]
        exact ⟨rfl, rfl, rfl⟩
      · exact V2 i hi q (by omega) h2
def vw3 (x : Int32) (σ : Sg) (i : Nat) : Sg := if g_i σ (4 + 5 * i) 0 = 0 then σ else s_i σ (4 + 5 * i) 1 x
def V3 (x : Int32) (σ : Sg) : Sg := vw3 x (vw3 x (vw3 x σ 0) 1) 2
theorem vw3_s {b : Nat} {σ : Sg} (h : SN b σ) {x : Int32} {i : Nat} : SN b (vw3 x σ i) := by
  unfold vw3
  split
  · exact h
  · exact h
theorem vw3_r {x : Int32} {i : Nat} {σ : Sg} (a j : Nat) : g_r (vw3 x σ i) a j = g_r σ a j ∧ g_l (vw3 x σ i) a j = g_l σ a j := by
  unfold vw3
  split
  · exact ⟨rfl, rfl⟩
  · exact ⟨rfl, rfl⟩
theorem vw3_n {x : Int32} {i : Nat} {σ : Sg} {a j : Nat} (q : a ≠ 4 + 5 * i ∨ j ≠ 1) : g_i (vw3 x σ i) a j = g_i σ a j := by
  unfold vw3
  split
  · rfl
  · rw [gi_n q]
theorem vw3_v {x : Int32} {i : Nat} {σ : Sg} : g_i (vw3 x σ i) (4 + 5 * i) 1 = if g_i σ (4 + 5 * i) 0 = 0 then g_i σ (4 + 5 * i) 1 else x := by
  unfold vw3
  split
  · rfl
  · rw [gi_s ⟨rfl, rfl⟩]
theorem V3_r {x : Int32} {σ : Sg} (a j : Nat) : g_r (V3 x σ) a j = g_r σ a j ∧ g_l (V3 x σ) a j = g_l σ a j := by
  unfold V3
  rw [(vw3_r a j).1, (vw3_r a j).2, (vw3_r a j).1, (vw3_r a j).2, (vw3_r a j).1, (vw3_r a j).2]
  exact ⟨rfl, rfl⟩
theorem V3_n {x : Int32} {σ : Sg} {a j : Nat} (q : (a ≠ 4 ∧ a ≠ 9 ∧ a ≠ 14) ∨ j ≠ 1) : g_i (V3 x σ) a j = g_i σ a j := by
  unfold V3
  rw [vw3_n (by omega), vw3_n (by omega), vw3_n (by omega)]
theorem V3_v {x : Int32} {i : Nat} {σ : Sg} (hi : i < 3) : g_i (V3 x σ) (4 + 5 * i) 1 = if g_i σ (4 + 5 * i) 0 = 0 then g_i σ (4 + 5 * i) 1 else x := by
  unfold V3
  obtain rfl | rfl | rfl : i = 0 ∨ i = 1 ∨ i = 2 := by omega
  · rw [vw3_n (by omega), vw3_n (by omega), vw3_v]
  · rw [vw3_n (by omega), vw3_v, vw3_n (by omega), vw3_n (by omega)]
  · rw [vw3_v, vw3_n (by omega), vw3_n (by omega), vw3_n (by omega), vw3_n (by omega)]
theorem st_73 {b : Nat} {σ : Sg} (h : SN b σ) {n i : Nat} (hi : i < 3) (x : Int32) : b_G_change_73 (n + 1) σ 0 x (nI i) = b_G_change_73 n (vw3 x σ i) 0 x (nI (i + 1)) := by
  have hn : ¬ 3 ≤ i := by omega
  unfold vw3
  by_cases z : g_i σ (4 + 5 * i) 0 = 0
  · rw [if_pos z]
    simp (disch := omega) only [↓reduceIte, ↓wi_e, ↓wn_e, ↓rc_i, ↓rc_l, ↓h.q0, ↓h.q1, ↓h.q2, ↓h.qr, ↓h.qc, ↓h.qr2, ↓h.qr3, ↓h.qr4, ↓h.qr5, ↓h.qc5, ↓h.qt, ↓h.qt4, ↓h.qt5, ↓h.qt6, ↓h.qm2, ↓h.qm3, ↓h.qm4, ↓h.qm5, ↓h.qm6, ↓h.qm7, ↓h.qm8, ↓h.qm9, ↓h.qm10, ↓h.qm11, ↓h.qm12, ↓h.qm13, ↓h.qm14, ↓h.qm15, ↓h.qm16, ↓h.qm17, ↓h.qm18, ↓h.qm19, ↓h.qm20, ↓h.qm21, ↓h.qm22, ↓h.qm23, ↓h.qm24, h.lt, kd_0, kd_1, kd_2, kd_3, kd_r, kd_ra, kd_rb, kd_rc, kd_rd, ln_ra, ln_rb, ln_rc, ln_rd, kd_c, kd_ca, ln_ca, kd_t, kd_ta, kd_tb, kd_tc, ln_ta, ln_tb, ln_tc, ln_1, ln_2, ln_3, ln_51, kd_27, kd_28, kd_29, kd_30, kd_31, kd_32, kd_33, kd_34, kd_35, kd_36, kd_37, kd_38, kd_39, kd_40, kd_41, kd_42, kd_43, kd_44, kd_45, kd_46, kd_47, kd_48, kd_49, kd_50, kd_51, ln_28, ln_29, ln_30, ln_31, ln_32, ln_33, ln_34, ln_35, ln_36, ln_37, ln_38, ln_39, ln_40, ln_41, ln_42, ln_43, ln_44, ln_45, ln_46, ln_47, ln_48, ln_49, ln_50, inb_n, cl_n, g_n_s_i, g_n_s_l, mul_3, mul_4, mul_6, mul_61, nI_add, nI_1, nle_0, nle_1, nle_2, nle_3, nle_4, nle_5, nle_6, nle_7, nle_60, nle_61, nlt_0, nlt_1, nlt_2, nlt_3, nlt_4, nlt_5, nlt_6, nlt_7, nlt_60, nlt_61, nge_0, nge_1, nge_2, nge_3, nge_4, nge_5, nge_6, nge_7, nge_60, nge_61, ngt_0, ngt_1, ngt_2, ngt_3, ngt_4, ngt_5, ngt_6, ngt_7, ngt_60, ngt_61, neq_0, neq_1, neq_2, neq_3, neq_4, neq_5, neq_6, neq_7, neq_60, neq_61, Nat.not_lt_zero, and_self, and_true, true_and, or_true, true_or, if_true, if_false, or_self, and_false, false_and, or_false, false_or, not_true_eq_false, not_false_eq_true, ne_eq, reduceCtorEq, eq_self, bind_s, c10, c01, c20, c30, c40, cl_0, inb_0, onI_l, onI_r, onV_l, onV_r, b_G_change_73, b_G_change_100, hn, z]
  · rw [if_neg z]
    simp (disch := omega) only [↓reduceIte, ↓wi_e, ↓wn_e, ↓rc_i, ↓rc_l, ↓h.q0, ↓h.q1, ↓h.q2, ↓h.qr, ↓h.qc, ↓h.qr2, ↓h.qr3, ↓h.qr4, ↓h.qr5, ↓h.qc5, ↓h.qt, ↓h.qt4, ↓h.qt5, ↓h.qt6, ↓h.qm2, ↓h.qm3, ↓h.qm4, ↓h.qm5, ↓h.qm6, ↓h.qm7, ↓h.qm8, ↓h.qm9, ↓h.qm10, ↓h.qm11, ↓h.qm12, ↓h.qm13, ↓h.qm14, ↓h.qm15, ↓h.qm16, ↓h.qm17, ↓h.qm18, ↓h.qm19, ↓h.qm20, ↓h.qm21, ↓h.qm22, ↓h.qm23, ↓h.qm24, h.lt, kd_0, kd_1, kd_2, kd_3, kd_r, kd_ra, kd_rb, kd_rc, kd_rd, ln_ra, ln_rb, ln_rc, ln_rd, kd_c, kd_ca, ln_ca, kd_t, kd_ta, kd_tb, kd_tc, ln_ta, ln_tb, ln_tc, ln_1, ln_2, ln_3, ln_51, kd_27, kd_28, kd_29, kd_30, kd_31, kd_32, kd_33, kd_34, kd_35, kd_36, kd_37, kd_38, kd_39, kd_40, kd_41, kd_42, kd_43, kd_44, kd_45, kd_46, kd_47, kd_48, kd_49, kd_50, kd_51, ln_28, ln_29, ln_30, ln_31, ln_32, ln_33, ln_34, ln_35, ln_36, ln_37, ln_38, ln_39, ln_40, ln_41, ln_42, ln_43, ln_44, ln_45, ln_46, ln_47, ln_48, ln_49, ln_50, inb_n, cl_n, g_n_s_i, g_n_s_l, mul_3, mul_4, mul_6, mul_61, nI_add, nI_1, nle_0, nle_1, nle_2, nle_3, nle_4, nle_5, nle_6, nle_7, nle_60, nle_61, nlt_0, nlt_1, nlt_2, nlt_3, nlt_4, nlt_5, nlt_6, nlt_7, nlt_60, nlt_61, nge_0, nge_1, nge_2, nge_3, nge_4, nge_5, nge_6, nge_7, nge_60, nge_61, ngt_0, ngt_1, ngt_2, ngt_3, ngt_4, ngt_5, ngt_6, ngt_7, ngt_60, ngt_61, neq_0, neq_1, neq_2, neq_3, neq_4, neq_5, neq_6, neq_7, neq_60, neq_61, Nat.not_lt_zero, and_self, and_true, true_and, or_true, true_or, if_true, if_false, or_self, and_false, false_and, or_false, false_or, not_true_eq_false, not_false_eq_true, ne_eq, reduceCtorEq, eq_self, bind_s, c10, c01, c20, c30, c40, cl_0, inb_0, onI_l, onI_r, onV_l, onV_r, b_G_change_73, b_G_change_100, hn, z]
theorem en_73 {σ : Sg} {n a : Nat} {x : Int32} : b_G_change_73 (n + 1) σ a x (nI (2 + 1)) = some (.inl (some (.int x)), σ) := by
  simp only [b_G_change_73]
  rw [if_pos (by decide)]
theorem p_73 {b : Nat} {σ : Sg} (h : SN b σ) (x : Int32) : b_G_change_73 1000 σ 0 x 0 = some (.inl (some (.int x)), V3 x σ) := by
  show b_G_change_73 (999 + 1) σ 0 x (nI 0) = _
  rw [st_73 h (n := 998 + 1) (by omega), st_73 (vw3_s h) (n := 997 + 1) (by omega), st_73 (vw3_s (vw3_s h)) (n := 996 + 1) (by omega), en_73]
  rfl
theorem p_gchange {b : Nat} {σ : Sg} (h : SN b σ) (hb : g_i σ 0 3 = nI b) {u v : Nat → Int32} {S F A D p x l : Nat → Nat → Int32} (hu : ∀ i, i < 3 → g_i σ (4 + 5 * i) 0 = u i ∧ g_i σ (4 + 5 * i) 1 = v i) (hQ : ∀ i, i < 3 → ∀ q, 1 ≤ q → q ≤ b → Qr (g_i σ (8 + 5 * i) q) (S q i) (F q i) (A q i) (D q i)) (hp : ∀ i, i < 3 → ∀ q, q < 6 → g_i σ (5 + 5 * i) q = p q i ∧ g_i σ (6 + 5 * i) q = x q i ∧ g_i σ (7 + 5 * i) q = l q i) (h2 : 2 ≤ uc u) :
    ∃ σ', f_G_change σ 0 = some (.inl (some (.int (gv σ + 1))), σ') ∧ SN b σ' ∧ (∀ a j, g_r σ' a j = g_r σ a j ∧ g_l σ' a j = g_l σ a j) ∧ (∀ a j, ((a ≠ 4 ∧ a ≠ 9 ∧ a ≠ 14) ∨ j ≠ 1) ∧ ((a < 5 ∨ 17 < a ∨ a % 5 = 3 ∨ a % 5 = 4) ∨ 6 ≤ j) ∧ ((a ≠ 8 ∧ a ≠ 13 ∧ a ≠ 18) ∨ j < 1 ∨ b < j) → g_i σ' a j = g_i σ a j) ∧ (∀ i, i < 3 → g_i σ' (4 + 5 * i) 1 = if u i = 0 then v i else gv σ + 1) ∧
    (∀ i, i < 3 → ∀ q, q < 6 → g_i σ' (5 + 5 * i) q = (if u i = 0 then p q i else MxF u (p q)) ∧ g_i σ' (6 + 5 * i) q = (if u i = 0 then x q i else VxF u (p q) (x q)) ∧ g_i σ' (7 + 5 * i) q = (if u i = 0 then l q i else nvF u (l q))) ∧
    ∀ i, i < 3 → ∀ q, 1 ≤ q → q ≤ b → ∃ s' f' a' d', Oc u v (S q) (F q) (A q) (D q) (nvF u v) i s' f' a' d' ∧ Qr (g_i σ' (8 + 5 * i) q) s' f' a' d' := by
  have hb6 := h.b60
  have lu := uc_le u
  obtain ⟨σ1, e1, s1, r1, F1, V1⟩ := lp_mrec (b := b) (u := u) (v := v) (S := S) (F := F) (A := A) (D := D) (nvF u v) (gv σ + 1) hb6 b 1000 1 σ (by omega) (by omega) (by omega) h hb hu hQ
  obtain ⟨σ2, e2, s2, r2, F2, V2⟩ := lp_key (b := b) (u := u) (p := p) (x := x) (l := l) (gv σ + 1) 6 1000 0 σ1 (by omega) (by omega) s1 (by
    intro i hi
    rw [F1 _ _ (by omega)]
    exact (hu i hi).1) (by
    intro i hi q _ hq
    rw [F1 _ _ (by omega), F1 _ _ (by omega), F1 _ _ (by omega)]
    exact hp i hi q hq)
  refine ⟨V3 (gv σ + 1) σ2, ?_, vw3_s (vw3_s (vw3_s s2)), fun a j => ?_, fun a j q => ?_, fun i hi => ?_, fun i hi q hq => ?_, fun i hi q h1 h2 => ?_⟩
  · have c2 : 2 ≤ uc u := h2
    simp (disch := omega) only [↓reduceIte, ↓wi_e, ↓wn_e, ↓rc_i, ↓rc_l, ↓h.q0, ↓h.q1, ↓h.q2, ↓h.qr, ↓h.qc, ↓h.qr2, ↓h.qr3, ↓h.qr4, ↓h.qr5, ↓h.qc5, ↓h.qt, ↓h.qt4, ↓h.qt5, ↓h.qt6, ↓h.qm2, ↓h.qm3, ↓h.qm4, ↓h.qm5, ↓h.qm6, ↓h.qm7, ↓h.qm8, ↓h.qm9, ↓h.qm10, ↓h.qm11, ↓h.qm12, ↓h.qm13, ↓h.qm14, ↓h.qm15, ↓h.qm16, ↓h.qm17, ↓h.qm18, ↓h.qm19, ↓h.qm20, ↓h.qm21, ↓h.qm22, ↓h.qm23, ↓h.qm24, h.lt, kd_0, kd_1, kd_2, kd_3, kd_r, kd_ra, kd_rb, kd_rc, kd_rd, ln_ra, ln_rb, ln_rc, ln_rd, kd_c, kd_ca, ln_ca, kd_t, kd_ta, kd_tb, kd_tc, ln_ta, ln_tb, ln_tc, ln_1, ln_2, ln_3, ln_51, kd_27, kd_28, kd_29, kd_30, kd_31, kd_32, kd_33, kd_34, kd_35, kd_36, kd_37, kd_38, kd_39, kd_40, kd_41, kd_42, kd_43, kd_44, kd_45, kd_46, kd_47, kd_48, kd_49, kd_50, kd_51, ln_28, ln_29, ln_30, ln_31, ln_32, ln_33, ln_34, ln_35, ln_36, ln_37, ln_38, ln_39, ln_40, ln_41, ln_42, ln_43, ln_44, ln_45, ln_46, ln_47, ln_48, ln_49, ln_50, inb_n, cl_n, g_n_s_i, g_n_s_l, mul_3, mul_4, mul_6, mul_61, nI_add, nI_1, nle_0, nle_1, nle_2, nle_3, nle_4, nle_5, nle_6, nle_7, nle_60, nle_61, nlt_0, nlt_1, nlt_2, nlt_3, nlt_4, nlt_5, nlt_6, nlt_7, nlt_60, nlt_61, nge_0, nge_1, nge_2, nge_3, nge_4, nge_5, nge_6, nge_7, nge_60, nge_61, ngt_0, ngt_1, ngt_2, ngt_3, ngt_4, ngt_5, ngt_6, ngt_7, ngt_60, ngt_61, neq_0, neq_1, neq_2, neq_3, neq_4, neq_5, neq_6, neq_7, neq_60, neq_61, Nat.not_lt_zero, and_self, and_true, true_and, or_true, true_or, if_true, if_false, or_self, and_false, false_and, or_false, false_or, not_true_eq_false, not_false_eq_true, ne_eq, reduceCtorEq, eq_self, bind_s, c10, c01, c20, c30, c40, cl_0, inb_0, onI_l, onI_r, onV_l, onV_r, f_G_change, ↓bq (p_upCount h (fun i hi => (hu i hi).1)), c2, ↓bq (p_gv h), ↓bq (p_newest h hu)]
    exact e1.trans (e2.trans (p_73 s2 _))
  · rw [(V3_r a j).1, (V3_r a j).2, (r2 a j).1, (r2 a j).2]
    exact r1 a j
  · rw [V3_n (by omega), F2 _ _ (by omega), F1 _ _ (by omega)]
  · rw [V3_v hi, F2 _ _ (by omega), F2 _ _ (by omega), F1 _ _ (by omega), F1 _ _ (by omega), (hu i hi).1, (hu i hi).2]
  · rw [V3_n (by omega), V3_n (by omega), V3_n (by omega)]
    exact V2 i hi q (by omega) hq
  · rw [V3_n (by omega), F2 _ _ (by omega)]
    exact V1 i hi q h1 h2

