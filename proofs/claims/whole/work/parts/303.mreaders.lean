/-! What the reference's readers answer. -/
theorem p_mC1 {σ : Sg} {c : Nat} (hc : c < 4) : f_M_isClient σ (nI c) = some 1 := by
  simp (disch := omega) only [f_M_isClient, f_M_in, nng, nlt_3, if_false, b_M_in_15, or_true, if_true]
  rw [if_neg (by omega)]
  rfl
theorem p_mC0 {σ : Sg} {x : Int32} (hc : x < 0 ∨ 4 ≤ x) : f_M_isClient σ x = some 0 := by
  unfold f_M_isClient f_M_in b_M_in_14 b_M_in_15
  rcases hc with h | h
  · rw [if_pos h]; rfl
  · have h' : (3 : Int32) < x := by
      rw [Int32.lt_iff_toInt_lt]
      rw [Int32.le_iff_toInt_le] at h
      have e1 : (3 : Int32).toInt = 3 := rfl
      have e2 : (4 : Int32).toInt = 4 := rfl
      omega
    rw [if_pos h', ite_self]; rfl
theorem p_mK1 {σ : Sg} {c : Nat} (hc : c < 6) : f_M_isKey σ (nI c) = some 1 := by
  simp (disch := omega) only [f_M_isKey, f_M_in, nng, nlt_5, if_false, b_M_in_15, or_true, if_true]
  rw [if_neg (by omega)]
  rfl
theorem p_mK0 {σ : Sg} {x : Int32} (hc : x < 0 ∨ 6 ≤ x) : f_M_isKey σ x = some 0 := by
  unfold f_M_isKey f_M_in b_M_in_14 b_M_in_15
  rcases hc with h | h
  · rw [if_pos h]; rfl
  · have h' : (5 : Int32) < x := by
      rw [Int32.lt_iff_toInt_lt]
      rw [Int32.le_iff_toInt_le] at h
      have e1 : (5 : Int32).toInt = 5 := rfl
      have e2 : (6 : Int32).toInt = 6 := rfl
      omega
    rw [if_pos h', ite_self]; rfl
theorem p_mR1 {σ : Sg} {c : Nat} (hc : c < 3) : f_M_isReplica σ (nI c) = some 1 := by
  simp (disch := omega) only [f_M_isReplica, f_M_in, nng, nlt_2, if_false, b_M_in_15, or_true, if_true]
  rw [if_neg (by omega)]
  rfl
theorem p_mR0 {σ : Sg} {x : Int32} (hc : x < 0 ∨ 3 ≤ x) : f_M_isReplica σ x = some 0 := by
  unfold f_M_isReplica f_M_in b_M_in_14 b_M_in_15
  rcases hc with h | h
  · rw [if_pos h]; rfl
  · have h' : (2 : Int32) < x := by
      rw [Int32.lt_iff_toInt_lt]
      rw [Int32.le_iff_toInt_le] at h
      have e1 : (2 : Int32).toInt = 2 := rfl
      have e2 : (3 : Int32).toInt = 3 := rfl
      omega
    rw [if_pos h', ite_self]; rfl
theorem p_says {b : Nat} {σ : Sg} (h : SN b σ) (x : Int32) : f_M_says σ 27 x = some (if x = 0 then 1 else 0, s_i σ 27 0 x) := by
  simp (disch := omega) only [↓wi_e, ↓wn_e, ↓rc_i, ↓rc_l, ↓h.q0, ↓h.q1, ↓h.q2, ↓h.qr, ↓h.qc, ↓h.qr2, ↓h.qr3, ↓h.qr4, ↓h.qr5, ↓h.qc5, ↓h.qt, ↓h.qt4, ↓h.qt5, ↓h.qt6, ↓h.qm2, ↓h.qm3, ↓h.qm4, ↓h.qm5, ↓h.qm6, ↓h.qm7, ↓h.qm8, ↓h.qm9, ↓h.qm10, ↓h.qm11, ↓h.qm12, ↓h.qm13, ↓h.qm14, ↓h.qm15, ↓h.qm16, ↓h.qm17, ↓h.qm18, ↓h.qm19, ↓h.qm20, ↓h.qm21, ↓h.qm22, ↓h.qm23, ↓h.qm24, h.lt, kd_0, kd_1, kd_2, kd_3, kd_r, kd_ra, kd_rb, kd_rc, kd_rd, ln_ra, ln_rb, ln_rc, ln_rd, kd_c, kd_ca, ln_ca, kd_t, kd_ta, kd_tb, kd_tc, ln_ta, ln_tb, ln_tc, ln_1, ln_2, ln_3, ln_51, kd_27, kd_28, kd_29, kd_30, kd_31, kd_32, kd_33, kd_34, kd_35, kd_36, kd_37, kd_38, kd_39, kd_40, kd_41, kd_42, kd_43, kd_44, kd_45, kd_46, kd_47, kd_48, kd_49, kd_50, kd_51, ln_28, ln_29, ln_30, ln_31, ln_32, ln_33, ln_34, ln_35, ln_36, ln_37, ln_38, ln_39, ln_40, ln_41, ln_42, ln_43, ln_44, ln_45, ln_46, ln_47, ln_48, ln_49, ln_50, inb_n, cl_n, g_n_s_i, g_n_s_l, mul_3, mul_4, mul_6, mul_61, nI_add, nI_1, nle_0, nle_1, nle_2, nle_3, nle_4, nle_5, nle_6, nle_7, nle_60, nle_61, nlt_0, nlt_1, nlt_2, nlt_3, nlt_4, nlt_5, nlt_6, nlt_7, nlt_60, nlt_61, nge_0, nge_1, nge_2, nge_3, nge_4, nge_5, nge_6, nge_7, nge_60, nge_61, ngt_0, ngt_1, ngt_2, ngt_3, ngt_4, ngt_5, ngt_6, ngt_7, ngt_60, ngt_61, neq_0, neq_1, neq_2, neq_3, neq_4, neq_5, neq_6, neq_7, neq_60, neq_61, and_self, and_true, true_and, or_true, true_or, if_true, if_false, or_self, and_false, false_and, or_false, false_or, not_true_eq_false, not_false_eq_true, ne_eq, reduceCtorEq, eq_self, f_M_says, b_M_says_14]
  split <;> rfl
theorem p_stateOf {b : Nat} {σ : Sg} (h : SN b σ) {c : Nat} (hc : c < 4) : f_M_stateOf σ 27 (nI c) = some (g_i σ 36 c) := by
  have z : ((1 : Int32) = 0) = False := by decide
  simp (disch := omega) only [↓wi_e, ↓wn_e, ↓rc_i, ↓rc_l, ↓h.q0, ↓h.q1, ↓h.q2, ↓h.qr, ↓h.qc, ↓h.qr2, ↓h.qr3, ↓h.qr4, ↓h.qr5, ↓h.qc5, ↓h.qt, ↓h.qt4, ↓h.qt5, ↓h.qt6, ↓h.qm2, ↓h.qm3, ↓h.qm4, ↓h.qm5, ↓h.qm6, ↓h.qm7, ↓h.qm8, ↓h.qm9, ↓h.qm10, ↓h.qm11, ↓h.qm12, ↓h.qm13, ↓h.qm14, ↓h.qm15, ↓h.qm16, ↓h.qm17, ↓h.qm18, ↓h.qm19, ↓h.qm20, ↓h.qm21, ↓h.qm22, ↓h.qm23, ↓h.qm24, h.lt, kd_0, kd_1, kd_2, kd_3, kd_r, kd_ra, kd_rb, kd_rc, kd_rd, ln_ra, ln_rb, ln_rc, ln_rd, kd_c, kd_ca, ln_ca, kd_t, kd_ta, kd_tb, kd_tc, ln_ta, ln_tb, ln_tc, ln_1, ln_2, ln_3, ln_51, kd_27, kd_28, kd_29, kd_30, kd_31, kd_32, kd_33, kd_34, kd_35, kd_36, kd_37, kd_38, kd_39, kd_40, kd_41, kd_42, kd_43, kd_44, kd_45, kd_46, kd_47, kd_48, kd_49, kd_50, kd_51, ln_28, ln_29, ln_30, ln_31, ln_32, ln_33, ln_34, ln_35, ln_36, ln_37, ln_38, ln_39, ln_40, ln_41, ln_42, ln_43, ln_44, ln_45, ln_46, ln_47, ln_48, ln_49, ln_50, inb_n, cl_n, g_n_s_i, g_n_s_l, mul_3, mul_4, mul_6, mul_61, nI_add, nI_1, nle_0, nle_1, nle_2, nle_3, nle_4, nle_5, nle_6, nle_7, nle_60, nle_61, nlt_0, nlt_1, nlt_2, nlt_3, nlt_4, nlt_5, nlt_6, nlt_7, nlt_60, nlt_61, nge_0, nge_1, nge_2, nge_3, nge_4, nge_5, nge_6, nge_7, nge_60, nge_61, ngt_0, ngt_1, ngt_2, ngt_3, ngt_4, ngt_5, ngt_6, ngt_7, ngt_60, ngt_61, neq_0, neq_1, neq_2, neq_3, neq_4, neq_5, neq_6, neq_7, neq_60, neq_61, and_self, and_true, true_and, or_true, true_or, if_true, if_false, or_self, and_false, false_and, or_false, false_or, not_true_eq_false, not_false_eq_true, ne_eq, reduceCtorEq, eq_self, f_M_stateOf, b_M_stateOf_17, ↓bq (p_mC1 hc), z]
theorem p_stateOf0 {σ : Sg} {x : Int32} (hc : x < 0 ∨ 4 ≤ x) : f_M_stateOf σ 27 x = some 0 := by
  simp only [f_M_stateOf, b_M_stateOf_17, ↓bq (p_mC0 hc), if_true]
def mgv (σ : Sg) : Int32 := mx (mx (mx 0 (g_i σ 43 0)) (g_i σ 43 1)) (g_i σ 43 2)
theorem st_mgv {b : Nat} {σ : Sg} (h : SN b σ) {n i : Nat} (hi : i < 3) (v : Int32) : b_M_groupView_4 σ (n + 1) 27 v (nI i) = b_M_groupView_4 σ n 27 (mx v (g_i σ 43 i)) (nI (i + 1)) := by
  have hn : ¬ 3 ≤ i := by omega
  simp (disch := omega) only [↓wi_e, ↓wn_e, ↓rc_i, ↓rc_l, ↓h.q0, ↓h.q1, ↓h.q2, ↓h.qr, ↓h.qc, ↓h.qr2, ↓h.qr3, ↓h.qr4, ↓h.qr5, ↓h.qc5, ↓h.qt, ↓h.qt4, ↓h.qt5, ↓h.qt6, ↓h.qm2, ↓h.qm3, ↓h.qm4, ↓h.qm5, ↓h.qm6, ↓h.qm7, ↓h.qm8, ↓h.qm9, ↓h.qm10, ↓h.qm11, ↓h.qm12, ↓h.qm13, ↓h.qm14, ↓h.qm15, ↓h.qm16, ↓h.qm17, ↓h.qm18, ↓h.qm19, ↓h.qm20, ↓h.qm21, ↓h.qm22, ↓h.qm23, ↓h.qm24, h.lt, kd_0, kd_1, kd_2, kd_3, kd_r, kd_ra, kd_rb, kd_rc, kd_rd, ln_ra, ln_rb, ln_rc, ln_rd, kd_c, kd_ca, ln_ca, kd_t, kd_ta, kd_tb, kd_tc, ln_ta, ln_tb, ln_tc, ln_1, ln_2, ln_3, ln_51, kd_27, kd_28, kd_29, kd_30, kd_31, kd_32, kd_33, kd_34, kd_35, kd_36, kd_37, kd_38, kd_39, kd_40, kd_41, kd_42, kd_43, kd_44, kd_45, kd_46, kd_47, kd_48, kd_49, kd_50, kd_51, ln_28, ln_29, ln_30, ln_31, ln_32, ln_33, ln_34, ln_35, ln_36, ln_37, ln_38, ln_39, ln_40, ln_41, ln_42, ln_43, ln_44, ln_45, ln_46, ln_47, ln_48, ln_49, ln_50, inb_n, cl_n, g_n_s_i, g_n_s_l, mul_3, mul_4, mul_6, mul_61, nI_add, nI_1, nle_0, nle_1, nle_2, nle_3, nle_4, nle_5, nle_6, nle_7, nle_60, nle_61, nlt_0, nlt_1, nlt_2, nlt_3, nlt_4, nlt_5, nlt_6, nlt_7, nlt_60, nlt_61, nge_0, nge_1, nge_2, nge_3, nge_4, nge_5, nge_6, nge_7, nge_60, nge_61, ngt_0, ngt_1, ngt_2, ngt_3, ngt_4, ngt_5, ngt_6, ngt_7, ngt_60, ngt_61, neq_0, neq_1, neq_2, neq_3, neq_4, neq_5, neq_6, neq_7, neq_60, neq_61, and_self, and_true, true_and, or_true, true_or, if_true, if_false, or_self, and_false, false_and, or_false, false_or, not_true_eq_false, not_false_eq_true, ne_eq, reduceCtorEq, eq_self, b_M_groupView_4, b_M_groupView_29, hn]
  unfold mx
  split
  · rw [if_neg (by grind)]
  · rw [if_pos (by grind)]
theorem en_mgv {σ : Sg} {n a : Nat} {v : Int32} : b_M_groupView_4 σ (n + 1) a v (nI (2 + 1)) = some v := by
  simp only [b_M_groupView_4]
  rw [if_pos (by decide)]
theorem p_mgv {b : Nat} {σ : Sg} (h : SN b σ) : f_M_groupView σ 27 = some (mgv σ) := by
  show b_M_groupView_4 σ (999 + 1) 27 0 (nI 0) = _
  rw [st_mgv h (n := 998 + 1) (by omega), st_mgv h (n := 997 + 1) (by omega), st_mgv h (n := 996 + 1) (by omega), en_mgv]
  rfl
theorem p_mserves {b : Nat} {σ : Sg} (h : SN b σ) {i : Nat} (hi : i < 3) : f_M_serves σ 27 (nI i) = some (if g_i σ 42 i = 0 then 0 else if g_i σ 43 i = mgv σ then 1 else 0) := by
  simp (disch := omega) only [↓wi_e, ↓wn_e, ↓rc_i, ↓rc_l, ↓h.q0, ↓h.q1, ↓h.q2, ↓h.qr, ↓h.qc, ↓h.qr2, ↓h.qr3, ↓h.qr4, ↓h.qr5, ↓h.qc5, ↓h.qt, ↓h.qt4, ↓h.qt5, ↓h.qt6, ↓h.qm2, ↓h.qm3, ↓h.qm4, ↓h.qm5, ↓h.qm6, ↓h.qm7, ↓h.qm8, ↓h.qm9, ↓h.qm10, ↓h.qm11, ↓h.qm12, ↓h.qm13, ↓h.qm14, ↓h.qm15, ↓h.qm16, ↓h.qm17, ↓h.qm18, ↓h.qm19, ↓h.qm20, ↓h.qm21, ↓h.qm22, ↓h.qm23, ↓h.qm24, h.lt, kd_0, kd_1, kd_2, kd_3, kd_r, kd_ra, kd_rb, kd_rc, kd_rd, ln_ra, ln_rb, ln_rc, ln_rd, kd_c, kd_ca, ln_ca, kd_t, kd_ta, kd_tb, kd_tc, ln_ta, ln_tb, ln_tc, ln_1, ln_2, ln_3, ln_51, kd_27, kd_28, kd_29, kd_30, kd_31, kd_32, kd_33, kd_34, kd_35, kd_36, kd_37, kd_38, kd_39, kd_40, kd_41, kd_42, kd_43, kd_44, kd_45, kd_46, kd_47, kd_48, kd_49, kd_50, kd_51, ln_28, ln_29, ln_30, ln_31, ln_32, ln_33, ln_34, ln_35, ln_36, ln_37, ln_38, ln_39, ln_40, ln_41, ln_42, ln_43, ln_44, ln_45, ln_46, ln_47, ln_48, ln_49, ln_50, inb_n, cl_n, g_n_s_i, g_n_s_l, mul_3, mul_4, mul_6, mul_61, nI_add, nI_1, nle_0, nle_1, nle_2, nle_3, nle_4, nle_5, nle_6, nle_7, nle_60, nle_61, nlt_0, nlt_1, nlt_2, nlt_3, nlt_4, nlt_5, nlt_6, nlt_7, nlt_60, nlt_61, nge_0, nge_1, nge_2, nge_3, nge_4, nge_5, nge_6, nge_7, nge_60, nge_61, ngt_0, ngt_1, ngt_2, ngt_3, ngt_4, ngt_5, ngt_6, ngt_7, ngt_60, ngt_61, neq_0, neq_1, neq_2, neq_3, neq_4, neq_5, neq_6, neq_7, neq_60, neq_61, and_self, and_true, true_and, or_true, true_or, if_true, if_false, or_self, and_false, false_and, or_false, false_or, not_true_eq_false, not_false_eq_true, ne_eq, reduceCtorEq, eq_self, f_M_serves, b_M_serves_26, b_M_serves_27, ↓bq (p_mgv h)]
  grind
theorem st_pw {b : Nat} {σ : Sg} (h : SN b σ) {n t k j c : Nat} (ht : t ≤ 60) (hj : j < c) (hc : c ≤ 4) : b_M_placeOf_26 σ (n + 1) 27 (nI t) (nI k) 0 (nI c) (nI (4 * t + j)) = if g_i σ 34 (4 * t + j) = nI k then some (nI (4 * t + j)) else b_M_placeOf_26 σ n 27 (nI t) (nI k) 0 (nI c) (nI (4 * t + (j + 1))) := by
  have hn : ¬ 4 * t + c ≤ 4 * t + j := by omega
  simp (disch := omega) only [↓wi_e, ↓wn_e, ↓rc_i, ↓rc_l, ↓h.q0, ↓h.q1, ↓h.q2, ↓h.qr, ↓h.qc, ↓h.qr2, ↓h.qr3, ↓h.qr4, ↓h.qr5, ↓h.qc5, ↓h.qt, ↓h.qt4, ↓h.qt5, ↓h.qt6, ↓h.qm2, ↓h.qm3, ↓h.qm4, ↓h.qm5, ↓h.qm6, ↓h.qm7, ↓h.qm8, ↓h.qm9, ↓h.qm10, ↓h.qm11, ↓h.qm12, ↓h.qm13, ↓h.qm14, ↓h.qm15, ↓h.qm16, ↓h.qm17, ↓h.qm18, ↓h.qm19, ↓h.qm20, ↓h.qm21, ↓h.qm22, ↓h.qm23, ↓h.qm24, h.lt, kd_0, kd_1, kd_2, kd_3, kd_r, kd_ra, kd_rb, kd_rc, kd_rd, ln_ra, ln_rb, ln_rc, ln_rd, kd_c, kd_ca, ln_ca, kd_t, kd_ta, kd_tb, kd_tc, ln_ta, ln_tb, ln_tc, ln_1, ln_2, ln_3, ln_51, kd_27, kd_28, kd_29, kd_30, kd_31, kd_32, kd_33, kd_34, kd_35, kd_36, kd_37, kd_38, kd_39, kd_40, kd_41, kd_42, kd_43, kd_44, kd_45, kd_46, kd_47, kd_48, kd_49, kd_50, kd_51, ln_28, ln_29, ln_30, ln_31, ln_32, ln_33, ln_34, ln_35, ln_36, ln_37, ln_38, ln_39, ln_40, ln_41, ln_42, ln_43, ln_44, ln_45, ln_46, ln_47, ln_48, ln_49, ln_50, inb_n, cl_n, g_n_s_i, g_n_s_l, mul_3, mul_4, mul_6, mul_61, nI_add, nI_1, nle_0, nle_1, nle_2, nle_3, nle_4, nle_5, nle_6, nle_7, nle_60, nle_61, nlt_0, nlt_1, nlt_2, nlt_3, nlt_4, nlt_5, nlt_6, nlt_7, nlt_60, nlt_61, nge_0, nge_1, nge_2, nge_3, nge_4, nge_5, nge_6, nge_7, nge_60, nge_61, ngt_0, ngt_1, ngt_2, ngt_3, ngt_4, ngt_5, ngt_6, ngt_7, ngt_60, ngt_61, neq_0, neq_1, neq_2, neq_3, neq_4, neq_5, neq_6, neq_7, neq_60, neq_61, and_self, and_true, true_and, or_true, true_or, if_true, if_false, or_self, and_false, false_and, or_false, false_or, not_true_eq_false, not_false_eq_true, ne_eq, reduceCtorEq, eq_self, b_M_placeOf_26, b_M_placeOf_58, nle, hn, Nat.add_assoc]
theorem st_pr {b : Nat} {σ : Sg} (h : SN b σ) {n t k j c : Nat} (ht : t ≤ 60) (hj : j < c) (hc : c ≤ 4) : b_M_placeOf_26 σ (n + 1) 27 (nI t) (nI k) 1 (nI c) (nI (4 * t + j)) = if g_i σ 30 (4 * t + j) = nI k then some (nI (4 * t + j)) else b_M_placeOf_26 σ n 27 (nI t) (nI k) 1 (nI c) (nI (4 * t + (j + 1))) := by
  have hn : ¬ 4 * t + c ≤ 4 * t + j := by omega
  have z : ((1 : Int32) = 0) = False := by decide
  simp (disch := omega) only [↓wi_e, ↓wn_e, ↓rc_i, ↓rc_l, ↓h.q0, ↓h.q1, ↓h.q2, ↓h.qr, ↓h.qc, ↓h.qr2, ↓h.qr3, ↓h.qr4, ↓h.qr5, ↓h.qc5, ↓h.qt, ↓h.qt4, ↓h.qt5, ↓h.qt6, ↓h.qm2, ↓h.qm3, ↓h.qm4, ↓h.qm5, ↓h.qm6, ↓h.qm7, ↓h.qm8, ↓h.qm9, ↓h.qm10, ↓h.qm11, ↓h.qm12, ↓h.qm13, ↓h.qm14, ↓h.qm15, ↓h.qm16, ↓h.qm17, ↓h.qm18, ↓h.qm19, ↓h.qm20, ↓h.qm21, ↓h.qm22, ↓h.qm23, ↓h.qm24, h.lt, kd_0, kd_1, kd_2, kd_3, kd_r, kd_ra, kd_rb, kd_rc, kd_rd, ln_ra, ln_rb, ln_rc, ln_rd, kd_c, kd_ca, ln_ca, kd_t, kd_ta, kd_tb, kd_tc, ln_ta, ln_tb, ln_tc, ln_1, ln_2, ln_3, ln_51, kd_27, kd_28, kd_29, kd_30, kd_31, kd_32, kd_33, kd_34, kd_35, kd_36, kd_37, kd_38, kd_39, kd_40, kd_41, kd_42, kd_43, kd_44, kd_45, kd_46, kd_47, kd_48, kd_49, kd_50, kd_51, ln_28, ln_29, ln_30, ln_31, ln_32, ln_33, ln_34, ln_35, ln_36, ln_37, ln_38, ln_39, ln_40, ln_41, ln_42, ln_43, ln_44, ln_45, ln_46, ln_47, ln_48, ln_49, ln_50, inb_n, cl_n, g_n_s_i, g_n_s_l, mul_3, mul_4, mul_6, mul_61, nI_add, nI_1, nle_0, nle_1, nle_2, nle_3, nle_4, nle_5, nle_6, nle_7, nle_60, nle_61, nlt_0, nlt_1, nlt_2, nlt_3, nlt_4, nlt_5, nlt_6, nlt_7, nlt_60, nlt_61, nge_0, nge_1, nge_2, nge_3, nge_4, nge_5, nge_6, nge_7, nge_60, nge_61, ngt_0, ngt_1, ngt_2, ngt_3, ngt_4, ngt_5, ngt_6, ngt_7, ngt_60, ngt_61, neq_0, neq_1, neq_2, neq_3, neq_4, neq_5, neq_6, neq_7, neq_60, neq_61, and_self, and_true, true_and, or_true, true_or, if_true, if_false, or_self, and_false, false_and, or_false, false_or, not_true_eq_false, not_false_eq_true, ne_eq, reduceCtorEq, eq_self, b_M_placeOf_26, b_M_placeOf_58, nle, hn, Nat.add_assoc, z]
theorem en_pl {σ : Sg} {n a t k c : Nat} {x : Int32} (ht : t ≤ 60) (hc : c ≤ 4) : b_M_placeOf_26 σ (n + 1) a (nI t) (nI k) x (nI c) (nI (4 * t + c)) = some (-1) := by
  simp only [b_M_placeOf_26, mul_4, nI_add]
  rw [if_pos (by rw [nle (by omega) (by omega)]; omega)]
theorem lp_pw {b : Nat} {σ : Sg} (h : SN b σ) {t k c : Nat} (ht : t ≤ 60) (hc : c ≤ 4) : ∀ d n j, d + j = c → d < n → ∃ v, b_M_placeOf_26 σ n 27 (nI t) (nI k) 0 (nI c) (nI (4 * t + j)) = some v ∧ ((v = -1 ∧ ∀ i, j ≤ i → i < c → g_i σ 34 (4 * t + i) ≠ nI k) ∨ ∃ i, i < c ∧ v = nI (4 * t + i) ∧ g_i σ 34 (4 * t + i) = nI k) := by
  intro d
  induction d with
  | zero =>
    intro n j hj hn
    obtain ⟨n, rfl⟩ : ∃ m, n = m + 1 := ⟨n - 1, by omega⟩
    obtain rfl : j = c := by omega
    exact ⟨-1, en_pl ht hc, Or.inl ⟨rfl, fun i h1 h2 => absurd h2 (by omega)⟩⟩
  | succ d ih =>
    intro n j hj hn
    obtain ⟨n, rfl⟩ : ∃ m, n = m + 1 := ⟨n - 1, by omega⟩
    rw [st_pw h ht (by omega) hc]
    by_cases e : g_i σ 34 (4 * t + j) = nI k
    · exact ⟨_, if_pos e, Or.inr ⟨j, by omega, rfl, e⟩⟩
    · rw [if_neg e]
      obtain ⟨v, q, r⟩ := ih n (j + 1) (by omega) (by omega)
      refine ⟨v, q, r.imp (fun r => ⟨r.1, fun i h1 h2 => ?_⟩) id⟩
      by_cases hi : i = j
      · rw [hi]; exact e
      · exact r.2 i (by omega) h2
theorem lp_pr {b : Nat} {σ : Sg} (h : SN b σ) {t k c : Nat} (ht : t ≤ 60) (hc : c ≤ 4) : ∀ d n j, d + j = c → d < n → ∃ v, b_M_placeOf_26 σ n 27 (nI t) (nI k) 1 (nI c) (nI (4 * t + j)) = some v ∧ ((v = -1 ∧ ∀ i, j ≤ i → i < c → g_i σ 30 (4 * t + i) ≠ nI k) ∨ ∃ i, i < c ∧ v = nI (4 * t + i) ∧ g_i σ 30 (4 * t + i) = nI k) := by
  intro d
  induction d with
  | zero =>
    intro n j hj hn
    obtain ⟨n, rfl⟩ : ∃ m, n = m + 1 := ⟨n - 1, by omega⟩
    obtain rfl : j = c := by omega
    exact ⟨-1, en_pl ht hc, Or.inl ⟨rfl, fun i h1 h2 => absurd h2 (by omega)⟩⟩
  | succ d ih =>
    intro n j hj hn
    obtain ⟨n, rfl⟩ : ∃ m, n = m + 1 := ⟨n - 1, by omega⟩
    rw [st_pr h ht (by omega) hc]
    by_cases e : g_i σ 30 (4 * t + j) = nI k
    · exact ⟨_, if_pos e, Or.inr ⟨j, by omega, rfl, e⟩⟩
    · rw [if_neg e]
      obtain ⟨v, q, r⟩ := ih n (j + 1) (by omega) (by omega)
      refine ⟨v, q, r.imp (fun r => ⟨r.1, fun i h1 h2 => ?_⟩) id⟩
      by_cases hi : i = j
      · rw [hi]; exact e
      · exact r.2 i (by omega) h2
theorem p_placeW {b : Nat} {σ : Sg} (h : SN b σ) {t k c : Nat} (ht : t ≤ 60) (hc : c ≤ 4) (e : g_i σ 33 t = nI c) : ∃ v, f_M_placeOf σ 27 (nI t) (nI k) 0 = some v ∧ ((v = -1 ∧ ∀ i, i < c → g_i σ 34 (4 * t + i) ≠ nI k) ∨ ∃ i, i < c ∧ v = nI (4 * t + i) ∧ g_i σ 34 (4 * t + i) = nI k) := by
  obtain ⟨v, q, r⟩ := lp_pw h (k := k) ht hc c 1000 0 (by omega) (by omega)
  refine ⟨v, ?_, r.imp (fun r => ⟨r.1, fun i h2 => r.2 i (by omega) h2⟩) id⟩
  simp (disch := omega) only [↓wi_e, ↓wn_e, ↓rc_i, ↓rc_l, ↓h.q0, ↓h.q1, ↓h.q2, ↓h.qr, ↓h.qc, ↓h.qr2, ↓h.qr3, ↓h.qr4, ↓h.qr5, ↓h.qc5, ↓h.qt, ↓h.qt4, ↓h.qt5, ↓h.qt6, ↓h.qm2, ↓h.qm3, ↓h.qm4, ↓h.qm5, ↓h.qm6, ↓h.qm7, ↓h.qm8, ↓h.qm9, ↓h.qm10, ↓h.qm11, ↓h.qm12, ↓h.qm13, ↓h.qm14, ↓h.qm15, ↓h.qm16, ↓h.qm17, ↓h.qm18, ↓h.qm19, ↓h.qm20, ↓h.qm21, ↓h.qm22, ↓h.qm23, ↓h.qm24, h.lt, kd_0, kd_1, kd_2, kd_3, kd_r, kd_ra, kd_rb, kd_rc, kd_rd, ln_ra, ln_rb, ln_rc, ln_rd, kd_c, kd_ca, ln_ca, kd_t, kd_ta, kd_tb, kd_tc, ln_ta, ln_tb, ln_tc, ln_1, ln_2, ln_3, ln_51, kd_27, kd_28, kd_29, kd_30, kd_31, kd_32, kd_33, kd_34, kd_35, kd_36, kd_37, kd_38, kd_39, kd_40, kd_41, kd_42, kd_43, kd_44, kd_45, kd_46, kd_47, kd_48, kd_49, kd_50, kd_51, ln_28, ln_29, ln_30, ln_31, ln_32, ln_33, ln_34, ln_35, ln_36, ln_37, ln_38, ln_39, ln_40, ln_41, ln_42, ln_43, ln_44, ln_45, ln_46, ln_47, ln_48, ln_49, ln_50, inb_n, cl_n, g_n_s_i, g_n_s_l, mul_3, mul_4, mul_6, mul_61, nI_add, nI_1, nle_0, nle_1, nle_2, nle_3, nle_4, nle_5, nle_6, nle_7, nle_60, nle_61, nlt_0, nlt_1, nlt_2, nlt_3, nlt_4, nlt_5, nlt_6, nlt_7, nlt_60, nlt_61, nge_0, nge_1, nge_2, nge_3, nge_4, nge_5, nge_6, nge_7, nge_60, nge_61, ngt_0, ngt_1, ngt_2, ngt_3, ngt_4, ngt_5, ngt_6, ngt_7, ngt_60, ngt_61, neq_0, neq_1, neq_2, neq_3, neq_4, neq_5, neq_6, neq_7, neq_60, neq_61, and_self, and_true, true_and, or_true, true_or, if_true, if_false, or_self, and_false, false_and, or_false, false_or, not_true_eq_false, not_false_eq_true, ne_eq, reduceCtorEq, eq_self, f_M_placeOf, b_M_placeOf_19, e]
  exact q
theorem p_placeR {b : Nat} {σ : Sg} (h : SN b σ) {t k c : Nat} (ht : t ≤ 60) (hc : c ≤ 4) (e : g_i σ 29 t = nI c) : ∃ v, f_M_placeOf σ 27 (nI t) (nI k) 1 = some v ∧ ((v = -1 ∧ ∀ i, i < c → g_i σ 30 (4 * t + i) ≠ nI k) ∨ ∃ i, i < c ∧ v = nI (4 * t + i) ∧ g_i σ 30 (4 * t + i) = nI k) := by
  obtain ⟨v, q, r⟩ := lp_pr h (k := k) ht hc c 1000 0 (by omega) (by omega)
  refine ⟨v, ?_, r.imp (fun r => ⟨r.1, fun i h2 => r.2 i (by omega) h2⟩) id⟩
  have z : ((1 : Int32) = 0) = False := by decide
  simp (disch := omega) only [↓wi_e, ↓wn_e, ↓rc_i, ↓rc_l, ↓h.q0, ↓h.q1, ↓h.q2, ↓h.qr, ↓h.qc, ↓h.qr2, ↓h.qr3, ↓h.qr4, ↓h.qr5, ↓h.qc5, ↓h.qt, ↓h.qt4, ↓h.qt5, ↓h.qt6, ↓h.qm2, ↓h.qm3, ↓h.qm4, ↓h.qm5, ↓h.qm6, ↓h.qm7, ↓h.qm8, ↓h.qm9, ↓h.qm10, ↓h.qm11, ↓h.qm12, ↓h.qm13, ↓h.qm14, ↓h.qm15, ↓h.qm16, ↓h.qm17, ↓h.qm18, ↓h.qm19, ↓h.qm20, ↓h.qm21, ↓h.qm22, ↓h.qm23, ↓h.qm24, h.lt, kd_0, kd_1, kd_2, kd_3, kd_r, kd_ra, kd_rb, kd_rc, kd_rd, ln_ra, ln_rb, ln_rc, ln_rd, kd_c, kd_ca, ln_ca, kd_t, kd_ta, kd_tb, kd_tc, ln_ta, ln_tb, ln_tc, ln_1, ln_2, ln_3, ln_51, kd_27, kd_28, kd_29, kd_30, kd_31, kd_32, kd_33, kd_34, kd_35, kd_36, kd_37, kd_38, kd_39, kd_40, kd_41, kd_42, kd_43, kd_44, kd_45, kd_46, kd_47, kd_48, kd_49, kd_50, kd_51, ln_28, ln_29, ln_30, ln_31, ln_32, ln_33, ln_34, ln_35, ln_36, ln_37, ln_38, ln_39, ln_40, ln_41, ln_42, ln_43, ln_44, ln_45, ln_46, ln_47, ln_48, ln_49, ln_50, inb_n, cl_n, g_n_s_i, g_n_s_l, mul_3, mul_4, mul_6, mul_61, nI_add, nI_1, nle_0, nle_1, nle_2, nle_3, nle_4, nle_5, nle_6, nle_7, nle_60, nle_61, nlt_0, nlt_1, nlt_2, nlt_3, nlt_4, nlt_5, nlt_6, nlt_7, nlt_60, nlt_61, nge_0, nge_1, nge_2, nge_3, nge_4, nge_5, nge_6, nge_7, nge_60, nge_61, ngt_0, ngt_1, ngt_2, ngt_3, ngt_4, ngt_5, ngt_6, ngt_7, ngt_60, ngt_61, neq_0, neq_1, neq_2, neq_3, neq_4, neq_5, neq_6, neq_7, neq_60, neq_61, and_self, and_true, true_and, or_true, true_or, if_true, if_false, or_self, and_false, false_and, or_false, false_or, not_true_eq_false, not_false_eq_true, ne_eq, reduceCtorEq, eq_self, f_M_placeOf, b_M_placeOf_19, e, z]
  exact q
theorem p_mprep {b : Nat} {σ : Sg} (h : SN b σ) {i t : Nat} (hi : i < 3) (ht : t < 61) : f_M_isPrepared σ 27 (nI t) (nI i) = some (if g_i σ 47 (61 * i + t) = 0 ∧ g_i σ 49 (61 * i + t) = 0 ∧ g_i σ 50 (61 * i + t) = 0 then 1 else 0) := by
  simp (disch := omega) only [↓wi_e, ↓wn_e, ↓rc_i, ↓rc_l, ↓h.q0, ↓h.q1, ↓h.q2, ↓h.qr, ↓h.qc, ↓h.qr2, ↓h.qr3, ↓h.qr4, ↓h.qr5, ↓h.qc5, ↓h.qt, ↓h.qt4, ↓h.qt5, ↓h.qt6, ↓h.qm2, ↓h.qm3, ↓h.qm4, ↓h.qm5, ↓h.qm6, ↓h.qm7, ↓h.qm8, ↓h.qm9, ↓h.qm10, ↓h.qm11, ↓h.qm12, ↓h.qm13, ↓h.qm14, ↓h.qm15, ↓h.qm16, ↓h.qm17, ↓h.qm18, ↓h.qm19, ↓h.qm20, ↓h.qm21, ↓h.qm22, ↓h.qm23, ↓h.qm24, h.lt, kd_0, kd_1, kd_2, kd_3, kd_r, kd_ra, kd_rb, kd_rc, kd_rd, ln_ra, ln_rb, ln_rc, ln_rd, kd_c, kd_ca, ln_ca, kd_t, kd_ta, kd_tb, kd_tc, ln_ta, ln_tb, ln_tc, ln_1, ln_2, ln_3, ln_51, kd_27, kd_28, kd_29, kd_30, kd_31, kd_32, kd_33, kd_34, kd_35, kd_36, kd_37, kd_38, kd_39, kd_40, kd_41, kd_42, kd_43, kd_44, kd_45, kd_46, kd_47, kd_48, kd_49, kd_50, kd_51, ln_28, ln_29, ln_30, ln_31, ln_32, ln_33, ln_34, ln_35, ln_36, ln_37, ln_38, ln_39, ln_40, ln_41, ln_42, ln_43, ln_44, ln_45, ln_46, ln_47, ln_48, ln_49, ln_50, inb_n, cl_n, g_n_s_i, g_n_s_l, mul_3, mul_4, mul_6, mul_61, nI_add, nI_1, nle_0, nle_1, nle_2, nle_3, nle_4, nle_5, nle_6, nle_7, nle_60, nle_61, nlt_0, nlt_1, nlt_2, nlt_3, nlt_4, nlt_5, nlt_6, nlt_7, nlt_60, nlt_61, nge_0, nge_1, nge_2, nge_3, nge_4, nge_5, nge_6, nge_7, nge_60, nge_61, ngt_0, ngt_1, ngt_2, ngt_3, ngt_4, ngt_5, ngt_6, ngt_7, ngt_60, ngt_61, neq_0, neq_1, neq_2, neq_3, neq_4, neq_5, neq_6, neq_7, neq_60, neq_61, and_self, and_true, true_and, or_true, true_or, if_true, if_false, or_self, and_false, false_and, or_false, false_or, not_true_eq_false, not_false_eq_true, ne_eq, reduceCtorEq, eq_self, f_M_isPrepared, b_M_isPrepared_38, b_M_isPrepared_39]
  grind
/-- the reference's count of three answers -/
def mct1 (x w : Int32) : Nat := if x < 0 then 0 else if w < 0 then 1 else if x = w then 1 else 0
theorem st_mct {b : Nat} {σ : Sg} (h : SN b σ) {n i v c : Nat} (hi : i < 3) (hc : c < 4) (x : Int32) : b_M_count_7 σ (n + 1) 27 (nI c) x (nI v) (nI (3 * c + i)) = b_M_count_7 σ n 27 (nI c) x (nI (v + mct1 (g_i σ 40 (3 * c + i)) x)) (nI (3 * c + (i + 1))) := by
  have hn : ¬ 3 * (c + 1) ≤ 3 * c + i := by omega
  simp (disch := omega) only [↓wi_e, ↓wn_e, ↓rc_i, ↓rc_l, ↓h.q0, ↓h.q1, ↓h.q2, ↓h.qr, ↓h.qc, ↓h.qr2, ↓h.qr3, ↓h.qr4, ↓h.qr5, ↓h.qc5, ↓h.qt, ↓h.qt4, ↓h.qt5, ↓h.qt6, ↓h.qm2, ↓h.qm3, ↓h.qm4, ↓h.qm5, ↓h.qm6, ↓h.qm7, ↓h.qm8, ↓h.qm9, ↓h.qm10, ↓h.qm11, ↓h.qm12, ↓h.qm13, ↓h.qm14, ↓h.qm15, ↓h.qm16, ↓h.qm17, ↓h.qm18, ↓h.qm19, ↓h.qm20, ↓h.qm21, ↓h.qm22, ↓h.qm23, ↓h.qm24, h.lt, kd_0, kd_1, kd_2, kd_3, kd_r, kd_ra, kd_rb, kd_rc, kd_rd, ln_ra, ln_rb, ln_rc, ln_rd, kd_c, kd_ca, ln_ca, kd_t, kd_ta, kd_tb, kd_tc, ln_ta, ln_tb, ln_tc, ln_1, ln_2, ln_3, ln_51, kd_27, kd_28, kd_29, kd_30, kd_31, kd_32, kd_33, kd_34, kd_35, kd_36, kd_37, kd_38, kd_39, kd_40, kd_41, kd_42, kd_43, kd_44, kd_45, kd_46, kd_47, kd_48, kd_49, kd_50, kd_51, ln_28, ln_29, ln_30, ln_31, ln_32, ln_33, ln_34, ln_35, ln_36, ln_37, ln_38, ln_39, ln_40, ln_41, ln_42, ln_43, ln_44, ln_45, ln_46, ln_47, ln_48, ln_49, ln_50, inb_n, cl_n, g_n_s_i, g_n_s_l, mul_3, mul_4, mul_6, mul_61, nI_add, nI_1, nle_0, nle_1, nle_2, nle_3, nle_4, nle_5, nle_6, nle_7, nle_60, nle_61, nlt_0, nlt_1, nlt_2, nlt_3, nlt_4, nlt_5, nlt_6, nlt_7, nlt_60, nlt_61, nge_0, nge_1, nge_2, nge_3, nge_4, nge_5, nge_6, nge_7, nge_60, nge_61, ngt_0, ngt_1, ngt_2, ngt_3, ngt_4, ngt_5, ngt_6, ngt_7, ngt_60, ngt_61, neq_0, neq_1, neq_2, neq_3, neq_4, neq_5, neq_6, neq_7, neq_60, neq_61, and_self, and_true, true_and, or_true, true_or, if_true, if_false, or_self, and_false, false_and, or_false, false_or, not_true_eq_false, not_false_eq_true, ne_eq, reduceCtorEq, eq_self, b_M_count_7, b_M_count_47, b_M_count_48, b_M_count_43, nle, hn, Nat.add_assoc, Int32.add_zero]
  unfold mct1
  grind
theorem en_mct {σ : Sg} {n a c : Nat} (hc : c < 4) {v x : Int32} : b_M_count_7 σ (n + 1) a (nI c) x v (nI (3 * c + (2 + 1))) = some v := by
  simp only [b_M_count_7, nI_1, mul_3]
  rw [if_pos (by rw [nle (by omega) (by omega)]; omega)]
def mct (x y z w : Int32) : Nat := mct1 x w + mct1 y w + mct1 z w
theorem p_mcount {b : Nat} {σ : Sg} (h : SN b σ) {c : Nat} (hc : c < 4) (x : Int32) : f_M_count σ 27 (nI c) x = some (nI (mct (g_i σ 40 (3 * c)) (g_i σ 40 (3 * c + 1)) (g_i σ 40 (3 * c + 2)) x)) := by
  have : f_M_count σ 27 (nI c) x = b_M_count_7 σ (999 + 1) 27 (nI c) x (nI 0) (nI (3 * c + 0)) := by
    simp only [f_M_count, wn_e, mul_3]
    rfl
  rw [this, st_mct h (n := 998 + 1) (by omega) hc, st_mct h (n := 997 + 1) (by omega) hc, st_mct h (n := 996 + 1) (by omega) hc, en_mct hc, Nat.zero_add]
  rfl
theorem mct_le (x y z w : Int32) : mct x y z w ≤ 3 := by
  have q : ∀ x w, mct1 x w ≤ 1 := fun x w => by unfold mct1; grind
  have := q x w
  have := q y w
  have := q z w
  unfold mct
  omega
def mrb (x y z : Int32) : Int32 := if mct x y z 2 ≤ 0 then (if mct x y z 0 ≤ 1 then (if mct x y z 1 ≤ 1 then (if mct x y z 3 ≤ 0 then 2 else 3) else 2) else 0) else 2
theorem p_byRule {b : Nat} {σ : Sg} (h : SN b σ) {c : Nat} (hc : c < 4) : f_M_byRule σ 27 (nI c) = some (mrb (g_i σ 40 (3 * c)) (g_i σ 40 (3 * c + 1)) (g_i σ 40 (3 * c + 2))) := by
  have q0 := mct_le (g_i σ 40 (3 * c)) (g_i σ 40 (3 * c + 1)) (g_i σ 40 (3 * c + 2)) 0
  have q1 := mct_le (g_i σ 40 (3 * c)) (g_i σ 40 (3 * c + 1)) (g_i σ 40 (3 * c + 2)) 1
  have q2 := mct_le (g_i σ 40 (3 * c)) (g_i σ 40 (3 * c + 1)) (g_i σ 40 (3 * c + 2)) 2
  have q3 := mct_le (g_i σ 40 (3 * c)) (g_i σ 40 (3 * c + 1)) (g_i σ 40 (3 * c + 2)) 3
  simp (disch := omega) only [↓wi_e, ↓wn_e, ↓rc_i, ↓rc_l, ↓h.q0, ↓h.q1, ↓h.q2, ↓h.qr, ↓h.qc, ↓h.qr2, ↓h.qr3, ↓h.qr4, ↓h.qr5, ↓h.qc5, ↓h.qt, ↓h.qt4, ↓h.qt5, ↓h.qt6, ↓h.qm2, ↓h.qm3, ↓h.qm4, ↓h.qm5, ↓h.qm6, ↓h.qm7, ↓h.qm8, ↓h.qm9, ↓h.qm10, ↓h.qm11, ↓h.qm12, ↓h.qm13, ↓h.qm14, ↓h.qm15, ↓h.qm16, ↓h.qm17, ↓h.qm18, ↓h.qm19, ↓h.qm20, ↓h.qm21, ↓h.qm22, ↓h.qm23, ↓h.qm24, h.lt, kd_0, kd_1, kd_2, kd_3, kd_r, kd_ra, kd_rb, kd_rc, kd_rd, ln_ra, ln_rb, ln_rc, ln_rd, kd_c, kd_ca, ln_ca, kd_t, kd_ta, kd_tb, kd_tc, ln_ta, ln_tb, ln_tc, ln_1, ln_2, ln_3, ln_51, kd_27, kd_28, kd_29, kd_30, kd_31, kd_32, kd_33, kd_34, kd_35, kd_36, kd_37, kd_38, kd_39, kd_40, kd_41, kd_42, kd_43, kd_44, kd_45, kd_46, kd_47, kd_48, kd_49, kd_50, kd_51, ln_28, ln_29, ln_30, ln_31, ln_32, ln_33, ln_34, ln_35, ln_36, ln_37, ln_38, ln_39, ln_40, ln_41, ln_42, ln_43, ln_44, ln_45, ln_46, ln_47, ln_48, ln_49, ln_50, inb_n, cl_n, g_n_s_i, g_n_s_l, mul_3, mul_4, mul_6, mul_61, nI_add, nI_1, nle_0, nle_1, nle_2, nle_3, nle_4, nle_5, nle_6, nle_7, nle_60, nle_61, nlt_0, nlt_1, nlt_2, nlt_3, nlt_4, nlt_5, nlt_6, nlt_7, nlt_60, nlt_61, nge_0, nge_1, nge_2, nge_3, nge_4, nge_5, nge_6, nge_7, nge_60, nge_61, ngt_0, ngt_1, ngt_2, ngt_3, ngt_4, ngt_5, ngt_6, ngt_7, ngt_60, ngt_61, neq_0, neq_1, neq_2, neq_3, neq_4, neq_5, neq_6, neq_7, neq_60, neq_61, and_self, and_true, true_and, or_true, true_or, if_true, if_false, or_self, and_false, false_and, or_false, false_or, not_true_eq_false, not_false_eq_true, ne_eq, reduceCtorEq, eq_self, f_M_byRule, b_M_byRule_49, ↓bq (p_mcount h hc _)]
  unfold mrb
  grind
def bn (x : Int32) : Nat := if x = 0 then 0 else 1
theorem st_mcf {b : Nat} {σ : Sg} (h : SN b σ) {n i v c : Nat} (hi : i < 3) (hc : c < 4) : b_M_confirmations_6 σ (n + 1) 27 (nI c) (nI v) (nI (3 * c + i)) = b_M_confirmations_6 σ n 27 (nI c) (nI (v + bn (g_i σ 41 (3 * c + i)))) (nI (3 * c + (i + 1))) := by
  have hn : ¬ 3 * (c + 1) ≤ 3 * c + i := by omega
  simp (disch := omega) only [↓wi_e, ↓wn_e, ↓rc_i, ↓rc_l, ↓h.q0, ↓h.q1, ↓h.q2, ↓h.qr, ↓h.qc, ↓h.qr2, ↓h.qr3, ↓h.qr4, ↓h.qr5, ↓h.qc5, ↓h.qt, ↓h.qt4, ↓h.qt5, ↓h.qt6, ↓h.qm2, ↓h.qm3, ↓h.qm4, ↓h.qm5, ↓h.qm6, ↓h.qm7, ↓h.qm8, ↓h.qm9, ↓h.qm10, ↓h.qm11, ↓h.qm12, ↓h.qm13, ↓h.qm14, ↓h.qm15, ↓h.qm16, ↓h.qm17, ↓h.qm18, ↓h.qm19, ↓h.qm20, ↓h.qm21, ↓h.qm22, ↓h.qm23, ↓h.qm24, h.lt, kd_0, kd_1, kd_2, kd_3, kd_r, kd_ra, kd_rb, kd_rc, kd_rd, ln_ra, ln_rb, ln_rc, ln_rd, kd_c, kd_ca, ln_ca, kd_t, kd_ta, kd_tb, kd_tc, ln_ta, ln_tb, ln_tc, ln_1, ln_2, ln_3, ln_51, kd_27, kd_28, kd_29, kd_30, kd_31, kd_32, kd_33, kd_34, kd_35, kd_36, kd_37, kd_38, kd_39, kd_40, kd_41, kd_42, kd_43, kd_44, kd_45, kd_46, kd_47, kd_48, kd_49, kd_50, kd_51, ln_28, ln_29, ln_30, ln_31, ln_32, ln_33, ln_34, ln_35, ln_36, ln_37, ln_38, ln_39, ln_40, ln_41, ln_42, ln_43, ln_44, ln_45, ln_46, ln_47, ln_48, ln_49, ln_50, inb_n, cl_n, g_n_s_i, g_n_s_l, mul_3, mul_4, mul_6, mul_61, nI_add, nI_1, nle_0, nle_1, nle_2, nle_3, nle_4, nle_5, nle_6, nle_7, nle_60, nle_61, nlt_0, nlt_1, nlt_2, nlt_3, nlt_4, nlt_5, nlt_6, nlt_7, nlt_60, nlt_61, nge_0, nge_1, nge_2, nge_3, nge_4, nge_5, nge_6, nge_7, nge_60, nge_61, ngt_0, ngt_1, ngt_2, ngt_3, ngt_4, ngt_5, ngt_6, ngt_7, ngt_60, ngt_61, neq_0, neq_1, neq_2, neq_3, neq_4, neq_5, neq_6, neq_7, neq_60, neq_61, and_self, and_true, true_and, or_true, true_or, if_true, if_false, or_self, and_false, false_and, or_false, false_or, not_true_eq_false, not_false_eq_true, ne_eq, reduceCtorEq, eq_self, b_M_confirmations_6, b_M_confirmations_30, nle, hn, Nat.add_assoc, Int32.add_zero]
  unfold bn
  grind
theorem en_mcf {σ : Sg} {n a c : Nat} (hc : c < 4) {v : Int32} : b_M_confirmations_6 σ (n + 1) a (nI c) v (nI (3 * c + (2 + 1))) = some v := by
  simp only [b_M_confirmations_6, nI_1, mul_3]
  rw [if_pos (by rw [nle (by omega) (by omega)]; omega)]
theorem p_mconf {b : Nat} {σ : Sg} (h : SN b σ) {c : Nat} (hc : c < 4) : f_M_confirmations σ 27 (nI c) = some (nI (bn (g_i σ 41 (3 * c)) + bn (g_i σ 41 (3 * c + 1)) + bn (g_i σ 41 (3 * c + 2)))) := by
  have : f_M_confirmations σ 27 (nI c) = b_M_confirmations_6 σ (999 + 1) 27 (nI c) (nI 0) (nI (3 * c + 0)) := by
    simp only [f_M_confirmations, wn_e, mul_3]
    rfl
  rw [this, st_mcf h (n := 998 + 1) (by omega) hc, st_mcf h (n := 997 + 1) (by omega) hc, st_mcf h (n := 996 + 1) (by omega) hc, en_mcf hc, Nat.zero_add]
  rfl
