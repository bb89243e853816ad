/-! record, state, client, end. -/
theorem aw_mct {x y z : Int32} (hx : Ra x) (hy : Ra y) (hz : Ra z) : 3 - nI (aw x y z (-1)) = nI (mct x y z (-1)) := by
  rcases hx with rfl | rfl | rfl | rfl | rfl <;> rcases hy with rfl | rfl | rfl | rfl | rfl <;> rcases hz with rfl | rfl | rfl | rfl | rfl <;> decide +kernel
theorem pc_8 : ∀ m, m < 8 → pc m = bn (if m.testBit 0 = true then 1 else 0) + bn (if m.testBit 1 = true then 1 else 0) + bn (if m.testBit 2 = true then 1 else 0) := by decide +kernel
theorem rec_sum : ∀ n, n < 32 → nI (n % 4) + (if nI (n / 4 % 2) = 0 then 0 else 4) + (if nI (n / 8 % 2) = 0 then 0 else 8) + (if nI (n / 16 % 2) = 0 then 0 else 16) = nI n := by decide +kernel
theorem p_in {σ : Sg} (x y z : Int32) : f_M_in σ x y z = some (if x < y then 0 else if z < x then 0 else 1) := by
  unfold f_M_in b_M_in_14 b_M_in_15
  grind
theorem o_record {b : Nat} {M W : Nat → Nat} {σ : Sg} (h : R b M W σ) (x y : Int32) : ∃ v, f_G_record σ 0 x y = some v ∧ f_M_record σ 27 x y = some (v, s_i σ 27 0 0) := by
  have h0 := h.r0
  have hb := h.r1
  rcases oor3 (x := x) with ⟨i, hi, rfl⟩ | hx
  · by_cases hy1 : y < 1
    · simp (disch := omega) only [↓reduceIte, ↓wi_e, ↓wn_e, ↓rc_i, ↓rc_l, ↓h0.q0, ↓h0.q1, ↓h0.q2, ↓h0.qr, ↓h0.qc, ↓h0.qr2, ↓h0.qr3, ↓h0.qr4, ↓h0.qr5, ↓h0.qc5, ↓h0.qt, ↓h0.qt4, ↓h0.qt5, ↓h0.qt6, ↓h0.qm2, ↓h0.qm3, ↓h0.qm4, ↓h0.qm5, ↓h0.qm6, ↓h0.qm7, ↓h0.qm8, ↓h0.qm9, ↓h0.qm10, ↓h0.qm11, ↓h0.qm12, ↓h0.qm13, ↓h0.qm14, ↓h0.qm15, ↓h0.qm16, ↓h0.qm17, ↓h0.qm18, ↓h0.qm19, ↓h0.qm20, ↓h0.qm21, ↓h0.qm22, ↓h0.qm23, ↓h0.qm24, h0.lt, kd_0, kd_1, kd_2, kd_3, kd_r, kd_ra, kd_rb, kd_rc, kd_rd, ln_ra, ln_rb, ln_rc, ln_rd, kd_c, kd_ca, ln_ca, kd_t, kd_ta, kd_tb, kd_tc, ln_ta, ln_tb, ln_tc, ln_1, ln_2, ln_3, ln_51, kd_27, kd_28, kd_29, kd_30, kd_31, kd_32, kd_33, kd_34, kd_35, kd_36, kd_37, kd_38, kd_39, kd_40, kd_41, kd_42, kd_43, kd_44, kd_45, kd_46, kd_47, kd_48, kd_49, kd_50, kd_51, ln_28, ln_29, ln_30, ln_31, ln_32, ln_33, ln_34, ln_35, ln_36, ln_37, ln_38, ln_39, ln_40, ln_41, ln_42, ln_43, ln_44, ln_45, ln_46, ln_47, ln_48, ln_49, ln_50, inb_n, cl_n, g_n_s_i, g_n_s_l, mul_3, mul_4, mul_6, mul_61, nI_add, nI_1, nle_0, nle_1, nle_2, nle_3, nle_4, nle_5, nle_6, nle_7, nle_60, nle_61, nlt_0, nlt_1, nlt_2, nlt_3, nlt_4, nlt_5, nlt_6, nlt_7, nlt_60, nlt_61, nge_0, nge_1, nge_2, nge_3, nge_4, nge_5, nge_6, nge_7, nge_60, nge_61, ngt_0, ngt_1, ngt_2, ngt_3, ngt_4, ngt_5, ngt_6, ngt_7, ngt_60, ngt_61, neq_0, neq_1, neq_2, neq_3, neq_4, neq_5, neq_6, neq_7, neq_60, neq_61, and_self, and_true, true_and, or_true, true_or, if_true, if_false, or_self, and_false, false_and, or_false, false_or, not_true_eq_false, not_false_eq_true, ne_eq, reduceCtorEq, eq_self, bind_s, c10, c01, c20, c30, c40, cl_0, inb_0, onI_l, onI_r, onV_l, onV_r, b_G_record_20, f_G_record, b_M_record_24, b_M_record_99, b_M_record_98, b_M_record_82, b_M_record_66, f_M_record, ↓bq (p_isR1 hi), ↓bq (p_mR1 hi), ↓bq (p_in _ _ _), hy1]
      exact ⟨_, rfl, rfl⟩
    · have hy0 : ¬ y < 0 := by
        intro q
        apply hy1
        rw [Int32.lt_iff_toInt_lt] at q ⊢
        have e1 : (0 : Int32).toInt = 0 := rfl
        have e2 : (1 : Int32).toInt = 1 := rfl
        omega
      obtain ⟨t, ht, rfl⟩ := nI_of hy0
      have hb6 := h0.b60
      have ht1 : ¬ t < 1 := by rwa [ngt_1 (by omega)] at hy1
      by_cases htb : t ≤ b
      · have q := h.r6 i hi t (by omega)
        have e1 : ¬ b < t := by omega
        have f1 := (gi_n (σ := σ) (a := 27) (k := 0) (b := 27) (j := 1) (x := 0) (by omega)).trans hb.2
        simp (disch := omega) only [↓reduceIte, ↓wi_e, ↓wn_e, ↓rc_i, ↓rc_l, ↓h0.q0, ↓h0.q1, ↓h0.q2, ↓h0.qr, ↓h0.qc, ↓h0.qr2, ↓h0.qr3, ↓h0.qr4, ↓h0.qr5, ↓h0.qc5, ↓h0.qt, ↓h0.qt4, ↓h0.qt5, ↓h0.qt6, ↓h0.qm2, ↓h0.qm3, ↓h0.qm4, ↓h0.qm5, ↓h0.qm6, ↓h0.qm7, ↓h0.qm8, ↓h0.qm9, ↓h0.qm10, ↓h0.qm11, ↓h0.qm12, ↓h0.qm13, ↓h0.qm14, ↓h0.qm15, ↓h0.qm16, ↓h0.qm17, ↓h0.qm18, ↓h0.qm19, ↓h0.qm20, ↓h0.qm21, ↓h0.qm22, ↓h0.qm23, ↓h0.qm24, h0.lt, kd_0, kd_1, kd_2, kd_3, kd_r, kd_ra, kd_rb, kd_rc, kd_rd, ln_ra, ln_rb, ln_rc, ln_rd, kd_c, kd_ca, ln_ca, kd_t, kd_ta, kd_tb, kd_tc, ln_ta, ln_tb, ln_tc, ln_1, ln_2, ln_3, ln_51, kd_27, kd_28, kd_29, kd_30, kd_31, kd_32, kd_33, kd_34, kd_35, kd_36, kd_37, kd_38, kd_39, kd_40, kd_41, kd_42, kd_43, kd_44, kd_45, kd_46, kd_47, kd_48, kd_49, kd_50, kd_51, ln_28, ln_29, ln_30, ln_31, ln_32, ln_33, ln_34, ln_35, ln_36, ln_37, ln_38, ln_39, ln_40, ln_41, ln_42, ln_43, ln_44, ln_45, ln_46, ln_47, ln_48, ln_49, ln_50, inb_n, cl_n, g_n_s_i, g_n_s_l, mul_3, mul_4, mul_6, mul_61, nI_add, nI_1, nle_0, nle_1, nle_2, nle_3, nle_4, nle_5, nle_6, nle_7, nle_60, nle_61, nlt_0, nlt_1, nlt_2, nlt_3, nlt_4, nlt_5, nlt_6, nlt_7, nlt_60, nlt_61, nge_0, nge_1, nge_2, nge_3, nge_4, nge_5, nge_6, nge_7, nge_60, nge_61, ngt_0, ngt_1, ngt_2, ngt_3, ngt_4, ngt_5, ngt_6, ngt_7, ngt_60, ngt_61, neq_0, neq_1, neq_2, neq_3, neq_4, neq_5, neq_6, neq_7, neq_60, neq_61, and_self, and_true, true_and, or_true, true_or, if_true, if_false, or_self, and_false, false_and, or_false, false_or, not_true_eq_false, not_false_eq_true, ne_eq, reduceCtorEq, eq_self, bind_s, c10, c01, c20, c30, c40, cl_0, inb_0, onI_l, onI_r, onV_l, onV_r, b_G_record_20, f_G_record, b_M_record_24, b_M_record_99, b_M_record_98, b_M_record_82, b_M_record_66, f_M_record, ↓bq (p_isR1 hi), ↓bq (p_mR1 hi), ↓bq (p_in _ _ _), hb.1, f1, nle, nlt, ht1, htb, e1, gi_n]
        rcases q with ⟨q1, q2, q3, q4, q5⟩ | ⟨n, hn, q1, q2, q3, q4, q5⟩
        · rw [q1, q2]
          exact ⟨_, rfl, by rw [if_neg (by decide)]⟩
        · refine ⟨_, rfl, ?_⟩
          rw [q1, q2, q3, q4, q5, if_pos (nI_pos' (by omega))]
          have := rec_sum n hn
          grind
      · have e1 : b < t := by omega
        have f1 := (gi_n (σ := σ) (a := 27) (k := 0) (b := 27) (j := 1) (x := 0) (by omega)).trans hb.2
        simp (disch := omega) only [↓reduceIte, ↓wi_e, ↓wn_e, ↓rc_i, ↓rc_l, ↓h0.q0, ↓h0.q1, ↓h0.q2, ↓h0.qr, ↓h0.qc, ↓h0.qr2, ↓h0.qr3, ↓h0.qr4, ↓h0.qr5, ↓h0.qc5, ↓h0.qt, ↓h0.qt4, ↓h0.qt5, ↓h0.qt6, ↓h0.qm2, ↓h0.qm3, ↓h0.qm4, ↓h0.qm5, ↓h0.qm6, ↓h0.qm7, ↓h0.qm8, ↓h0.qm9, ↓h0.qm10, ↓h0.qm11, ↓h0.qm12, ↓h0.qm13, ↓h0.qm14, ↓h0.qm15, ↓h0.qm16, ↓h0.qm17, ↓h0.qm18, ↓h0.qm19, ↓h0.qm20, ↓h0.qm21, ↓h0.qm22, ↓h0.qm23, ↓h0.qm24, h0.lt, kd_0, kd_1, kd_2, kd_3, kd_r, kd_ra, kd_rb, kd_rc, kd_rd, ln_ra, ln_rb, ln_rc, ln_rd, kd_c, kd_ca, ln_ca, kd_t, kd_ta, kd_tb, kd_tc, ln_ta, ln_tb, ln_tc, ln_1, ln_2, ln_3, ln_51, kd_27, kd_28, kd_29, kd_30, kd_31, kd_32, kd_33, kd_34, kd_35, kd_36, kd_37, kd_38, kd_39, kd_40, kd_41, kd_42, kd_43, kd_44, kd_45, kd_46, kd_47, kd_48, kd_49, kd_50, kd_51, ln_28, ln_29, ln_30, ln_31, ln_32, ln_33, ln_34, ln_35, ln_36, ln_37, ln_38, ln_39, ln_40, ln_41, ln_42, ln_43, ln_44, ln_45, ln_46, ln_47, ln_48, ln_49, ln_50, inb_n, cl_n, g_n_s_i, g_n_s_l, mul_3, mul_4, mul_6, mul_61, nI_add, nI_1, nle_0, nle_1, nle_2, nle_3, nle_4, nle_5, nle_6, nle_7, nle_60, nle_61, nlt_0, nlt_1, nlt_2, nlt_3, nlt_4, nlt_5, nlt_6, nlt_7, nlt_60, nlt_61, nge_0, nge_1, nge_2, nge_3, nge_4, nge_5, nge_6, nge_7, nge_60, nge_61, ngt_0, ngt_1, ngt_2, ngt_3, ngt_4, ngt_5, ngt_6, ngt_7, ngt_60, ngt_61, neq_0, neq_1, neq_2, neq_3, neq_4, neq_5, neq_6, neq_7, neq_60, neq_61, and_self, and_true, true_and, or_true, true_or, if_true, if_false, or_self, and_false, false_and, or_false, false_or, not_true_eq_false, not_false_eq_true, ne_eq, reduceCtorEq, eq_self, bind_s, c10, c01, c20, c30, c40, cl_0, inb_0, onI_l, onI_r, onV_l, onV_r, b_G_record_20, f_G_record, b_M_record_24, b_M_record_99, b_M_record_98, b_M_record_82, b_M_record_66, f_M_record, ↓bq (p_isR1 hi), ↓bq (p_mR1 hi), ↓bq (p_in _ _ _), hb.1, f1, nle, nlt, ht1, htb, e1]
        exact ⟨_, rfl, rfl⟩
  · simp (disch := omega) only [↓reduceIte, ↓wi_e, ↓wn_e, ↓rc_i, ↓rc_l, ↓h0.q0, ↓h0.q1, ↓h0.q2, ↓h0.qr, ↓h0.qc, ↓h0.qr2, ↓h0.qr3, ↓h0.qr4, ↓h0.qr5, ↓h0.qc5, ↓h0.qt, ↓h0.qt4, ↓h0.qt5, ↓h0.qt6, ↓h0.qm2, ↓h0.qm3, ↓h0.qm4, ↓h0.qm5, ↓h0.qm6, ↓h0.qm7, ↓h0.qm8, ↓h0.qm9, ↓h0.qm10, ↓h0.qm11, ↓h0.qm12, ↓h0.qm13, ↓h0.qm14, ↓h0.qm15, ↓h0.qm16, ↓h0.qm17, ↓h0.qm18, ↓h0.qm19, ↓h0.qm20, ↓h0.qm21, ↓h0.qm22, ↓h0.qm23, ↓h0.qm24, h0.lt, kd_0, kd_1, kd_2, kd_3, kd_r, kd_ra, kd_rb, kd_rc, kd_rd, ln_ra, ln_rb, ln_rc, ln_rd, kd_c, kd_ca, ln_ca, kd_t, kd_ta, kd_tb, kd_tc, ln_ta, ln_tb, ln_tc, ln_1, ln_2, ln_3, ln_51, kd_27, kd_28, kd_29, kd_30, kd_31, kd_32, kd_33, kd_34, kd_35, kd_36, kd_37, kd_38, kd_39, kd_40, kd_41, kd_42, kd_43, kd_44, kd_45, kd_46, kd_47, kd_48, kd_49, kd_50, kd_51, ln_28, ln_29, ln_30, ln_31, ln_32, ln_33, ln_34, ln_35, ln_36, ln_37, ln_38, ln_39, ln_40, ln_41, ln_42, ln_43, ln_44, ln_45, ln_46, ln_47, ln_48, ln_49, ln_50, inb_n, cl_n, g_n_s_i, g_n_s_l, mul_3, mul_4, mul_6, mul_61, nI_add, nI_1, nle_0, nle_1, nle_2, nle_3, nle_4, nle_5, nle_6, nle_7, nle_60, nle_61, nlt_0, nlt_1, nlt_2, nlt_3, nlt_4, nlt_5, nlt_6, nlt_7, nlt_60, nlt_61, nge_0, nge_1, nge_2, nge_3, nge_4, nge_5, nge_6, nge_7, nge_60, nge_61, ngt_0, ngt_1, ngt_2, ngt_3, ngt_4, ngt_5, ngt_6, ngt_7, ngt_60, ngt_61, neq_0, neq_1, neq_2, neq_3, neq_4, neq_5, neq_6, neq_7, neq_60, neq_61, and_self, and_true, true_and, or_true, true_or, if_true, if_false, or_self, and_false, false_and, or_false, false_or, not_true_eq_false, not_false_eq_true, ne_eq, reduceCtorEq, eq_self, bind_s, c10, c01, c20, c30, c40, cl_0, inb_0, onI_l, onI_r, onV_l, onV_r, b_G_record_20, f_G_record, b_M_record_24, b_M_record_99, b_M_record_98, b_M_record_82, b_M_record_66, f_M_record, ↓bq (p_isR0 hx), ↓bq (p_mR0 hx)]
    exact ⟨_, rfl, rfl⟩
theorem lt8 {x : Int32} : (∃ c, c < 8 ∧ x = nI c) ∨ x < 0 ∨ 7 < x := by
  by_cases h : x < 0
  · exact Or.inr (Or.inl h)
  obtain ⟨j, hj, rfl⟩ := nI_of h
  by_cases h4 : j < 8
  · exact Or.inl ⟨j, h4, rfl⟩
  · exact Or.inr (Or.inr (by rw [nlt_7 hj]; omega))

theorem o_state {b : Nat} {M W : Nat → Nat} {σ : Sg} (h : R b M W σ) (x : Int32) : ∃ v, f_G_state σ 0 x = some v ∧ f_M_state σ 27 x = some (v, s_i σ 27 0 0) := by
  have h0 := h.r0
  have hb := h.r1
  have u0 := h.r2 0 (by omega)
  have u1 := h.r2 1 (by omega)
  have u2 := h.r2 2 (by omega)
  have mg : mgv (s_i σ 27 0 0) = gv σ := mgv_e (h.cg 0)
  have h1 : SN b (s_i σ 27 0 0) := h0
  have s2 : (2 : Int32) - 2 = nI 0 := by decide
  have s3 : (3 : Int32) - 2 = nI 1 := by decide
  have s4 : (4 : Int32) - 2 = nI 2 := by decide
  have s5 : (5 : Int32) - 5 = nI 0 := by decide
  have s6 : (6 : Int32) - 5 = nI 1 := by decide
  have s7 : (7 : Int32) - 5 = nI 2 := by decide
  rcases lt8 (x := x) with ⟨w, hw, rfl⟩ | hx
  · obtain rfl | rfl | rfl | rfl | rfl | rfl | rfl | rfl : w = 0 ∨ w = 1 ∨ w = 2 ∨ w = 3 ∨ w = 4 ∨ w = 5 ∨ w = 6 ∨ w = 7 := by omega
    · have hw' : nI 0 = (0 : Int32) := rfl
      have z : ∀ q, q < 8 → q ≠ 0 → ((0 : Int32) = nI q) = False := by decide
      rw [hw']
      have n1 : ((0 : Int32) = 1) = False := by decide
      have n2 : ((0 : Int32) = 2) = False := by decide
      have n3 : ((0 : Int32) = 3) = False := by decide
      have n4 : ((0 : Int32) = 4) = False := by decide
      have n5 : ((0 : Int32) = 5) = False := by decide
      have n6 : ((0 : Int32) = 6) = False := by decide
      have n7 : ((0 : Int32) = 7) = False := by decide
      have a2 : ((0 : Int32) < 2) = True := by decide
      have b2 : ((2 : Int32) < 0) = False := by decide
      have a4 : ((0 : Int32) < 4) = True := by decide
      have b4 : ((4 : Int32) < 0) = False := by decide
      have a5 : ((0 : Int32) < 5) = True := by decide
      have b5 : ((5 : Int32) < 0) = False := by decide
      have a7 : ((0 : Int32) < 7) = True := by decide
      have b7 : ((7 : Int32) < 0) = False := by decide
      simp (disch := omega) only [↓reduceIte, ↓wi_e, ↓wn_e, ↓rc_i, ↓rc_l, ↓h0.q0, ↓h0.q1, ↓h0.q2, ↓h0.qr, ↓h0.qc, ↓h0.qr2, ↓h0.qr3, ↓h0.qr4, ↓h0.qr5, ↓h0.qc5, ↓h0.qt, ↓h0.qt4, ↓h0.qt5, ↓h0.qt6, ↓h0.qm2, ↓h0.qm3, ↓h0.qm4, ↓h0.qm5, ↓h0.qm6, ↓h0.qm7, ↓h0.qm8, ↓h0.qm9, ↓h0.qm10, ↓h0.qm11, ↓h0.qm12, ↓h0.qm13, ↓h0.qm14, ↓h0.qm15, ↓h0.qm16, ↓h0.qm17, ↓h0.qm18, ↓h0.qm19, ↓h0.qm20, ↓h0.qm21, ↓h0.qm22, ↓h0.qm23, ↓h0.qm24, h0.lt, kd_0, kd_1, kd_2, kd_3, kd_r, kd_ra, kd_rb, kd_rc, kd_rd, ln_ra, ln_rb, ln_rc, ln_rd, kd_c, kd_ca, ln_ca, kd_t, kd_ta, kd_tb, kd_tc, ln_ta, ln_tb, ln_tc, ln_1, ln_2, ln_3, ln_51, kd_27, kd_28, kd_29, kd_30, kd_31, kd_32, kd_33, kd_34, kd_35, kd_36, kd_37, kd_38, kd_39, kd_40, kd_41, kd_42, kd_43, kd_44, kd_45, kd_46, kd_47, kd_48, kd_49, kd_50, kd_51, ln_28, ln_29, ln_30, ln_31, ln_32, ln_33, ln_34, ln_35, ln_36, ln_37, ln_38, ln_39, ln_40, ln_41, ln_42, ln_43, ln_44, ln_45, ln_46, ln_47, ln_48, ln_49, ln_50, inb_n, cl_n, g_n_s_i, g_n_s_l, mul_3, mul_4, mul_6, mul_61, nI_add, nI_1, and_self, and_true, true_and, or_true, true_or, if_true, if_false, or_self, and_false, false_and, or_false, false_or, not_true_eq_false, not_false_eq_true, ne_eq, reduceCtorEq, eq_self, bind_s, c10, c01, c20, c30, c40, cl_0, inb_0, onI_l, onI_r, onV_l, onV_r, b_G_state_89, f_G_state, b_M_state_72, f_M_state, ↓bq (p_gv h0), ↓bq (p_mgv h1), ↓bq (p_in _ _ _), mg, hb.1, hb.2, gi_n, Nat.reduceAdd, Nat.reduceMul, n1, n2, n3, n4, n5, n6, n7, a2, b2, a4, b4, a5, b5, a7, b7]
      exact ⟨_, rfl, rfl⟩
    · have hw' : nI 1 = (1 : Int32) := rfl
      have z : ∀ q, q < 8 → q ≠ 1 → ((1 : Int32) = nI q) = False := by decide
      rw [hw']
      have n0 : ((1 : Int32) = 0) = False := by decide
      have n2 : ((1 : Int32) = 2) = False := by decide
      have n3 : ((1 : Int32) = 3) = False := by decide
      have n4 : ((1 : Int32) = 4) = False := by decide
      have n5 : ((1 : Int32) = 5) = False := by decide
      have n6 : ((1 : Int32) = 6) = False := by decide
      have n7 : ((1 : Int32) = 7) = False := by decide
      have a2 : ((1 : Int32) < 2) = True := by decide
      have b2 : ((2 : Int32) < 1) = False := by decide
      have a4 : ((1 : Int32) < 4) = True := by decide
      have b4 : ((4 : Int32) < 1) = False := by decide
      have a5 : ((1 : Int32) < 5) = True := by decide
      have b5 : ((5 : Int32) < 1) = False := by decide
      have a7 : ((1 : Int32) < 7) = True := by decide
      have b7 : ((7 : Int32) < 1) = False := by decide
      simp (disch := omega) only [↓reduceIte, ↓wi_e, ↓wn_e, ↓rc_i, ↓rc_l, ↓h0.q0, ↓h0.q1, ↓h0.q2, ↓h0.qr, ↓h0.qc, ↓h0.qr2, ↓h0.qr3, ↓h0.qr4, ↓h0.qr5, ↓h0.qc5, ↓h0.qt, ↓h0.qt4, ↓h0.qt5, ↓h0.qt6, ↓h0.qm2, ↓h0.qm3, ↓h0.qm4, ↓h0.qm5, ↓h0.qm6, ↓h0.qm7, ↓h0.qm8, ↓h0.qm9, ↓h0.qm10, ↓h0.qm11, ↓h0.qm12, ↓h0.qm13, ↓h0.qm14, ↓h0.qm15, ↓h0.qm16, ↓h0.qm17, ↓h0.qm18, ↓h0.qm19, ↓h0.qm20, ↓h0.qm21, ↓h0.qm22, ↓h0.qm23, ↓h0.qm24, h0.lt, kd_0, kd_1, kd_2, kd_3, kd_r, kd_ra, kd_rb, kd_rc, kd_rd, ln_ra, ln_rb, ln_rc, ln_rd, kd_c, kd_ca, ln_ca, kd_t, kd_ta, kd_tb, kd_tc, ln_ta, ln_tb, ln_tc, ln_1, ln_2, ln_3, ln_51, kd_27, kd_28, kd_29, kd_30, kd_31, kd_32, kd_33, kd_34, kd_35, kd_36, kd_37, kd_38, kd_39, kd_40, kd_41, kd_42, kd_43, kd_44, kd_45, kd_46, kd_47, kd_48, kd_49, kd_50, kd_51, ln_28, ln_29, ln_30, ln_31, ln_32, ln_33, ln_34, ln_35, ln_36, ln_37, ln_38, ln_39, ln_40, ln_41, ln_42, ln_43, ln_44, ln_45, ln_46, ln_47, ln_48, ln_49, ln_50, inb_n, cl_n, g_n_s_i, g_n_s_l, mul_3, mul_4, mul_6, mul_61, nI_add, nI_1, and_self, and_true, true_and, or_true, true_or, if_true, if_false, or_self, and_false, false_and, or_false, false_or, not_true_eq_false, not_false_eq_true, ne_eq, reduceCtorEq, eq_self, bind_s, c10, c01, c20, c30, c40, cl_0, inb_0, onI_l, onI_r, onV_l, onV_r, b_G_state_89, f_G_state, b_M_state_72, f_M_state, ↓bq (p_gv h0), ↓bq (p_mgv h1), ↓bq (p_in _ _ _), mg, hb.1, hb.2, gi_n, Nat.reduceAdd, Nat.reduceMul, n0, n2, n3, n4, n5, n6, n7, a2, b2, a4, b4, a5, b5, a7, b7]
      exact ⟨_, rfl, rfl⟩
    · have hw' : nI 2 = (2 : Int32) := rfl
      have z : ∀ q, q < 8 → q ≠ 2 → ((2 : Int32) = nI q) = False := by decide
      rw [hw']
      have n0 : ((2 : Int32) = 0) = False := by decide
      have n1 : ((2 : Int32) = 1) = False := by decide
      have n3 : ((2 : Int32) = 3) = False := by decide
      have n4 : ((2 : Int32) = 4) = False := by decide
      have n5 : ((2 : Int32) = 5) = False := by decide
      have n6 : ((2 : Int32) = 6) = False := by decide
      have n7 : ((2 : Int32) = 7) = False := by decide
      have a2 : ((2 : Int32) < 2) = False := by decide
      have b2 : ((2 : Int32) < 2) = False := by decide
      have a4 : ((2 : Int32) < 4) = True := by decide
      have b4 : ((4 : Int32) < 2) = False := by decide
      have a5 : ((2 : Int32) < 5) = True := by decide
      have b5 : ((5 : Int32) < 2) = False := by decide
      have a7 : ((2 : Int32) < 7) = True := by decide
      have b7 : ((7 : Int32) < 2) = False := by decide
      have kk : g_r σ 1 ((2 : Int32) - 2).toNatClampNeg = some 4 := by rw [show ((2 : Int32) - 2).toNatClampNeg = 0 from rfl]; exact h0.r (by omega)
      have kd_R0 : kd 4 = 1 := rfl
      simp (disch := omega) only [↓reduceIte, ↓wi_e, ↓wn_e, ↓rc_i, ↓rc_l, ↓h0.q0, ↓h0.q1, ↓h0.q2, ↓h0.qr, ↓h0.qc, ↓h0.qr2, ↓h0.qr3, ↓h0.qr4, ↓h0.qr5, ↓h0.qc5, ↓h0.qt, ↓h0.qt4, ↓h0.qt5, ↓h0.qt6, ↓h0.qm2, ↓h0.qm3, ↓h0.qm4, ↓h0.qm5, ↓h0.qm6, ↓h0.qm7, ↓h0.qm8, ↓h0.qm9, ↓h0.qm10, ↓h0.qm11, ↓h0.qm12, ↓h0.qm13, ↓h0.qm14, ↓h0.qm15, ↓h0.qm16, ↓h0.qm17, ↓h0.qm18, ↓h0.qm19, ↓h0.qm20, ↓h0.qm21, ↓h0.qm22, ↓h0.qm23, ↓h0.qm24, h0.lt, kd_0, kd_1, kd_2, kd_3, kd_r, kd_ra, kd_rb, kd_rc, kd_rd, ln_ra, ln_rb, ln_rc, ln_rd, kd_c, kd_ca, ln_ca, kd_t, kd_ta, kd_tb, kd_tc, ln_ta, ln_tb, ln_tc, ln_1, ln_2, ln_3, ln_51, kd_27, kd_28, kd_29, kd_30, kd_31, kd_32, kd_33, kd_34, kd_35, kd_36, kd_37, kd_38, kd_39, kd_40, kd_41, kd_42, kd_43, kd_44, kd_45, kd_46, kd_47, kd_48, kd_49, kd_50, kd_51, ln_28, ln_29, ln_30, ln_31, ln_32, ln_33, ln_34, ln_35, ln_36, ln_37, ln_38, ln_39, ln_40, ln_41, ln_42, ln_43, ln_44, ln_45, ln_46, ln_47, ln_48, ln_49, ln_50, inb_n, cl_n, g_n_s_i, g_n_s_l, mul_3, mul_4, mul_6, mul_61, nI_add, nI_1, and_self, and_true, true_and, or_true, true_or, if_true, if_false, or_self, and_false, false_and, or_false, false_or, not_true_eq_false, not_false_eq_true, ne_eq, reduceCtorEq, eq_self, bind_s, c10, c01, c20, c30, c40, cl_0, inb_0, onI_l, onI_r, onV_l, onV_r, b_G_state_89, f_G_state, b_M_state_72, f_M_state, ↓bq (p_gv h0), ↓bq (p_mgv h1), ↓bq (p_in _ _ _), mg, hb.1, hb.2, gi_n, Nat.reduceAdd, Nat.reduceMul, n0, n1, n3, n4, n5, n6, n7, a2, b2, a4, b4, a5, b5, a7, b7, ↓rq kk, kd_R0, s2]
      refine ⟨_, rfl, ?_⟩
      rw [u0.2.1]
    · have hw' : nI 3 = (3 : Int32) := rfl
      have z : ∀ q, q < 8 → q ≠ 3 → ((3 : Int32) = nI q) = False := by decide
      rw [hw']
      have n0 : ((3 : Int32) = 0) = False := by decide
      have n1 : ((3 : Int32) = 1) = False := by decide
      have n2 : ((3 : Int32) = 2) = False := by decide
      have n4 : ((3 : Int32) = 4) = False := by decide
      have n5 : ((3 : Int32) = 5) = False := by decide
      have n6 : ((3 : Int32) = 6) = False := by decide
      have n7 : ((3 : Int32) = 7) = False := by decide
      have a2 : ((3 : Int32) < 2) = False := by decide
      have b2 : ((2 : Int32) < 3) = True := by decide
      have a4 : ((3 : Int32) < 4) = True := by decide
      have b4 : ((4 : Int32) < 3) = False := by decide
      have a5 : ((3 : Int32) < 5) = True := by decide
      have b5 : ((5 : Int32) < 3) = False := by decide
      have a7 : ((3 : Int32) < 7) = True := by decide
      have b7 : ((7 : Int32) < 3) = False := by decide
      have kk : g_r σ 1 ((3 : Int32) - 2).toNatClampNeg = some 9 := by rw [show ((3 : Int32) - 2).toNatClampNeg = 1 from rfl]; exact h0.r (by omega)
      have kd_R1 : kd 9 = 1 := rfl
      simp (disch := omega) only [↓reduceIte, ↓wi_e, ↓wn_e, ↓rc_i, ↓rc_l, ↓h0.q0, ↓h0.q1, ↓h0.q2, ↓h0.qr, ↓h0.qc, ↓h0.qr2, ↓h0.qr3, ↓h0.qr4, ↓h0.qr5, ↓h0.qc5, ↓h0.qt, ↓h0.qt4, ↓h0.qt5, ↓h0.qt6, ↓h0.qm2, ↓h0.qm3, ↓h0.qm4, ↓h0.qm5, ↓h0.qm6, ↓h0.qm7, ↓h0.qm8, ↓h0.qm9, ↓h0.qm10, ↓h0.qm11, ↓h0.qm12, ↓h0.qm13, ↓h0.qm14, ↓h0.qm15, ↓h0.qm16, ↓h0.qm17, ↓h0.qm18, ↓h0.qm19, ↓h0.qm20, ↓h0.qm21, ↓h0.qm22, ↓h0.qm23, ↓h0.qm24, h0.lt, kd_0, kd_1, kd_2, kd_3, kd_r, kd_ra, kd_rb, kd_rc, kd_rd, ln_ra, ln_rb, ln_rc, ln_rd, kd_c, kd_ca, ln_ca, kd_t, kd_ta, kd_tb, kd_tc, ln_ta, ln_tb, ln_tc, ln_1, ln_2, ln_3, ln_51, kd_27, kd_28, kd_29, kd_30, kd_31, kd_32, kd_33, kd_34, kd_35, kd_36, kd_37, kd_38, kd_39, kd_40, kd_41, kd_42, kd_43, kd_44, kd_45, kd_46, kd_47, kd_48, kd_49, kd_50, kd_51, ln_28, ln_29, ln_30, ln_31, ln_32, ln_33, ln_34, ln_35, ln_36, ln_37, ln_38, ln_39, ln_40, ln_41, ln_42, ln_43, ln_44, ln_45, ln_46, ln_47, ln_48, ln_49, ln_50, inb_n, cl_n, g_n_s_i, g_n_s_l, mul_3, mul_4, mul_6, mul_61, nI_add, nI_1, and_self, and_true, true_and, or_true, true_or, if_true, if_false, or_self, and_false, false_and, or_false, false_or, not_true_eq_false, not_false_eq_true, ne_eq, reduceCtorEq, eq_self, bind_s, c10, c01, c20, c30, c40, cl_0, inb_0, onI_l, onI_r, onV_l, onV_r, b_G_state_89, f_G_state, b_M_state_72, f_M_state, ↓bq (p_gv h0), ↓bq (p_mgv h1), ↓bq (p_in _ _ _), mg, hb.1, hb.2, gi_n, Nat.reduceAdd, Nat.reduceMul, n0, n1, n2, n4, n5, n6, n7, a2, b2, a4, b4, a5, b5, a7, b7, ↓rq kk, kd_R1, s3]
      refine ⟨_, rfl, ?_⟩
      rw [u1.2.1]
    · have hw' : nI 4 = (4 : Int32) := rfl
      have z : ∀ q, q < 8 → q ≠ 4 → ((4 : Int32) = nI q) = False := by decide
      rw [hw']
      have n0 : ((4 : Int32) = 0) = False := by decide
      have n1 : ((4 : Int32) = 1) = False := by decide
      have n2 : ((4 : Int32) = 2) = False := by decide
      have n3 : ((4 : Int32) = 3) = False := by decide
      have n5 : ((4 : Int32) = 5) = False := by decide
      have n6 : ((4 : Int32) = 6) = False := by decide
      have n7 : ((4 : Int32) = 7) = False := by decide
      have a2 : ((4 : Int32) < 2) = False := by decide
      have b2 : ((2 : Int32) < 4) = True := by decide
      have a4 : ((4 : Int32) < 4) = False := by decide
      have b4 : ((4 : Int32) < 4) = False := by decide
      have a5 : ((4 : Int32) < 5) = True := by decide
      have b5 : ((5 : Int32) < 4) = False := by decide
      have a7 : ((4 : Int32) < 7) = True := by decide
      have b7 : ((7 : Int32) < 4) = False := by decide
      have kk : g_r σ 1 ((4 : Int32) - 2).toNatClampNeg = some 14 := by rw [show ((4 : Int32) - 2).toNatClampNeg = 2 from rfl]; exact h0.r (by omega)
      have kd_R2 : kd 14 = 1 := rfl
      simp (disch := omega) only [↓reduceIte, ↓wi_e, ↓wn_e, ↓rc_i, ↓rc_l, ↓h0.q0, ↓h0.q1, ↓h0.q2, ↓h0.qr, ↓h0.qc, ↓h0.qr2, ↓h0.qr3, ↓h0.qr4, ↓h0.qr5, ↓h0.qc5, ↓h0.qt, ↓h0.qt4, ↓h0.qt5, ↓h0.qt6, ↓h0.qm2, ↓h0.qm3, ↓h0.qm4, ↓h0.qm5, ↓h0.qm6, ↓h0.qm7, ↓h0.qm8, ↓h0.qm9, ↓h0.qm10, ↓h0.qm11, ↓h0.qm12, ↓h0.qm13, ↓h0.qm14, ↓h0.qm15, ↓h0.qm16, ↓h0.qm17, ↓h0.qm18, ↓h0.qm19, ↓h0.qm20, ↓h0.qm21, ↓h0.qm22, ↓h0.qm23, ↓h0.qm24, h0.lt, kd_0, kd_1, kd_2, kd_3, kd_r, kd_ra, kd_rb, kd_rc, kd_rd, ln_ra, ln_rb, ln_rc, ln_rd, kd_c, kd_ca, ln_ca, kd_t, kd_ta, kd_tb, kd_tc, ln_ta, ln_tb, ln_tc, ln_1, ln_2, ln_3, ln_51, kd_27, kd_28, kd_29, kd_30, kd_31, kd_32, kd_33, kd_34, kd_35, kd_36, kd_37, kd_38, kd_39, kd_40, kd_41, kd_42, kd_43, kd_44, kd_45, kd_46, kd_47, kd_48, kd_49, kd_50, kd_51, ln_28, ln_29, ln_30, ln_31, ln_32, ln_33, ln_34, ln_35, ln_36, ln_37, ln_38, ln_39, ln_40, ln_41, ln_42, ln_43, ln_44, ln_45, ln_46, ln_47, ln_48, ln_49, ln_50, inb_n, cl_n, g_n_s_i, g_n_s_l, mul_3, mul_4, mul_6, mul_61, nI_add, nI_1, and_self, and_true, true_and, or_true, true_or, if_true, if_false, or_self, and_false, false_and, or_false, false_or, not_true_eq_false, not_false_eq_true, ne_eq, reduceCtorEq, eq_self, bind_s, c10, c01, c20, c30, c40, cl_0, inb_0, onI_l, onI_r, onV_l, onV_r, b_G_state_89, f_G_state, b_M_state_72, f_M_state, ↓bq (p_gv h0), ↓bq (p_mgv h1), ↓bq (p_in _ _ _), mg, hb.1, hb.2, gi_n, Nat.reduceAdd, Nat.reduceMul, n0, n1, n2, n3, n5, n6, n7, a2, b2, a4, b4, a5, b5, a7, b7, ↓rq kk, kd_R2, s4]
      refine ⟨_, rfl, ?_⟩
      rw [u2.2.1]
    · have hw' : nI 5 = (5 : Int32) := rfl
      have z : ∀ q, q < 8 → q ≠ 5 → ((5 : Int32) = nI q) = False := by decide
      rw [hw']
      have n0 : ((5 : Int32) = 0) = False := by decide
      have n1 : ((5 : Int32) = 1) = False := by decide
      have n2 : ((5 : Int32) = 2) = False := by decide
      have n3 : ((5 : Int32) = 3) = False := by decide
      have n4 : ((5 : Int32) = 4) = False := by decide
      have n6 : ((5 : Int32) = 6) = False := by decide
      have n7 : ((5 : Int32) = 7) = False := by decide
      have a2 : ((5 : Int32) < 2) = False := by decide
      have b2 : ((2 : Int32) < 5) = True := by decide
      have a4 : ((5 : Int32) < 4) = False := by decide
      have b4 : ((4 : Int32) < 5) = True := by decide
      have a5 : ((5 : Int32) < 5) = False := by decide
      have b5 : ((5 : Int32) < 5) = False := by decide
      have a7 : ((5 : Int32) < 7) = True := by decide
      have b7 : ((7 : Int32) < 5) = False := by decide
      have kk : g_r σ 1 ((5 : Int32) - 5).toNatClampNeg = some 4 := by rw [show ((5 : Int32) - 5).toNatClampNeg = 0 from rfl]; exact h0.r (by omega)
      have kd_R0 : kd 4 = 1 := rfl
      simp (disch := omega) only [↓reduceIte, ↓wi_e, ↓wn_e, ↓rc_i, ↓rc_l, ↓h0.q0, ↓h0.q1, ↓h0.q2, ↓h0.qr, ↓h0.qc, ↓h0.qr2, ↓h0.qr3, ↓h0.qr4, ↓h0.qr5, ↓h0.qc5, ↓h0.qt, ↓h0.qt4, ↓h0.qt5, ↓h0.qt6, ↓h0.qm2, ↓h0.qm3, ↓h0.qm4, ↓h0.qm5, ↓h0.qm6, ↓h0.qm7, ↓h0.qm8, ↓h0.qm9, ↓h0.qm10, ↓h0.qm11, ↓h0.qm12, ↓h0.qm13, ↓h0.qm14, ↓h0.qm15, ↓h0.qm16, ↓h0.qm17, ↓h0.qm18, ↓h0.qm19, ↓h0.qm20, ↓h0.qm21, ↓h0.qm22, ↓h0.qm23, ↓h0.qm24, h0.lt, kd_0, kd_1, kd_2, kd_3, kd_r, kd_ra, kd_rb, kd_rc, kd_rd, ln_ra, ln_rb, ln_rc, ln_rd, kd_c, kd_ca, ln_ca, kd_t, kd_ta, kd_tb, kd_tc, ln_ta, ln_tb, ln_tc, ln_1, ln_2, ln_3, ln_51, kd_27, kd_28, kd_29, kd_30, kd_31, kd_32, kd_33, kd_34, kd_35, kd_36, kd_37, kd_38, kd_39, kd_40, kd_41, kd_42, kd_43, kd_44, kd_45, kd_46, kd_47, kd_48, kd_49, kd_50, kd_51, ln_28, ln_29, ln_30, ln_31, ln_32, ln_33, ln_34, ln_35, ln_36, ln_37, ln_38, ln_39, ln_40, ln_41, ln_42, ln_43, ln_44, ln_45, ln_46, ln_47, ln_48, ln_49, ln_50, inb_n, cl_n, g_n_s_i, g_n_s_l, mul_3, mul_4, mul_6, mul_61, nI_add, nI_1, and_self, and_true, true_and, or_true, true_or, if_true, if_false, or_self, and_false, false_and, or_false, false_or, not_true_eq_false, not_false_eq_true, ne_eq, reduceCtorEq, eq_self, bind_s, c10, c01, c20, c30, c40, cl_0, inb_0, onI_l, onI_r, onV_l, onV_r, b_G_state_89, f_G_state, b_M_state_72, f_M_state, ↓bq (p_gv h0), ↓bq (p_mgv h1), ↓bq (p_in _ _ _), mg, hb.1, hb.2, gi_n, Nat.reduceAdd, Nat.reduceMul, n0, n1, n2, n3, n4, n6, n7, a2, b2, a4, b4, a5, b5, a7, b7, ↓rq kk, kd_R0, s5]
      rw [u0.1]
      by_cases e : g_i σ 4 0 = 0
      · exact ⟨_, if_pos e, if_pos e⟩
      · exact ⟨_, if_neg e, if_neg e⟩
    · have hw' : nI 6 = (6 : Int32) := rfl
      have z : ∀ q, q < 8 → q ≠ 6 → ((6 : Int32) = nI q) = False := by decide
      rw [hw']
      have n0 : ((6 : Int32) = 0) = False := by decide
      have n1 : ((6 : Int32) = 1) = False := by decide
      have n2 : ((6 : Int32) = 2) = False := by decide
      have n3 : ((6 : Int32) = 3) = False := by decide
      have n4 : ((6 : Int32) = 4) = False := by decide
      have n5 : ((6 : Int32) = 5) = False := by decide
      have n7 : ((6 : Int32) = 7) = False := by decide
      have a2 : ((6 : Int32) < 2) = False := by decide
      have b2 : ((2 : Int32) < 6) = True := by decide
      have a4 : ((6 : Int32) < 4) = False := by decide
      have b4 : ((4 : Int32) < 6) = True := by decide
      have a5 : ((6 : Int32) < 5) = False := by decide
      have b5 : ((5 : Int32) < 6) = True := by decide
      have a7 : ((6 : Int32) < 7) = True := by decide
      have b7 : ((7 : Int32) < 6) = False := by decide
      have kk : g_r σ 1 ((6 : Int32) - 5).toNatClampNeg = some 9 := by rw [show ((6 : Int32) - 5).toNatClampNeg = 1 from rfl]; exact h0.r (by omega)
      have kd_R1 : kd 9 = 1 := rfl
      simp (disch := omega) only [↓reduceIte, ↓wi_e, ↓wn_e, ↓rc_i, ↓rc_l, ↓h0.q0, ↓h0.q1, ↓h0.q2, ↓h0.qr, ↓h0.qc, ↓h0.qr2, ↓h0.qr3, ↓h0.qr4, ↓h0.qr5, ↓h0.qc5, ↓h0.qt, ↓h0.qt4, ↓h0.qt5, ↓h0.qt6, ↓h0.qm2, ↓h0.qm3, ↓h0.qm4, ↓h0.qm5, ↓h0.qm6, ↓h0.qm7, ↓h0.qm8, ↓h0.qm9, ↓h0.qm10, ↓h0.qm11, ↓h0.qm12, ↓h0.qm13, ↓h0.qm14, ↓h0.qm15, ↓h0.qm16, ↓h0.qm17, ↓h0.qm18, ↓h0.qm19, ↓h0.qm20, ↓h0.qm21, ↓h0.qm22, ↓h0.qm23, ↓h0.qm24, h0.lt, kd_0, kd_1, kd_2, kd_3, kd_r, kd_ra, kd_rb, kd_rc, kd_rd, ln_ra, ln_rb, ln_rc, ln_rd, kd_c, kd_ca, ln_ca, kd_t, kd_ta, kd_tb, kd_tc, ln_ta, ln_tb, ln_tc, ln_1, ln_2, ln_3, ln_51, kd_27, kd_28, kd_29, kd_30, kd_31, kd_32, kd_33, kd_34, kd_35, kd_36, kd_37, kd_38, kd_39, kd_40, kd_41, kd_42, kd_43, kd_44, kd_45, kd_46, kd_47, kd_48, kd_49, kd_50, kd_51, ln_28, ln_29, ln_30, ln_31, ln_32, ln_33, ln_34, ln_35, ln_36, ln_37, ln_38, ln_39, ln_40, ln_41, ln_42, ln_43, ln_44, ln_45, ln_46, ln_47, ln_48, ln_49, ln_50, inb_n, cl_n, g_n_s_i, g_n_s_l, mul_3, mul_4, mul_6, mul_61, nI_add, nI_1, and_self, and_true, true_and, or_true, true_or, if_true, if_false, or_self, and_false, false_and, or_false, false_or, not_true_eq_false, not_false_eq_true, ne_eq, reduceCtorEq, eq_self, bind_s, c10, c01, c20, c30, c40, cl_0, inb_0, onI_l, onI_r, onV_l, onV_r, b_G_state_89, f_G_state, b_M_state_72, f_M_state, ↓bq (p_gv h0), ↓bq (p_mgv h1), ↓bq (p_in _ _ _), mg, hb.1, hb.2, gi_n, Nat.reduceAdd, Nat.reduceMul, n0, n1, n2, n3, n4, n5, n7, a2, b2, a4, b4, a5, b5, a7, b7, ↓rq kk, kd_R1, s6]
      rw [u1.1]
      by_cases e : g_i σ 9 0 = 0
      · exact ⟨_, if_pos e, if_pos e⟩
      · exact ⟨_, if_neg e, if_neg e⟩
    · have hw' : nI 7 = (7 : Int32) := rfl
      have z : ∀ q, q < 8 → q ≠ 7 → ((7 : Int32) = nI q) = False := by decide
      rw [hw']
      have n0 : ((7 : Int32) = 0) = False := by decide
      have n1 : ((7 : Int32) = 1) = False := by decide
      have n2 : ((7 : Int32) = 2) = False := by decide
      have n3 : ((7 : Int32) = 3) = False := by decide
      have n4 : ((7 : Int32) = 4) = False := by decide
      have n5 : ((7 : Int32) = 5) = False := by decide
      have n6 : ((7 : Int32) = 6) = False := by decide
      have a2 : ((7 : Int32) < 2) = False := by decide
      have b2 : ((2 : Int32) < 7) = True := by decide
      have a4 : ((7 : Int32) < 4) = False := by decide
      have b4 : ((4 : Int32) < 7) = True := by decide
      have a5 : ((7 : Int32) < 5) = False := by decide
      have b5 : ((5 : Int32) < 7) = True := by decide
      have a7 : ((7 : Int32) < 7) = False := by decide
      have b7 : ((7 : Int32) < 7) = False := by decide
      have kk : g_r σ 1 ((7 : Int32) - 5).toNatClampNeg = some 14 := by rw [show ((7 : Int32) - 5).toNatClampNeg = 2 from rfl]; exact h0.r (by omega)
      have kd_R2 : kd 14 = 1 := rfl
      simp (disch := omega) only [↓reduceIte, ↓wi_e, ↓wn_e, ↓rc_i, ↓rc_l, ↓h0.q0, ↓h0.q1, ↓h0.q2, ↓h0.qr, ↓h0.qc, ↓h0.qr2, ↓h0.qr3, ↓h0.qr4, ↓h0.qr5, ↓h0.qc5, ↓h0.qt, ↓h0.qt4, ↓h0.qt5, ↓h0.qt6, ↓h0.qm2, ↓h0.qm3, ↓h0.qm4, ↓h0.qm5, ↓h0.qm6, ↓h0.qm7, ↓h0.qm8, ↓h0.qm9, ↓h0.qm10, ↓h0.qm11, ↓h0.qm12, ↓h0.qm13, ↓h0.qm14, ↓h0.qm15, ↓h0.qm16, ↓h0.qm17, ↓h0.qm18, ↓h0.qm19, ↓h0.qm20, ↓h0.qm21, ↓h0.qm22, ↓h0.qm23, ↓h0.qm24, h0.lt, kd_0, kd_1, kd_2, kd_3, kd_r, kd_ra, kd_rb, kd_rc, kd_rd, ln_ra, ln_rb, ln_rc, ln_rd, kd_c, kd_ca, ln_ca, kd_t, kd_ta, kd_tb, kd_tc, ln_ta, ln_tb, ln_tc, ln_1, ln_2, ln_3, ln_51, kd_27, kd_28, kd_29, kd_30, kd_31, kd_32, kd_33, kd_34, kd_35, kd_36, kd_37, kd_38, kd_39, kd_40, kd_41, kd_42, kd_43, kd_44, kd_45, kd_46, kd_47, kd_48, kd_49, kd_50, kd_51, ln_28, ln_29, ln_30, ln_31, ln_32, ln_33, ln_34, ln_35, ln_36, ln_37, ln_38, ln_39, ln_40, ln_41, ln_42, ln_43, ln_44, ln_45, ln_46, ln_47, ln_48, ln_49, ln_50, inb_n, cl_n, g_n_s_i, g_n_s_l, mul_3, mul_4, mul_6, mul_61, nI_add, nI_1, and_self, and_true, true_and, or_true, true_or, if_true, if_false, or_self, and_false, false_and, or_false, false_or, not_true_eq_false, not_false_eq_true, ne_eq, reduceCtorEq, eq_self, bind_s, c10, c01, c20, c30, c40, cl_0, inb_0, onI_l, onI_r, onV_l, onV_r, b_G_state_89, f_G_state, b_M_state_72, f_M_state, ↓bq (p_gv h0), ↓bq (p_mgv h1), ↓bq (p_in _ _ _), mg, hb.1, hb.2, gi_n, Nat.reduceAdd, Nat.reduceMul, n0, n1, n2, n3, n4, n5, n6, a2, b2, a4, b4, a5, b5, a7, b7, ↓rq kk, kd_R2, s7]
      rw [u2.1]
      by_cases e : g_i σ 14 0 = 0
      · exact ⟨_, if_pos e, if_pos e⟩
      · exact ⟨_, if_neg e, if_neg e⟩
  · have nn : ∀ q, q < 8 → ¬ x = nI q := by
      intro q hq e
      subst e
      rcases hx with hx | hx
      · rw [nng (by omega)] at hx; exact hx
      · rw [nlt_7 (by omega)] at hx; omega
    have n0 : ¬ x = 0 := nn 0 (by omega)
    have n1 : ¬ x = 1 := nn 1 (by omega)
    have n2 : ¬ x = 2 := nn 2 (by omega)
    have n3 : ¬ x = 3 := nn 3 (by omega)
    have n4 : ¬ x = 4 := nn 4 (by omega)
    have n5 : ¬ x = 5 := nn 5 (by omega)
    have n6 : ¬ x = 6 := nn 6 (by omega)
    have n7 : ¬ x = 7 := nn 7 (by omega)
    have e0 : (0 : Int32).toInt = 0 := rfl
    have e2 : (2 : Int32).toInt = 2 := rfl
    have e4 : (4 : Int32).toInt = 4 := rfl
    have e5 : (5 : Int32).toInt = 5 := rfl
    have e7 : (7 : Int32).toInt = 7 := rfl
    have v1 : (if x < 2 then (0 : Int32) else if 4 < x then 0 else 1) = 0 := by
      simp only [Int32.lt_iff_toInt_lt] at hx ⊢
      grind
    have v2 : (if x < 5 then (0 : Int32) else if 7 < x then 0 else 1) = 0 := by
      simp only [Int32.lt_iff_toInt_lt] at hx ⊢
      grind
    simp (disch := omega) only [↓reduceIte, ↓wi_e, ↓wn_e, ↓rc_i, ↓rc_l, ↓h0.q0, ↓h0.q1, ↓h0.q2, ↓h0.qr, ↓h0.qc, ↓h0.qr2, ↓h0.qr3, ↓h0.qr4, ↓h0.qr5, ↓h0.qc5, ↓h0.qt, ↓h0.qt4, ↓h0.qt5, ↓h0.qt6, ↓h0.qm2, ↓h0.qm3, ↓h0.qm4, ↓h0.qm5, ↓h0.qm6, ↓h0.qm7, ↓h0.qm8, ↓h0.qm9, ↓h0.qm10, ↓h0.qm11, ↓h0.qm12, ↓h0.qm13, ↓h0.qm14, ↓h0.qm15, ↓h0.qm16, ↓h0.qm17, ↓h0.qm18, ↓h0.qm19, ↓h0.qm20, ↓h0.qm21, ↓h0.qm22, ↓h0.qm23, ↓h0.qm24, h0.lt, kd_0, kd_1, kd_2, kd_3, kd_r, kd_ra, kd_rb, kd_rc, kd_rd, ln_ra, ln_rb, ln_rc, ln_rd, kd_c, kd_ca, ln_ca, kd_t, kd_ta, kd_tb, kd_tc, ln_ta, ln_tb, ln_tc, ln_1, ln_2, ln_3, ln_51, kd_27, kd_28, kd_29, kd_30, kd_31, kd_32, kd_33, kd_34, kd_35, kd_36, kd_37, kd_38, kd_39, kd_40, kd_41, kd_42, kd_43, kd_44, kd_45, kd_46, kd_47, kd_48, kd_49, kd_50, kd_51, ln_28, ln_29, ln_30, ln_31, ln_32, ln_33, ln_34, ln_35, ln_36, ln_37, ln_38, ln_39, ln_40, ln_41, ln_42, ln_43, ln_44, ln_45, ln_46, ln_47, ln_48, ln_49, ln_50, inb_n, cl_n, g_n_s_i, g_n_s_l, mul_3, mul_4, mul_6, mul_61, nI_add, nI_1, and_self, and_true, true_and, or_true, true_or, if_true, if_false, or_self, and_false, false_and, or_false, false_or, not_true_eq_false, not_false_eq_true, ne_eq, reduceCtorEq, eq_self, bind_s, c10, c01, c20, c30, c40, cl_0, inb_0, onI_l, onI_r, onV_l, onV_r, b_G_state_89, f_G_state, b_M_state_72, f_M_state, ↓bq (p_in _ _ _), n0, n1, n2, n3, n4, n5, n6, n7, v1, v2]
    exact ⟨_, rfl, rfl⟩
