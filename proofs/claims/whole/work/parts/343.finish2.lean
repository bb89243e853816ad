/-! finish: class and reference. -/
theorem Lw.cg {σ σ' : Sg} {t w n : Nat} {V : Nat → Int32} (q : Lw σ t w n V) (e : ∀ a x, 33 ≤ a → a ≤ 35 → g_i σ' a x = g_i σ a x) : Lw σ' t w n V := by
  obtain ⟨a, b, c, d⟩ := q
  refine ⟨a, by rw [e _ _ (by omega) (by omega)]; exact b, fun j hj => ?_, fun k hk z => ?_⟩
  · rw [e _ _ (by omega) (by omega), e _ _ (by omega) (by omega)]
    exact c j hj
  · obtain ⟨j, hj, y⟩ := d k hk z
    exact ⟨j, hj, by rw [e _ _ (by omega) (by omega)]; exact y⟩
theorem Lr.cg {σ σ' : Sg} {t w n : Nat} (q : Lr σ t w n) (e : ∀ a x, 29 ≤ a → a ≤ 30 → g_i σ' a x = g_i σ a x) : Lr σ' t w n := by
  obtain ⟨a, b, c, d⟩ := q
  refine ⟨a, by rw [e _ _ (by omega) (by omega)]; exact b, fun j hj => ?_, fun k hk z => ?_⟩
  · rw [e _ _ (by omega) (by omega)]
    exact c j hj
  · obtain ⟨j, hj, y⟩ := d k hk z
    exact ⟨j, hj, by rw [e _ _ (by omega) (by omega)]; exact y⟩
theorem l_fin {b : Nat} {σ : Sg} (h : SN b σ) {c i : Nat} {v : Int32} {σ1 : Sg} (g : f_G_finish σ 0 (nI c) (nI i) = some (.inl (some (.int v)), σ1)) (hs : σ1.1 = σ.1) : f_L_finish σ 0 (nI c) (nI i) 51 = some (0, s_l σ1 51 0 (if v = 0 then 0 else 1)) := by
  simp (disch := omega) only [↓reduceIte, ↓wi_e, ↓wn_e, ↓rc_i, ↓rc_l, ↓h.q0, ↓h.q1, ↓h.q2, ↓h.qr, ↓h.qc, ↓h.qr2, ↓h.qr3, ↓h.qr4, ↓h.qr5, ↓h.qc5, ↓h.qt, ↓h.qt4, ↓h.qt5, ↓h.qt6, ↓h.qm2, ↓h.qm3, ↓h.qm4, ↓h.qm5, ↓h.qm6, ↓h.qm7, ↓h.qm8, ↓h.qm9, ↓h.qm10, ↓h.qm11, ↓h.qm12, ↓h.qm13, ↓h.qm14, ↓h.qm15, ↓h.qm16, ↓h.qm17, ↓h.qm18, ↓h.qm19, ↓h.qm20, ↓h.qm21, ↓h.qm22, ↓h.qm23, ↓h.qm24, h.lt, kd_0, kd_1, kd_2, kd_3, kd_r, kd_ra, kd_rb, kd_rc, kd_rd, ln_ra, ln_rb, ln_rc, ln_rd, kd_c, kd_ca, ln_ca, kd_t, kd_ta, kd_tb, kd_tc, ln_ta, ln_tb, ln_tc, ln_1, ln_2, ln_3, ln_51, kd_27, kd_28, kd_29, kd_30, kd_31, kd_32, kd_33, kd_34, kd_35, kd_36, kd_37, kd_38, kd_39, kd_40, kd_41, kd_42, kd_43, kd_44, kd_45, kd_46, kd_47, kd_48, kd_49, kd_50, kd_51, ln_28, ln_29, ln_30, ln_31, ln_32, ln_33, ln_34, ln_35, ln_36, ln_37, ln_38, ln_39, ln_40, ln_41, ln_42, ln_43, ln_44, ln_45, ln_46, ln_47, ln_48, ln_49, ln_50, inb_n, cl_n, g_n_s_i, g_n_s_l, mul_3, mul_4, mul_6, mul_61, nI_add, nI_1, nle_0, nle_1, nle_2, nle_3, nle_4, nle_5, nle_6, nle_7, nle_60, nle_61, nlt_0, nlt_1, nlt_2, nlt_3, nlt_4, nlt_5, nlt_6, nlt_7, nlt_60, nlt_61, nge_0, nge_1, nge_2, nge_3, nge_4, nge_5, nge_6, nge_7, nge_60, nge_61, ngt_0, ngt_1, ngt_2, ngt_3, ngt_4, ngt_5, ngt_6, ngt_7, ngt_60, ngt_61, neq_0, neq_1, neq_2, neq_3, neq_4, neq_5, neq_6, neq_7, neq_60, neq_61, Nat.not_lt_zero, and_self, and_true, true_and, or_true, true_or, if_true, if_false, or_self, and_false, false_and, or_false, false_or, not_true_eq_false, not_false_eq_true, ne_eq, reduceCtorEq, eq_self, bind_s, c10, c01, c20, c30, c40, cl_0, inb_0, onI_l, onI_r, onV_l, onV_r, b_L_finish_16, f_L_finish, ↓bq g, hs]
  split <;> rfl
theorem tU_o {σ : Sg} {i t w m a j : Nat} (q : a ≠ 5 + 5 * i ∧ a ≠ 6 + 5 * i ∧ a ≠ 7 + 5 * i) : tU σ i t w m a j = g_i σ a j := by
  unfold tU
  rw [if_neg q.1, if_neg q.2.1, if_neg q.2.2]
theorem tU_5 {σ : Sg} {i t w m j : Nat} : tU σ i t w m (5 + 5 * i) j = if w.testBit j = true ∧ g_i σ (5 + 5 * i) j < g_i σ (48 + 4 * t) 1 then g_i σ (48 + 4 * t) 1 else g_i σ (5 + 5 * i) j := if_pos rfl
theorem tU_6 {σ : Sg} {i t w m j : Nat} : tU σ i t w m (6 + 5 * i) j = if w.testBit j = true ∧ g_i σ (5 + 5 * i) j < g_i σ (48 + 4 * t) 1 then g_i σ (51 + 4 * t) j else g_i σ (6 + 5 * i) j := by
  have e : 6 + 5 * i ≠ 5 + 5 * i := by omega
  unfold tU
  rw [if_neg e, if_pos rfl]
theorem tU_7 {σ : Sg} {i t w m j : Nat} : tU σ i t w m (7 + 5 * i) j = if m.testBit j = true then mx (g_i σ (7 + 5 * i) j) (g_i σ (48 + 4 * t) 1) else g_i σ (7 + 5 * i) j := by
  have e : 7 + 5 * i ≠ 5 + 5 * i := by omega
  have e' : 7 + 5 * i ≠ 6 + 5 * i := by omega
  unfold tU
  rw [if_neg e, if_neg e', if_pos rfl]
theorem mx_l (x y : Int32) : x ≤ mx x y := by unfold mx; grind
theorem mx_r (x y : Int32) : y ≤ mx x y := by unfold mx; grind
theorem Qr.made {rc rs f : Int32} (q : Qr rc rs f 0 0) (y : Nat) (hy : y < 4) : ∃ n, n < 8 ∧ (if rc = -1 then nI y else rc) = nI n ∧ (if 0 ≤ rs then rs else nI y) = nI (n % 4) ∧ f = nI (n / 4 % 2) := by
  rcases q with ⟨z1, z2, z3, _, _⟩ | ⟨n, hn, z1, z2, z3, z4, z5⟩
  · refine ⟨y, by omega, if_pos z1, ?_, ?_⟩
    · rw [z2, if_neg (by decide), Nat.mod_eq_of_lt hy]
    · rw [z3]
      have : y / 4 % 2 = 0 := by omega
      rw [this]; rfl
  · have y1 : n / 8 % 2 = 0 := by
      have := z4.symm
      rw [neq_0 (by omega)] at this
      exact this
    have y2 : n / 16 % 2 = 0 := by
      have := z5.symm
      rw [neq_0 (by omega)] at this
      exact this
    refine ⟨n, by omega, ?_, ?_, z3⟩
    · rw [z1, if_neg (by rw [n_m1 (by omega)]; exact id)]
    · rw [z2, if_pos (nI_pos' (by omega))]
theorem o_finish {b : Nat} {M W : Nat → Nat} {σ : Sg} (h : R b M W σ) (x y : Int32) : OpI (f_L_finish σ 0 x y 51) (fun s => f_M_finish s 27 x y) (fun v => if v = 0 then 0 else 1) := by
  have h0 := h.r0
  have hb6 := h0.b60
  rcases oor4 (x := x) with ⟨c, hc, rfl⟩ | hx
  rotate_left
  · refine OpI.bad h (k := 1) (by decide) (v := 0) ?_ ?_
    · simp (disch := omega) only [↓reduceIte, ↓wi_e, ↓wn_e, ↓rc_i, ↓rc_l, ↓h0.q0, ↓h0.q1, ↓h0.q2, ↓h0.qr, ↓h0.qc, ↓h0.qr2, ↓h0.qr3, ↓h0.qr4, ↓h0.qr5, ↓h0.qc5, ↓h0.qt, ↓h0.qt4, ↓h0.qt5, ↓h0.qt6, ↓h0.qm2, ↓h0.qm3, ↓h0.qm4, ↓h0.qm5, ↓h0.qm6, ↓h0.qm7, ↓h0.qm8, ↓h0.qm9, ↓h0.qm10, ↓h0.qm11, ↓h0.qm12, ↓h0.qm13, ↓h0.qm14, ↓h0.qm15, ↓h0.qm16, ↓h0.qm17, ↓h0.qm18, ↓h0.qm19, ↓h0.qm20, ↓h0.qm21, ↓h0.qm22, ↓h0.qm23, ↓h0.qm24, h0.lt, kd_0, kd_1, kd_2, kd_3, kd_r, kd_ra, kd_rb, kd_rc, kd_rd, ln_ra, ln_rb, ln_rc, ln_rd, kd_c, kd_ca, ln_ca, kd_t, kd_ta, kd_tb, kd_tc, ln_ta, ln_tb, ln_tc, ln_1, ln_2, ln_3, ln_51, kd_27, kd_28, kd_29, kd_30, kd_31, kd_32, kd_33, kd_34, kd_35, kd_36, kd_37, kd_38, kd_39, kd_40, kd_41, kd_42, kd_43, kd_44, kd_45, kd_46, kd_47, kd_48, kd_49, kd_50, kd_51, ln_28, ln_29, ln_30, ln_31, ln_32, ln_33, ln_34, ln_35, ln_36, ln_37, ln_38, ln_39, ln_40, ln_41, ln_42, ln_43, ln_44, ln_45, ln_46, ln_47, ln_48, ln_49, ln_50, inb_n, cl_n, g_n_s_i, g_n_s_l, mul_3, mul_4, mul_6, mul_61, nI_add, nI_1, nle_0, nle_1, nle_2, nle_3, nle_4, nle_5, nle_6, nle_7, nle_60, nle_61, nlt_0, nlt_1, nlt_2, nlt_3, nlt_4, nlt_5, nlt_6, nlt_7, nlt_60, nlt_61, nge_0, nge_1, nge_2, nge_3, nge_4, nge_5, nge_6, nge_7, nge_60, nge_61, ngt_0, ngt_1, ngt_2, ngt_3, ngt_4, ngt_5, ngt_6, ngt_7, ngt_60, ngt_61, neq_0, neq_1, neq_2, neq_3, neq_4, neq_5, neq_6, neq_7, neq_60, neq_61, Nat.not_lt_zero, and_self, and_true, true_and, or_true, true_or, if_true, if_false, or_self, and_false, false_and, or_false, false_or, not_true_eq_false, not_false_eq_true, ne_eq, reduceCtorEq, eq_self, bind_s, c10, c01, c20, c30, c40, cl_0, inb_0, onI_l, onI_r, onV_l, onV_r, b_L_finish_16, f_L_finish, f_G_finish, b_G_finish_14, b_G_finish_49, b_G_finish_146, ↓bq (p_isC0 hx)]
    · have c4 : ((0 : Int32) = 4) = False := by decide
      have c5 : ((0 : Int32) = 5) = False := by decide
      simp (disch := omega) only [↓reduceIte, ↓wi_e, ↓wn_e, ↓rc_i, ↓rc_l, ↓h0.q0, ↓h0.q1, ↓h0.q2, ↓h0.qr, ↓h0.qc, ↓h0.qr2, ↓h0.qr3, ↓h0.qr4, ↓h0.qr5, ↓h0.qc5, ↓h0.qt, ↓h0.qt4, ↓h0.qt5, ↓h0.qt6, ↓h0.qm2, ↓h0.qm3, ↓h0.qm4, ↓h0.qm5, ↓h0.qm6, ↓h0.qm7, ↓h0.qm8, ↓h0.qm9, ↓h0.qm10, ↓h0.qm11, ↓h0.qm12, ↓h0.qm13, ↓h0.qm14, ↓h0.qm15, ↓h0.qm16, ↓h0.qm17, ↓h0.qm18, ↓h0.qm19, ↓h0.qm20, ↓h0.qm21, ↓h0.qm22, ↓h0.qm23, ↓h0.qm24, h0.lt, kd_0, kd_1, kd_2, kd_3, kd_r, kd_ra, kd_rb, kd_rc, kd_rd, ln_ra, ln_rb, ln_rc, ln_rd, kd_c, kd_ca, ln_ca, kd_t, kd_ta, kd_tb, kd_tc, ln_ta, ln_tb, ln_tc, ln_1, ln_2, ln_3, ln_51, kd_27, kd_28, kd_29, kd_30, kd_31, kd_32, kd_33, kd_34, kd_35, kd_36, kd_37, kd_38, kd_39, kd_40, kd_41, kd_42, kd_43, kd_44, kd_45, kd_46, kd_47, kd_48, kd_49, kd_50, kd_51, ln_28, ln_29, ln_30, ln_31, ln_32, ln_33, ln_34, ln_35, ln_36, ln_37, ln_38, ln_39, ln_40, ln_41, ln_42, ln_43, ln_44, ln_45, ln_46, ln_47, ln_48, ln_49, ln_50, inb_n, cl_n, g_n_s_i, g_n_s_l, mul_3, mul_4, mul_6, mul_61, nI_add, nI_1, nle_0, nle_1, nle_2, nle_3, nle_4, nle_5, nle_6, nle_7, nle_60, nle_61, nlt_0, nlt_1, nlt_2, nlt_3, nlt_4, nlt_5, nlt_6, nlt_7, nlt_60, nlt_61, nge_0, nge_1, nge_2, nge_3, nge_4, nge_5, nge_6, nge_7, nge_60, nge_61, ngt_0, ngt_1, ngt_2, ngt_3, ngt_4, ngt_5, ngt_6, ngt_7, ngt_60, ngt_61, neq_0, neq_1, neq_2, neq_3, neq_4, neq_5, neq_6, neq_7, neq_60, neq_61, Nat.not_lt_zero, and_self, and_true, true_and, or_true, true_or, if_true, if_false, or_self, and_false, false_and, or_false, false_or, not_true_eq_false, not_false_eq_true, ne_eq, reduceCtorEq, eq_self, bind_s, c10, c01, c20, c30, c40, cl_0, inb_0, onI_l, onI_r, onV_l, onV_r, f_M_finish, b_M_finish_18, b_M_finish_19, b_M_finish_43, b_M_finish_76, ↓bq (p_mC0 hx), ↓bq (p_stateOf0 hx), c4, c5, ↓bq (p_says h0 _)]
  rcases oor3 (x := y) with ⟨i, hi, rfl⟩ | hy
  rotate_left
  · refine OpI.bad h (k := 1) (by decide) (v := 0) ?_ ?_
    · simp (disch := omega) only [↓reduceIte, ↓wi_e, ↓wn_e, ↓rc_i, ↓rc_l, ↓h0.q0, ↓h0.q1, ↓h0.q2, ↓h0.qr, ↓h0.qc, ↓h0.qr2, ↓h0.qr3, ↓h0.qr4, ↓h0.qr5, ↓h0.qc5, ↓h0.qt, ↓h0.qt4, ↓h0.qt5, ↓h0.qt6, ↓h0.qm2, ↓h0.qm3, ↓h0.qm4, ↓h0.qm5, ↓h0.qm6, ↓h0.qm7, ↓h0.qm8, ↓h0.qm9, ↓h0.qm10, ↓h0.qm11, ↓h0.qm12, ↓h0.qm13, ↓h0.qm14, ↓h0.qm15, ↓h0.qm16, ↓h0.qm17, ↓h0.qm18, ↓h0.qm19, ↓h0.qm20, ↓h0.qm21, ↓h0.qm22, ↓h0.qm23, ↓h0.qm24, h0.lt, kd_0, kd_1, kd_2, kd_3, kd_r, kd_ra, kd_rb, kd_rc, kd_rd, ln_ra, ln_rb, ln_rc, ln_rd, kd_c, kd_ca, ln_ca, kd_t, kd_ta, kd_tb, kd_tc, ln_ta, ln_tb, ln_tc, ln_1, ln_2, ln_3, ln_51, kd_27, kd_28, kd_29, kd_30, kd_31, kd_32, kd_33, kd_34, kd_35, kd_36, kd_37, kd_38, kd_39, kd_40, kd_41, kd_42, kd_43, kd_44, kd_45, kd_46, kd_47, kd_48, kd_49, kd_50, kd_51, ln_28, ln_29, ln_30, ln_31, ln_32, ln_33, ln_34, ln_35, ln_36, ln_37, ln_38, ln_39, ln_40, ln_41, ln_42, ln_43, ln_44, ln_45, ln_46, ln_47, ln_48, ln_49, ln_50, inb_n, cl_n, g_n_s_i, g_n_s_l, mul_3, mul_4, mul_6, mul_61, nI_add, nI_1, nle_0, nle_1, nle_2, nle_3, nle_4, nle_5, nle_6, nle_7, nle_60, nle_61, nlt_0, nlt_1, nlt_2, nlt_3, nlt_4, nlt_5, nlt_6, nlt_7, nlt_60, nlt_61, nge_0, nge_1, nge_2, nge_3, nge_4, nge_5, nge_6, nge_7, nge_60, nge_61, ngt_0, ngt_1, ngt_2, ngt_3, ngt_4, ngt_5, ngt_6, ngt_7, ngt_60, ngt_61, neq_0, neq_1, neq_2, neq_3, neq_4, neq_5, neq_6, neq_7, neq_60, neq_61, Nat.not_lt_zero, and_self, and_true, true_and, or_true, true_or, if_true, if_false, or_self, and_false, false_and, or_false, false_or, not_true_eq_false, not_false_eq_true, ne_eq, reduceCtorEq, eq_self, bind_s, c10, c01, c20, c30, c40, cl_0, inb_0, onI_l, onI_r, onV_l, onV_r, b_L_finish_16, f_L_finish, f_G_finish, b_G_finish_14, b_G_finish_49, b_G_finish_146, ↓bq (p_isC1 hc), ↓bq (p_isR0 hy)]
    · simp (disch := omega) only [↓reduceIte, ↓wi_e, ↓wn_e, ↓rc_i, ↓rc_l, ↓h0.q0, ↓h0.q1, ↓h0.q2, ↓h0.qr, ↓h0.qc, ↓h0.qr2, ↓h0.qr3, ↓h0.qr4, ↓h0.qr5, ↓h0.qc5, ↓h0.qt, ↓h0.qt4, ↓h0.qt5, ↓h0.qt6, ↓h0.qm2, ↓h0.qm3, ↓h0.qm4, ↓h0.qm5, ↓h0.qm6, ↓h0.qm7, ↓h0.qm8, ↓h0.qm9, ↓h0.qm10, ↓h0.qm11, ↓h0.qm12, ↓h0.qm13, ↓h0.qm14, ↓h0.qm15, ↓h0.qm16, ↓h0.qm17, ↓h0.qm18, ↓h0.qm19, ↓h0.qm20, ↓h0.qm21, ↓h0.qm22, ↓h0.qm23, ↓h0.qm24, h0.lt, kd_0, kd_1, kd_2, kd_3, kd_r, kd_ra, kd_rb, kd_rc, kd_rd, ln_ra, ln_rb, ln_rc, ln_rd, kd_c, kd_ca, ln_ca, kd_t, kd_ta, kd_tb, kd_tc, ln_ta, ln_tb, ln_tc, ln_1, ln_2, ln_3, ln_51, kd_27, kd_28, kd_29, kd_30, kd_31, kd_32, kd_33, kd_34, kd_35, kd_36, kd_37, kd_38, kd_39, kd_40, kd_41, kd_42, kd_43, kd_44, kd_45, kd_46, kd_47, kd_48, kd_49, kd_50, kd_51, ln_28, ln_29, ln_30, ln_31, ln_32, ln_33, ln_34, ln_35, ln_36, ln_37, ln_38, ln_39, ln_40, ln_41, ln_42, ln_43, ln_44, ln_45, ln_46, ln_47, ln_48, ln_49, ln_50, inb_n, cl_n, g_n_s_i, g_n_s_l, mul_3, mul_4, mul_6, mul_61, nI_add, nI_1, nle_0, nle_1, nle_2, nle_3, nle_4, nle_5, nle_6, nle_7, nle_60, nle_61, nlt_0, nlt_1, nlt_2, nlt_3, nlt_4, nlt_5, nlt_6, nlt_7, nlt_60, nlt_61, nge_0, nge_1, nge_2, nge_3, nge_4, nge_5, nge_6, nge_7, nge_60, nge_61, ngt_0, ngt_1, ngt_2, ngt_3, ngt_4, ngt_5, ngt_6, ngt_7, ngt_60, ngt_61, neq_0, neq_1, neq_2, neq_3, neq_4, neq_5, neq_6, neq_7, neq_60, neq_61, Nat.not_lt_zero, and_self, and_true, true_and, or_true, true_or, if_true, if_false, or_self, and_false, false_and, or_false, false_or, not_true_eq_false, not_false_eq_true, ne_eq, reduceCtorEq, eq_self, bind_s, c10, c01, c20, c30, c40, cl_0, inb_0, onI_l, onI_r, onV_l, onV_r, f_M_finish, b_M_finish_18, b_M_finish_19, b_M_finish_38, b_M_finish_43, b_M_finish_76, ↓bq (p_mC1 hc), ↓bq (p_mR0 hy), ↓bq (p_stateOf h0 hc), ↓bq (p_says h0 _), ite_self]
  obtain ⟨e1, ⟨s, hs5, es⟩, e3, e4⟩ := h.r8 c hc
  by_cases s45 : g_i σ 36 c = 4 ∨ g_i σ 36 c = 5
  rotate_left
  · have hm : f_M_finish σ 27 (nI c) (nI i) = some (0, s_i σ 27 0 2) := by
      rw [fn_c h0 hc hi, if_neg s45, fn_76 h0 _ _ 2 (by decide)]
    by_cases s0 : g_i σ 36 c = 0
    · have e9 := (h.r9 c hc).1 s0
      refine OpI.bad h (k := 2) (by decide) (v := 0) ?_ hm
      simp (disch := omega) only [↓reduceIte, ↓wi_e, ↓wn_e, ↓rc_i, ↓rc_l, ↓h0.q0, ↓h0.q1, ↓h0.q2, ↓h0.qr, ↓h0.qc, ↓h0.qr2, ↓h0.qr3, ↓h0.qr4, ↓h0.qr5, ↓h0.qc5, ↓h0.qt, ↓h0.qt4, ↓h0.qt5, ↓h0.qt6, ↓h0.qm2, ↓h0.qm3, ↓h0.qm4, ↓h0.qm5, ↓h0.qm6, ↓h0.qm7, ↓h0.qm8, ↓h0.qm9, ↓h0.qm10, ↓h0.qm11, ↓h0.qm12, ↓h0.qm13, ↓h0.qm14, ↓h0.qm15, ↓h0.qm16, ↓h0.qm17, ↓h0.qm18, ↓h0.qm19, ↓h0.qm20, ↓h0.qm21, ↓h0.qm22, ↓h0.qm23, ↓h0.qm24, h0.lt, kd_0, kd_1, kd_2, kd_3, kd_r, kd_ra, kd_rb, kd_rc, kd_rd, ln_ra, ln_rb, ln_rc, ln_rd, kd_c, kd_ca, ln_ca, kd_t, kd_ta, kd_tb, kd_tc, ln_ta, ln_tb, ln_tc, ln_1, ln_2, ln_3, ln_51, kd_27, kd_28, kd_29, kd_30, kd_31, kd_32, kd_33, kd_34, kd_35, kd_36, kd_37, kd_38, kd_39, kd_40, kd_41, kd_42, kd_43, kd_44, kd_45, kd_46, kd_47, kd_48, kd_49, kd_50, kd_51, ln_28, ln_29, ln_30, ln_31, ln_32, ln_33, ln_34, ln_35, ln_36, ln_37, ln_38, ln_39, ln_40, ln_41, ln_42, ln_43, ln_44, ln_45, ln_46, ln_47, ln_48, ln_49, ln_50, inb_n, cl_n, g_n_s_i, g_n_s_l, mul_3, mul_4, mul_6, mul_61, nI_add, nI_1, nle_0, nle_1, nle_2, nle_3, nle_4, nle_5, nle_6, nle_7, nle_60, nle_61, nlt_0, nlt_1, nlt_2, nlt_3, nlt_4, nlt_5, nlt_6, nlt_7, nlt_60, nlt_61, nge_0, nge_1, nge_2, nge_3, nge_4, nge_5, nge_6, nge_7, nge_60, nge_61, ngt_0, ngt_1, ngt_2, ngt_3, ngt_4, ngt_5, ngt_6, ngt_7, ngt_60, ngt_61, neq_0, neq_1, neq_2, neq_3, neq_4, neq_5, neq_6, neq_7, neq_60, neq_61, Nat.not_lt_zero, and_self, and_true, true_and, or_true, true_or, if_true, if_false, or_self, and_false, false_and, or_false, false_or, not_true_eq_false, not_false_eq_true, ne_eq, reduceCtorEq, eq_self, bind_s, c10, c01, c20, c30, c40, cl_0, inb_0, onI_l, onI_r, onV_l, onV_r, b_L_finish_16, f_L_finish, f_G_finish, b_G_finish_14, b_G_finish_49, b_G_finish_146, ↓bq (p_isC1 hc), ↓bq (p_isR1 hi), ↓rqn e9, sx_0, sx_1, sx_2, sx_3, sx_4, sx_5, sx_6, sx_7, sx_8, sx_9, sx_10, sx_11]
    · obtain ⟨t, ht1, ht2, et, er⟩ := (h.r9 c hc).2 s0
      refine OpI.bad h (k := 2) (by decide) (v := 0) ?_ hm
      simp (disch := omega) only [↓reduceIte, ↓wi_e, ↓wn_e, ↓rc_i, ↓rc_l, ↓h0.q0, ↓h0.q1, ↓h0.q2, ↓h0.qr, ↓h0.qc, ↓h0.qr2, ↓h0.qr3, ↓h0.qr4, ↓h0.qr5, ↓h0.qc5, ↓h0.qt, ↓h0.qt4, ↓h0.qt5, ↓h0.qt6, ↓h0.qm2, ↓h0.qm3, ↓h0.qm4, ↓h0.qm5, ↓h0.qm6, ↓h0.qm7, ↓h0.qm8, ↓h0.qm9, ↓h0.qm10, ↓h0.qm11, ↓h0.qm12, ↓h0.qm13, ↓h0.qm14, ↓h0.qm15, ↓h0.qm16, ↓h0.qm17, ↓h0.qm18, ↓h0.qm19, ↓h0.qm20, ↓h0.qm21, ↓h0.qm22, ↓h0.qm23, ↓h0.qm24, h0.lt, kd_0, kd_1, kd_2, kd_3, kd_r, kd_ra, kd_rb, kd_rc, kd_rd, ln_ra, ln_rb, ln_rc, ln_rd, kd_c, kd_ca, ln_ca, kd_t, kd_ta, kd_tb, kd_tc, ln_ta, ln_tb, ln_tc, ln_1, ln_2, ln_3, ln_51, kd_27, kd_28, kd_29, kd_30, kd_31, kd_32, kd_33, kd_34, kd_35, kd_36, kd_37, kd_38, kd_39, kd_40, kd_41, kd_42, kd_43, kd_44, kd_45, kd_46, kd_47, kd_48, kd_49, kd_50, kd_51, ln_28, ln_29, ln_30, ln_31, ln_32, ln_33, ln_34, ln_35, ln_36, ln_37, ln_38, ln_39, ln_40, ln_41, ln_42, ln_43, ln_44, ln_45, ln_46, ln_47, ln_48, ln_49, ln_50, inb_n, cl_n, g_n_s_i, g_n_s_l, mul_3, mul_4, mul_6, mul_61, nI_add, nI_1, nle_0, nle_1, nle_2, nle_3, nle_4, nle_5, nle_6, nle_7, nle_60, nle_61, nlt_0, nlt_1, nlt_2, nlt_3, nlt_4, nlt_5, nlt_6, nlt_7, nlt_60, nlt_61, nge_0, nge_1, nge_2, nge_3, nge_4, nge_5, nge_6, nge_7, nge_60, nge_61, ngt_0, ngt_1, ngt_2, ngt_3, ngt_4, ngt_5, ngt_6, ngt_7, ngt_60, ngt_61, neq_0, neq_1, neq_2, neq_3, neq_4, neq_5, neq_6, neq_7, neq_60, neq_61, Nat.not_lt_zero, and_self, and_true, true_and, or_true, true_or, if_true, if_false, or_self, and_false, false_and, or_false, false_or, not_true_eq_false, not_false_eq_true, ne_eq, reduceCtorEq, eq_self, bind_s, c10, c01, c20, c30, c40, cl_0, inb_0, onI_l, onI_r, onV_l, onV_r, b_L_finish_16, f_L_finish, f_G_finish, b_G_finish_14, b_G_finish_49, b_G_finish_146, ↓bq (p_isC1 hc), ↓bq (p_isR1 hi), ↓rq er, ↓bq (p_isDecided h0 hc), e1, s45, sx_0, sx_1, sx_2, sx_3, sx_4, sx_5, sx_6, sx_7, sx_8, sx_9, sx_10, sx_11]
  have ne0 : g_i σ 36 c ≠ 0 := by
    rcases s45 with q | q <;> rw [q] <;> decide
  obtain ⟨t, ht1, ht2, et, er⟩ := (h.r9 c hc).2 ne0
  obtain ⟨q1, q2, q3, q4⟩ := h.r11 t ht1 ht2
  by_cases sv : (if g_i σ (4 + 5 * i) 0 = 0 then (0 : Int32) else if g_i σ (4 + 5 * i) 1 = gv σ then 1 else 0) = 0
  · refine OpI.bad h (k := 3) (by decide) (v := 0) ?_ ?_
    · simp (disch := omega) only [↓reduceIte, ↓wi_e, ↓wn_e, ↓rc_i, ↓rc_l, ↓h0.q0, ↓h0.q1, ↓h0.q2, ↓h0.qr, ↓h0.qc, ↓h0.qr2, ↓h0.qr3, ↓h0.qr4, ↓h0.qr5, ↓h0.qc5, ↓h0.qt, ↓h0.qt4, ↓h0.qt5, ↓h0.qt6, ↓h0.qm2, ↓h0.qm3, ↓h0.qm4, ↓h0.qm5, ↓h0.qm6, ↓h0.qm7, ↓h0.qm8, ↓h0.qm9, ↓h0.qm10, ↓h0.qm11, ↓h0.qm12, ↓h0.qm13, ↓h0.qm14, ↓h0.qm15, ↓h0.qm16, ↓h0.qm17, ↓h0.qm18, ↓h0.qm19, ↓h0.qm20, ↓h0.qm21, ↓h0.qm22, ↓h0.qm23, ↓h0.qm24, h0.lt, kd_0, kd_1, kd_2, kd_3, kd_r, kd_ra, kd_rb, kd_rc, kd_rd, ln_ra, ln_rb, ln_rc, ln_rd, kd_c, kd_ca, ln_ca, kd_t, kd_ta, kd_tb, kd_tc, ln_ta, ln_tb, ln_tc, ln_1, ln_2, ln_3, ln_51, kd_27, kd_28, kd_29, kd_30, kd_31, kd_32, kd_33, kd_34, kd_35, kd_36, kd_37, kd_38, kd_39, kd_40, kd_41, kd_42, kd_43, kd_44, kd_45, kd_46, kd_47, kd_48, kd_49, kd_50, kd_51, ln_28, ln_29, ln_30, ln_31, ln_32, ln_33, ln_34, ln_35, ln_36, ln_37, ln_38, ln_39, ln_40, ln_41, ln_42, ln_43, ln_44, ln_45, ln_46, ln_47, ln_48, ln_49, ln_50, inb_n, cl_n, g_n_s_i, g_n_s_l, mul_3, mul_4, mul_6, mul_61, nI_add, nI_1, nle_0, nle_1, nle_2, nle_3, nle_4, nle_5, nle_6, nle_7, nle_60, nle_61, nlt_0, nlt_1, nlt_2, nlt_3, nlt_4, nlt_5, nlt_6, nlt_7, nlt_60, nlt_61, nge_0, nge_1, nge_2, nge_3, nge_4, nge_5, nge_6, nge_7, nge_60, nge_61, ngt_0, ngt_1, ngt_2, ngt_3, ngt_4, ngt_5, ngt_6, ngt_7, ngt_60, ngt_61, neq_0, neq_1, neq_2, neq_3, neq_4, neq_5, neq_6, neq_7, neq_60, neq_61, Nat.not_lt_zero, and_self, and_true, true_and, or_true, true_or, if_true, if_false, or_self, and_false, false_and, or_false, false_or, not_true_eq_false, not_false_eq_true, ne_eq, reduceCtorEq, eq_self, bind_s, c10, c01, c20, c30, c40, cl_0, inb_0, onI_l, onI_r, onV_l, onV_r, b_L_finish_16, f_L_finish, f_G_finish, b_G_finish_14, b_G_finish_49, b_G_finish_146, ↓bq (p_isC1 hc), ↓bq (p_isR1 hi), ↓rq er, ↓bq (p_isDecided h0 hc), e1, s45, ↓bq (p_serves h0 hi), sv, sx_0, sx_1, sx_2, sx_3, sx_4, sx_5, sx_6, sx_7, sx_8, sx_9, sx_10, sx_11]
    · show f_M_finish _ _ _ _ = _
      rw [fn_c h0 hc hi, if_pos s45, sv_e h hi, if_pos sv, fn_76 h0 _ _ 3 (by decide)]
  have svZ : ∀ Z, (∀ a j, 27 ≤ a → a ≤ 50 → g_i Z a j = g_i σ a j) → (if g_i Z 42 i = 0 then (0 : Int32) else if g_i Z 43 i = mgv Z then 1 else 0) ≠ 0 := by
    intro Z hZ
    unfold mgv
    rw [hZ _ _ (by omega) (by omega), hZ _ _ (by omega) (by omega), hZ _ _ (by omega) (by omega), hZ _ _ (by omega) (by omega), hZ _ _ (by omega) (by omega)]
    rw [← sv_e h hi] at sv
    exact sv
  have mb : ∀ Z, SN b Z → (∀ a j, 27 ≤ a → a ≤ 50 → g_i Z a j = g_i σ a j) → f_M_finish Z 27 (nI c) (nI i) = if g_i σ 49 (61 * i + t) = 0 ∧ g_i σ 50 (61 * i + t) = 0 then b_M_finish_142 (s_i Z 27 0 0) 27 (nI c) (nI i) (nI t) (nI (61 * i + t)) 27 (nI t) (nI i) (if g_i σ 36 c = 4 then 0 else 2) else some (0, s_i Z 27 0 0) := by
    intro Z hs hZ
    rw [fn_c hs hc hi, if_pos (by rw [hZ _ _ (by omega) (by omega)]; exact s45), if_neg (svZ Z hZ), fn_a hs hc hi (t := t) (by omega) (by rw [hZ _ _ (by omega) (by omega)]; exact et), hZ 49 _ (by omega) (by omega), hZ 50 _ (by omega) (by omega), hZ 36 _ (by omega) (by omega)]
  have Q := h.r6 i hi t (by omega)
  have has := p_has h0 hi (t := t) (by omega) 24
  rw [← q1] at has
  by_cases ad : g_i σ 49 (61 * i + t) = 0 ∧ g_i σ 50 (61 * i + t) = 0
  rotate_left
  · -- done before
    have v10 : ¬ (if g_i σ (8 + 5 * i) t = -1 then (0 : Int32) else if g_i σ (8 + 5 * i) t &&& 24 = 0 then 0 else 1) = 0 := by
      rcases Q with ⟨_, _, _, z1, z2⟩ | ⟨n, hn, z1, z2, z3, z4, z5⟩
      · exact absurd ⟨z1, z2⟩ ad
      · rw [z1, if_neg (by rw [n_m1 (by omega)]; exact id), if_neg]
        · decide
        · intro z
          obtain ⟨y1, y2⟩ := (rec_24 n hn).mp z
          exact ad ⟨by rw [z4, y1]; rfl, by rw [z5, y2]; rfl⟩
    have g : f_G_finish σ 0 (nI c) (nI i) = some (.inl (some (.int 0)), σ) := by
      simp (disch := omega) only [↓reduceIte, ↓wi_e, ↓wn_e, ↓rc_i, ↓rc_l, ↓h0.q0, ↓h0.q1, ↓h0.q2, ↓h0.qr, ↓h0.qc, ↓h0.qr2, ↓h0.qr3, ↓h0.qr4, ↓h0.qr5, ↓h0.qc5, ↓h0.qt, ↓h0.qt4, ↓h0.qt5, ↓h0.qt6, ↓h0.qm2, ↓h0.qm3, ↓h0.qm4, ↓h0.qm5, ↓h0.qm6, ↓h0.qm7, ↓h0.qm8, ↓h0.qm9, ↓h0.qm10, ↓h0.qm11, ↓h0.qm12, ↓h0.qm13, ↓h0.qm14, ↓h0.qm15, ↓h0.qm16, ↓h0.qm17, ↓h0.qm18, ↓h0.qm19, ↓h0.qm20, ↓h0.qm21, ↓h0.qm22, ↓h0.qm23, ↓h0.qm24, h0.lt, kd_0, kd_1, kd_2, kd_3, kd_r, kd_ra, kd_rb, kd_rc, kd_rd, ln_ra, ln_rb, ln_rc, ln_rd, kd_c, kd_ca, ln_ca, kd_t, kd_ta, kd_tb, kd_tc, ln_ta, ln_tb, ln_tc, ln_1, ln_2, ln_3, ln_51, kd_27, kd_28, kd_29, kd_30, kd_31, kd_32, kd_33, kd_34, kd_35, kd_36, kd_37, kd_38, kd_39, kd_40, kd_41, kd_42, kd_43, kd_44, kd_45, kd_46, kd_47, kd_48, kd_49, kd_50, kd_51, ln_28, ln_29, ln_30, ln_31, ln_32, ln_33, ln_34, ln_35, ln_36, ln_37, ln_38, ln_39, ln_40, ln_41, ln_42, ln_43, ln_44, ln_45, ln_46, ln_47, ln_48, ln_49, ln_50, inb_n, cl_n, g_n_s_i, g_n_s_l, mul_3, mul_4, mul_6, mul_61, nI_add, nI_1, nle_0, nle_1, nle_2, nle_3, nle_4, nle_5, nle_6, nle_7, nle_60, nle_61, nlt_0, nlt_1, nlt_2, nlt_3, nlt_4, nlt_5, nlt_6, nlt_7, nlt_60, nlt_61, nge_0, nge_1, nge_2, nge_3, nge_4, nge_5, nge_6, nge_7, nge_60, nge_61, ngt_0, ngt_1, ngt_2, ngt_3, ngt_4, ngt_5, ngt_6, ngt_7, ngt_60, ngt_61, neq_0, neq_1, neq_2, neq_3, neq_4, neq_5, neq_6, neq_7, neq_60, neq_61, Nat.not_lt_zero, and_self, and_true, true_and, or_true, true_or, if_true, if_false, or_self, and_false, false_and, or_false, false_or, not_true_eq_false, not_false_eq_true, ne_eq, reduceCtorEq, eq_self, bind_s, c10, c01, c20, c30, c40, cl_0, inb_0, onI_l, onI_r, onV_l, onV_r, f_G_finish, b_G_finish_14, b_G_finish_49, b_G_finish_146, ↓bq (p_isC1 hc), ↓bq (p_isR1 hi), ↓rq er, ↓bq (p_isDecided h0 hc), e1, s45, ↓bq (p_serves h0 hi), sv, ↓bq has, v10]
    have hR := (h.lg 51 0 (if (0 : Int32) = 0 then 0 else 1)).cg 0
    refine ⟨0, _, 0, _, b, M, W, l_fin h0 g rfl, h.n27, ?_, g270 _ _, ?_, hR⟩
    · show f_M_finish _ _ _ _ = _
      rw [mb (s_l σ 51 0 (if (0 : Int32) = 0 then 0 else 1)) (by exact h0) (fun a j _ _ => rfl), if_neg ad]
    · intro _
      rw [g_l_s_i, g510]
  rw [ad.1, ad.2] at Q
  have v10 : (if g_i σ (8 + 5 * i) t = -1 then (0 : Int32) else if g_i σ (8 + 5 * i) t &&& 24 = 0 then 0 else 1) = 0 := by
    rcases Q with ⟨z, _⟩ | ⟨n, hn, z1, z2, z3, z4, z5⟩
    · rw [if_pos z]
    · have y1 : n / 8 % 2 = 0 := by
        have := z4.symm
        rw [neq_0 (by omega)] at this
        exact this
      have y2 : n / 16 % 2 = 0 := by
        have := z5.symm
        rw [neq_0 (by omega)] at this
        exact this
      rw [z1, if_neg (by rw [n_m1 (by omega)]; exact id), if_pos ((rec_24 n hn).mpr ⟨y1, y2⟩)]
  by_cases s4 : g_i σ 36 c = 4
  · obtain ⟨n, hn, n1, n2, n3⟩ := Q.made 0 (by omega)
    obtain ⟨σa, ea, hsa, hra, hva⟩ := p_takeIn h0 hi ht1 ht2 q4.1 q3.1 q4.2.2.1 q3.2.2.1
    have fa : ∀ a k, a ≠ 5 + 5 * i ∧ a ≠ 6 + 5 * i ∧ a ≠ 7 + 5 * i → g_i σa a k = g_i σ a k := by
      intro a k q
      rw [hva, tU_o q, ite_self]
    have ma := p_mark hsa hi (t := t) (by omega) 8 0
    have m0 : (0 : Int32) = nI 0 := rfl
    rw [fa _ _ (by omega), m0, n1, rec_o8 n (by omega)] at ma
    have n8 : n % 8 + 8 + 16 * (n / 16) = n + 8 := by omega
    rw [n8] at ma
    have q1a : g_i σa (48 + 4 * t) 0 = nI t := by rw [fa _ _ (by omega), q1]
    rw [← m0, ← q1a] at ma
    have g : f_G_finish σ 0 (nI c) (nI i) = some (.inl (some (.int 1)), s_i σa (8 + 5 * i) t (nI (n + 8))) := by
      simp (disch := omega) only [↓reduceIte, ↓wi_e, ↓wn_e, ↓rc_i, ↓rc_l, ↓h0.q0, ↓h0.q1, ↓h0.q2, ↓h0.qr, ↓h0.qc, ↓h0.qr2, ↓h0.qr3, ↓h0.qr4, ↓h0.qr5, ↓h0.qc5, ↓h0.qt, ↓h0.qt4, ↓h0.qt5, ↓h0.qt6, ↓h0.qm2, ↓h0.qm3, ↓h0.qm4, ↓h0.qm5, ↓h0.qm6, ↓h0.qm7, ↓h0.qm8, ↓h0.qm9, ↓h0.qm10, ↓h0.qm11, ↓h0.qm12, ↓h0.qm13, ↓h0.qm14, ↓h0.qm15, ↓h0.qm16, ↓h0.qm17, ↓h0.qm18, ↓h0.qm19, ↓h0.qm20, ↓h0.qm21, ↓h0.qm22, ↓h0.qm23, ↓h0.qm24, h0.lt, kd_0, kd_1, kd_2, kd_3, kd_r, kd_ra, kd_rb, kd_rc, kd_rd, ln_ra, ln_rb, ln_rc, ln_rd, kd_c, kd_ca, ln_ca, kd_t, kd_ta, kd_tb, kd_tc, ln_ta, ln_tb, ln_tc, ln_1, ln_2, ln_3, ln_51, kd_27, kd_28, kd_29, kd_30, kd_31, kd_32, kd_33, kd_34, kd_35, kd_36, kd_37, kd_38, kd_39, kd_40, kd_41, kd_42, kd_43, kd_44, kd_45, kd_46, kd_47, kd_48, kd_49, kd_50, kd_51, ln_28, ln_29, ln_30, ln_31, ln_32, ln_33, ln_34, ln_35, ln_36, ln_37, ln_38, ln_39, ln_40, ln_41, ln_42, ln_43, ln_44, ln_45, ln_46, ln_47, ln_48, ln_49, ln_50, inb_n, cl_n, g_n_s_i, g_n_s_l, mul_3, mul_4, mul_6, mul_61, nI_add, nI_1, nle_0, nle_1, nle_2, nle_3, nle_4, nle_5, nle_6, nle_7, nle_60, nle_61, nlt_0, nlt_1, nlt_2, nlt_3, nlt_4, nlt_5, nlt_6, nlt_7, nlt_60, nlt_61, nge_0, nge_1, nge_2, nge_3, nge_4, nge_5, nge_6, nge_7, nge_60, nge_61, ngt_0, ngt_1, ngt_2, ngt_3, ngt_4, ngt_5, ngt_6, ngt_7, ngt_60, ngt_61, neq_0, neq_1, neq_2, neq_3, neq_4, neq_5, neq_6, neq_7, neq_60, neq_61, Nat.not_lt_zero, and_self, and_true, true_and, or_true, true_or, if_true, if_false, or_self, and_false, false_and, or_false, false_or, not_true_eq_false, not_false_eq_true, ne_eq, reduceCtorEq, eq_self, bind_s, c10, c01, c20, c30, c40, cl_0, inb_0, onI_l, onI_r, onV_l, onV_r, f_G_finish, b_G_finish_14, b_G_finish_49, b_G_finish_146, ↓bq (p_isC1 hc), ↓bq (p_isR1 hi), ↓rq er, ↓bq (p_isDecided h0 hc), e1, s45, ↓bq (p_serves h0 hi), sv, ↓bq has, v10, s4, ↓bq ea, hsa.lt, ↓bq ma]
    generalize hw : (if (1 : Int32) = 0 then (0 : Int64) else 1) = w
    have hs1 : SN b (s_l (s_i σa (8 + 5 * i) t (nI (n + 8))) 51 0 w) := hsa
    have hZ : ∀ a j, 27 ≤ a → a ≤ 50 → g_i (s_l (s_i σa (8 + 5 * i) t (nI (n + 8))) 51 0 w) a j = g_i σ a j := by
      intro a j ha hj
      rw [g_i_s_l, gi_n (by omega), fa _ _ (by omega)]
    have lf := l_fin h0 g (by rw [g_n_s_i, hsa.1, h0.1])
    rw [hw] at lf
    generalize hZe : s_l (s_i σa (8 + 5 * i) t (nI (n + 8))) 51 0 w = Z at *
    have zc : ∀ a k, (a ≠ 8 + 5 * i ∨ k ≠ t) → g_i Z a k = g_i σa a k := by
      intro a k q
      rw [← hZe, g_i_s_l, gi_n q]
    have zr : g_i Z (8 + 5 * i) t = nI (n + 8) := by
      rw [← hZe, g_i_s_l, gi_s ⟨rfl, rfl⟩]
    have zg : ∀ a k, g_r Z a k = g_r σ a k := by
      intro a k
      rw [← hZe, g_r_s_l, g_r_s_i, (hra a k).1]
    have zl : g_l Z 51 0 = w := by rw [← hZe, g510]
    have hY : SN b (if 0 ≤ g_i (s_i Z 27 0 0) 47 (61 * i + t) then s_i Z 27 0 0 else s_i (s_i Z 27 0 0) 47 (61 * i + t) 0) := by
      split
      · exact hs1
      · exact hs1
    have y47 : g_i (if 0 ≤ g_i (s_i Z 27 0 0) 47 (61 * i + t) then s_i Z 27 0 0 else s_i (s_i Z 27 0 0) 47 (61 * i + t) 0) 47 (61 * i + t) = nI (n % 4) := by
      rw [← n2, gi_n (by omega), hZ _ _ (by omega) (by omega)]
      split
      · rw [gi_n (by omega), hZ _ _ (by omega) (by omega)]
      · rw [gi_s ⟨rfl, rfl⟩, m0]
    have yc : ∀ a k, (a ≠ 27 ∨ k ≠ 0) ∧ (a ≠ 47 ∨ k ≠ 61 * i + t) → g_i (if 0 ≤ g_i (s_i Z 27 0 0) 47 (61 * i + t) then s_i Z 27 0 0 else s_i (s_i Z 27 0 0) 47 (61 * i + t) 0) a k = g_i Z a k := by
      intro a k q
      split
      · rw [gi_n q.1]
      · rw [gi_n q.2, gi_n q.1]
    have y27 : g_i (if 0 ≤ g_i (s_i Z 27 0 0) 47 (61 * i + t) then s_i Z 27 0 0 else s_i (s_i Z 27 0 0) 47 (61 * i + t) 0) 27 0 = 0 := by
      split
      · rw [g270]
      · rw [gi_n (by omega), g270]
    have yg : ∀ a k, g_r (if 0 ≤ g_i (s_i Z 27 0 0) 47 (61 * i + t) then s_i Z 27 0 0 else s_i (s_i Z 27 0 0) 47 (61 * i + t) 0) a k = g_r Z a k ∧ g_l (if 0 ≤ g_i (s_i Z 27 0 0) 47 (61 * i + t) then s_i Z 27 0 0 else s_i (s_i Z 27 0 0) 47 (61 * i + t) 0) a k = g_l Z a k := by
      intro a k
      split
      · exact ⟨rfl, rfl⟩
      · exact ⟨rfl, rfl⟩
    have mf := mb Z hs1 hZ
    rw [if_pos ad, if_pos s4, fn_142 (by exact hs1) hc hi (by omega), if_pos (by rw [gi_n (by omega), hZ _ _ (by omega) (by omega)]; exact s4)] at mf
    generalize (if 0 ≤ g_i (s_i Z 27 0 0) 47 (61 * i + t) then s_i Z 27 0 0 else s_i (s_i Z 27 0 0) 47 (61 * i + t) 0) = Y at *
    have ym : ∀ a k, 28 ≤ a → a ≤ 46 → g_i Y a k = g_i σ a k := by
      intro a k h1 h2
      rw [yc _ _ (by omega), hZ _ _ (by omega) (by omega)]
    obtain ⟨τ, eτ, sτ, rτ, Fτ, vτ, Vτ⟩ := p_apply hY hi (t := t) (by omega) (q4.lw.cg (fun a x h1 h2 => ym a x (by omega) (by omega))) (q3.lr.cg (fun a x h1 h2 => ym a x (by omega) (by omega)))
    rw [bq eτ] at mf
    have cl : ∀ k, k < 6 → g_i τ (5 + 5 * i) k = (if (W t).testBit k = true ∧ g_i σ (5 + 5 * i) k < g_i σ 28 t then g_i σ 28 t else g_i σ (5 + 5 * i) k) ∧ g_i τ (6 + 5 * i) k = (if (W t).testBit k = true ∧ g_i σ (5 + 5 * i) k < g_i σ 28 t then g_i σ (51 + 4 * t) k else g_i σ (6 + 5 * i) k) ∧ g_i τ (7 + 5 * i) k = (if (M t).testBit k = true then mx (g_i σ (7 + 5 * i) k) (g_i σ 28 t) else g_i σ (7 + 5 * i) k) := by
      intro k hk
      rw [Fτ _ _ (by omega), Fτ _ _ (by omega), Fτ _ _ (by omega), yc _ _ (by omega), yc _ _ (by omega), yc _ _ (by omega), zc _ _ (by omega), zc _ _ (by omega), zc _ _ (by omega), hva, hva, hva, if_pos hk, if_pos hk, if_pos hk]
      rw [tU_5, tU_6, tU_7, q2]
      exact ⟨rfl, rfl, rfl⟩
    have hR : R b M W τ := by
      refine r_fin h hc hi ht1 ht2 s45 et sτ (fun a k => ?_) (fun a k q => ?_) (fun k hk => ?_) (fun k hk => ?_) (fun k hk => ?_) (fun _ k hk => ?_) ?_
      · rw [(rτ a k).1, (yg a k).1, zg]
      · by_cases k6 : 6 ≤ k
        · rw [Fτ _ _ (by omega), yc _ _ (by omega), zc _ _ (by omega), hva, if_neg (by omega)]
        · rw [Fτ _ _ (by omega), yc _ _ (by omega), zc _ _ (by omega), fa _ _ (by omega)]
      · obtain ⟨c1, c2, c3⟩ := cl k hk
        obtain ⟨w1, w2, w3⟩ := Vτ k hk
        obtain ⟨u1, u2, u3⟩ := h.r3 i hi k hk
        rw [c1, c2, c3, w1, w2, w3, ym _ _ (by omega) (by omega), ym _ _ (by omega) (by omega), ym _ _ (by omega) (by omega), ym _ _ (by omega) (by omega), u1, u2, u3]
        exact ⟨rfl, rfl, rfl⟩
      · obtain ⟨c1, c2, c3⟩ := cl k hk
        rw [c1, c2]
        by_cases z : (W t).testBit k = true ∧ g_i σ (5 + 5 * i) k < g_i σ 28 t
        · rw [if_pos z, if_pos z]
          exact Or.inr ⟨z.2, rfl, rfl⟩
        · rw [if_neg z, if_neg z]
          exact Or.inl ⟨rfl, rfl⟩
      · rw [(cl k hk).2.2]
        split
        · exact mx_l _ _
        · exact Int32.le_refl _
      · obtain ⟨c1, c2, c3⟩ := cl k hk
        rw [c1, c3]
        refine ⟨fun z => ?_, fun z => ?_⟩
        · by_cases z2 : g_i σ (5 + 5 * i) k < g_i σ 28 t
          · rw [if_pos ⟨z, z2⟩]; exact Int32.le_refl _
          · rw [if_neg (fun y => z2 y.2)]; exact Int32.not_lt.mp z2
        · rw [if_pos z]; exact mx_r _ _
      · rw [Fτ _ _ (by omega), yc _ _ (by omega), zr, Fτ 47 _ (by omega), y47, Fτ 48 _ (by omega), yc 48 _ (by omega), hZ _ _ (by omega) (by omega), n3, vτ, Fτ 50 _ (by omega), yc 50 _ (by omega), hZ _ _ (by omega) (by omega), ad.2]
        refine Or.inr ⟨n + 8, by omega, rfl, ?_, ?_, ?_, ?_⟩
        · congr 1; omega
        · congr 1; omega
        · have : (n + 8) / 8 % 2 = 1 := by omega
          rw [this]; rfl
        · have : (n + 8) / 16 % 2 = 0 := by omega
          rw [this]; rfl
    refine ⟨0, Z, 1, τ, b, M, W, lf, by rw [hs1.1]; omega, mf, ?_, fun _ => ?_, hR⟩
    · rw [Fτ _ _ (by omega), y27]
    · rw [(rτ 51 0).2, (yg 51 0).2, zl]
      exact hw.symm
  · have s5 : g_i σ 36 c = 5 := s45.resolve_left s4
    obtain ⟨n, hn, n1, n2, n3⟩ := Q.made 2 (by omega)
    have ma := p_mark h0 hi (t := t) (by omega) 16 2
    have m0 : (2 : Int32) = nI 2 := rfl
    rw [m0, n1, rec_o16 n (by omega)] at ma
    have n8 : n % 16 + 16 = n + 16 := by omega
    rw [n8, ← m0, ← q1] at ma
    have g : f_G_finish σ 0 (nI c) (nI i) = some (.inl (some (.int 1)), s_i σ (8 + 5 * i) t (nI (n + 16))) := by
      have c54 : ((5 : Int32) = 4) = False := by decide
      simp (disch := omega) only [↓reduceIte, ↓wi_e, ↓wn_e, ↓rc_i, ↓rc_l, ↓h0.q0, ↓h0.q1, ↓h0.q2, ↓h0.qr, ↓h0.qc, ↓h0.qr2, ↓h0.qr3, ↓h0.qr4, ↓h0.qr5, ↓h0.qc5, ↓h0.qt, ↓h0.qt4, ↓h0.qt5, ↓h0.qt6, ↓h0.qm2, ↓h0.qm3, ↓h0.qm4, ↓h0.qm5, ↓h0.qm6, ↓h0.qm7, ↓h0.qm8, ↓h0.qm9, ↓h0.qm10, ↓h0.qm11, ↓h0.qm12, ↓h0.qm13, ↓h0.qm14, ↓h0.qm15, ↓h0.qm16, ↓h0.qm17, ↓h0.qm18, ↓h0.qm19, ↓h0.qm20, ↓h0.qm21, ↓h0.qm22, ↓h0.qm23, ↓h0.qm24, h0.lt, kd_0, kd_1, kd_2, kd_3, kd_r, kd_ra, kd_rb, kd_rc, kd_rd, ln_ra, ln_rb, ln_rc, ln_rd, kd_c, kd_ca, ln_ca, kd_t, kd_ta, kd_tb, kd_tc, ln_ta, ln_tb, ln_tc, ln_1, ln_2, ln_3, ln_51, kd_27, kd_28, kd_29, kd_30, kd_31, kd_32, kd_33, kd_34, kd_35, kd_36, kd_37, kd_38, kd_39, kd_40, kd_41, kd_42, kd_43, kd_44, kd_45, kd_46, kd_47, kd_48, kd_49, kd_50, kd_51, ln_28, ln_29, ln_30, ln_31, ln_32, ln_33, ln_34, ln_35, ln_36, ln_37, ln_38, ln_39, ln_40, ln_41, ln_42, ln_43, ln_44, ln_45, ln_46, ln_47, ln_48, ln_49, ln_50, inb_n, cl_n, g_n_s_i, g_n_s_l, mul_3, mul_4, mul_6, mul_61, nI_add, nI_1, nle_0, nle_1, nle_2, nle_3, nle_4, nle_5, nle_6, nle_7, nle_60, nle_61, nlt_0, nlt_1, nlt_2, nlt_3, nlt_4, nlt_5, nlt_6, nlt_7, nlt_60, nlt_61, nge_0, nge_1, nge_2, nge_3, nge_4, nge_5, nge_6, nge_7, nge_60, nge_61, ngt_0, ngt_1, ngt_2, ngt_3, ngt_4, ngt_5, ngt_6, ngt_7, ngt_60, ngt_61, neq_0, neq_1, neq_2, neq_3, neq_4, neq_5, neq_6, neq_7, neq_60, neq_61, Nat.not_lt_zero, and_self, and_true, true_and, or_true, true_or, if_true, if_false, or_self, and_false, false_and, or_false, false_or, not_true_eq_false, not_false_eq_true, ne_eq, reduceCtorEq, eq_self, bind_s, c10, c01, c20, c30, c40, cl_0, inb_0, onI_l, onI_r, onV_l, onV_r, f_G_finish, b_G_finish_14, b_G_finish_49, b_G_finish_146, ↓bq (p_isC1 hc), ↓bq (p_isR1 hi), ↓rq er, ↓bq (p_isDecided h0 hc), e1, s5, c54, ↓bq (p_serves h0 hi), sv, ↓bq has, v10, ↓bq ma]
    generalize hw : (if (1 : Int32) = 0 then (0 : Int64) else 1) = w
    have hs1 : SN b (s_l (s_i σ (8 + 5 * i) t (nI (n + 16))) 51 0 w) := h0
    have hZ : ∀ a j, 27 ≤ a → a ≤ 50 → g_i (s_l (s_i σ (8 + 5 * i) t (nI (n + 16))) 51 0 w) a j = g_i σ a j := by
      intro a j ha hj
      rw [g_i_s_l, gi_n (by omega)]
    have lf := l_fin h0 g rfl
    rw [hw] at lf
    have mf := mb (s_l (s_i σ (8 + 5 * i) t (nI (n + 16))) 51 0 w) hs1 hZ
    rw [if_pos ad, if_neg s4, fn_142 (by exact hs1) hc hi (by omega), if_neg (by rw [gi_n (by omega), hZ _ _ (by omega) (by omega)]; exact s4)] at mf
    have hZ47 : g_i (s_i (s_l (s_i σ (8 + 5 * i) t (nI (n + 16))) 51 0 w) 27 0 0) 47 (61 * i + t) = g_i σ 47 (61 * i + t) := by
      rw [gi_n (by omega), hZ _ _ (by omega) (by omega)]
    have e47 : (if 0 ≤ g_i (s_i (s_l (s_i σ (8 + 5 * i) t (nI (n + 16))) 51 0 w) 27 0 0) 47 (61 * i + t) then s_i (s_l (s_i σ (8 + 5 * i) t (nI (n + 16))) 51 0 w) 27 0 0 else s_i (s_i (s_l (s_i σ (8 + 5 * i) t (nI (n + 16))) 51 0 w) 27 0 0) 47 (61 * i + t) 2) = s_i (s_i (s_l (s_i σ (8 + 5 * i) t (nI (n + 16))) 51 0 w) 27 0 0) 47 (61 * i + t) (nI (n % 4)) := by
      rw [← n2]
      by_cases z : 0 ≤ g_i σ 47 (61 * i + t)
      · rw [if_pos (by rw [hZ47]; exact z), if_pos z, s_i_self hZ47]
      · rw [if_neg (by rw [hZ47]; exact z), if_neg z, m0]
    rw [e47] at mf
    have hR : R b M W (s_i (s_i (s_i (s_l (s_i σ (8 + 5 * i) t (nI (n + 16))) 51 0 w) 27 0 0) 47 (61 * i + t) (nI (n % 4))) 50 (61 * i + t) 1) := by
      refine r_fin h hc hi ht1 ht2 s45 et hs1 (fun a k => rfl) (fun a k q => ?_) (fun k hk => ?_) (fun k hk => Or.inl ?_) (fun k hk => ?_) (fun z k hk => ?_) ?_
      · simp (disch := omega) only [gi_n, gi_s, g_i_s_l]
      · have q := h.r3 i hi k hk
        revert q
        simp (disch := omega) only [gi_n, gi_s, g_i_s_l]
        exact id
      · simp (disch := omega) only [gi_n, gi_s, g_i_s_l]
        exact ⟨trivial, trivial⟩
      · simp (disch := omega) only [gi_n, gi_s, g_i_s_l]
        exact Int32.le_refl _
      · exfalso
        revert z
        simp (disch := omega) only [gi_n, gi_s, g_i_s_l]
        intro z
        exact z ad.1
      · simp (disch := omega) only [gi_n, gi_s, g_i_s_l]
        rw [n3, ad.1]
        refine Or.inr ⟨n + 16, by omega, rfl, ?_, ?_, ?_, ?_⟩
        · congr 1; omega
        · congr 1; omega
        · have : (n + 16) / 8 % 2 = 0 := by omega
          rw [this]; rfl
        · have : (n + 16) / 16 % 2 = 1 := by omega
          rw [this]; rfl
    refine ⟨0, s_l (s_i σ (8 + 5 * i) t (nI (n + 16))) 51 0 w, 1, _, b, M, W, lf, h.n27, mf, ?_, fun _ => ?_, hR⟩
    · simp (disch := omega) only [gi_n, gi_s, g_i_s_l]
    · rw [g_l_s_i, g_l_s_i, g_l_s_i, g510]
      exact hw.symm

