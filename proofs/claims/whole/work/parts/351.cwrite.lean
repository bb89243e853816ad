/-! change: what the class writes. -/
def up3 (f : Int32 → Int32) (t : Nat) (σ : Sg) (i : Nat) : Sg := if g_i σ (4 + 5 * i) 0 = 0 then σ else s_i σ (8 + 5 * i) t (f (g_i σ (8 + 5 * i) t))
def U3 (f : Int32 → Int32) (t : Nat) (σ : Sg) : Sg := up3 f t (up3 f t (up3 f t σ 0) 1) 2
theorem up3_s {b : Nat} {σ : Sg} (h : SN b σ) {f : Int32 → Int32} {t i : Nat} : SN b (up3 f t σ i) := by
  unfold up3
  split
  · exact h
  · exact h
theorem up3_r {f : Int32 → Int32} {t i : Nat} {σ : Sg} (a k : Nat) : g_r (up3 f t σ i) a k = g_r σ a k ∧ g_l (up3 f t σ i) a k = g_l σ a k := by
  unfold up3
  split
  · exact ⟨rfl, rfl⟩
  · exact ⟨rfl, rfl⟩
theorem up3_n {f : Int32 → Int32} {t i : Nat} {σ : Sg} {a k : Nat} (q : a ≠ 8 + 5 * i ∨ k ≠ t) : g_i (up3 f t σ i) a k = g_i σ a k := by
  unfold up3
  split
  · rfl
  · rw [gi_n q]
theorem up3_v {f : Int32 → Int32} {t i : Nat} {σ : Sg} : g_i (up3 f t σ i) (8 + 5 * i) t = if g_i σ (4 + 5 * i) 0 = 0 then g_i σ (8 + 5 * i) t else f (g_i σ (8 + 5 * i) t) := by
  unfold up3
  split
  · rfl
  · rw [gi_s ⟨rfl, rfl⟩]
theorem U3_s {b : Nat} {σ : Sg} (h : SN b σ) {f : Int32 → Int32} {t : Nat} : SN b (U3 f t σ) := up3_s (up3_s (up3_s h))
theorem U3_r {f : Int32 → Int32} {t : Nat} {σ : Sg} (a k : Nat) : g_r (U3 f t σ) a k = g_r σ a k ∧ g_l (U3 f t σ) a k = g_l σ a k := by
  unfold U3
  rw [(up3_r a k).1, (up3_r a k).2, (up3_r a k).1, (up3_r a k).2, (up3_r a k).1, (up3_r a k).2]
  exact ⟨rfl, rfl⟩
theorem U3_n {f : Int32 → Int32} {t : Nat} {σ : Sg} {a k : Nat} (q : (a ≠ 8 ∧ a ≠ 13 ∧ a ≠ 18) ∨ k ≠ t) : g_i (U3 f t σ) a k = g_i σ a k := by
  unfold U3
  rw [up3_n (by omega), up3_n (by omega), up3_n (by omega)]
theorem U3_v {f : Int32 → Int32} {t i : Nat} {σ : Sg} (hi : i < 3) : g_i (U3 f t σ) (8 + 5 * i) t = if g_i σ (4 + 5 * i) 0 = 0 then g_i σ (8 + 5 * i) t else f (g_i σ (8 + 5 * i) t) := by
  unfold U3
  obtain rfl | rfl | rfl : i = 0 ∨ i = 1 ∨ i = 2 := by omega
  · rw [up3_n (by omega), up3_n (by omega), up3_v]
  · rw [up3_n (by omega), up3_v, up3_n (by omega), up3_n (by omega)]
  · rw [up3_v, up3_n (by omega), up3_n (by omega), up3_n (by omega), up3_n (by omega)]
theorem st_ma {b : Nat} {σ : Sg} (h : SN b σ) {n i t : Nat} (hi : i < 3) (ht : t < 61) (x y : Int32) : b_G_markAtAllUp_3 (n + 1) σ 0 (nI t) x y (nI i) = b_G_markAtAllUp_3 n (up3 (fun r => (if r = -1 then y else r) ||| x) t σ i) 0 (nI t) x y (nI (i + 1)) := by
  have hn : ¬ 3 ≤ i := by omega
  unfold up3
  by_cases z : g_i σ (4 + 5 * i) 0 = 0
  · rw [if_pos z]
    simp (disch := omega) only [↓reduceIte, ↓wi_e, ↓wn_e, ↓rc_i, ↓rc_l, ↓h.q0, ↓h.q1, ↓h.q2, ↓h.qr, ↓h.qc, ↓h.qr2, ↓h.qr3, ↓h.qr4, ↓h.qr5, ↓h.qc5, ↓h.qt, ↓h.qt4, ↓h.qt5, ↓h.qt6, ↓h.qm2, ↓h.qm3, ↓h.qm4, ↓h.qm5, ↓h.qm6, ↓h.qm7, ↓h.qm8, ↓h.qm9, ↓h.qm10, ↓h.qm11, ↓h.qm12, ↓h.qm13, ↓h.qm14, ↓h.qm15, ↓h.qm16, ↓h.qm17, ↓h.qm18, ↓h.qm19, ↓h.qm20, ↓h.qm21, ↓h.qm22, ↓h.qm23, ↓h.qm24, h.lt, kd_0, kd_1, kd_2, kd_3, kd_r, kd_ra, kd_rb, kd_rc, kd_rd, ln_ra, ln_rb, ln_rc, ln_rd, kd_c, kd_ca, ln_ca, kd_t, kd_ta, kd_tb, kd_tc, ln_ta, ln_tb, ln_tc, ln_1, ln_2, ln_3, ln_51, kd_27, kd_28, kd_29, kd_30, kd_31, kd_32, kd_33, kd_34, kd_35, kd_36, kd_37, kd_38, kd_39, kd_40, kd_41, kd_42, kd_43, kd_44, kd_45, kd_46, kd_47, kd_48, kd_49, kd_50, kd_51, ln_28, ln_29, ln_30, ln_31, ln_32, ln_33, ln_34, ln_35, ln_36, ln_37, ln_38, ln_39, ln_40, ln_41, ln_42, ln_43, ln_44, ln_45, ln_46, ln_47, ln_48, ln_49, ln_50, inb_n, cl_n, g_n_s_i, g_n_s_l, mul_3, mul_4, mul_6, mul_61, nI_add, nI_1, nle_0, nle_1, nle_2, nle_3, nle_4, nle_5, nle_6, nle_7, nle_60, nle_61, nlt_0, nlt_1, nlt_2, nlt_3, nlt_4, nlt_5, nlt_6, nlt_7, nlt_60, nlt_61, nge_0, nge_1, nge_2, nge_3, nge_4, nge_5, nge_6, nge_7, nge_60, nge_61, ngt_0, ngt_1, ngt_2, ngt_3, ngt_4, ngt_5, ngt_6, ngt_7, ngt_60, ngt_61, neq_0, neq_1, neq_2, neq_3, neq_4, neq_5, neq_6, neq_7, neq_60, neq_61, Nat.not_lt_zero, and_self, and_true, true_and, or_true, true_or, if_true, if_false, or_self, and_false, false_and, or_false, false_or, not_true_eq_false, not_false_eq_true, ne_eq, reduceCtorEq, eq_self, bind_s, c10, c01, c20, c30, c40, cl_0, inb_0, onI_l, onI_r, onV_l, onV_r, b_G_markAtAllUp_3, b_G_markAtAllUp_35, hn, z]
  · rw [if_neg z]
    simp (disch := omega) only [↓reduceIte, ↓wi_e, ↓wn_e, ↓rc_i, ↓rc_l, ↓h.q0, ↓h.q1, ↓h.q2, ↓h.qr, ↓h.qc, ↓h.qr2, ↓h.qr3, ↓h.qr4, ↓h.qr5, ↓h.qc5, ↓h.qt, ↓h.qt4, ↓h.qt5, ↓h.qt6, ↓h.qm2, ↓h.qm3, ↓h.qm4, ↓h.qm5, ↓h.qm6, ↓h.qm7, ↓h.qm8, ↓h.qm9, ↓h.qm10, ↓h.qm11, ↓h.qm12, ↓h.qm13, ↓h.qm14, ↓h.qm15, ↓h.qm16, ↓h.qm17, ↓h.qm18, ↓h.qm19, ↓h.qm20, ↓h.qm21, ↓h.qm22, ↓h.qm23, ↓h.qm24, h.lt, kd_0, kd_1, kd_2, kd_3, kd_r, kd_ra, kd_rb, kd_rc, kd_rd, ln_ra, ln_rb, ln_rc, ln_rd, kd_c, kd_ca, ln_ca, kd_t, kd_ta, kd_tb, kd_tc, ln_ta, ln_tb, ln_tc, ln_1, ln_2, ln_3, ln_51, kd_27, kd_28, kd_29, kd_30, kd_31, kd_32, kd_33, kd_34, kd_35, kd_36, kd_37, kd_38, kd_39, kd_40, kd_41, kd_42, kd_43, kd_44, kd_45, kd_46, kd_47, kd_48, kd_49, kd_50, kd_51, ln_28, ln_29, ln_30, ln_31, ln_32, ln_33, ln_34, ln_35, ln_36, ln_37, ln_38, ln_39, ln_40, ln_41, ln_42, ln_43, ln_44, ln_45, ln_46, ln_47, ln_48, ln_49, ln_50, inb_n, cl_n, g_n_s_i, g_n_s_l, mul_3, mul_4, mul_6, mul_61, nI_add, nI_1, nle_0, nle_1, nle_2, nle_3, nle_4, nle_5, nle_6, nle_7, nle_60, nle_61, nlt_0, nlt_1, nlt_2, nlt_3, nlt_4, nlt_5, nlt_6, nlt_7, nlt_60, nlt_61, nge_0, nge_1, nge_2, nge_3, nge_4, nge_5, nge_6, nge_7, nge_60, nge_61, ngt_0, ngt_1, ngt_2, ngt_3, ngt_4, ngt_5, ngt_6, ngt_7, ngt_60, ngt_61, neq_0, neq_1, neq_2, neq_3, neq_4, neq_5, neq_6, neq_7, neq_60, neq_61, Nat.not_lt_zero, and_self, and_true, true_and, or_true, true_or, if_true, if_false, or_self, and_false, false_and, or_false, false_or, not_true_eq_false, not_false_eq_true, ne_eq, reduceCtorEq, eq_self, bind_s, c10, c01, c20, c30, c40, cl_0, inb_0, onI_l, onI_r, onV_l, onV_r, b_G_markAtAllUp_3, b_G_markAtAllUp_35, hn, z, ↓bq (p_mark h hi ht x y)]
theorem en_ma {σ : Sg} {n a : Nat} {x y z : Int32} : b_G_markAtAllUp_3 (n + 1) σ a x y z (nI (2 + 1)) = some σ := by
  simp only [b_G_markAtAllUp_3]
  rw [if_pos (by decide)]
theorem p_markAll {b : Nat} {σ : Sg} (h : SN b σ) {t : Nat} (ht : t < 61) (x y : Int32) : f_G_markAtAllUp σ 0 (nI t) x y = some (U3 (fun r => (if r = -1 then y else r) ||| x) t σ) := by
  show b_G_markAtAllUp_3 (999 + 1) σ 0 (nI t) x y (nI 0) = _
  rw [st_ma h (n := 998 + 1) (by omega) ht, st_ma (up3_s h) (n := 997 + 1) (by omega) ht, st_ma (up3_s (up3_s h)) (n := 996 + 1) (by omega) ht, en_ma]
  rfl
theorem st_m60 {b : Nat} {σ : Sg} (h : SN b σ) {n i t : Nat} (hi : i < 3) (ht : t < 61) (x : Int32) : b_G_mergeRecords_60 (n + 1) σ 0 (nI t) x (nI i) = b_G_mergeRecords_60 n (up3 (fun _ => x ||| 4) t σ i) 0 (nI t) x (nI (i + 1)) := by
  have hn : ¬ 3 ≤ i := by omega
  unfold up3
  by_cases z : g_i σ (4 + 5 * i) 0 = 0
  · rw [if_pos z]
    simp (disch := omega) only [↓reduceIte, ↓wi_e, ↓wn_e, ↓rc_i, ↓rc_l, ↓h.q0, ↓h.q1, ↓h.q2, ↓h.qr, ↓h.qc, ↓h.qr2, ↓h.qr3, ↓h.qr4, ↓h.qr5, ↓h.qc5, ↓h.qt, ↓h.qt4, ↓h.qt5, ↓h.qt6, ↓h.qm2, ↓h.qm3, ↓h.qm4, ↓h.qm5, ↓h.qm6, ↓h.qm7, ↓h.qm8, ↓h.qm9, ↓h.qm10, ↓h.qm11, ↓h.qm12, ↓h.qm13, ↓h.qm14, ↓h.qm15, ↓h.qm16, ↓h.qm17, ↓h.qm18, ↓h.qm19, ↓h.qm20, ↓h.qm21, ↓h.qm22, ↓h.qm23, ↓h.qm24, h.lt, kd_0, kd_1, kd_2, kd_3, kd_r, kd_ra, kd_rb, kd_rc, kd_rd, ln_ra, ln_rb, ln_rc, ln_rd, kd_c, kd_ca, ln_ca, kd_t, kd_ta, kd_tb, kd_tc, ln_ta, ln_tb, ln_tc, ln_1, ln_2, ln_3, ln_51, kd_27, kd_28, kd_29, kd_30, kd_31, kd_32, kd_33, kd_34, kd_35, kd_36, kd_37, kd_38, kd_39, kd_40, kd_41, kd_42, kd_43, kd_44, kd_45, kd_46, kd_47, kd_48, kd_49, kd_50, kd_51, ln_28, ln_29, ln_30, ln_31, ln_32, ln_33, ln_34, ln_35, ln_36, ln_37, ln_38, ln_39, ln_40, ln_41, ln_42, ln_43, ln_44, ln_45, ln_46, ln_47, ln_48, ln_49, ln_50, inb_n, cl_n, g_n_s_i, g_n_s_l, mul_3, mul_4, mul_6, mul_61, nI_add, nI_1, nle_0, nle_1, nle_2, nle_3, nle_4, nle_5, nle_6, nle_7, nle_60, nle_61, nlt_0, nlt_1, nlt_2, nlt_3, nlt_4, nlt_5, nlt_6, nlt_7, nlt_60, nlt_61, nge_0, nge_1, nge_2, nge_3, nge_4, nge_5, nge_6, nge_7, nge_60, nge_61, ngt_0, ngt_1, ngt_2, ngt_3, ngt_4, ngt_5, ngt_6, ngt_7, ngt_60, ngt_61, neq_0, neq_1, neq_2, neq_3, neq_4, neq_5, neq_6, neq_7, neq_60, neq_61, Nat.not_lt_zero, and_self, and_true, true_and, or_true, true_or, if_true, if_false, or_self, and_false, false_and, or_false, false_or, not_true_eq_false, not_false_eq_true, ne_eq, reduceCtorEq, eq_self, bind_s, c10, c01, c20, c30, c40, cl_0, inb_0, onI_l, onI_r, onV_l, onV_r, b_G_mergeRecords_60, b_G_mergeRecords_91, hn, z]
  · rw [if_neg z]
    simp (disch := omega) only [↓reduceIte, ↓wi_e, ↓wn_e, ↓rc_i, ↓rc_l, ↓h.q0, ↓h.q1, ↓h.q2, ↓h.qr, ↓h.qc, ↓h.qr2, ↓h.qr3, ↓h.qr4, ↓h.qr5, ↓h.qc5, ↓h.qt, ↓h.qt4, ↓h.qt5, ↓h.qt6, ↓h.qm2, ↓h.qm3, ↓h.qm4, ↓h.qm5, ↓h.qm6, ↓h.qm7, ↓h.qm8, ↓h.qm9, ↓h.qm10, ↓h.qm11, ↓h.qm12, ↓h.qm13, ↓h.qm14, ↓h.qm15, ↓h.qm16, ↓h.qm17, ↓h.qm18, ↓h.qm19, ↓h.qm20, ↓h.qm21, ↓h.qm22, ↓h.qm23, ↓h.qm24, h.lt, kd_0, kd_1, kd_2, kd_3, kd_r, kd_ra, kd_rb, kd_rc, kd_rd, ln_ra, ln_rb, ln_rc, ln_rd, kd_c, kd_ca, ln_ca, kd_t, kd_ta, kd_tb, kd_tc, ln_ta, ln_tb, ln_tc, ln_1, ln_2, ln_3, ln_51, kd_27, kd_28, kd_29, kd_30, kd_31, kd_32, kd_33, kd_34, kd_35, kd_36, kd_37, kd_38, kd_39, kd_40, kd_41, kd_42, kd_43, kd_44, kd_45, kd_46, kd_47, kd_48, kd_49, kd_50, kd_51, ln_28, ln_29, ln_30, ln_31, ln_32, ln_33, ln_34, ln_35, ln_36, ln_37, ln_38, ln_39, ln_40, ln_41, ln_42, ln_43, ln_44, ln_45, ln_46, ln_47, ln_48, ln_49, ln_50, inb_n, cl_n, g_n_s_i, g_n_s_l, mul_3, mul_4, mul_6, mul_61, nI_add, nI_1, nle_0, nle_1, nle_2, nle_3, nle_4, nle_5, nle_6, nle_7, nle_60, nle_61, nlt_0, nlt_1, nlt_2, nlt_3, nlt_4, nlt_5, nlt_6, nlt_7, nlt_60, nlt_61, nge_0, nge_1, nge_2, nge_3, nge_4, nge_5, nge_6, nge_7, nge_60, nge_61, ngt_0, ngt_1, ngt_2, ngt_3, ngt_4, ngt_5, ngt_6, ngt_7, ngt_60, ngt_61, neq_0, neq_1, neq_2, neq_3, neq_4, neq_5, neq_6, neq_7, neq_60, neq_61, Nat.not_lt_zero, and_self, and_true, true_and, or_true, true_or, if_true, if_false, or_self, and_false, false_and, or_false, false_or, not_true_eq_false, not_false_eq_true, ne_eq, reduceCtorEq, eq_self, bind_s, c10, c01, c20, c30, c40, cl_0, inb_0, onI_l, onI_r, onV_l, onV_r, b_G_mergeRecords_60, b_G_mergeRecords_91, hn, z, ↓bq (p_makeFinal h hi ht x)]
theorem en_m60 {σ : Sg} {n a : Nat} {x y : Int32} : b_G_mergeRecords_60 (n + 1) σ a x y (nI (2 + 1)) = some σ := by
  simp only [b_G_mergeRecords_60]
  rw [if_pos (by decide)]
  rfl
theorem p_m60 {b : Nat} {σ : Sg} (h : SN b σ) {t : Nat} (ht : t < 61) (x : Int32) : b_G_mergeRecords_60 1000 σ 0 (nI t) x 0 = some (U3 (fun _ => x ||| 4) t σ) := by
  show b_G_mergeRecords_60 (999 + 1) σ 0 (nI t) x (nI 0) = _
  rw [st_m60 h (n := 998 + 1) (by omega) ht, st_m60 (up3_s h) (n := 997 + 1) (by omega) ht, st_m60 (up3_s (up3_s h)) (n := 996 + 1) (by omega) ht, en_m60]
  rfl
theorem Qr.m8 {r s f a d : Int32} (q : Qr r s f a d) : Qr ((if r = -1 then 0 else r) ||| 8) (if 0 ≤ s then s else 0) f 1 d := by
  rcases q with ⟨z1, z2, z3, z4, z5⟩ | ⟨n, hn, z1, z2, z3, z4, z5⟩
  · rw [if_pos z1, z2, z3, z5]
    exact Or.inr ⟨8, by omega, by decide, by decide, by decide, by decide, by decide⟩
  · rw [z1, if_neg (by rw [n_m1 (by omega)]; exact id), z2, if_pos (nI_pos' (by omega)), z3, z5, rec_o8 n hn]
    refine Or.inr ⟨_, by omega, rfl, ?_, ?_, ?_, ?_⟩
    · congr 1; omega
    · congr 1; omega
    · have : (n % 8 + 8 + 16 * (n / 16)) / 8 % 2 = 1 := by omega
      rw [this]; rfl
    · congr 1; omega
theorem Qr.m16 {r s f a d : Int32} (q : Qr r s f a d) : Qr ((if r = -1 then 2 else r) ||| 16) (if 0 ≤ s then s else 2) f a 1 := by
  rcases q with ⟨z1, z2, z3, z4, z5⟩ | ⟨n, hn, z1, z2, z3, z4, z5⟩
  · rw [if_pos z1, z2, z3, z4]
    exact Or.inr ⟨18, by omega, by decide, by decide, by decide, by decide, by decide⟩
  · rw [z1, if_neg (by rw [n_m1 (by omega)]; exact id), z2, if_pos (nI_pos' (by omega)), z3, z4, rec_o16 n hn]
    refine Or.inr ⟨_, by omega, rfl, ?_, ?_, ?_, ?_⟩
    · congr 1; omega
    · congr 1; omega
    · congr 1; omega
    · have : (n % 16 + 16) / 16 % 2 = 1 := by omega
      rw [this]; rfl
theorem Qr.mf {q : Nat} (hq : q < 4) : Qr (nI q ||| 4) (nI q) 1 0 0 := by
  rw [rec_o4 q hq]
  refine Or.inr ⟨q + 4, by omega, rfl, ?_, ?_, ?_, ?_⟩
  · congr 1; omega
  · have : (q + 4) / 4 % 2 = 1 := by omega
    rw [this]; rfl
  · have : (q + 4) / 8 % 2 = 0 := by omega
    rw [this]; rfl
  · have : (q + 4) / 16 % 2 = 0 := by omega
    rw [this]; rfl
theorem Qr.sf {r s f a d : Int32} (q : Qr r s f a d) (hf : f ≠ 0) : ∃ q, q < 4 ∧ s = nI q := by
  rcases q with ⟨z1, z2, z3, z4, z5⟩ | ⟨n, hn, z1, z2, z3, z4, z5⟩
  · exact absurd z3 hf
  · exact ⟨n % 4, by omega, z2⟩
theorem reF_r (u s : Nat → Int32) : ∃ q, q < 4 ∧ reF u s = nI q := by
  unfold reF
  split
  · split
    · split
      · split
        · exact ⟨0, by omega, rfl⟩
        · exact ⟨2, by omega, rfl⟩
      · exact ⟨3, by omega, rfl⟩
    · exact ⟨2, by omega, rfl⟩
  · exact ⟨1, by omega, rfl⟩
theorem mrF_r {σ : Sg} {t : Nat} {u v s f a d : Nat → Int32} (H : HC σ t u v s f a d) (nv : Int32) : ∃ q, q < 4 ∧ mrF u v s f nv = nI q := by
  unfold mrF
  split
  · rename_i z
    exact (H 0 (by omega)).2.2.sf z.2.2
  · split
    · rename_i z
      exact (H 1 (by omega)).2.2.sf z.2.2
    · split
      · rename_i z
        exact (H 2 (by omega)).2.2.sf z.2.2
      · exact reF_r u s
theorem p_mergeRec {b : Nat} {σ : Sg} (h : SN b σ) {t : Nat} (ht : t < 61) {u v s f a d : Nat → Int32} (H : HC σ t u v s f a d) (nv : Int32) : ∃ σ', f_G_mergeRecords σ 0 (nI t) nv = some σ' ∧ SN b σ' ∧ (∀ x k, g_r σ' x k = g_r σ x k ∧ g_l σ' x k = g_l σ x k) ∧ (∀ x k, (x ≠ 8 ∧ x ≠ 13 ∧ x ≠ 18) ∨ k ≠ t → g_i σ' x k = g_i σ x k) ∧ ∀ i, i < 3 → ∃ s' f' a' d', Oc u v s f a d nv i s' f' a' d' ∧ Qr (g_i σ' (8 + 5 * i) t) s' f' a' d' := by
  obtain ⟨w1, e1, a1, a2⟩ := p_someHas h ht H 8 (e := a) (fun i hi => (H i hi).2.2.h8)
  obtain ⟨w2, e2, b1, b2⟩ := p_someHas h ht H 16 (e := d) (fun i hi => (H i hi).2.2.h16)
  obtain ⟨w3, e3, c1, c2⟩ := p_someKnows h ht H
  have e4 := p_mr h ht H nv
  by_cases z1 : HA u a
  · have q := a1 z1
    subst q
    refine ⟨U3 (fun r => (if r = -1 then 0 else r) ||| 8) t σ, ?_, U3_s h, U3_r, fun x k q => U3_n q, fun i hi => ?_⟩
    · simp (disch := omega) only [↓reduceIte, ↓wi_e, ↓wn_e, ↓rc_i, ↓rc_l, ↓h.q0, ↓h.q1, ↓h.q2, ↓h.qr, ↓h.qc, ↓h.qr2, ↓h.qr3, ↓h.qr4, ↓h.qr5, ↓h.qc5, ↓h.qt, ↓h.qt4, ↓h.qt5, ↓h.qt6, ↓h.qm2, ↓h.qm3, ↓h.qm4, ↓h.qm5, ↓h.qm6, ↓h.qm7, ↓h.qm8, ↓h.qm9, ↓h.qm10, ↓h.qm11, ↓h.qm12, ↓h.qm13, ↓h.qm14, ↓h.qm15, ↓h.qm16, ↓h.qm17, ↓h.qm18, ↓h.qm19, ↓h.qm20, ↓h.qm21, ↓h.qm22, ↓h.qm23, ↓h.qm24, h.lt, kd_0, kd_1, kd_2, kd_3, kd_r, kd_ra, kd_rb, kd_rc, kd_rd, ln_ra, ln_rb, ln_rc, ln_rd, kd_c, kd_ca, ln_ca, kd_t, kd_ta, kd_tb, kd_tc, ln_ta, ln_tb, ln_tc, ln_1, ln_2, ln_3, ln_51, kd_27, kd_28, kd_29, kd_30, kd_31, kd_32, kd_33, kd_34, kd_35, kd_36, kd_37, kd_38, kd_39, kd_40, kd_41, kd_42, kd_43, kd_44, kd_45, kd_46, kd_47, kd_48, kd_49, kd_50, kd_51, ln_28, ln_29, ln_30, ln_31, ln_32, ln_33, ln_34, ln_35, ln_36, ln_37, ln_38, ln_39, ln_40, ln_41, ln_42, ln_43, ln_44, ln_45, ln_46, ln_47, ln_48, ln_49, ln_50, inb_n, cl_n, g_n_s_i, g_n_s_l, mul_3, mul_4, mul_6, mul_61, nI_add, nI_1, nle_0, nle_1, nle_2, nle_3, nle_4, nle_5, nle_6, nle_7, nle_60, nle_61, nlt_0, nlt_1, nlt_2, nlt_3, nlt_4, nlt_5, nlt_6, nlt_7, nlt_60, nlt_61, nge_0, nge_1, nge_2, nge_3, nge_4, nge_5, nge_6, nge_7, nge_60, nge_61, ngt_0, ngt_1, ngt_2, ngt_3, ngt_4, ngt_5, ngt_6, ngt_7, ngt_60, ngt_61, neq_0, neq_1, neq_2, neq_3, neq_4, neq_5, neq_6, neq_7, neq_60, neq_61, Nat.not_lt_zero, and_self, and_true, true_and, or_true, true_or, if_true, if_false, or_self, and_false, false_and, or_false, false_or, not_true_eq_false, not_false_eq_true, ne_eq, reduceCtorEq, eq_self, bind_s, c10, c01, c20, c30, c40, cl_0, inb_0, onI_l, onI_r, onV_l, onV_r, f_G_mergeRecords, ↓bq e1, ↓bq (p_markAll h ht 8 0), b_G_mergeRecords_97]
    · obtain ⟨h1, h2, h3⟩ := H i hi
      rw [U3_v hi, h1]
      by_cases y : u i = 0
      · rw [if_pos y]
        exact ⟨s i, f i, a i, d i, ⟨fun _ => ⟨rfl, rfl, rfl, rfl⟩, fun z => absurd y z, fun z => absurd y z, fun z => absurd y z, fun z => absurd y z⟩, h3⟩
      · rw [if_neg y]
        exact ⟨_, _, _, _, ⟨fun z => absurd z y, fun _ _ => ⟨rfl, rfl, rfl, rfl⟩, fun _ z => absurd z1 z, fun _ z => absurd z1 z, fun _ z => absurd z1 z⟩, h3.m8⟩
  have q := a2 z1
  subst q
  by_cases z2 : HA u d
  · have q := b1 z2
    subst q
    refine ⟨U3 (fun r => (if r = -1 then 2 else r) ||| 16) t σ, ?_, U3_s h, U3_r, fun x k q => U3_n q, fun i hi => ?_⟩
    · simp (disch := omega) only [↓reduceIte, ↓wi_e, ↓wn_e, ↓rc_i, ↓rc_l, ↓h.q0, ↓h.q1, ↓h.q2, ↓h.qr, ↓h.qc, ↓h.qr2, ↓h.qr3, ↓h.qr4, ↓h.qr5, ↓h.qc5, ↓h.qt, ↓h.qt4, ↓h.qt5, ↓h.qt6, ↓h.qm2, ↓h.qm3, ↓h.qm4, ↓h.qm5, ↓h.qm6, ↓h.qm7, ↓h.qm8, ↓h.qm9, ↓h.qm10, ↓h.qm11, ↓h.qm12, ↓h.qm13, ↓h.qm14, ↓h.qm15, ↓h.qm16, ↓h.qm17, ↓h.qm18, ↓h.qm19, ↓h.qm20, ↓h.qm21, ↓h.qm22, ↓h.qm23, ↓h.qm24, h.lt, kd_0, kd_1, kd_2, kd_3, kd_r, kd_ra, kd_rb, kd_rc, kd_rd, ln_ra, ln_rb, ln_rc, ln_rd, kd_c, kd_ca, ln_ca, kd_t, kd_ta, kd_tb, kd_tc, ln_ta, ln_tb, ln_tc, ln_1, ln_2, ln_3, ln_51, kd_27, kd_28, kd_29, kd_30, kd_31, kd_32, kd_33, kd_34, kd_35, kd_36, kd_37, kd_38, kd_39, kd_40, kd_41, kd_42, kd_43, kd_44, kd_45, kd_46, kd_47, kd_48, kd_49, kd_50, kd_51, ln_28, ln_29, ln_30, ln_31, ln_32, ln_33, ln_34, ln_35, ln_36, ln_37, ln_38, ln_39, ln_40, ln_41, ln_42, ln_43, ln_44, ln_45, ln_46, ln_47, ln_48, ln_49, ln_50, inb_n, cl_n, g_n_s_i, g_n_s_l, mul_3, mul_4, mul_6, mul_61, nI_add, nI_1, nle_0, nle_1, nle_2, nle_3, nle_4, nle_5, nle_6, nle_7, nle_60, nle_61, nlt_0, nlt_1, nlt_2, nlt_3, nlt_4, nlt_5, nlt_6, nlt_7, nlt_60, nlt_61, nge_0, nge_1, nge_2, nge_3, nge_4, nge_5, nge_6, nge_7, nge_60, nge_61, ngt_0, ngt_1, ngt_2, ngt_3, ngt_4, ngt_5, ngt_6, ngt_7, ngt_60, ngt_61, neq_0, neq_1, neq_2, neq_3, neq_4, neq_5, neq_6, neq_7, neq_60, neq_61, Nat.not_lt_zero, and_self, and_true, true_and, or_true, true_or, if_true, if_false, or_self, and_false, false_and, or_false, false_or, not_true_eq_false, not_false_eq_true, ne_eq, reduceCtorEq, eq_self, bind_s, c10, c01, c20, c30, c40, cl_0, inb_0, onI_l, onI_r, onV_l, onV_r, f_G_mergeRecords, ↓bq e1, ↓bq e2, ↓bq (p_markAll h ht 16 2), b_G_mergeRecords_97]
    · obtain ⟨h1, h2, h3⟩ := H i hi
      rw [U3_v hi, h1]
      by_cases y : u i = 0
      · rw [if_pos y]
        exact ⟨s i, f i, a i, d i, ⟨fun _ => ⟨rfl, rfl, rfl, rfl⟩, fun z => absurd y z, fun z => absurd y z, fun z => absurd y z, fun z => absurd y z⟩, h3⟩
      · rw [if_neg y]
        exact ⟨_, _, _, _, ⟨fun z => absurd z y, fun _ z => absurd z z1, fun _ _ _ => ⟨rfl, rfl, rfl, rfl⟩, fun _ _ z => absurd z2 z, fun _ _ z => absurd z2 z⟩, h3.m16⟩
  have q := b2 z2
  subst q
  by_cases z3 : KN u s
  · have q := c1 z3
    subst q
    obtain ⟨q, hq, eq⟩ := mrF_r H nv
    refine ⟨U3 (fun _ => mrF u v s f nv ||| 4) t σ, ?_, U3_s h, U3_r, fun x k q => U3_n q, fun i hi => ?_⟩
    · simp (disch := omega) only [↓reduceIte, ↓wi_e, ↓wn_e, ↓rc_i, ↓rc_l, ↓h.q0, ↓h.q1, ↓h.q2, ↓h.qr, ↓h.qc, ↓h.qr2, ↓h.qr3, ↓h.qr4, ↓h.qr5, ↓h.qc5, ↓h.qt, ↓h.qt4, ↓h.qt5, ↓h.qt6, ↓h.qm2, ↓h.qm3, ↓h.qm4, ↓h.qm5, ↓h.qm6, ↓h.qm7, ↓h.qm8, ↓h.qm9, ↓h.qm10, ↓h.qm11, ↓h.qm12, ↓h.qm13, ↓h.qm14, ↓h.qm15, ↓h.qm16, ↓h.qm17, ↓h.qm18, ↓h.qm19, ↓h.qm20, ↓h.qm21, ↓h.qm22, ↓h.qm23, ↓h.qm24, h.lt, kd_0, kd_1, kd_2, kd_3, kd_r, kd_ra, kd_rb, kd_rc, kd_rd, ln_ra, ln_rb, ln_rc, ln_rd, kd_c, kd_ca, ln_ca, kd_t, kd_ta, kd_tb, kd_tc, ln_ta, ln_tb, ln_tc, ln_1, ln_2, ln_3, ln_51, kd_27, kd_28, kd_29, kd_30, kd_31, kd_32, kd_33, kd_34, kd_35, kd_36, kd_37, kd_38, kd_39, kd_40, kd_41, kd_42, kd_43, kd_44, kd_45, kd_46, kd_47, kd_48, kd_49, kd_50, kd_51, ln_28, ln_29, ln_30, ln_31, ln_32, ln_33, ln_34, ln_35, ln_36, ln_37, ln_38, ln_39, ln_40, ln_41, ln_42, ln_43, ln_44, ln_45, ln_46, ln_47, ln_48, ln_49, ln_50, inb_n, cl_n, g_n_s_i, g_n_s_l, mul_3, mul_4, mul_6, mul_61, nI_add, nI_1, nle_0, nle_1, nle_2, nle_3, nle_4, nle_5, nle_6, nle_7, nle_60, nle_61, nlt_0, nlt_1, nlt_2, nlt_3, nlt_4, nlt_5, nlt_6, nlt_7, nlt_60, nlt_61, nge_0, nge_1, nge_2, nge_3, nge_4, nge_5, nge_6, nge_7, nge_60, nge_61, ngt_0, ngt_1, ngt_2, ngt_3, ngt_4, ngt_5, ngt_6, ngt_7, ngt_60, ngt_61, neq_0, neq_1, neq_2, neq_3, neq_4, neq_5, neq_6, neq_7, neq_60, neq_61, Nat.not_lt_zero, and_self, and_true, true_and, or_true, true_or, if_true, if_false, or_self, and_false, false_and, or_false, false_or, not_true_eq_false, not_false_eq_true, ne_eq, reduceCtorEq, eq_self, bind_s, c10, c01, c20, c30, c40, cl_0, inb_0, onI_l, onI_r, onV_l, onV_r, f_G_mergeRecords, ↓bq e1, ↓bq e2, ↓bq e3, ↓bq e4]
      exact p_m60 h ht _
    · obtain ⟨h1, h2, h3⟩ := H i hi
      rw [U3_v hi, h1]
      by_cases y : u i = 0
      · rw [if_pos y]
        exact ⟨s i, f i, a i, d i, ⟨fun _ => ⟨rfl, rfl, rfl, rfl⟩, fun z => absurd y z, fun z => absurd y z, fun z => absurd y z, fun z => absurd y z⟩, h3⟩
      · rw [if_neg y]
        have ya : a i = 0 := Classical.byContradiction (fun z => z1 ⟨i, by omega, hi, y, z⟩)
        have yd : d i = 0 := Classical.byContradiction (fun z => z2 ⟨i, by omega, hi, y, z⟩)
        refine ⟨mrF u v s f nv, 1, 0, 0, ⟨fun z => absurd z y, fun _ z => absurd z z1, fun _ _ z => absurd z z2, fun _ _ _ _ => ⟨rfl, rfl, ya.symm, yd.symm⟩, fun _ _ _ z => absurd z3 z⟩, ?_⟩
        rw [eq]
        exact Qr.mf hq
  have q := c2 z3
  subst q
  refine ⟨σ, ?_, h, fun _ _ => ⟨rfl, rfl⟩, fun _ _ _ => rfl, fun i hi => ?_⟩
  · simp (disch := omega) only [↓reduceIte, ↓wi_e, ↓wn_e, ↓rc_i, ↓rc_l, ↓h.q0, ↓h.q1, ↓h.q2, ↓h.qr, ↓h.qc, ↓h.qr2, ↓h.qr3, ↓h.qr4, ↓h.qr5, ↓h.qc5, ↓h.qt, ↓h.qt4, ↓h.qt5, ↓h.qt6, ↓h.qm2, ↓h.qm3, ↓h.qm4, ↓h.qm5, ↓h.qm6, ↓h.qm7, ↓h.qm8, ↓h.qm9, ↓h.qm10, ↓h.qm11, ↓h.qm12, ↓h.qm13, ↓h.qm14, ↓h.qm15, ↓h.qm16, ↓h.qm17, ↓h.qm18, ↓h.qm19, ↓h.qm20, ↓h.qm21, ↓h.qm22, ↓h.qm23, ↓h.qm24, h.lt, kd_0, kd_1, kd_2, kd_3, kd_r, kd_ra, kd_rb, kd_rc, kd_rd, ln_ra, ln_rb, ln_rc, ln_rd, kd_c, kd_ca, ln_ca, kd_t, kd_ta, kd_tb, kd_tc, ln_ta, ln_tb, ln_tc, ln_1, ln_2, ln_3, ln_51, kd_27, kd_28, kd_29, kd_30, kd_31, kd_32, kd_33, kd_34, kd_35, kd_36, kd_37, kd_38, kd_39, kd_40, kd_41, kd_42, kd_43, kd_44, kd_45, kd_46, kd_47, kd_48, kd_49, kd_50, kd_51, ln_28, ln_29, ln_30, ln_31, ln_32, ln_33, ln_34, ln_35, ln_36, ln_37, ln_38, ln_39, ln_40, ln_41, ln_42, ln_43, ln_44, ln_45, ln_46, ln_47, ln_48, ln_49, ln_50, inb_n, cl_n, g_n_s_i, g_n_s_l, mul_3, mul_4, mul_6, mul_61, nI_add, nI_1, nle_0, nle_1, nle_2, nle_3, nle_4, nle_5, nle_6, nle_7, nle_60, nle_61, nlt_0, nlt_1, nlt_2, nlt_3, nlt_4, nlt_5, nlt_6, nlt_7, nlt_60, nlt_61, nge_0, nge_1, nge_2, nge_3, nge_4, nge_5, nge_6, nge_7, nge_60, nge_61, ngt_0, ngt_1, ngt_2, ngt_3, ngt_4, ngt_5, ngt_6, ngt_7, ngt_60, ngt_61, neq_0, neq_1, neq_2, neq_3, neq_4, neq_5, neq_6, neq_7, neq_60, neq_61, Nat.not_lt_zero, and_self, and_true, true_and, or_true, true_or, if_true, if_false, or_self, and_false, false_and, or_false, false_or, not_true_eq_false, not_false_eq_true, ne_eq, reduceCtorEq, eq_self, bind_s, c10, c01, c20, c30, c40, cl_0, inb_0, onI_l, onI_r, onV_l, onV_r, f_G_mergeRecords, ↓bq e1, ↓bq e2, ↓bq e3, b_G_mergeRecords_97]
  · exact ⟨s i, f i, a i, d i, ⟨fun _ => ⟨rfl, rfl, rfl, rfl⟩, fun _ z => absurd z z1, fun _ _ z => absurd z z2, fun _ _ _ z => absurd z z3, fun _ _ _ _ => ⟨rfl, rfl, rfl, rfl⟩⟩, (H i hi).2.2⟩
/-- the loop over all numbers -/
theorem lp_mrec {b : Nat} {u v : Nat → Int32} {S F A D : Nat → Nat → Int32} (nv nx : Int32) (hb : b ≤ 60) : ∀ e n t (σ : Sg), e + t = b + 1 → e < n → 1 ≤ t → SN b σ → g_i σ 0 3 = nI b → (∀ i, i < 3 → g_i σ (4 + 5 * i) 0 = u i ∧ g_i σ (4 + 5 * i) 1 = v i) → (∀ i, i < 3 → ∀ q, t ≤ q → q ≤ b → Qr (g_i σ (8 + 5 * i) q) (S q i) (F q i) (A q i) (D q i)) →
    ∃ σ', b_G_change_32 n σ 0 nx nv (nI t) = b_G_change_54 1000 σ' 0 nx 0 ∧ SN b σ' ∧ (∀ x k, g_r σ' x k = g_r σ x k ∧ g_l σ' x k = g_l σ x k) ∧ (∀ x k, (x ≠ 8 ∧ x ≠ 13 ∧ x ≠ 18) ∨ k < t ∨ b < k → g_i σ' x k = g_i σ x k) ∧ ∀ i, i < 3 → ∀ q, t ≤ q → q ≤ b → ∃ s' f' a' d', Oc u v (S q) (F q) (A q) (D q) nv i s' f' a' d' ∧ Qr (g_i σ' (8 + 5 * i) q) s' f' a' d' := by
  intro e
  induction e with
  | zero =>
    intro n t σ he hn ht h hb3 hu hQ
    obtain ⟨n, rfl⟩ : ∃ q, n = q + 1 := ⟨n - 1, by omega⟩
    obtain rfl : t = b + 1 := by omega
    have l1 : b < b + 1 := by omega
    refine ⟨σ, ?_, h, fun _ _ => ⟨rfl, rfl⟩, fun _ _ _ => rfl, fun i hi q h1 h2 => absurd h2 (by omega)⟩
    simp (disch := omega) only [↓reduceIte, ↓wi_e, ↓wn_e, ↓rc_i, ↓rc_l, ↓h.q0, ↓h.q1, ↓h.q2, ↓h.qr, ↓h.qc, ↓h.qr2, ↓h.qr3, ↓h.qr4, ↓h.qr5, ↓h.qc5, ↓h.qt, ↓h.qt4, ↓h.qt5, ↓h.qt6, ↓h.qm2, ↓h.qm3, ↓h.qm4, ↓h.qm5, ↓h.qm6, ↓h.qm7, ↓h.qm8, ↓h.qm9, ↓h.qm10, ↓h.qm11, ↓h.qm12, ↓h.qm13, ↓h.qm14, ↓h.qm15, ↓h.qm16, ↓h.qm17, ↓h.qm18, ↓h.qm19, ↓h.qm20, ↓h.qm21, ↓h.qm22, ↓h.qm23, ↓h.qm24, h.lt, kd_0, kd_1, kd_2, kd_3, kd_r, kd_ra, kd_rb, kd_rc, kd_rd, ln_ra, ln_rb, ln_rc, ln_rd, kd_c, kd_ca, ln_ca, kd_t, kd_ta, kd_tb, kd_tc, ln_ta, ln_tb, ln_tc, ln_1, ln_2, ln_3, ln_51, kd_27, kd_28, kd_29, kd_30, kd_31, kd_32, kd_33, kd_34, kd_35, kd_36, kd_37, kd_38, kd_39, kd_40, kd_41, kd_42, kd_43, kd_44, kd_45, kd_46, kd_47, kd_48, kd_49, kd_50, kd_51, ln_28, ln_29, ln_30, ln_31, ln_32, ln_33, ln_34, ln_35, ln_36, ln_37, ln_38, ln_39, ln_40, ln_41, ln_42, ln_43, ln_44, ln_45, ln_46, ln_47, ln_48, ln_49, ln_50, inb_n, cl_n, g_n_s_i, g_n_s_l, mul_3, mul_4, mul_6, mul_61, nI_add, nI_1, nle_0, nle_1, nle_2, nle_3, nle_4, nle_5, nle_6, nle_7, nle_60, nle_61, nlt_0, nlt_1, nlt_2, nlt_3, nlt_4, nlt_5, nlt_6, nlt_7, nlt_60, nlt_61, nge_0, nge_1, nge_2, nge_3, nge_4, nge_5, nge_6, nge_7, nge_60, nge_61, ngt_0, ngt_1, ngt_2, ngt_3, ngt_4, ngt_5, ngt_6, ngt_7, ngt_60, ngt_61, neq_0, neq_1, neq_2, neq_3, neq_4, neq_5, neq_6, neq_7, neq_60, neq_61, Nat.not_lt_zero, and_self, and_true, true_and, or_true, true_or, if_true, if_false, or_self, and_false, false_and, or_false, false_or, not_true_eq_false, not_false_eq_true, ne_eq, reduceCtorEq, eq_self, bind_s, c10, c01, c20, c30, c40, cl_0, inb_0, onI_l, onI_r, onV_l, onV_r, b_G_change_32, hb3, nlt, l1]
  | succ e ih =>
    intro n t σ he hn ht h hb3 hu hQ
    obtain ⟨n, rfl⟩ : ∃ q, n = q + 1 := ⟨n - 1, by omega⟩
    have hl : ¬ b < t := by omega
    obtain ⟨σ1, e1, s1, r1, F1, V1⟩ := p_mergeRec h (t := t) (by omega) (u := u) (v := v) (s := S t) (f := F t) (a := A t) (d := D t) (fun i hi => ⟨(hu i hi).1, (hu i hi).2, hQ i hi t (by omega) (by omega)⟩) nv
    obtain ⟨σ2, e2, s2, r2, F2, V2⟩ := ih n (t + 1) σ1 (by omega) (by omega) (by omega) s1 (by rw [F1 _ _ (by omega)]; exact hb3) (by
      intro i hi
      rw [F1 _ _ (by omega), F1 _ _ (by omega)]
      exact hu i hi) (by
      intro i hi q h1 h2
      rw [F1 _ _ (by omega)]
      exact hQ i hi q (by omega) h2)
    refine ⟨σ2, ?_, s2, fun x k => ?_, fun x k q => ?_, fun i hi q h1 h2 => ?_⟩
    · rw [← e2]
      simp (disch := omega) only [↓reduceIte, ↓wi_e, ↓wn_e, ↓rc_i, ↓rc_l, ↓h.q0, ↓h.q1, ↓h.q2, ↓h.qr, ↓h.qc, ↓h.qr2, ↓h.qr3, ↓h.qr4, ↓h.qr5, ↓h.qc5, ↓h.qt, ↓h.qt4, ↓h.qt5, ↓h.qt6, ↓h.qm2, ↓h.qm3, ↓h.qm4, ↓h.qm5, ↓h.qm6, ↓h.qm7, ↓h.qm8, ↓h.qm9, ↓h.qm10, ↓h.qm11, ↓h.qm12, ↓h.qm13, ↓h.qm14, ↓h.qm15, ↓h.qm16, ↓h.qm17, ↓h.qm18, ↓h.qm19, ↓h.qm20, ↓h.qm21, ↓h.qm22, ↓h.qm23, ↓h.qm24, h.lt, kd_0, kd_1, kd_2, kd_3, kd_r, kd_ra, kd_rb, kd_rc, kd_rd, ln_ra, ln_rb, ln_rc, ln_rd, kd_c, kd_ca, ln_ca, kd_t, kd_ta, kd_tb, kd_tc, ln_ta, ln_tb, ln_tc, ln_1, ln_2, ln_3, ln_51, kd_27, kd_28, kd_29, kd_30, kd_31, kd_32, kd_33, kd_34, kd_35, kd_36, kd_37, kd_38, kd_39, kd_40, kd_41, kd_42, kd_43, kd_44, kd_45, kd_46, kd_47, kd_48, kd_49, kd_50, kd_51, ln_28, ln_29, ln_30, ln_31, ln_32, ln_33, ln_34, ln_35, ln_36, ln_37, ln_38, ln_39, ln_40, ln_41, ln_42, ln_43, ln_44, ln_45, ln_46, ln_47, ln_48, ln_49, ln_50, inb_n, cl_n, g_n_s_i, g_n_s_l, mul_3, mul_4, mul_6, mul_61, nI_add, nI_1, nle_0, nle_1, nle_2, nle_3, nle_4, nle_5, nle_6, nle_7, nle_60, nle_61, nlt_0, nlt_1, nlt_2, nlt_3, nlt_4, nlt_5, nlt_6, nlt_7, nlt_60, nlt_61, nge_0, nge_1, nge_2, nge_3, nge_4, nge_5, nge_6, nge_7, nge_60, nge_61, ngt_0, ngt_1, ngt_2, ngt_3, ngt_4, ngt_5, ngt_6, ngt_7, ngt_60, ngt_61, neq_0, neq_1, neq_2, neq_3, neq_4, neq_5, neq_6, neq_7, neq_60, neq_61, Nat.not_lt_zero, and_self, and_true, true_and, or_true, true_or, if_true, if_false, or_self, and_false, false_and, or_false, false_or, not_true_eq_false, not_false_eq_true, ne_eq, reduceCtorEq, eq_self, bind_s, c10, c01, c20, c30, c40, cl_0, inb_0, onI_l, onI_r, onV_l, onV_r, b_G_change_32, hb3, nlt, hl, ↓bq e1]
    · rw [(r2 x k).1, (r2 x k).2]
      exact r1 x k
    · rw [F2 x k (by omega), F1 x k (by omega)]
    · by_cases z : q = t
      · subst z
        rw [F2 _ _ (by omega)]
        exact V1 i hi
      · exact V2 i hi q (by omega) h2

