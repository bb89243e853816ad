/-! takeIn and mark of the class; apply and make of the reference. -/
def tka (w : Bool) (σ : Sg) (i t k : Nat) : Sg := if w = true ∧ g_i σ (5 + 5 * i) k < g_i σ (48 + 4 * t) 1 then s_i (s_i σ (5 + 5 * i) k (g_i σ (48 + 4 * t) 1)) (6 + 5 * i) k (g_i σ (51 + 4 * t) k) else σ
def tkb (m : Bool) (σ : Sg) (i t k : Nat) : Sg := if m = true then s_i σ (7 + 5 * i) k (mx (g_i σ (7 + 5 * i) k) (g_i σ (48 + 4 * t) 1)) else σ
theorem tka_s {b : Nat} {σ : Sg} (h : SN b σ) {w : Bool} {i t k : Nat} : SN b (tka w σ i t k) := by
  unfold tka
  split
  · exact h
  · exact h
theorem tkb_s {b : Nat} {σ : Sg} (h : SN b σ) {w : Bool} {i t k : Nat} : SN b (tkb w σ i t k) := by
  unfold tkb
  split
  · exact h
  · exact h
theorem tka_r {σ : Sg} {w : Bool} {i t k : Nat} (a j : Nat) : g_r (tka w σ i t k) a j = g_r σ a j ∧ g_l (tka w σ i t k) a j = g_l σ a j := by
  unfold tka
  split
  · exact ⟨rfl, rfl⟩
  · exact ⟨rfl, rfl⟩
theorem tkb_r {σ : Sg} {w : Bool} {i t k : Nat} (a j : Nat) : g_r (tkb w σ i t k) a j = g_r σ a j ∧ g_l (tkb w σ i t k) a j = g_l σ a j := by
  unfold tkb
  split
  · exact ⟨rfl, rfl⟩
  · exact ⟨rfl, rfl⟩
/-- what takeIn leaves in a cell -/
def tU (σ : Sg) (i t w m a j : Nat) : Int32 :=
  if a = 5 + 5 * i then (if w.testBit j = true ∧ g_i σ (5 + 5 * i) j < g_i σ (48 + 4 * t) 1 then g_i σ (48 + 4 * t) 1 else g_i σ (5 + 5 * i) j)
  else if a = 6 + 5 * i then (if w.testBit j = true ∧ g_i σ (5 + 5 * i) j < g_i σ (48 + 4 * t) 1 then g_i σ (51 + 4 * t) j else g_i σ (6 + 5 * i) j)
  else if a = 7 + 5 * i then (if m.testBit j = true then mx (g_i σ (7 + 5 * i) j) (g_i σ (48 + 4 * t) 1) else g_i σ (7 + 5 * i) j)
  else g_i σ a j
theorem tk_g {σ : Sg} {w m i t k : Nat} (hi : i < 3) (ht : 1 ≤ t) (a j : Nat) : g_i (tkb (m.testBit k) (tka (w.testBit k) σ i t k) i t k) a j = if j = k then tU σ i t w m a j else g_i σ a j := by
  unfold tkb tka tU
  have e1 : 5 + 5 * i ≠ 48 + 4 * t := by omega
  have e2 : 6 + 5 * i ≠ 48 + 4 * t := by omega
  have e3 : 7 + 5 * i ≠ 48 + 4 * t := by omega
  have e4 : 5 + 5 * i ≠ 51 + 4 * t := by omega
  have e5 : 6 + 5 * i ≠ 51 + 4 * t := by omega
  by_cases hj : j = k
  · subst hj
    rw [if_pos rfl]
    by_cases c1 : w.testBit j = true ∧ g_i σ (5 + 5 * i) j < g_i σ (48 + 4 * t) 1
    · simp only [if_pos c1]
      by_cases c2 : m.testBit j = true
      · simp only [if_pos c2]
        by_cases a1 : a = 5 + 5 * i
        · subst a1
          simp (disch := omega) only [gi_n, gi_s, if_true]
        · by_cases a2 : a = 6 + 5 * i
          · subst a2
            simp (disch := omega) only [gi_n, gi_s, if_true, if_neg a1]
          · by_cases a3 : a = 7 + 5 * i
            · subst a3
              simp (disch := omega) only [gi_n, gi_s, if_true, if_neg a1, if_neg a2]
            · simp (disch := omega) only [gi_n, gi_s, if_true, if_neg a1, if_neg a2, if_neg a3]
      · simp only [if_neg c2]
        by_cases a1 : a = 5 + 5 * i
        · subst a1
          simp (disch := omega) only [gi_n, gi_s, if_true]
        · by_cases a2 : a = 6 + 5 * i
          · subst a2
            simp (disch := omega) only [gi_n, gi_s, if_true, if_neg a1]
          · by_cases a3 : a = 7 + 5 * i
            · subst a3
              simp (disch := omega) only [gi_n, gi_s, if_true, if_neg a1, if_neg a2]
            · simp (disch := omega) only [gi_n, gi_s, if_true, if_neg a1, if_neg a2, if_neg a3]
    · simp only [if_neg c1]
      by_cases c2 : m.testBit j = true
      · simp only [if_pos c2]
        by_cases a3 : a = 7 + 5 * i
        · subst a3
          simp (disch := omega) only [gi_s, if_true]
          rw [if_neg (by omega), if_neg (by omega)]
        · rw [gi_n (by omega)]
          grind
      · simp only [if_neg c2]
        grind
  · rw [if_neg hj]
    by_cases c1 : w.testBit k = true ∧ g_i σ (5 + 5 * i) k < g_i σ (48 + 4 * t) 1
    · simp only [if_pos c1]
      by_cases c2 : m.testBit k = true
      · simp only [if_pos c2]
        simp (disch := omega) only [gi_n]
      · simp only [if_neg c2]
        simp (disch := omega) only [gi_n]
    · simp only [if_neg c1]
      by_cases c2 : m.testBit k = true
      · simp only [if_pos c2]
        simp (disch := omega) only [gi_n]
      · simp only [if_neg c2]
theorem st_tk {b : Nat} {σ : Sg} (h : SN b σ) {n i t k w m : Nat} (hi : i < 3) (ht1 : 1 ≤ t) (ht2 : t ≤ b) (hk : k < 6) (hw : w < 64) (hm : m < 64) (ew : g_i σ (48 + 4 * t) 3 = nI w) (em : g_i σ (48 + 4 * t) 2 = nI m) : b_R_takeIn_2 (n + 1) σ (4 + 5 * i) (48 + 4 * t) (nI k) = b_R_takeIn_2 n (tkb (m.testBit k) (tka (w.testBit k) σ i t k) i t k) (4 + 5 * i) (48 + 4 * t) (nI (k + 1)) := by
  have hb6 := h.b60
  have hn : ¬ 6 ≤ k := by omega
  have s51 : ∀ τ, SN b τ → g_i τ (48 + 4 * t) 2 = nI m → b_R_takeIn_51 (b_R_takeIn_2 n) τ (4 + 5 * i) (48 + 4 * t) (nI k) = b_R_takeIn_2 n (tkb (m.testBit k) τ i t k) (4 + 5 * i) (48 + 4 * t) (nI (k + 1)) := by
    intro τ hs em
    unfold tkb
    by_cases c2 : m.testBit k = true
    · simp only [if_pos c2]
      simp (disch := omega) only [↓reduceIte, ↓wi_e, ↓wn_e, ↓rc_i, ↓rc_l, ↓hs.q0, ↓hs.q1, ↓hs.q2, ↓hs.qr, ↓hs.qc, ↓hs.qr2, ↓hs.qr3, ↓hs.qr4, ↓hs.qr5, ↓hs.qc5, ↓hs.qt, ↓hs.qt4, ↓hs.qt5, ↓hs.qt6, ↓hs.qm2, ↓hs.qm3, ↓hs.qm4, ↓hs.qm5, ↓hs.qm6, ↓hs.qm7, ↓hs.qm8, ↓hs.qm9, ↓hs.qm10, ↓hs.qm11, ↓hs.qm12, ↓hs.qm13, ↓hs.qm14, ↓hs.qm15, ↓hs.qm16, ↓hs.qm17, ↓hs.qm18, ↓hs.qm19, ↓hs.qm20, ↓hs.qm21, ↓hs.qm22, ↓hs.qm23, ↓hs.qm24, hs.lt, kd_0, kd_1, kd_2, kd_3, kd_r, kd_ra, kd_rb, kd_rc, kd_rd, ln_ra, ln_rb, ln_rc, ln_rd, kd_c, kd_ca, ln_ca, kd_t, kd_ta, kd_tb, kd_tc, ln_ta, ln_tb, ln_tc, ln_1, ln_2, ln_3, ln_51, kd_27, kd_28, kd_29, kd_30, kd_31, kd_32, kd_33, kd_34, kd_35, kd_36, kd_37, kd_38, kd_39, kd_40, kd_41, kd_42, kd_43, kd_44, kd_45, kd_46, kd_47, kd_48, kd_49, kd_50, kd_51, ln_28, ln_29, ln_30, ln_31, ln_32, ln_33, ln_34, ln_35, ln_36, ln_37, ln_38, ln_39, ln_40, ln_41, ln_42, ln_43, ln_44, ln_45, ln_46, ln_47, ln_48, ln_49, ln_50, inb_n, cl_n, g_n_s_i, g_n_s_l, mul_3, mul_4, mul_6, mul_61, nI_add, nI_1, nle_0, nle_1, nle_2, nle_3, nle_4, nle_5, nle_6, nle_7, nle_60, nle_61, nlt_0, nlt_1, nlt_2, nlt_3, nlt_4, nlt_5, nlt_6, nlt_7, nlt_60, nlt_61, nge_0, nge_1, nge_2, nge_3, nge_4, nge_5, nge_6, nge_7, nge_60, nge_61, ngt_0, ngt_1, ngt_2, ngt_3, ngt_4, ngt_5, ngt_6, ngt_7, ngt_60, ngt_61, neq_0, neq_1, neq_2, neq_3, neq_4, neq_5, neq_6, neq_7, neq_60, neq_61, Nat.not_lt_zero, and_self, and_true, true_and, or_true, true_or, if_true, if_false, or_self, and_false, false_and, or_false, false_or, not_true_eq_false, not_false_eq_true, ne_eq, reduceCtorEq, eq_self, bind_s, c10, c01, c20, c30, c40, cl_0, inb_0, onI_l, onI_r, onV_l, onV_r, b_R_takeIn_51, b_R_takeIn_78, ↓bq (p_hasRead hs ht1 ht2 hk hm em), c2, ↓bq (p_max _ _)]
    · simp only [if_neg c2]
      simp (disch := omega) only [↓reduceIte, ↓wi_e, ↓wn_e, ↓rc_i, ↓rc_l, ↓hs.q0, ↓hs.q1, ↓hs.q2, ↓hs.qr, ↓hs.qc, ↓hs.qr2, ↓hs.qr3, ↓hs.qr4, ↓hs.qr5, ↓hs.qc5, ↓hs.qt, ↓hs.qt4, ↓hs.qt5, ↓hs.qt6, ↓hs.qm2, ↓hs.qm3, ↓hs.qm4, ↓hs.qm5, ↓hs.qm6, ↓hs.qm7, ↓hs.qm8, ↓hs.qm9, ↓hs.qm10, ↓hs.qm11, ↓hs.qm12, ↓hs.qm13, ↓hs.qm14, ↓hs.qm15, ↓hs.qm16, ↓hs.qm17, ↓hs.qm18, ↓hs.qm19, ↓hs.qm20, ↓hs.qm21, ↓hs.qm22, ↓hs.qm23, ↓hs.qm24, hs.lt, kd_0, kd_1, kd_2, kd_3, kd_r, kd_ra, kd_rb, kd_rc, kd_rd, ln_ra, ln_rb, ln_rc, ln_rd, kd_c, kd_ca, ln_ca, kd_t, kd_ta, kd_tb, kd_tc, ln_ta, ln_tb, ln_tc, ln_1, ln_2, ln_3, ln_51, kd_27, kd_28, kd_29, kd_30, kd_31, kd_32, kd_33, kd_34, kd_35, kd_36, kd_37, kd_38, kd_39, kd_40, kd_41, kd_42, kd_43, kd_44, kd_45, kd_46, kd_47, kd_48, kd_49, kd_50, kd_51, ln_28, ln_29, ln_30, ln_31, ln_32, ln_33, ln_34, ln_35, ln_36, ln_37, ln_38, ln_39, ln_40, ln_41, ln_42, ln_43, ln_44, ln_45, ln_46, ln_47, ln_48, ln_49, ln_50, inb_n, cl_n, g_n_s_i, g_n_s_l, mul_3, mul_4, mul_6, mul_61, nI_add, nI_1, nle_0, nle_1, nle_2, nle_3, nle_4, nle_5, nle_6, nle_7, nle_60, nle_61, nlt_0, nlt_1, nlt_2, nlt_3, nlt_4, nlt_5, nlt_6, nlt_7, nlt_60, nlt_61, nge_0, nge_1, nge_2, nge_3, nge_4, nge_5, nge_6, nge_7, nge_60, nge_61, ngt_0, ngt_1, ngt_2, ngt_3, ngt_4, ngt_5, ngt_6, ngt_7, ngt_60, ngt_61, neq_0, neq_1, neq_2, neq_3, neq_4, neq_5, neq_6, neq_7, neq_60, neq_61, Nat.not_lt_zero, and_self, and_true, true_and, or_true, true_or, if_true, if_false, or_self, and_false, false_and, or_false, false_or, not_true_eq_false, not_false_eq_true, ne_eq, reduceCtorEq, eq_self, bind_s, c10, c01, c20, c30, c40, cl_0, inb_0, onI_l, onI_r, onV_l, onV_r, b_R_takeIn_51, b_R_takeIn_78, ↓bq (p_hasRead hs ht1 ht2 hk hm em), c2]
  unfold tka
  by_cases c1 : w.testBit k = true
  · by_cases c3 : g_i σ (5 + 5 * i) k < g_i σ (48 + 4 * t) 1
    · simp only [if_pos (And.intro c1 c3)]
      have c3' : ¬ g_i σ (48 + 4 * t) 1 ≤ g_i σ (5 + 5 * i) k := by grind
      rw [← s51 _ (by exact h) (by rw [gi_n (by omega), gi_n (by omega)]; exact em)]
      simp (disch := omega) only [↓reduceIte, ↓wi_e, ↓wn_e, ↓rc_i, ↓rc_l, ↓h.q0, ↓h.q1, ↓h.q2, ↓h.qr, ↓h.qc, ↓h.qr2, ↓h.qr3, ↓h.qr4, ↓h.qr5, ↓h.qc5, ↓h.qt, ↓h.qt4, ↓h.qt5, ↓h.qt6, ↓h.qm2, ↓h.qm3, ↓h.qm4, ↓h.qm5, ↓h.qm6, ↓h.qm7, ↓h.qm8, ↓h.qm9, ↓h.qm10, ↓h.qm11, ↓h.qm12, ↓h.qm13, ↓h.qm14, ↓h.qm15, ↓h.qm16, ↓h.qm17, ↓h.qm18, ↓h.qm19, ↓h.qm20, ↓h.qm21, ↓h.qm22, ↓h.qm23, ↓h.qm24, h.lt, kd_0, kd_1, kd_2, kd_3, kd_r, kd_ra, kd_rb, kd_rc, kd_rd, ln_ra, ln_rb, ln_rc, ln_rd, kd_c, kd_ca, ln_ca, kd_t, kd_ta, kd_tb, kd_tc, ln_ta, ln_tb, ln_tc, ln_1, ln_2, ln_3, ln_51, kd_27, kd_28, kd_29, kd_30, kd_31, kd_32, kd_33, kd_34, kd_35, kd_36, kd_37, kd_38, kd_39, kd_40, kd_41, kd_42, kd_43, kd_44, kd_45, kd_46, kd_47, kd_48, kd_49, kd_50, kd_51, ln_28, ln_29, ln_30, ln_31, ln_32, ln_33, ln_34, ln_35, ln_36, ln_37, ln_38, ln_39, ln_40, ln_41, ln_42, ln_43, ln_44, ln_45, ln_46, ln_47, ln_48, ln_49, ln_50, inb_n, cl_n, g_n_s_i, g_n_s_l, mul_3, mul_4, mul_6, mul_61, nI_add, nI_1, nle_0, nle_1, nle_2, nle_3, nle_4, nle_5, nle_6, nle_7, nle_60, nle_61, nlt_0, nlt_1, nlt_2, nlt_3, nlt_4, nlt_5, nlt_6, nlt_7, nlt_60, nlt_61, nge_0, nge_1, nge_2, nge_3, nge_4, nge_5, nge_6, nge_7, nge_60, nge_61, ngt_0, ngt_1, ngt_2, ngt_3, ngt_4, ngt_5, ngt_6, ngt_7, ngt_60, ngt_61, neq_0, neq_1, neq_2, neq_3, neq_4, neq_5, neq_6, neq_7, neq_60, neq_61, Nat.not_lt_zero, and_self, and_true, true_and, or_true, true_or, if_true, if_false, or_self, and_false, false_and, or_false, false_or, not_true_eq_false, not_false_eq_true, ne_eq, reduceCtorEq, eq_self, bind_s, c10, c01, c20, c30, c40, cl_0, inb_0, onI_l, onI_r, onV_l, onV_r, b_R_takeIn_2, hn, ↓bq (p_hasWritten h ht1 ht2 hk hw ew), c1, c3', gi_n]
    · rw [if_neg (fun q => c3 q.2), ← s51 _ h em]
      have c3' : g_i σ (48 + 4 * t) 1 ≤ g_i σ (5 + 5 * i) k := by grind
      simp (disch := omega) only [↓reduceIte, ↓wi_e, ↓wn_e, ↓rc_i, ↓rc_l, ↓h.q0, ↓h.q1, ↓h.q2, ↓h.qr, ↓h.qc, ↓h.qr2, ↓h.qr3, ↓h.qr4, ↓h.qr5, ↓h.qc5, ↓h.qt, ↓h.qt4, ↓h.qt5, ↓h.qt6, ↓h.qm2, ↓h.qm3, ↓h.qm4, ↓h.qm5, ↓h.qm6, ↓h.qm7, ↓h.qm8, ↓h.qm9, ↓h.qm10, ↓h.qm11, ↓h.qm12, ↓h.qm13, ↓h.qm14, ↓h.qm15, ↓h.qm16, ↓h.qm17, ↓h.qm18, ↓h.qm19, ↓h.qm20, ↓h.qm21, ↓h.qm22, ↓h.qm23, ↓h.qm24, h.lt, kd_0, kd_1, kd_2, kd_3, kd_r, kd_ra, kd_rb, kd_rc, kd_rd, ln_ra, ln_rb, ln_rc, ln_rd, kd_c, kd_ca, ln_ca, kd_t, kd_ta, kd_tb, kd_tc, ln_ta, ln_tb, ln_tc, ln_1, ln_2, ln_3, ln_51, kd_27, kd_28, kd_29, kd_30, kd_31, kd_32, kd_33, kd_34, kd_35, kd_36, kd_37, kd_38, kd_39, kd_40, kd_41, kd_42, kd_43, kd_44, kd_45, kd_46, kd_47, kd_48, kd_49, kd_50, kd_51, ln_28, ln_29, ln_30, ln_31, ln_32, ln_33, ln_34, ln_35, ln_36, ln_37, ln_38, ln_39, ln_40, ln_41, ln_42, ln_43, ln_44, ln_45, ln_46, ln_47, ln_48, ln_49, ln_50, inb_n, cl_n, g_n_s_i, g_n_s_l, mul_3, mul_4, mul_6, mul_61, nI_add, nI_1, nle_0, nle_1, nle_2, nle_3, nle_4, nle_5, nle_6, nle_7, nle_60, nle_61, nlt_0, nlt_1, nlt_2, nlt_3, nlt_4, nlt_5, nlt_6, nlt_7, nlt_60, nlt_61, nge_0, nge_1, nge_2, nge_3, nge_4, nge_5, nge_6, nge_7, nge_60, nge_61, ngt_0, ngt_1, ngt_2, ngt_3, ngt_4, ngt_5, ngt_6, ngt_7, ngt_60, ngt_61, neq_0, neq_1, neq_2, neq_3, neq_4, neq_5, neq_6, neq_7, neq_60, neq_61, Nat.not_lt_zero, and_self, and_true, true_and, or_true, true_or, if_true, if_false, or_self, and_false, false_and, or_false, false_or, not_true_eq_false, not_false_eq_true, ne_eq, reduceCtorEq, eq_self, bind_s, c10, c01, c20, c30, c40, cl_0, inb_0, onI_l, onI_r, onV_l, onV_r, b_R_takeIn_2, hn, ↓bq (p_hasWritten h ht1 ht2 hk hw ew), c1, c3']
  · rw [if_neg (fun q => c1 q.1), ← s51 _ h em]
    simp (disch := omega) only [↓reduceIte, ↓wi_e, ↓wn_e, ↓rc_i, ↓rc_l, ↓h.q0, ↓h.q1, ↓h.q2, ↓h.qr, ↓h.qc, ↓h.qr2, ↓h.qr3, ↓h.qr4, ↓h.qr5, ↓h.qc5, ↓h.qt, ↓h.qt4, ↓h.qt5, ↓h.qt6, ↓h.qm2, ↓h.qm3, ↓h.qm4, ↓h.qm5, ↓h.qm6, ↓h.qm7, ↓h.qm8, ↓h.qm9, ↓h.qm10, ↓h.qm11, ↓h.qm12, ↓h.qm13, ↓h.qm14, ↓h.qm15, ↓h.qm16, ↓h.qm17, ↓h.qm18, ↓h.qm19, ↓h.qm20, ↓h.qm21, ↓h.qm22, ↓h.qm23, ↓h.qm24, h.lt, kd_0, kd_1, kd_2, kd_3, kd_r, kd_ra, kd_rb, kd_rc, kd_rd, ln_ra, ln_rb, ln_rc, ln_rd, kd_c, kd_ca, ln_ca, kd_t, kd_ta, kd_tb, kd_tc, ln_ta, ln_tb, ln_tc, ln_1, ln_2, ln_3, ln_51, kd_27, kd_28, kd_29, kd_30, kd_31, kd_32, kd_33, kd_34, kd_35, kd_36, kd_37, kd_38, kd_39, kd_40, kd_41, kd_42, kd_43, kd_44, kd_45, kd_46, kd_47, kd_48, kd_49, kd_50, kd_51, ln_28, ln_29, ln_30, ln_31, ln_32, ln_33, ln_34, ln_35, ln_36, ln_37, ln_38, ln_39, ln_40, ln_41, ln_42, ln_43, ln_44, ln_45, ln_46, ln_47, ln_48, ln_49, ln_50, inb_n, cl_n, g_n_s_i, g_n_s_l, mul_3, mul_4, mul_6, mul_61, nI_add, nI_1, nle_0, nle_1, nle_2, nle_3, nle_4, nle_5, nle_6, nle_7, nle_60, nle_61, nlt_0, nlt_1, nlt_2, nlt_3, nlt_4, nlt_5, nlt_6, nlt_7, nlt_60, nlt_61, nge_0, nge_1, nge_2, nge_3, nge_4, nge_5, nge_6, nge_7, nge_60, nge_61, ngt_0, ngt_1, ngt_2, ngt_3, ngt_4, ngt_5, ngt_6, ngt_7, ngt_60, ngt_61, neq_0, neq_1, neq_2, neq_3, neq_4, neq_5, neq_6, neq_7, neq_60, neq_61, Nat.not_lt_zero, and_self, and_true, true_and, or_true, true_or, if_true, if_false, or_self, and_false, false_and, or_false, false_or, not_true_eq_false, not_false_eq_true, ne_eq, reduceCtorEq, eq_self, bind_s, c10, c01, c20, c30, c40, cl_0, inb_0, onI_l, onI_r, onV_l, onV_r, b_R_takeIn_2, hn, ↓bq (p_hasWritten h ht1 ht2 hk hw ew), c1]
theorem lp_tk {b i t w m : Nat} (hi : i < 3) (ht1 : 1 ≤ t) (ht2 : t ≤ b) (hw : w < 64) (hm : m < 64) : ∀ d n k (σ : Sg), d + k = 6 → d < n → SN b σ → g_i σ (48 + 4 * t) 3 = nI w → g_i σ (48 + 4 * t) 2 = nI m → ∃ σ', b_R_takeIn_2 n σ (4 + 5 * i) (48 + 4 * t) (nI k) = some σ' ∧ SN b σ' ∧ (∀ a j, g_r σ' a j = g_r σ a j ∧ g_l σ' a j = g_l σ a j) ∧ ∀ a j, g_i σ' a j = if k ≤ j ∧ j < 6 then tU σ i t w m a j else g_i σ a j := by
  intro d
  induction d with
  | zero =>
    intro n k σ hk hn h ew em
    obtain ⟨n, rfl⟩ : ∃ q, n = q + 1 := ⟨n - 1, by omega⟩
    obtain rfl : k = 6 := by omega
    refine ⟨σ, ?_, h, fun _ _ => ⟨rfl, rfl⟩, fun a j => ?_⟩
    · simp only [b_R_takeIn_2]
      rw [if_pos (by decide)]
    · rw [if_neg (by omega)]
  | succ d ih =>
    intro n k σ hk hn h ew em
    obtain ⟨n, rfl⟩ : ∃ q, n = q + 1 := ⟨n - 1, by omega⟩
    have hg := tk_g (σ := σ) (w := w) (m := m) (i := i) (t := t) (k := k) hi ht1
    have n48 : ∀ j, tU σ i t w m (48 + 4 * t) j = g_i σ (48 + 4 * t) j := by
      intro j
      unfold tU
      rw [if_neg (by omega), if_neg (by omega), if_neg (by omega)]
    have n51 : ∀ j, tU σ i t w m (51 + 4 * t) j = g_i σ (51 + 4 * t) j := by
      intro j
      unfold tU
      rw [if_neg (by omega), if_neg (by omega), if_neg (by omega)]
    have k48 : ∀ j, g_i (tkb (m.testBit k) (tka (w.testBit k) σ i t k) i t k) (48 + 4 * t) j = g_i σ (48 + 4 * t) j := by
      intro j
      rw [hg, n48, ite_self]
    have k51 : ∀ j, g_i (tkb (m.testBit k) (tka (w.testBit k) σ i t k) i t k) (51 + 4 * t) j = g_i σ (51 + 4 * t) j := by
      intro j
      rw [hg, n51, ite_self]
    obtain ⟨σ', e, hs, hr, hv⟩ := ih n (k + 1) (tkb (m.testBit k) (tka (w.testBit k) σ i t k) i t k) (by omega) (by omega) (tkb_s (tka_s h)) (by rw [k48]; exact ew) (by rw [k48]; exact em)
    refine ⟨σ', ?_, hs, fun a j => ?_, fun a j => ?_⟩
    · rw [st_tk h hi ht1 ht2 (by omega) hw hm ew em]
      exact e
    · rw [(hr a j).1, (hr a j).2, (tkb_r a j).1, (tkb_r a j).2, (tka_r a j).1, (tka_r a j).2]
      exact ⟨rfl, rfl⟩
    · rw [hv a j]
      by_cases q : k + 1 ≤ j ∧ j < 6
      · rw [if_pos q, if_pos (by omega)]
        have same : ∀ a, g_i (tkb (m.testBit k) (tka (w.testBit k) σ i t k) i t k) a j = g_i σ a j := by
          intro a
          rw [hg, if_neg (by omega)]
        unfold tU
        simp only [same, k48, k51]
      · rw [if_neg q, hg]
        by_cases q2 : j = k
        · rw [if_pos q2, if_pos (by omega)]
        · rw [if_neg q2, if_neg (by omega)]
theorem p_takeIn {b : Nat} {σ : Sg} (h : SN b σ) {i t w m : Nat} (hi : i < 3) (ht1 : 1 ≤ t) (ht2 : t ≤ b) (hw : w < 64) (hm : m < 64) (ew : g_i σ (48 + 4 * t) 3 = nI w) (em : g_i σ (48 + 4 * t) 2 = nI m) : ∃ σ', f_R_takeIn σ (4 + 5 * i) (48 + 4 * t) = some σ' ∧ SN b σ' ∧ (∀ a j, g_r σ' a j = g_r σ a j ∧ g_l σ' a j = g_l σ a j) ∧ ∀ a j, g_i σ' a j = if j < 6 then tU σ i t w m a j else g_i σ a j := by
  obtain ⟨σ', e, h1, h2, h3⟩ := lp_tk (b := b) hi ht1 ht2 hw hm 6 1000 0 σ (by omega) (by omega) h ew em
  refine ⟨σ', e, h1, h2, fun a j => ?_⟩
  rw [h3 a j]
  by_cases q : j < 6
  · rw [if_pos q, if_pos ⟨by omega, q⟩]
  · rw [if_neg q, if_neg (fun z => q z.2)]
theorem p_mark {b : Nat} {σ : Sg} (h : SN b σ) {i t : Nat} (hi : i < 3) (ht : t < 61) (x y : Int32) : f_R_mark σ (4 + 5 * i) (nI t) x y = some (s_i σ (8 + 5 * i) t ((if g_i σ (8 + 5 * i) t = -1 then y else g_i σ (8 + 5 * i) t) ||| x)) := by
  simp (disch := omega) only [↓reduceIte, ↓wi_e, ↓wn_e, ↓rc_i, ↓rc_l, ↓h.q0, ↓h.q1, ↓h.q2, ↓h.qr, ↓h.qc, ↓h.qr2, ↓h.qr3, ↓h.qr4, ↓h.qr5, ↓h.qc5, ↓h.qt, ↓h.qt4, ↓h.qt5, ↓h.qt6, ↓h.qm2, ↓h.qm3, ↓h.qm4, ↓h.qm5, ↓h.qm6, ↓h.qm7, ↓h.qm8, ↓h.qm9, ↓h.qm10, ↓h.qm11, ↓h.qm12, ↓h.qm13, ↓h.qm14, ↓h.qm15, ↓h.qm16, ↓h.qm17, ↓h.qm18, ↓h.qm19, ↓h.qm20, ↓h.qm21, ↓h.qm22, ↓h.qm23, ↓h.qm24, h.lt, kd_0, kd_1, kd_2, kd_3, kd_r, kd_ra, kd_rb, kd_rc, kd_rd, ln_ra, ln_rb, ln_rc, ln_rd, kd_c, kd_ca, ln_ca, kd_t, kd_ta, kd_tb, kd_tc, ln_ta, ln_tb, ln_tc, ln_1, ln_2, ln_3, ln_51, kd_27, kd_28, kd_29, kd_30, kd_31, kd_32, kd_33, kd_34, kd_35, kd_36, kd_37, kd_38, kd_39, kd_40, kd_41, kd_42, kd_43, kd_44, kd_45, kd_46, kd_47, kd_48, kd_49, kd_50, kd_51, ln_28, ln_29, ln_30, ln_31, ln_32, ln_33, ln_34, ln_35, ln_36, ln_37, ln_38, ln_39, ln_40, ln_41, ln_42, ln_43, ln_44, ln_45, ln_46, ln_47, ln_48, ln_49, ln_50, inb_n, cl_n, g_n_s_i, g_n_s_l, mul_3, mul_4, mul_6, mul_61, nI_add, nI_1, nle_0, nle_1, nle_2, nle_3, nle_4, nle_5, nle_6, nle_7, nle_60, nle_61, nlt_0, nlt_1, nlt_2, nlt_3, nlt_4, nlt_5, nlt_6, nlt_7, nlt_60, nlt_61, nge_0, nge_1, nge_2, nge_3, nge_4, nge_5, nge_6, nge_7, nge_60, nge_61, ngt_0, ngt_1, ngt_2, ngt_3, ngt_4, ngt_5, ngt_6, ngt_7, ngt_60, ngt_61, neq_0, neq_1, neq_2, neq_3, neq_4, neq_5, neq_6, neq_7, neq_60, neq_61, Nat.not_lt_zero, and_self, and_true, true_and, or_true, true_or, if_true, if_false, or_self, and_false, false_and, or_false, false_or, not_true_eq_false, not_false_eq_true, ne_eq, reduceCtorEq, eq_self, bind_s, c10, c01, c20, c30, c40, cl_0, inb_0, onI_l, onI_r, onV_l, onV_r, f_R_mark, b_R_mark_18, ↓bq (p_knows h hi ht)]
  by_cases q : g_i σ (8 + 5 * i) t = -1
  · simp only [if_pos q, if_true]
  · simp only [if_neg q, c10, if_false]
theorem p_make {b : Nat} {σ : Sg} (h : SN b σ) {i t : Nat} (hi : i < 3) (ht : t < 61) (x : Int32) : f_M_make σ 27 (nI t) (nI i) x = some (if 0 ≤ g_i σ 47 (61 * i + t) then σ else s_i σ 47 (61 * i + t) x) := by
  simp (disch := omega) only [↓reduceIte, ↓wi_e, ↓wn_e, ↓rc_i, ↓rc_l, ↓h.q0, ↓h.q1, ↓h.q2, ↓h.qr, ↓h.qc, ↓h.qr2, ↓h.qr3, ↓h.qr4, ↓h.qr5, ↓h.qc5, ↓h.qt, ↓h.qt4, ↓h.qt5, ↓h.qt6, ↓h.qm2, ↓h.qm3, ↓h.qm4, ↓h.qm5, ↓h.qm6, ↓h.qm7, ↓h.qm8, ↓h.qm9, ↓h.qm10, ↓h.qm11, ↓h.qm12, ↓h.qm13, ↓h.qm14, ↓h.qm15, ↓h.qm16, ↓h.qm17, ↓h.qm18, ↓h.qm19, ↓h.qm20, ↓h.qm21, ↓h.qm22, ↓h.qm23, ↓h.qm24, h.lt, kd_0, kd_1, kd_2, kd_3, kd_r, kd_ra, kd_rb, kd_rc, kd_rd, ln_ra, ln_rb, ln_rc, ln_rd, kd_c, kd_ca, ln_ca, kd_t, kd_ta, kd_tb, kd_tc, ln_ta, ln_tb, ln_tc, ln_1, ln_2, ln_3, ln_51, kd_27, kd_28, kd_29, kd_30, kd_31, kd_32, kd_33, kd_34, kd_35, kd_36, kd_37, kd_38, kd_39, kd_40, kd_41, kd_42, kd_43, kd_44, kd_45, kd_46, kd_47, kd_48, kd_49, kd_50, kd_51, ln_28, ln_29, ln_30, ln_31, ln_32, ln_33, ln_34, ln_35, ln_36, ln_37, ln_38, ln_39, ln_40, ln_41, ln_42, ln_43, ln_44, ln_45, ln_46, ln_47, ln_48, ln_49, ln_50, inb_n, cl_n, g_n_s_i, g_n_s_l, mul_3, mul_4, mul_6, mul_61, nI_add, nI_1, nle_0, nle_1, nle_2, nle_3, nle_4, nle_5, nle_6, nle_7, nle_60, nle_61, nlt_0, nlt_1, nlt_2, nlt_3, nlt_4, nlt_5, nlt_6, nlt_7, nlt_60, nlt_61, nge_0, nge_1, nge_2, nge_3, nge_4, nge_5, nge_6, nge_7, nge_60, nge_61, ngt_0, ngt_1, ngt_2, ngt_3, ngt_4, ngt_5, ngt_6, ngt_7, ngt_60, ngt_61, neq_0, neq_1, neq_2, neq_3, neq_4, neq_5, neq_6, neq_7, neq_60, neq_61, Nat.not_lt_zero, and_self, and_true, true_and, or_true, true_or, if_true, if_false, or_self, and_false, false_and, or_false, false_or, not_true_eq_false, not_false_eq_true, ne_eq, reduceCtorEq, eq_self, bind_s, c10, c01, c20, c30, c40, cl_0, inb_0, onI_l, onI_r, onV_l, onV_r, f_M_make, b_M_make_26]
  split <;> rfl

