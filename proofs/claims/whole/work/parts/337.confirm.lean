/-! confirm. -/
theorem r_rec {b : Nat} {M W : Nat → Nat} {σ : Sg} (h : R b M W σ) {c i t : Nat} (hc : c < 4) (hi : i < 3) (ht1 : 1 ≤ t) (ht2 : t ≤ b) (ne0 : g_i σ 36 c ≠ 0) {τ : Sg} (hs : SN b τ) (hF : ∀ a k, (a ≠ 8 + 5 * i ∨ k ≠ t) ∧ (a ≠ 19 + 2 * c ∨ k ≠ 4) ∧ (a ≠ 20 + 2 * c ∨ k ≠ i) ∧ (a ≠ 27 ∨ k ≠ 0) ∧ ((a ≠ 40 ∧ a ≠ 41) ∨ k ≠ 3 * c + i) ∧ ((a ≠ 47 ∧ a ≠ 48) ∨ k ≠ 61 * i + t) → g_i τ a k = g_i σ a k) (hr : ∀ a k, g_r τ a k = g_r σ a k)
    (hQ : Qr (g_i τ (8 + 5 * i) t) (g_i τ 47 (61 * i + t)) (g_i τ 48 (61 * i + t)) (g_i σ 49 (61 * i + t)) (g_i σ 50 (61 * i + t)))
    (h10 : (∀ r, r < 3 → g_i τ (20 + 2 * c) r = g_i τ 40 (3 * c + r) ∧ Ra (g_i τ (20 + 2 * c) r)) ∧ ∃ m, m < 8 ∧ g_i τ (19 + 2 * c) 4 = nI m ∧ ∀ r, r < 3 → g_i τ 41 (3 * c + r) = if m.testBit r = true then 1 else 0) : R b M W τ := by
  have hb6 := h.r0.b60
  refine ⟨hs, by unfold Z1; simp (disch := omega) only [hF]; exact h.r1, ?_, ?_, ?_, ?_, ?_, ⟨?_, ?_⟩, ?_, ?_, ?_, ?_, ?_, ?_, ?_, ?_, ?_, ⟨?_, ?_, ?_⟩⟩
  · intro i hi; have q := h.r2 i hi; revert q; simp (disch := omega) only [hF]; exact id
  · intro i hi k hk; have q := h.r3 i hi k hk; revert q; simp (disch := omega) only [hF]; exact id
  · intro i hi k hk; have q := h.r4 i hi k hk; revert q; simp (disch := omega) only [hF]; exact id
  · intro i hi j hj k hk; have q := h.r5 i hi j hj k hk; revert q; simp (disch := omega) only [hF]; exact id
  · intro j hj u hu
    by_cases e : j = i ∧ u = t
    · obtain ⟨rfl, rfl⟩ := e
      rw [hF 49 _ (by omega), hF 50 _ (by omega)]
      exact hQ
    · have q := h.r6 j hj u hu
      have : 61 * j + u ≠ 61 * i + t := by omega
      revert q; simp (disch := omega) only [hF]; exact id
  · intro i hi u hu hbu; have q := h.r7.1 i hi u hu hbu; revert q; simp (disch := omega) only [hF]; exact id
  · intro u hbu hu; have q := h.r7.2 u hbu hu; revert q; simp (disch := omega) only [hF]; exact id
  · intro d hd; have q := h.r8 d hd; revert q; simp (disch := omega) only [hF]; exact id
  · intro d hd; have q := h.r9 d hd; rw [hr]; revert q; simp (disch := omega) only [hF]; exact id
  · intro d hd
    have q := h.r10 d hd
    by_cases e : d = c
    · subst e
      intro _
      exact h10
    · intro z
      have z' : g_i σ 36 d ≠ 0 := by revert z; simp (disch := omega) only [hF]; exact id
      obtain ⟨q1, m, hm, q2, q3⟩ := q z'
      refine ⟨fun r hr => ?_, m, hm, ?_, fun r hr => ?_⟩
      · have := q1 r hr; revert this; simp (disch := omega) only [hF]; exact id
      · revert q2; simp (disch := omega) only [hF]; exact id
      · have := q3 r hr; revert this; simp (disch := omega) only [hF]; exact id
  · intro u hu1 hu2
    obtain ⟨q1, q2, q3, q4⟩ := h.r11 u hu1 hu2
    refine ⟨by simp (disch := omega) only [hF]; exact q1, by simp (disch := omega) only [hF]; exact q2, ?_, ?_⟩
    · exact q3.cg (by simp (disch := omega) only [hF]) (by simp (disch := omega) only [hF]) (fun j hj => ⟨by simp (disch := omega) only [hF], by simp (disch := omega) only [hF], by simp (disch := omega) only [hF]⟩) (fun k' hk' => ⟨by simp (disch := omega) only [hF], by simp (disch := omega) only [hF]⟩)
    · exact q4.cg (by simp (disch := omega) only [hF]) (by simp (disch := omega) only [hF]) (fun j hj => ⟨by simp (disch := omega) only [hF], by simp (disch := omega) only [hF]⟩) (fun k' hk' => by simp (disch := omega) only [hF])
  · intro d hd d2 hd2 hne; have q := h.r12 d hd d2 hd2 hne; revert q; simp (disch := omega) only [hF]; exact id
  · intro d hd u hu; have q := h.r13 d hd u hu; revert q; simp (disch := omega) only [hF]; exact id
  · intro i hi u hu1 hu2 k hk; have q := h.r14 i hi u hu1 hu2 k hk; revert q; simp (disch := omega) only [hF]; exact id
  · intro u hu1 hu2 i hi k hk; have q := h.r15 u hu1 hu2 i hi k hk; revert q; simp (disch := omega) only [hF]; exact id
  · intro u hu1 hu2 u' hu1' hu2' hne; have q := h.r16 u hu1 hu2 u' hu1' hu2' hne; revert q; simp (disch := omega) only [hF]; exact id
  · intro d hd; have q := h.r17.1 d hd; revert q; simp (disch := omega) only [hF]; exact id
  · intro u hu1 hu2; have q := h.r17.2.1 u hu1 hu2; revert q; simp only [Bd]; simp (disch := omega) only [hF]; exact id
  · intro i hi k hk; have q := h.r17.2.2 i hi k hk; revert q; simp only [Bd]; simp (disch := omega) only [hF]; exact id
theorem p_settle {b : Nat} {σ : Sg} (h : SN b σ) {c : Nat} (hc : c < 4) (x : Int32) : f_C_settle σ (19 + 2 * c) x = some (s_i σ (19 + 2 * c) 1 (if x = 0 then 4 else 5)) := by
  simp (disch := omega) only [↓reduceIte, ↓wi_e, ↓wn_e, ↓rc_i, ↓rc_l, ↓h.q0, ↓h.q1, ↓h.q2, ↓h.qr, ↓h.qc, ↓h.qr2, ↓h.qr3, ↓h.qr4, ↓h.qr5, ↓h.qc5, ↓h.qt, ↓h.qt4, ↓h.qt5, ↓h.qt6, ↓h.qm2, ↓h.qm3, ↓h.qm4, ↓h.qm5, ↓h.qm6, ↓h.qm7, ↓h.qm8, ↓h.qm9, ↓h.qm10, ↓h.qm11, ↓h.qm12, ↓h.qm13, ↓h.qm14, ↓h.qm15, ↓h.qm16, ↓h.qm17, ↓h.qm18, ↓h.qm19, ↓h.qm20, ↓h.qm21, ↓h.qm22, ↓h.qm23, ↓h.qm24, h.lt, kd_0, kd_1, kd_2, kd_3, kd_r, kd_ra, kd_rb, kd_rc, kd_rd, ln_ra, ln_rb, ln_rc, ln_rd, kd_c, kd_ca, ln_ca, kd_t, kd_ta, kd_tb, kd_tc, ln_ta, ln_tb, ln_tc, ln_1, ln_2, ln_3, ln_51, kd_27, kd_28, kd_29, kd_30, kd_31, kd_32, kd_33, kd_34, kd_35, kd_36, kd_37, kd_38, kd_39, kd_40, kd_41, kd_42, kd_43, kd_44, kd_45, kd_46, kd_47, kd_48, kd_49, kd_50, kd_51, ln_28, ln_29, ln_30, ln_31, ln_32, ln_33, ln_34, ln_35, ln_36, ln_37, ln_38, ln_39, ln_40, ln_41, ln_42, ln_43, ln_44, ln_45, ln_46, ln_47, ln_48, ln_49, ln_50, inb_n, cl_n, g_n_s_i, g_n_s_l, mul_3, mul_4, mul_6, mul_61, nI_add, nI_1, nle_0, nle_1, nle_2, nle_3, nle_4, nle_5, nle_6, nle_7, nle_60, nle_61, nlt_0, nlt_1, nlt_2, nlt_3, nlt_4, nlt_5, nlt_6, nlt_7, nlt_60, nlt_61, nge_0, nge_1, nge_2, nge_3, nge_4, nge_5, nge_6, nge_7, nge_60, nge_61, ngt_0, ngt_1, ngt_2, ngt_3, ngt_4, ngt_5, ngt_6, ngt_7, ngt_60, ngt_61, neq_0, neq_1, neq_2, neq_3, neq_4, neq_5, neq_6, neq_7, neq_60, neq_61, Nat.not_lt_zero, and_self, and_true, true_and, or_true, true_or, if_true, if_false, or_self, and_false, false_and, or_false, false_or, not_true_eq_false, not_false_eq_true, ne_eq, reduceCtorEq, eq_self, bind_s, c10, c01, c20, c30, c40, cl_0, inb_0, onI_l, onI_r, onV_l, onV_r, b_C_settle_10, f_C_settle]
  split <;> rfl
theorem p_makeFinal {b : Nat} {σ : Sg} (h : SN b σ) {i t : Nat} (hi : i < 3) (ht : t < 61) (x : Int32) : f_R_makeFinal σ (4 + 5 * i) (nI t) x = some (s_i σ (8 + 5 * i) t (x ||| 4)) := by
  simp (disch := omega) only [↓reduceIte, ↓wi_e, ↓wn_e, ↓rc_i, ↓rc_l, ↓h.q0, ↓h.q1, ↓h.q2, ↓h.qr, ↓h.qc, ↓h.qr2, ↓h.qr3, ↓h.qr4, ↓h.qr5, ↓h.qc5, ↓h.qt, ↓h.qt4, ↓h.qt5, ↓h.qt6, ↓h.qm2, ↓h.qm3, ↓h.qm4, ↓h.qm5, ↓h.qm6, ↓h.qm7, ↓h.qm8, ↓h.qm9, ↓h.qm10, ↓h.qm11, ↓h.qm12, ↓h.qm13, ↓h.qm14, ↓h.qm15, ↓h.qm16, ↓h.qm17, ↓h.qm18, ↓h.qm19, ↓h.qm20, ↓h.qm21, ↓h.qm22, ↓h.qm23, ↓h.qm24, h.lt, kd_0, kd_1, kd_2, kd_3, kd_r, kd_ra, kd_rb, kd_rc, kd_rd, ln_ra, ln_rb, ln_rc, ln_rd, kd_c, kd_ca, ln_ca, kd_t, kd_ta, kd_tb, kd_tc, ln_ta, ln_tb, ln_tc, ln_1, ln_2, ln_3, ln_51, kd_27, kd_28, kd_29, kd_30, kd_31, kd_32, kd_33, kd_34, kd_35, kd_36, kd_37, kd_38, kd_39, kd_40, kd_41, kd_42, kd_43, kd_44, kd_45, kd_46, kd_47, kd_48, kd_49, kd_50, kd_51, ln_28, ln_29, ln_30, ln_31, ln_32, ln_33, ln_34, ln_35, ln_36, ln_37, ln_38, ln_39, ln_40, ln_41, ln_42, ln_43, ln_44, ln_45, ln_46, ln_47, ln_48, ln_49, ln_50, inb_n, cl_n, g_n_s_i, g_n_s_l, mul_3, mul_4, mul_6, mul_61, nI_add, nI_1, nle_0, nle_1, nle_2, nle_3, nle_4, nle_5, nle_6, nle_7, nle_60, nle_61, nlt_0, nlt_1, nlt_2, nlt_3, nlt_4, nlt_5, nlt_6, nlt_7, nlt_60, nlt_61, nge_0, nge_1, nge_2, nge_3, nge_4, nge_5, nge_6, nge_7, nge_60, nge_61, ngt_0, ngt_1, ngt_2, ngt_3, ngt_4, ngt_5, ngt_6, ngt_7, ngt_60, ngt_61, neq_0, neq_1, neq_2, neq_3, neq_4, neq_5, neq_6, neq_7, neq_60, neq_61, Nat.not_lt_zero, and_self, and_true, true_and, or_true, true_or, if_true, if_false, or_self, and_false, false_and, or_false, false_or, not_true_eq_false, not_false_eq_true, ne_eq, reduceCtorEq, eq_self, bind_s, c10, c01, c20, c30, c40, cl_0, inb_0, onI_l, onI_r, onV_l, onV_r, f_R_makeFinal]
theorem pc_lt8 : ∀ m, m < 8 → pc m ≤ 3 := by decide +kernel
theorem set8 : ∀ m, m < 8 → ∀ i, i < 3 → (m ||| 1 <<< i) < 8 ∧ ∀ r, r < 3 → (m ||| 1 <<< i).testBit r = (m.testBit r || decide (r = i)) := by decide +kernel
theorem cf_143 {b : Nat} {σ : Sg} (h : SN b σ) {c m : Nat} (hc : c < 4) (hm : m < 8) (e : g_i σ (19 + 2 * c) 4 = nI m) : b_G_confirm_143 σ (19 + 2 * c) = some (.inl (some (.int (nI (pc m)))), if pc m < 2 then σ else s_i σ (19 + 2 * c) 1 (if g_i σ (19 + 2 * c) 3 = 0 then 4 else 5)) := by
  have p3 := pc_lt8 m hm
  simp (disch := omega) only [↓reduceIte, ↓wi_e, ↓wn_e, ↓rc_i, ↓rc_l, ↓h.q0, ↓h.q1, ↓h.q2, ↓h.qr, ↓h.qc, ↓h.qr2, ↓h.qr3, ↓h.qr4, ↓h.qr5, ↓h.qc5, ↓h.qt, ↓h.qt4, ↓h.qt5, ↓h.qt6, ↓h.qm2, ↓h.qm3, ↓h.qm4, ↓h.qm5, ↓h.qm6, ↓h.qm7, ↓h.qm8, ↓h.qm9, ↓h.qm10, ↓h.qm11, ↓h.qm12, ↓h.qm13, ↓h.qm14, ↓h.qm15, ↓h.qm16, ↓h.qm17, ↓h.qm18, ↓h.qm19, ↓h.qm20, ↓h.qm21, ↓h.qm22, ↓h.qm23, ↓h.qm24, h.lt, kd_0, kd_1, kd_2, kd_3, kd_r, kd_ra, kd_rb, kd_rc, kd_rd, ln_ra, ln_rb, ln_rc, ln_rd, kd_c, kd_ca, ln_ca, kd_t, kd_ta, kd_tb, kd_tc, ln_ta, ln_tb, ln_tc, ln_1, ln_2, ln_3, ln_51, kd_27, kd_28, kd_29, kd_30, kd_31, kd_32, kd_33, kd_34, kd_35, kd_36, kd_37, kd_38, kd_39, kd_40, kd_41, kd_42, kd_43, kd_44, kd_45, kd_46, kd_47, kd_48, kd_49, kd_50, kd_51, ln_28, ln_29, ln_30, ln_31, ln_32, ln_33, ln_34, ln_35, ln_36, ln_37, ln_38, ln_39, ln_40, ln_41, ln_42, ln_43, ln_44, ln_45, ln_46, ln_47, ln_48, ln_49, ln_50, inb_n, cl_n, g_n_s_i, g_n_s_l, mul_3, mul_4, mul_6, mul_61, nI_add, nI_1, nle_0, nle_1, nle_2, nle_3, nle_4, nle_5, nle_6, nle_7, nle_60, nle_61, nlt_0, nlt_1, nlt_2, nlt_3, nlt_4, nlt_5, nlt_6, nlt_7, nlt_60, nlt_61, nge_0, nge_1, nge_2, nge_3, nge_4, nge_5, nge_6, nge_7, nge_60, nge_61, ngt_0, ngt_1, ngt_2, ngt_3, ngt_4, ngt_5, ngt_6, ngt_7, ngt_60, ngt_61, neq_0, neq_1, neq_2, neq_3, neq_4, neq_5, neq_6, neq_7, neq_60, neq_61, Nat.not_lt_zero, and_self, and_true, true_and, or_true, true_or, if_true, if_false, or_self, and_false, false_and, or_false, false_or, not_true_eq_false, not_false_eq_true, ne_eq, reduceCtorEq, eq_self, bind_s, c10, c01, c20, c30, c40, cl_0, inb_0, onI_l, onI_r, onV_l, onV_r, b_G_confirm_143, b_G_confirm_163, ↓bq (p_confirmationCount h hc (Nat.lt_of_lt_of_le hm (by decide)) e), ↓bq (p_settle h hc _)]
  split <;> rfl
theorem cf_134 {b : Nat} {σ : Sg} (h : SN b σ) {c : Nat} (hc : c < 4) (n : Nat) (hn : n = bn (g_i σ 41 (3 * c)) + bn (g_i σ 41 (3 * c + 1)) + bn (g_i σ 41 (3 * c + 2))) (h3 : n ≤ 3) : b_M_confirm_134 σ 27 (nI c) = some (nI n, if n < 2 then σ else s_i σ 36 c (if g_i σ 38 c = 0 then 4 else 5)) := by
  have p := p_mconf h hc
  rw [← hn] at p
  simp (disch := omega) only [↓reduceIte, ↓wi_e, ↓wn_e, ↓rc_i, ↓rc_l, ↓h.q0, ↓h.q1, ↓h.q2, ↓h.qr, ↓h.qc, ↓h.qr2, ↓h.qr3, ↓h.qr4, ↓h.qr5, ↓h.qc5, ↓h.qt, ↓h.qt4, ↓h.qt5, ↓h.qt6, ↓h.qm2, ↓h.qm3, ↓h.qm4, ↓h.qm5, ↓h.qm6, ↓h.qm7, ↓h.qm8, ↓h.qm9, ↓h.qm10, ↓h.qm11, ↓h.qm12, ↓h.qm13, ↓h.qm14, ↓h.qm15, ↓h.qm16, ↓h.qm17, ↓h.qm18, ↓h.qm19, ↓h.qm20, ↓h.qm21, ↓h.qm22, ↓h.qm23, ↓h.qm24, h.lt, kd_0, kd_1, kd_2, kd_3, kd_r, kd_ra, kd_rb, kd_rc, kd_rd, ln_ra, ln_rb, ln_rc, ln_rd, kd_c, kd_ca, ln_ca, kd_t, kd_ta, kd_tb, kd_tc, ln_ta, ln_tb, ln_tc, ln_1, ln_2, ln_3, ln_51, kd_27, kd_28, kd_29, kd_30, kd_31, kd_32, kd_33, kd_34, kd_35, kd_36, kd_37, kd_38, kd_39, kd_40, kd_41, kd_42, kd_43, kd_44, kd_45, kd_46, kd_47, kd_48, kd_49, kd_50, kd_51, ln_28, ln_29, ln_30, ln_31, ln_32, ln_33, ln_34, ln_35, ln_36, ln_37, ln_38, ln_39, ln_40, ln_41, ln_42, ln_43, ln_44, ln_45, ln_46, ln_47, ln_48, ln_49, ln_50, inb_n, cl_n, g_n_s_i, g_n_s_l, mul_3, mul_4, mul_6, mul_61, nI_add, nI_1, nle_0, nle_1, nle_2, nle_3, nle_4, nle_5, nle_6, nle_7, nle_60, nle_61, nlt_0, nlt_1, nlt_2, nlt_3, nlt_4, nlt_5, nlt_6, nlt_7, nlt_60, nlt_61, nge_0, nge_1, nge_2, nge_3, nge_4, nge_5, nge_6, nge_7, nge_60, nge_61, ngt_0, ngt_1, ngt_2, ngt_3, ngt_4, ngt_5, ngt_6, ngt_7, ngt_60, ngt_61, neq_0, neq_1, neq_2, neq_3, neq_4, neq_5, neq_6, neq_7, neq_60, neq_61, Nat.not_lt_zero, and_self, and_true, true_and, or_true, true_or, if_true, if_false, or_self, and_false, false_and, or_false, false_or, not_true_eq_false, not_false_eq_true, ne_eq, reduceCtorEq, eq_self, bind_s, c10, c01, c20, c30, c40, cl_0, inb_0, onI_l, onI_r, onV_l, onV_r, b_M_confirm_134, b_M_confirm_166, b_M_confirm_167, ↓bq p]
  grind
theorem cf_main {b : Nat} {M W : Nat → Nat} {σ : Sg} (h : R b M W σ) {c i t m : Nat} {r s u : Int32} (hc : c < 4) (hi : i < 3) (ht1 : 1 ≤ t) (ht2 : t ≤ b) (s3 : g_i σ 36 c = 3) (hQ : Qr r s 1 (g_i σ 49 (61 * i + t)) (g_i σ 50 (61 * i + t))) (hm : m < 8) (hu : ∀ q, q < 3 → (if q = i then u else g_i σ 41 (3 * c + q)) = if m.testBit q = true then 1 else 0)
    (k1 : f_G_confirm σ 0 (nI c) (nI i) = b_G_confirm_143 (s_i (s_i σ (8 + 5 * i) t r) (19 + 2 * c) 4 (nI m)) (19 + 2 * c))
    (k2 : ∀ Z, SN b Z → (∀ a j, 27 ≤ a → a ≤ 50 → g_i Z a j = g_i σ a j) → f_M_confirm Z 27 (nI c) (nI i) = b_M_confirm_134 (s_i (s_i (s_i (s_i Z 27 0 0) 47 (61 * i + t) s) 48 (61 * i + t) 1) 41 (3 * c + i) u) 27 (nI c)) :
    OpI (f_L_confirm σ 0 (nI c) (nI i) 51) (fun s => f_M_confirm s 27 (nI c) (nI i)) (fun v => v.toInt64) := by
  have h0 := h.r0
  have hb6 := h0.b60
  obtain ⟨e1, _, e3, e4⟩ := h.r8 c hc
  obtain ⟨esl, q0, hq0, eq0⟩ := e4 s3
  have h1 : SN b (s_i (s_i σ (8 + 5 * i) t r) (19 + 2 * c) 4 (nI m)) := h0
  have p3 := pc_lt8 m hm
  have c1 := cf_143 h1 hc hm (by simp (disch := omega) only [gi_n, gi_s, g_i_s_l])
  have sl1 : g_i (s_i (s_i σ (8 + 5 * i) t r) (19 + 2 * c) 4 (nI m)) (19 + 2 * c) 3 = g_i σ 38 c := by
    simp (disch := omega) only [gi_n, gi_s, g_i_s_l]
    exact esl
  rw [sl1, ← k1] at c1
  have cb : ∀ q, q < 3 → ∀ Z, (∀ a j, 27 ≤ a → a ≤ 50 → g_i Z a j = g_i σ a j) → g_i (s_i (s_i (s_i (s_i Z 27 0 0) 47 (61 * i + t) s) 48 (61 * i + t) 1) 41 (3 * c + i) u) 41 (3 * c + q) = if m.testBit q = true then 1 else 0 := by
    intro q hq Z hZ
    rw [← hu q hq]
    by_cases e : q = i
    · subst e
      rw [if_pos rfl]
      simp (disch := omega) only [gi_n, gi_s, g_i_s_l]
    · rw [if_neg e]
      simp (disch := omega) only [gi_n, gi_s, g_i_s_l]
      exact hZ _ _ (by omega) (by omega)
  -- the state without the client's own step
  have hR0 : R b M W (s_i (s_i (s_i (s_i (s_l (s_i (s_i σ (8 + 5 * i) t r) (19 + 2 * c) 4 (nI m)) 51 0 (nI (pc m)).toInt64) 27 0 0) 47 (61 * i + t) s) 48 (61 * i + t) 1) 41 (3 * c + i) u) := by
    refine r_rec h hc hi ht1 ht2 (by rw [s3]; decide) h0 ?_ (fun _ _ => rfl) ?_ ⟨?_, m, hm, ?_, ?_⟩
    · intro a k q
      simp (disch := omega) only [gi_n, gi_s, g_i_s_l]
    · simp (disch := omega) only [gi_n, gi_s, g_i_s_l]
      exact hQ
    · intro q hq
      have := (h.r10 c hc (by rw [s3]; decide)).1 q hq
      revert this
      simp (disch := omega) only [gi_n, gi_s, g_i_s_l]
      exact id
    · simp (disch := omega) only [gi_n, gi_s, g_i_s_l]
    · intro q hq
      exact cb q hq _ (by intro a j ha hj; simp (disch := omega) only [gi_n, gi_s, g_i_s_l])
  have cn : ∀ Z, (∀ a j, 27 ≤ a → a ≤ 50 → g_i Z a j = g_i σ a j) → pc m = bn (g_i (s_i (s_i (s_i (s_i Z 27 0 0) 47 (61 * i + t) s) 48 (61 * i + t) 1) 41 (3 * c + i) u) 41 (3 * c)) + bn (g_i (s_i (s_i (s_i (s_i Z 27 0 0) 47 (61 * i + t) s) 48 (61 * i + t) 1) 41 (3 * c + i) u) 41 (3 * c + 1)) + bn (g_i (s_i (s_i (s_i (s_i Z 27 0 0) 47 (61 * i + t) s) 48 (61 * i + t) 1) 41 (3 * c + i) u) 41 (3 * c + 2)) := by
    intro Z hZ
    have z0 := cb 0 (by omega) Z hZ
    rw [Nat.add_zero] at z0
    rw [z0, cb 1 (by omega) Z hZ, cb 2 (by omega) Z hZ]
    exact pc_8 m hm
  by_cases p2 : pc m < 2
  · rw [if_pos p2] at c1
    have hZ : ∀ a j, 27 ≤ a → a ≤ 50 → g_i (s_l (s_i (s_i σ (8 + 5 * i) t r) (19 + 2 * c) 4 (nI m)) 51 0 (nI (pc m)).toInt64) a j = g_i σ a j := by
      intro a j ha hj
      simp (disch := omega) only [gi_n, gi_s, g_i_s_l]
    refine ⟨0, s_l (s_i (s_i σ (8 + 5 * i) t r) (19 + 2 * c) 4 (nI m)) 51 0 (nI (pc m)).toInt64, nI (pc m), _, b, M, W, ?_, h.n27, ?_, ?_, ?_, hR0⟩
    · simp (disch := omega) only [↓reduceIte, ↓wi_e, ↓wn_e, ↓rc_i, ↓rc_l, ↓h0.q0, ↓h0.q1, ↓h0.q2, ↓h0.qr, ↓h0.qc, ↓h0.qr2, ↓h0.qr3, ↓h0.qr4, ↓h0.qr5, ↓h0.qc5, ↓h0.qt, ↓h0.qt4, ↓h0.qt5, ↓h0.qt6, ↓h0.qm2, ↓h0.qm3, ↓h0.qm4, ↓h0.qm5, ↓h0.qm6, ↓h0.qm7, ↓h0.qm8, ↓h0.qm9, ↓h0.qm10, ↓h0.qm11, ↓h0.qm12, ↓h0.qm13, ↓h0.qm14, ↓h0.qm15, ↓h0.qm16, ↓h0.qm17, ↓h0.qm18, ↓h0.qm19, ↓h0.qm20, ↓h0.qm21, ↓h0.qm22, ↓h0.qm23, ↓h0.qm24, h0.lt, kd_0, kd_1, kd_2, kd_3, kd_r, kd_ra, kd_rb, kd_rc, kd_rd, ln_ra, ln_rb, ln_rc, ln_rd, kd_c, kd_ca, ln_ca, kd_t, kd_ta, kd_tb, kd_tc, ln_ta, ln_tb, ln_tc, ln_1, ln_2, ln_3, ln_51, kd_27, kd_28, kd_29, kd_30, kd_31, kd_32, kd_33, kd_34, kd_35, kd_36, kd_37, kd_38, kd_39, kd_40, kd_41, kd_42, kd_43, kd_44, kd_45, kd_46, kd_47, kd_48, kd_49, kd_50, kd_51, ln_28, ln_29, ln_30, ln_31, ln_32, ln_33, ln_34, ln_35, ln_36, ln_37, ln_38, ln_39, ln_40, ln_41, ln_42, ln_43, ln_44, ln_45, ln_46, ln_47, ln_48, ln_49, ln_50, inb_n, cl_n, g_n_s_i, g_n_s_l, mul_3, mul_4, mul_6, mul_61, nI_add, nI_1, nle_0, nle_1, nle_2, nle_3, nle_4, nle_5, nle_6, nle_7, nle_60, nle_61, nlt_0, nlt_1, nlt_2, nlt_3, nlt_4, nlt_5, nlt_6, nlt_7, nlt_60, nlt_61, nge_0, nge_1, nge_2, nge_3, nge_4, nge_5, nge_6, nge_7, nge_60, nge_61, ngt_0, ngt_1, ngt_2, ngt_3, ngt_4, ngt_5, ngt_6, ngt_7, ngt_60, ngt_61, neq_0, neq_1, neq_2, neq_3, neq_4, neq_5, neq_6, neq_7, neq_60, neq_61, Nat.not_lt_zero, and_self, and_true, true_and, or_true, true_or, if_true, if_false, or_self, and_false, false_and, or_false, false_or, not_true_eq_false, not_false_eq_true, ne_eq, reduceCtorEq, eq_self, bind_s, c10, c01, c20, c30, c40, cl_0, inb_0, onI_l, onI_r, onV_l, onV_r, f_L_confirm, ↓bq c1]
    · show f_M_confirm _ _ _ _ = _
      rw [k2 _ (by exact h0) hZ, cf_134 (by exact h0) hc (pc m) (cn _ hZ) p3, if_pos p2]
    · simp (disch := omega) only [gi_n, gi_s, g_i_s_l]
    · intro _
      rw [g_l_s_i, g_l_s_i, g_l_s_i, g_l_s_i, g510]
  · rw [if_neg p2] at c1
    have sl2 : ∀ Z, (∀ a j, 27 ≤ a → a ≤ 50 → g_i Z a j = g_i σ a j) → g_i (s_i (s_i (s_i (s_i Z 27 0 0) 47 (61 * i + t) s) 48 (61 * i + t) 1) 41 (3 * c + i) u) 38 c = g_i σ 38 c := by
      intro Z hZ
      simp (disch := omega) only [gi_n, gi_s, g_i_s_l]
      exact hZ _ _ (by omega) (by omega)
    obtain ⟨w, hw5, hw⟩ : ∃ w, (w = 4 ∨ w = 5) ∧ (if g_i σ 38 c = 0 then (4 : Int32) else 5) = nI w := by
      by_cases z : g_i σ 38 c = 0
      · exact ⟨4, Or.inl rfl, by rw [if_pos z]; rfl⟩
      · exact ⟨5, Or.inr rfl, by rw [if_neg z]; rfl⟩
    rw [hw] at c1
    have hZ : ∀ a j, 27 ≤ a → a ≤ 50 → g_i (s_l (s_i (s_i (s_i σ (8 + 5 * i) t r) (19 + 2 * c) 4 (nI m)) (19 + 2 * c) 1 (nI w)) 51 0 (nI (pc m)).toInt64) a j = g_i σ a j := by
      intro a j ha hj
      simp (disch := omega) only [gi_n, gi_s, g_i_s_l]
    have hR : R b M W (s_i (s_i (s_i (s_i (s_i (s_l (s_i (s_i (s_i σ (8 + 5 * i) t r) (19 + 2 * c) 4 (nI m)) (19 + 2 * c) 1 (nI w)) 51 0 (nI (pc m)).toInt64) 27 0 0) 47 (61 * i + t) s) 48 (61 * i + t) 1) 41 (3 * c + i) u) 36 c (nI w)) := by
      refine r_st hR0 hc (Or.inr ?_) (s := w) h0 ?_ (fun _ _ => rfl) (by omega) (by omega) ?_ ?_ (fun q => by omega)
      · simp (disch := omega) only [gi_n, gi_s, g_i_s_l]; exact s3
      · intro a k q
        by_cases z1 : a = 41 ∧ k = 3 * c + i
        · obtain ⟨rfl, rfl⟩ := z1
          simp (disch := omega) only [gi_n, gi_s, g_i_s_l]
        by_cases z2 : (a = 47 ∨ a = 48) ∧ k = 61 * i + t
        · obtain ⟨rfl | rfl, rfl⟩ := z2
          · simp (disch := omega) only [gi_n, gi_s, g_i_s_l]
          · simp (disch := omega) only [gi_n, gi_s, g_i_s_l]
        by_cases z3 : a = 19 + 2 * c ∧ k = 4
        · obtain ⟨rfl, rfl⟩ := z3
          simp (disch := omega) only [gi_n, gi_s, g_i_s_l]
        by_cases z4 : a = 8 + 5 * i ∧ k = t
        · obtain ⟨rfl, rfl⟩ := z4
          simp (disch := omega) only [gi_n, gi_s, g_i_s_l]
        simp (disch := omega) only [gi_n, gi_s, g_i_s_l]
      · simp (disch := omega) only [gi_n, gi_s, g_i_s_l]
      · simp (disch := omega) only [gi_n, gi_s, g_i_s_l]
    refine ⟨0, s_l (s_i (s_i (s_i σ (8 + 5 * i) t r) (19 + 2 * c) 4 (nI m)) (19 + 2 * c) 1 (nI w)) 51 0 (nI (pc m)).toInt64, nI (pc m), _, b, M, W, ?_, h.n27, ?_, ?_, ?_, hR⟩
    · simp (disch := omega) only [↓reduceIte, ↓wi_e, ↓wn_e, ↓rc_i, ↓rc_l, ↓h0.q0, ↓h0.q1, ↓h0.q2, ↓h0.qr, ↓h0.qc, ↓h0.qr2, ↓h0.qr3, ↓h0.qr4, ↓h0.qr5, ↓h0.qc5, ↓h0.qt, ↓h0.qt4, ↓h0.qt5, ↓h0.qt6, ↓h0.qm2, ↓h0.qm3, ↓h0.qm4, ↓h0.qm5, ↓h0.qm6, ↓h0.qm7, ↓h0.qm8, ↓h0.qm9, ↓h0.qm10, ↓h0.qm11, ↓h0.qm12, ↓h0.qm13, ↓h0.qm14, ↓h0.qm15, ↓h0.qm16, ↓h0.qm17, ↓h0.qm18, ↓h0.qm19, ↓h0.qm20, ↓h0.qm21, ↓h0.qm22, ↓h0.qm23, ↓h0.qm24, h0.lt, kd_0, kd_1, kd_2, kd_3, kd_r, kd_ra, kd_rb, kd_rc, kd_rd, ln_ra, ln_rb, ln_rc, ln_rd, kd_c, kd_ca, ln_ca, kd_t, kd_ta, kd_tb, kd_tc, ln_ta, ln_tb, ln_tc, ln_1, ln_2, ln_3, ln_51, kd_27, kd_28, kd_29, kd_30, kd_31, kd_32, kd_33, kd_34, kd_35, kd_36, kd_37, kd_38, kd_39, kd_40, kd_41, kd_42, kd_43, kd_44, kd_45, kd_46, kd_47, kd_48, kd_49, kd_50, kd_51, ln_28, ln_29, ln_30, ln_31, ln_32, ln_33, ln_34, ln_35, ln_36, ln_37, ln_38, ln_39, ln_40, ln_41, ln_42, ln_43, ln_44, ln_45, ln_46, ln_47, ln_48, ln_49, ln_50, inb_n, cl_n, g_n_s_i, g_n_s_l, mul_3, mul_4, mul_6, mul_61, nI_add, nI_1, nle_0, nle_1, nle_2, nle_3, nle_4, nle_5, nle_6, nle_7, nle_60, nle_61, nlt_0, nlt_1, nlt_2, nlt_3, nlt_4, nlt_5, nlt_6, nlt_7, nlt_60, nlt_61, nge_0, nge_1, nge_2, nge_3, nge_4, nge_5, nge_6, nge_7, nge_60, nge_61, ngt_0, ngt_1, ngt_2, ngt_3, ngt_4, ngt_5, ngt_6, ngt_7, ngt_60, ngt_61, neq_0, neq_1, neq_2, neq_3, neq_4, neq_5, neq_6, neq_7, neq_60, neq_61, Nat.not_lt_zero, and_self, and_true, true_and, or_true, true_or, if_true, if_false, or_self, and_false, false_and, or_false, false_or, not_true_eq_false, not_false_eq_true, ne_eq, reduceCtorEq, eq_self, bind_s, c10, c01, c20, c30, c40, cl_0, inb_0, onI_l, onI_r, onV_l, onV_r, f_L_confirm, ↓bq c1]
    · show f_M_confirm _ _ _ _ = _
      rw [k2 _ (by exact h0) hZ, cf_134 (by exact h0) hc (pc m) (cn _ hZ) p3, if_neg p2, sl2 _ hZ, hw]
    · simp (disch := omega) only [gi_n, gi_s, g_i_s_l]
    · intro _
      rw [g_l_s_i, g_l_s_i, g_l_s_i, g_l_s_i, g_l_s_i, g510]

