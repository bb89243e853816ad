/-! finish. -/
theorem r_fin {b : Nat} {M W : Nat → Nat} {σ : Sg} (h : R b M W σ) {c i t : Nat} (hc : c < 4) (hi : i < 3) (ht1 : 1 ≤ t) (ht2 : t ≤ b) (s45 : g_i σ 36 c = 4 ∨ g_i σ 36 c = 5) (et : g_i σ 37 c = nI t) {τ : Sg} (hs : SN b τ) (hr : ∀ a k, g_r τ a k = g_r σ a k)
    (hF : ∀ a k, ((a ≠ 5 + 5 * i ∧ a ≠ 6 + 5 * i ∧ a ≠ 7 + 5 * i) ∨ 6 ≤ k) ∧ ((a ≠ 44 ∧ a ≠ 45 ∧ a ≠ 46) ∨ k < 6 * i ∨ 6 * i + 6 ≤ k) ∧ (a ≠ 8 + 5 * i ∨ k ≠ t) ∧ ((a ≠ 47 ∧ a ≠ 49 ∧ a ≠ 50) ∨ k ≠ 61 * i + t) ∧ (a ≠ 27 ∨ k ≠ 0) → g_i τ a k = g_i σ a k)
    (v3 : ∀ k, k < 6 → g_i τ 44 (6 * i + k) = g_i τ (5 + 5 * i) k ∧ g_i τ 45 (6 * i + k) = g_i τ (6 + 5 * i) k ∧ g_i τ 46 (6 * i + k) = g_i τ (7 + 5 * i) k)
    (up : ∀ k, k < 6 → (g_i τ (5 + 5 * i) k = g_i σ (5 + 5 * i) k ∧ g_i τ (6 + 5 * i) k = g_i σ (6 + 5 * i) k) ∨ (g_i σ (5 + 5 * i) k < g_i σ 28 t ∧ g_i τ (5 + 5 * i) k = g_i σ 28 t ∧ g_i τ (6 + 5 * i) k = g_i σ (51 + 4 * t) k))
    (lr : ∀ k, k < 6 → g_i σ (7 + 5 * i) k ≤ g_i τ (7 + 5 * i) k)
    (ap : g_i τ 49 (61 * i + t) ≠ 0 → ∀ k, k < 6 → ((W t).testBit k = true → g_i σ 28 t ≤ g_i τ (5 + 5 * i) k) ∧ ((M t).testBit k = true → g_i σ 28 t ≤ g_i τ (7 + 5 * i) k))
    (hQ : Qr (g_i τ (8 + 5 * i) t) (g_i τ 47 (61 * i + t)) (g_i τ 48 (61 * i + t)) (g_i τ 49 (61 * i + t)) (g_i τ 50 (61 * i + t))) : R b M W τ := by
  have hb6 := h.r0.b60
  have ne0 : g_i σ 36 c ≠ 0 := by
    rcases s45 with q | q <;> rw [q] <;> decide
  have st : g_i τ 28 t = g_i σ 28 t := hF _ _ (by omega)
  have vm : ∀ k, k < 6 → g_i σ (5 + 5 * i) k ≤ g_i τ (5 + 5 * i) k := by
    intro k hk
    rcases up k hk with ⟨q, _⟩ | ⟨q, q2, _⟩
    · rw [q]; exact Int32.le_refl _
    · rw [q2]; exact Int32.le_of_lt q
  refine ⟨hs, by unfold Z1; simp (disch := omega) only [hF]; exact h.r1, ?_, ?_, ?_, ?_, ?_, ⟨?_, ?_⟩, ?_, ?_, ?_, ?_, ?_, ?_, ?_, ?_, ?_, ⟨?_, ?_, ?_⟩⟩
  · intro i hi; have q := h.r2 i hi; revert q; simp (disch := omega) only [hF]; exact id
  · intro j hj k hk
    by_cases e : j = i
    · subst e
      exact v3 k hk
    · have q := h.r3 j hj k hk; revert q; simp (disch := omega) only [hF]; exact id
  · intro j hj k hk
    have q := h.r4 j hj k hk
    by_cases e : j = i
    · subst e
      rcases up k hk with ⟨z1, z2⟩ | ⟨z1, z2, z3⟩
      · rw [z1, z2]; exact q
      · rw [z2]
        refine ⟨Int32.le_of_lt (Int32.lt_of_le_of_lt q.1 z1), fun z => ?_⟩
        rw [z] at z1
        exact (Int32.lt_irrefl (Int32.lt_of_le_of_lt q.1 z1)).elim
    · revert q; simp (disch := omega) only [hF]; exact id
  · have key : ∀ j, j < 3 → j ≠ i → ∀ k, k < 6 → g_i τ (5 + 5 * i) k = g_i σ (5 + 5 * j) k → g_i τ (6 + 5 * i) k = g_i σ (6 + 5 * j) k := by
      intro j hj hne k hk e
      rcases up k hk with ⟨z1, z2⟩ | ⟨z1, z2, z3⟩
      · rw [z2]
        rw [z1] at e
        exact h.r5 i hi j hj k hk e
      · rw [z3]
        rw [z2] at e
        refine (h.r15 t ht1 ht2 j hj k hk (fun z => ?_) e.symm).symm
        rw [z] at z1
        exact Int32.lt_irrefl (Int32.lt_of_le_of_lt (h.r4 i hi k hk).1 z1)
    intro j hj j' hj' k hk
    by_cases e : j = i
    · by_cases e' : j' = i
      · rw [e, e']
        intro _
        rfl
      · rw [e, hF (5 + 5 * j') k (by omega), hF (6 + 5 * j') k (by omega)]
        exact key j' hj' e' k hk
    · by_cases e' : j' = i
      · rw [e', hF (5 + 5 * j) k (by omega), hF (6 + 5 * j) k (by omega)]
        intro z
        exact (key j hj e k hk z.symm).symm
      · have q := h.r5 j hj j' hj' k hk; revert q; simp (disch := omega) only [hF]; exact id
  · intro j hj u hu
    by_cases e : j = i ∧ u = t
    · obtain ⟨rfl, rfl⟩ := e
      exact hQ
    · have q := h.r6 j hj u hu
      have : 61 * j + u ≠ 61 * i + t := by omega
      revert q; simp (disch := omega) only [hF]; exact id
  · intro i hi u hu hbu; have q := h.r7.1 i hi u hu hbu; revert q; simp (disch := omega) only [hF]; exact id
  · intro u hbu hu; have q := h.r7.2 u hbu hu; revert q; simp (disch := omega) only [hF]; exact id
  · intro d hd; have q := h.r8 d hd; revert q; simp (disch := omega) only [hF]; exact id
  · intro d hd; have q := h.r9 d hd; rw [hr]; revert q; simp (disch := omega) only [hF]; exact id
  · intro d hd z
    have z' : g_i σ 36 d ≠ 0 := by revert z; simp (disch := omega) only [hF]; exact id
    obtain ⟨q1, m, hm, q2, q3⟩ := h.r10 d hd z'
    refine ⟨fun r hr => ?_, m, hm, ?_, fun r hr => ?_⟩
    · have := q1 r hr; revert this; simp (disch := omega) only [hF]; exact id
    · revert q2; simp (disch := omega) only [hF]; exact id
    · have := q3 r hr; revert this; simp (disch := omega) only [hF]; exact id
  · intro u hu1 hu2
    obtain ⟨q1, q2, q3, q4⟩ := h.r11 u hu1 hu2
    refine ⟨by simp (disch := omega) only [hF]; exact q1, by simp (disch := omega) only [hF]; exact q2, ?_, ?_⟩
    · exact q3.cg (by simp (disch := omega) only [hF]) (by simp (disch := omega) only [hF]) (fun j hj => ⟨by simp (disch := omega) only [hF], by simp (disch := omega) only [hF], by simp (disch := omega) only [hF]⟩) (fun k' hk' => ⟨by simp (disch := omega) only [hF], by simp (disch := omega) only [hF]⟩)
    · exact q4.cg (by simp (disch := omega) only [hF]) (by simp (disch := omega) only [hF]) (fun j hj => ⟨by simp (disch := omega) only [hF], by simp (disch := omega) only [hF]⟩) (fun k' hk' => by simp (disch := omega) only [hF])
  · intro d hd d2 hd2 hne; have q := h.r12 d hd d2 hd2 hne; revert q; simp (disch := omega) only [hF]; exact id
  · intro d hd u hu z
    have z' : g_i σ 37 d = nI u := by revert z; simp (disch := omega) only [hF]; exact id
    have q := h.r13 d hd u hu z'
    have es : g_i τ 36 d = g_i σ 36 d := by simp (disch := omega) only [hF]
    rw [es]
    refine ⟨fun y => by simp (disch := omega) only [hF]; exact q.1 y, fun y j hj => ?_⟩
    have nu : u ≠ t := by
      intro e
      subst e
      by_cases e : d = c
      · subst e
        rcases s45 with s | s <;> rw [s] at y <;> exact absurd y (by decide)
      · exact h.r12 d hd c hc e (by rcases y with y | y | y <;> rw [y] <;> decide) ne0 (z'.trans et.symm)
    have : 61 * j + u ≠ 61 * i + t := by omega
    simp (disch := omega) only [hF]
    exact q.2 y j hj
  · intro j hj u hu1 hu2 k hk
    have su : g_i τ 28 u = g_i σ 28 u := hF _ _ (by omega)
    rw [su]
    by_cases e : j = i
    · subst e
      by_cases e' : u = t
      · subst e'
        intro z
        exact ap z k hk
      · have : 61 * j + u ≠ 61 * j + t := by omega
        rw [hF 49 _ (by omega)]
        intro z
        have q := h.r14 j hj u hu1 hu2 k hk z
        exact ⟨fun z => Int32.le_trans (q.1 z) (vm k hk), fun z => Int32.le_trans (q.2 z) (lr k hk)⟩
    · have q := h.r14 j hj u hu1 hu2 k hk
      have : 61 * j + u ≠ 61 * i + t := by omega
      revert q; simp (disch := omega) only [hF]; exact id
  · intro u hu1 hu2 j hj k hk
    have su : g_i τ 28 u = g_i σ 28 u := hF _ _ (by omega)
    have tu : g_i τ (51 + 4 * u) k = g_i σ (51 + 4 * u) k := hF _ _ (by omega)
    rw [su, tu]
    by_cases e : j = i
    · subst e
      rcases up k hk with ⟨z1, z2⟩ | ⟨z1, z2, z3⟩
      · rw [z1, z2]; exact h.r15 u hu1 hu2 j hj k hk
      · rw [z2, z3]
        intro y1 y2
        by_cases e' : u = t
        · rw [e']
        · exact absurd (h.r16 u hu1 hu2 t ht1 ht2 e' y2.symm) y1
    · have q := h.r15 u hu1 hu2 j hj k hk
      revert q; simp (disch := omega) only [hF]; exact id
  · intro u hu1 hu2 u' hu1' hu2' hne; have q := h.r16 u hu1 hu2 u' hu1' hu2' hne; revert q; simp (disch := omega) only [hF]; exact id
  · intro d hd; have q := h.r17.1 d hd; revert q; simp (disch := omega) only [hF]; exact id
  · intro u hu1 hu2; have q := h.r17.2.1 u hu1 hu2; revert q; simp only [Bd]; simp (disch := omega) only [hF]; exact id
  · intro j hj k hk
    have lt : ∀ x, Bd σ x → Bd τ x := by
      intro x q
      refine ⟨q.1, q.2.1, fun d hd z => ?_⟩
      have y : g_i τ 39 d = g_i σ 39 d := by simp (disch := omega) only [hF]
      rw [y]
      exact q.2.2 d hd z
    apply lt
    by_cases e : j = i
    · subst e
      rcases up k hk with ⟨z1, z2⟩ | ⟨z1, z2, z3⟩
      · rw [z1]; exact h.r17.2.2 j hj k hk
      · rw [z2]; exact h.r17.2.1 t ht1 ht2
    · rw [hF _ _ (by omega)]; exact h.r17.2.2 j hj k hk
theorem fn_c {b : Nat} {σ : Sg} (h : SN b σ) {c i : Nat} (hc : c < 4) (hi : i < 3) : f_M_finish σ 27 (nI c) (nI i) = b_M_finish_76 σ 27 (nI c) (nI i) 27 (if g_i σ 36 c = 4 ∨ g_i σ 36 c = 5 then (if (if g_i σ 42 i = 0 then (0 : Int32) else if g_i σ 43 i = mgv σ then 1 else 0) = 0 then 3 else 0) else 2) := by
  simp (disch := omega) only [↓reduceIte, ↓wi_e, ↓wn_e, ↓rc_i, ↓rc_l, ↓h.q0, ↓h.q1, ↓h.q2, ↓h.qr, ↓h.qc, ↓h.qr2, ↓h.qr3, ↓h.qr4, ↓h.qr5, ↓h.qc5, ↓h.qt, ↓h.qt4, ↓h.qt5, ↓h.qt6, ↓h.qm2, ↓h.qm3, ↓h.qm4, ↓h.qm5, ↓h.qm6, ↓h.qm7, ↓h.qm8, ↓h.qm9, ↓h.qm10, ↓h.qm11, ↓h.qm12, ↓h.qm13, ↓h.qm14, ↓h.qm15, ↓h.qm16, ↓h.qm17, ↓h.qm18, ↓h.qm19, ↓h.qm20, ↓h.qm21, ↓h.qm22, ↓h.qm23, ↓h.qm24, h.lt, kd_0, kd_1, kd_2, kd_3, kd_r, kd_ra, kd_rb, kd_rc, kd_rd, ln_ra, ln_rb, ln_rc, ln_rd, kd_c, kd_ca, ln_ca, kd_t, kd_ta, kd_tb, kd_tc, ln_ta, ln_tb, ln_tc, ln_1, ln_2, ln_3, ln_51, kd_27, kd_28, kd_29, kd_30, kd_31, kd_32, kd_33, kd_34, kd_35, kd_36, kd_37, kd_38, kd_39, kd_40, kd_41, kd_42, kd_43, kd_44, kd_45, kd_46, kd_47, kd_48, kd_49, kd_50, kd_51, ln_28, ln_29, ln_30, ln_31, ln_32, ln_33, ln_34, ln_35, ln_36, ln_37, ln_38, ln_39, ln_40, ln_41, ln_42, ln_43, ln_44, ln_45, ln_46, ln_47, ln_48, ln_49, ln_50, inb_n, cl_n, g_n_s_i, g_n_s_l, mul_3, mul_4, mul_6, mul_61, nI_add, nI_1, nle_0, nle_1, nle_2, nle_3, nle_4, nle_5, nle_6, nle_7, nle_60, nle_61, nlt_0, nlt_1, nlt_2, nlt_3, nlt_4, nlt_5, nlt_6, nlt_7, nlt_60, nlt_61, nge_0, nge_1, nge_2, nge_3, nge_4, nge_5, nge_6, nge_7, nge_60, nge_61, ngt_0, ngt_1, ngt_2, ngt_3, ngt_4, ngt_5, ngt_6, ngt_7, ngt_60, ngt_61, neq_0, neq_1, neq_2, neq_3, neq_4, neq_5, neq_6, neq_7, neq_60, neq_61, Nat.not_lt_zero, and_self, and_true, true_and, or_true, true_or, if_true, if_false, or_self, and_false, false_and, or_false, false_or, not_true_eq_false, not_false_eq_true, ne_eq, reduceCtorEq, eq_self, bind_s, c10, c01, c20, c30, c40, cl_0, inb_0, onI_l, onI_r, onV_l, onV_r, f_M_finish, b_M_finish_19, b_M_finish_38, b_M_finish_43, ↓bq (p_mC1 hc), ↓bq (p_mR1 hi), ↓bq (p_stateOf h hc), ↓bq (p_mserves h hi)]
  grind
theorem fn_76 {b : Nat} {σ : Sg} (h : SN b σ) (x y z : Int32) (hx : z ≠ 0) : b_M_finish_76 σ 27 x y 27 z = some (0, s_i σ 27 0 z) := by
  simp (disch := omega) only [↓reduceIte, ↓wi_e, ↓wn_e, ↓rc_i, ↓rc_l, ↓h.q0, ↓h.q1, ↓h.q2, ↓h.qr, ↓h.qc, ↓h.qr2, ↓h.qr3, ↓h.qr4, ↓h.qr5, ↓h.qc5, ↓h.qt, ↓h.qt4, ↓h.qt5, ↓h.qt6, ↓h.qm2, ↓h.qm3, ↓h.qm4, ↓h.qm5, ↓h.qm6, ↓h.qm7, ↓h.qm8, ↓h.qm9, ↓h.qm10, ↓h.qm11, ↓h.qm12, ↓h.qm13, ↓h.qm14, ↓h.qm15, ↓h.qm16, ↓h.qm17, ↓h.qm18, ↓h.qm19, ↓h.qm20, ↓h.qm21, ↓h.qm22, ↓h.qm23, ↓h.qm24, h.lt, kd_0, kd_1, kd_2, kd_3, kd_r, kd_ra, kd_rb, kd_rc, kd_rd, ln_ra, ln_rb, ln_rc, ln_rd, kd_c, kd_ca, ln_ca, kd_t, kd_ta, kd_tb, kd_tc, ln_ta, ln_tb, ln_tc, ln_1, ln_2, ln_3, ln_51, kd_27, kd_28, kd_29, kd_30, kd_31, kd_32, kd_33, kd_34, kd_35, kd_36, kd_37, kd_38, kd_39, kd_40, kd_41, kd_42, kd_43, kd_44, kd_45, kd_46, kd_47, kd_48, kd_49, kd_50, kd_51, ln_28, ln_29, ln_30, ln_31, ln_32, ln_33, ln_34, ln_35, ln_36, ln_37, ln_38, ln_39, ln_40, ln_41, ln_42, ln_43, ln_44, ln_45, ln_46, ln_47, ln_48, ln_49, ln_50, inb_n, cl_n, g_n_s_i, g_n_s_l, mul_3, mul_4, mul_6, mul_61, nI_add, nI_1, nle_0, nle_1, nle_2, nle_3, nle_4, nle_5, nle_6, nle_7, nle_60, nle_61, nlt_0, nlt_1, nlt_2, nlt_3, nlt_4, nlt_5, nlt_6, nlt_7, nlt_60, nlt_61, nge_0, nge_1, nge_2, nge_3, nge_4, nge_5, nge_6, nge_7, nge_60, nge_61, ngt_0, ngt_1, ngt_2, ngt_3, ngt_4, ngt_5, ngt_6, ngt_7, ngt_60, ngt_61, neq_0, neq_1, neq_2, neq_3, neq_4, neq_5, neq_6, neq_7, neq_60, neq_61, Nat.not_lt_zero, and_self, and_true, true_and, or_true, true_or, if_true, if_false, or_self, and_false, false_and, or_false, false_or, not_true_eq_false, not_false_eq_true, ne_eq, reduceCtorEq, eq_self, bind_s, c10, c01, c20, c30, c40, cl_0, inb_0, onI_l, onI_r, onV_l, onV_r, b_M_finish_76, ↓bq (p_says h _), hx]
theorem fn_a {b : Nat} {σ : Sg} (h : SN b σ) {c i t : Nat} (hc : c < 4) (hi : i < 3) (ht : t < 61) (et : g_i σ 37 c = nI t) : b_M_finish_76 σ 27 (nI c) (nI i) 27 0 = if g_i σ 49 (61 * i + t) = 0 ∧ g_i σ 50 (61 * i + t) = 0 then b_M_finish_142 (s_i σ 27 0 0) 27 (nI c) (nI i) (nI t) (nI (61 * i + t)) 27 (nI t) (nI i) (if g_i σ 36 c = 4 then 0 else 2) else some (0, s_i σ 27 0 0) := by
  rw [b_M_finish_76, if_pos ⟨by rw [h.1]; omega, rfl⟩, bq (p_says h _)]
  dsimp only
  have et' : g_i (s_i σ 27 0 0) 37 c = nI t := by rw [gi_n (by omega), et]
  simp (disch := omega) only [↓reduceIte, ↓wi_e, ↓wn_e, ↓rc_i, ↓rc_l, ↓h.q0, ↓h.q1, ↓h.q2, ↓h.qr, ↓h.qc, ↓h.qr2, ↓h.qr3, ↓h.qr4, ↓h.qr5, ↓h.qc5, ↓h.qt, ↓h.qt4, ↓h.qt5, ↓h.qt6, ↓h.qm2, ↓h.qm3, ↓h.qm4, ↓h.qm5, ↓h.qm6, ↓h.qm7, ↓h.qm8, ↓h.qm9, ↓h.qm10, ↓h.qm11, ↓h.qm12, ↓h.qm13, ↓h.qm14, ↓h.qm15, ↓h.qm16, ↓h.qm17, ↓h.qm18, ↓h.qm19, ↓h.qm20, ↓h.qm21, ↓h.qm22, ↓h.qm23, ↓h.qm24, h.lt, kd_0, kd_1, kd_2, kd_3, kd_r, kd_ra, kd_rb, kd_rc, kd_rd, ln_ra, ln_rb, ln_rc, ln_rd, kd_c, kd_ca, ln_ca, kd_t, kd_ta, kd_tb, kd_tc, ln_ta, ln_tb, ln_tc, ln_1, ln_2, ln_3, ln_51, kd_27, kd_28, kd_29, kd_30, kd_31, kd_32, kd_33, kd_34, kd_35, kd_36, kd_37, kd_38, kd_39, kd_40, kd_41, kd_42, kd_43, kd_44, kd_45, kd_46, kd_47, kd_48, kd_49, kd_50, kd_51, ln_28, ln_29, ln_30, ln_31, ln_32, ln_33, ln_34, ln_35, ln_36, ln_37, ln_38, ln_39, ln_40, ln_41, ln_42, ln_43, ln_44, ln_45, ln_46, ln_47, ln_48, ln_49, ln_50, inb_n, cl_n, g_n_s_i, g_n_s_l, mul_3, mul_4, mul_6, mul_61, nI_add, nI_1, nle_0, nle_1, nle_2, nle_3, nle_4, nle_5, nle_6, nle_7, nle_60, nle_61, nlt_0, nlt_1, nlt_2, nlt_3, nlt_4, nlt_5, nlt_6, nlt_7, nlt_60, nlt_61, nge_0, nge_1, nge_2, nge_3, nge_4, nge_5, nge_6, nge_7, nge_60, nge_61, ngt_0, ngt_1, ngt_2, ngt_3, ngt_4, ngt_5, ngt_6, ngt_7, ngt_60, ngt_61, neq_0, neq_1, neq_2, neq_3, neq_4, neq_5, neq_6, neq_7, neq_60, neq_61, Nat.not_lt_zero, and_self, and_true, true_and, or_true, true_or, if_true, if_false, or_self, and_false, false_and, or_false, false_or, not_true_eq_false, not_false_eq_true, ne_eq, reduceCtorEq, eq_self, bind_s, c10, c01, c20, c30, c40, cl_0, inb_0, onI_l, onI_r, onV_l, onV_r, et', gi_n, et, b_M_finish_121]
  grind
theorem fn_142 {b : Nat} {σ : Sg} (h : SN b σ) {c i t : Nat} (hc : c < 4) (hi : i < 3) (ht : t < 61) (x : Int32) : b_M_finish_142 σ 27 (nI c) (nI i) (nI t) (nI (61 * i + t)) 27 (nI t) (nI i) x = if g_i σ 36 c = 4 then (f_M_apply (if 0 ≤ g_i σ 47 (61 * i + t) then σ else s_i σ 47 (61 * i + t) x) 27 (nI t) (nI i)).bind (fun s17 => some (1, s17)) else some (1, s_i (if 0 ≤ g_i σ 47 (61 * i + t) then σ else s_i σ 47 (61 * i + t) x) 50 (61 * i + t) 1) := by
  have e1 : (if 0 ≤ g_i σ 47 (61 * i + t) then σ else s_i σ 47 (61 * i + t) x).1 = σ.1 := by split <;> rfl
  have h1 : SN b (if 0 ≤ g_i σ 47 (61 * i + t) then σ else s_i σ 47 (61 * i + t) x) := by
    split
    · exact h
    · exact h
  have e2 : g_i (if 0 ≤ g_i σ 47 (61 * i + t) then σ else s_i σ 47 (61 * i + t) x) 36 c = g_i σ 36 c := by
    split
    · rfl
    · rw [gi_n (by omega)]
  rw [b_M_finish_142, if_pos ⟨by rw [h.1]; omega, rfl⟩, bq (p_make h hi ht x)]
  generalize (if 0 ≤ g_i σ 47 (61 * i + t) then σ else s_i σ 47 (61 * i + t) x) = τ at *
  simp (disch := omega) only [↓reduceIte, ↓wi_e, ↓wn_e, ↓rc_i, ↓rc_l, ↓h1.q0, ↓h1.q1, ↓h1.q2, ↓h1.qr, ↓h1.qc, ↓h1.qr2, ↓h1.qr3, ↓h1.qr4, ↓h1.qr5, ↓h1.qc5, ↓h1.qt, ↓h1.qt4, ↓h1.qt5, ↓h1.qt6, ↓h1.qm2, ↓h1.qm3, ↓h1.qm4, ↓h1.qm5, ↓h1.qm6, ↓h1.qm7, ↓h1.qm8, ↓h1.qm9, ↓h1.qm10, ↓h1.qm11, ↓h1.qm12, ↓h1.qm13, ↓h1.qm14, ↓h1.qm15, ↓h1.qm16, ↓h1.qm17, ↓h1.qm18, ↓h1.qm19, ↓h1.qm20, ↓h1.qm21, ↓h1.qm22, ↓h1.qm23, ↓h1.qm24, h1.lt, kd_0, kd_1, kd_2, kd_3, kd_r, kd_ra, kd_rb, kd_rc, kd_rd, ln_ra, ln_rb, ln_rc, ln_rd, kd_c, kd_ca, ln_ca, kd_t, kd_ta, kd_tb, kd_tc, ln_ta, ln_tb, ln_tc, ln_1, ln_2, ln_3, ln_51, kd_27, kd_28, kd_29, kd_30, kd_31, kd_32, kd_33, kd_34, kd_35, kd_36, kd_37, kd_38, kd_39, kd_40, kd_41, kd_42, kd_43, kd_44, kd_45, kd_46, kd_47, kd_48, kd_49, kd_50, kd_51, ln_28, ln_29, ln_30, ln_31, ln_32, ln_33, ln_34, ln_35, ln_36, ln_37, ln_38, ln_39, ln_40, ln_41, ln_42, ln_43, ln_44, ln_45, ln_46, ln_47, ln_48, ln_49, ln_50, inb_n, cl_n, g_n_s_i, g_n_s_l, mul_3, mul_4, mul_6, mul_61, nI_add, nI_1, nle_0, nle_1, nle_2, nle_3, nle_4, nle_5, nle_6, nle_7, nle_60, nle_61, nlt_0, nlt_1, nlt_2, nlt_3, nlt_4, nlt_5, nlt_6, nlt_7, nlt_60, nlt_61, nge_0, nge_1, nge_2, nge_3, nge_4, nge_5, nge_6, nge_7, nge_60, nge_61, ngt_0, ngt_1, ngt_2, ngt_3, ngt_4, ngt_5, ngt_6, ngt_7, ngt_60, ngt_61, neq_0, neq_1, neq_2, neq_3, neq_4, neq_5, neq_6, neq_7, neq_60, neq_61, Nat.not_lt_zero, and_self, and_true, true_and, or_true, true_or, if_true, if_false, or_self, and_false, false_and, or_false, false_or, not_true_eq_false, not_false_eq_true, ne_eq, reduceCtorEq, eq_self, bind_s, c10, c01, c20, c30, c40, cl_0, inb_0, onI_l, onI_r, onV_l, onV_r, e2, b_M_finish_173]

