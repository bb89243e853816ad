/-! decide. -/
theorem r_st {b : Nat} {M W : Nat → Nat} {σ : Sg} (h : R b M W σ) {c : Nat} (hc : c < 4) (so : g_i σ 36 c = 2 ∨ g_i σ 36 c = 3) {τ : Sg} {s : Nat} (hs : SN b τ) (hF : ∀ a k, (a ≠ 19 + 2 * c ∨ (k ≠ 1 ∧ k ≠ 3)) ∧ ((a ≠ 36 ∧ a ≠ 38) ∨ k ≠ c) ∧ (a ≠ 27 ∨ k ≠ 0) → g_i τ a k = g_i σ a k) (hr : ∀ a k, g_r τ a k = g_r σ a k) (hs3 : 3 ≤ s) (hs5 : s ≤ 5) (v1 : g_i τ (19 + 2 * c) 1 = nI s) (v2 : g_i τ 36 c = nI s) (v3 : s = 3 → g_i τ (19 + 2 * c) 3 = g_i τ 38 c ∧ ∃ q, q < 4 ∧ g_i τ 38 c = nI q) : R b M W τ := by
  have ne0 : g_i σ 36 c ≠ 0 := by
    rcases so with q | q <;> rw [q] <;> decide
  have hb6 := h.r0.b60
  refine ⟨hs, by unfold Z1; simp (disch := omega) only [hF]; exact h.r1, ?_, ?_, ?_, ?_, ?_, ⟨?_, ?_⟩, ?_, ?_, ?_, ?_, ?_, ?_, ?_, ?_, ?_, ⟨?_, ?_, ?_⟩⟩
  · intro i hi; have q := h.r2 i hi; revert q; simp (disch := omega) only [hF]; exact id
  · intro i hi k hk; have q := h.r3 i hi k hk; revert q; simp (disch := omega) only [hF]; exact id
  · intro i hi k hk; have q := h.r4 i hi k hk; revert q; simp (disch := omega) only [hF]; exact id
  · intro i hi j hj k hk; have q := h.r5 i hi j hj k hk; revert q; simp (disch := omega) only [hF]; exact id
  · intro i hi u hu; have q := h.r6 i hi u hu; revert q; simp (disch := omega) only [hF]; exact id
  · intro i hi u hu hbu; have q := h.r7.1 i hi u hu hbu; revert q; simp (disch := omega) only [hF]; exact id
  · intro u hbu hu; have q := h.r7.2 u hbu hu; revert q; simp (disch := omega) only [hF]; exact id
  · intro d hd
    have q := h.r8 d hd
    by_cases e : d = c
    · subst e
      rw [v1, v2, hF _ _ (by omega), hF 39 d (by omega)]
      refine ⟨rfl, ⟨s, hs5, rfl⟩, q.2.2.1, fun e => ?_⟩
      rw [neq_3 (by omega)] at e
      exact v3 e
    · revert q; simp (disch := omega) only [hF]; exact id
  · intro d hd
    have q := h.r9 d hd
    rw [hr]
    by_cases e : d = c
    · subst e
      rw [v2, hF 37 d (by omega)]
      refine ⟨fun e => ?_, fun _ => q.2 ne0⟩
      rw [neq_0 (by omega)] at e
      omega
    · revert q; simp (disch := omega) only [hF]; exact id
  · intro d hd
    have q := h.r10 d hd
    by_cases e : d = c
    · subst e
      intro _
      obtain ⟨q1, m, hm, q2, q3⟩ := q ne0
      refine ⟨fun r hr => ?_, m, hm, ?_, fun r hr => ?_⟩
      · have := q1 r hr; revert this; simp (disch := omega) only [hF]; exact id
      · revert q2; simp (disch := omega) only [hF]; exact id
      · have := q3 r hr; revert this; simp (disch := omega) only [hF]; exact id
    · revert q
      intro q z
      have z' : g_i σ 36 d ≠ 0 := by revert z; simp (disch := omega) only [hF]; exact id
      obtain ⟨q1, m, hm, q2, q3⟩ := q z'
      refine ⟨fun r hr => ?_, m, hm, ?_, fun r hr => ?_⟩
      · have := q1 r hr; revert this; simp (disch := omega) only [hF]; exact id
      · revert q2; simp (disch := omega) only [hF]; exact id
      · have := q3 r hr; revert this; simp (disch := omega) only [hF]; exact id
  · intro u hu1 hu2
    obtain ⟨q1, q2, q3, q4⟩ := h.r11 u hu1 hu2
    refine ⟨by simp (disch := omega) only [hF]; exact q1, by simp (disch := omega) only [hF]; exact q2, ?_, ?_⟩
    · exact q3.cg (by simp (disch := omega) only [hF]) (by simp (disch := omega) only [hF]) (fun j hj => ⟨by simp (disch := omega) only [hF], by simp (disch := omega) only [hF], by simp (disch := omega) only [hF]⟩) (fun k' hk' => ⟨by simp (disch := omega) only [hF], by simp (disch := omega) only [hF]⟩)
    · exact q4.cg (by simp (disch := omega) only [hF]) (by simp (disch := omega) only [hF]) (fun j hj => ⟨by simp (disch := omega) only [hF], by simp (disch := omega) only [hF]⟩) (fun k' hk' => by simp (disch := omega) only [hF])
  · intro d hd d2 hd2 hne
    have q := h.r12 d hd d2 hd2 hne
    by_cases e : d = c
    · subst e
      simp (disch := omega) only [hF]
      intro _ z
      exact q ne0 z
    · by_cases e' : d2 = c
      · subst e'
        simp (disch := omega) only [hF]
        intro z _
        exact q z ne0
      · revert q; simp (disch := omega) only [hF]; exact id
  · intro d hd u hu
    have q := h.r13 d hd u hu
    by_cases e : d = c
    · subst e
      rw [v2]
      simp (disch := omega) only [hF]
      intro z
      refine ⟨fun e => ?_, fun _ => (q z).2 (by rcases so with so | so <;> simp [so])⟩
      rw [neq_1 (by omega)] at e
      omega
    · revert q; simp (disch := omega) only [hF]; exact id
  · intro i hi u hu1 hu2 k hk; have q := h.r14 i hi u hu1 hu2 k hk; revert q; simp (disch := omega) only [hF]; exact id
  · intro u hu1 hu2 i hi k hk; have q := h.r15 u hu1 hu2 i hi k hk; revert q; simp (disch := omega) only [hF]; exact id
  · intro u hu1 hu2 u' hu1' hu2' hne; have q := h.r16 u hu1 hu2 u' hu1' hu2' hne; revert q; simp (disch := omega) only [hF]; exact id
  · intro d hd; have q := h.r17.1 d hd; revert q; simp (disch := omega) only [hF]; exact id
  · intro u hu1 hu2; have q := h.r17.2.1 u hu1 hu2; revert q; simp only [Bd]; simp (disch := omega) only [hF]; exact id
  · intro i hi k hk; have q := h.r17.2.2 i hi k hk; revert q; simp only [Bd]; simp (disch := omega) only [hF]; exact id
theorem mct1_w {x w : Int32} (hw : ¬ w < 0) : mct1 x w = if x = w then 1 else 0 := by
  unfold mct1
  grind
theorem mct_aw {x y z w : Int32} (hw : ¬ w < 0) : mct x y z w = aw x y z w := by
  unfold mct aw
  rw [mct1_w hw, mct1_w hw, mct1_w hw]
theorem mrb_rb (x y z : Int32) : mrb x y z = rb x y z := by
  unfold mrb rb
  rw [mct_aw (by decide), mct_aw (by decide), mct_aw (by decide), mct_aw (by decide)]
  grind
abbrev al (x y z : Int32) : Prop := mct x y z 0 = 3 ∨ mct x y z 2 = 3 ∨ mct x y z 1 = 3
theorem al_e {x y z : Int32} (hx : Ra x) (hy : Ra y) (hz : Ra z) (hr : rb x y z ≠ 3) : ((if x = -1 then (0 : Int32) else if aw x y z x = 3 then 1 else 0) = 0 ↔ ¬ al x y z) := by
  unfold al
  revert hr
  rcases hx with rfl | rfl | rfl | rfl | rfl <;> rcases hy with rfl | rfl | rfl | rfl | rfl <;> rcases hz with rfl | rfl | rfl | rfl | rfl <;> decide +kernel
theorem rb_r (x y z : Int32) : ∃ q, q < 4 ∧ rb x y z = nI q := by
  unfold rb
  split
  · split
    · split
      · split
        · exact ⟨2, by omega, rfl⟩
        · exact ⟨3, by omega, rfl⟩
      · exact ⟨2, by omega, rfl⟩
    · exact ⟨0, by omega, rfl⟩
  · exact ⟨2, by omega, rfl⟩
theorem mdec_c {b : Nat} {σ : Sg} (h : SN b σ) {c : Nat} (hc : c < 4) : f_M_decide σ 27 (nI c) = b_M_decide_36 σ 27 (nI c) 27 (if g_i σ 36 c = 2 ∧ 2 ≤ (mct (g_i σ 40 (3 * c)) (g_i σ 40 (3 * c + 1)) (g_i σ 40 (3 * c + 2)) (-1)) then 0 else 2) := by
  have := mct_le (g_i σ 40 (3 * c)) (g_i σ 40 (3 * c + 1)) (g_i σ 40 (3 * c + 2)) (-1)
  simp (disch := omega) only [↓reduceIte, ↓wi_e, ↓wn_e, ↓rc_i, ↓rc_l, ↓h.q0, ↓h.q1, ↓h.q2, ↓h.qr, ↓h.qc, ↓h.qr2, ↓h.qr3, ↓h.qr4, ↓h.qr5, ↓h.qc5, ↓h.qt, ↓h.qt4, ↓h.qt5, ↓h.qt6, ↓h.qm2, ↓h.qm3, ↓h.qm4, ↓h.qm5, ↓h.qm6, ↓h.qm7, ↓h.qm8, ↓h.qm9, ↓h.qm10, ↓h.qm11, ↓h.qm12, ↓h.qm13, ↓h.qm14, ↓h.qm15, ↓h.qm16, ↓h.qm17, ↓h.qm18, ↓h.qm19, ↓h.qm20, ↓h.qm21, ↓h.qm22, ↓h.qm23, ↓h.qm24, h.lt, kd_0, kd_1, kd_2, kd_3, kd_r, kd_ra, kd_rb, kd_rc, kd_rd, ln_ra, ln_rb, ln_rc, ln_rd, kd_c, kd_ca, ln_ca, kd_t, kd_ta, kd_tb, kd_tc, ln_ta, ln_tb, ln_tc, ln_1, ln_2, ln_3, ln_51, kd_27, kd_28, kd_29, kd_30, kd_31, kd_32, kd_33, kd_34, kd_35, kd_36, kd_37, kd_38, kd_39, kd_40, kd_41, kd_42, kd_43, kd_44, kd_45, kd_46, kd_47, kd_48, kd_49, kd_50, kd_51, ln_28, ln_29, ln_30, ln_31, ln_32, ln_33, ln_34, ln_35, ln_36, ln_37, ln_38, ln_39, ln_40, ln_41, ln_42, ln_43, ln_44, ln_45, ln_46, ln_47, ln_48, ln_49, ln_50, inb_n, cl_n, g_n_s_i, g_n_s_l, mul_3, mul_4, mul_6, mul_61, nI_add, nI_1, nle_0, nle_1, nle_2, nle_3, nle_4, nle_5, nle_6, nle_7, nle_60, nle_61, nlt_0, nlt_1, nlt_2, nlt_3, nlt_4, nlt_5, nlt_6, nlt_7, nlt_60, nlt_61, nge_0, nge_1, nge_2, nge_3, nge_4, nge_5, nge_6, nge_7, nge_60, nge_61, ngt_0, ngt_1, ngt_2, ngt_3, ngt_4, ngt_5, ngt_6, ngt_7, ngt_60, ngt_61, neq_0, neq_1, neq_2, neq_3, neq_4, neq_5, neq_6, neq_7, neq_60, neq_61, Nat.not_lt_zero, and_self, and_true, true_and, or_true, true_or, if_true, if_false, or_self, and_false, false_and, or_false, false_or, not_true_eq_false, not_false_eq_true, ne_eq, reduceCtorEq, eq_self, bind_s, c10, c01, c20, c30, c40, cl_0, inb_0, onI_l, onI_r, onV_l, onV_r, f_M_decide, b_M_decide_31, ↓bq (p_mC1 hc), ↓bq (p_stateOf h hc), ↓bq (p_mcount h hc _)]
  grind
theorem mdec_36 {b : Nat} {σ : Sg} (h : SN b σ) (x z : Int32) (hx : z ≠ 0) : b_M_decide_36 σ 27 x 27 z = some (0, s_i σ 27 0 z) := by
  simp (disch := omega) only [↓reduceIte, ↓wi_e, ↓wn_e, ↓rc_i, ↓rc_l, ↓h.q0, ↓h.q1, ↓h.q2, ↓h.qr, ↓h.qc, ↓h.qr2, ↓h.qr3, ↓h.qr4, ↓h.qr5, ↓h.qc5, ↓h.qt, ↓h.qt4, ↓h.qt5, ↓h.qt6, ↓h.qm2, ↓h.qm3, ↓h.qm4, ↓h.qm5, ↓h.qm6, ↓h.qm7, ↓h.qm8, ↓h.qm9, ↓h.qm10, ↓h.qm11, ↓h.qm12, ↓h.qm13, ↓h.qm14, ↓h.qm15, ↓h.qm16, ↓h.qm17, ↓h.qm18, ↓h.qm19, ↓h.qm20, ↓h.qm21, ↓h.qm22, ↓h.qm23, ↓h.qm24, h.lt, kd_0, kd_1, kd_2, kd_3, kd_r, kd_ra, kd_rb, kd_rc, kd_rd, ln_ra, ln_rb, ln_rc, ln_rd, kd_c, kd_ca, ln_ca, kd_t, kd_ta, kd_tb, kd_tc, ln_ta, ln_tb, ln_tc, ln_1, ln_2, ln_3, ln_51, kd_27, kd_28, kd_29, kd_30, kd_31, kd_32, kd_33, kd_34, kd_35, kd_36, kd_37, kd_38, kd_39, kd_40, kd_41, kd_42, kd_43, kd_44, kd_45, kd_46, kd_47, kd_48, kd_49, kd_50, kd_51, ln_28, ln_29, ln_30, ln_31, ln_32, ln_33, ln_34, ln_35, ln_36, ln_37, ln_38, ln_39, ln_40, ln_41, ln_42, ln_43, ln_44, ln_45, ln_46, ln_47, ln_48, ln_49, ln_50, inb_n, cl_n, g_n_s_i, g_n_s_l, mul_3, mul_4, mul_6, mul_61, nI_add, nI_1, nle_0, nle_1, nle_2, nle_3, nle_4, nle_5, nle_6, nle_7, nle_60, nle_61, nlt_0, nlt_1, nlt_2, nlt_3, nlt_4, nlt_5, nlt_6, nlt_7, nlt_60, nlt_61, nge_0, nge_1, nge_2, nge_3, nge_4, nge_5, nge_6, nge_7, nge_60, nge_61, ngt_0, ngt_1, ngt_2, ngt_3, ngt_4, ngt_5, ngt_6, ngt_7, ngt_60, ngt_61, neq_0, neq_1, neq_2, neq_3, neq_4, neq_5, neq_6, neq_7, neq_60, neq_61, Nat.not_lt_zero, and_self, and_true, true_and, or_true, true_or, if_true, if_false, or_self, and_false, false_and, or_false, false_or, not_true_eq_false, not_false_eq_true, ne_eq, reduceCtorEq, eq_self, bind_s, c10, c01, c20, c30, c40, cl_0, inb_0, onI_l, onI_r, onV_l, onV_r, b_M_decide_36, ↓bq (p_says h _), hx]
theorem mdec_a {b : Nat} {σ : Sg} (h : SN b σ) {c : Nat} (hc : c < 4) (x : Int32) (hx : x = (mrb (g_i σ 40 (3 * c)) (g_i σ 40 (3 * c + 1)) (g_i σ 40 (3 * c + 2)))) : b_M_decide_36 σ 27 (nI c) 27 0 = if x = 3 then some (3, s_i σ 27 0 0) else if al (g_i σ 40 (3 * c)) (g_i σ 40 (3 * c + 1)) (g_i σ 40 (3 * c + 2)) then some (x, s_i (s_i (s_i σ 27 0 0) 38 c x) 36 c (if x = 0 then 4 else 5)) else some (x, s_i (s_i (s_i σ 27 0 0) 38 c x) 36 c 3) := by
  have h1 : SN b (s_i σ 27 0 0) := h
  have q0 := mct_le (g_i σ 40 (3 * c)) (g_i σ 40 (3 * c + 1)) (g_i σ 40 (3 * c + 2)) 0
  have q1 := mct_le (g_i σ 40 (3 * c)) (g_i σ 40 (3 * c + 1)) (g_i σ 40 (3 * c + 2)) 1
  have q2 := mct_le (g_i σ 40 (3 * c)) (g_i σ 40 (3 * c + 1)) (g_i σ 40 (3 * c + 2)) 2
  have pb := p_byRule h1 hc
  have p0 := p_mcount h1 hc 0
  have p1 := p_mcount h1 hc 1
  have p2 := p_mcount h1 hc 2
  rw [gi_n (by omega), gi_n (by omega), gi_n (by omega)] at pb p0 p1 p2
  rw [← hx] at pb
  rw [b_M_decide_36, if_pos ⟨by rw [h.1]; omega, rfl⟩, bq (p_says h _)]
  dsimp only
  simp (disch := omega) only [↓reduceIte, ↓wi_e, ↓wn_e, ↓rc_i, ↓rc_l, ↓h.q0, ↓h.q1, ↓h.q2, ↓h.qr, ↓h.qc, ↓h.qr2, ↓h.qr3, ↓h.qr4, ↓h.qr5, ↓h.qc5, ↓h.qt, ↓h.qt4, ↓h.qt5, ↓h.qt6, ↓h.qm2, ↓h.qm3, ↓h.qm4, ↓h.qm5, ↓h.qm6, ↓h.qm7, ↓h.qm8, ↓h.qm9, ↓h.qm10, ↓h.qm11, ↓h.qm12, ↓h.qm13, ↓h.qm14, ↓h.qm15, ↓h.qm16, ↓h.qm17, ↓h.qm18, ↓h.qm19, ↓h.qm20, ↓h.qm21, ↓h.qm22, ↓h.qm23, ↓h.qm24, h.lt, kd_0, kd_1, kd_2, kd_3, kd_r, kd_ra, kd_rb, kd_rc, kd_rd, ln_ra, ln_rb, ln_rc, ln_rd, kd_c, kd_ca, ln_ca, kd_t, kd_ta, kd_tb, kd_tc, ln_ta, ln_tb, ln_tc, ln_1, ln_2, ln_3, ln_51, kd_27, kd_28, kd_29, kd_30, kd_31, kd_32, kd_33, kd_34, kd_35, kd_36, kd_37, kd_38, kd_39, kd_40, kd_41, kd_42, kd_43, kd_44, kd_45, kd_46, kd_47, kd_48, kd_49, kd_50, kd_51, ln_28, ln_29, ln_30, ln_31, ln_32, ln_33, ln_34, ln_35, ln_36, ln_37, ln_38, ln_39, ln_40, ln_41, ln_42, ln_43, ln_44, ln_45, ln_46, ln_47, ln_48, ln_49, ln_50, inb_n, cl_n, g_n_s_i, g_n_s_l, mul_3, mul_4, mul_6, mul_61, nI_add, nI_1, nle_0, nle_1, nle_2, nle_3, nle_4, nle_5, nle_6, nle_7, nle_60, nle_61, nlt_0, nlt_1, nlt_2, nlt_3, nlt_4, nlt_5, nlt_6, nlt_7, nlt_60, nlt_61, nge_0, nge_1, nge_2, nge_3, nge_4, nge_5, nge_6, nge_7, nge_60, nge_61, ngt_0, ngt_1, ngt_2, ngt_3, ngt_4, ngt_5, ngt_6, ngt_7, ngt_60, ngt_61, neq_0, neq_1, neq_2, neq_3, neq_4, neq_5, neq_6, neq_7, neq_60, neq_61, Nat.not_lt_zero, and_self, and_true, true_and, or_true, true_or, if_true, if_false, or_self, and_false, false_and, or_false, false_or, not_true_eq_false, not_false_eq_true, ne_eq, reduceCtorEq, eq_self, bind_s, c10, c01, c20, c30, c40, cl_0, inb_0, onI_l, onI_r, onV_l, onV_r, ↓bq pb, ↓bq p0, ↓bq p1, ↓bq p2, b_M_decide_87, b_M_decide_92, b_M_decide_122]
  unfold al
  by_cases e : x = 3
  · rw [if_pos e, if_pos e]
  · rw [if_neg e, if_neg e]
    grind
theorem o_decide {b : Nat} {M W : Nat → Nat} {σ : Sg} (h : R b M W σ) (x : Int32) : OpI (f_L_decide σ 0 x 51) (fun s => f_M_decide s 27 x) (fun v => v.toInt64) := by
  have h0 := h.r0
  have hb6 := h0.b60
  rcases oor4 (x := x) with ⟨c, hc, rfl⟩ | hx
  rotate_left
  · refine OpI.bad h (k := 1) (by decide) (v := 0) ?_ ?_
    · simp (disch := omega) only [↓reduceIte, ↓wi_e, ↓wn_e, ↓rc_i, ↓rc_l, ↓h0.q0, ↓h0.q1, ↓h0.q2, ↓h0.qr, ↓h0.qc, ↓h0.qr2, ↓h0.qr3, ↓h0.qr4, ↓h0.qr5, ↓h0.qc5, ↓h0.qt, ↓h0.qt4, ↓h0.qt5, ↓h0.qt6, ↓h0.qm2, ↓h0.qm3, ↓h0.qm4, ↓h0.qm5, ↓h0.qm6, ↓h0.qm7, ↓h0.qm8, ↓h0.qm9, ↓h0.qm10, ↓h0.qm11, ↓h0.qm12, ↓h0.qm13, ↓h0.qm14, ↓h0.qm15, ↓h0.qm16, ↓h0.qm17, ↓h0.qm18, ↓h0.qm19, ↓h0.qm20, ↓h0.qm21, ↓h0.qm22, ↓h0.qm23, ↓h0.qm24, h0.lt, kd_0, kd_1, kd_2, kd_3, kd_r, kd_ra, kd_rb, kd_rc, kd_rd, ln_ra, ln_rb, ln_rc, ln_rd, kd_c, kd_ca, ln_ca, kd_t, kd_ta, kd_tb, kd_tc, ln_ta, ln_tb, ln_tc, ln_1, ln_2, ln_3, ln_51, kd_27, kd_28, kd_29, kd_30, kd_31, kd_32, kd_33, kd_34, kd_35, kd_36, kd_37, kd_38, kd_39, kd_40, kd_41, kd_42, kd_43, kd_44, kd_45, kd_46, kd_47, kd_48, kd_49, kd_50, kd_51, ln_28, ln_29, ln_30, ln_31, ln_32, ln_33, ln_34, ln_35, ln_36, ln_37, ln_38, ln_39, ln_40, ln_41, ln_42, ln_43, ln_44, ln_45, ln_46, ln_47, ln_48, ln_49, ln_50, inb_n, cl_n, g_n_s_i, g_n_s_l, mul_3, mul_4, mul_6, mul_61, nI_add, nI_1, nle_0, nle_1, nle_2, nle_3, nle_4, nle_5, nle_6, nle_7, nle_60, nle_61, nlt_0, nlt_1, nlt_2, nlt_3, nlt_4, nlt_5, nlt_6, nlt_7, nlt_60, nlt_61, nge_0, nge_1, nge_2, nge_3, nge_4, nge_5, nge_6, nge_7, nge_60, nge_61, ngt_0, ngt_1, ngt_2, ngt_3, ngt_4, ngt_5, ngt_6, ngt_7, ngt_60, ngt_61, neq_0, neq_1, neq_2, neq_3, neq_4, neq_5, neq_6, neq_7, neq_60, neq_61, Nat.not_lt_zero, and_self, and_true, true_and, or_true, true_or, if_true, if_false, or_self, and_false, false_and, or_false, false_or, not_true_eq_false, not_false_eq_true, ne_eq, reduceCtorEq, eq_self, bind_s, c10, c01, c20, c30, c40, cl_0, inb_0, onI_l, onI_r, onV_l, onV_r, f_L_decide, b_G_decide_40, b_G_decide_82, f_G_decide, ↓bq (p_isC0 hx)]
    · simp (disch := omega) only [↓reduceIte, ↓wi_e, ↓wn_e, ↓rc_i, ↓rc_l, ↓h0.q0, ↓h0.q1, ↓h0.q2, ↓h0.qr, ↓h0.qc, ↓h0.qr2, ↓h0.qr3, ↓h0.qr4, ↓h0.qr5, ↓h0.qc5, ↓h0.qt, ↓h0.qt4, ↓h0.qt5, ↓h0.qt6, ↓h0.qm2, ↓h0.qm3, ↓h0.qm4, ↓h0.qm5, ↓h0.qm6, ↓h0.qm7, ↓h0.qm8, ↓h0.qm9, ↓h0.qm10, ↓h0.qm11, ↓h0.qm12, ↓h0.qm13, ↓h0.qm14, ↓h0.qm15, ↓h0.qm16, ↓h0.qm17, ↓h0.qm18, ↓h0.qm19, ↓h0.qm20, ↓h0.qm21, ↓h0.qm22, ↓h0.qm23, ↓h0.qm24, h0.lt, kd_0, kd_1, kd_2, kd_3, kd_r, kd_ra, kd_rb, kd_rc, kd_rd, ln_ra, ln_rb, ln_rc, ln_rd, kd_c, kd_ca, ln_ca, kd_t, kd_ta, kd_tb, kd_tc, ln_ta, ln_tb, ln_tc, ln_1, ln_2, ln_3, ln_51, kd_27, kd_28, kd_29, kd_30, kd_31, kd_32, kd_33, kd_34, kd_35, kd_36, kd_37, kd_38, kd_39, kd_40, kd_41, kd_42, kd_43, kd_44, kd_45, kd_46, kd_47, kd_48, kd_49, kd_50, kd_51, ln_28, ln_29, ln_30, ln_31, ln_32, ln_33, ln_34, ln_35, ln_36, ln_37, ln_38, ln_39, ln_40, ln_41, ln_42, ln_43, ln_44, ln_45, ln_46, ln_47, ln_48, ln_49, ln_50, inb_n, cl_n, g_n_s_i, g_n_s_l, mul_3, mul_4, mul_6, mul_61, nI_add, nI_1, nle_0, nle_1, nle_2, nle_3, nle_4, nle_5, nle_6, nle_7, nle_60, nle_61, nlt_0, nlt_1, nlt_2, nlt_3, nlt_4, nlt_5, nlt_6, nlt_7, nlt_60, nlt_61, nge_0, nge_1, nge_2, nge_3, nge_4, nge_5, nge_6, nge_7, nge_60, nge_61, ngt_0, ngt_1, ngt_2, ngt_3, ngt_4, ngt_5, ngt_6, ngt_7, ngt_60, ngt_61, neq_0, neq_1, neq_2, neq_3, neq_4, neq_5, neq_6, neq_7, neq_60, neq_61, Nat.not_lt_zero, and_self, and_true, true_and, or_true, true_or, if_true, if_false, or_self, and_false, false_and, or_false, false_or, not_true_eq_false, not_false_eq_true, ne_eq, reduceCtorEq, eq_self, bind_s, c10, c01, c20, c30, c40, cl_0, inb_0, onI_l, onI_r, onV_l, onV_r, f_M_decide, b_M_decide_36, ↓bq (p_mC0 hx), ↓bq (p_says h0 _)]
  obtain ⟨e1, ⟨s, hs5, es⟩, e3, e4⟩ := h.r8 c hc
  by_cases s2 : g_i σ 36 c = 2
  rotate_left
  · refine OpI.bad h (k := 2) (by decide) (v := 0) ?_ ?_
    · simp (disch := omega) only [↓reduceIte, ↓wi_e, ↓wn_e, ↓rc_i, ↓rc_l, ↓h0.q0, ↓h0.q1, ↓h0.q2, ↓h0.qr, ↓h0.qc, ↓h0.qr2, ↓h0.qr3, ↓h0.qr4, ↓h0.qr5, ↓h0.qc5, ↓h0.qt, ↓h0.qt4, ↓h0.qt5, ↓h0.qt6, ↓h0.qm2, ↓h0.qm3, ↓h0.qm4, ↓h0.qm5, ↓h0.qm6, ↓h0.qm7, ↓h0.qm8, ↓h0.qm9, ↓h0.qm10, ↓h0.qm11, ↓h0.qm12, ↓h0.qm13, ↓h0.qm14, ↓h0.qm15, ↓h0.qm16, ↓h0.qm17, ↓h0.qm18, ↓h0.qm19, ↓h0.qm20, ↓h0.qm21, ↓h0.qm22, ↓h0.qm23, ↓h0.qm24, h0.lt, kd_0, kd_1, kd_2, kd_3, kd_r, kd_ra, kd_rb, kd_rc, kd_rd, ln_ra, ln_rb, ln_rc, ln_rd, kd_c, kd_ca, ln_ca, kd_t, kd_ta, kd_tb, kd_tc, ln_ta, ln_tb, ln_tc, ln_1, ln_2, ln_3, ln_51, kd_27, kd_28, kd_29, kd_30, kd_31, kd_32, kd_33, kd_34, kd_35, kd_36, kd_37, kd_38, kd_39, kd_40, kd_41, kd_42, kd_43, kd_44, kd_45, kd_46, kd_47, kd_48, kd_49, kd_50, kd_51, ln_28, ln_29, ln_30, ln_31, ln_32, ln_33, ln_34, ln_35, ln_36, ln_37, ln_38, ln_39, ln_40, ln_41, ln_42, ln_43, ln_44, ln_45, ln_46, ln_47, ln_48, ln_49, ln_50, inb_n, cl_n, g_n_s_i, g_n_s_l, mul_3, mul_4, mul_6, mul_61, nI_add, nI_1, nle_0, nle_1, nle_2, nle_3, nle_4, nle_5, nle_6, nle_7, nle_60, nle_61, nlt_0, nlt_1, nlt_2, nlt_3, nlt_4, nlt_5, nlt_6, nlt_7, nlt_60, nlt_61, nge_0, nge_1, nge_2, nge_3, nge_4, nge_5, nge_6, nge_7, nge_60, nge_61, ngt_0, ngt_1, ngt_2, ngt_3, ngt_4, ngt_5, ngt_6, ngt_7, ngt_60, ngt_61, neq_0, neq_1, neq_2, neq_3, neq_4, neq_5, neq_6, neq_7, neq_60, neq_61, Nat.not_lt_zero, and_self, and_true, true_and, or_true, true_or, if_true, if_false, or_self, and_false, false_and, or_false, false_or, not_true_eq_false, not_false_eq_true, ne_eq, reduceCtorEq, eq_self, bind_s, c10, c01, c20, c30, c40, cl_0, inb_0, onI_l, onI_r, onV_l, onV_r, f_L_decide, b_G_decide_40, b_G_decide_82, f_G_decide, ↓bq (p_isC1 hc), e1, s2, sx_0, sx_1, sx_2, sx_3, sx_4, sx_5, sx_6, sx_7, sx_8, sx_9, sx_10, sx_11]
    · show f_M_decide _ _ _ = _
      rw [mdec_c h0 hc, if_neg (fun q => s2 q.1), mdec_36 h0 _ 2 (by decide)]
  obtain ⟨a1, m, hm, a2, a3⟩ := h.r10 c hc (by rw [s2]; decide)
  have A0 := a1 0 (by omega)
  have A1 := a1 1 (by omega)
  have A2 := a1 2 (by omega)
  rw [Nat.add_zero] at A0
  have k5 := aw_mct A0.2 A1.2 A2.2
  have pac := p_answerCount h0 hc
  rw [k5] at pac
  have prb := p_resultByAnswers h0 hc
  have pal := p_alike h0 hc
  rw [A0.1, A1.1, A2.1] at pac prb pal
  have mle := mct_le (g_i σ 40 (3 * c)) (g_i σ 40 (3 * c + 1)) (g_i σ 40 (3 * c + 2)) (-1)
  have mr := mrb_rb (g_i σ 40 (3 * c)) (g_i σ 40 (3 * c + 1)) (g_i σ 40 (3 * c + 2))
  have R0 := A0.2
  have R1 := A1.2
  have R2 := A2.2
  rw [A0.1] at R0
  rw [A1.1] at R1
  rw [A2.1] at R2
  have ale := al_e R0 R1 R2
  obtain ⟨rq1, hrq, erq⟩ := rb_r (g_i σ 40 (3 * c)) (g_i σ 40 (3 * c + 1)) (g_i σ 40 (3 * c + 2))
  by_cases m2 : 2 ≤ (mct (g_i σ 40 (3 * c)) (g_i σ 40 (3 * c + 1)) (g_i σ 40 (3 * c + 2)) (-1))
  rotate_left
  · refine OpI.bad h (k := 2) (by decide) (v := 0) ?_ ?_
    · simp (disch := omega) only [↓reduceIte, ↓wi_e, ↓wn_e, ↓rc_i, ↓rc_l, ↓h0.q0, ↓h0.q1, ↓h0.q2, ↓h0.qr, ↓h0.qc, ↓h0.qr2, ↓h0.qr3, ↓h0.qr4, ↓h0.qr5, ↓h0.qc5, ↓h0.qt, ↓h0.qt4, ↓h0.qt5, ↓h0.qt6, ↓h0.qm2, ↓h0.qm3, ↓h0.qm4, ↓h0.qm5, ↓h0.qm6, ↓h0.qm7, ↓h0.qm8, ↓h0.qm9, ↓h0.qm10, ↓h0.qm11, ↓h0.qm12, ↓h0.qm13, ↓h0.qm14, ↓h0.qm15, ↓h0.qm16, ↓h0.qm17, ↓h0.qm18, ↓h0.qm19, ↓h0.qm20, ↓h0.qm21, ↓h0.qm22, ↓h0.qm23, ↓h0.qm24, h0.lt, kd_0, kd_1, kd_2, kd_3, kd_r, kd_ra, kd_rb, kd_rc, kd_rd, ln_ra, ln_rb, ln_rc, ln_rd, kd_c, kd_ca, ln_ca, kd_t, kd_ta, kd_tb, kd_tc, ln_ta, ln_tb, ln_tc, ln_1, ln_2, ln_3, ln_51, kd_27, kd_28, kd_29, kd_30, kd_31, kd_32, kd_33, kd_34, kd_35, kd_36, kd_37, kd_38, kd_39, kd_40, kd_41, kd_42, kd_43, kd_44, kd_45, kd_46, kd_47, kd_48, kd_49, kd_50, kd_51, ln_28, ln_29, ln_30, ln_31, ln_32, ln_33, ln_34, ln_35, ln_36, ln_37, ln_38, ln_39, ln_40, ln_41, ln_42, ln_43, ln_44, ln_45, ln_46, ln_47, ln_48, ln_49, ln_50, inb_n, cl_n, g_n_s_i, g_n_s_l, mul_3, mul_4, mul_6, mul_61, nI_add, nI_1, nle_0, nle_1, nle_2, nle_3, nle_4, nle_5, nle_6, nle_7, nle_60, nle_61, nlt_0, nlt_1, nlt_2, nlt_3, nlt_4, nlt_5, nlt_6, nlt_7, nlt_60, nlt_61, nge_0, nge_1, nge_2, nge_3, nge_4, nge_5, nge_6, nge_7, nge_60, nge_61, ngt_0, ngt_1, ngt_2, ngt_3, ngt_4, ngt_5, ngt_6, ngt_7, ngt_60, ngt_61, neq_0, neq_1, neq_2, neq_3, neq_4, neq_5, neq_6, neq_7, neq_60, neq_61, Nat.not_lt_zero, and_self, and_true, true_and, or_true, true_or, if_true, if_false, or_self, and_false, false_and, or_false, false_or, not_true_eq_false, not_false_eq_true, ne_eq, reduceCtorEq, eq_self, bind_s, c10, c01, c20, c30, c40, cl_0, inb_0, onI_l, onI_r, onV_l, onV_r, f_L_decide, b_G_decide_40, b_G_decide_82, f_G_decide, ↓bq (p_isC1 hc), e1, s2, ↓bq pac, m2, sx_0, sx_1, sx_2, sx_3, sx_4, sx_5, sx_6, sx_7, sx_8, sx_9, sx_10, sx_11]
    · show f_M_decide _ _ _ = _
      rw [mdec_c h0 hc, if_neg (fun q => m2 q.2), mdec_36 h0 _ 2 (by decide)]
  generalize hX : rb (g_i σ 40 (3 * c)) (g_i σ 40 (3 * c + 1)) (g_i σ 40 (3 * c + 2)) = X at *
  by_cases x3 : X = 3
  · have hR := (h.lg 51 0 (3 : Int32).toInt64).cg 0
    refine ⟨0, s_l σ 51 0 (3 : Int32).toInt64, 3, _, b, M, W, ?_, h.n27, ?_, g270 _ _, fun _ => by rw [g_l_s_i, g510], hR⟩
    · simp (disch := omega) only [↓reduceIte, ↓wi_e, ↓wn_e, ↓rc_i, ↓rc_l, ↓h0.q0, ↓h0.q1, ↓h0.q2, ↓h0.qr, ↓h0.qc, ↓h0.qr2, ↓h0.qr3, ↓h0.qr4, ↓h0.qr5, ↓h0.qc5, ↓h0.qt, ↓h0.qt4, ↓h0.qt5, ↓h0.qt6, ↓h0.qm2, ↓h0.qm3, ↓h0.qm4, ↓h0.qm5, ↓h0.qm6, ↓h0.qm7, ↓h0.qm8, ↓h0.qm9, ↓h0.qm10, ↓h0.qm11, ↓h0.qm12, ↓h0.qm13, ↓h0.qm14, ↓h0.qm15, ↓h0.qm16, ↓h0.qm17, ↓h0.qm18, ↓h0.qm19, ↓h0.qm20, ↓h0.qm21, ↓h0.qm22, ↓h0.qm23, ↓h0.qm24, h0.lt, kd_0, kd_1, kd_2, kd_3, kd_r, kd_ra, kd_rb, kd_rc, kd_rd, ln_ra, ln_rb, ln_rc, ln_rd, kd_c, kd_ca, ln_ca, kd_t, kd_ta, kd_tb, kd_tc, ln_ta, ln_tb, ln_tc, ln_1, ln_2, ln_3, ln_51, kd_27, kd_28, kd_29, kd_30, kd_31, kd_32, kd_33, kd_34, kd_35, kd_36, kd_37, kd_38, kd_39, kd_40, kd_41, kd_42, kd_43, kd_44, kd_45, kd_46, kd_47, kd_48, kd_49, kd_50, kd_51, ln_28, ln_29, ln_30, ln_31, ln_32, ln_33, ln_34, ln_35, ln_36, ln_37, ln_38, ln_39, ln_40, ln_41, ln_42, ln_43, ln_44, ln_45, ln_46, ln_47, ln_48, ln_49, ln_50, inb_n, cl_n, g_n_s_i, g_n_s_l, mul_3, mul_4, mul_6, mul_61, nI_add, nI_1, nle_0, nle_1, nle_2, nle_3, nle_4, nle_5, nle_6, nle_7, nle_60, nle_61, nlt_0, nlt_1, nlt_2, nlt_3, nlt_4, nlt_5, nlt_6, nlt_7, nlt_60, nlt_61, nge_0, nge_1, nge_2, nge_3, nge_4, nge_5, nge_6, nge_7, nge_60, nge_61, ngt_0, ngt_1, ngt_2, ngt_3, ngt_4, ngt_5, ngt_6, ngt_7, ngt_60, ngt_61, neq_0, neq_1, neq_2, neq_3, neq_4, neq_5, neq_6, neq_7, neq_60, neq_61, Nat.not_lt_zero, and_self, and_true, true_and, or_true, true_or, if_true, if_false, or_self, and_false, false_and, or_false, false_or, not_true_eq_false, not_false_eq_true, ne_eq, reduceCtorEq, eq_self, bind_s, c10, c01, c20, c30, c40, cl_0, inb_0, onI_l, onI_r, onV_l, onV_r, f_L_decide, b_G_decide_40, b_G_decide_82, f_G_decide, ↓bq (p_isC1 hc), e1, s2, ↓bq pac, m2, ↓bq prb, x3]
    · show f_M_decide _ _ _ = _
      rw [mdec_c (by exact h0) hc, if_pos (by simp only [g_i_s_l]; exact ⟨s2, m2⟩), mdec_a (by exact h0) hc X (by simp only [g_i_s_l]; exact mr.symm), if_pos x3]
  have ale := ale x3
  by_cases hal : al (g_i σ 40 (3 * c)) (g_i σ 40 (3 * c + 1)) (g_i σ 40 (3 * c + 2))
  · have v6 : ¬ (if g_i σ 40 (3 * c) = -1 then (0 : Int32) else if aw (g_i σ 40 (3 * c)) (g_i σ 40 (3 * c + 1)) (g_i σ 40 (3 * c + 2)) (g_i σ 40 (3 * c)) = 3 then 1 else 0) = 0 := fun q => (ale.mp q) hal
    have g : f_G_decide σ 0 (nI c) = some (.inl (some (.int X)), s_i σ (19 + 2 * c) 1 (if X = 0 then 4 else 5)) := by
      simp (disch := omega) only [↓reduceIte, ↓wi_e, ↓wn_e, ↓rc_i, ↓rc_l, ↓h0.q0, ↓h0.q1, ↓h0.q2, ↓h0.qr, ↓h0.qc, ↓h0.qr2, ↓h0.qr3, ↓h0.qr4, ↓h0.qr5, ↓h0.qc5, ↓h0.qt, ↓h0.qt4, ↓h0.qt5, ↓h0.qt6, ↓h0.qm2, ↓h0.qm3, ↓h0.qm4, ↓h0.qm5, ↓h0.qm6, ↓h0.qm7, ↓h0.qm8, ↓h0.qm9, ↓h0.qm10, ↓h0.qm11, ↓h0.qm12, ↓h0.qm13, ↓h0.qm14, ↓h0.qm15, ↓h0.qm16, ↓h0.qm17, ↓h0.qm18, ↓h0.qm19, ↓h0.qm20, ↓h0.qm21, ↓h0.qm22, ↓h0.qm23, ↓h0.qm24, h0.lt, kd_0, kd_1, kd_2, kd_3, kd_r, kd_ra, kd_rb, kd_rc, kd_rd, ln_ra, ln_rb, ln_rc, ln_rd, kd_c, kd_ca, ln_ca, kd_t, kd_ta, kd_tb, kd_tc, ln_ta, ln_tb, ln_tc, ln_1, ln_2, ln_3, ln_51, kd_27, kd_28, kd_29, kd_30, kd_31, kd_32, kd_33, kd_34, kd_35, kd_36, kd_37, kd_38, kd_39, kd_40, kd_41, kd_42, kd_43, kd_44, kd_45, kd_46, kd_47, kd_48, kd_49, kd_50, kd_51, ln_28, ln_29, ln_30, ln_31, ln_32, ln_33, ln_34, ln_35, ln_36, ln_37, ln_38, ln_39, ln_40, ln_41, ln_42, ln_43, ln_44, ln_45, ln_46, ln_47, ln_48, ln_49, ln_50, inb_n, cl_n, g_n_s_i, g_n_s_l, mul_3, mul_4, mul_6, mul_61, nI_add, nI_1, nle_0, nle_1, nle_2, nle_3, nle_4, nle_5, nle_6, nle_7, nle_60, nle_61, nlt_0, nlt_1, nlt_2, nlt_3, nlt_4, nlt_5, nlt_6, nlt_7, nlt_60, nlt_61, nge_0, nge_1, nge_2, nge_3, nge_4, nge_5, nge_6, nge_7, nge_60, nge_61, ngt_0, ngt_1, ngt_2, ngt_3, ngt_4, ngt_5, ngt_6, ngt_7, ngt_60, ngt_61, neq_0, neq_1, neq_2, neq_3, neq_4, neq_5, neq_6, neq_7, neq_60, neq_61, Nat.not_lt_zero, and_self, and_true, true_and, or_true, true_or, if_true, if_false, or_self, and_false, false_and, or_false, false_or, not_true_eq_false, not_false_eq_true, ne_eq, reduceCtorEq, eq_self, bind_s, c10, c01, c20, c30, c40, cl_0, inb_0, onI_l, onI_r, onV_l, onV_r, b_G_decide_40, b_G_decide_82, f_G_decide, b_C_settle_10, f_C_settle, ↓bq (p_isC1 hc), e1, s2, ↓bq pac, m2, ↓bq prb, x3, ↓bq pal, v6]
      split <;> rfl
    have hR : R b M W (s_i (s_i (s_i (s_l (s_i σ (19 + 2 * c) 1 (if X = 0 then 4 else 5)) 51 0 X.toInt64) 27 0 0) 38 c X) 36 c (if X = 0 then 4 else 5)) := by
      refine r_st h hc (Or.inl s2) (s := if X = 0 then 4 else 5) h0 ?_ (fun _ _ => rfl) ?_ ?_ ?_ ?_ ?_
      · intro a k q
        simp (disch := omega) only [gi_n, gi_s, g_i_s_l]
      · split <;> omega
      · split <;> omega
      · simp (disch := omega) only [gi_n, gi_s, g_i_s_l]; split <;> rfl
      · simp (disch := omega) only [gi_n, gi_s, g_i_s_l]; split <;> rfl
      · intro q; split at q <;> omega
    generalize hw : (if X = 0 then (4 : Int32) else 5) = w at g hR
    refine ⟨0, s_l (s_i σ (19 + 2 * c) 1 w) 51 0 X.toInt64, X, _, b, M, W, ?_, h.n27, ?_, ?_, ?_, hR⟩
    · simp (disch := omega) only [↓reduceIte, ↓wi_e, ↓wn_e, ↓rc_i, ↓rc_l, ↓h0.q0, ↓h0.q1, ↓h0.q2, ↓h0.qr, ↓h0.qc, ↓h0.qr2, ↓h0.qr3, ↓h0.qr4, ↓h0.qr5, ↓h0.qc5, ↓h0.qt, ↓h0.qt4, ↓h0.qt5, ↓h0.qt6, ↓h0.qm2, ↓h0.qm3, ↓h0.qm4, ↓h0.qm5, ↓h0.qm6, ↓h0.qm7, ↓h0.qm8, ↓h0.qm9, ↓h0.qm10, ↓h0.qm11, ↓h0.qm12, ↓h0.qm13, ↓h0.qm14, ↓h0.qm15, ↓h0.qm16, ↓h0.qm17, ↓h0.qm18, ↓h0.qm19, ↓h0.qm20, ↓h0.qm21, ↓h0.qm22, ↓h0.qm23, ↓h0.qm24, h0.lt, kd_0, kd_1, kd_2, kd_3, kd_r, kd_ra, kd_rb, kd_rc, kd_rd, ln_ra, ln_rb, ln_rc, ln_rd, kd_c, kd_ca, ln_ca, kd_t, kd_ta, kd_tb, kd_tc, ln_ta, ln_tb, ln_tc, ln_1, ln_2, ln_3, ln_51, kd_27, kd_28, kd_29, kd_30, kd_31, kd_32, kd_33, kd_34, kd_35, kd_36, kd_37, kd_38, kd_39, kd_40, kd_41, kd_42, kd_43, kd_44, kd_45, kd_46, kd_47, kd_48, kd_49, kd_50, kd_51, ln_28, ln_29, ln_30, ln_31, ln_32, ln_33, ln_34, ln_35, ln_36, ln_37, ln_38, ln_39, ln_40, ln_41, ln_42, ln_43, ln_44, ln_45, ln_46, ln_47, ln_48, ln_49, ln_50, inb_n, cl_n, g_n_s_i, g_n_s_l, mul_3, mul_4, mul_6, mul_61, nI_add, nI_1, nle_0, nle_1, nle_2, nle_3, nle_4, nle_5, nle_6, nle_7, nle_60, nle_61, nlt_0, nlt_1, nlt_2, nlt_3, nlt_4, nlt_5, nlt_6, nlt_7, nlt_60, nlt_61, nge_0, nge_1, nge_2, nge_3, nge_4, nge_5, nge_6, nge_7, nge_60, nge_61, ngt_0, ngt_1, ngt_2, ngt_3, ngt_4, ngt_5, ngt_6, ngt_7, ngt_60, ngt_61, neq_0, neq_1, neq_2, neq_3, neq_4, neq_5, neq_6, neq_7, neq_60, neq_61, Nat.not_lt_zero, and_self, and_true, true_and, or_true, true_or, if_true, if_false, or_self, and_false, false_and, or_false, false_or, not_true_eq_false, not_false_eq_true, ne_eq, reduceCtorEq, eq_self, bind_s, c10, c01, c20, c30, c40, cl_0, inb_0, onI_l, onI_r, onV_l, onV_r, f_L_decide, ↓bq g]
    · show f_M_decide _ _ _ = _
      rw [mdec_c (by exact h0) hc, if_pos (by simp (disch := omega) only [gi_n, gi_s, g_i_s_l]; exact ⟨s2, m2⟩), mdec_a (by exact h0) hc X (by simp (disch := omega) only [gi_n, gi_s, g_i_s_l]; exact mr.symm), if_neg x3, if_pos (by simp (disch := omega) only [gi_n, gi_s, g_i_s_l]; exact hal), hw]
    · simp (disch := omega) only [gi_n, gi_s, g_i_s_l]
    · intro _
      rw [g_l_s_i, g_l_s_i, g_l_s_i, g510]
  · have v6 := ale.mpr hal
    have g : f_G_decide σ 0 (nI c) = some (.inl (some (.int X)), s_i (s_i σ (19 + 2 * c) 1 3) (19 + 2 * c) 3 X) := by
      simp (disch := omega) only [↓reduceIte, ↓wi_e, ↓wn_e, ↓rc_i, ↓rc_l, ↓h0.q0, ↓h0.q1, ↓h0.q2, ↓h0.qr, ↓h0.qc, ↓h0.qr2, ↓h0.qr3, ↓h0.qr4, ↓h0.qr5, ↓h0.qc5, ↓h0.qt, ↓h0.qt4, ↓h0.qt5, ↓h0.qt6, ↓h0.qm2, ↓h0.qm3, ↓h0.qm4, ↓h0.qm5, ↓h0.qm6, ↓h0.qm7, ↓h0.qm8, ↓h0.qm9, ↓h0.qm10, ↓h0.qm11, ↓h0.qm12, ↓h0.qm13, ↓h0.qm14, ↓h0.qm15, ↓h0.qm16, ↓h0.qm17, ↓h0.qm18, ↓h0.qm19, ↓h0.qm20, ↓h0.qm21, ↓h0.qm22, ↓h0.qm23, ↓h0.qm24, h0.lt, kd_0, kd_1, kd_2, kd_3, kd_r, kd_ra, kd_rb, kd_rc, kd_rd, ln_ra, ln_rb, ln_rc, ln_rd, kd_c, kd_ca, ln_ca, kd_t, kd_ta, kd_tb, kd_tc, ln_ta, ln_tb, ln_tc, ln_1, ln_2, ln_3, ln_51, kd_27, kd_28, kd_29, kd_30, kd_31, kd_32, kd_33, kd_34, kd_35, kd_36, kd_37, kd_38, kd_39, kd_40, kd_41, kd_42, kd_43, kd_44, kd_45, kd_46, kd_47, kd_48, kd_49, kd_50, kd_51, ln_28, ln_29, ln_30, ln_31, ln_32, ln_33, ln_34, ln_35, ln_36, ln_37, ln_38, ln_39, ln_40, ln_41, ln_42, ln_43, ln_44, ln_45, ln_46, ln_47, ln_48, ln_49, ln_50, inb_n, cl_n, g_n_s_i, g_n_s_l, mul_3, mul_4, mul_6, mul_61, nI_add, nI_1, nle_0, nle_1, nle_2, nle_3, nle_4, nle_5, nle_6, nle_7, nle_60, nle_61, nlt_0, nlt_1, nlt_2, nlt_3, nlt_4, nlt_5, nlt_6, nlt_7, nlt_60, nlt_61, nge_0, nge_1, nge_2, nge_3, nge_4, nge_5, nge_6, nge_7, nge_60, nge_61, ngt_0, ngt_1, ngt_2, ngt_3, ngt_4, ngt_5, ngt_6, ngt_7, ngt_60, ngt_61, neq_0, neq_1, neq_2, neq_3, neq_4, neq_5, neq_6, neq_7, neq_60, neq_61, Nat.not_lt_zero, and_self, and_true, true_and, or_true, true_or, if_true, if_false, or_self, and_false, false_and, or_false, false_or, not_true_eq_false, not_false_eq_true, ne_eq, reduceCtorEq, eq_self, bind_s, c10, c01, c20, c30, c40, cl_0, inb_0, onI_l, onI_r, onV_l, onV_r, b_G_decide_40, b_G_decide_82, f_G_decide, f_C_goSlow, ↓bq (p_isC1 hc), e1, s2, ↓bq pac, m2, ↓bq prb, x3, ↓bq pal, v6]
    have hR : R b M W (s_i (s_i (s_i (s_l (s_i (s_i σ (19 + 2 * c) 1 3) (19 + 2 * c) 3 X) 51 0 X.toInt64) 27 0 0) 38 c X) 36 c 3) := by
      refine r_st h hc (Or.inl s2) (s := 3) h0 ?_ (fun _ _ => rfl) (by omega) (by omega) ?_ ?_ ?_
      · intro a k q
        simp (disch := omega) only [gi_n, gi_s, g_i_s_l]
      · simp (disch := omega) only [gi_n, gi_s, g_i_s_l]; rfl
      · simp (disch := omega) only [gi_n, gi_s, g_i_s_l]; rfl
      · intro q; simp (disch := omega) only [gi_n, gi_s, g_i_s_l]; exact ⟨trivial, rq1, hrq, erq⟩
    refine ⟨0, s_l (s_i (s_i σ (19 + 2 * c) 1 3) (19 + 2 * c) 3 X) 51 0 X.toInt64, X, _, b, M, W, ?_, h.n27, ?_, ?_, ?_, hR⟩
    · simp (disch := omega) only [↓reduceIte, ↓wi_e, ↓wn_e, ↓rc_i, ↓rc_l, ↓h0.q0, ↓h0.q1, ↓h0.q2, ↓h0.qr, ↓h0.qc, ↓h0.qr2, ↓h0.qr3, ↓h0.qr4, ↓h0.qr5, ↓h0.qc5, ↓h0.qt, ↓h0.qt4, ↓h0.qt5, ↓h0.qt6, ↓h0.qm2, ↓h0.qm3, ↓h0.qm4, ↓h0.qm5, ↓h0.qm6, ↓h0.qm7, ↓h0.qm8, ↓h0.qm9, ↓h0.qm10, ↓h0.qm11, ↓h0.qm12, ↓h0.qm13, ↓h0.qm14, ↓h0.qm15, ↓h0.qm16, ↓h0.qm17, ↓h0.qm18, ↓h0.qm19, ↓h0.qm20, ↓h0.qm21, ↓h0.qm22, ↓h0.qm23, ↓h0.qm24, h0.lt, kd_0, kd_1, kd_2, kd_3, kd_r, kd_ra, kd_rb, kd_rc, kd_rd, ln_ra, ln_rb, ln_rc, ln_rd, kd_c, kd_ca, ln_ca, kd_t, kd_ta, kd_tb, kd_tc, ln_ta, ln_tb, ln_tc, ln_1, ln_2, ln_3, ln_51, kd_27, kd_28, kd_29, kd_30, kd_31, kd_32, kd_33, kd_34, kd_35, kd_36, kd_37, kd_38, kd_39, kd_40, kd_41, kd_42, kd_43, kd_44, kd_45, kd_46, kd_47, kd_48, kd_49, kd_50, kd_51, ln_28, ln_29, ln_30, ln_31, ln_32, ln_33, ln_34, ln_35, ln_36, ln_37, ln_38, ln_39, ln_40, ln_41, ln_42, ln_43, ln_44, ln_45, ln_46, ln_47, ln_48, ln_49, ln_50, inb_n, cl_n, g_n_s_i, g_n_s_l, mul_3, mul_4, mul_6, mul_61, nI_add, nI_1, nle_0, nle_1, nle_2, nle_3, nle_4, nle_5, nle_6, nle_7, nle_60, nle_61, nlt_0, nlt_1, nlt_2, nlt_3, nlt_4, nlt_5, nlt_6, nlt_7, nlt_60, nlt_61, nge_0, nge_1, nge_2, nge_3, nge_4, nge_5, nge_6, nge_7, nge_60, nge_61, ngt_0, ngt_1, ngt_2, ngt_3, ngt_4, ngt_5, ngt_6, ngt_7, ngt_60, ngt_61, neq_0, neq_1, neq_2, neq_3, neq_4, neq_5, neq_6, neq_7, neq_60, neq_61, Nat.not_lt_zero, and_self, and_true, true_and, or_true, true_or, if_true, if_false, or_self, and_false, false_and, or_false, false_or, not_true_eq_false, not_false_eq_true, ne_eq, reduceCtorEq, eq_self, bind_s, c10, c01, c20, c30, c40, cl_0, inb_0, onI_l, onI_r, onV_l, onV_r, f_L_decide, ↓bq g]
    · show f_M_decide _ _ _ = _
      rw [mdec_c (by exact h0) hc, if_pos (by simp (disch := omega) only [gi_n, gi_s, g_i_s_l]; exact ⟨s2, m2⟩), mdec_a (by exact h0) hc X (by simp (disch := omega) only [gi_n, gi_s, g_i_s_l]; exact mr.symm), if_neg x3, if_neg (by simp (disch := omega) only [gi_n, gi_s, g_i_s_l]; exact hal)]
    · simp (disch := omega) only [gi_n, gi_s, g_i_s_l]
    · intro _
      rw [g_l_s_i, g_l_s_i, g_l_s_i, g510]

