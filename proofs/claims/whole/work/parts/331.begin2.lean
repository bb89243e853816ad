/-! begin: class and reference. -/
theorem Qr.none {s f a d : Int32} (q : Qr (-1) s f a d) : s = -1 ∧ f = 0 ∧ a = 0 ∧ d = 0 := by
  rcases q with q | ⟨n, hn, q, _⟩
  · exact q.2
  · have := n_m1 (i := n) (by omega)
    rw [← q] at this
    exact absurd rfl (this.mp)
theorem p_mbegin {b : Nat} {σ : Sg} (h : SN b σ) {c t : Nat} (hc : c < 4) (ht : t < 60) (e0 : g_i σ 36 c = 0) (em : g_i σ 27 1 = nI t) : f_M_begin σ 27 (nI c) = some (nI (t + 1), fg (s_i (s_i (s_i (s_i σ 27 0 0) 27 1 (nI (t + 1))) 36 c 1) 37 c (nI (t + 1))) c) := by
  have h1 : SN b (s_i (s_i (s_i (s_i σ 27 0 0) 27 1 (nI (t + 1))) 36 c 1) 37 c (nI (t + 1))) := h
  have f1 : g_i (s_i σ 27 0 0) 27 1 = nI t := by rw [gi_n (by omega), em]
  have f3 : g_i (fg (s_i (s_i (s_i (s_i σ 27 0 0) 27 1 (nI (t + 1))) 36 c 1) 37 c (nI (t + 1))) c) 27 1 = nI (t + 1) := by
    simp (disch := omega) only [fg_n, gi_n, gi_s]
  have f4 : (fg (s_i (s_i (s_i (s_i σ 27 0 0) 27 1 (nI (t + 1))) 36 c 1) 37 c (nI (t + 1))) c).1 = σ.1 := rfl
  have n60 : ¬ t = 60 := by omega
  simp (disch := omega) only [↓reduceIte, ↓wi_e, ↓wn_e, ↓rc_i, ↓rc_l, ↓h.q0, ↓h.q1, ↓h.q2, ↓h.qr, ↓h.qc, ↓h.qr2, ↓h.qr3, ↓h.qr4, ↓h.qr5, ↓h.qc5, ↓h.qt, ↓h.qt4, ↓h.qt5, ↓h.qt6, ↓h.qm2, ↓h.qm3, ↓h.qm4, ↓h.qm5, ↓h.qm6, ↓h.qm7, ↓h.qm8, ↓h.qm9, ↓h.qm10, ↓h.qm11, ↓h.qm12, ↓h.qm13, ↓h.qm14, ↓h.qm15, ↓h.qm16, ↓h.qm17, ↓h.qm18, ↓h.qm19, ↓h.qm20, ↓h.qm21, ↓h.qm22, ↓h.qm23, ↓h.qm24, h.lt, kd_0, kd_1, kd_2, kd_3, kd_r, kd_ra, kd_rb, kd_rc, kd_rd, ln_ra, ln_rb, ln_rc, ln_rd, kd_c, kd_ca, ln_ca, kd_t, kd_ta, kd_tb, kd_tc, ln_ta, ln_tb, ln_tc, ln_1, ln_2, ln_3, ln_51, kd_27, kd_28, kd_29, kd_30, kd_31, kd_32, kd_33, kd_34, kd_35, kd_36, kd_37, kd_38, kd_39, kd_40, kd_41, kd_42, kd_43, kd_44, kd_45, kd_46, kd_47, kd_48, kd_49, kd_50, kd_51, ln_28, ln_29, ln_30, ln_31, ln_32, ln_33, ln_34, ln_35, ln_36, ln_37, ln_38, ln_39, ln_40, ln_41, ln_42, ln_43, ln_44, ln_45, ln_46, ln_47, ln_48, ln_49, ln_50, inb_n, cl_n, g_n_s_i, g_n_s_l, mul_3, mul_4, mul_6, mul_61, nI_add, nI_1, nle_0, nle_1, nle_2, nle_3, nle_4, nle_5, nle_6, nle_7, nle_60, nle_61, nlt_0, nlt_1, nlt_2, nlt_3, nlt_4, nlt_5, nlt_6, nlt_7, nlt_60, nlt_61, nge_0, nge_1, nge_2, nge_3, nge_4, nge_5, nge_6, nge_7, nge_60, nge_61, ngt_0, ngt_1, ngt_2, ngt_3, ngt_4, ngt_5, ngt_6, ngt_7, ngt_60, ngt_61, neq_0, neq_1, neq_2, neq_3, neq_4, neq_5, neq_6, neq_7, neq_60, neq_61, and_self, and_true, true_and, or_true, true_or, if_true, if_false, or_self, and_false, false_and, or_false, false_or, not_true_eq_false, not_false_eq_true, ne_eq, reduceCtorEq, eq_self, bind_s, c10, c01, c20, c30, c40, cl_0, inb_0, onI_l, onI_r, onV_l, onV_r, b_M_begin_35, b_M_begin_30, f_M_begin, ↓bq (p_mC1 hc), e0, em, ↓bq (p_says h _), f1, gi_n, gi_s, n60]
  rw [bq (p_mfor h1 hc)]
  simp (disch := omega) only [↓reduceIte, ↓wi_e, ↓wn_e, ↓rc_i, ↓rc_l, ↓h.q0, ↓h.q1, ↓h.q2, ↓h.qr, ↓h.qc, ↓h.qr2, ↓h.qr3, ↓h.qr4, ↓h.qr5, ↓h.qc5, ↓h.qt, ↓h.qt4, ↓h.qt5, ↓h.qt6, ↓h.qm2, ↓h.qm3, ↓h.qm4, ↓h.qm5, ↓h.qm6, ↓h.qm7, ↓h.qm8, ↓h.qm9, ↓h.qm10, ↓h.qm11, ↓h.qm12, ↓h.qm13, ↓h.qm14, ↓h.qm15, ↓h.qm16, ↓h.qm17, ↓h.qm18, ↓h.qm19, ↓h.qm20, ↓h.qm21, ↓h.qm22, ↓h.qm23, ↓h.qm24, h.lt, kd_0, kd_1, kd_2, kd_3, kd_r, kd_ra, kd_rb, kd_rc, kd_rd, ln_ra, ln_rb, ln_rc, ln_rd, kd_c, kd_ca, ln_ca, kd_t, kd_ta, kd_tb, kd_tc, ln_ta, ln_tb, ln_tc, ln_1, ln_2, ln_3, ln_51, kd_27, kd_28, kd_29, kd_30, kd_31, kd_32, kd_33, kd_34, kd_35, kd_36, kd_37, kd_38, kd_39, kd_40, kd_41, kd_42, kd_43, kd_44, kd_45, kd_46, kd_47, kd_48, kd_49, kd_50, kd_51, ln_28, ln_29, ln_30, ln_31, ln_32, ln_33, ln_34, ln_35, ln_36, ln_37, ln_38, ln_39, ln_40, ln_41, ln_42, ln_43, ln_44, ln_45, ln_46, ln_47, ln_48, ln_49, ln_50, inb_n, cl_n, g_n_s_i, g_n_s_l, mul_3, mul_4, mul_6, mul_61, nI_add, nI_1, nle_0, nle_1, nle_2, nle_3, nle_4, nle_5, nle_6, nle_7, nle_60, nle_61, nlt_0, nlt_1, nlt_2, nlt_3, nlt_4, nlt_5, nlt_6, nlt_7, nlt_60, nlt_61, nge_0, nge_1, nge_2, nge_3, nge_4, nge_5, nge_6, nge_7, nge_60, nge_61, ngt_0, ngt_1, ngt_2, ngt_3, ngt_4, ngt_5, ngt_6, ngt_7, ngt_60, ngt_61, neq_0, neq_1, neq_2, neq_3, neq_4, neq_5, neq_6, neq_7, neq_60, neq_61, and_self, and_true, true_and, or_true, true_or, if_true, if_false, or_self, and_false, false_and, or_false, false_or, not_true_eq_false, not_false_eq_true, ne_eq, reduceCtorEq, eq_self, bind_s, c10, c01, c20, c30, c40, cl_0, inb_0, onI_l, onI_r, onV_l, onV_r, f3, f4]
theorem o_begin {b : Nat} {M W : Nat → Nat} {σ : Sg} (h : R b M W σ) (x : Int32) : OpI (f_L_begin σ 0 x 51) (fun s => f_M_begin s 27 x) (fun v => v.toInt64) := by
  have h0 := h.r0
  rcases oor4 (x := x) with ⟨c, hc, rfl⟩ | hx
  · obtain ⟨e1, ⟨s, hs5, es⟩, e3, e4⟩ := h.r8 c hc
    by_cases s0 : g_i σ 36 c = 0
    · have e9 := (h.r9 c hc).1 s0
      by_cases hb : b < 60
      · obtain ⟨σ1, g, hs1, fr1, f2, f3, f4, f5, f6, f7, f8, f9, f10, f11⟩ := p_begin h0 hc h.r1.1 hb e9
        have hs2 : SN (b + 1) (s_l σ1 51 0 (nI (b + 1)).toInt64) := hs1
        have k1 : g_i (s_l σ1 51 0 (nI (b + 1)).toInt64) 36 c = 0 := by rw [g_i_s_l, fr1 _ _ (by omega), s0]
        have k2 : g_i (s_l σ1 51 0 (nI (b + 1)).toInt64) 27 1 = nI b := by rw [g_i_s_l, fr1 _ _ (by omega), h.r1.2]
        have Q0 : ∀ i, i < 3 → g_i σ 49 (61 * i + (b + 1)) = 0 ∧ g_i σ 50 (61 * i + (b + 1)) = 0 := by
          intro i hi
          have q := h.r6 i hi (b + 1) (by omega)
          rw [h.r7.1 i hi (b + 1) (by omega) (by omega)] at q
          exact ⟨q.none.2.2.1, q.none.2.2.2⟩
        have F0 := h.r7.2 (b + 1) (by omega) (by omega)
        refine ⟨0, s_l σ1 51 0 (nI (b + 1)).toInt64, nI (b + 1), fg (s_i (s_i (s_i (s_i (s_l σ1 51 0 (nI (b + 1)).toInt64) 27 0 0) 27 1 (nI (b + 1))) 36 c 1) 37 c (nI (b + 1))) c, b + 1, (fun u => if u = b + 1 then 0 else M u), (fun u => if u = b + 1 then 0 else W u), ?_, ?_, p_mbegin hs2 hc hb k1 k2, ?_, ?_, ?_⟩
        · simp (disch := omega) only [↓reduceIte, ↓wi_e, ↓wn_e, ↓rc_i, ↓rc_l, ↓h0.q0, ↓h0.q1, ↓h0.q2, ↓h0.qr, ↓h0.qc, ↓h0.qr2, ↓h0.qr3, ↓h0.qr4, ↓h0.qr5, ↓h0.qc5, ↓h0.qt, ↓h0.qt4, ↓h0.qt5, ↓h0.qt6, ↓h0.qm2, ↓h0.qm3, ↓h0.qm4, ↓h0.qm5, ↓h0.qm6, ↓h0.qm7, ↓h0.qm8, ↓h0.qm9, ↓h0.qm10, ↓h0.qm11, ↓h0.qm12, ↓h0.qm13, ↓h0.qm14, ↓h0.qm15, ↓h0.qm16, ↓h0.qm17, ↓h0.qm18, ↓h0.qm19, ↓h0.qm20, ↓h0.qm21, ↓h0.qm22, ↓h0.qm23, ↓h0.qm24, h0.lt, kd_0, kd_1, kd_2, kd_3, kd_r, kd_ra, kd_rb, kd_rc, kd_rd, ln_ra, ln_rb, ln_rc, ln_rd, kd_c, kd_ca, ln_ca, kd_t, kd_ta, kd_tb, kd_tc, ln_ta, ln_tb, ln_tc, ln_1, ln_2, ln_3, ln_51, kd_27, kd_28, kd_29, kd_30, kd_31, kd_32, kd_33, kd_34, kd_35, kd_36, kd_37, kd_38, kd_39, kd_40, kd_41, kd_42, kd_43, kd_44, kd_45, kd_46, kd_47, kd_48, kd_49, kd_50, kd_51, ln_28, ln_29, ln_30, ln_31, ln_32, ln_33, ln_34, ln_35, ln_36, ln_37, ln_38, ln_39, ln_40, ln_41, ln_42, ln_43, ln_44, ln_45, ln_46, ln_47, ln_48, ln_49, ln_50, inb_n, cl_n, g_n_s_i, g_n_s_l, mul_3, mul_4, mul_6, mul_61, nI_add, nI_1, nle_0, nle_1, nle_2, nle_3, nle_4, nle_5, nle_6, nle_7, nle_60, nle_61, nlt_0, nlt_1, nlt_2, nlt_3, nlt_4, nlt_5, nlt_6, nlt_7, nlt_60, nlt_61, nge_0, nge_1, nge_2, nge_3, nge_4, nge_5, nge_6, nge_7, nge_60, nge_61, ngt_0, ngt_1, ngt_2, ngt_3, ngt_4, ngt_5, ngt_6, ngt_7, ngt_60, ngt_61, neq_0, neq_1, neq_2, neq_3, neq_4, neq_5, neq_6, neq_7, neq_60, neq_61, and_self, and_true, true_and, or_true, true_or, if_true, if_false, or_self, and_false, false_and, or_false, false_or, not_true_eq_false, not_false_eq_true, ne_eq, reduceCtorEq, eq_self, bind_s, c10, c01, c20, c30, c40, cl_0, inb_0, onI_l, onI_r, onV_l, onV_r, f_L_begin, ↓bq g, hs1.lt]
        · rw [hs2.1]; omega
        · simp (disch := omega) only [fg_n, gi_n, gi_s]
        · intro _
          rw [fg_l, g_l_s_i, g_l_s_i, g_l_s_i, g_l_s_i, g510]
        · refine ⟨hs2, ⟨?_, ?_⟩, ?_, ?_, ?_, ?_, ?_, ⟨?_, ?_⟩, ?_, ?_, ?_, ?_, ?_, ?_, ?_, ?_, ?_, ⟨?_, ?_, ?_⟩⟩
          · simp (disch := omega) only [fg_n, gi_n, gi_s, g_i_s_l, fr1]; exact f2
          · simp (disch := omega) only [fg_n, gi_n, gi_s]
          · intro i hi; have q := h.r2 i hi; revert q; simp (disch := omega) only [fg_n, gi_n, gi_s, g_i_s_l, fr1]; exact id
          · intro i hi k hk; have q := h.r3 i hi k hk; revert q; simp (disch := omega) only [fg_n, gi_n, gi_s, g_i_s_l, fr1]; exact id
          · intro i hi k hk; have q := h.r4 i hi k hk; revert q; simp (disch := omega) only [fg_n, gi_n, gi_s, g_i_s_l, fr1]; exact id
          · intro i hi j hj k hk; have q := h.r5 i hi j hj k hk; revert q; simp (disch := omega) only [fg_n, gi_n, gi_s, g_i_s_l, fr1]; exact id
          · intro i hi t ht; have q := h.r6 i hi t ht; revert q; simp (disch := omega) only [fg_n, gi_n, gi_s, g_i_s_l, fr1]; exact id
          · intro i hi t ht hbt; have q := h.r7.1 i hi t ht (by omega); revert q; simp (disch := omega) only [fg_n, gi_n, gi_s, g_i_s_l, fr1]; exact id
          · intro t hbt ht; have q := h.r7.2 t (by omega) ht; revert q; simp (disch := omega) only [fg_n, gi_n, gi_s, g_i_s_l, fr1]; exact id
          · intro d hd
            have q := h.r8 d hd
            by_cases e : d = c
            · subst e
              simp (disch := omega) only [fg_n, gi_n, gi_s, g_i_s_l, fr1]
              rw [f7]
              exact ⟨rfl, ⟨1, by omega, rfl⟩, q.2.2.1, fun e => absurd e (by decide)⟩
            · revert q; simp (disch := omega) only [fg_n, gi_n, gi_s, g_i_s_l, fr1]; exact id
          · intro d hd
            have q := h.r9 d hd
            by_cases e : d = c
            · subst e
              simp (disch := omega) only [fg_n, gi_n, gi_s, g_i_s_l, fr1]
              refine ⟨fun e => absurd e (by decide), fun _ => ⟨b + 1, by omega, by omega, rfl, ?_⟩⟩
              rw [fg_r, g_r_s_i, g_r_s_i, g_r_s_i, g_r_s_i, g_r_s_l, f10]
              congr 1
              omega
            · rw [fg_r, g_r_s_i, g_r_s_i, g_r_s_i, g_r_s_i, g_r_s_l, f11 d hd e]
              revert q
              simp (disch := omega) only [fg_n, gi_n, gi_s, g_i_s_l, fr1]
              rintro ⟨q1, q2⟩
              refine ⟨q1, fun z => ?_⟩
              obtain ⟨t, q⟩ := q2 z
              exact ⟨t, q.1, by omega, q.2.2⟩
          · intro d hd
            have q := h.r10 d hd
            by_cases e : d = c
            · subst e
              intro _
              refine ⟨fun r hr => ?_, 0, by omega, ?_, fun r hr => ?_⟩
              · rw [fg_a hr]
                simp (disch := omega) only [fg_n, gi_n, gi_s, g_i_s_l, fr1]
                rw [f9 r hr]
                exact ⟨rfl, Or.inl rfl⟩
              · simp (disch := omega) only [fg_n, gi_n, gi_s, g_i_s_l, fr1]; exact f8
              · rw [fg_b hr, Nat.zero_testBit]; rfl
            · revert q
              have e' : d < c ∨ c < d := by omega
              intro q z
              have z' : g_i σ 36 d ≠ 0 := by revert z; simp (disch := omega) only [fg_n, gi_n, gi_s, g_i_s_l, fr1]; exact id
              obtain ⟨q1, m, hm, q2, q3⟩ := q z'
              refine ⟨fun r hr => ?_, m, hm, ?_, fun r hr => ?_⟩
              · have := q1 r hr
                revert this
                simp (disch := omega) only [fg_n, gi_n, gi_s, g_i_s_l, fr1]
                exact id
              · revert q2; simp (disch := omega) only [fg_n, gi_n, gi_s, g_i_s_l, fr1]; exact id
              · have := q3 r hr
                revert this
                simp (disch := omega) only [fg_n, gi_n, gi_s, g_i_s_l, fr1]
                exact id
          · intro t ht1 ht2
            by_cases e : t = b + 1
            · subst e
              have p0 : pc 0 = 0 := rfl
              have a1 : 48 + 4 * (b + 1) = 52 + 4 * b := by omega
              simp only [if_true, Rl, Wl, p0, a1]
              simp (disch := omega) only [fg_n, gi_n, gi_s, g_i_s_l, fr1]
              rw [f3, f4, f5, f6, F0.1, F0.2.1, F0.2.2]
              refine ⟨rfl, rfl, ⟨by omega, by omega, rfl, rfl, fun j hj => absurd hj (by omega), fun k hk q => ?_⟩, ⟨by omega, by omega, rfl, rfl, fun j hj => absurd hj (by omega), fun k hk q => ?_, fun i j hi => absurd hi (by omega)⟩⟩
              · rw [Nat.zero_testBit] at q; exact absurd q (by decide)
              · rw [Nat.zero_testBit] at q; exact absurd q (by decide)
            · have q := h.r11 t ht1 (by omega)
              simp only [if_neg e]
              revert q
              simp only [Rl, Wl]
              simp (disch := omega) only [fg_n, gi_n, gi_s, g_i_s_l, fr1]
              exact id
          · intro d hd d2 hd2 hne
            have q := h.r12 d hd d2 hd2 hne
            by_cases e : d = c
            · subst e
              simp (disch := omega) only [fg_n, gi_n, gi_s, g_i_s_l, fr1]
              intro _ z
              obtain ⟨t, q1, q2, q3, q4⟩ := (h.r9 d2 hd2).2 z
              rw [q3]
              have hb6 := h0.b60
              rw [ne_eq, neq (by omega) (by omega)]
              omega
            · by_cases e' : d2 = c
              · subst e'
                simp (disch := omega) only [fg_n, gi_n, gi_s, g_i_s_l, fr1]
                intro z _
                obtain ⟨t, q1, q2, q3, q4⟩ := (h.r9 d hd).2 z
                rw [q3]
                have hb6 := h0.b60
                rw [ne_eq, neq (by omega) (by omega)]
                omega
              · revert q; simp (disch := omega) only [fg_n, gi_n, gi_s, g_i_s_l, fr1]; exact id
          · intro d hd t ht
            have q := h.r13 d hd t ht
            by_cases e : d = c
            · subst e
              simp (disch := omega) only [fg_n, gi_n, gi_s, g_i_s_l, fr1]
              rw [neq (by omega) (by omega)]
              intro z
              subst z
              exact ⟨fun _ => F0.1, fun _ => Q0⟩
            · revert q; simp (disch := omega) only [fg_n, gi_n, gi_s, g_i_s_l, fr1]; exact id
          · intro i hi t ht1 ht2 k hk
            by_cases e : t = b + 1
            · subst e
              simp (disch := omega) only [fg_n, gi_n, gi_s, g_i_s_l, fr1]
              intro z
              exact absurd (Q0 i hi).1 z
            · have q := h.r14 i hi t ht1 (by omega) k hk
              simp only [if_neg e]
              revert q; simp (disch := omega) only [fg_n, gi_n, gi_s, g_i_s_l, fr1]; exact id
          · intro t ht1 ht2 i hi k hk
            by_cases e : t = b + 1
            · subst e
              simp (disch := omega) only [fg_n, gi_n, gi_s, g_i_s_l, fr1]
              intro z
              exact absurd F0.1 z
            · have q := h.r15 t ht1 (by omega) i hi k hk
              revert q; simp (disch := omega) only [fg_n, gi_n, gi_s, g_i_s_l, fr1]; exact id
          · intro t ht1 ht2 u hu1 hu2 hne
            by_cases e : t = b + 1
            · subst e
              simp (disch := omega) only [fg_n, gi_n, gi_s, g_i_s_l, fr1]
              intro _
              exact F0.1
            · by_cases e' : u = b + 1
              · subst e'
                simp (disch := omega) only [fg_n, gi_n, gi_s, g_i_s_l, fr1]
                intro z
                rw [z, F0.1]
              · have q := h.r16 t ht1 (by omega) u hu1 (by omega) hne
                revert q; simp (disch := omega) only [fg_n, gi_n, gi_s, g_i_s_l, fr1]; exact id
          · intro d hd
            have q := h.r17.1 d hd
            revert q; simp (disch := omega) only [fg_n, gi_n, gi_s, g_i_s_l, fr1]; exact id
          · intro t ht1 ht2
            by_cases e : t = b + 1
            · subst e
              simp only [Bd]
              simp (disch := omega) only [fg_n, gi_n, gi_s, g_i_s_l, fr1]
              rw [F0.1]
              have e0 : (0 : Int32).toInt = 0 := rfl
              rw [e0]
              refine ⟨by omega, by omega, fun d hd _ => ?_⟩
              have := (h.r17.1 d hd).1
              omega
            · have q := h.r17.2.1 t ht1 (by omega)
              revert q; simp only [Bd]; simp (disch := omega) only [fg_n, gi_n, gi_s, g_i_s_l, fr1]; exact id
          · intro i hi k hk
            have q := h.r17.2.2 i hi k hk
            revert q; simp only [Bd]; simp (disch := omega) only [fg_n, gi_n, gi_s, g_i_s_l, fr1]; exact id
      · have hb6 := h0.b60
        have b60 : b = 60 := by omega
        have m60 : ¬ b < 60 := hb
        refine OpI.bad h (k := 2) (by decide) (v := 0) ?_ ?_
        · simp (disch := omega) only [↓reduceIte, ↓wi_e, ↓wn_e, ↓rc_i, ↓rc_l, ↓h0.q0, ↓h0.q1, ↓h0.q2, ↓h0.qr, ↓h0.qc, ↓h0.qr2, ↓h0.qr3, ↓h0.qr4, ↓h0.qr5, ↓h0.qc5, ↓h0.qt, ↓h0.qt4, ↓h0.qt5, ↓h0.qt6, ↓h0.qm2, ↓h0.qm3, ↓h0.qm4, ↓h0.qm5, ↓h0.qm6, ↓h0.qm7, ↓h0.qm8, ↓h0.qm9, ↓h0.qm10, ↓h0.qm11, ↓h0.qm12, ↓h0.qm13, ↓h0.qm14, ↓h0.qm15, ↓h0.qm16, ↓h0.qm17, ↓h0.qm18, ↓h0.qm19, ↓h0.qm20, ↓h0.qm21, ↓h0.qm22, ↓h0.qm23, ↓h0.qm24, h0.lt, kd_0, kd_1, kd_2, kd_3, kd_r, kd_ra, kd_rb, kd_rc, kd_rd, ln_ra, ln_rb, ln_rc, ln_rd, kd_c, kd_ca, ln_ca, kd_t, kd_ta, kd_tb, kd_tc, ln_ta, ln_tb, ln_tc, ln_1, ln_2, ln_3, ln_51, kd_27, kd_28, kd_29, kd_30, kd_31, kd_32, kd_33, kd_34, kd_35, kd_36, kd_37, kd_38, kd_39, kd_40, kd_41, kd_42, kd_43, kd_44, kd_45, kd_46, kd_47, kd_48, kd_49, kd_50, kd_51, ln_28, ln_29, ln_30, ln_31, ln_32, ln_33, ln_34, ln_35, ln_36, ln_37, ln_38, ln_39, ln_40, ln_41, ln_42, ln_43, ln_44, ln_45, ln_46, ln_47, ln_48, ln_49, ln_50, inb_n, cl_n, g_n_s_i, g_n_s_l, mul_3, mul_4, mul_6, mul_61, nI_add, nI_1, nle_0, nle_1, nle_2, nle_3, nle_4, nle_5, nle_6, nle_7, nle_60, nle_61, nlt_0, nlt_1, nlt_2, nlt_3, nlt_4, nlt_5, nlt_6, nlt_7, nlt_60, nlt_61, nge_0, nge_1, nge_2, nge_3, nge_4, nge_5, nge_6, nge_7, nge_60, nge_61, ngt_0, ngt_1, ngt_2, ngt_3, ngt_4, ngt_5, ngt_6, ngt_7, ngt_60, ngt_61, neq_0, neq_1, neq_2, neq_3, neq_4, neq_5, neq_6, neq_7, neq_60, neq_61, and_self, and_true, true_and, or_true, true_or, if_true, if_false, or_self, and_false, false_and, or_false, false_or, not_true_eq_false, not_false_eq_true, ne_eq, reduceCtorEq, eq_self, bind_s, c10, c01, c20, c30, c40, cl_0, inb_0, onI_l, onI_r, onV_l, onV_r, f_L_begin, b_G_begin_40, f_G_begin, ↓bq (p_isC1 hc), ↓rqn e9, h.r1.1, m60, sx_0, sx_1, sx_2, sx_3, sx_4, sx_5, sx_6, sx_7, sx_8, sx_9, sx_10, sx_11]
        · simp (disch := omega) only [↓reduceIte, ↓wi_e, ↓wn_e, ↓rc_i, ↓rc_l, ↓h0.q0, ↓h0.q1, ↓h0.q2, ↓h0.qr, ↓h0.qc, ↓h0.qr2, ↓h0.qr3, ↓h0.qr4, ↓h0.qr5, ↓h0.qc5, ↓h0.qt, ↓h0.qt4, ↓h0.qt5, ↓h0.qt6, ↓h0.qm2, ↓h0.qm3, ↓h0.qm4, ↓h0.qm5, ↓h0.qm6, ↓h0.qm7, ↓h0.qm8, ↓h0.qm9, ↓h0.qm10, ↓h0.qm11, ↓h0.qm12, ↓h0.qm13, ↓h0.qm14, ↓h0.qm15, ↓h0.qm16, ↓h0.qm17, ↓h0.qm18, ↓h0.qm19, ↓h0.qm20, ↓h0.qm21, ↓h0.qm22, ↓h0.qm23, ↓h0.qm24, h0.lt, kd_0, kd_1, kd_2, kd_3, kd_r, kd_ra, kd_rb, kd_rc, kd_rd, ln_ra, ln_rb, ln_rc, ln_rd, kd_c, kd_ca, ln_ca, kd_t, kd_ta, kd_tb, kd_tc, ln_ta, ln_tb, ln_tc, ln_1, ln_2, ln_3, ln_51, kd_27, kd_28, kd_29, kd_30, kd_31, kd_32, kd_33, kd_34, kd_35, kd_36, kd_37, kd_38, kd_39, kd_40, kd_41, kd_42, kd_43, kd_44, kd_45, kd_46, kd_47, kd_48, kd_49, kd_50, kd_51, ln_28, ln_29, ln_30, ln_31, ln_32, ln_33, ln_34, ln_35, ln_36, ln_37, ln_38, ln_39, ln_40, ln_41, ln_42, ln_43, ln_44, ln_45, ln_46, ln_47, ln_48, ln_49, ln_50, inb_n, cl_n, g_n_s_i, g_n_s_l, mul_3, mul_4, mul_6, mul_61, nI_add, nI_1, nle_0, nle_1, nle_2, nle_3, nle_4, nle_5, nle_6, nle_7, nle_60, nle_61, nlt_0, nlt_1, nlt_2, nlt_3, nlt_4, nlt_5, nlt_6, nlt_7, nlt_60, nlt_61, nge_0, nge_1, nge_2, nge_3, nge_4, nge_5, nge_6, nge_7, nge_60, nge_61, ngt_0, ngt_1, ngt_2, ngt_3, ngt_4, ngt_5, ngt_6, ngt_7, ngt_60, ngt_61, neq_0, neq_1, neq_2, neq_3, neq_4, neq_5, neq_6, neq_7, neq_60, neq_61, and_self, and_true, true_and, or_true, true_or, if_true, if_false, or_self, and_false, false_and, or_false, false_or, not_true_eq_false, not_false_eq_true, ne_eq, reduceCtorEq, eq_self, bind_s, c10, c01, c20, c30, c40, cl_0, inb_0, onI_l, onI_r, onV_l, onV_r, b_M_begin_35, b_M_begin_30, f_M_begin, ↓bq (p_mC1 hc), s0, h.r1.2, b60, ↓bq (p_says h0 _)]
    · obtain ⟨t, ht1, ht2, et, er⟩ := (h.r9 c hc).2 s0
      refine OpI.bad h (k := 2) (by decide) (v := 0) ?_ ?_
      · simp (disch := omega) only [↓reduceIte, ↓wi_e, ↓wn_e, ↓rc_i, ↓rc_l, ↓h0.q0, ↓h0.q1, ↓h0.q2, ↓h0.qr, ↓h0.qc, ↓h0.qr2, ↓h0.qr3, ↓h0.qr4, ↓h0.qr5, ↓h0.qc5, ↓h0.qt, ↓h0.qt4, ↓h0.qt5, ↓h0.qt6, ↓h0.qm2, ↓h0.qm3, ↓h0.qm4, ↓h0.qm5, ↓h0.qm6, ↓h0.qm7, ↓h0.qm8, ↓h0.qm9, ↓h0.qm10, ↓h0.qm11, ↓h0.qm12, ↓h0.qm13, ↓h0.qm14, ↓h0.qm15, ↓h0.qm16, ↓h0.qm17, ↓h0.qm18, ↓h0.qm19, ↓h0.qm20, ↓h0.qm21, ↓h0.qm22, ↓h0.qm23, ↓h0.qm24, h0.lt, kd_0, kd_1, kd_2, kd_3, kd_r, kd_ra, kd_rb, kd_rc, kd_rd, ln_ra, ln_rb, ln_rc, ln_rd, kd_c, kd_ca, ln_ca, kd_t, kd_ta, kd_tb, kd_tc, ln_ta, ln_tb, ln_tc, ln_1, ln_2, ln_3, ln_51, kd_27, kd_28, kd_29, kd_30, kd_31, kd_32, kd_33, kd_34, kd_35, kd_36, kd_37, kd_38, kd_39, kd_40, kd_41, kd_42, kd_43, kd_44, kd_45, kd_46, kd_47, kd_48, kd_49, kd_50, kd_51, ln_28, ln_29, ln_30, ln_31, ln_32, ln_33, ln_34, ln_35, ln_36, ln_37, ln_38, ln_39, ln_40, ln_41, ln_42, ln_43, ln_44, ln_45, ln_46, ln_47, ln_48, ln_49, ln_50, inb_n, cl_n, g_n_s_i, g_n_s_l, mul_3, mul_4, mul_6, mul_61, nI_add, nI_1, nle_0, nle_1, nle_2, nle_3, nle_4, nle_5, nle_6, nle_7, nle_60, nle_61, nlt_0, nlt_1, nlt_2, nlt_3, nlt_4, nlt_5, nlt_6, nlt_7, nlt_60, nlt_61, nge_0, nge_1, nge_2, nge_3, nge_4, nge_5, nge_6, nge_7, nge_60, nge_61, ngt_0, ngt_1, ngt_2, ngt_3, ngt_4, ngt_5, ngt_6, ngt_7, ngt_60, ngt_61, neq_0, neq_1, neq_2, neq_3, neq_4, neq_5, neq_6, neq_7, neq_60, neq_61, and_self, and_true, true_and, or_true, true_or, if_true, if_false, or_self, and_false, false_and, or_false, false_or, not_true_eq_false, not_false_eq_true, ne_eq, reduceCtorEq, eq_self, bind_s, c10, c01, c20, c30, c40, cl_0, inb_0, onI_l, onI_r, onV_l, onV_r, f_L_begin, b_G_begin_40, f_G_begin, ↓bq (p_isC1 hc), ↓rq er, sx_0, sx_1, sx_2, sx_3, sx_4, sx_5, sx_6, sx_7, sx_8, sx_9, sx_10, sx_11]
      · simp (disch := omega) only [↓reduceIte, ↓wi_e, ↓wn_e, ↓rc_i, ↓rc_l, ↓h0.q0, ↓h0.q1, ↓h0.q2, ↓h0.qr, ↓h0.qc, ↓h0.qr2, ↓h0.qr3, ↓h0.qr4, ↓h0.qr5, ↓h0.qc5, ↓h0.qt, ↓h0.qt4, ↓h0.qt5, ↓h0.qt6, ↓h0.qm2, ↓h0.qm3, ↓h0.qm4, ↓h0.qm5, ↓h0.qm6, ↓h0.qm7, ↓h0.qm8, ↓h0.qm9, ↓h0.qm10, ↓h0.qm11, ↓h0.qm12, ↓h0.qm13, ↓h0.qm14, ↓h0.qm15, ↓h0.qm16, ↓h0.qm17, ↓h0.qm18, ↓h0.qm19, ↓h0.qm20, ↓h0.qm21, ↓h0.qm22, ↓h0.qm23, ↓h0.qm24, h0.lt, kd_0, kd_1, kd_2, kd_3, kd_r, kd_ra, kd_rb, kd_rc, kd_rd, ln_ra, ln_rb, ln_rc, ln_rd, kd_c, kd_ca, ln_ca, kd_t, kd_ta, kd_tb, kd_tc, ln_ta, ln_tb, ln_tc, ln_1, ln_2, ln_3, ln_51, kd_27, kd_28, kd_29, kd_30, kd_31, kd_32, kd_33, kd_34, kd_35, kd_36, kd_37, kd_38, kd_39, kd_40, kd_41, kd_42, kd_43, kd_44, kd_45, kd_46, kd_47, kd_48, kd_49, kd_50, kd_51, ln_28, ln_29, ln_30, ln_31, ln_32, ln_33, ln_34, ln_35, ln_36, ln_37, ln_38, ln_39, ln_40, ln_41, ln_42, ln_43, ln_44, ln_45, ln_46, ln_47, ln_48, ln_49, ln_50, inb_n, cl_n, g_n_s_i, g_n_s_l, mul_3, mul_4, mul_6, mul_61, nI_add, nI_1, nle_0, nle_1, nle_2, nle_3, nle_4, nle_5, nle_6, nle_7, nle_60, nle_61, nlt_0, nlt_1, nlt_2, nlt_3, nlt_4, nlt_5, nlt_6, nlt_7, nlt_60, nlt_61, nge_0, nge_1, nge_2, nge_3, nge_4, nge_5, nge_6, nge_7, nge_60, nge_61, ngt_0, ngt_1, ngt_2, ngt_3, ngt_4, ngt_5, ngt_6, ngt_7, ngt_60, ngt_61, neq_0, neq_1, neq_2, neq_3, neq_4, neq_5, neq_6, neq_7, neq_60, neq_61, and_self, and_true, true_and, or_true, true_or, if_true, if_false, or_self, and_false, false_and, or_false, false_or, not_true_eq_false, not_false_eq_true, ne_eq, reduceCtorEq, eq_self, bind_s, c10, c01, c20, c30, c40, cl_0, inb_0, onI_l, onI_r, onV_l, onV_r, b_M_begin_35, b_M_begin_30, f_M_begin, ↓bq (p_mC1 hc), s0, ↓bq (p_says h0 _)]
  · refine OpI.bad h (k := 1) (by decide) (v := 0) ?_ ?_
    · simp (disch := omega) only [↓reduceIte, ↓wi_e, ↓wn_e, ↓rc_i, ↓rc_l, ↓h0.q0, ↓h0.q1, ↓h0.q2, ↓h0.qr, ↓h0.qc, ↓h0.qr2, ↓h0.qr3, ↓h0.qr4, ↓h0.qr5, ↓h0.qc5, ↓h0.qt, ↓h0.qt4, ↓h0.qt5, ↓h0.qt6, ↓h0.qm2, ↓h0.qm3, ↓h0.qm4, ↓h0.qm5, ↓h0.qm6, ↓h0.qm7, ↓h0.qm8, ↓h0.qm9, ↓h0.qm10, ↓h0.qm11, ↓h0.qm12, ↓h0.qm13, ↓h0.qm14, ↓h0.qm15, ↓h0.qm16, ↓h0.qm17, ↓h0.qm18, ↓h0.qm19, ↓h0.qm20, ↓h0.qm21, ↓h0.qm22, ↓h0.qm23, ↓h0.qm24, h0.lt, kd_0, kd_1, kd_2, kd_3, kd_r, kd_ra, kd_rb, kd_rc, kd_rd, ln_ra, ln_rb, ln_rc, ln_rd, kd_c, kd_ca, ln_ca, kd_t, kd_ta, kd_tb, kd_tc, ln_ta, ln_tb, ln_tc, ln_1, ln_2, ln_3, ln_51, kd_27, kd_28, kd_29, kd_30, kd_31, kd_32, kd_33, kd_34, kd_35, kd_36, kd_37, kd_38, kd_39, kd_40, kd_41, kd_42, kd_43, kd_44, kd_45, kd_46, kd_47, kd_48, kd_49, kd_50, kd_51, ln_28, ln_29, ln_30, ln_31, ln_32, ln_33, ln_34, ln_35, ln_36, ln_37, ln_38, ln_39, ln_40, ln_41, ln_42, ln_43, ln_44, ln_45, ln_46, ln_47, ln_48, ln_49, ln_50, inb_n, cl_n, g_n_s_i, g_n_s_l, mul_3, mul_4, mul_6, mul_61, nI_add, nI_1, nle_0, nle_1, nle_2, nle_3, nle_4, nle_5, nle_6, nle_7, nle_60, nle_61, nlt_0, nlt_1, nlt_2, nlt_3, nlt_4, nlt_5, nlt_6, nlt_7, nlt_60, nlt_61, nge_0, nge_1, nge_2, nge_3, nge_4, nge_5, nge_6, nge_7, nge_60, nge_61, ngt_0, ngt_1, ngt_2, ngt_3, ngt_4, ngt_5, ngt_6, ngt_7, ngt_60, ngt_61, neq_0, neq_1, neq_2, neq_3, neq_4, neq_5, neq_6, neq_7, neq_60, neq_61, and_self, and_true, true_and, or_true, true_or, if_true, if_false, or_self, and_false, false_and, or_false, false_or, not_true_eq_false, not_false_eq_true, ne_eq, reduceCtorEq, eq_self, bind_s, c10, c01, c20, c30, c40, cl_0, inb_0, onI_l, onI_r, onV_l, onV_r, f_L_begin, b_G_begin_40, f_G_begin, ↓bq (p_isC0 hx)]
    · simp (disch := omega) only [↓reduceIte, ↓wi_e, ↓wn_e, ↓rc_i, ↓rc_l, ↓h0.q0, ↓h0.q1, ↓h0.q2, ↓h0.qr, ↓h0.qc, ↓h0.qr2, ↓h0.qr3, ↓h0.qr4, ↓h0.qr5, ↓h0.qc5, ↓h0.qt, ↓h0.qt4, ↓h0.qt5, ↓h0.qt6, ↓h0.qm2, ↓h0.qm3, ↓h0.qm4, ↓h0.qm5, ↓h0.qm6, ↓h0.qm7, ↓h0.qm8, ↓h0.qm9, ↓h0.qm10, ↓h0.qm11, ↓h0.qm12, ↓h0.qm13, ↓h0.qm14, ↓h0.qm15, ↓h0.qm16, ↓h0.qm17, ↓h0.qm18, ↓h0.qm19, ↓h0.qm20, ↓h0.qm21, ↓h0.qm22, ↓h0.qm23, ↓h0.qm24, h0.lt, kd_0, kd_1, kd_2, kd_3, kd_r, kd_ra, kd_rb, kd_rc, kd_rd, ln_ra, ln_rb, ln_rc, ln_rd, kd_c, kd_ca, ln_ca, kd_t, kd_ta, kd_tb, kd_tc, ln_ta, ln_tb, ln_tc, ln_1, ln_2, ln_3, ln_51, kd_27, kd_28, kd_29, kd_30, kd_31, kd_32, kd_33, kd_34, kd_35, kd_36, kd_37, kd_38, kd_39, kd_40, kd_41, kd_42, kd_43, kd_44, kd_45, kd_46, kd_47, kd_48, kd_49, kd_50, kd_51, ln_28, ln_29, ln_30, ln_31, ln_32, ln_33, ln_34, ln_35, ln_36, ln_37, ln_38, ln_39, ln_40, ln_41, ln_42, ln_43, ln_44, ln_45, ln_46, ln_47, ln_48, ln_49, ln_50, inb_n, cl_n, g_n_s_i, g_n_s_l, mul_3, mul_4, mul_6, mul_61, nI_add, nI_1, nle_0, nle_1, nle_2, nle_3, nle_4, nle_5, nle_6, nle_7, nle_60, nle_61, nlt_0, nlt_1, nlt_2, nlt_3, nlt_4, nlt_5, nlt_6, nlt_7, nlt_60, nlt_61, nge_0, nge_1, nge_2, nge_3, nge_4, nge_5, nge_6, nge_7, nge_60, nge_61, ngt_0, ngt_1, ngt_2, ngt_3, ngt_4, ngt_5, ngt_6, ngt_7, ngt_60, ngt_61, neq_0, neq_1, neq_2, neq_3, neq_4, neq_5, neq_6, neq_7, neq_60, neq_61, and_self, and_true, true_and, or_true, true_or, if_true, if_false, or_self, and_false, false_and, or_false, false_or, not_true_eq_false, not_false_eq_true, ne_eq, reduceCtorEq, eq_self, bind_s, c10, c01, c20, c30, c40, cl_0, inb_0, onI_l, onI_r, onV_l, onV_r, b_M_begin_35, b_M_begin_30, f_M_begin, ↓bq (p_mC0 hx), ↓bq (p_says h0 _)]

