/-! read: class and reference. -/
theorem Rl.cg {σ σ' : Sg} {u m : Nat} (q : Rl σ u m) (a : g_i σ' (48 + 4 * u) 2 = g_i σ (48 + 4 * u) 2) (b : g_i σ' 29 u = g_i σ 29 u) (c : ∀ j, j < 4 → g_i σ' 30 (4 * u + j) = g_i σ 30 (4 * u + j) ∧ g_i σ' 31 (4 * u + j) = g_i σ 31 (4 * u + j) ∧ g_i σ' 32 (4 * u + j) = g_i σ 32 (4 * u + j)) (d : ∀ k, k < 6 → g_i σ' (49 + 4 * u) k = g_i σ (49 + 4 * u) k ∧ g_i σ' (50 + 4 * u) k = g_i σ (50 + 4 * u) k) : Rl σ' u m := by
  obtain ⟨h1, h2, h3, h4, h5, h6⟩ := q
  refine ⟨h1, h2, a.trans h3, b.trans h4, fun j hj => ?_, fun k hk hb => ?_⟩
  · obtain ⟨k, hk, e1, e2, e3, e4⟩ := h5 j hj
    obtain ⟨c1, c2, c3⟩ := c j (by omega)
    obtain ⟨d1, d2⟩ := d k hk
    exact ⟨k, hk, e1, c1.trans e2, by rw [c2, e3, d1], by rw [c3, e4, d2]⟩
  · obtain ⟨j, hj, e⟩ := h6 k hk hb
    exact ⟨j, hj, (c j (by omega)).1.trans e⟩
theorem Wl.cg {σ σ' : Sg} {u m : Nat} (q : Wl σ u m) (a : g_i σ' (48 + 4 * u) 3 = g_i σ (48 + 4 * u) 3) (b : g_i σ' 33 u = g_i σ 33 u) (c : ∀ j, j < 4 → g_i σ' 34 (4 * u + j) = g_i σ 34 (4 * u + j) ∧ g_i σ' 35 (4 * u + j) = g_i σ 35 (4 * u + j)) (d : ∀ k, k < 6 → g_i σ' (51 + 4 * u) k = g_i σ (51 + 4 * u) k) : Wl σ' u m := by
  obtain ⟨h1, h2, h3, h4, h5, h6, h7⟩ := q
  refine ⟨h1, h2, a.trans h3, b.trans h4, fun j hj => ?_, fun k hk hb => ?_, fun i j hi hj e => ?_⟩
  · obtain ⟨k, hk, e1, e2, e3⟩ := h5 j hj
    obtain ⟨c1, c2⟩ := c j (by omega)
    exact ⟨k, hk, e1, c1.trans e2, by rw [c2, e3, d k hk]⟩
  · obtain ⟨j, hj, e⟩ := h6 k hk hb
    exact ⟨j, hj, (c j (by omega)).1.trans e⟩
  · rw [(c i (by omega)).1, (c j (by omega)).1] at e
    exact h7 i j hi hj e
theorem sv_e {b : Nat} {M W : Nat → Nat} {σ : Sg} (h : R b M W σ) {i : Nat} (hi : i < 3) : (if g_i σ 42 i = 0 then (0 : Int32) else if g_i σ 43 i = mgv σ then 1 else 0) = (if g_i σ (4 + 5 * i) 0 = 0 then (0 : Int32) else if g_i σ (4 + 5 * i) 1 = gv σ then 1 else 0) := by
  obtain ⟨a, b, _⟩ := h.r2 i hi
  rw [a, b, mgv_e h]
theorem l_read_v {b : Nat} {M W : Nat → Nat} {σ : Sg} (h : R b M W σ) {c k i : Nat} {v : Int32} {σ1 : Sg} (g : f_G_read σ 0 (nI c) (nI k) (nI i) = some (.inl (some (.int v)), σ1)) (hs : σ1.1 = σ.1) : f_L_read σ 0 (nI c) (nI k) (nI i) 51 = some (0, s_l σ1 51 0 v.toInt64) := by
  have h0 := h.r0
  simp (disch := omega) only [↓reduceIte, ↓wi_e, ↓wn_e, ↓rc_i, ↓rc_l, ↓h0.q0, ↓h0.q1, ↓h0.q2, ↓h0.qr, ↓h0.qc, ↓h0.qr2, ↓h0.qr3, ↓h0.qr4, ↓h0.qr5, ↓h0.qc5, ↓h0.qt, ↓h0.qt4, ↓h0.qt5, ↓h0.qt6, ↓h0.qm2, ↓h0.qm3, ↓h0.qm4, ↓h0.qm5, ↓h0.qm6, ↓h0.qm7, ↓h0.qm8, ↓h0.qm9, ↓h0.qm10, ↓h0.qm11, ↓h0.qm12, ↓h0.qm13, ↓h0.qm14, ↓h0.qm15, ↓h0.qm16, ↓h0.qm17, ↓h0.qm18, ↓h0.qm19, ↓h0.qm20, ↓h0.qm21, ↓h0.qm22, ↓h0.qm23, ↓h0.qm24, h0.lt, kd_0, kd_1, kd_2, kd_3, kd_r, kd_ra, kd_rb, kd_rc, kd_rd, ln_ra, ln_rb, ln_rc, ln_rd, kd_c, kd_ca, ln_ca, kd_t, kd_ta, kd_tb, kd_tc, ln_ta, ln_tb, ln_tc, ln_1, ln_2, ln_3, ln_51, kd_27, kd_28, kd_29, kd_30, kd_31, kd_32, kd_33, kd_34, kd_35, kd_36, kd_37, kd_38, kd_39, kd_40, kd_41, kd_42, kd_43, kd_44, kd_45, kd_46, kd_47, kd_48, kd_49, kd_50, kd_51, ln_28, ln_29, ln_30, ln_31, ln_32, ln_33, ln_34, ln_35, ln_36, ln_37, ln_38, ln_39, ln_40, ln_41, ln_42, ln_43, ln_44, ln_45, ln_46, ln_47, ln_48, ln_49, ln_50, inb_n, cl_n, g_n_s_i, g_n_s_l, mul_3, mul_4, mul_6, mul_61, nI_add, nI_1, nle_0, nle_1, nle_2, nle_3, nle_4, nle_5, nle_6, nle_7, nle_60, nle_61, nlt_0, nlt_1, nlt_2, nlt_3, nlt_4, nlt_5, nlt_6, nlt_7, nlt_60, nlt_61, nge_0, nge_1, nge_2, nge_3, nge_4, nge_5, nge_6, nge_7, nge_60, nge_61, ngt_0, ngt_1, ngt_2, ngt_3, ngt_4, ngt_5, ngt_6, ngt_7, ngt_60, ngt_61, neq_0, neq_1, neq_2, neq_3, neq_4, neq_5, neq_6, neq_7, neq_60, neq_61, Nat.not_lt_zero, and_self, and_true, true_and, or_true, true_or, if_true, if_false, or_self, and_false, false_and, or_false, false_or, not_true_eq_false, not_false_eq_true, ne_eq, reduceCtorEq, eq_self, bind_s, c10, c01, c20, c30, c40, cl_0, inb_0, onI_l, onI_r, onV_l, onV_r, f_L_read, ↓bq g, hs]
/-- the state in which the class has seen key k -/
def se (σ : Sg) (t k m : Nat) (x y : Int32) : Sg := s_i (s_i (s_i σ (48 + 4 * t) 2 (nI (m ||| 1 <<< k))) (49 + 4 * t) k x) (50 + 4 * t) k y
theorem r_see {b : Nat} {M W : Nat → Nat} {σ : Sg} (h : R b M W σ) {c k i t : Nat} (hc : c < 4) (hk : k < 6) (hi : i < 3) (ht1 : 1 ≤ t) (ht2 : t ≤ b) (s1 : g_i σ 36 c = 1) (et : g_i σ 37 c = nI t) (hb : (M t).testBit k = false) (h4 : pc (M t) < 4) (z : Int64) :
    R b (fun u => if u = t then M t ||| 1 <<< k else M u) W (s_i (s_i (s_i (s_i (s_i (s_i (s_l (se σ t k (M t) (g_i σ (5 + 5 * i) k) (g_i σ (6 + 5 * i) k)) 51 0 z) 27 0 0) 27 0 0) 30 (4 * t + pc (M t)) (nI k)) 31 (4 * t + pc (M t)) (g_i σ (5 + 5 * i) k)) 32 (4 * t + pc (M t)) (g_i σ (6 + 5 * i) k)) 29 t (nI (pc (M t) + 1))) := by
  have hb6 := h.r0.b60
  unfold se
  refine ⟨h.r0, by unfold Z1; simp (disch := omega) only [gi_n, g_r_s_i, g_r_s_l, g_i_s_l, g_i_s_r, gr_n, Bd, Rl, Wl]; exact h.r1, by intro i' hi'; have q := h.r2 i' hi'; revert q; simp (disch := omega) only [gi_n, g_r_s_i, g_r_s_l, g_i_s_l, g_i_s_r, gr_n, Bd, Rl, Wl]; exact id, by intro i' hi' k' hk'; have q := h.r3 i' hi' k' hk'; revert q; simp (disch := omega) only [gi_n, g_r_s_i, g_r_s_l, g_i_s_l, g_i_s_r, gr_n, Bd, Rl, Wl]; exact id, by intro i' hi' k' hk'; have q := h.r4 i' hi' k' hk'; revert q; simp (disch := omega) only [gi_n, g_r_s_i, g_r_s_l, g_i_s_l, g_i_s_r, gr_n, Bd, Rl, Wl]; exact id, by intro i' hi' j' hj' k' hk'; have q := h.r5 i' hi' j' hj' k' hk'; revert q; simp (disch := omega) only [gi_n, g_r_s_i, g_r_s_l, g_i_s_l, g_i_s_r, gr_n, Bd, Rl, Wl]; exact id, by intro i' hi' t' ht'; have q := h.r6 i' hi' t' ht'; revert q; simp (disch := omega) only [gi_n, g_r_s_i, g_r_s_l, g_i_s_l, g_i_s_r, gr_n, Bd, Rl, Wl]; exact id, ⟨by intro i' hi' t' ht'; have q := h.r7.1 i' hi' t' ht'; revert q; simp (disch := omega) only [gi_n, g_r_s_i, g_r_s_l, g_i_s_l, g_i_s_r, gr_n, Bd, Rl, Wl]; exact id, by intro t' hb' ht'; have q := h.r7.2 t' hb' ht'; revert q; simp (disch := omega) only [gi_n, g_r_s_i, g_r_s_l, g_i_s_l, g_i_s_r, gr_n, Bd, Rl, Wl]; exact id⟩, by intro c' hc'; have q := h.r8 c' hc'; revert q; simp (disch := omega) only [gi_n, g_r_s_i, g_r_s_l, g_i_s_l, g_i_s_r, gr_n, Bd, Rl, Wl]; exact id, by intro c' hc'; have q := h.r9 c' hc'; revert q; simp (disch := omega) only [gi_n, g_r_s_i, g_r_s_l, g_i_s_l, g_i_s_r, gr_n, Bd, Rl, Wl]; exact id, by intro c' hc'; have q := h.r10 c' hc'; revert q; simp (disch := omega) only [gi_n, g_r_s_i, g_r_s_l, g_i_s_l, g_i_s_r, gr_n, Bd, Rl, Wl]; exact id, ?_, by intro c' hc' d' hd'; have q := h.r12 c' hc' d' hd'; revert q; simp (disch := omega) only [gi_n, g_r_s_i, g_r_s_l, g_i_s_l, g_i_s_r, gr_n, Bd, Rl, Wl]; exact id, by intro c' hc' t' ht'; have q := h.r13 c' hc' t' ht'; revert q; simp (disch := omega) only [gi_n, g_r_s_i, g_r_s_l, g_i_s_l, g_i_s_r, gr_n, Bd, Rl, Wl]; exact id, ?_, by intro t' ht1' ht2' i' hi' k' hk'; have q := h.r15 t' ht1' ht2' i' hi' k' hk'; revert q; simp (disch := omega) only [gi_n, g_r_s_i, g_r_s_l, g_i_s_l, g_i_s_r, gr_n, Bd, Rl, Wl]; exact id, by intro t' ht1' ht2' u' hu1' hu2'; have q := h.r16 t' ht1' ht2' u' hu1' hu2'; revert q; simp (disch := omega) only [gi_n, g_r_s_i, g_r_s_l, g_i_s_l, g_i_s_r, gr_n, Bd, Rl, Wl]; exact id, ⟨by intro c' hc'; have q := h.r17.1 c' hc'; revert q; simp (disch := omega) only [gi_n, g_r_s_i, g_r_s_l, g_i_s_l, g_i_s_r, gr_n, Bd, Rl, Wl]; exact id, by intro t' h1' h2'; have q := h.r17.2.1 t' h1' h2'; revert q; simp (disch := omega) only [gi_n, g_r_s_i, g_r_s_l, g_i_s_l, g_i_s_r, gr_n, Bd, Rl, Wl]; exact id, by intro i' hi' k' hk'; have q := h.r17.2.2 i' hi' k' hk'; revert q; simp (disch := omega) only [gi_n, g_r_s_i, g_r_s_l, g_i_s_l, g_i_s_r, gr_n, Bd, Rl, Wl]; exact id⟩⟩
  · intro u hu1 hu2
    obtain ⟨q1, q2, q3, q4⟩ := h.r11 u hu1 hu2
    by_cases e : u = t
    · subst e
      refine ⟨by simp (disch := omega) only [gi_n, gi_s, g_i_s_l]; exact q1, by simp (disch := omega) only [gi_n, gi_s, g_i_s_l]; exact q2, ?_, ?_⟩
      · simp only [if_true]
        obtain ⟨w1, w2, w3, w4, w5, w6⟩ := q3
        have pb := pc_set (M u) w1 k hk hb
        refine ⟨(bit_set (M u) w1 k hk).2, by omega, by simp (disch := omega) only [gi_n, gi_s, g_i_s_l], by rw [pb]; simp (disch := omega) only [gi_n, gi_s, g_i_s_l], fun j hj => ?_, fun k' hk' hb' => ?_⟩
        · rw [pb] at hj
          by_cases ej : j = pc (M u)
          · subst ej
            refine ⟨k, hk, ?_, by simp (disch := omega) only [gi_n, gi_s, g_i_s_l], by simp (disch := omega) only [gi_n, gi_s, g_i_s_l], by simp (disch := omega) only [gi_n, gi_s, g_i_s_l]⟩
            rw [tb_set (M u) w1 k hk k hk]
            simp
          · obtain ⟨k', hk', e1, e2, e3, e4⟩ := w5 j (by omega)
            have nk : k' ≠ k := by
              intro q
              rw [q, hb] at e1
              exact absurd e1 (by decide)
            refine ⟨k', hk', ?_, by simp (disch := omega) only [gi_n, gi_s, g_i_s_l]; exact e2, by simp (disch := omega) only [gi_n, gi_s, g_i_s_l]; exact e3, by simp (disch := omega) only [gi_n, gi_s, g_i_s_l]; exact e4⟩
            rw [tb_set (M u) w1 k hk k' hk', e1]
            rfl
        · rw [pb]
          rw [tb_set (M u) w1 k hk k' hk'] at hb'
          by_cases ek : k' = k
          · subst ek
            exact ⟨pc (M u), by omega, by simp (disch := omega) only [gi_n, gi_s, g_i_s_l]⟩
          · have b2 : (M u).testBit k' = true := by simpa [ek] using hb'
            obtain ⟨j, hj, e⟩ := w6 k' hk' b2
            exact ⟨j, by omega, by simp (disch := omega) only [gi_n, gi_s, g_i_s_l]; exact e⟩
      · exact q4.cg (by simp (disch := omega) only [gi_n, gi_s, g_i_s_l]) (by simp (disch := omega) only [gi_n, gi_s, g_i_s_l]) (fun j hj => ⟨by simp (disch := omega) only [gi_n, gi_s, g_i_s_l], by simp (disch := omega) only [gi_n, gi_s, g_i_s_l]⟩) (fun k' hk' => by simp (disch := omega) only [gi_n, gi_s, g_i_s_l])
    · refine ⟨by simp (disch := omega) only [gi_n, gi_s, g_i_s_l]; exact q1, by simp (disch := omega) only [gi_n, gi_s, g_i_s_l]; exact q2, ?_, ?_⟩
      · simp only [if_neg e]
        exact q3.cg (by simp (disch := omega) only [gi_n, gi_s, g_i_s_l]) (by simp (disch := omega) only [gi_n, gi_s, g_i_s_l]) (fun j hj => ⟨by simp (disch := omega) only [gi_n, gi_s, g_i_s_l], by simp (disch := omega) only [gi_n, gi_s, g_i_s_l], by simp (disch := omega) only [gi_n, gi_s, g_i_s_l]⟩) (fun k' hk' => ⟨by simp (disch := omega) only [gi_n, gi_s, g_i_s_l], by simp (disch := omega) only [gi_n, gi_s, g_i_s_l]⟩)
      · exact q4.cg (by simp (disch := omega) only [gi_n, gi_s, g_i_s_l]) (by simp (disch := omega) only [gi_n, gi_s, g_i_s_l]) (fun j hj => ⟨by simp (disch := omega) only [gi_n, gi_s, g_i_s_l], by simp (disch := omega) only [gi_n, gi_s, g_i_s_l]⟩) (fun k' hk' => by simp (disch := omega) only [gi_n, gi_s, g_i_s_l])
  · intro j hj u hu1 hu2 k' hk'
    have q := h.r14 j hj u hu1 hu2 k' hk'
    by_cases e : u = t
    · subst e
      simp (disch := omega) only [gi_n, gi_s, g_i_s_l]
      intro z
      exact absurd (((h.r13 c hc u (by omega) et).2 (Or.inl s1)) j hj).1 z
    · simp only [if_neg e]
      revert q
      simp (disch := omega) only [gi_n, gi_s, g_i_s_l]
      exact id
theorem o_read {b : Nat} {M W : Nat → Nat} {σ : Sg} (h : R b M W σ) (x y z : Int32) : OpI (f_L_read σ 0 x y z 51) (fun s => f_M_read s 27 x y z) (fun v => v.toInt64) := by
  have h0 := h.r0
  have hb6 := h0.b60
  rcases oor4 (x := x) with ⟨c, hc, rfl⟩ | hx
  rotate_left
  · refine OpI.bad h (k := 1) (by decide) (v := 0) ?_ ?_
    · simp (disch := omega) only [↓reduceIte, ↓wi_e, ↓wn_e, ↓rc_i, ↓rc_l, ↓h0.q0, ↓h0.q1, ↓h0.q2, ↓h0.qr, ↓h0.qc, ↓h0.qr2, ↓h0.qr3, ↓h0.qr4, ↓h0.qr5, ↓h0.qc5, ↓h0.qt, ↓h0.qt4, ↓h0.qt5, ↓h0.qt6, ↓h0.qm2, ↓h0.qm3, ↓h0.qm4, ↓h0.qm5, ↓h0.qm6, ↓h0.qm7, ↓h0.qm8, ↓h0.qm9, ↓h0.qm10, ↓h0.qm11, ↓h0.qm12, ↓h0.qm13, ↓h0.qm14, ↓h0.qm15, ↓h0.qm16, ↓h0.qm17, ↓h0.qm18, ↓h0.qm19, ↓h0.qm20, ↓h0.qm21, ↓h0.qm22, ↓h0.qm23, ↓h0.qm24, h0.lt, kd_0, kd_1, kd_2, kd_3, kd_r, kd_ra, kd_rb, kd_rc, kd_rd, ln_ra, ln_rb, ln_rc, ln_rd, kd_c, kd_ca, ln_ca, kd_t, kd_ta, kd_tb, kd_tc, ln_ta, ln_tb, ln_tc, ln_1, ln_2, ln_3, ln_51, kd_27, kd_28, kd_29, kd_30, kd_31, kd_32, kd_33, kd_34, kd_35, kd_36, kd_37, kd_38, kd_39, kd_40, kd_41, kd_42, kd_43, kd_44, kd_45, kd_46, kd_47, kd_48, kd_49, kd_50, kd_51, ln_28, ln_29, ln_30, ln_31, ln_32, ln_33, ln_34, ln_35, ln_36, ln_37, ln_38, ln_39, ln_40, ln_41, ln_42, ln_43, ln_44, ln_45, ln_46, ln_47, ln_48, ln_49, ln_50, inb_n, cl_n, g_n_s_i, g_n_s_l, mul_3, mul_4, mul_6, mul_61, nI_add, nI_1, nle_0, nle_1, nle_2, nle_3, nle_4, nle_5, nle_6, nle_7, nle_60, nle_61, nlt_0, nlt_1, nlt_2, nlt_3, nlt_4, nlt_5, nlt_6, nlt_7, nlt_60, nlt_61, nge_0, nge_1, nge_2, nge_3, nge_4, nge_5, nge_6, nge_7, nge_60, nge_61, ngt_0, ngt_1, ngt_2, ngt_3, ngt_4, ngt_5, ngt_6, ngt_7, ngt_60, ngt_61, neq_0, neq_1, neq_2, neq_3, neq_4, neq_5, neq_6, neq_7, neq_60, neq_61, Nat.not_lt_zero, and_self, and_true, true_and, or_true, true_or, if_true, if_false, or_self, and_false, false_and, or_false, false_or, not_true_eq_false, not_false_eq_true, ne_eq, reduceCtorEq, eq_self, bind_s, c10, c01, c20, c30, c40, cl_0, inb_0, onI_l, onI_r, onV_l, onV_r, f_L_read, b_G_read_21, b_G_read_60, f_G_read, ↓bq (p_isC0 hx)]
    · simp (disch := omega) only [↓reduceIte, ↓wi_e, ↓wn_e, ↓rc_i, ↓rc_l, ↓h0.q0, ↓h0.q1, ↓h0.q2, ↓h0.qr, ↓h0.qc, ↓h0.qr2, ↓h0.qr3, ↓h0.qr4, ↓h0.qr5, ↓h0.qc5, ↓h0.qt, ↓h0.qt4, ↓h0.qt5, ↓h0.qt6, ↓h0.qm2, ↓h0.qm3, ↓h0.qm4, ↓h0.qm5, ↓h0.qm6, ↓h0.qm7, ↓h0.qm8, ↓h0.qm9, ↓h0.qm10, ↓h0.qm11, ↓h0.qm12, ↓h0.qm13, ↓h0.qm14, ↓h0.qm15, ↓h0.qm16, ↓h0.qm17, ↓h0.qm18, ↓h0.qm19, ↓h0.qm20, ↓h0.qm21, ↓h0.qm22, ↓h0.qm23, ↓h0.qm24, h0.lt, kd_0, kd_1, kd_2, kd_3, kd_r, kd_ra, kd_rb, kd_rc, kd_rd, ln_ra, ln_rb, ln_rc, ln_rd, kd_c, kd_ca, ln_ca, kd_t, kd_ta, kd_tb, kd_tc, ln_ta, ln_tb, ln_tc, ln_1, ln_2, ln_3, ln_51, kd_27, kd_28, kd_29, kd_30, kd_31, kd_32, kd_33, kd_34, kd_35, kd_36, kd_37, kd_38, kd_39, kd_40, kd_41, kd_42, kd_43, kd_44, kd_45, kd_46, kd_47, kd_48, kd_49, kd_50, kd_51, ln_28, ln_29, ln_30, ln_31, ln_32, ln_33, ln_34, ln_35, ln_36, ln_37, ln_38, ln_39, ln_40, ln_41, ln_42, ln_43, ln_44, ln_45, ln_46, ln_47, ln_48, ln_49, ln_50, inb_n, cl_n, g_n_s_i, g_n_s_l, mul_3, mul_4, mul_6, mul_61, nI_add, nI_1, nle_0, nle_1, nle_2, nle_3, nle_4, nle_5, nle_6, nle_7, nle_60, nle_61, nlt_0, nlt_1, nlt_2, nlt_3, nlt_4, nlt_5, nlt_6, nlt_7, nlt_60, nlt_61, nge_0, nge_1, nge_2, nge_3, nge_4, nge_5, nge_6, nge_7, nge_60, nge_61, ngt_0, ngt_1, ngt_2, ngt_3, ngt_4, ngt_5, ngt_6, ngt_7, ngt_60, ngt_61, neq_0, neq_1, neq_2, neq_3, neq_4, neq_5, neq_6, neq_7, neq_60, neq_61, Nat.not_lt_zero, and_self, and_true, true_and, or_true, true_or, if_true, if_false, or_self, and_false, false_and, or_false, false_or, not_true_eq_false, not_false_eq_true, ne_eq, reduceCtorEq, eq_self, bind_s, c10, c01, c20, c30, c40, cl_0, inb_0, onI_l, onI_r, onV_l, onV_r, f_M_read, b_M_read_25, b_M_read_26, b_M_read_52, ↓bq (p_mC0 hx), ↓bq (p_says h0 _)]
  rcases oor6 (x := y) with ⟨k, hk, rfl⟩ | hy
  rotate_left
  · refine OpI.bad h (k := 1) (by decide) (v := 0) ?_ ?_
    · simp (disch := omega) only [↓reduceIte, ↓wi_e, ↓wn_e, ↓rc_i, ↓rc_l, ↓h0.q0, ↓h0.q1, ↓h0.q2, ↓h0.qr, ↓h0.qc, ↓h0.qr2, ↓h0.qr3, ↓h0.qr4, ↓h0.qr5, ↓h0.qc5, ↓h0.qt, ↓h0.qt4, ↓h0.qt5, ↓h0.qt6, ↓h0.qm2, ↓h0.qm3, ↓h0.qm4, ↓h0.qm5, ↓h0.qm6, ↓h0.qm7, ↓h0.qm8, ↓h0.qm9, ↓h0.qm10, ↓h0.qm11, ↓h0.qm12, ↓h0.qm13, ↓h0.qm14, ↓h0.qm15, ↓h0.qm16, ↓h0.qm17, ↓h0.qm18, ↓h0.qm19, ↓h0.qm20, ↓h0.qm21, ↓h0.qm22, ↓h0.qm23, ↓h0.qm24, h0.lt, kd_0, kd_1, kd_2, kd_3, kd_r, kd_ra, kd_rb, kd_rc, kd_rd, ln_ra, ln_rb, ln_rc, ln_rd, kd_c, kd_ca, ln_ca, kd_t, kd_ta, kd_tb, kd_tc, ln_ta, ln_tb, ln_tc, ln_1, ln_2, ln_3, ln_51, kd_27, kd_28, kd_29, kd_30, kd_31, kd_32, kd_33, kd_34, kd_35, kd_36, kd_37, kd_38, kd_39, kd_40, kd_41, kd_42, kd_43, kd_44, kd_45, kd_46, kd_47, kd_48, kd_49, kd_50, kd_51, ln_28, ln_29, ln_30, ln_31, ln_32, ln_33, ln_34, ln_35, ln_36, ln_37, ln_38, ln_39, ln_40, ln_41, ln_42, ln_43, ln_44, ln_45, ln_46, ln_47, ln_48, ln_49, ln_50, inb_n, cl_n, g_n_s_i, g_n_s_l, mul_3, mul_4, mul_6, mul_61, nI_add, nI_1, nle_0, nle_1, nle_2, nle_3, nle_4, nle_5, nle_6, nle_7, nle_60, nle_61, nlt_0, nlt_1, nlt_2, nlt_3, nlt_4, nlt_5, nlt_6, nlt_7, nlt_60, nlt_61, nge_0, nge_1, nge_2, nge_3, nge_4, nge_5, nge_6, nge_7, nge_60, nge_61, ngt_0, ngt_1, ngt_2, ngt_3, ngt_4, ngt_5, ngt_6, ngt_7, ngt_60, ngt_61, neq_0, neq_1, neq_2, neq_3, neq_4, neq_5, neq_6, neq_7, neq_60, neq_61, Nat.not_lt_zero, and_self, and_true, true_and, or_true, true_or, if_true, if_false, or_self, and_false, false_and, or_false, false_or, not_true_eq_false, not_false_eq_true, ne_eq, reduceCtorEq, eq_self, bind_s, c10, c01, c20, c30, c40, cl_0, inb_0, onI_l, onI_r, onV_l, onV_r, f_L_read, b_G_read_21, b_G_read_60, f_G_read, ↓bq (p_isC1 hc), ↓bq (p_isK0 hy)]
    · simp (disch := omega) only [↓reduceIte, ↓wi_e, ↓wn_e, ↓rc_i, ↓rc_l, ↓h0.q0, ↓h0.q1, ↓h0.q2, ↓h0.qr, ↓h0.qc, ↓h0.qr2, ↓h0.qr3, ↓h0.qr4, ↓h0.qr5, ↓h0.qc5, ↓h0.qt, ↓h0.qt4, ↓h0.qt5, ↓h0.qt6, ↓h0.qm2, ↓h0.qm3, ↓h0.qm4, ↓h0.qm5, ↓h0.qm6, ↓h0.qm7, ↓h0.qm8, ↓h0.qm9, ↓h0.qm10, ↓h0.qm11, ↓h0.qm12, ↓h0.qm13, ↓h0.qm14, ↓h0.qm15, ↓h0.qm16, ↓h0.qm17, ↓h0.qm18, ↓h0.qm19, ↓h0.qm20, ↓h0.qm21, ↓h0.qm22, ↓h0.qm23, ↓h0.qm24, h0.lt, kd_0, kd_1, kd_2, kd_3, kd_r, kd_ra, kd_rb, kd_rc, kd_rd, ln_ra, ln_rb, ln_rc, ln_rd, kd_c, kd_ca, ln_ca, kd_t, kd_ta, kd_tb, kd_tc, ln_ta, ln_tb, ln_tc, ln_1, ln_2, ln_3, ln_51, kd_27, kd_28, kd_29, kd_30, kd_31, kd_32, kd_33, kd_34, kd_35, kd_36, kd_37, kd_38, kd_39, kd_40, kd_41, kd_42, kd_43, kd_44, kd_45, kd_46, kd_47, kd_48, kd_49, kd_50, kd_51, ln_28, ln_29, ln_30, ln_31, ln_32, ln_33, ln_34, ln_35, ln_36, ln_37, ln_38, ln_39, ln_40, ln_41, ln_42, ln_43, ln_44, ln_45, ln_46, ln_47, ln_48, ln_49, ln_50, inb_n, cl_n, g_n_s_i, g_n_s_l, mul_3, mul_4, mul_6, mul_61, nI_add, nI_1, nle_0, nle_1, nle_2, nle_3, nle_4, nle_5, nle_6, nle_7, nle_60, nle_61, nlt_0, nlt_1, nlt_2, nlt_3, nlt_4, nlt_5, nlt_6, nlt_7, nlt_60, nlt_61, nge_0, nge_1, nge_2, nge_3, nge_4, nge_5, nge_6, nge_7, nge_60, nge_61, ngt_0, ngt_1, ngt_2, ngt_3, ngt_4, ngt_5, ngt_6, ngt_7, ngt_60, ngt_61, neq_0, neq_1, neq_2, neq_3, neq_4, neq_5, neq_6, neq_7, neq_60, neq_61, Nat.not_lt_zero, and_self, and_true, true_and, or_true, true_or, if_true, if_false, or_self, and_false, false_and, or_false, false_or, not_true_eq_false, not_false_eq_true, ne_eq, reduceCtorEq, eq_self, bind_s, c10, c01, c20, c30, c40, cl_0, inb_0, onI_l, onI_r, onV_l, onV_r, f_M_read, b_M_read_25, b_M_read_26, b_M_read_52, ↓bq (p_mC1 hc), ↓bq (p_mK0 hy), ↓bq (p_says h0 _)]
  rcases oor3 (x := z) with ⟨i, hi, rfl⟩ | hz
  rotate_left
  · refine OpI.bad h (k := 1) (by decide) (v := 0) ?_ ?_
    · simp (disch := omega) only [↓reduceIte, ↓wi_e, ↓wn_e, ↓rc_i, ↓rc_l, ↓h0.q0, ↓h0.q1, ↓h0.q2, ↓h0.qr, ↓h0.qc, ↓h0.qr2, ↓h0.qr3, ↓h0.qr4, ↓h0.qr5, ↓h0.qc5, ↓h0.qt, ↓h0.qt4, ↓h0.qt5, ↓h0.qt6, ↓h0.qm2, ↓h0.qm3, ↓h0.qm4, ↓h0.qm5, ↓h0.qm6, ↓h0.qm7, ↓h0.qm8, ↓h0.qm9, ↓h0.qm10, ↓h0.qm11, ↓h0.qm12, ↓h0.qm13, ↓h0.qm14, ↓h0.qm15, ↓h0.qm16, ↓h0.qm17, ↓h0.qm18, ↓h0.qm19, ↓h0.qm20, ↓h0.qm21, ↓h0.qm22, ↓h0.qm23, ↓h0.qm24, h0.lt, kd_0, kd_1, kd_2, kd_3, kd_r, kd_ra, kd_rb, kd_rc, kd_rd, ln_ra, ln_rb, ln_rc, ln_rd, kd_c, kd_ca, ln_ca, kd_t, kd_ta, kd_tb, kd_tc, ln_ta, ln_tb, ln_tc, ln_1, ln_2, ln_3, ln_51, kd_27, kd_28, kd_29, kd_30, kd_31, kd_32, kd_33, kd_34, kd_35, kd_36, kd_37, kd_38, kd_39, kd_40, kd_41, kd_42, kd_43, kd_44, kd_45, kd_46, kd_47, kd_48, kd_49, kd_50, kd_51, ln_28, ln_29, ln_30, ln_31, ln_32, ln_33, ln_34, ln_35, ln_36, ln_37, ln_38, ln_39, ln_40, ln_41, ln_42, ln_43, ln_44, ln_45, ln_46, ln_47, ln_48, ln_49, ln_50, inb_n, cl_n, g_n_s_i, g_n_s_l, mul_3, mul_4, mul_6, mul_61, nI_add, nI_1, nle_0, nle_1, nle_2, nle_3, nle_4, nle_5, nle_6, nle_7, nle_60, nle_61, nlt_0, nlt_1, nlt_2, nlt_3, nlt_4, nlt_5, nlt_6, nlt_7, nlt_60, nlt_61, nge_0, nge_1, nge_2, nge_3, nge_4, nge_5, nge_6, nge_7, nge_60, nge_61, ngt_0, ngt_1, ngt_2, ngt_3, ngt_4, ngt_5, ngt_6, ngt_7, ngt_60, ngt_61, neq_0, neq_1, neq_2, neq_3, neq_4, neq_5, neq_6, neq_7, neq_60, neq_61, Nat.not_lt_zero, and_self, and_true, true_and, or_true, true_or, if_true, if_false, or_self, and_false, false_and, or_false, false_or, not_true_eq_false, not_false_eq_true, ne_eq, reduceCtorEq, eq_self, bind_s, c10, c01, c20, c30, c40, cl_0, inb_0, onI_l, onI_r, onV_l, onV_r, f_L_read, b_G_read_21, b_G_read_60, f_G_read, ↓bq (p_isC1 hc), ↓bq (p_isK1 hk), ↓bq (p_isR0 hz)]
    · simp (disch := omega) only [↓reduceIte, ↓wi_e, ↓wn_e, ↓rc_i, ↓rc_l, ↓h0.q0, ↓h0.q1, ↓h0.q2, ↓h0.qr, ↓h0.qc, ↓h0.qr2, ↓h0.qr3, ↓h0.qr4, ↓h0.qr5, ↓h0.qc5, ↓h0.qt, ↓h0.qt4, ↓h0.qt5, ↓h0.qt6, ↓h0.qm2, ↓h0.qm3, ↓h0.qm4, ↓h0.qm5, ↓h0.qm6, ↓h0.qm7, ↓h0.qm8, ↓h0.qm9, ↓h0.qm10, ↓h0.qm11, ↓h0.qm12, ↓h0.qm13, ↓h0.qm14, ↓h0.qm15, ↓h0.qm16, ↓h0.qm17, ↓h0.qm18, ↓h0.qm19, ↓h0.qm20, ↓h0.qm21, ↓h0.qm22, ↓h0.qm23, ↓h0.qm24, h0.lt, kd_0, kd_1, kd_2, kd_3, kd_r, kd_ra, kd_rb, kd_rc, kd_rd, ln_ra, ln_rb, ln_rc, ln_rd, kd_c, kd_ca, ln_ca, kd_t, kd_ta, kd_tb, kd_tc, ln_ta, ln_tb, ln_tc, ln_1, ln_2, ln_3, ln_51, kd_27, kd_28, kd_29, kd_30, kd_31, kd_32, kd_33, kd_34, kd_35, kd_36, kd_37, kd_38, kd_39, kd_40, kd_41, kd_42, kd_43, kd_44, kd_45, kd_46, kd_47, kd_48, kd_49, kd_50, kd_51, ln_28, ln_29, ln_30, ln_31, ln_32, ln_33, ln_34, ln_35, ln_36, ln_37, ln_38, ln_39, ln_40, ln_41, ln_42, ln_43, ln_44, ln_45, ln_46, ln_47, ln_48, ln_49, ln_50, inb_n, cl_n, g_n_s_i, g_n_s_l, mul_3, mul_4, mul_6, mul_61, nI_add, nI_1, nle_0, nle_1, nle_2, nle_3, nle_4, nle_5, nle_6, nle_7, nle_60, nle_61, nlt_0, nlt_1, nlt_2, nlt_3, nlt_4, nlt_5, nlt_6, nlt_7, nlt_60, nlt_61, nge_0, nge_1, nge_2, nge_3, nge_4, nge_5, nge_6, nge_7, nge_60, nge_61, ngt_0, ngt_1, ngt_2, ngt_3, ngt_4, ngt_5, ngt_6, ngt_7, ngt_60, ngt_61, neq_0, neq_1, neq_2, neq_3, neq_4, neq_5, neq_6, neq_7, neq_60, neq_61, Nat.not_lt_zero, and_self, and_true, true_and, or_true, true_or, if_true, if_false, or_self, and_false, false_and, or_false, false_or, not_true_eq_false, not_false_eq_true, ne_eq, reduceCtorEq, eq_self, bind_s, c10, c01, c20, c30, c40, cl_0, inb_0, onI_l, onI_r, onV_l, onV_r, f_M_read, b_M_read_25, b_M_read_26, b_M_read_52, ↓bq (p_mC1 hc), ↓bq (p_mK1 hk), ↓bq (p_mR0 hz), ↓bq (p_says h0 _)]
  obtain ⟨e1, ⟨s, hs5, es⟩, e3, e4⟩ := h.r8 c hc
  by_cases s1 : g_i σ 36 c = 1
  rotate_left
  · have hm : f_M_read σ 27 (nI c) (nI k) (nI i) = some (0, s_i σ 27 0 2) := by
      rw [mread_c h0 hc hk hi, if_neg s1, mread_52 h0 2 (by decide)]
    by_cases s0 : g_i σ 36 c = 0
    · have e9 := (h.r9 c hc).1 s0
      refine OpI.bad h (k := 2) (by decide) (v := 0) ?_ hm
      simp (disch := omega) only [↓reduceIte, ↓wi_e, ↓wn_e, ↓rc_i, ↓rc_l, ↓h0.q0, ↓h0.q1, ↓h0.q2, ↓h0.qr, ↓h0.qc, ↓h0.qr2, ↓h0.qr3, ↓h0.qr4, ↓h0.qr5, ↓h0.qc5, ↓h0.qt, ↓h0.qt4, ↓h0.qt5, ↓h0.qt6, ↓h0.qm2, ↓h0.qm3, ↓h0.qm4, ↓h0.qm5, ↓h0.qm6, ↓h0.qm7, ↓h0.qm8, ↓h0.qm9, ↓h0.qm10, ↓h0.qm11, ↓h0.qm12, ↓h0.qm13, ↓h0.qm14, ↓h0.qm15, ↓h0.qm16, ↓h0.qm17, ↓h0.qm18, ↓h0.qm19, ↓h0.qm20, ↓h0.qm21, ↓h0.qm22, ↓h0.qm23, ↓h0.qm24, h0.lt, kd_0, kd_1, kd_2, kd_3, kd_r, kd_ra, kd_rb, kd_rc, kd_rd, ln_ra, ln_rb, ln_rc, ln_rd, kd_c, kd_ca, ln_ca, kd_t, kd_ta, kd_tb, kd_tc, ln_ta, ln_tb, ln_tc, ln_1, ln_2, ln_3, ln_51, kd_27, kd_28, kd_29, kd_30, kd_31, kd_32, kd_33, kd_34, kd_35, kd_36, kd_37, kd_38, kd_39, kd_40, kd_41, kd_42, kd_43, kd_44, kd_45, kd_46, kd_47, kd_48, kd_49, kd_50, kd_51, ln_28, ln_29, ln_30, ln_31, ln_32, ln_33, ln_34, ln_35, ln_36, ln_37, ln_38, ln_39, ln_40, ln_41, ln_42, ln_43, ln_44, ln_45, ln_46, ln_47, ln_48, ln_49, ln_50, inb_n, cl_n, g_n_s_i, g_n_s_l, mul_3, mul_4, mul_6, mul_61, nI_add, nI_1, nle_0, nle_1, nle_2, nle_3, nle_4, nle_5, nle_6, nle_7, nle_60, nle_61, nlt_0, nlt_1, nlt_2, nlt_3, nlt_4, nlt_5, nlt_6, nlt_7, nlt_60, nlt_61, nge_0, nge_1, nge_2, nge_3, nge_4, nge_5, nge_6, nge_7, nge_60, nge_61, ngt_0, ngt_1, ngt_2, ngt_3, ngt_4, ngt_5, ngt_6, ngt_7, ngt_60, ngt_61, neq_0, neq_1, neq_2, neq_3, neq_4, neq_5, neq_6, neq_7, neq_60, neq_61, Nat.not_lt_zero, and_self, and_true, true_and, or_true, true_or, if_true, if_false, or_self, and_false, false_and, or_false, false_or, not_true_eq_false, not_false_eq_true, ne_eq, reduceCtorEq, eq_self, bind_s, c10, c01, c20, c30, c40, cl_0, inb_0, onI_l, onI_r, onV_l, onV_r, f_L_read, b_G_read_21, b_G_read_60, f_G_read, ↓bq (p_isC1 hc), ↓bq (p_isK1 hk), ↓bq (p_isR1 hi), ↓rqn e9, sx_0, sx_1, sx_2, sx_3, sx_4, sx_5, sx_6, sx_7, sx_8, sx_9, sx_10, sx_11]
    · obtain ⟨t, ht1, ht2, et, er⟩ := (h.r9 c hc).2 s0
      refine OpI.bad h (k := 2) (by decide) (v := 0) ?_ hm
      simp (disch := omega) only [↓reduceIte, ↓wi_e, ↓wn_e, ↓rc_i, ↓rc_l, ↓h0.q0, ↓h0.q1, ↓h0.q2, ↓h0.qr, ↓h0.qc, ↓h0.qr2, ↓h0.qr3, ↓h0.qr4, ↓h0.qr5, ↓h0.qc5, ↓h0.qt, ↓h0.qt4, ↓h0.qt5, ↓h0.qt6, ↓h0.qm2, ↓h0.qm3, ↓h0.qm4, ↓h0.qm5, ↓h0.qm6, ↓h0.qm7, ↓h0.qm8, ↓h0.qm9, ↓h0.qm10, ↓h0.qm11, ↓h0.qm12, ↓h0.qm13, ↓h0.qm14, ↓h0.qm15, ↓h0.qm16, ↓h0.qm17, ↓h0.qm18, ↓h0.qm19, ↓h0.qm20, ↓h0.qm21, ↓h0.qm22, ↓h0.qm23, ↓h0.qm24, h0.lt, kd_0, kd_1, kd_2, kd_3, kd_r, kd_ra, kd_rb, kd_rc, kd_rd, ln_ra, ln_rb, ln_rc, ln_rd, kd_c, kd_ca, ln_ca, kd_t, kd_ta, kd_tb, kd_tc, ln_ta, ln_tb, ln_tc, ln_1, ln_2, ln_3, ln_51, kd_27, kd_28, kd_29, kd_30, kd_31, kd_32, kd_33, kd_34, kd_35, kd_36, kd_37, kd_38, kd_39, kd_40, kd_41, kd_42, kd_43, kd_44, kd_45, kd_46, kd_47, kd_48, kd_49, kd_50, kd_51, ln_28, ln_29, ln_30, ln_31, ln_32, ln_33, ln_34, ln_35, ln_36, ln_37, ln_38, ln_39, ln_40, ln_41, ln_42, ln_43, ln_44, ln_45, ln_46, ln_47, ln_48, ln_49, ln_50, inb_n, cl_n, g_n_s_i, g_n_s_l, mul_3, mul_4, mul_6, mul_61, nI_add, nI_1, nle_0, nle_1, nle_2, nle_3, nle_4, nle_5, nle_6, nle_7, nle_60, nle_61, nlt_0, nlt_1, nlt_2, nlt_3, nlt_4, nlt_5, nlt_6, nlt_7, nlt_60, nlt_61, nge_0, nge_1, nge_2, nge_3, nge_4, nge_5, nge_6, nge_7, nge_60, nge_61, ngt_0, ngt_1, ngt_2, ngt_3, ngt_4, ngt_5, ngt_6, ngt_7, ngt_60, ngt_61, neq_0, neq_1, neq_2, neq_3, neq_4, neq_5, neq_6, neq_7, neq_60, neq_61, Nat.not_lt_zero, and_self, and_true, true_and, or_true, true_or, if_true, if_false, or_self, and_false, false_and, or_false, false_or, not_true_eq_false, not_false_eq_true, ne_eq, reduceCtorEq, eq_self, bind_s, c10, c01, c20, c30, c40, cl_0, inb_0, onI_l, onI_r, onV_l, onV_r, f_L_read, b_G_read_21, b_G_read_60, f_G_read, ↓bq (p_isC1 hc), ↓bq (p_isK1 hk), ↓bq (p_isR1 hi), ↓rq er, e1, s1, sx_0, sx_1, sx_2, sx_3, sx_4, sx_5, sx_6, sx_7, sx_8, sx_9, sx_10, sx_11]
  obtain ⟨t, ht1, ht2, et, er⟩ := (h.r9 c hc).2 (by rw [s1]; decide)
  obtain ⟨q1, q2, q3, q4⟩ := h.r11 t ht1 ht2
  have pre := mread_c h0 hc hk hi
  rw [if_pos s1] at pre
  by_cases bw : (W t).testBit k = true
  · have g : f_G_read σ 0 (nI c) (nI k) (nI i) = some (.inl (some (.int (g_i σ (51 + 4 * t) k))), σ) := by
      simp (disch := omega) only [↓reduceIte, ↓wi_e, ↓wn_e, ↓rc_i, ↓rc_l, ↓h0.q0, ↓h0.q1, ↓h0.q2, ↓h0.qr, ↓h0.qc, ↓h0.qr2, ↓h0.qr3, ↓h0.qr4, ↓h0.qr5, ↓h0.qc5, ↓h0.qt, ↓h0.qt4, ↓h0.qt5, ↓h0.qt6, ↓h0.qm2, ↓h0.qm3, ↓h0.qm4, ↓h0.qm5, ↓h0.qm6, ↓h0.qm7, ↓h0.qm8, ↓h0.qm9, ↓h0.qm10, ↓h0.qm11, ↓h0.qm12, ↓h0.qm13, ↓h0.qm14, ↓h0.qm15, ↓h0.qm16, ↓h0.qm17, ↓h0.qm18, ↓h0.qm19, ↓h0.qm20, ↓h0.qm21, ↓h0.qm22, ↓h0.qm23, ↓h0.qm24, h0.lt, kd_0, kd_1, kd_2, kd_3, kd_r, kd_ra, kd_rb, kd_rc, kd_rd, ln_ra, ln_rb, ln_rc, ln_rd, kd_c, kd_ca, ln_ca, kd_t, kd_ta, kd_tb, kd_tc, ln_ta, ln_tb, ln_tc, ln_1, ln_2, ln_3, ln_51, kd_27, kd_28, kd_29, kd_30, kd_31, kd_32, kd_33, kd_34, kd_35, kd_36, kd_37, kd_38, kd_39, kd_40, kd_41, kd_42, kd_43, kd_44, kd_45, kd_46, kd_47, kd_48, kd_49, kd_50, kd_51, ln_28, ln_29, ln_30, ln_31, ln_32, ln_33, ln_34, ln_35, ln_36, ln_37, ln_38, ln_39, ln_40, ln_41, ln_42, ln_43, ln_44, ln_45, ln_46, ln_47, ln_48, ln_49, ln_50, inb_n, cl_n, g_n_s_i, g_n_s_l, mul_3, mul_4, mul_6, mul_61, nI_add, nI_1, nle_0, nle_1, nle_2, nle_3, nle_4, nle_5, nle_6, nle_7, nle_60, nle_61, nlt_0, nlt_1, nlt_2, nlt_3, nlt_4, nlt_5, nlt_6, nlt_7, nlt_60, nlt_61, nge_0, nge_1, nge_2, nge_3, nge_4, nge_5, nge_6, nge_7, nge_60, nge_61, ngt_0, ngt_1, ngt_2, ngt_3, ngt_4, ngt_5, ngt_6, ngt_7, ngt_60, ngt_61, neq_0, neq_1, neq_2, neq_3, neq_4, neq_5, neq_6, neq_7, neq_60, neq_61, Nat.not_lt_zero, and_self, and_true, true_and, or_true, true_or, if_true, if_false, or_self, and_false, false_and, or_false, false_or, not_true_eq_false, not_false_eq_true, ne_eq, reduceCtorEq, eq_self, bind_s, c10, c01, c20, c30, c40, cl_0, inb_0, onI_l, onI_r, onV_l, onV_r, b_G_read_21, b_G_read_60, f_G_read, ↓bq (p_isC1 hc), ↓bq (p_isK1 hk), ↓bq (p_isR1 hi), ↓rq er, e1, s1, ↓bq (p_hasWritten h0 ht1 ht2 hk q4.1 q4.2.2.1), bw]
    have h2 := (h.lg 51 0 (g_i σ (51 + 4 * t) k).toInt64)
    have h3 := h2.cg 0
    obtain ⟨j, hj, p1, p2, p3⟩ := (plW h3.r0 (by omega) (h3.r11 t ht1 ht2).2.2.2 hk).1 bw
    have hj4 := q4.2.1
    refine ⟨0, _, g_i σ (51 + 4 * t) k, _, b, M, W, l_read_v h g rfl, h2.n27, ?_, ?_, ?_, h3⟩
    · show f_M_read _ _ _ _ _ = _
      rw [mread_c h2.r0 hc hk hi, g_i_s_l, if_pos s1]
      obtain ⟨w, pw⟩ : ∃ w, f_M_placeOf (s_i (s_l σ 51 0 (g_i σ (51 + 4 * t) k).toInt64) 27 0 0) 27 (nI t) (nI k) 1 = some w ∧ (w = -1 ∨ ∃ p, p < 244 ∧ w = nI p) := by
        by_cases bm : (M t).testBit k = true
        · obtain ⟨j', hj', p1', p2', p3'⟩ := (plR h3.r0 (by omega) (h3.r11 t ht1 ht2).2.2.1 hk).1 bm
          have := q3.2.1
          exact ⟨_, p1', Or.inr ⟨4 * t + j', by omega, rfl⟩⟩
        · exact ⟨_, (plR h3.r0 (by omega) (h3.r11 t ht1 ht2).2.2.1 hk).2 (by simpa using bm), Or.inl rfl⟩
      rw [mread_a h2.r0 hc hk hi (by omega) et p1 pw.1 (Or.inr ⟨4 * t + j, by omega, rfl⟩) pw.2, if_neg (by rw [n_m1 (by omega)]; exact id), cl_n (by omega)]
      have : g_i (s_l σ 51 0 (g_i σ (51 + 4 * t) k).toInt64) 35 (4 * t + j) = g_i σ (51 + 4 * t) k := by
        revert p3
        simp (disch := omega) only [gi_n, gi_s, g_i_s_l]
        exact id
      rw [this]
    · exact g270 _ _
    · intro _
      rw [g_l_s_i, g510]
  have bw' : (W t).testBit k = false := by simpa using bw
  by_cases bm : (M t).testBit k = true
  · have g : f_G_read σ 0 (nI c) (nI k) (nI i) = some (.inl (some (.int (g_i σ (50 + 4 * t) k))), σ) := by
      simp (disch := omega) only [↓reduceIte, ↓wi_e, ↓wn_e, ↓rc_i, ↓rc_l, ↓h0.q0, ↓h0.q1, ↓h0.q2, ↓h0.qr, ↓h0.qc, ↓h0.qr2, ↓h0.qr3, ↓h0.qr4, ↓h0.qr5, ↓h0.qc5, ↓h0.qt, ↓h0.qt4, ↓h0.qt5, ↓h0.qt6, ↓h0.qm2, ↓h0.qm3, ↓h0.qm4, ↓h0.qm5, ↓h0.qm6, ↓h0.qm7, ↓h0.qm8, ↓h0.qm9, ↓h0.qm10, ↓h0.qm11, ↓h0.qm12, ↓h0.qm13, ↓h0.qm14, ↓h0.qm15, ↓h0.qm16, ↓h0.qm17, ↓h0.qm18, ↓h0.qm19, ↓h0.qm20, ↓h0.qm21, ↓h0.qm22, ↓h0.qm23, ↓h0.qm24, h0.lt, kd_0, kd_1, kd_2, kd_3, kd_r, kd_ra, kd_rb, kd_rc, kd_rd, ln_ra, ln_rb, ln_rc, ln_rd, kd_c, kd_ca, ln_ca, kd_t, kd_ta, kd_tb, kd_tc, ln_ta, ln_tb, ln_tc, ln_1, ln_2, ln_3, ln_51, kd_27, kd_28, kd_29, kd_30, kd_31, kd_32, kd_33, kd_34, kd_35, kd_36, kd_37, kd_38, kd_39, kd_40, kd_41, kd_42, kd_43, kd_44, kd_45, kd_46, kd_47, kd_48, kd_49, kd_50, kd_51, ln_28, ln_29, ln_30, ln_31, ln_32, ln_33, ln_34, ln_35, ln_36, ln_37, ln_38, ln_39, ln_40, ln_41, ln_42, ln_43, ln_44, ln_45, ln_46, ln_47, ln_48, ln_49, ln_50, inb_n, cl_n, g_n_s_i, g_n_s_l, mul_3, mul_4, mul_6, mul_61, nI_add, nI_1, nle_0, nle_1, nle_2, nle_3, nle_4, nle_5, nle_6, nle_7, nle_60, nle_61, nlt_0, nlt_1, nlt_2, nlt_3, nlt_4, nlt_5, nlt_6, nlt_7, nlt_60, nlt_61, nge_0, nge_1, nge_2, nge_3, nge_4, nge_5, nge_6, nge_7, nge_60, nge_61, ngt_0, ngt_1, ngt_2, ngt_3, ngt_4, ngt_5, ngt_6, ngt_7, ngt_60, ngt_61, neq_0, neq_1, neq_2, neq_3, neq_4, neq_5, neq_6, neq_7, neq_60, neq_61, Nat.not_lt_zero, and_self, and_true, true_and, or_true, true_or, if_true, if_false, or_self, and_false, false_and, or_false, false_or, not_true_eq_false, not_false_eq_true, ne_eq, reduceCtorEq, eq_self, bind_s, c10, c01, c20, c30, c40, cl_0, inb_0, onI_l, onI_r, onV_l, onV_r, b_G_read_21, b_G_read_60, f_G_read, ↓bq (p_isC1 hc), ↓bq (p_isK1 hk), ↓bq (p_isR1 hi), ↓rq er, e1, s1, ↓bq (p_hasWritten h0 ht1 ht2 hk q4.1 q4.2.2.1), ↓bq (p_hasRead h0 ht1 ht2 hk q3.1 q3.2.2.1), bw', bm, Bool.false_eq_true]
    have h2 := (h.lg 51 0 (g_i σ (50 + 4 * t) k).toInt64)
    have h3 := h2.cg 0
    obtain ⟨j, hj, p1, p2, p3, p4⟩ := (plR h3.r0 (by omega) (h3.r11 t ht1 ht2).2.2.1 hk).1 bm
    have pW := (plW h3.r0 (by omega) (h3.r11 t ht1 ht2).2.2.2 hk).2 bw'
    have hj4 := q3.2.1
    refine ⟨0, _, g_i σ (50 + 4 * t) k, _, b, M, W, l_read_v h g rfl, h2.n27, ?_, ?_, ?_, h3⟩
    · show f_M_read _ _ _ _ _ = _
      rw [mread_c h2.r0 hc hk hi, g_i_s_l, if_pos s1]
      rw [mread_a h2.r0 hc hk hi (by omega) et pW p1 (Or.inl rfl) (Or.inr ⟨4 * t + j, by omega, rfl⟩), if_pos rfl, if_neg (by rw [n_m1 (by omega)]; exact id), cl_n (by omega)]
      have : g_i (s_l σ 51 0 (g_i σ (50 + 4 * t) k).toInt64) 32 (4 * t + j) = g_i σ (50 + 4 * t) k := by
        revert p4
        simp (disch := omega) only [gi_n, gi_s, g_i_s_l]
        exact id
      rw [this]
    · exact g270 _ _
    · intro _
      rw [g_l_s_i, g510]
  have bm' : (M t).testBit k = false := by simpa using bm
  by_cases sv : (if g_i σ (4 + 5 * i) 0 = 0 then (0 : Int32) else if g_i σ (4 + 5 * i) 1 = gv σ then 1 else 0) = 0
  · have h3 := h.cg 0
    have pW := (plW h3.r0 (by omega) (h3.r11 t ht1 ht2).2.2.2 hk).2 bw'
    have pR := (plR h3.r0 (by omega) (h3.r11 t ht1 ht2).2.2.1 hk).2 bm'
    refine ⟨3, σ, 0, _, b, M, W, ?_, h.n27, ?_, g270 _ _, fun e => absurd e (by decide), h3.cg 3⟩
    · simp (disch := omega) only [↓reduceIte, ↓wi_e, ↓wn_e, ↓rc_i, ↓rc_l, ↓h0.q0, ↓h0.q1, ↓h0.q2, ↓h0.qr, ↓h0.qc, ↓h0.qr2, ↓h0.qr3, ↓h0.qr4, ↓h0.qr5, ↓h0.qc5, ↓h0.qt, ↓h0.qt4, ↓h0.qt5, ↓h0.qt6, ↓h0.qm2, ↓h0.qm3, ↓h0.qm4, ↓h0.qm5, ↓h0.qm6, ↓h0.qm7, ↓h0.qm8, ↓h0.qm9, ↓h0.qm10, ↓h0.qm11, ↓h0.qm12, ↓h0.qm13, ↓h0.qm14, ↓h0.qm15, ↓h0.qm16, ↓h0.qm17, ↓h0.qm18, ↓h0.qm19, ↓h0.qm20, ↓h0.qm21, ↓h0.qm22, ↓h0.qm23, ↓h0.qm24, h0.lt, kd_0, kd_1, kd_2, kd_3, kd_r, kd_ra, kd_rb, kd_rc, kd_rd, ln_ra, ln_rb, ln_rc, ln_rd, kd_c, kd_ca, ln_ca, kd_t, kd_ta, kd_tb, kd_tc, ln_ta, ln_tb, ln_tc, ln_1, ln_2, ln_3, ln_51, kd_27, kd_28, kd_29, kd_30, kd_31, kd_32, kd_33, kd_34, kd_35, kd_36, kd_37, kd_38, kd_39, kd_40, kd_41, kd_42, kd_43, kd_44, kd_45, kd_46, kd_47, kd_48, kd_49, kd_50, kd_51, ln_28, ln_29, ln_30, ln_31, ln_32, ln_33, ln_34, ln_35, ln_36, ln_37, ln_38, ln_39, ln_40, ln_41, ln_42, ln_43, ln_44, ln_45, ln_46, ln_47, ln_48, ln_49, ln_50, inb_n, cl_n, g_n_s_i, g_n_s_l, mul_3, mul_4, mul_6, mul_61, nI_add, nI_1, nle_0, nle_1, nle_2, nle_3, nle_4, nle_5, nle_6, nle_7, nle_60, nle_61, nlt_0, nlt_1, nlt_2, nlt_3, nlt_4, nlt_5, nlt_6, nlt_7, nlt_60, nlt_61, nge_0, nge_1, nge_2, nge_3, nge_4, nge_5, nge_6, nge_7, nge_60, nge_61, ngt_0, ngt_1, ngt_2, ngt_3, ngt_4, ngt_5, ngt_6, ngt_7, ngt_60, ngt_61, neq_0, neq_1, neq_2, neq_3, neq_4, neq_5, neq_6, neq_7, neq_60, neq_61, Nat.not_lt_zero, and_self, and_true, true_and, or_true, true_or, if_true, if_false, or_self, and_false, false_and, or_false, false_or, not_true_eq_false, not_false_eq_true, ne_eq, reduceCtorEq, eq_self, bind_s, c10, c01, c20, c30, c40, cl_0, inb_0, onI_l, onI_r, onV_l, onV_r, f_L_read, b_G_read_21, b_G_read_60, f_G_read, ↓bq (p_isC1 hc), ↓bq (p_isK1 hk), ↓bq (p_isR1 hi), ↓rq er, e1, s1, ↓bq (p_hasWritten h0 ht1 ht2 hk q4.1 q4.2.2.1), ↓bq (p_hasRead h0 ht1 ht2 hk q3.1 q3.2.2.1), bw', bm', Bool.false_eq_true, ↓bq (p_serves h0 hi), sv, sx_0, sx_1, sx_2, sx_3, sx_4, sx_5, sx_6, sx_7, sx_8, sx_9, sx_10, sx_11]
    · show f_M_read _ _ _ _ _ = _
      rw [pre, mread_a h0 hc hk hi (by omega) et pW pR (Or.inl rfl) (Or.inl rfl), if_pos rfl, if_pos rfl, sv_e h hi, if_pos sv, mread_147' h3.r0 3 (by decide)]
  by_cases p4 : pc (M t) = 4
  · have h3 := h.cg 0
    have pW := (plW h3.r0 (by omega) (h3.r11 t ht1 ht2).2.2.2 hk).2 bw'
    have pR := (plR h3.r0 (by omega) (h3.r11 t ht1 ht2).2.2.1 hk).2 bm'
    refine ⟨4, σ, 0, _, b, M, W, ?_, h.n27, ?_, g270 _ _, fun e => absurd e (by decide), h3.cg 4⟩
    · have nl : ¬ (4 : Nat) < 4 := by omega
      have m4 : (nI 4 < (4 : Int32)) = False := by decide
      simp (disch := omega) only [↓reduceIte, ↓wi_e, ↓wn_e, ↓rc_i, ↓rc_l, ↓h0.q0, ↓h0.q1, ↓h0.q2, ↓h0.qr, ↓h0.qc, ↓h0.qr2, ↓h0.qr3, ↓h0.qr4, ↓h0.qr5, ↓h0.qc5, ↓h0.qt, ↓h0.qt4, ↓h0.qt5, ↓h0.qt6, ↓h0.qm2, ↓h0.qm3, ↓h0.qm4, ↓h0.qm5, ↓h0.qm6, ↓h0.qm7, ↓h0.qm8, ↓h0.qm9, ↓h0.qm10, ↓h0.qm11, ↓h0.qm12, ↓h0.qm13, ↓h0.qm14, ↓h0.qm15, ↓h0.qm16, ↓h0.qm17, ↓h0.qm18, ↓h0.qm19, ↓h0.qm20, ↓h0.qm21, ↓h0.qm22, ↓h0.qm23, ↓h0.qm24, h0.lt, kd_0, kd_1, kd_2, kd_3, kd_r, kd_ra, kd_rb, kd_rc, kd_rd, ln_ra, ln_rb, ln_rc, ln_rd, kd_c, kd_ca, ln_ca, kd_t, kd_ta, kd_tb, kd_tc, ln_ta, ln_tb, ln_tc, ln_1, ln_2, ln_3, ln_51, kd_27, kd_28, kd_29, kd_30, kd_31, kd_32, kd_33, kd_34, kd_35, kd_36, kd_37, kd_38, kd_39, kd_40, kd_41, kd_42, kd_43, kd_44, kd_45, kd_46, kd_47, kd_48, kd_49, kd_50, kd_51, ln_28, ln_29, ln_30, ln_31, ln_32, ln_33, ln_34, ln_35, ln_36, ln_37, ln_38, ln_39, ln_40, ln_41, ln_42, ln_43, ln_44, ln_45, ln_46, ln_47, ln_48, ln_49, ln_50, inb_n, cl_n, g_n_s_i, g_n_s_l, mul_3, mul_4, mul_6, mul_61, nI_add, nI_1, nle_0, nle_1, nle_2, nle_3, nle_4, nle_5, nle_6, nle_7, nle_60, nle_61, nlt_0, nlt_1, nlt_2, nlt_3, nlt_4, nlt_5, nlt_6, nlt_7, nlt_60, nlt_61, nge_0, nge_1, nge_2, nge_3, nge_4, nge_5, nge_6, nge_7, nge_60, nge_61, ngt_0, ngt_1, ngt_2, ngt_3, ngt_4, ngt_5, ngt_6, ngt_7, ngt_60, ngt_61, neq_0, neq_1, neq_2, neq_3, neq_4, neq_5, neq_6, neq_7, neq_60, neq_61, Nat.not_lt_zero, and_self, and_true, true_and, or_true, true_or, if_true, if_false, or_self, and_false, false_and, or_false, false_or, not_true_eq_false, not_false_eq_true, ne_eq, reduceCtorEq, eq_self, bind_s, c10, c01, c20, c30, c40, cl_0, inb_0, onI_l, onI_r, onV_l, onV_r, f_L_read, b_G_read_21, b_G_read_60, f_G_read, ↓bq (p_isC1 hc), ↓bq (p_isK1 hk), ↓bq (p_isR1 hi), ↓rq er, e1, s1, ↓bq (p_hasWritten h0 ht1 ht2 hk q4.1 q4.2.2.1), ↓bq (p_hasRead h0 ht1 ht2 hk q3.1 q3.2.2.1), bw', bm', Bool.false_eq_true, ↓bq (p_serves h0 hi), sv, ↓bq (p_readCount h0 ht1 ht2 q3.1 q3.2.2.1), p4, m4, nl, sx_0, sx_1, sx_2, sx_3, sx_4, sx_5, sx_6, sx_7, sx_8, sx_9, sx_10, sx_11]
    · show f_M_read _ _ _ _ _ = _
      rw [pre, mread_a h0 hc hk hi (by omega) et pW pR (Or.inl rfl) (Or.inl rfl), if_pos rfl, if_pos rfl, sv_e h hi, if_neg sv, if_pos (by rw [q3.2.2.2.1, p4]; rfl), mread_147' h3.r0 4 (by decide)]
  have l4 : pc (M t) < 4 := by
    have := q3.2.1
    omega
  have g : f_G_read σ 0 (nI c) (nI k) (nI i) = some (.inl (some (.int (g_i σ (6 + 5 * i) k))), se σ t k (M t) (g_i σ (5 + 5 * i) k) (g_i σ (6 + 5 * i) k)) := by
    have ps := p_see h0 ht1 ht2 hk q3.1 q3.2.2.1 (g_i σ (5 + 5 * i) (nI k).toNatClampNeg) (g_i σ (6 + 5 * i) (nI k).toNatClampNeg)
    simp (disch := omega) only [↓reduceIte, ↓wi_e, ↓wn_e, ↓rc_i, ↓rc_l, ↓h0.q0, ↓h0.q1, ↓h0.q2, ↓h0.qr, ↓h0.qc, ↓h0.qr2, ↓h0.qr3, ↓h0.qr4, ↓h0.qr5, ↓h0.qc5, ↓h0.qt, ↓h0.qt4, ↓h0.qt5, ↓h0.qt6, ↓h0.qm2, ↓h0.qm3, ↓h0.qm4, ↓h0.qm5, ↓h0.qm6, ↓h0.qm7, ↓h0.qm8, ↓h0.qm9, ↓h0.qm10, ↓h0.qm11, ↓h0.qm12, ↓h0.qm13, ↓h0.qm14, ↓h0.qm15, ↓h0.qm16, ↓h0.qm17, ↓h0.qm18, ↓h0.qm19, ↓h0.qm20, ↓h0.qm21, ↓h0.qm22, ↓h0.qm23, ↓h0.qm24, h0.lt, kd_0, kd_1, kd_2, kd_3, kd_r, kd_ra, kd_rb, kd_rc, kd_rd, ln_ra, ln_rb, ln_rc, ln_rd, kd_c, kd_ca, ln_ca, kd_t, kd_ta, kd_tb, kd_tc, ln_ta, ln_tb, ln_tc, ln_1, ln_2, ln_3, ln_51, kd_27, kd_28, kd_29, kd_30, kd_31, kd_32, kd_33, kd_34, kd_35, kd_36, kd_37, kd_38, kd_39, kd_40, kd_41, kd_42, kd_43, kd_44, kd_45, kd_46, kd_47, kd_48, kd_49, kd_50, kd_51, ln_28, ln_29, ln_30, ln_31, ln_32, ln_33, ln_34, ln_35, ln_36, ln_37, ln_38, ln_39, ln_40, ln_41, ln_42, ln_43, ln_44, ln_45, ln_46, ln_47, ln_48, ln_49, ln_50, inb_n, cl_n, g_n_s_i, g_n_s_l, mul_3, mul_4, mul_6, mul_61, nI_add, nI_1, nle_0, nle_1, nle_2, nle_3, nle_4, nle_5, nle_6, nle_7, nle_60, nle_61, nlt_0, nlt_1, nlt_2, nlt_3, nlt_4, nlt_5, nlt_6, nlt_7, nlt_60, nlt_61, nge_0, nge_1, nge_2, nge_3, nge_4, nge_5, nge_6, nge_7, nge_60, nge_61, ngt_0, ngt_1, ngt_2, ngt_3, ngt_4, ngt_5, ngt_6, ngt_7, ngt_60, ngt_61, neq_0, neq_1, neq_2, neq_3, neq_4, neq_5, neq_6, neq_7, neq_60, neq_61, Nat.not_lt_zero, and_self, and_true, true_and, or_true, true_or, if_true, if_false, or_self, and_false, false_and, or_false, false_or, not_true_eq_false, not_false_eq_true, ne_eq, reduceCtorEq, eq_self, bind_s, c10, c01, c20, c30, c40, cl_0, inb_0, onI_l, onI_r, onV_l, onV_r, b_G_read_21, b_G_read_60, f_G_read, ↓bq (p_isC1 hc), ↓bq (p_isK1 hk), ↓bq (p_isR1 hi), ↓rq er, e1, s1, ↓bq (p_hasWritten h0 ht1 ht2 hk q4.1 q4.2.2.1), ↓bq (p_hasRead h0 ht1 ht2 hk q3.1 q3.2.2.1), bw', bm', Bool.false_eq_true, ↓bq (p_serves h0 hi), sv, ↓bq (p_readCount h0 ht1 ht2 q3.1 q3.2.2.1), l4, ↓bq ps, gi_s, se]
  have hs0 : SN b (s_l (se σ t k (M t) (g_i σ (5 + 5 * i) k) (g_i σ (6 + 5 * i) k)) 51 0 (g_i σ (6 + 5 * i) k).toInt64) := h0
  have hR := r_see h hc hk hi ht1 ht2 s1 et bm' l4 (g_i σ (6 + 5 * i) k).toInt64
  have fm : ∀ a j, 27 ≤ a → a ≤ 50 → g_i (s_l (se σ t k (M t) (g_i σ (5 + 5 * i) k) (g_i σ (6 + 5 * i) k)) 51 0 (g_i σ (6 + 5 * i) k).toInt64) a j = g_i σ a j := by
    intro a j ha1 ha2
    unfold se
    simp (disch := omega) only [gi_n, gi_s, g_i_s_l]
  have pW : f_M_placeOf (s_i (s_l (se σ t k (M t) (g_i σ (5 + 5 * i) k) (g_i σ (6 + 5 * i) k)) 51 0 (g_i σ (6 + 5 * i) k).toInt64) 27 0 0) 27 (nI t) (nI k) 0 = some (-1) := by
    obtain ⟨v, q, r⟩ := p_placeW (hs0.i 27 0 0) (k := k) (t := t) (by omega) q4.2.1 (by rw [gi_n (by omega), fm _ _ (by omega) (by omega)]; exact q4.2.2.2.1)
    rcases r with ⟨rfl, _⟩ | ⟨j, hj, _, r⟩
    · exact q
    · rw [gi_n (by omega), fm _ _ (by omega) (by omega)] at r
      obtain ⟨k', hk', b', e', _⟩ := q4.2.2.2.2.1 j hj
      rw [e', neq (by omega) (by omega)] at r
      rw [r, bw'] at b'
      exact absurd b' (by decide)
  have pR : f_M_placeOf (s_i (s_l (se σ t k (M t) (g_i σ (5 + 5 * i) k) (g_i σ (6 + 5 * i) k)) 51 0 (g_i σ (6 + 5 * i) k).toInt64) 27 0 0) 27 (nI t) (nI k) 1 = some (-1) := by
    obtain ⟨v, q, r⟩ := p_placeR (hs0.i 27 0 0) (k := k) (t := t) (by omega) q3.2.1 (by rw [gi_n (by omega), fm _ _ (by omega) (by omega)]; exact q3.2.2.2.1)
    rcases r with ⟨rfl, _⟩ | ⟨j, hj, _, r⟩
    · exact q
    · rw [gi_n (by omega), fm _ _ (by omega) (by omega)] at r
      obtain ⟨k', hk', b', e', _⟩ := q3.2.2.2.2.1 j hj
      rw [e', neq (by omega) (by omega)] at r
      rw [r, bm'] at b'
      exact absurd b' (by decide)
  have mg : mgv (s_l (se σ t k (M t) (g_i σ (5 + 5 * i) k) (g_i σ (6 + 5 * i) k)) 51 0 (g_i σ (6 + 5 * i) k).toInt64) = mgv σ := by
    unfold mgv
    rw [fm _ _ (by omega) (by omega), fm _ _ (by omega) (by omega), fm _ _ (by omega) (by omega)]
  have v44 := h.r3 i hi k hk
  refine ⟨0, _, g_i σ (6 + 5 * i) k, _, b, _, W, l_read_v h g rfl, hR.n27, ?_, ?_, ?_, hR⟩
  · show f_M_read _ _ _ _ _ = _
    rw [mread_c hs0 hc hk hi, fm _ _ (by omega) (by omega), if_pos s1]
    rw [mread_a hs0 hc hk hi (by omega) (by rw [fm _ _ (by omega) (by omega), et]) pW pR (Or.inl rfl) (Or.inl rfl), if_pos rfl, if_pos rfl, mg, fm _ _ (by omega) (by omega), fm _ _ (by omega) (by omega), fm _ _ (by omega) (by omega), sv_e h hi, if_neg sv, if_neg (by rw [q3.2.2.2.1, neq_4 (by omega)]; omega)]
    rw [mread_147 (hs0.i 27 0 0) hk hi (by omega) l4 (by rw [gi_n (by omega), fm _ _ (by omega) (by omega)]; exact q3.2.2.2.1), gi_n (by omega), gi_n (by omega), fm _ _ (by omega) (by omega), fm _ _ (by omega) (by omega), v44.1, v44.2.1]
  · simp (disch := omega) only [gi_n, gi_s, g_i_s_l]
  · intro _
    rw [g_l_s_i, g_l_s_i, g_l_s_i, g_l_s_i, g_l_s_i, g_l_s_i, g510]

