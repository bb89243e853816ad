/-! begin. -/
theorem ltT {a n : Nat} (h : a < n) : (a < n) = True := eq_true h
theorem lt52 {a : Nat} {σ : Sg} (hs : 52 ≤ σ.1) (h : a < 52) : (a < σ.1) = True := eq_true (by omega)
theorem kd_n0 {t : Nat} (ht : 1 ≤ t) : kd (48 + 4 * t + 1) = 10 := by rw [kd_big (by omega), if_neg (by omega)]
theorem kd_n1 {t : Nat} (ht : 1 ≤ t) : kd (48 + 4 * t + 1 + 1) = 10 := by rw [kd_big (by omega), if_neg (by omega)]
theorem kd_n2 {t : Nat} (ht : 1 ≤ t) : kd (48 + 4 * t + 1 + 1 + 1) = 10 := by rw [kd_big (by omega), if_neg (by omega)]
theorem ln_n0 {t : Nat} (ht : 1 ≤ t) : ln (48 + 4 * t + 1) = 6 := ln_big (by omega)
theorem ln_n1 {t : Nat} (ht : 1 ≤ t) : ln (48 + 4 * t + 1 + 1) = 6 := ln_big (by omega)
theorem ln_n2 {t : Nat} (ht : 1 ≤ t) : ln (48 + 4 * t + 1 + 1 + 1) = 6 := ln_big (by omega)
theorem p_Tinit {σ : Sg} {t : Nat} (ht : 1 ≤ t) (ht6 : t ≤ 60) (hn : σ.1 = 48 + 4 * t + 1) (x : Int32) : f_T_init σ (48 + 4 * t) x = some (s_i (s_r (s_n (s_r (s_n (s_r (s_n (s_i (s_i (s_i σ (48 + 4 * t) 1 0) (48 + 4 * t) 2 0) (48 + 4 * t) 3 0)) (48 + 4 * t) 4 (some (48 + 4 * t + 1)))) (48 + 4 * t) 5 (some (48 + 4 * t + 1 + 1)))) (48 + 4 * t) 6 (some (48 + 4 * t + 1 + 1 + 1))) (48 + 4 * t) 0 x) := by
  have hS : SCR = 1000000 := rfl
  simp (disch := omega) only [f_T_init, ↓reduceIte, ↓wi_e, hn, hS, g_n_s_i, g_n_s_r, g_n_s_n, ltT, kd_t, kd_n0, kd_n1, kd_n2, ln_n0, ln_n1, ln_n2, and_self, if_true]
theorem st_fill {σ : Sg} (hs : 52 ≤ σ.1) {n i c : Nat} (hi : i < 3) (hc : c < 4) (x : Int32) : b_J_fill_5 (n + 1) σ (20 + 2 * c) x (nI i) (nI 3) = b_J_fill_5 n (s_i σ (20 + 2 * c) i x) (20 + 2 * c) x (nI (i + 1)) (nI 3) := by
  have hn : ¬ 3 ≤ i := by omega
  simp (disch := omega) only [b_J_fill_5, ↓reduceIte, ↓wi_e, nle, hn, lt52 hs, kd_ca, ln_ca, inb_n, cl_n, and_self, if_true, if_false, nI_1]
theorem en_fill {σ : Sg} {n a : Nat} {x : Int32} : b_J_fill_5 (n + 1) σ a x (nI (2 + 1)) (nI 3) = some σ := by
  simp only [b_J_fill_5]
  rw [if_pos (by decide)]
theorem p_fill3 {σ : Sg} (hs : 52 ≤ σ.1) {c : Nat} (hc : c < 4) (x : Int32) : f_J_fill σ (20 + 2 * c) x = some (s_i (s_i (s_i σ (20 + 2 * c) 0 x) (20 + 2 * c) 1 x) (20 + 2 * c) 2 x) := by
  have : f_J_fill σ (20 + 2 * c) x = b_J_fill_5 (999 + 1) σ (20 + 2 * c) x (nI 0) (nI 3) := by
    simp (disch := omega) only [f_J_fill, ↓reduceIte, ↓wn_e, lt52 hs, kd_ca, ln_ca, and_self, if_true]
    rfl
  rw [this, st_fill hs (n := 998 + 1) (by omega) hc, st_fill (by exact hs) (n := 997 + 1) (by omega) hc, st_fill (by exact hs) (n := 996 + 1) (by omega) hc, en_fill]
theorem p_forgetR {σ : Sg} (hs : 52 ≤ σ.1) {c : Nat} (hc : c < 4) (hr : g_r σ (19 + 2 * c) 5 = some (20 + 2 * c)) : f_C_forgetReplies σ (19 + 2 * c) = some (s_i (s_i (s_i (s_i σ (20 + 2 * c) 0 (-1)) (20 + 2 * c) 1 (-1)) (20 + 2 * c) 2 (-1)) (19 + 2 * c) 4 0) := by
  simp (disch := omega) only [f_C_forgetReplies, ↓reduceIte, ↓wi_e, ↓rq hr, ↓bq (p_fill3 hs hc _), lt52 hs, kd_c, and_self, if_true, g_n_s_i]
theorem p_take {σ : Sg} (hs : 52 ≤ σ.1) {c a : Nat} (hc : c < 4) (hr : g_r σ (19 + 2 * c) 5 = some (20 + 2 * c)) (ha : a < σ.1) : f_C_take σ (19 + 2 * c) a = some (s_i (s_i (s_i (s_i (s_i (s_r σ (19 + 2 * c) 0 (some a)) (19 + 2 * c) 1 1) (20 + 2 * c) 0 (-1)) (20 + 2 * c) 1 (-1)) (20 + 2 * c) 2 (-1)) (19 + 2 * c) 4 0) := by
  have hr' : g_r (s_i (s_r σ (19 + 2 * c) 0 (some a)) (19 + 2 * c) 1 1) (19 + 2 * c) 5 = some (20 + 2 * c) := by
    rw [g_r_s_i, gr_n (by omega), hr]
  simp (disch := omega) only [f_C_take, ↓reduceIte, ↓wi_e, lt52 hs, kd_c, and_self, if_true, g_n_s_i, g_n_s_r, ha, ↓bq (p_forgetR (σ := s_i (s_r σ (19 + 2 * c) 0 (some a)) (19 + 2 * c) 1 1) hs hc hr')]
theorem p_begin {b : Nat} {σ : Sg} (h : SN b σ) {c : Nat} (hc : c < 4) (eb : g_i σ 0 3 = nI b) (hb : b < 60) (hn : g_r σ (19 + 2 * c) 0 = none) : ∃ σ1, f_G_begin σ 0 (nI c) = some (.inl (some (.int (nI (b + 1)))), σ1) ∧ SN (b + 1) σ1 ∧
    (∀ a k, a < 52 + 4 * b ∧ (a ≠ 0 ∨ k ≠ 3) ∧ (a ≠ 19 + 2 * c ∨ k ≠ 1 ∧ k ≠ 4) ∧ (a ≠ 20 + 2 * c ∨ 3 ≤ k) → g_i σ1 a k = g_i σ a k) ∧ g_i σ1 0 3 = nI (b + 1) ∧ g_i σ1 (52 + 4 * b) 0 = nI (b + 1) ∧ g_i σ1 (52 + 4 * b) 1 = 0 ∧ g_i σ1 (52 + 4 * b) 2 = 0 ∧ g_i σ1 (52 + 4 * b) 3 = 0 ∧
    g_i σ1 (19 + 2 * c) 1 = 1 ∧ g_i σ1 (19 + 2 * c) 4 = 0 ∧ (∀ r, r < 3 → g_i σ1 (20 + 2 * c) r = -1) ∧ g_r σ1 (19 + 2 * c) 0 = some (52 + 4 * b) ∧ (∀ d, d < 4 → d ≠ c → g_r σ1 (19 + 2 * d) 0 = g_r σ (19 + 2 * d) 0) := by
  have e1 : σ.1 = 48 + 4 * (b + 1) := by rw [h.1]; omega
  have T := p_Tinit (σ := s_n (s_i σ 0 3 (nI (b + 1)))) (t := b + 1) (by omega) (by omega) (by rw [g_n_s_n, g_n_s_i, e1]) (nI (b + 1))
  generalize hτ : s_i (s_r (s_n (s_r (s_n (s_r (s_n (s_i (s_i (s_i (s_n (s_i σ 0 3 (nI (b + 1)))) (48 + 4 * (b + 1)) 1 0) (48 + 4 * (b + 1)) 2 0) (48 + 4 * (b + 1)) 3 0)) (48 + 4 * (b + 1)) 4 (some (48 + 4 * (b + 1) + 1)))) (48 + 4 * (b + 1)) 5 (some (48 + 4 * (b + 1) + 1 + 1)))) (48 + 4 * (b + 1)) 6 (some (48 + 4 * (b + 1) + 1 + 1 + 1))) (48 + 4 * (b + 1)) 0 (nI (b + 1)) = τ at T
  have n1 : τ.1 = 56 + 4 * b := by
    rw [← hτ]
    simp only [g_n_s_i, g_n_s_r, g_n_s_n, e1]
    omega
  have gi1 : ∀ a k, g_i τ a k = if a = 52 + 4 * b then (if k = 0 then nI (b + 1) else if k = 1 ∨ k = 2 ∨ k = 3 then 0 else 0) else if a = 53 + 4 * b ∨ a = 54 + 4 * b ∨ a = 55 + 4 * b then 0 else if a = 0 ∧ k = 3 then nI (b + 1) else g_i σ a k := by
    intro a k
    rw [← hτ]
    simp only [g_i_s_i, g_i_s_r, g_i_s_n, g_n_s_i, g_n_s_r, g_n_s_n, e1]
    grind
  have gr1 : ∀ a k, g_r τ a k = if a = 52 + 4 * b then (if k = 4 then some (53 + 4 * b) else if k = 5 then some (54 + 4 * b) else if k = 6 then some (55 + 4 * b) else none) else if a = 53 + 4 * b ∨ a = 54 + 4 * b ∨ a = 55 + 4 * b then none else g_r σ a k := by
    intro a k
    rw [← hτ]
    simp only [g_r_s_i, g_r_s_r, g_r_s_n, g_n_s_i, g_n_s_r, g_n_s_n, e1]
    grind
  have hr5 : g_r (s_r τ 3 (b + 1) (some (48 + 4 * (b + 1)))) (19 + 2 * c) 5 = some (20 + 2 * c) := by
    rw [gr_n (by omega), gr1, if_neg (by omega), if_neg (by omega), h.c5 hc]
  have K := p_take (σ := s_r τ 3 (b + 1) (some (48 + 4 * (b + 1)))) (a := 48 + 4 * (b + 1)) (by rw [g_n_s_r, n1]; omega) hc hr5 (by rw [g_n_s_r, n1]; omega)
  have tb : ∀ a, a < 56 + 4 * b → (a < τ.1) = True := fun a q => eq_true (by omega)
  have z1 : g_i (s_n (s_i σ 0 3 (nI (b + 1)))) 0 3 = nI (b + 1) := by
    rw [g_i_s_n, if_neg (by rw [g_n_s_i, e1]; omega), gi_s ⟨rfl, rfl⟩]
  have z2 : g_i τ 0 3 = nI (b + 1) := by
    rw [gi1, if_neg (by omega), if_neg (by omega), if_pos ⟨rfl, rfl⟩]
  have z3 : g_r τ 0 2 = some 3 := by
    rw [gr1, if_neg (by omega), if_neg (by omega), h.g2]
  have hS : SCR = 1000000 := rfl
  have T' : f_T_init (s_n (s_i σ 0 3 (g_i σ 0 3 + 1))) (s_i σ 0 3 (g_i σ 0 3 + 1)).1 (g_i (s_n (s_i σ 0 3 (g_i σ 0 3 + 1))) 0 3) = some τ := by
    rw [eb, nI_1, g_n_s_i, e1, z1]
    exact T
  have K' : f_C_take (s_r τ 3 (g_i τ 0 3).toNatClampNeg (some (s_i σ 0 3 (g_i σ 0 3 + 1)).1)) (19 + 2 * c) (s_i σ 0 3 (g_i σ 0 3 + 1)).1 = some (s_i (s_i (s_i (s_i (s_i (s_r (s_r τ 3 (b + 1) (some (48 + 4 * (b + 1)))) (19 + 2 * c) 0 (some (48 + 4 * (b + 1)))) (19 + 2 * c) 1 1) (20 + 2 * c) 0 (-1)) (20 + 2 * c) 1 (-1)) (20 + 2 * c) 2 (-1)) (19 + 2 * c) 4 0) := by
    rw [z2, cl_n (by omega), g_n_s_i, e1]
    exact K
  have z4 : g_i (s_i (s_i (s_i (s_i (s_i (s_r (s_r τ 3 (b + 1) (some (48 + 4 * (b + 1)))) (19 + 2 * c) 0 (some (48 + 4 * (b + 1)))) (19 + 2 * c) 1 1) (20 + 2 * c) 0 (-1)) (20 + 2 * c) 1 (-1)) (20 + 2 * c) 2 (-1)) (19 + 2 * c) 4 0) 0 3 = nI (b + 1) := by
    simp (disch := omega) only [gi_n, g_i_s_r, z2]
  have ga : ∀ a k, a < 52 + 4 * b → g_r τ a k = g_r σ a k := by
    intro a k q
    rw [gr1, if_neg (by omega), if_neg (by omega)]
  have gt : ∀ t, t = b + 1 → g_r τ (48 + 4 * t) 4 = some (49 + 4 * t) ∧ g_r τ (48 + 4 * t) 5 = some (50 + 4 * t) ∧ g_r τ (48 + 4 * t) 6 = some (51 + 4 * t) := by
    intro t q
    subst q
    rw [gr1, gr1, gr1]
    grind
  refine ⟨(s_i (s_i (s_i (s_i (s_i (s_r (s_r τ 3 (b + 1) (some (48 + 4 * (b + 1)))) (19 + 2 * c) 0 (some (48 + 4 * (b + 1)))) (19 + 2 * c) 1 1) (20 + 2 * c) 0 (-1)) (20 + 2 * c) 1 (-1)) (20 + 2 * c) 2 (-1)) (19 + 2 * c) 4 0), ?_, ?_, ?_, ?_, ?_, ?_, ?_, ?_, ?_, ?_, ?_, ?_, ?_⟩
  · simp (disch := omega) only [↓reduceIte, ↓wi_e, f_G_begin, ↓bq (p_isC1 hc), ↓h.q1, ↓h.qc, ↓rqn hn, ↓rq z3, ↓bq T', ↓bq K', z4, e1, n1, ltT, g_n_s_i, g_n_s_r, g_n_s_n, kd_0, kd_2, kd_3, ln_2, ln_3, kd_c, kd_t, inb_n, cl_n, z2, eb, ngt_60, hb, hS, c10, and_self, if_true, if_false]
  · refine ⟨by simp only [g_n_s_i, g_n_s_r, n1]; omega, by omega, ?_, ?_, ?_, ?_, ?_, ?_, ?_, ?_, ?_, ?_, ?_, ?_, ?_, ?_, ?_⟩
    · simp (disch := omega) only [g_r_s_i, gr_n, ga]; exact h.g0
    · simp (disch := omega) only [g_r_s_i, gr_n, ga]; exact h.g1
    · simp (disch := omega) only [g_r_s_i, gr_n, ga]; exact h.g2
    · intro i hi; simp (disch := omega) only [g_r_s_i, gr_n, ga]; exact h.r hi
    · intro i hi; simp (disch := omega) only [g_r_s_i, gr_n, ga]; exact h.c hi
    · intro i hi; simp (disch := omega) only [g_r_s_i, gr_n, ga]; exact h.r2 hi
    · intro i hi; simp (disch := omega) only [g_r_s_i, gr_n, ga]; exact h.r3 hi
    · intro i hi; simp (disch := omega) only [g_r_s_i, gr_n, ga]; exact h.r4 hi
    · intro i hi; simp (disch := omega) only [g_r_s_i, gr_n, ga]; exact h.r5 hi
    · intro i hi; simp (disch := omega) only [g_r_s_i, gr_n, ga]; exact h.c5 hi
    · intro t h1 h2
      by_cases q : t = b + 1
      · subst q
        simp (disch := omega) only [g_r_s_i, gr_n, gr_s]
      · simp (disch := omega) only [g_r_s_i, gr_n, ga]; exact h.t h1 (by omega)
    · intro t h1 h2
      by_cases q : t = b + 1
      · simp (disch := omega) only [g_r_s_i, gr_n]; exact (gt t q).1
      · simp (disch := omega) only [g_r_s_i, gr_n, ga]; exact h.t4 h1 (by omega)
    · intro t h1 h2
      by_cases q : t = b + 1
      · simp (disch := omega) only [g_r_s_i, gr_n]; exact (gt t q).2.1
      · simp (disch := omega) only [g_r_s_i, gr_n, ga]; exact h.t5 h1 (by omega)
    · intro t h1 h2
      by_cases q : t = b + 1
      · simp (disch := omega) only [g_r_s_i, gr_n]; exact (gt t q).2.2
      · simp (disch := omega) only [g_r_s_i, gr_n, ga]; exact h.t6 h1 (by omega)
    · intro j h1 h2; simp (disch := omega) only [g_r_s_i, gr_n, ga]; exact h.m h1 h2
  · intro a k q
    simp (disch := omega) only [gi_n, g_i_s_r]
    rw [gi1, if_neg (by omega), if_neg (by omega), if_neg (by omega)]
  · exact z4
  · simp (disch := omega) only [gi_n, g_i_s_r]
    rw [gi1, if_pos rfl, if_pos rfl]
  · simp (disch := omega) only [gi_n, g_i_s_r]
    rw [gi1, if_pos rfl]; rfl
  · simp (disch := omega) only [gi_n, g_i_s_r]
    rw [gi1, if_pos rfl]; rfl
  · simp (disch := omega) only [gi_n, g_i_s_r]
    rw [gi1, if_pos rfl]; rfl
  · simp (disch := omega) only [gi_n, gi_s]
  · simp (disch := omega) only [gi_s]
  · intro r hr
    obtain rfl | rfl | rfl : r = 0 ∨ r = 1 ∨ r = 2 := by omega
    · simp (disch := omega) only [gi_n, gi_s]
    · simp (disch := omega) only [gi_n, gi_s]
    · simp (disch := omega) only [gi_n, gi_s]
  · simp (disch := omega) only [g_r_s_i, gr_s]
    congr 1
    omega
  · intro d hd hne
    simp (disch := omega) only [g_r_s_i, gr_n, ga]
theorem st_mfor {b : Nat} {σ : Sg} (h : SN b σ) {n i c : Nat} (hi : i < 3) (hc : c < 4) : b_M_forget_2 (n + 1) σ 27 (nI c) (nI i) = b_M_forget_2 n (s_i (s_i σ 40 (3 * c + i) (-1)) 41 (3 * c + i) 0) 27 (nI c) (nI (i + 1)) := by
  have hn : ¬ 3 ≤ i := by omega
  simp (disch := omega) only [↓reduceIte, ↓wi_e, ↓wn_e, ↓rc_i, ↓rc_l, ↓h.q0, ↓h.q1, ↓h.q2, ↓h.qr, ↓h.qc, ↓h.qr2, ↓h.qr3, ↓h.qr4, ↓h.qr5, ↓h.qc5, ↓h.qt, ↓h.qt4, ↓h.qt5, ↓h.qt6, ↓h.qm2, ↓h.qm3, ↓h.qm4, ↓h.qm5, ↓h.qm6, ↓h.qm7, ↓h.qm8, ↓h.qm9, ↓h.qm10, ↓h.qm11, ↓h.qm12, ↓h.qm13, ↓h.qm14, ↓h.qm15, ↓h.qm16, ↓h.qm17, ↓h.qm18, ↓h.qm19, ↓h.qm20, ↓h.qm21, ↓h.qm22, ↓h.qm23, ↓h.qm24, h.lt, kd_0, kd_1, kd_2, kd_3, kd_r, kd_ra, kd_rb, kd_rc, kd_rd, ln_ra, ln_rb, ln_rc, ln_rd, kd_c, kd_ca, ln_ca, kd_t, kd_ta, kd_tb, kd_tc, ln_ta, ln_tb, ln_tc, ln_1, ln_2, ln_3, ln_51, kd_27, kd_28, kd_29, kd_30, kd_31, kd_32, kd_33, kd_34, kd_35, kd_36, kd_37, kd_38, kd_39, kd_40, kd_41, kd_42, kd_43, kd_44, kd_45, kd_46, kd_47, kd_48, kd_49, kd_50, kd_51, ln_28, ln_29, ln_30, ln_31, ln_32, ln_33, ln_34, ln_35, ln_36, ln_37, ln_38, ln_39, ln_40, ln_41, ln_42, ln_43, ln_44, ln_45, ln_46, ln_47, ln_48, ln_49, ln_50, inb_n, cl_n, g_n_s_i, g_n_s_l, mul_3, mul_4, mul_6, mul_61, nI_add, nI_1, nle_0, nle_1, nle_2, nle_3, nle_4, nle_5, nle_6, nle_7, nle_60, nle_61, nlt_0, nlt_1, nlt_2, nlt_3, nlt_4, nlt_5, nlt_6, nlt_7, nlt_60, nlt_61, nge_0, nge_1, nge_2, nge_3, nge_4, nge_5, nge_6, nge_7, nge_60, nge_61, ngt_0, ngt_1, ngt_2, ngt_3, ngt_4, ngt_5, ngt_6, ngt_7, ngt_60, ngt_61, neq_0, neq_1, neq_2, neq_3, neq_4, neq_5, neq_6, neq_7, neq_60, neq_61, and_self, and_true, true_and, or_true, true_or, if_true, if_false, or_self, and_false, false_and, or_false, false_or, not_true_eq_false, not_false_eq_true, ne_eq, reduceCtorEq, eq_self, bind_s, c10, c01, c20, c30, c40, cl_0, inb_0, onI_l, onI_r, onV_l, onV_r, b_M_forget_2, hn]
theorem en_mfor {σ : Sg} {n a : Nat} {x : Int32} : b_M_forget_2 (n + 1) σ a x (nI (2 + 1)) = some σ := by
  simp only [b_M_forget_2]
  rw [if_pos (by decide)]
/-- the six cells that forget clears -/
def fg (σ : Sg) (c : Nat) : Sg := s_i (s_i (s_i (s_i (s_i (s_i σ 40 (3 * c + 0) (-1)) 41 (3 * c + 0) 0) 40 (3 * c + 1) (-1)) 41 (3 * c + 1) 0) 40 (3 * c + 2) (-1)) 41 (3 * c + 2) 0
theorem p_mfor {b : Nat} {σ : Sg} (h : SN b σ) {c : Nat} (hc : c < 4) : f_M_forget σ 27 (nI c) = some (fg σ c) := by
  show b_M_forget_2 (999 + 1) σ 27 (nI c) (nI 0) = _
  rw [st_mfor h (n := 998 + 1) (by omega) hc, st_mfor (by exact h) (n := 997 + 1) (by omega) hc, st_mfor (by exact h) (n := 996 + 1) (by omega) hc, en_mfor]
  rfl
theorem fg_n {σ : Sg} {c a k : Nat} (h : (a ≠ 40 ∧ a ≠ 41) ∨ k < 3 * c ∨ 3 * c + 2 < k) : g_i (fg σ c) a k = g_i σ a k := by
  unfold fg
  simp (disch := omega) only [gi_n]
theorem fg_a {σ : Sg} {c r : Nat} (h : r < 3) : g_i (fg σ c) 40 (3 * c + r) = -1 := by
  unfold fg
  obtain rfl | rfl | rfl : r = 0 ∨ r = 1 ∨ r = 2 := by omega
  · simp (disch := omega) only [gi_n, gi_s]
  · simp (disch := omega) only [gi_n, gi_s]
  · simp (disch := omega) only [gi_n, gi_s]
theorem fg_b {σ : Sg} {c r : Nat} (h : r < 3) : g_i (fg σ c) 41 (3 * c + r) = 0 := by
  unfold fg
  obtain rfl | rfl | rfl : r = 0 ∨ r = 1 ∨ r = 2 := by omega
  · simp (disch := omega) only [gi_n, gi_s]
  · simp (disch := omega) only [gi_n, gi_s]
  · simp (disch := omega) only [gi_n, gi_s]
theorem fg_r {σ : Sg} {c a k : Nat} : g_r (fg σ c) a k = g_r σ a k := rfl
theorem fg_l {σ : Sg} {c a k : Nat} : g_l (fg σ c) a k = g_l σ a k := rfl
theorem fg_s {b : Nat} {σ : Sg} (h : SN b σ) {c : Nat} : SN b (fg σ c) := h
