/-! The law: every call of the script. -/
theorem p_thrown {b : Nat} {σ : Sg} (h : SN b σ) : f_M_thrown σ 27 = some (g_i σ 27 0) := by
  unfold f_M_thrown
  rw [if_pos ⟨by rw [h.1]; omega, rfl⟩]
theorem lgc {x y : Int64} (e : x = y) : lg_cmp x y = 0 := by
  subst e
  unfold lg_cmp
  rw [if_neg (show ¬ x > x from Int64.lt_irrefl), if_pos rfl]
theorem step_I {A : Option (Int32 × Sg)} {B : Sg → Option (Int32 × Sg)} (o : OpI A B (fun v => v.toInt64)) (K : Sg → Option (Int32 × Sg)) : ∃ σ' b' M' W', R b' M' W' σ' ∧ (A.bind (fun w => if 27 < w.2.1 ∧ kd 27 = 4 then (B w.2).bind (fun w5 => if 27 < w5.2.1 ∧ kd 27 = 4 then (f_M_thrown w5.2 27).bind (fun v6 => if v6 = w.1 then (if w.1 = 0 then (if (51 < w5.2.1 ∧ kd 51 = 12) ∧ inb (0 : Int32) (ln 51) = true then (if lg_cmp (g_l w5.2 51 (0 : Int32).toNatClampNeg) (w5.1.toInt64) = 0 then K w5.2 else some ((0 : Int32), w5.2)) else none) else K w5.2) else some ((0 : Int32), w5.2)) else none) else none)) = K σ' := by
  obtain ⟨k, σ1, v, σ2, b', M', W', e1, l1, e2, g2, r2, R2⟩ := o
  refine ⟨σ2, b', M', W', R2, ?_⟩
  rw [bq e1]
  dsimp only
  rw [if_pos ⟨l1, rfl⟩, bq e2]
  dsimp only
  rw [if_pos ⟨R2.n27, rfl⟩, bq (p_thrown R2.r0), if_pos g2]
  by_cases z : k = 0
  · rw [if_pos z, if_pos ⟨⟨by rw [R2.r0.1]; omega, rfl⟩, rfl⟩]
    have q : lg_cmp (g_l σ2 51 (0 : Int32).toNatClampNeg) v.toInt64 = 0 := lgc (r2 z)
    rw [if_pos q]
  · rw [if_neg z]
theorem step_B {A : Option (Int32 × Sg)} {B : Sg → Option (Int32 × Sg)} (o : OpI A B (fun v => if v = 0 then 0 else 1)) (K : Sg → Option (Int32 × Sg)) : ∃ σ' b' M' W', R b' M' W' σ' ∧ (A.bind (fun w => if 27 < w.2.1 ∧ kd 27 = 4 then (B w.2).bind (fun w5 => if 27 < w5.2.1 ∧ kd 27 = 4 then (f_M_thrown w5.2 27).bind (fun v6 => if v6 = w.1 then (if w.1 = 0 then (if (51 < w5.2.1 ∧ kd 51 = 12) ∧ inb (0 : Int32) (ln 51) = true then (if w5.1 = 0 then (if lg_cmp (g_l w5.2 51 (0 : Int32).toNatClampNeg) (0 : Int64) = 0 then K w5.2 else some ((0 : Int32), w5.2)) else (if lg_cmp (g_l w5.2 51 (0 : Int32).toNatClampNeg) (1 : Int64) = 0 then K w5.2 else some ((0 : Int32), w5.2))) else none) else K w5.2) else some ((0 : Int32), w5.2)) else none) else none)) = K σ' := by
  obtain ⟨k, σ1, v, σ2, b', M', W', e1, l1, e2, g2, r2, R2⟩ := o
  refine ⟨σ2, b', M', W', R2, ?_⟩
  rw [bq e1]
  dsimp only
  rw [if_pos ⟨l1, rfl⟩, bq e2]
  dsimp only
  rw [if_pos ⟨R2.n27, rfl⟩, bq (p_thrown R2.r0), if_pos g2]
  by_cases z : k = 0
  · rw [if_pos z, if_pos ⟨⟨by rw [R2.r0.1]; omega, rfl⟩, rfl⟩]
    have q := r2 z
    by_cases y : v = 0
    · have q1 : g_l σ2 51 (0 : Int32).toNatClampNeg = 0 := q.trans (if_pos y)
      rw [if_pos y, if_pos (lgc q1)]
    · have q1 : g_l σ2 51 (0 : Int32).toNatClampNeg = 1 := q.trans (if_neg y)
      rw [if_neg y, if_pos (lgc q1)]
  · rw [if_neg z]
theorem step_V {A : Option (Int32 × Sg)} {B : Sg → Option Sg} (o : OpV A B) (K : Sg → Option (Int32 × Sg)) : ∃ σ' b' M' W', R b' M' W' σ' ∧ (A.bind (fun w => if 27 < w.2.1 ∧ kd 27 = 4 then (B w.2).bind (fun s => if 27 < s.1 ∧ kd 27 = 4 then (f_M_thrown s 27).bind (fun v6 => if v6 = w.1 then K s else some ((0 : Int32), s)) else none) else none)) = K σ' := by
  obtain ⟨k, σ1, σ2, b', M', W', e1, l1, e2, g2, R2⟩ := o
  refine ⟨σ2, b', M', W', R2, ?_⟩
  rw [bq e1]
  dsimp only
  rw [if_pos ⟨l1, rfl⟩, bq e2, if_pos ⟨R2.n27, rfl⟩, bq (p_thrown R2.r0), if_pos g2]
theorem step_O {b : Nat} {M W : Nat → Nat} {σ : Sg} (h : R b M W σ) {A : Option Int32} {B : Option (Int32 × Sg)} (o : ∃ v, A = some v ∧ B = some (v, s_i σ 27 0 0)) (K : Sg → Option (Int32 × Sg)) : ∃ σ' b' M' W', R b' M' W' σ' ∧ (if 0 < σ.1 ∧ kd 0 = 3 then A.bind (fun v => if 27 < σ.1 ∧ kd 27 = 4 then B.bind (fun w => if v = w.1 then K w.2 else some ((0 : Int32), w.2)) else none) else none) = K σ' := by
  obtain ⟨v, e1, e2⟩ := o
  refine ⟨s_i σ 27 0 0, b, M, W, h.cg 0, ?_⟩
  have l := h.n27
  rw [if_pos ⟨by omega, rfl⟩, bq e1, if_pos ⟨l, rfl⟩, bq e2]
  dsimp only
  rw [if_pos rfl]
theorem law_st {N n b : Nat} {xs : Nat → Int32} {M W : Nat → Nat} {σ : Sg} (h : R b M W σ) {x : Int32} (hc : ¬ nI N - 4 < x) (i0 : inb x N = true) (i1 : inb (x + 1) N = true) (i2 : inb (x + 2) N = true) (i3 : inb (x + 3) N = true) : ∃ σ' b' M' W', R b' M' W' σ' ∧ b_L_law_23 N xs (n + 1) σ 0 27 51 x = b_L_law_23 N xs n σ' 0 27 51 (x + 4) := by
  simp only [b_L_law_23, b_L_law_942, b_L_law_791, b_L_law_747, b_L_law_741, b_L_law_707, b_L_law_680, b_L_law_620, b_L_law_614, b_L_law_545, b_L_law_477, b_L_law_421, b_L_law_245, b_L_law_165, if_neg hc, if_pos i0, if_pos i1, if_pos i2, if_pos i3]
  generalize xs (x + 1).toNatClampNeg = X1
  generalize xs (x + 2).toNatClampNeg = X2
  generalize xs (x + 3).toNatClampNeg = X3
  generalize xs x.toNatClampNeg &&& 15 = y
  by_cases y0 : y = 0
  · rw [if_pos y0]
    exact step_I (o_begin h X1) (fun s => b_L_law_23 N xs n s 0 27 51 (x + 4))
  rw [if_neg y0]
  by_cases y1 : y = 1
  · rw [if_pos y1]
    exact step_I (o_read h X1 X2 X3) (fun s => b_L_law_23 N xs n s 0 27 51 (x + 4))
  rw [if_neg y1]
  by_cases y2 : y = 2
  · rw [if_pos y2]
    exact step_V (o_write h X1 X2 X3) (fun s => b_L_law_23 N xs n s 0 27 51 (x + 4))
  rw [if_neg y2]
  by_cases y3 : y = 3
  · rw [if_pos y3]
    exact step_V (o_propose h X1 X2) (fun s => b_L_law_23 N xs n s 0 27 51 (x + 4))
  rw [if_neg y3]
  by_cases y4 : y = 4
  · rw [if_pos y4]
    exact step_I (o_prepare h X1 X2) (fun s => b_L_law_23 N xs n s 0 27 51 (x + 4))
  rw [if_neg y4]
  by_cases y5 : y = 5
  · rw [if_pos y5]
    exact step_I (o_decide h X1) (fun s => b_L_law_23 N xs n s 0 27 51 (x + 4))
  rw [if_neg y5]
  by_cases y6 : y = 6
  · rw [if_pos y6]
    exact step_I (o_confirm h X1 X2) (fun s => b_L_law_23 N xs n s 0 27 51 (x + 4))
  rw [if_neg y6]
  by_cases y7 : y = 7
  · rw [if_pos y7]
    exact step_B (o_finish h X1 X2) (fun s => b_L_law_23 N xs n s 0 27 51 (x + 4))
  rw [if_neg y7]
  by_cases y8 : y = 8
  · rw [if_pos y8]
    exact step_V (o_end h X1) (fun s => b_L_law_23 N xs n s 0 27 51 (x + 4))
  rw [if_neg y8]
  by_cases y9 : y = 9
  · rw [if_pos y9]
    by_cases z : X2 = 0
    · simp only [if_pos z]
      exact step_B (o_power h X1 0 (Or.inl rfl)) (fun s => b_L_law_23 N xs n s 0 27 51 (x + 4))
    · simp only [if_neg z]
      exact step_B (o_power h X1 1 (Or.inr rfl)) (fun s => b_L_law_23 N xs n s 0 27 51 (x + 4))
  rw [if_neg y9]
  by_cases y10 : y = 10
  · rw [if_pos y10]
    exact step_I (o_change h) (fun s => b_L_law_23 N xs n s 0 27 51 (x + 4))
  rw [if_neg y10]
  by_cases y11 : y = 11
  · rw [if_pos y11]
    exact step_O h (o_client h X1 X2) (fun s => b_L_law_23 N xs n s 0 27 51 (x + 4))
  rw [if_neg y11]
  by_cases y12 : y = 12
  · rw [if_pos y12]
    exact step_O h (o_at h X1 X2 X3) (fun s => b_L_law_23 N xs n s 0 27 51 (x + 4))
  rw [if_neg y12]
  by_cases y13 : y = 13
  · rw [if_pos y13]
    exact step_O h (o_record h X1 X2) (fun s => b_L_law_23 N xs n s 0 27 51 (x + 4))
  rw [if_neg y13]
  by_cases y14 : y = 14
  · rw [if_pos y14]
    exact step_O h (o_state h X1) (fun s => b_L_law_23 N xs n s 0 27 51 (x + 4))
  rw [if_neg y14]
  exact ⟨σ, b, M, W, h, rfl⟩
theorem ns4 {N x : Nat} (hN : N ≤ 2048) (hx : x ≤ 4096) : (nI N - 4 < nI x) ↔ N < x + 4 := by
  by_cases z : 4 ≤ N
  · obtain ⟨m, rfl⟩ : ∃ m, N = m + 4 := ⟨N - 4, by omega⟩
    have e : nI (m + 4) - 4 = nI m := by
      rw [← nI_add m 4]
      exact Int32.add_sub_cancel _ _
    rw [e, nlt (by omega) (by omega)]
    omega
  · refine ⟨fun _ => by omega, fun _ => ?_⟩
    have q : 0 ≤ nI x := nI_pos' (by omega)
    obtain rfl | rfl | rfl | rfl : N = 0 ∨ N = 1 ∨ N = 2 ∨ N = 3 := by omega
    · exact Int32.lt_of_lt_of_le (by decide) q
    · exact Int32.lt_of_lt_of_le (by decide) q
    · exact Int32.lt_of_lt_of_le (by decide) q
    · exact Int32.lt_of_lt_of_le (by decide) q
theorem law_lp {N : Nat} (hN : N ≤ 2048) (xs : Nat → Int32) : ∀ e n k b (M W : Nat → Nat) (σ : Sg), N ≤ 4 * k + 3 + 4 * e → 4 * k ≤ 2048 → e < n → R b M W σ → ∃ σ', b_L_law_23 N xs n σ 0 27 51 (nI (4 * k)) = some (1, σ') := by
  intro e
  induction e with
  | zero =>
    intro n k b M W σ h1 h2 h3 h
    obtain ⟨n, rfl⟩ : ∃ q, n = q + 1 := ⟨n - 1, by omega⟩
    refine ⟨σ, ?_⟩
    simp only [b_L_law_23]
    rw [if_pos ((ns4 hN (by omega)).mpr (by omega))]
  | succ e ih =>
    intro n k b M W σ h1 h2 h3 h
    obtain ⟨n, rfl⟩ : ∃ q, n = q + 1 := ⟨n - 1, by omega⟩
    by_cases z : N < 4 * k + 4
    · refine ⟨σ, ?_⟩
      simp only [b_L_law_23]
      rw [if_pos ((ns4 hN (by omega)).mpr (by omega))]
    · have a1 : nI (4 * k) + 1 = nI (4 * k + 1) := nI_add _ 1
      have a2 : nI (4 * k) + 2 = nI (4 * k + 2) := nI_add _ 2
      have a3 : nI (4 * k) + 3 = nI (4 * k + 3) := nI_add _ 3
      have a4 : nI (4 * k) + 4 = nI (4 * (k + 1)) := nI_add _ 4
      obtain ⟨σ1, b1, M1, W1, r1, q1⟩ := law_st (N := N) (n := n) (xs := xs) h (x := nI (4 * k)) (fun q => z ((ns4 hN (by omega)).mp q)) (inb_n (by omega) (by omega)) (by rw [a1]; exact inb_n (by omega) (by omega)) (by rw [a2]; exact inb_n (by omega) (by omega)) (by rw [a3]; exact inb_n (by omega) (by omega))
      rw [q1, a4]
      exact ih n (k + 1) b1 M1 W1 σ1 (by omega) (by omega) (by omega) r1
theorem law_one (N : Nat) (xs : Nat → Int32) (hN : N ≤ 2048) : ∃ σ', f_L_law N xs s_0 = some (1, σ') := by
  rw [j_l]
  exact law_lp hN xs 512 1000 0 0 _ _ sI (by omega) (by omega) (by omega) j_R
