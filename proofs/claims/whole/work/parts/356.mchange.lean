/-! change of the reference. -/
theorem mu_p (u v x : Int32) : x ≤ mu u v x ∧ (u ≠ 0 → v ≤ mu u v x) ∧ (mu u v x = x ∨ (u ≠ 0 ∧ mu u v x = v)) := by
  unfold mu mx
  grind
theorem nv_p (u l : Nat → Int32) : 0 ≤ nvF u l ∧ (∀ i, i < 3 → u i ≠ 0 → l i ≤ nvF u l) ∧ (nvF u l = 0 ∨ ∃ i, i < 3 ∧ u i ≠ 0 ∧ nvF u l = l i) := by
  obtain ⟨a1, a2, a3⟩ := mu_p (u 0) (l 0) 0
  obtain ⟨b1, b2, b3⟩ := mu_p (u 1) (l 1) (mu (u 0) (l 0) 0)
  obtain ⟨c1, c2, c3⟩ := mu_p (u 2) (l 2) (mu (u 1) (l 1) (mu (u 0) (l 0) 0))
  unfold nvF
  refine ⟨Int32.le_trans a1 (Int32.le_trans b1 c1), fun i hi z => ?_, ?_⟩
  · obtain rfl | rfl | rfl : i = 0 ∨ i = 1 ∨ i = 2 := by omega
    · exact Int32.le_trans (a2 z) (Int32.le_trans b1 c1)
    · exact Int32.le_trans (b2 z) c1
    · exact c2 z
  · rcases c3 with c3 | ⟨c3, c4⟩
    · rcases b3 with b3 | ⟨b3, b4⟩
      · rcases a3 with a3 | ⟨a3, a4⟩
        · left
          rw [c3, b3, a3]
        · right
          exact ⟨0, by omega, a3, by rw [c3, b3, a4]⟩
      · right
        exact ⟨1, by omega, b3, by rw [c3, b4]⟩
    · right
      exact ⟨2, by omega, c3, c4⟩
theorem nv_eq {u l L : Nat → Int32} (h1 : ∀ i, i < 3 → u i ≠ 0 → l i ≤ L i) (h2 : ∀ i, i < 3 → u i ≠ 0 → L i ≤ nvF u l) : nvF u L = nvF u l := by
  obtain ⟨a1, a2, a3⟩ := nv_p u l
  obtain ⟨b1, b2, b3⟩ := nv_p u L
  apply Int32.le_antisymm
  · rcases b3 with b3 | ⟨i, hi, z, b3⟩
    · rw [b3]; exact a1
    · rw [b3]; exact h2 i hi z
  · rcases a3 with a3 | ⟨i, hi, z, a3⟩
    · rw [a3]; exact b1
    · rw [a3]; exact Int32.le_trans (h1 i hi z) (b2 i hi z)
theorem kV_p (u p x v y : Int32) : v ≤ kV u p v ∧ (u ≠ 0 → p ≤ kV u p v) ∧ ((kV u p v = v ∧ kX u p x v y = y) ∨ (u ≠ 0 ∧ kV u p v = p ∧ kX u p x v y = x)) := by
  unfold kV kX
  grind
theorem Mx_p (u p x : Nat → Int32) : 0 ≤ MxF u p ∧ (∀ i, i < 3 → u i ≠ 0 → p i ≤ MxF u p) ∧ ((MxF u p = 0 ∧ VxF u p x = 0) ∨ ∃ i, i < 3 ∧ u i ≠ 0 ∧ MxF u p = p i ∧ VxF u p x = x i) := by
  obtain ⟨a1, a2, a3⟩ := kV_p (u 0) (p 0) (x 0) 0 0
  obtain ⟨b1, b2, b3⟩ := kV_p (u 1) (p 1) (x 1) (kV (u 0) (p 0) 0) (kX (u 0) (p 0) (x 0) 0 0)
  obtain ⟨c1, c2, c3⟩ := kV_p (u 2) (p 2) (x 2) (kV (u 1) (p 1) (kV (u 0) (p 0) 0)) (kX (u 1) (p 1) (x 1) (kV (u 0) (p 0) 0) (kX (u 0) (p 0) (x 0) 0 0))
  unfold MxF VxF
  refine ⟨Int32.le_trans a1 (Int32.le_trans b1 c1), fun i hi z => ?_, ?_⟩
  · obtain rfl | rfl | rfl : i = 0 ∨ i = 1 ∨ i = 2 := by omega
    · exact Int32.le_trans (a2 z) (Int32.le_trans b1 c1)
    · exact Int32.le_trans (b2 z) c1
    · exact c2 z
  · rcases c3 with ⟨c3, c4⟩ | ⟨c3, c4, c5⟩
    · rcases b3 with ⟨b3, b4⟩ | ⟨b3, b4, b5⟩
      · rcases a3 with ⟨a3, a4⟩ | ⟨a3, a4, a5⟩
        · left
          rw [c3, c4, b3, b4, a3, a4]
          exact ⟨rfl, rfl⟩
        · right
          exact ⟨0, by omega, a3, by rw [c3, b3, a4], by rw [c4, b4, a5]⟩
      · right
        exact ⟨1, by omega, b3, by rw [c3, b4], by rw [c4, b5]⟩
    · right
      exact ⟨2, by omega, c3, c4, c5⟩
theorem uc_up {u : Nat → Int32} (h : 2 ≤ uc u) : u 0 ≠ 0 ∨ u 1 ≠ 0 ∨ u 2 ≠ 0 := by
  have q : ∀ x : Int32, x = 0 → bn x = 0 := fun x e => by unfold bn; rw [if_pos e]
  by_cases z0 : u 0 = 0
  · by_cases z1 : u 1 = 0
    · by_cases z2 : u 2 = 0
      · unfold uc at h
        rw [q _ z0, q _ z1, q _ z2] at h
        omega
      · exact Or.inr (Or.inr z2)
    · exact Or.inr (Or.inl z1)
  · exact Or.inl z0
theorem Mx_k {u p x : Nat → Int32} (h : u 0 ≠ 0 ∨ u 1 ≠ 0 ∨ u 2 ≠ 0) (hp : ∀ i, i < 3 → 0 ≤ p i ∧ (p i = 0 → x i = 0)) : ∃ i, i < 3 ∧ u i ≠ 0 ∧ p i = MxF u p ∧ x i = VxF u p x := by
  obtain ⟨a1, a2, a3⟩ := Mx_p u p x
  rcases a3 with ⟨a3, a4⟩ | ⟨i, hi, z, a3, a4⟩
  · obtain ⟨i, hi, z⟩ : ∃ i, i < 3 ∧ u i ≠ 0 := by
      rcases h with h | h | h
      · exact ⟨0, by omega, h⟩
      · exact ⟨1, by omega, h⟩
      · exact ⟨2, by omega, h⟩
    have e : p i = 0 := by
      apply Int32.le_antisymm
      · rw [← a3]; exact a2 i hi z
      · exact (hp i hi).1
    exact ⟨i, hi, z, by rw [a3, e], by rw [a4, (hp i hi).2 e]⟩
  · exact ⟨i, hi, z, a3.symm, a4.symm⟩
theorem lp_mkey {b : Nat} {u : Nat → Int32} {p x l : Nat → Nat → Int32} (nx : Int32) (hup : u 0 ≠ 0 ∨ u 1 ≠ 0 ∨ u 2 ≠ 0) (hK : ∀ q, q < 6 → ∀ i, i < 3 → 0 ≤ p q i ∧ (p q i = 0 → x q i = 0)) : ∀ e n k (Z : Sg), e + k = 6 → e < n → SN b Z → (∀ i, i < 3 → g_i Z 42 i = u i) → (∀ i, i < 3 → ∀ q, k ≤ q → q < 6 → (u i = 0 → g_i Z 44 (6 * i + q) = p q i ∧ g_i Z 45 (6 * i + q) = x q i ∧ g_i Z 46 (6 * i + q) = l q i) ∧ (u i ≠ 0 → p q i ≤ g_i Z 44 (6 * i + q) ∧ g_i Z 44 (6 * i + q) ≤ MxF u (p q) ∧ (g_i Z 44 (6 * i + q) = MxF u (p q) → g_i Z 45 (6 * i + q) = VxF u (p q) (x q)) ∧ l q i ≤ g_i Z 46 (6 * i + q) ∧ g_i Z 46 (6 * i + q) ≤ nvF u (l q))) →
    ∃ Z', b_M_change_91 n Z 27 nx (nI k) = b_M_change_110 1000 Z' 27 nx 0 ∧ SN b Z' ∧ (∀ a j, g_r Z' a j = g_r Z a j ∧ g_l Z' a j = g_l Z a j) ∧ (∀ a j, (a ≠ 44 ∧ a ≠ 45 ∧ a ≠ 46) → g_i Z' a j = g_i Z a j) ∧ (∀ a i, i < 3 → ∀ q, q < k → g_i Z' a (6 * i + q) = g_i Z a (6 * i + q)) ∧ ∀ i, i < 3 → ∀ q, k ≤ q → q < 6 → g_i Z' 44 (6 * i + q) = (if u i = 0 then p q i else MxF u (p q)) ∧ g_i Z' 45 (6 * i + q) = (if u i = 0 then x q i else VxF u (p q) (x q)) ∧ g_i Z' 46 (6 * i + q) = (if u i = 0 then l q i else nvF u (l q)) := by
  intro e
  induction e with
  | zero =>
    intro n k Z he hn h hu hJ
    obtain ⟨n, rfl⟩ : ∃ q, n = q + 1 := ⟨n - 1, by omega⟩
    obtain rfl : k = 6 := by omega
    refine ⟨Z, ?_, h, fun _ _ => ⟨rfl, rfl⟩, fun _ _ _ => rfl, fun _ _ _ _ _ => rfl, fun i hi q h1 h2 => absurd h2 (by omega)⟩
    simp only [b_M_change_91]
    rw [if_pos (by decide)]
  | succ e ih =>
    intro n k Z he hn h hu hJ
    obtain ⟨n, rfl⟩ : ∃ q, n = q + 1 := ⟨n - 1, by omega⟩
    have hl : ¬ 6 ≤ k := by omega
    have hk6 : k < 6 := by omega
    have pm := p_mmk h hk6 (u := u) (p := fun i => g_i Z 44 (6 * i + k)) (l := fun i => g_i Z 46 (6 * i + k)) (fun i hi => ⟨hu i hi, rfl, rfl⟩)
    obtain ⟨B3, uB, hB⟩ := bsF_p (p := fun i => g_i Z 44 (6 * i + k)) hup
    generalize bsF u (fun i => g_i Z 44 (6 * i + k)) = B at *
    obtain ⟨i0, hi0, u0, p0, x0⟩ := Mx_k hup (hK k hk6)
    have jB := (hJ B B3 k (by omega) hk6).2 uB
    have j0 := (hJ i0 hi0 k (by omega) hk6).2 u0
    have eB : g_i Z 44 (6 * B + k) = MxF u (p k) := by
      apply Int32.le_antisymm jB.2.1
      rw [← p0]
      exact Int32.le_trans j0.1 (hB i0 hi0 u0)
    have vB := jB.2.2.1 eB
    have lB : nvF u (fun i => g_i Z 46 (6 * i + k)) = nvF u (l k) := nv_eq (fun i hi z => ((hJ i hi k (by omega) hk6).2 z).2.2.2.1) (fun i hi z => ((hJ i hi k (by omega) hk6).2 z).2.2.2.2)
    rw [lB] at pm
    obtain ⟨Z2, e2, s2, r2, F2, K2, V2⟩ := ih n (k + 1) (Wm3 (nvF u (l k)) B k Z) (by omega) (by omega) (wm3_s (wm3_s (wm3_s h))) (by
      intro i hi
      rw [Wm3_n (by omega)]
      exact hu i hi) (by
      intro i hi q h1 h2
      rw [Wm3_n (by omega), Wm3_n (by omega), Wm3_n (by omega)]
      exact hJ i hi q (by omega) h2)
    refine ⟨Z2, ?_, s2, fun a j => ?_, fun a j q => ?_, fun a i hi q hq => ?_, fun i hi q h1 h2 => ?_⟩
    · rw [← e2]
      simp (disch := omega) only [↓reduceIte, ↓wi_e, ↓wn_e, ↓rc_i, ↓rc_l, ↓h.q0, ↓h.q1, ↓h.q2, ↓h.qr, ↓h.qc, ↓h.qr2, ↓h.qr3, ↓h.qr4, ↓h.qr5, ↓h.qc5, ↓h.qt, ↓h.qt4, ↓h.qt5, ↓h.qt6, ↓h.qm2, ↓h.qm3, ↓h.qm4, ↓h.qm5, ↓h.qm6, ↓h.qm7, ↓h.qm8, ↓h.qm9, ↓h.qm10, ↓h.qm11, ↓h.qm12, ↓h.qm13, ↓h.qm14, ↓h.qm15, ↓h.qm16, ↓h.qm17, ↓h.qm18, ↓h.qm19, ↓h.qm20, ↓h.qm21, ↓h.qm22, ↓h.qm23, ↓h.qm24, h.lt, kd_0, kd_1, kd_2, kd_3, kd_r, kd_ra, kd_rb, kd_rc, kd_rd, ln_ra, ln_rb, ln_rc, ln_rd, kd_c, kd_ca, ln_ca, kd_t, kd_ta, kd_tb, kd_tc, ln_ta, ln_tb, ln_tc, ln_1, ln_2, ln_3, ln_51, kd_27, kd_28, kd_29, kd_30, kd_31, kd_32, kd_33, kd_34, kd_35, kd_36, kd_37, kd_38, kd_39, kd_40, kd_41, kd_42, kd_43, kd_44, kd_45, kd_46, kd_47, kd_48, kd_49, kd_50, kd_51, ln_28, ln_29, ln_30, ln_31, ln_32, ln_33, ln_34, ln_35, ln_36, ln_37, ln_38, ln_39, ln_40, ln_41, ln_42, ln_43, ln_44, ln_45, ln_46, ln_47, ln_48, ln_49, ln_50, inb_n, cl_n, g_n_s_i, g_n_s_l, mul_3, mul_4, mul_6, mul_61, nI_add, nI_1, nle_0, nle_1, nle_2, nle_3, nle_4, nle_5, nle_6, nle_7, nle_60, nle_61, nlt_0, nlt_1, nlt_2, nlt_3, nlt_4, nlt_5, nlt_6, nlt_7, nlt_60, nlt_61, nge_0, nge_1, nge_2, nge_3, nge_4, nge_5, nge_6, nge_7, nge_60, nge_61, ngt_0, ngt_1, ngt_2, ngt_3, ngt_4, ngt_5, ngt_6, ngt_7, ngt_60, ngt_61, neq_0, neq_1, neq_2, neq_3, neq_4, neq_5, neq_6, neq_7, neq_60, neq_61, Nat.not_lt_zero, and_self, and_true, true_and, or_true, true_or, if_true, if_false, or_self, and_false, false_and, or_false, false_or, not_true_eq_false, not_false_eq_true, ne_eq, reduceCtorEq, eq_self, bind_s, c10, c01, c20, c30, c40, cl_0, inb_0, onI_l, onI_r, onV_l, onV_r, b_M_change_91, hl, ↓bq pm]
    · rw [(r2 a j).1, (r2 a j).2]
      exact Wm3_r a j
    · rw [F2 a j q, Wm3_n (Or.inl q)]
    · rw [K2 a i hi q (by omega), Wm3_n (by omega)]
    · by_cases z : q = k
      · subst z
        rw [K2 _ i hi q (by omega), K2 _ i hi q (by omega), K2 _ i hi q (by omega)]
        obtain ⟨w1, w2, w3⟩ := Wm3_v (r := nvF u (l q)) (B := B) (k := q) (σ := Z) hi
        rw [w1, w2, w3, hu i hi, eB, vB]
        have j := (hJ i hi q (by omega) h2).1
        by_cases y : u i = 0
        · simp only [if_pos y]
          exact j y
        · simp only [if_neg y, and_self]
      · exact V2 i hi q (by omega) h2
def vm3 (x : Int32) (σ : Sg) (i : Nat) : Sg := s_i σ 43 i (if g_i σ 42 i = 0 then g_i σ 43 i else x)
def Vm3 (x : Int32) (σ : Sg) : Sg := vm3 x (vm3 x (vm3 x σ 0) 1) 2
theorem st_110 {b : Nat} {σ : Sg} (h : SN b σ) {n i : Nat} (hi : i < 3) (x : Int32) : b_M_change_110 (n + 1) σ 27 x (nI i) = b_M_change_110 n (vm3 x σ i) 27 x (nI (i + 1)) := by
  have hn : ¬ 3 ≤ i := by omega
  unfold vm3
  by_cases z : g_i σ 42 i = 0
  · rw [if_pos z]
    simp (disch := omega) only [↓reduceIte, ↓wi_e, ↓wn_e, ↓rc_i, ↓rc_l, ↓h.q0, ↓h.q1, ↓h.q2, ↓h.qr, ↓h.qc, ↓h.qr2, ↓h.qr3, ↓h.qr4, ↓h.qr5, ↓h.qc5, ↓h.qt, ↓h.qt4, ↓h.qt5, ↓h.qt6, ↓h.qm2, ↓h.qm3, ↓h.qm4, ↓h.qm5, ↓h.qm6, ↓h.qm7, ↓h.qm8, ↓h.qm9, ↓h.qm10, ↓h.qm11, ↓h.qm12, ↓h.qm13, ↓h.qm14, ↓h.qm15, ↓h.qm16, ↓h.qm17, ↓h.qm18, ↓h.qm19, ↓h.qm20, ↓h.qm21, ↓h.qm22, ↓h.qm23, ↓h.qm24, h.lt, kd_0, kd_1, kd_2, kd_3, kd_r, kd_ra, kd_rb, kd_rc, kd_rd, ln_ra, ln_rb, ln_rc, ln_rd, kd_c, kd_ca, ln_ca, kd_t, kd_ta, kd_tb, kd_tc, ln_ta, ln_tb, ln_tc, ln_1, ln_2, ln_3, ln_51, kd_27, kd_28, kd_29, kd_30, kd_31, kd_32, kd_33, kd_34, kd_35, kd_36, kd_37, kd_38, kd_39, kd_40, kd_41, kd_42, kd_43, kd_44, kd_45, kd_46, kd_47, kd_48, kd_49, kd_50, kd_51, ln_28, ln_29, ln_30, ln_31, ln_32, ln_33, ln_34, ln_35, ln_36, ln_37, ln_38, ln_39, ln_40, ln_41, ln_42, ln_43, ln_44, ln_45, ln_46, ln_47, ln_48, ln_49, ln_50, inb_n, cl_n, g_n_s_i, g_n_s_l, mul_3, mul_4, mul_6, mul_61, nI_add, nI_1, nle_0, nle_1, nle_2, nle_3, nle_4, nle_5, nle_6, nle_7, nle_60, nle_61, nlt_0, nlt_1, nlt_2, nlt_3, nlt_4, nlt_5, nlt_6, nlt_7, nlt_60, nlt_61, nge_0, nge_1, nge_2, nge_3, nge_4, nge_5, nge_6, nge_7, nge_60, nge_61, ngt_0, ngt_1, ngt_2, ngt_3, ngt_4, ngt_5, ngt_6, ngt_7, ngt_60, ngt_61, neq_0, neq_1, neq_2, neq_3, neq_4, neq_5, neq_6, neq_7, neq_60, neq_61, Nat.not_lt_zero, and_self, and_true, true_and, or_true, true_or, if_true, if_false, or_self, and_false, false_and, or_false, false_or, not_true_eq_false, not_false_eq_true, ne_eq, reduceCtorEq, eq_self, bind_s, c10, c01, c20, c30, c40, cl_0, inb_0, onI_l, onI_r, onV_l, onV_r, b_M_change_110, b_M_change_139, hn, z]
  · rw [if_neg z]
    simp (disch := omega) only [↓reduceIte, ↓wi_e, ↓wn_e, ↓rc_i, ↓rc_l, ↓h.q0, ↓h.q1, ↓h.q2, ↓h.qr, ↓h.qc, ↓h.qr2, ↓h.qr3, ↓h.qr4, ↓h.qr5, ↓h.qc5, ↓h.qt, ↓h.qt4, ↓h.qt5, ↓h.qt6, ↓h.qm2, ↓h.qm3, ↓h.qm4, ↓h.qm5, ↓h.qm6, ↓h.qm7, ↓h.qm8, ↓h.qm9, ↓h.qm10, ↓h.qm11, ↓h.qm12, ↓h.qm13, ↓h.qm14, ↓h.qm15, ↓h.qm16, ↓h.qm17, ↓h.qm18, ↓h.qm19, ↓h.qm20, ↓h.qm21, ↓h.qm22, ↓h.qm23, ↓h.qm24, h.lt, kd_0, kd_1, kd_2, kd_3, kd_r, kd_ra, kd_rb, kd_rc, kd_rd, ln_ra, ln_rb, ln_rc, ln_rd, kd_c, kd_ca, ln_ca, kd_t, kd_ta, kd_tb, kd_tc, ln_ta, ln_tb, ln_tc, ln_1, ln_2, ln_3, ln_51, kd_27, kd_28, kd_29, kd_30, kd_31, kd_32, kd_33, kd_34, kd_35, kd_36, kd_37, kd_38, kd_39, kd_40, kd_41, kd_42, kd_43, kd_44, kd_45, kd_46, kd_47, kd_48, kd_49, kd_50, kd_51, ln_28, ln_29, ln_30, ln_31, ln_32, ln_33, ln_34, ln_35, ln_36, ln_37, ln_38, ln_39, ln_40, ln_41, ln_42, ln_43, ln_44, ln_45, ln_46, ln_47, ln_48, ln_49, ln_50, inb_n, cl_n, g_n_s_i, g_n_s_l, mul_3, mul_4, mul_6, mul_61, nI_add, nI_1, nle_0, nle_1, nle_2, nle_3, nle_4, nle_5, nle_6, nle_7, nle_60, nle_61, nlt_0, nlt_1, nlt_2, nlt_3, nlt_4, nlt_5, nlt_6, nlt_7, nlt_60, nlt_61, nge_0, nge_1, nge_2, nge_3, nge_4, nge_5, nge_6, nge_7, nge_60, nge_61, ngt_0, ngt_1, ngt_2, ngt_3, ngt_4, ngt_5, ngt_6, ngt_7, ngt_60, ngt_61, neq_0, neq_1, neq_2, neq_3, neq_4, neq_5, neq_6, neq_7, neq_60, neq_61, Nat.not_lt_zero, and_self, and_true, true_and, or_true, true_or, if_true, if_false, or_self, and_false, false_and, or_false, false_or, not_true_eq_false, not_false_eq_true, ne_eq, reduceCtorEq, eq_self, bind_s, c10, c01, c20, c30, c40, cl_0, inb_0, onI_l, onI_r, onV_l, onV_r, b_M_change_110, b_M_change_139, hn, z]
theorem en_110 {σ : Sg} {n a : Nat} {x : Int32} : b_M_change_110 (n + 1) σ a x (nI (2 + 1)) = some (x, σ) := by
  simp only [b_M_change_110]
  rw [if_pos (by decide)]
theorem p_110 {b : Nat} {σ : Sg} (h : SN b σ) (x : Int32) : b_M_change_110 1000 σ 27 x 0 = some (x, Vm3 x σ) := by
  show b_M_change_110 (999 + 1) σ 27 x (nI 0) = _
  rw [st_110 h (n := 998 + 1) (by omega), st_110 (by exact h) (n := 997 + 1) (by omega), st_110 (by exact h) (n := 996 + 1) (by omega), en_110]
  rfl
theorem Vm3_n {x : Int32} {σ : Sg} {a j : Nat} (q : a ≠ 43 ∨ 3 ≤ j) : g_i (Vm3 x σ) a j = g_i σ a j := by
  unfold Vm3 vm3
  simp (disch := omega) only [gi_n]
theorem Vm3_v {x : Int32} {i : Nat} {σ : Sg} (hi : i < 3) : g_i (Vm3 x σ) 43 i = if g_i σ 42 i = 0 then g_i σ 43 i else x := by
  unfold Vm3 vm3
  obtain rfl | rfl | rfl : i = 0 ∨ i = 1 ∨ i = 2 := by omega
  · simp (disch := omega) only [gi_n, gi_s]
  · simp (disch := omega) only [gi_n, gi_s]
  · simp (disch := omega) only [gi_n, gi_s]
theorem st_c4 {b : Nat} {σ : Sg} (h : SN b σ) {n i x : Nat} (hi : i < 3) : b_M_change_4 (n + 1) σ 27 (nI x) (nI i) = b_M_change_4 n σ 27 (nI (x + bn (g_i σ 42 i))) (nI (i + 1)) := by
  have hn : ¬ 3 ≤ i := by omega
  unfold bn
  by_cases z : g_i σ 42 i = 0
  · rw [if_pos z]
    simp (disch := omega) only [↓reduceIte, ↓wi_e, ↓wn_e, ↓rc_i, ↓rc_l, ↓h.q0, ↓h.q1, ↓h.q2, ↓h.qr, ↓h.qc, ↓h.qr2, ↓h.qr3, ↓h.qr4, ↓h.qr5, ↓h.qc5, ↓h.qt, ↓h.qt4, ↓h.qt5, ↓h.qt6, ↓h.qm2, ↓h.qm3, ↓h.qm4, ↓h.qm5, ↓h.qm6, ↓h.qm7, ↓h.qm8, ↓h.qm9, ↓h.qm10, ↓h.qm11, ↓h.qm12, ↓h.qm13, ↓h.qm14, ↓h.qm15, ↓h.qm16, ↓h.qm17, ↓h.qm18, ↓h.qm19, ↓h.qm20, ↓h.qm21, ↓h.qm22, ↓h.qm23, ↓h.qm24, h.lt, kd_0, kd_1, kd_2, kd_3, kd_r, kd_ra, kd_rb, kd_rc, kd_rd, ln_ra, ln_rb, ln_rc, ln_rd, kd_c, kd_ca, ln_ca, kd_t, kd_ta, kd_tb, kd_tc, ln_ta, ln_tb, ln_tc, ln_1, ln_2, ln_3, ln_51, kd_27, kd_28, kd_29, kd_30, kd_31, kd_32, kd_33, kd_34, kd_35, kd_36, kd_37, kd_38, kd_39, kd_40, kd_41, kd_42, kd_43, kd_44, kd_45, kd_46, kd_47, kd_48, kd_49, kd_50, kd_51, ln_28, ln_29, ln_30, ln_31, ln_32, ln_33, ln_34, ln_35, ln_36, ln_37, ln_38, ln_39, ln_40, ln_41, ln_42, ln_43, ln_44, ln_45, ln_46, ln_47, ln_48, ln_49, ln_50, inb_n, cl_n, g_n_s_i, g_n_s_l, mul_3, mul_4, mul_6, mul_61, nI_add, nI_1, nle_0, nle_1, nle_2, nle_3, nle_4, nle_5, nle_6, nle_7, nle_60, nle_61, nlt_0, nlt_1, nlt_2, nlt_3, nlt_4, nlt_5, nlt_6, nlt_7, nlt_60, nlt_61, nge_0, nge_1, nge_2, nge_3, nge_4, nge_5, nge_6, nge_7, nge_60, nge_61, ngt_0, ngt_1, ngt_2, ngt_3, ngt_4, ngt_5, ngt_6, ngt_7, ngt_60, ngt_61, neq_0, neq_1, neq_2, neq_3, neq_4, neq_5, neq_6, neq_7, neq_60, neq_61, Nat.not_lt_zero, and_self, and_true, true_and, or_true, true_or, if_true, if_false, or_self, and_false, false_and, or_false, false_or, not_true_eq_false, not_false_eq_true, ne_eq, reduceCtorEq, eq_self, bind_s, c10, c01, c20, c30, c40, cl_0, inb_0, onI_l, onI_r, onV_l, onV_r, b_M_change_4, b_M_change_24, hn, z, Int32.add_zero, Nat.add_zero]
  · rw [if_neg z]
    simp (disch := omega) only [↓reduceIte, ↓wi_e, ↓wn_e, ↓rc_i, ↓rc_l, ↓h.q0, ↓h.q1, ↓h.q2, ↓h.qr, ↓h.qc, ↓h.qr2, ↓h.qr3, ↓h.qr4, ↓h.qr5, ↓h.qc5, ↓h.qt, ↓h.qt4, ↓h.qt5, ↓h.qt6, ↓h.qm2, ↓h.qm3, ↓h.qm4, ↓h.qm5, ↓h.qm6, ↓h.qm7, ↓h.qm8, ↓h.qm9, ↓h.qm10, ↓h.qm11, ↓h.qm12, ↓h.qm13, ↓h.qm14, ↓h.qm15, ↓h.qm16, ↓h.qm17, ↓h.qm18, ↓h.qm19, ↓h.qm20, ↓h.qm21, ↓h.qm22, ↓h.qm23, ↓h.qm24, h.lt, kd_0, kd_1, kd_2, kd_3, kd_r, kd_ra, kd_rb, kd_rc, kd_rd, ln_ra, ln_rb, ln_rc, ln_rd, kd_c, kd_ca, ln_ca, kd_t, kd_ta, kd_tb, kd_tc, ln_ta, ln_tb, ln_tc, ln_1, ln_2, ln_3, ln_51, kd_27, kd_28, kd_29, kd_30, kd_31, kd_32, kd_33, kd_34, kd_35, kd_36, kd_37, kd_38, kd_39, kd_40, kd_41, kd_42, kd_43, kd_44, kd_45, kd_46, kd_47, kd_48, kd_49, kd_50, kd_51, ln_28, ln_29, ln_30, ln_31, ln_32, ln_33, ln_34, ln_35, ln_36, ln_37, ln_38, ln_39, ln_40, ln_41, ln_42, ln_43, ln_44, ln_45, ln_46, ln_47, ln_48, ln_49, ln_50, inb_n, cl_n, g_n_s_i, g_n_s_l, mul_3, mul_4, mul_6, mul_61, nI_add, nI_1, nle_0, nle_1, nle_2, nle_3, nle_4, nle_5, nle_6, nle_7, nle_60, nle_61, nlt_0, nlt_1, nlt_2, nlt_3, nlt_4, nlt_5, nlt_6, nlt_7, nlt_60, nlt_61, nge_0, nge_1, nge_2, nge_3, nge_4, nge_5, nge_6, nge_7, nge_60, nge_61, ngt_0, ngt_1, ngt_2, ngt_3, ngt_4, ngt_5, ngt_6, ngt_7, ngt_60, ngt_61, neq_0, neq_1, neq_2, neq_3, neq_4, neq_5, neq_6, neq_7, neq_60, neq_61, Nat.not_lt_zero, and_self, and_true, true_and, or_true, true_or, if_true, if_false, or_self, and_false, false_and, or_false, false_or, not_true_eq_false, not_false_eq_true, ne_eq, reduceCtorEq, eq_self, bind_s, c10, c01, c20, c30, c40, cl_0, inb_0, onI_l, onI_r, onV_l, onV_r, b_M_change_4, b_M_change_24, hn, z]
theorem p_c4 {b : Nat} {σ : Sg} (h : SN b σ) {u : Nat → Int32} (hu : ∀ i, i < 3 → g_i σ 42 i = u i) : f_M_change σ 27 = b_M_change_43 σ 27 (nI (uc u)) 27 (if 2 ≤ uc u then 0 else 1) := by
  have lu := uc_le u
  show b_M_change_4 (999 + 1) σ 27 (nI 0) (nI 0) = _
  have E : b_M_change_4 (996 + 1) σ 27 (nI (uc u)) (nI (0 + 1 + 1 + 1)) = b_M_change_43 σ 27 (nI (uc u)) 27 (if 2 ≤ uc u then 0 else 1) := by
    generalize (996 : Nat) = n
    simp only [b_M_change_4]
    rw [if_pos (by decide)]
    by_cases z : 2 ≤ uc u
    · rw [if_pos z, if_pos (by rw [nle_2 (by omega)]; exact z)]
    · rw [if_neg z, if_neg (by rw [nle_2 (by omega)]; exact z)]
  rw [st_c4 h (n := 998 + 1) (by omega), st_c4 h (n := 997 + 1) (by omega), st_c4 h (n := 996 + 1) (by omega), hu 0 (by omega), hu (0 + 1) (by omega), hu (0 + 1 + 1) (by omega), Nat.zero_add]
  exact E
theorem c43_1 {b : Nat} {σ : Sg} (h : SN b σ) (x : Int32) : b_M_change_43 σ 27 x 27 1 = some (0, s_i σ 27 0 1) := by
  simp (disch := omega) only [↓reduceIte, ↓wi_e, ↓wn_e, ↓rc_i, ↓rc_l, ↓h.q0, ↓h.q1, ↓h.q2, ↓h.qr, ↓h.qc, ↓h.qr2, ↓h.qr3, ↓h.qr4, ↓h.qr5, ↓h.qc5, ↓h.qt, ↓h.qt4, ↓h.qt5, ↓h.qt6, ↓h.qm2, ↓h.qm3, ↓h.qm4, ↓h.qm5, ↓h.qm6, ↓h.qm7, ↓h.qm8, ↓h.qm9, ↓h.qm10, ↓h.qm11, ↓h.qm12, ↓h.qm13, ↓h.qm14, ↓h.qm15, ↓h.qm16, ↓h.qm17, ↓h.qm18, ↓h.qm19, ↓h.qm20, ↓h.qm21, ↓h.qm22, ↓h.qm23, ↓h.qm24, h.lt, kd_0, kd_1, kd_2, kd_3, kd_r, kd_ra, kd_rb, kd_rc, kd_rd, ln_ra, ln_rb, ln_rc, ln_rd, kd_c, kd_ca, ln_ca, kd_t, kd_ta, kd_tb, kd_tc, ln_ta, ln_tb, ln_tc, ln_1, ln_2, ln_3, ln_51, kd_27, kd_28, kd_29, kd_30, kd_31, kd_32, kd_33, kd_34, kd_35, kd_36, kd_37, kd_38, kd_39, kd_40, kd_41, kd_42, kd_43, kd_44, kd_45, kd_46, kd_47, kd_48, kd_49, kd_50, kd_51, ln_28, ln_29, ln_30, ln_31, ln_32, ln_33, ln_34, ln_35, ln_36, ln_37, ln_38, ln_39, ln_40, ln_41, ln_42, ln_43, ln_44, ln_45, ln_46, ln_47, ln_48, ln_49, ln_50, inb_n, cl_n, g_n_s_i, g_n_s_l, mul_3, mul_4, mul_6, mul_61, nI_add, nI_1, nle_0, nle_1, nle_2, nle_3, nle_4, nle_5, nle_6, nle_7, nle_60, nle_61, nlt_0, nlt_1, nlt_2, nlt_3, nlt_4, nlt_5, nlt_6, nlt_7, nlt_60, nlt_61, nge_0, nge_1, nge_2, nge_3, nge_4, nge_5, nge_6, nge_7, nge_60, nge_61, ngt_0, ngt_1, ngt_2, ngt_3, ngt_4, ngt_5, ngt_6, ngt_7, ngt_60, ngt_61, neq_0, neq_1, neq_2, neq_3, neq_4, neq_5, neq_6, neq_7, neq_60, neq_61, Nat.not_lt_zero, and_self, and_true, true_and, or_true, true_or, if_true, if_false, or_self, and_false, false_and, or_false, false_or, not_true_eq_false, not_false_eq_true, ne_eq, reduceCtorEq, eq_self, bind_s, c10, c01, c20, c30, c40, cl_0, inb_0, onI_l, onI_r, onV_l, onV_r, b_M_change_43, ↓bq (p_says h _)]
theorem c43_0 {b : Nat} {σ : Sg} (h : SN b σ) (x : Int32) : b_M_change_43 σ 27 x 27 0 = b_M_change_60 1000 (s_i σ 27 0 0) 27 x (mgv σ + 1) 1 := by
  have mg : mgv (s_i σ 27 0 0) = mgv σ := by
    unfold mgv
    simp (disch := omega) only [gi_n]
  have pg := p_mgv (σ := s_i σ 27 0 0) h
  rw [mg] at pg
  rw [b_M_change_43, if_pos ⟨by rw [h.1]; omega, rfl⟩, bq (p_says h _)]
  dsimp only
  simp (disch := omega) only [↓reduceIte, ↓wi_e, ↓wn_e, ↓rc_i, ↓rc_l, ↓h.q0, ↓h.q1, ↓h.q2, ↓h.qr, ↓h.qc, ↓h.qr2, ↓h.qr3, ↓h.qr4, ↓h.qr5, ↓h.qc5, ↓h.qt, ↓h.qt4, ↓h.qt5, ↓h.qt6, ↓h.qm2, ↓h.qm3, ↓h.qm4, ↓h.qm5, ↓h.qm6, ↓h.qm7, ↓h.qm8, ↓h.qm9, ↓h.qm10, ↓h.qm11, ↓h.qm12, ↓h.qm13, ↓h.qm14, ↓h.qm15, ↓h.qm16, ↓h.qm17, ↓h.qm18, ↓h.qm19, ↓h.qm20, ↓h.qm21, ↓h.qm22, ↓h.qm23, ↓h.qm24, h.lt, kd_0, kd_1, kd_2, kd_3, kd_r, kd_ra, kd_rb, kd_rc, kd_rd, ln_ra, ln_rb, ln_rc, ln_rd, kd_c, kd_ca, ln_ca, kd_t, kd_ta, kd_tb, kd_tc, ln_ta, ln_tb, ln_tc, ln_1, ln_2, ln_3, ln_51, kd_27, kd_28, kd_29, kd_30, kd_31, kd_32, kd_33, kd_34, kd_35, kd_36, kd_37, kd_38, kd_39, kd_40, kd_41, kd_42, kd_43, kd_44, kd_45, kd_46, kd_47, kd_48, kd_49, kd_50, kd_51, ln_28, ln_29, ln_30, ln_31, ln_32, ln_33, ln_34, ln_35, ln_36, ln_37, ln_38, ln_39, ln_40, ln_41, ln_42, ln_43, ln_44, ln_45, ln_46, ln_47, ln_48, ln_49, ln_50, inb_n, cl_n, g_n_s_i, g_n_s_l, mul_3, mul_4, mul_6, mul_61, nI_add, nI_1, nle_0, nle_1, nle_2, nle_3, nle_4, nle_5, nle_6, nle_7, nle_60, nle_61, nlt_0, nlt_1, nlt_2, nlt_3, nlt_4, nlt_5, nlt_6, nlt_7, nlt_60, nlt_61, nge_0, nge_1, nge_2, nge_3, nge_4, nge_5, nge_6, nge_7, nge_60, nge_61, ngt_0, ngt_1, ngt_2, ngt_3, ngt_4, ngt_5, ngt_6, ngt_7, ngt_60, ngt_61, neq_0, neq_1, neq_2, neq_3, neq_4, neq_5, neq_6, neq_7, neq_60, neq_61, Nat.not_lt_zero, and_self, and_true, true_and, or_true, true_or, if_true, if_false, or_self, and_false, false_and, or_false, false_or, not_true_eq_false, not_false_eq_true, ne_eq, reduceCtorEq, eq_self, bind_s, c10, c01, c20, c30, c40, cl_0, inb_0, onI_l, onI_r, onV_l, onV_r, ↓bq pg]

