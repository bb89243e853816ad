/-! change: the reference's loops. -/
/-- versions and last reads while the reference merges -/
def Jv (u : Nat → Int32) (p x l : Nat → Nat → Int32) (Mx Vx Lx : Nat → Int32) (Z : Sg) : Prop := ∀ i, i < 3 → ∀ k, k < 6 → (u i = 0 → g_i Z 44 (6 * i + k) = p k i ∧ g_i Z 45 (6 * i + k) = x k i ∧ g_i Z 46 (6 * i + k) = l k i) ∧ (u i ≠ 0 → p k i ≤ g_i Z 44 (6 * i + k) ∧ g_i Z 44 (6 * i + k) ≤ Mx k ∧ (g_i Z 44 (6 * i + k) = Mx k → g_i Z 45 (6 * i + k) = Vx k) ∧ l k i ≤ g_i Z 46 (6 * i + k) ∧ g_i Z 46 (6 * i + k) ≤ Lx k)
theorem lp_mm {b : Nat} {u v : Nat → Int32} {S F A D p x l : Nat → Nat → Int32} {Mx Vx Lx st : Nat → Int32} {W M cW cM : Nat → Nat} {V : Nat → Nat → Int32} (nx : Int32) (hb : b ≤ 60)
    (hp0 : ∀ i, i < 3 → ∀ k, k < 6 → 0 ≤ p k i)
    (hq : ∀ q, 1 ≤ q → q ≤ b → ∀ i, i < 3 → (F q i ≠ 0 → 0 ≤ S q i) ∧ (A q i = 0 ∨ A q i = 1) ∧ (A q i ≠ 0 ∨ D q i ≠ 0 → 0 ≤ S q i))
    (hst : ∀ q, 1 ≤ q → q ≤ b → HA u (A q) → ∀ k, k < 6 → ((W q).testBit k = true → st q ≤ Mx k ∧ (0 < st q → st q = Mx k → V q k = Vx k)) ∧ ((M q).testBit k = true → st q ≤ Lx k)) :
    ∀ e n t (Z : Sg), e + t = b + 1 → e < n → 1 ≤ t → SN b Z → g_i Z 27 1 = nI b → (∀ i, i < 3 → g_i Z 42 i = u i ∧ g_i Z 43 i = v i) → (∀ q, 1 ≤ q → q ≤ b → g_i Z 28 q = st q ∧ Lw Z q (W q) (cW q) (V q) ∧ Lr Z q (M q) (cM q)) → (∀ i, i < 3 → ∀ q, t ≤ q → q ≤ b → g_i Z 47 (61 * i + q) = S q i ∧ g_i Z 48 (61 * i + q) = F q i ∧ g_i Z 49 (61 * i + q) = A q i ∧ g_i Z 50 (61 * i + q) = D q i) → Jv u p x l Mx Vx Lx Z →
    ∃ Z', b_M_change_60 n Z 27 (nI (uc u)) nx (nI t) = b_M_change_91 1000 Z' 27 nx 0 ∧ SN b Z' ∧ (∀ a y, g_r Z' a y = g_r Z a y ∧ g_l Z' a y = g_l Z a y) ∧ (∀ a y, (a < 44 ∨ 50 < a) ∨ (46 < a ∧ a < 51 ∧ ∀ i, i < 3 → ∀ q, t ≤ q → q ≤ b → y ≠ 61 * i + q) → g_i Z' a y = g_i Z a y) ∧ Jv u p x l Mx Vx Lx Z' ∧ ∀ q, t ≤ q → q ≤ b → ∀ i, i < 3 → Oc u v (S q) (F q) (A q) (D q) (nvF u v) i (g_i Z' 47 (61 * i + q)) (g_i Z' 48 (61 * i + q)) (g_i Z' 49 (61 * i + q)) (g_i Z' 50 (61 * i + q)) := by
  intro e
  induction e with
  | zero =>
    intro n t Z he hn ht h hm hu hl hQ hJ
    obtain ⟨n, rfl⟩ : ∃ q, n = q + 1 := ⟨n - 1, by omega⟩
    obtain rfl : t = b + 1 := by omega
    have l1 : b < b + 1 := by omega
    refine ⟨Z, ?_, h, fun _ _ => ⟨rfl, rfl⟩, fun _ _ _ => rfl, hJ, fun q h1 h2 => absurd h2 (by omega)⟩
    simp (disch := omega) only [↓reduceIte, ↓wi_e, ↓wn_e, ↓rc_i, ↓rc_l, ↓h.q0, ↓h.q1, ↓h.q2, ↓h.qr, ↓h.qc, ↓h.qr2, ↓h.qr3, ↓h.qr4, ↓h.qr5, ↓h.qc5, ↓h.qt, ↓h.qt4, ↓h.qt5, ↓h.qt6, ↓h.qm2, ↓h.qm3, ↓h.qm4, ↓h.qm5, ↓h.qm6, ↓h.qm7, ↓h.qm8, ↓h.qm9, ↓h.qm10, ↓h.qm11, ↓h.qm12, ↓h.qm13, ↓h.qm14, ↓h.qm15, ↓h.qm16, ↓h.qm17, ↓h.qm18, ↓h.qm19, ↓h.qm20, ↓h.qm21, ↓h.qm22, ↓h.qm23, ↓h.qm24, h.lt, kd_0, kd_1, kd_2, kd_3, kd_r, kd_ra, kd_rb, kd_rc, kd_rd, ln_ra, ln_rb, ln_rc, ln_rd, kd_c, kd_ca, ln_ca, kd_t, kd_ta, kd_tb, kd_tc, ln_ta, ln_tb, ln_tc, ln_1, ln_2, ln_3, ln_51, kd_27, kd_28, kd_29, kd_30, kd_31, kd_32, kd_33, kd_34, kd_35, kd_36, kd_37, kd_38, kd_39, kd_40, kd_41, kd_42, kd_43, kd_44, kd_45, kd_46, kd_47, kd_48, kd_49, kd_50, kd_51, ln_28, ln_29, ln_30, ln_31, ln_32, ln_33, ln_34, ln_35, ln_36, ln_37, ln_38, ln_39, ln_40, ln_41, ln_42, ln_43, ln_44, ln_45, ln_46, ln_47, ln_48, ln_49, ln_50, inb_n, cl_n, g_n_s_i, g_n_s_l, mul_3, mul_4, mul_6, mul_61, nI_add, nI_1, nle_0, nle_1, nle_2, nle_3, nle_4, nle_5, nle_6, nle_7, nle_60, nle_61, nlt_0, nlt_1, nlt_2, nlt_3, nlt_4, nlt_5, nlt_6, nlt_7, nlt_60, nlt_61, nge_0, nge_1, nge_2, nge_3, nge_4, nge_5, nge_6, nge_7, nge_60, nge_61, ngt_0, ngt_1, ngt_2, ngt_3, ngt_4, ngt_5, ngt_6, ngt_7, ngt_60, ngt_61, neq_0, neq_1, neq_2, neq_3, neq_4, neq_5, neq_6, neq_7, neq_60, neq_61, Nat.not_lt_zero, and_self, and_true, true_and, or_true, true_or, if_true, if_false, or_self, and_false, false_and, or_false, false_or, not_true_eq_false, not_false_eq_true, ne_eq, reduceCtorEq, eq_self, bind_s, c10, c01, c20, c30, c40, cl_0, inb_0, onI_l, onI_r, onV_l, onV_r, b_M_change_60, hm, nlt, l1]
  | succ e ih =>
    intro n t Z he hn ht h hm hu hl hQ hJ
    obtain ⟨n, rfl⟩ : ∃ q, n = q + 1 := ⟨n - 1, by omega⟩
    have hbt : ¬ b < t := by omega
    have H : HM Z t u v (S t) (F t) (A t) (D t) := fun i hi => ⟨(hu i hi).1, (hu i hi).2, hQ i hi t (by omega) (by omega)⟩
    have pr := p_rc h (t := t) (by omega) H (-1)
    have rl := rc_le u (S t) (-1)
    have rk := rcF_k u (S t)
    -- one turn
    obtain ⟨Z1, e1, s1, G1, O1, J1⟩ : ∃ Z1, b_M_change_60 (n + 1) Z 27 (nI (uc u)) nx (nI t) = b_M_change_60 n Z1 27 (nI (uc u)) nx (nI (t + 1)) ∧ SN b Z1 ∧ Gm Z Z1 t ∧ (∀ i, i < 3 → Oc u v (S t) (F t) (A t) (D t) (nvF u v) i (g_i Z1 47 (61 * i + t)) (g_i Z1 48 (61 * i + t)) (g_i Z1 49 (61 * i + t)) (g_i Z1 50 (61 * i + t))) ∧ Jv u p x l Mx Vx Lx Z1 := by
      by_cases kn : KN u (S t)
      · have z : ¬ rcF u (S t) (-1) ≤ 0 := fun y => (rk.mp y) kn
        obtain ⟨l1, l2, l3⟩ := hl t ht (by omega)
        obtain ⟨Z1, e1, s1, G1, O1, V1⟩ := p_mmerge h (t := t) (by omega) H (fun i hi => (hq t ht (by omega) i hi).1) (fun i hi => (hq t ht (by omega) i hi).2.1) l2 l3 (Or.inl kn) kn
        refine ⟨Z1, ?_, s1, G1, O1, ?_⟩
        · simp (disch := omega) only [↓reduceIte, ↓wi_e, ↓wn_e, ↓rc_i, ↓rc_l, ↓h.q0, ↓h.q1, ↓h.q2, ↓h.qr, ↓h.qc, ↓h.qr2, ↓h.qr3, ↓h.qr4, ↓h.qr5, ↓h.qc5, ↓h.qt, ↓h.qt4, ↓h.qt5, ↓h.qt6, ↓h.qm2, ↓h.qm3, ↓h.qm4, ↓h.qm5, ↓h.qm6, ↓h.qm7, ↓h.qm8, ↓h.qm9, ↓h.qm10, ↓h.qm11, ↓h.qm12, ↓h.qm13, ↓h.qm14, ↓h.qm15, ↓h.qm16, ↓h.qm17, ↓h.qm18, ↓h.qm19, ↓h.qm20, ↓h.qm21, ↓h.qm22, ↓h.qm23, ↓h.qm24, h.lt, kd_0, kd_1, kd_2, kd_3, kd_r, kd_ra, kd_rb, kd_rc, kd_rd, ln_ra, ln_rb, ln_rc, ln_rd, kd_c, kd_ca, ln_ca, kd_t, kd_ta, kd_tb, kd_tc, ln_ta, ln_tb, ln_tc, ln_1, ln_2, ln_3, ln_51, kd_27, kd_28, kd_29, kd_30, kd_31, kd_32, kd_33, kd_34, kd_35, kd_36, kd_37, kd_38, kd_39, kd_40, kd_41, kd_42, kd_43, kd_44, kd_45, kd_46, kd_47, kd_48, kd_49, kd_50, kd_51, ln_28, ln_29, ln_30, ln_31, ln_32, ln_33, ln_34, ln_35, ln_36, ln_37, ln_38, ln_39, ln_40, ln_41, ln_42, ln_43, ln_44, ln_45, ln_46, ln_47, ln_48, ln_49, ln_50, inb_n, cl_n, g_n_s_i, g_n_s_l, mul_3, mul_4, mul_6, mul_61, nI_add, nI_1, nle_0, nle_1, nle_2, nle_3, nle_4, nle_5, nle_6, nle_7, nle_60, nle_61, nlt_0, nlt_1, nlt_2, nlt_3, nlt_4, nlt_5, nlt_6, nlt_7, nlt_60, nlt_61, nge_0, nge_1, nge_2, nge_3, nge_4, nge_5, nge_6, nge_7, nge_60, nge_61, ngt_0, ngt_1, ngt_2, ngt_3, ngt_4, ngt_5, ngt_6, ngt_7, ngt_60, ngt_61, neq_0, neq_1, neq_2, neq_3, neq_4, neq_5, neq_6, neq_7, neq_60, neq_61, Nat.not_lt_zero, and_self, and_true, true_and, or_true, true_or, if_true, if_false, or_self, and_false, false_and, or_false, false_or, not_true_eq_false, not_false_eq_true, ne_eq, reduceCtorEq, eq_self, bind_s, c10, c01, c20, c30, c40, cl_0, inb_0, onI_l, onI_r, onV_l, onV_r, b_M_change_60, b_M_change_83, hm, nlt, hbt, ↓bq pr, z, ↓bq e1]
        · intro i hi k hk
          obtain ⟨j1, j2⟩ := hJ i hi k hk
          obtain ⟨v1, v2⟩ := V1 i hi
          refine ⟨fun y => ?_, fun y => ?_⟩
          · obtain ⟨w1, w2, w3⟩ := v1 (Or.inl y) k hk
            rw [w1, w2, w3]
            exact j1 y
          · obtain ⟨c1, c2, c3, c4, c5⟩ := j2 y
            by_cases ha : HA u (A t)
            · obtain ⟨w1, w2⟩ := v2 y ha k hk
              rw [l1] at w1 w2
              obtain ⟨t1, t2⟩ := hst t ht (by omega) ha k hk
              have a1 : p k i ≤ g_i Z1 44 (6 * i + k) ∧ g_i Z1 44 (6 * i + k) ≤ Mx k ∧ (g_i Z1 44 (6 * i + k) = Mx k → g_i Z1 45 (6 * i + k) = Vx k) := by
                rcases w1 with ⟨w, w'⟩ | ⟨y1, y2, y3, y4⟩
                · rw [w, w']
                  exact ⟨c1, c2, c3⟩
                · rw [y3, y4]
                  have pos : 0 < st t := Int32.lt_of_le_of_lt (Int32.le_trans (hp0 i hi k hk) c1) y2
                  exact ⟨Int32.le_of_lt (Int32.lt_of_le_of_lt c1 y2), (t1 y1).1, fun z => (t1 y1).2 pos z⟩
              have a2 : l k i ≤ g_i Z1 46 (6 * i + k) ∧ g_i Z1 46 (6 * i + k) ≤ Lx k := by
                rcases w2 with w | ⟨y1, y2⟩
                · rw [w]
                  exact ⟨c4, c5⟩
                · rw [y2]
                  refine ⟨Int32.le_trans c4 (mx_l _ _), ?_⟩
                  unfold mx
                  split
                  · exact t2 y1
                  · exact c5
              exact ⟨a1.1, a1.2.1, a1.2.2, a2.1, a2.2⟩
            · obtain ⟨w1, w2, w3⟩ := v1 (Or.inr ha) k hk
              rw [w1, w2, w3]
              exact ⟨c1, c2, c3, c4, c5⟩
      · have z : rcF u (S t) (-1) ≤ 0 := rk.mpr kn
        refine ⟨Z, ?_, h, ⟨fun _ _ => ⟨rfl, rfl⟩, fun _ _ _ => rfl⟩, fun i hi => ?_, hJ⟩
        · simp (disch := omega) only [↓reduceIte, ↓wi_e, ↓wn_e, ↓rc_i, ↓rc_l, ↓h.q0, ↓h.q1, ↓h.q2, ↓h.qr, ↓h.qc, ↓h.qr2, ↓h.qr3, ↓h.qr4, ↓h.qr5, ↓h.qc5, ↓h.qt, ↓h.qt4, ↓h.qt5, ↓h.qt6, ↓h.qm2, ↓h.qm3, ↓h.qm4, ↓h.qm5, ↓h.qm6, ↓h.qm7, ↓h.qm8, ↓h.qm9, ↓h.qm10, ↓h.qm11, ↓h.qm12, ↓h.qm13, ↓h.qm14, ↓h.qm15, ↓h.qm16, ↓h.qm17, ↓h.qm18, ↓h.qm19, ↓h.qm20, ↓h.qm21, ↓h.qm22, ↓h.qm23, ↓h.qm24, h.lt, kd_0, kd_1, kd_2, kd_3, kd_r, kd_ra, kd_rb, kd_rc, kd_rd, ln_ra, ln_rb, ln_rc, ln_rd, kd_c, kd_ca, ln_ca, kd_t, kd_ta, kd_tb, kd_tc, ln_ta, ln_tb, ln_tc, ln_1, ln_2, ln_3, ln_51, kd_27, kd_28, kd_29, kd_30, kd_31, kd_32, kd_33, kd_34, kd_35, kd_36, kd_37, kd_38, kd_39, kd_40, kd_41, kd_42, kd_43, kd_44, kd_45, kd_46, kd_47, kd_48, kd_49, kd_50, kd_51, ln_28, ln_29, ln_30, ln_31, ln_32, ln_33, ln_34, ln_35, ln_36, ln_37, ln_38, ln_39, ln_40, ln_41, ln_42, ln_43, ln_44, ln_45, ln_46, ln_47, ln_48, ln_49, ln_50, inb_n, cl_n, g_n_s_i, g_n_s_l, mul_3, mul_4, mul_6, mul_61, nI_add, nI_1, nle_0, nle_1, nle_2, nle_3, nle_4, nle_5, nle_6, nle_7, nle_60, nle_61, nlt_0, nlt_1, nlt_2, nlt_3, nlt_4, nlt_5, nlt_6, nlt_7, nlt_60, nlt_61, nge_0, nge_1, nge_2, nge_3, nge_4, nge_5, nge_6, nge_7, nge_60, nge_61, ngt_0, ngt_1, ngt_2, ngt_3, ngt_4, ngt_5, ngt_6, ngt_7, ngt_60, ngt_61, neq_0, neq_1, neq_2, neq_3, neq_4, neq_5, neq_6, neq_7, neq_60, neq_61, Nat.not_lt_zero, and_self, and_true, true_and, or_true, true_or, if_true, if_false, or_self, and_false, false_and, or_false, false_or, not_true_eq_false, not_false_eq_true, ne_eq, reduceCtorEq, eq_self, bind_s, c10, c01, c20, c30, c40, cl_0, inb_0, onI_l, onI_r, onV_l, onV_r, b_M_change_60, b_M_change_83, hm, nlt, hbt, ↓bq pr, z]
        · obtain ⟨_, _, h3, h4, h5, h6⟩ := H i hi
          have na : ¬ HA u (A t) := by
            rintro ⟨j, _, hj, y1, y2⟩
            exact kn ⟨j, by omega, hj, y1, (hq t ht (by omega) j hj).2.2 (Or.inl y2)⟩
          have nd : ¬ HA u (D t) := by
            rintro ⟨j, _, hj, y1, y2⟩
            exact kn ⟨j, by omega, hj, y1, (hq t ht (by omega) j hj).2.2 (Or.inr y2)⟩
          exact ⟨fun _ => ⟨h3, h4, h5, h6⟩, fun _ y => absurd y na, fun _ _ y => absurd y nd, fun _ _ _ y => absurd y kn, fun _ _ _ _ => ⟨h3, h4, h5, h6⟩⟩
    obtain ⟨Z2, e2, s2, r2, F2, J2, O2⟩ := ih n (t + 1) Z1 (by omega) (by omega) (by omega) s1 (by rw [G1.2 _ _ (by omega)]; exact hm) (by
      intro i hi
      rw [G1.2 _ _ (by omega), G1.2 _ _ (by omega)]
      exact hu i hi) (by
      intro q h1 h2
      obtain ⟨l1, l2, l3⟩ := hl q h1 h2
      exact ⟨by rw [G1.2 _ _ (by omega)]; exact l1, l2.cg (fun a x h1 h2 => G1.2 _ _ (by omega)), l3.cg (fun a x h1 h2 => G1.2 _ _ (by omega))⟩) (by
      intro i hi q h1 h2
      rw [G1.2 _ _ (by omega), G1.2 _ _ (by omega), G1.2 _ _ (by omega), G1.2 _ _ (by omega)]
      exact hQ i hi q (by omega) h2) J1
    refine ⟨Z2, e1.trans e2, s2, fun a y => ?_, fun a y q => ?_, J2, fun q h1 h2 i hi => ?_⟩
    · rw [(r2 a y).1, (r2 a y).2]
      exact G1.1 a y
    · rcases q with q | ⟨q1, q2, q3⟩
      · rw [F2 _ _ (Or.inl q), G1.2 _ _ (Or.inl q)]
      · have y0 := q3 0 (by omega) t (by omega) (by omega)
        have y1 := q3 1 (by omega) t (by omega) (by omega)
        have y2 := q3 2 (by omega) t (by omega) (by omega)
        rw [F2 _ _ (Or.inr ⟨q1, q2, fun i hi q h1 h2 => q3 i hi q (by omega) h2⟩), G1.2 _ _ (by omega)]
    · by_cases z : q = t
      · subst z
        have fr : ∀ a, 46 < a → a < 51 → g_i Z2 a (61 * i + q) = g_i Z1 a (61 * i + q) := by
          intro a h1 h2
          refine F2 _ _ (Or.inr ⟨h1, h2, fun j hj q' h3 h4 => ?_⟩)
          omega
        rw [fr 47 (by omega) (by omega), fr 48 (by omega) (by omega), fr 49 (by omega) (by omega), fr 50 (by omega) (by omega)]
        exact O1 i hi
      · exact O2 q (by omega) h2 i hi
def fuF (u : Nat → Int32) : Nat := if u 0 = 0 then (if u 1 = 0 then 2 else 1) else 0
def bS (u p : Nat → Int32) (i B : Nat) : Nat := if u i = 0 then B else if p i ≤ p B then B else i
def bsF (u p : Nat → Int32) : Nat := bS u p 2 (bS u p 1 (bS u p 0 (fuF u)))
theorem bsF_p {u p : Nat → Int32} (hu : u 0 ≠ 0 ∨ u 1 ≠ 0 ∨ u 2 ≠ 0) : bsF u p < 3 ∧ u (bsF u p) ≠ 0 ∧ ∀ i, i < 3 → u i ≠ 0 → p i ≤ p (bsF u p) := by
  have all : ∀ B, B < 3 → u B ≠ 0 → (p 0 ≤ p B ∨ u 0 = 0) → (p 1 ≤ p B ∨ u 1 = 0) → (p 2 ≤ p B ∨ u 2 = 0) → B < 3 ∧ u B ≠ 0 ∧ ∀ i, i < 3 → u i ≠ 0 → p i ≤ p B := by
    intro B hB hu h0 h1 h2
    refine ⟨hB, hu, fun i hi z => ?_⟩
    obtain rfl | rfl | rfl : i = 0 ∨ i = 1 ∨ i = 2 := by omega
    · exact h0.resolve_right z
    · exact h1.resolve_right z
    · exact h2.resolve_right z
  unfold bsF bS fuF
  by_cases z0 : u 0 = 0
  · by_cases z1 : u 1 = 0
    · have z2 : u 2 ≠ 0 := by grind
      simp only [if_pos z0, if_pos z1, if_neg z2]
      rw [ite_self]
      exact all 2 (by omega) z2 (Or.inr z0) (Or.inr z1) (Or.inl (Int32.le_refl _))
    · simp only [if_pos z0, if_neg z1, ite_self]
      by_cases z2 : u 2 = 0
      · simp only [if_pos z2]
        exact all 1 (by omega) z1 (Or.inr z0) (Or.inl (Int32.le_refl _)) (Or.inr z2)
      · simp only [if_neg z2]
        by_cases y : p 2 ≤ p 1
        · rw [if_pos y]
          exact all 1 (by omega) z1 (Or.inr z0) (Or.inl (Int32.le_refl _)) (Or.inl y)
        · rw [if_neg y]
          exact all 2 (by omega) z2 (Or.inr z0) (Or.inl (by grind)) (Or.inl (Int32.le_refl _))
  · simp only [if_neg z0, ite_self]
    by_cases z1 : u 1 = 0
    · simp only [if_pos z1]
      by_cases z2 : u 2 = 0
      · simp only [if_pos z2]
        exact all 0 (by omega) z0 (Or.inl (Int32.le_refl _)) (Or.inr z1) (Or.inr z2)
      · simp only [if_neg z2]
        by_cases y : p 2 ≤ p 0
        · rw [if_pos y]
          exact all 0 (by omega) z0 (Or.inl (Int32.le_refl _)) (Or.inr z1) (Or.inl y)
        · rw [if_neg y]
          exact all 2 (by omega) z2 (Or.inl (by grind)) (Or.inr z1) (Or.inl (Int32.le_refl _))
    · simp only [if_neg z1]
      by_cases x : p 1 ≤ p 0
      · simp only [if_pos x]
        by_cases z2 : u 2 = 0
        · simp only [if_pos z2]
          exact all 0 (by omega) z0 (Or.inl (Int32.le_refl _)) (Or.inl x) (Or.inr z2)
        · simp only [if_neg z2]
          by_cases y : p 2 ≤ p 0
          · rw [if_pos y]
            exact all 0 (by omega) z0 (Or.inl (Int32.le_refl _)) (Or.inl x) (Or.inl y)
          · rw [if_neg y]
            exact all 2 (by omega) z2 (Or.inl (by grind)) (Or.inl (by grind)) (Or.inl (Int32.le_refl _))
      · simp only [if_neg x]
        by_cases z2 : u 2 = 0
        · simp only [if_pos z2]
          exact all 1 (by omega) z1 (Or.inl (by grind)) (Or.inl (Int32.le_refl _)) (Or.inr z2)
        · simp only [if_neg z2]
          by_cases y : p 2 ≤ p 1
          · rw [if_pos y]
            exact all 1 (by omega) z1 (Or.inl (by grind)) (Or.inl (Int32.le_refl _)) (Or.inl y)
          · rw [if_neg y]
            exact all 2 (by omega) z2 (Or.inl (by grind)) (Or.inl (by grind)) (Or.inl (Int32.le_refl _))
theorem bsF_3 (u p : Nat → Int32) : bsF u p < 3 ∧ bS u p 1 (bS u p 0 (fuF u)) < 3 ∧ bS u p 0 (fuF u) < 3 ∧ fuF u < 3 := by
  have a : fuF u < 3 := by unfold fuF; grind
  have s : ∀ i B, i < 3 → B < 3 → bS u p i B < 3 := by
    intro i B h1 h2
    unfold bS
    grind
  have b := s 0 _ (by omega) a
  have c := s 1 _ (by omega) b
  exact ⟨s 2 _ (by omega) c, c, b, a⟩
theorem p_fu {b : Nat} {σ : Sg} (h : SN b σ) {u : Nat → Int32} (hu : ∀ i, i < 3 → g_i σ 42 i = u i) : f_M_firstUp σ 27 = some (nI (fuF u)) := by
  have u0 := hu 0 (by omega)
  have u1 := hu 1 (by omega)
  have i0 : inb (0 : Int32) 3 = true := rfl
  have i1 : inb (1 : Int32) 3 = true := rfl
  have c1 : (1 : Int32).toNatClampNeg = 1 := rfl
  simp (disch := omega) only [↓reduceIte, ↓wi_e, ↓wn_e, ↓rc_i, ↓rc_l, ↓h.q0, ↓h.q1, ↓h.q2, ↓h.qr, ↓h.qc, ↓h.qr2, ↓h.qr3, ↓h.qr4, ↓h.qr5, ↓h.qc5, ↓h.qt, ↓h.qt4, ↓h.qt5, ↓h.qt6, ↓h.qm2, ↓h.qm3, ↓h.qm4, ↓h.qm5, ↓h.qm6, ↓h.qm7, ↓h.qm8, ↓h.qm9, ↓h.qm10, ↓h.qm11, ↓h.qm12, ↓h.qm13, ↓h.qm14, ↓h.qm15, ↓h.qm16, ↓h.qm17, ↓h.qm18, ↓h.qm19, ↓h.qm20, ↓h.qm21, ↓h.qm22, ↓h.qm23, ↓h.qm24, h.lt, kd_0, kd_1, kd_2, kd_3, kd_r, kd_ra, kd_rb, kd_rc, kd_rd, ln_ra, ln_rb, ln_rc, ln_rd, kd_c, kd_ca, ln_ca, kd_t, kd_ta, kd_tb, kd_tc, ln_ta, ln_tb, ln_tc, ln_1, ln_2, ln_3, ln_51, kd_27, kd_28, kd_29, kd_30, kd_31, kd_32, kd_33, kd_34, kd_35, kd_36, kd_37, kd_38, kd_39, kd_40, kd_41, kd_42, kd_43, kd_44, kd_45, kd_46, kd_47, kd_48, kd_49, kd_50, kd_51, ln_28, ln_29, ln_30, ln_31, ln_32, ln_33, ln_34, ln_35, ln_36, ln_37, ln_38, ln_39, ln_40, ln_41, ln_42, ln_43, ln_44, ln_45, ln_46, ln_47, ln_48, ln_49, ln_50, inb_n, cl_n, g_n_s_i, g_n_s_l, mul_3, mul_4, mul_6, mul_61, nI_add, nI_1, nle_0, nle_1, nle_2, nle_3, nle_4, nle_5, nle_6, nle_7, nle_60, nle_61, nlt_0, nlt_1, nlt_2, nlt_3, nlt_4, nlt_5, nlt_6, nlt_7, nlt_60, nlt_61, nge_0, nge_1, nge_2, nge_3, nge_4, nge_5, nge_6, nge_7, nge_60, nge_61, ngt_0, ngt_1, ngt_2, ngt_3, ngt_4, ngt_5, ngt_6, ngt_7, ngt_60, ngt_61, neq_0, neq_1, neq_2, neq_3, neq_4, neq_5, neq_6, neq_7, neq_60, neq_61, Nat.not_lt_zero, and_self, and_true, true_and, or_true, true_or, if_true, if_false, or_self, and_false, false_and, or_false, false_or, not_true_eq_false, not_false_eq_true, ne_eq, reduceCtorEq, eq_self, bind_s, c10, c01, c20, c30, c40, cl_0, inb_0, onI_l, onI_r, onV_l, onV_r, f_M_firstUp, b_M_firstUp_27, i0, i1, c1, u0, u1]
  unfold fuF
  split
  · split
    · rfl
    · rfl
  · rfl
theorem st_mk10 {b : Nat} {σ : Sg} (h : SN b σ) {n i k B : Nat} (hi : i < 3) (hk : k < 6) (hB : B < 3) (r : Int32) : b_M_mergeKey_10 (n + 1) σ 27 (nI k) (nI B) r (nI i) = b_M_mergeKey_10 n σ 27 (nI k) (nI (if g_i σ 42 i = 0 then B else if g_i σ 44 (6 * i + k) ≤ g_i σ 44 (6 * B + k) then B else i)) (mu (g_i σ 42 i) (g_i σ 46 (6 * i + k)) r) (nI (i + 1)) := by
  have hn : ¬ 3 ≤ i := by omega
  have s58 : ∀ B', b_M_mergeKey_58 (b_M_mergeKey_10 n) σ 27 (nI k) (nI B') r (nI i) = b_M_mergeKey_10 n σ 27 (nI k) (nI B') (mx r (g_i σ 46 (6 * i + k))) (nI (i + 1)) := by
    intro B'
    unfold mx
    by_cases y : g_i σ 46 (6 * i + k) ≤ r
    · rw [if_neg (by grind)]
      simp (disch := omega) only [↓reduceIte, ↓wi_e, ↓wn_e, ↓rc_i, ↓rc_l, ↓h.q0, ↓h.q1, ↓h.q2, ↓h.qr, ↓h.qc, ↓h.qr2, ↓h.qr3, ↓h.qr4, ↓h.qr5, ↓h.qc5, ↓h.qt, ↓h.qt4, ↓h.qt5, ↓h.qt6, ↓h.qm2, ↓h.qm3, ↓h.qm4, ↓h.qm5, ↓h.qm6, ↓h.qm7, ↓h.qm8, ↓h.qm9, ↓h.qm10, ↓h.qm11, ↓h.qm12, ↓h.qm13, ↓h.qm14, ↓h.qm15, ↓h.qm16, ↓h.qm17, ↓h.qm18, ↓h.qm19, ↓h.qm20, ↓h.qm21, ↓h.qm22, ↓h.qm23, ↓h.qm24, h.lt, kd_0, kd_1, kd_2, kd_3, kd_r, kd_ra, kd_rb, kd_rc, kd_rd, ln_ra, ln_rb, ln_rc, ln_rd, kd_c, kd_ca, ln_ca, kd_t, kd_ta, kd_tb, kd_tc, ln_ta, ln_tb, ln_tc, ln_1, ln_2, ln_3, ln_51, kd_27, kd_28, kd_29, kd_30, kd_31, kd_32, kd_33, kd_34, kd_35, kd_36, kd_37, kd_38, kd_39, kd_40, kd_41, kd_42, kd_43, kd_44, kd_45, kd_46, kd_47, kd_48, kd_49, kd_50, kd_51, ln_28, ln_29, ln_30, ln_31, ln_32, ln_33, ln_34, ln_35, ln_36, ln_37, ln_38, ln_39, ln_40, ln_41, ln_42, ln_43, ln_44, ln_45, ln_46, ln_47, ln_48, ln_49, ln_50, inb_n, cl_n, g_n_s_i, g_n_s_l, mul_3, mul_4, mul_6, mul_61, nI_add, nI_1, nle_0, nle_1, nle_2, nle_3, nle_4, nle_5, nle_6, nle_7, nle_60, nle_61, nlt_0, nlt_1, nlt_2, nlt_3, nlt_4, nlt_5, nlt_6, nlt_7, nlt_60, nlt_61, nge_0, nge_1, nge_2, nge_3, nge_4, nge_5, nge_6, nge_7, nge_60, nge_61, ngt_0, ngt_1, ngt_2, ngt_3, ngt_4, ngt_5, ngt_6, ngt_7, ngt_60, ngt_61, neq_0, neq_1, neq_2, neq_3, neq_4, neq_5, neq_6, neq_7, neq_60, neq_61, Nat.not_lt_zero, and_self, and_true, true_and, or_true, true_or, if_true, if_false, or_self, and_false, false_and, or_false, false_or, not_true_eq_false, not_false_eq_true, ne_eq, reduceCtorEq, eq_self, bind_s, c10, c01, c20, c30, c40, cl_0, inb_0, onI_l, onI_r, onV_l, onV_r, b_M_mergeKey_58, b_M_mergeKey_87, y]
    · rw [if_pos (by grind)]
      simp (disch := omega) only [↓reduceIte, ↓wi_e, ↓wn_e, ↓rc_i, ↓rc_l, ↓h.q0, ↓h.q1, ↓h.q2, ↓h.qr, ↓h.qc, ↓h.qr2, ↓h.qr3, ↓h.qr4, ↓h.qr5, ↓h.qc5, ↓h.qt, ↓h.qt4, ↓h.qt5, ↓h.qt6, ↓h.qm2, ↓h.qm3, ↓h.qm4, ↓h.qm5, ↓h.qm6, ↓h.qm7, ↓h.qm8, ↓h.qm9, ↓h.qm10, ↓h.qm11, ↓h.qm12, ↓h.qm13, ↓h.qm14, ↓h.qm15, ↓h.qm16, ↓h.qm17, ↓h.qm18, ↓h.qm19, ↓h.qm20, ↓h.qm21, ↓h.qm22, ↓h.qm23, ↓h.qm24, h.lt, kd_0, kd_1, kd_2, kd_3, kd_r, kd_ra, kd_rb, kd_rc, kd_rd, ln_ra, ln_rb, ln_rc, ln_rd, kd_c, kd_ca, ln_ca, kd_t, kd_ta, kd_tb, kd_tc, ln_ta, ln_tb, ln_tc, ln_1, ln_2, ln_3, ln_51, kd_27, kd_28, kd_29, kd_30, kd_31, kd_32, kd_33, kd_34, kd_35, kd_36, kd_37, kd_38, kd_39, kd_40, kd_41, kd_42, kd_43, kd_44, kd_45, kd_46, kd_47, kd_48, kd_49, kd_50, kd_51, ln_28, ln_29, ln_30, ln_31, ln_32, ln_33, ln_34, ln_35, ln_36, ln_37, ln_38, ln_39, ln_40, ln_41, ln_42, ln_43, ln_44, ln_45, ln_46, ln_47, ln_48, ln_49, ln_50, inb_n, cl_n, g_n_s_i, g_n_s_l, mul_3, mul_4, mul_6, mul_61, nI_add, nI_1, nle_0, nle_1, nle_2, nle_3, nle_4, nle_5, nle_6, nle_7, nle_60, nle_61, nlt_0, nlt_1, nlt_2, nlt_3, nlt_4, nlt_5, nlt_6, nlt_7, nlt_60, nlt_61, nge_0, nge_1, nge_2, nge_3, nge_4, nge_5, nge_6, nge_7, nge_60, nge_61, ngt_0, ngt_1, ngt_2, ngt_3, ngt_4, ngt_5, ngt_6, ngt_7, ngt_60, ngt_61, neq_0, neq_1, neq_2, neq_3, neq_4, neq_5, neq_6, neq_7, neq_60, neq_61, Nat.not_lt_zero, and_self, and_true, true_and, or_true, true_or, if_true, if_false, or_self, and_false, false_and, or_false, false_or, not_true_eq_false, not_false_eq_true, ne_eq, reduceCtorEq, eq_self, bind_s, c10, c01, c20, c30, c40, cl_0, inb_0, onI_l, onI_r, onV_l, onV_r, b_M_mergeKey_58, b_M_mergeKey_87, y]
  unfold mu
  by_cases z : g_i σ 42 i = 0
  · simp only [if_pos z]
    simp (disch := omega) only [↓reduceIte, ↓wi_e, ↓wn_e, ↓rc_i, ↓rc_l, ↓h.q0, ↓h.q1, ↓h.q2, ↓h.qr, ↓h.qc, ↓h.qr2, ↓h.qr3, ↓h.qr4, ↓h.qr5, ↓h.qc5, ↓h.qt, ↓h.qt4, ↓h.qt5, ↓h.qt6, ↓h.qm2, ↓h.qm3, ↓h.qm4, ↓h.qm5, ↓h.qm6, ↓h.qm7, ↓h.qm8, ↓h.qm9, ↓h.qm10, ↓h.qm11, ↓h.qm12, ↓h.qm13, ↓h.qm14, ↓h.qm15, ↓h.qm16, ↓h.qm17, ↓h.qm18, ↓h.qm19, ↓h.qm20, ↓h.qm21, ↓h.qm22, ↓h.qm23, ↓h.qm24, h.lt, kd_0, kd_1, kd_2, kd_3, kd_r, kd_ra, kd_rb, kd_rc, kd_rd, ln_ra, ln_rb, ln_rc, ln_rd, kd_c, kd_ca, ln_ca, kd_t, kd_ta, kd_tb, kd_tc, ln_ta, ln_tb, ln_tc, ln_1, ln_2, ln_3, ln_51, kd_27, kd_28, kd_29, kd_30, kd_31, kd_32, kd_33, kd_34, kd_35, kd_36, kd_37, kd_38, kd_39, kd_40, kd_41, kd_42, kd_43, kd_44, kd_45, kd_46, kd_47, kd_48, kd_49, kd_50, kd_51, ln_28, ln_29, ln_30, ln_31, ln_32, ln_33, ln_34, ln_35, ln_36, ln_37, ln_38, ln_39, ln_40, ln_41, ln_42, ln_43, ln_44, ln_45, ln_46, ln_47, ln_48, ln_49, ln_50, inb_n, cl_n, g_n_s_i, g_n_s_l, mul_3, mul_4, mul_6, mul_61, nI_add, nI_1, nle_0, nle_1, nle_2, nle_3, nle_4, nle_5, nle_6, nle_7, nle_60, nle_61, nlt_0, nlt_1, nlt_2, nlt_3, nlt_4, nlt_5, nlt_6, nlt_7, nlt_60, nlt_61, nge_0, nge_1, nge_2, nge_3, nge_4, nge_5, nge_6, nge_7, nge_60, nge_61, ngt_0, ngt_1, ngt_2, ngt_3, ngt_4, ngt_5, ngt_6, ngt_7, ngt_60, ngt_61, neq_0, neq_1, neq_2, neq_3, neq_4, neq_5, neq_6, neq_7, neq_60, neq_61, Nat.not_lt_zero, and_self, and_true, true_and, or_true, true_or, if_true, if_false, or_self, and_false, false_and, or_false, false_or, not_true_eq_false, not_false_eq_true, ne_eq, reduceCtorEq, eq_self, bind_s, c10, c01, c20, c30, c40, cl_0, inb_0, onI_l, onI_r, onV_l, onV_r, b_M_mergeKey_10, b_M_mergeKey_87, hn, z]
  · simp only [if_neg z]
    rw [← s58]
    by_cases y : g_i σ 44 (6 * i + k) ≤ g_i σ 44 (6 * B + k)
    · simp only [if_pos y]
      simp (disch := omega) only [↓reduceIte, ↓wi_e, ↓wn_e, ↓rc_i, ↓rc_l, ↓h.q0, ↓h.q1, ↓h.q2, ↓h.qr, ↓h.qc, ↓h.qr2, ↓h.qr3, ↓h.qr4, ↓h.qr5, ↓h.qc5, ↓h.qt, ↓h.qt4, ↓h.qt5, ↓h.qt6, ↓h.qm2, ↓h.qm3, ↓h.qm4, ↓h.qm5, ↓h.qm6, ↓h.qm7, ↓h.qm8, ↓h.qm9, ↓h.qm10, ↓h.qm11, ↓h.qm12, ↓h.qm13, ↓h.qm14, ↓h.qm15, ↓h.qm16, ↓h.qm17, ↓h.qm18, ↓h.qm19, ↓h.qm20, ↓h.qm21, ↓h.qm22, ↓h.qm23, ↓h.qm24, h.lt, kd_0, kd_1, kd_2, kd_3, kd_r, kd_ra, kd_rb, kd_rc, kd_rd, ln_ra, ln_rb, ln_rc, ln_rd, kd_c, kd_ca, ln_ca, kd_t, kd_ta, kd_tb, kd_tc, ln_ta, ln_tb, ln_tc, ln_1, ln_2, ln_3, ln_51, kd_27, kd_28, kd_29, kd_30, kd_31, kd_32, kd_33, kd_34, kd_35, kd_36, kd_37, kd_38, kd_39, kd_40, kd_41, kd_42, kd_43, kd_44, kd_45, kd_46, kd_47, kd_48, kd_49, kd_50, kd_51, ln_28, ln_29, ln_30, ln_31, ln_32, ln_33, ln_34, ln_35, ln_36, ln_37, ln_38, ln_39, ln_40, ln_41, ln_42, ln_43, ln_44, ln_45, ln_46, ln_47, ln_48, ln_49, ln_50, inb_n, cl_n, g_n_s_i, g_n_s_l, mul_3, mul_4, mul_6, mul_61, nI_add, nI_1, nle_0, nle_1, nle_2, nle_3, nle_4, nle_5, nle_6, nle_7, nle_60, nle_61, nlt_0, nlt_1, nlt_2, nlt_3, nlt_4, nlt_5, nlt_6, nlt_7, nlt_60, nlt_61, nge_0, nge_1, nge_2, nge_3, nge_4, nge_5, nge_6, nge_7, nge_60, nge_61, ngt_0, ngt_1, ngt_2, ngt_3, ngt_4, ngt_5, ngt_6, ngt_7, ngt_60, ngt_61, neq_0, neq_1, neq_2, neq_3, neq_4, neq_5, neq_6, neq_7, neq_60, neq_61, Nat.not_lt_zero, and_self, and_true, true_and, or_true, true_or, if_true, if_false, or_self, and_false, false_and, or_false, false_or, not_true_eq_false, not_false_eq_true, ne_eq, reduceCtorEq, eq_self, bind_s, c10, c01, c20, c30, c40, cl_0, inb_0, onI_l, onI_r, onV_l, onV_r, b_M_mergeKey_10, hn, z, y]
    · simp only [if_neg y]
      simp (disch := omega) only [↓reduceIte, ↓wi_e, ↓wn_e, ↓rc_i, ↓rc_l, ↓h.q0, ↓h.q1, ↓h.q2, ↓h.qr, ↓h.qc, ↓h.qr2, ↓h.qr3, ↓h.qr4, ↓h.qr5, ↓h.qc5, ↓h.qt, ↓h.qt4, ↓h.qt5, ↓h.qt6, ↓h.qm2, ↓h.qm3, ↓h.qm4, ↓h.qm5, ↓h.qm6, ↓h.qm7, ↓h.qm8, ↓h.qm9, ↓h.qm10, ↓h.qm11, ↓h.qm12, ↓h.qm13, ↓h.qm14, ↓h.qm15, ↓h.qm16, ↓h.qm17, ↓h.qm18, ↓h.qm19, ↓h.qm20, ↓h.qm21, ↓h.qm22, ↓h.qm23, ↓h.qm24, h.lt, kd_0, kd_1, kd_2, kd_3, kd_r, kd_ra, kd_rb, kd_rc, kd_rd, ln_ra, ln_rb, ln_rc, ln_rd, kd_c, kd_ca, ln_ca, kd_t, kd_ta, kd_tb, kd_tc, ln_ta, ln_tb, ln_tc, ln_1, ln_2, ln_3, ln_51, kd_27, kd_28, kd_29, kd_30, kd_31, kd_32, kd_33, kd_34, kd_35, kd_36, kd_37, kd_38, kd_39, kd_40, kd_41, kd_42, kd_43, kd_44, kd_45, kd_46, kd_47, kd_48, kd_49, kd_50, kd_51, ln_28, ln_29, ln_30, ln_31, ln_32, ln_33, ln_34, ln_35, ln_36, ln_37, ln_38, ln_39, ln_40, ln_41, ln_42, ln_43, ln_44, ln_45, ln_46, ln_47, ln_48, ln_49, ln_50, inb_n, cl_n, g_n_s_i, g_n_s_l, mul_3, mul_4, mul_6, mul_61, nI_add, nI_1, nle_0, nle_1, nle_2, nle_3, nle_4, nle_5, nle_6, nle_7, nle_60, nle_61, nlt_0, nlt_1, nlt_2, nlt_3, nlt_4, nlt_5, nlt_6, nlt_7, nlt_60, nlt_61, nge_0, nge_1, nge_2, nge_3, nge_4, nge_5, nge_6, nge_7, nge_60, nge_61, ngt_0, ngt_1, ngt_2, ngt_3, ngt_4, ngt_5, ngt_6, ngt_7, ngt_60, ngt_61, neq_0, neq_1, neq_2, neq_3, neq_4, neq_5, neq_6, neq_7, neq_60, neq_61, Nat.not_lt_zero, and_self, and_true, true_and, or_true, true_or, if_true, if_false, or_self, and_false, false_and, or_false, false_or, not_true_eq_false, not_false_eq_true, ne_eq, reduceCtorEq, eq_self, bind_s, c10, c01, c20, c30, c40, cl_0, inb_0, onI_l, onI_r, onV_l, onV_r, b_M_mergeKey_10, hn, z, y]
def wm3 (r : Int32) (B k : Nat) (σ : Sg) (i : Nat) : Sg := if g_i σ 42 i = 0 then σ else s_i (s_i (s_i σ 44 (6 * i + k) (g_i σ 44 (6 * B + k))) 45 (6 * i + k) (g_i σ 45 (6 * B + k))) 46 (6 * i + k) r
theorem wm3_s {b : Nat} {σ : Sg} (h : SN b σ) {r : Int32} {B k i : Nat} : SN b (wm3 r B k σ i) := by
  unfold wm3
  split
  · exact h
  · exact h
theorem wm3_r {r : Int32} {B k i : Nat} {σ : Sg} (a j : Nat) : g_r (wm3 r B k σ i) a j = g_r σ a j ∧ g_l (wm3 r B k σ i) a j = g_l σ a j := by
  unfold wm3
  split
  · exact ⟨rfl, rfl⟩
  · exact ⟨rfl, rfl⟩
theorem wm3_n {r : Int32} {B k i : Nat} {σ : Sg} {a j : Nat} (q : (a ≠ 44 ∧ a ≠ 45 ∧ a ≠ 46) ∨ j ≠ 6 * i + k) : g_i (wm3 r B k σ i) a j = g_i σ a j := by
  unfold wm3
  split
  · rfl
  · simp (disch := omega) only [gi_n]
theorem wm3_v {r : Int32} {B k i : Nat} {σ : Sg} : g_i (wm3 r B k σ i) 44 (6 * i + k) = (if g_i σ 42 i = 0 then g_i σ 44 (6 * i + k) else g_i σ 44 (6 * B + k)) ∧ g_i (wm3 r B k σ i) 45 (6 * i + k) = (if g_i σ 42 i = 0 then g_i σ 45 (6 * i + k) else g_i σ 45 (6 * B + k)) ∧ g_i (wm3 r B k σ i) 46 (6 * i + k) = (if g_i σ 42 i = 0 then g_i σ 46 (6 * i + k) else r) := by
  unfold wm3
  by_cases z : g_i σ 42 i = 0
  · simp only [if_pos z, and_self]
  · simp only [if_neg z]
    simp (disch := omega) only [gi_n, gi_s, and_self]
theorem wm3_b {r : Int32} {B k i : Nat} {σ : Sg} : g_i (wm3 r B k σ i) 44 (6 * B + k) = g_i σ 44 (6 * B + k) ∧ g_i (wm3 r B k σ i) 45 (6 * B + k) = g_i σ 45 (6 * B + k) := by
  by_cases e : i = B
  · subst e
    obtain ⟨h1, h2, _⟩ := wm3_v (r := r) (B := i) (k := k) (i := i) (σ := σ)
    rw [h1, h2, ite_self, ite_self]
    exact ⟨rfl, rfl⟩
  · exact ⟨wm3_n (by omega), wm3_n (by omega)⟩
theorem st_mk96 {b : Nat} {σ : Sg} (h : SN b σ) {n i k B : Nat} (hi : i < 3) (hk : k < 6) (hB : B < 3) (r : Int32) : b_M_mergeKey_96 (n + 1) σ 27 (nI k) (nI B) r (nI i) = b_M_mergeKey_96 n (wm3 r B k σ i) 27 (nI k) (nI B) r (nI (i + 1)) := by
  have hn : ¬ 3 ≤ i := by omega
  unfold wm3
  by_cases z : g_i σ 42 i = 0
  · rw [if_pos z]
    simp (disch := omega) only [↓reduceIte, ↓wi_e, ↓wn_e, ↓rc_i, ↓rc_l, ↓h.q0, ↓h.q1, ↓h.q2, ↓h.qr, ↓h.qc, ↓h.qr2, ↓h.qr3, ↓h.qr4, ↓h.qr5, ↓h.qc5, ↓h.qt, ↓h.qt4, ↓h.qt5, ↓h.qt6, ↓h.qm2, ↓h.qm3, ↓h.qm4, ↓h.qm5, ↓h.qm6, ↓h.qm7, ↓h.qm8, ↓h.qm9, ↓h.qm10, ↓h.qm11, ↓h.qm12, ↓h.qm13, ↓h.qm14, ↓h.qm15, ↓h.qm16, ↓h.qm17, ↓h.qm18, ↓h.qm19, ↓h.qm20, ↓h.qm21, ↓h.qm22, ↓h.qm23, ↓h.qm24, h.lt, kd_0, kd_1, kd_2, kd_3, kd_r, kd_ra, kd_rb, kd_rc, kd_rd, ln_ra, ln_rb, ln_rc, ln_rd, kd_c, kd_ca, ln_ca, kd_t, kd_ta, kd_tb, kd_tc, ln_ta, ln_tb, ln_tc, ln_1, ln_2, ln_3, ln_51, kd_27, kd_28, kd_29, kd_30, kd_31, kd_32, kd_33, kd_34, kd_35, kd_36, kd_37, kd_38, kd_39, kd_40, kd_41, kd_42, kd_43, kd_44, kd_45, kd_46, kd_47, kd_48, kd_49, kd_50, kd_51, ln_28, ln_29, ln_30, ln_31, ln_32, ln_33, ln_34, ln_35, ln_36, ln_37, ln_38, ln_39, ln_40, ln_41, ln_42, ln_43, ln_44, ln_45, ln_46, ln_47, ln_48, ln_49, ln_50, inb_n, cl_n, g_n_s_i, g_n_s_l, mul_3, mul_4, mul_6, mul_61, nI_add, nI_1, nle_0, nle_1, nle_2, nle_3, nle_4, nle_5, nle_6, nle_7, nle_60, nle_61, nlt_0, nlt_1, nlt_2, nlt_3, nlt_4, nlt_5, nlt_6, nlt_7, nlt_60, nlt_61, nge_0, nge_1, nge_2, nge_3, nge_4, nge_5, nge_6, nge_7, nge_60, nge_61, ngt_0, ngt_1, ngt_2, ngt_3, ngt_4, ngt_5, ngt_6, ngt_7, ngt_60, ngt_61, neq_0, neq_1, neq_2, neq_3, neq_4, neq_5, neq_6, neq_7, neq_60, neq_61, Nat.not_lt_zero, and_self, and_true, true_and, or_true, true_or, if_true, if_false, or_self, and_false, false_and, or_false, false_or, not_true_eq_false, not_false_eq_true, ne_eq, reduceCtorEq, eq_self, bind_s, c10, c01, c20, c30, c40, cl_0, inb_0, onI_l, onI_r, onV_l, onV_r, b_M_mergeKey_96, b_M_mergeKey_174, hn, z]
  · rw [if_neg z]
    simp (disch := omega) only [↓reduceIte, ↓wi_e, ↓wn_e, ↓rc_i, ↓rc_l, ↓h.q0, ↓h.q1, ↓h.q2, ↓h.qr, ↓h.qc, ↓h.qr2, ↓h.qr3, ↓h.qr4, ↓h.qr5, ↓h.qc5, ↓h.qt, ↓h.qt4, ↓h.qt5, ↓h.qt6, ↓h.qm2, ↓h.qm3, ↓h.qm4, ↓h.qm5, ↓h.qm6, ↓h.qm7, ↓h.qm8, ↓h.qm9, ↓h.qm10, ↓h.qm11, ↓h.qm12, ↓h.qm13, ↓h.qm14, ↓h.qm15, ↓h.qm16, ↓h.qm17, ↓h.qm18, ↓h.qm19, ↓h.qm20, ↓h.qm21, ↓h.qm22, ↓h.qm23, ↓h.qm24, h.lt, kd_0, kd_1, kd_2, kd_3, kd_r, kd_ra, kd_rb, kd_rc, kd_rd, ln_ra, ln_rb, ln_rc, ln_rd, kd_c, kd_ca, ln_ca, kd_t, kd_ta, kd_tb, kd_tc, ln_ta, ln_tb, ln_tc, ln_1, ln_2, ln_3, ln_51, kd_27, kd_28, kd_29, kd_30, kd_31, kd_32, kd_33, kd_34, kd_35, kd_36, kd_37, kd_38, kd_39, kd_40, kd_41, kd_42, kd_43, kd_44, kd_45, kd_46, kd_47, kd_48, kd_49, kd_50, kd_51, ln_28, ln_29, ln_30, ln_31, ln_32, ln_33, ln_34, ln_35, ln_36, ln_37, ln_38, ln_39, ln_40, ln_41, ln_42, ln_43, ln_44, ln_45, ln_46, ln_47, ln_48, ln_49, ln_50, inb_n, cl_n, g_n_s_i, g_n_s_l, mul_3, mul_4, mul_6, mul_61, nI_add, nI_1, nle_0, nle_1, nle_2, nle_3, nle_4, nle_5, nle_6, nle_7, nle_60, nle_61, nlt_0, nlt_1, nlt_2, nlt_3, nlt_4, nlt_5, nlt_6, nlt_7, nlt_60, nlt_61, nge_0, nge_1, nge_2, nge_3, nge_4, nge_5, nge_6, nge_7, nge_60, nge_61, ngt_0, ngt_1, ngt_2, ngt_3, ngt_4, ngt_5, ngt_6, ngt_7, ngt_60, ngt_61, neq_0, neq_1, neq_2, neq_3, neq_4, neq_5, neq_6, neq_7, neq_60, neq_61, Nat.not_lt_zero, and_self, and_true, true_and, or_true, true_or, if_true, if_false, or_self, and_false, false_and, or_false, false_or, not_true_eq_false, not_false_eq_true, ne_eq, reduceCtorEq, eq_self, bind_s, c10, c01, c20, c30, c40, cl_0, inb_0, onI_l, onI_r, onV_l, onV_r, b_M_mergeKey_96, b_M_mergeKey_174, hn, z, gi_n]
theorem en_mk96 {σ : Sg} {n a : Nat} {k B r : Int32} : b_M_mergeKey_96 (n + 1) σ a k B r (nI (2 + 1)) = some σ := by
  simp only [b_M_mergeKey_96]
  rw [if_pos (by decide)]
def Wm3 (r : Int32) (B k : Nat) (σ : Sg) : Sg := wm3 r B k (wm3 r B k (wm3 r B k σ 0) 1) 2
theorem p_mk96 {b : Nat} {σ : Sg} (h : SN b σ) {k B : Nat} (hk : k < 6) (hB : B < 3) (r : Int32) : b_M_mergeKey_96 1000 σ 27 (nI k) (nI B) r 0 = some (Wm3 r B k σ) := by
  show b_M_mergeKey_96 (999 + 1) σ 27 (nI k) (nI B) r (nI 0) = _
  rw [st_mk96 h (n := 998 + 1) (by omega) hk hB, st_mk96 (wm3_s h) (n := 997 + 1) (by omega) hk hB, st_mk96 (wm3_s (wm3_s h)) (n := 996 + 1) (by omega) hk hB, en_mk96]
  rfl
theorem Wm3_r {r : Int32} {B k : Nat} {σ : Sg} (a j : Nat) : g_r (Wm3 r B k σ) a j = g_r σ a j ∧ g_l (Wm3 r B k σ) a j = g_l σ a j := by
  unfold Wm3
  rw [(wm3_r a j).1, (wm3_r a j).2, (wm3_r a j).1, (wm3_r a j).2, (wm3_r a j).1, (wm3_r a j).2]
  exact ⟨rfl, rfl⟩
theorem Wm3_n {r : Int32} {B k : Nat} {σ : Sg} {a j : Nat} (q : (a ≠ 44 ∧ a ≠ 45 ∧ a ≠ 46) ∨ (j ≠ k ∧ j ≠ 6 + k ∧ j ≠ 12 + k)) : g_i (Wm3 r B k σ) a j = g_i σ a j := by
  unfold Wm3
  rw [wm3_n (by omega), wm3_n (by omega), wm3_n (by omega)]
theorem Wm3_v {r : Int32} {B k i : Nat} {σ : Sg} (hi : i < 3) : g_i (Wm3 r B k σ) 44 (6 * i + k) = (if g_i σ 42 i = 0 then g_i σ 44 (6 * i + k) else g_i σ 44 (6 * B + k)) ∧ g_i (Wm3 r B k σ) 45 (6 * i + k) = (if g_i σ 42 i = 0 then g_i σ 45 (6 * i + k) else g_i σ 45 (6 * B + k)) ∧ g_i (Wm3 r B k σ) 46 (6 * i + k) = (if g_i σ 42 i = 0 then g_i σ 46 (6 * i + k) else r) := by
  unfold Wm3
  obtain rfl | rfl | rfl : i = 0 ∨ i = 1 ∨ i = 2 := by omega
  · have := wm3_v (r := r) (B := B) (k := k) (i := 0) (σ := σ)
    rw [wm3_n (i := 2) (by omega), wm3_n (i := 1) (by omega), wm3_n (i := 2) (by omega), wm3_n (i := 1) (by omega), wm3_n (i := 2) (by omega), wm3_n (i := 1) (by omega)]
    exact this
  · have := wm3_v (r := r) (B := B) (k := k) (i := 1) (σ := wm3 r B k σ 0)
    rw [wm3_b.1, wm3_b.2, wm3_n (a := 42) (by omega), wm3_n (i := 0) (a := 44) (by omega), wm3_n (i := 0) (a := 45) (by omega), wm3_n (i := 0) (a := 46) (by omega)] at this
    rw [wm3_n (i := 2) (by omega), wm3_n (i := 2) (by omega), wm3_n (i := 2) (by omega)]
    exact this
  · have := wm3_v (r := r) (B := B) (k := k) (i := 2) (σ := wm3 r B k (wm3 r B k σ 0) 1)
    rw [wm3_b.1, wm3_b.2, wm3_b.1, wm3_b.2, wm3_n (a := 42) (by omega), wm3_n (a := 42) (by omega), wm3_n (i := 1) (a := 44) (by omega), wm3_n (i := 1) (a := 45) (by omega), wm3_n (i := 1) (a := 46) (by omega), wm3_n (i := 0) (a := 44) (by omega), wm3_n (i := 0) (a := 45) (by omega), wm3_n (i := 0) (a := 46) (by omega)] at this
    exact this
theorem p_mmk {b : Nat} {σ : Sg} (h : SN b σ) {k : Nat} (hk : k < 6) {u p l : Nat → Int32} (H : ∀ i, i < 3 → g_i σ 42 i = u i ∧ g_i σ 44 (6 * i + k) = p i ∧ g_i σ 46 (6 * i + k) = l i) : f_M_mergeKey σ 27 (nI k) = some (Wm3 (nvF u l) (bsF u p) k σ) := by
  have pf := p_fu h (fun i hi => (H i hi).1)
  obtain ⟨b3, b2, b1, b0⟩ := bsF_3 u p
  obtain ⟨x1, x2, x3⟩ := H 0 (by omega)
  obtain ⟨y1, y2, y3⟩ := H 1 (by omega)
  obtain ⟨z1, z2, z3⟩ := H 2 (by omega)
  have pp : ∀ B, B < 3 → g_i σ 44 (6 * B + k) = p B := fun B hB => (H B hB).2.1
  have E : ∀ B r, B < 3 → b_M_mergeKey_10 (996 + 1) σ 27 (nI k) (nI B) r (nI (2 + 1)) = some (Wm3 r B k σ) := by
    intro B r hB
    rw [← p_mk96 h hk hB]
    generalize (996 : Nat) = n
    simp only [b_M_mergeKey_10]
    rw [if_pos (by decide)]
  have A0 := st_mk10 h (n := 998 + 1) (i := 0) (by omega) hk b0 0
  have A1 := st_mk10 h (n := 997 + 1) (i := 0 + 1) (by omega) hk b1 (mu (u 0) (l 0) 0)
  have A2 := st_mk10 h (n := 996 + 1) (i := 0 + 1 + 1) (by omega) hk b2 (mu (u 1) (l 1) (mu (u 0) (l 0) 0))
  rw [x1, x2, x3, pp _ b0] at A0
  rw [show 0 + 1 = 1 from rfl, y1, y2, y3, pp _ b1] at A1
  rw [show 0 + 1 + 1 = 2 from rfl, z1, z2, z3, pp _ b2] at A2
  simp (disch := omega) only [↓reduceIte, ↓wi_e, ↓wn_e, ↓rc_i, ↓rc_l, ↓h.q0, ↓h.q1, ↓h.q2, ↓h.qr, ↓h.qc, ↓h.qr2, ↓h.qr3, ↓h.qr4, ↓h.qr5, ↓h.qc5, ↓h.qt, ↓h.qt4, ↓h.qt5, ↓h.qt6, ↓h.qm2, ↓h.qm3, ↓h.qm4, ↓h.qm5, ↓h.qm6, ↓h.qm7, ↓h.qm8, ↓h.qm9, ↓h.qm10, ↓h.qm11, ↓h.qm12, ↓h.qm13, ↓h.qm14, ↓h.qm15, ↓h.qm16, ↓h.qm17, ↓h.qm18, ↓h.qm19, ↓h.qm20, ↓h.qm21, ↓h.qm22, ↓h.qm23, ↓h.qm24, h.lt, kd_0, kd_1, kd_2, kd_3, kd_r, kd_ra, kd_rb, kd_rc, kd_rd, ln_ra, ln_rb, ln_rc, ln_rd, kd_c, kd_ca, ln_ca, kd_t, kd_ta, kd_tb, kd_tc, ln_ta, ln_tb, ln_tc, ln_1, ln_2, ln_3, ln_51, kd_27, kd_28, kd_29, kd_30, kd_31, kd_32, kd_33, kd_34, kd_35, kd_36, kd_37, kd_38, kd_39, kd_40, kd_41, kd_42, kd_43, kd_44, kd_45, kd_46, kd_47, kd_48, kd_49, kd_50, kd_51, ln_28, ln_29, ln_30, ln_31, ln_32, ln_33, ln_34, ln_35, ln_36, ln_37, ln_38, ln_39, ln_40, ln_41, ln_42, ln_43, ln_44, ln_45, ln_46, ln_47, ln_48, ln_49, ln_50, inb_n, cl_n, g_n_s_i, g_n_s_l, mul_3, mul_4, mul_6, mul_61, nI_add, nI_1, nle_0, nle_1, nle_2, nle_3, nle_4, nle_5, nle_6, nle_7, nle_60, nle_61, nlt_0, nlt_1, nlt_2, nlt_3, nlt_4, nlt_5, nlt_6, nlt_7, nlt_60, nlt_61, nge_0, nge_1, nge_2, nge_3, nge_4, nge_5, nge_6, nge_7, nge_60, nge_61, ngt_0, ngt_1, ngt_2, ngt_3, ngt_4, ngt_5, ngt_6, ngt_7, ngt_60, ngt_61, neq_0, neq_1, neq_2, neq_3, neq_4, neq_5, neq_6, neq_7, neq_60, neq_61, Nat.not_lt_zero, and_self, and_true, true_and, or_true, true_or, if_true, if_false, or_self, and_false, false_and, or_false, false_or, not_true_eq_false, not_false_eq_true, ne_eq, reduceCtorEq, eq_self, bind_s, c10, c01, c20, c30, c40, cl_0, inb_0, onI_l, onI_r, onV_l, onV_r, f_M_mergeKey, ↓bq pf]
  exact A0.trans (A1.trans (A2.trans (E _ _ b3)))

