/-! change: what the class reads of three replicas. -/
def uc (u : Nat → Int32) : Nat := bn (u 0) + bn (u 1) + bn (u 2)
def mu (u v x : Int32) : Int32 := if u = 0 then x else mx x v
def nvF (u v : Nat → Int32) : Int32 := mu (u 2) (v 2) (mu (u 1) (v 1) (mu (u 0) (v 0) 0))
def cw1 (u s x : Int32) : Nat := if u = 0 then 0 else if s = x then 1 else 0
def cwF (u s : Nat → Int32) (x : Int32) : Nat := cw1 (u 0) (s 0) x + cw1 (u 1) (s 1) x + cw1 (u 2) (s 2) x
abbrev fiF (u v f : Nat → Int32) (nv : Int32) (i : Nat) : Prop := u i ≠ 0 ∧ v i = nv ∧ f i ≠ 0
def reF (u s : Nat → Int32) : Int32 := if cwF u s 1 < 2 then (if cwF u s 2 < 2 then (if cwF u s 3 < 2 then (if cwF u s 0 = uc u then 0 else 2) else 3) else 2) else 1
def mrF (u v s f : Nat → Int32) (nv : Int32) : Int32 := if fiF u v f nv 0 then s 0 else if fiF u v f nv 1 then s 1 else if fiF u v f nv 2 then s 2 else reF u s
def HA (u a : Nat → Int32) : Prop := ∃ i, 0 ≤ i ∧ i < 3 ∧ (u i ≠ 0 ∧ a i ≠ 0)
def KN (u s : Nat → Int32) : Prop := ∃ i, 0 ≤ i ∧ i < 3 ∧ (u i ≠ 0 ∧ 0 ≤ s i)
/-- what a change makes of the record at replica i -/
def Oc (u v s f a d : Nat → Int32) (nv : Int32) (i : Nat) (s' f' a' d' : Int32) : Prop :=
  (u i = 0 → s' = s i ∧ f' = f i ∧ a' = a i ∧ d' = d i) ∧
  (u i ≠ 0 → HA u a → s' = (if 0 ≤ s i then s i else 0) ∧ f' = f i ∧ a' = 1 ∧ d' = d i) ∧
  (u i ≠ 0 → ¬ HA u a → HA u d → s' = (if 0 ≤ s i then s i else 2) ∧ f' = f i ∧ a' = a i ∧ d' = 1) ∧
  (u i ≠ 0 → ¬ HA u a → ¬ HA u d → KN u s → s' = mrF u v s f nv ∧ f' = 1 ∧ a' = a i ∧ d' = d i) ∧
  (u i ≠ 0 → ¬ HA u a → ¬ HA u d → ¬ KN u s → s' = s i ∧ f' = f i ∧ a' = a i ∧ d' = d i)
theorem Oc.one {u v s f a d : Nat → Int32} {nv : Int32} {i : Nat} {s1 f1 a1 d1 s2 f2 a2 d2 : Int32} (h : Oc u v s f a d nv i s1 f1 a1 d1) (k : Oc u v s f a d nv i s2 f2 a2 d2) : s1 = s2 ∧ f1 = f2 ∧ a1 = a2 ∧ d1 = d2 := by
  obtain ⟨h1, h2, h3, h4, h5⟩ := h
  obtain ⟨k1, k2, k3, k4, k5⟩ := k
  have fin : ∀ {x1 x2 x3 x4 : Int32}, s1 = x1 ∧ f1 = x2 ∧ a1 = x3 ∧ d1 = x4 → s2 = x1 ∧ f2 = x2 ∧ a2 = x3 ∧ d2 = x4 → s1 = s2 ∧ f1 = f2 ∧ a1 = a2 ∧ d1 = d2 := by
    rintro x1 x2 x3 x4 ⟨rfl, rfl, rfl, rfl⟩ ⟨rfl, rfl, rfl, rfl⟩
    exact ⟨rfl, rfl, rfl, rfl⟩
  by_cases z0 : u i = 0
  · exact fin (h1 z0) (k1 z0)
  by_cases z1 : HA u a
  · exact fin (h2 z0 z1) (k2 z0 z1)
  by_cases z2 : HA u d
  · exact fin (h3 z0 z1 z2) (k3 z0 z1 z2)
  by_cases z3 : KN u s
  · exact fin (h4 z0 z1 z2 z3) (k4 z0 z1 z2 z3)
  · exact fin (h5 z0 z1 z2 z3) (k5 z0 z1 z2 z3)
theorem Qr.h8 {r s f a d : Int32} (q : Qr r s f a d) : (if r = -1 then (0 : Int32) else if r &&& 8 = 0 then 0 else 1) = 0 ↔ a = 0 := by
  rcases q with ⟨z1, _, _, z4, _⟩ | ⟨n, hn, z1, z2, z3, z4, z5⟩
  · rw [if_pos z1, z4]
  · rw [z1, if_neg (by rw [n_m1 (by omega)]; exact id), z4, neq_0 (by omega), ← rec_8 n hn]
    by_cases y : nI n &&& 8 = 0
    · rw [if_pos y]; exact ⟨fun _ => y, fun _ => rfl⟩
    · rw [if_neg y]; exact ⟨fun z => absurd z (by decide), fun z => absurd z y⟩
theorem Qr.h16 {r s f a d : Int32} (q : Qr r s f a d) : (if r = -1 then (0 : Int32) else if r &&& 16 = 0 then 0 else 1) = 0 ↔ d = 0 := by
  rcases q with ⟨z1, _, _, _, z4⟩ | ⟨n, hn, z1, z2, z3, z4, z5⟩
  · rw [if_pos z1, z4]
  · rw [z1, if_neg (by rw [n_m1 (by omega)]; exact id), z5, neq_0 (by omega), ← rec_16 n hn]
    by_cases y : nI n &&& 16 = 0
    · rw [if_pos y]; exact ⟨fun _ => y, fun _ => rfl⟩
    · rw [if_neg y]; exact ⟨fun z => absurd z (by decide), fun z => absurd z y⟩
theorem Qr.h4 {r s f a d : Int32} (q : Qr r s f a d) : (if r = -1 then (0 : Int32) else if r &&& 4 = 0 then 0 else 1) = 0 ↔ f = 0 := by
  rcases q with ⟨z1, _, z4, _, _⟩ | ⟨n, hn, z1, z2, z3, z4, z5⟩
  · rw [if_pos z1, z4]
  · rw [z1, if_neg (by rw [n_m1 (by omega)]; exact id), z3, neq_0 (by omega), ← rec_4 n hn]
    by_cases y : nI n &&& 4 = 0
    · rw [if_pos y]; exact ⟨fun _ => y, fun _ => rfl⟩
    · rw [if_neg y]; exact ⟨fun z => absurd z (by decide), fun z => absurd z y⟩
theorem Qr.kn {r s f a d : Int32} (q : Qr r s f a d) : (if r = -1 then (0 : Int32) else 1) = 0 ↔ ¬ 0 ≤ s := by
  rcases q with ⟨z1, z2, _⟩ | ⟨n, hn, z1, z2, _⟩
  · rw [if_pos z1, z2]; exact ⟨fun _ => by decide, fun _ => rfl⟩
  · rw [z1, if_neg (by rw [n_m1 (by omega)]; exact id), z2]
    exact ⟨fun z => absurd z (by decide), fun z => absurd (nI_pos' (by omega)) z⟩
theorem Qr.ro {r s f a d : Int32} (q : Qr r s f a d) : (if r = -1 then (-1 : Int32) else r &&& 3) = s := by
  rcases q with ⟨z1, z2, _⟩ | ⟨n, hn, z1, z2, _⟩
  · rw [if_pos z1, z2]
  · rw [z1, if_neg (by rw [n_m1 (by omega)]; exact id), z2, rec_3 n hn]
/-- the class's replicas as they stand for number t -/
def HC (σ : Sg) (t : Nat) (u v s f a d : Nat → Int32) : Prop := ∀ i, i < 3 → g_i σ (4 + 5 * i) 0 = u i ∧ g_i σ (4 + 5 * i) 1 = v i ∧ Qr (g_i σ (8 + 5 * i) t) (s i) (f i) (a i) (d i)
theorem bn_le (x : Int32) : bn x ≤ 1 := by unfold bn; split <;> omega
theorem uc_le (u : Nat → Int32) : uc u ≤ 3 := by
  have := bn_le (u 0)
  have := bn_le (u 1)
  have := bn_le (u 2)
  unfold uc
  omega
theorem cw_le (u s : Nat → Int32) (x : Int32) : cwF u s x ≤ 3 := by
  have q : ∀ u s, cw1 u s x ≤ 1 := fun u s => by unfold cw1; split <;> first | omega | (split <;> omega)
  have := q (u 0) (s 0)
  have := q (u 1) (s 1)
  have := q (u 2) (s 2)
  unfold cwF
  omega
theorem st_uc {b : Nat} {σ : Sg} (h : SN b σ) {n i x : Nat} (hi : i < 3) : b_G_upCount_4 σ (n + 1) 0 (nI x) (nI i) = b_G_upCount_4 σ n 0 (nI (x + bn (g_i σ (4 + 5 * i) 0))) (nI (i + 1)) := by
  have hn : ¬ 3 ≤ i := by omega
  simp (disch := omega) only [↓reduceIte, ↓wi_e, ↓wn_e, ↓rc_i, ↓rc_l, ↓h.q0, ↓h.q1, ↓h.q2, ↓h.qr, ↓h.qc, ↓h.qr2, ↓h.qr3, ↓h.qr4, ↓h.qr5, ↓h.qc5, ↓h.qt, ↓h.qt4, ↓h.qt5, ↓h.qt6, ↓h.qm2, ↓h.qm3, ↓h.qm4, ↓h.qm5, ↓h.qm6, ↓h.qm7, ↓h.qm8, ↓h.qm9, ↓h.qm10, ↓h.qm11, ↓h.qm12, ↓h.qm13, ↓h.qm14, ↓h.qm15, ↓h.qm16, ↓h.qm17, ↓h.qm18, ↓h.qm19, ↓h.qm20, ↓h.qm21, ↓h.qm22, ↓h.qm23, ↓h.qm24, h.lt, kd_0, kd_1, kd_2, kd_3, kd_r, kd_ra, kd_rb, kd_rc, kd_rd, ln_ra, ln_rb, ln_rc, ln_rd, kd_c, kd_ca, ln_ca, kd_t, kd_ta, kd_tb, kd_tc, ln_ta, ln_tb, ln_tc, ln_1, ln_2, ln_3, ln_51, kd_27, kd_28, kd_29, kd_30, kd_31, kd_32, kd_33, kd_34, kd_35, kd_36, kd_37, kd_38, kd_39, kd_40, kd_41, kd_42, kd_43, kd_44, kd_45, kd_46, kd_47, kd_48, kd_49, kd_50, kd_51, ln_28, ln_29, ln_30, ln_31, ln_32, ln_33, ln_34, ln_35, ln_36, ln_37, ln_38, ln_39, ln_40, ln_41, ln_42, ln_43, ln_44, ln_45, ln_46, ln_47, ln_48, ln_49, ln_50, inb_n, cl_n, g_n_s_i, g_n_s_l, mul_3, mul_4, mul_6, mul_61, nI_add, nI_1, nle_0, nle_1, nle_2, nle_3, nle_4, nle_5, nle_6, nle_7, nle_60, nle_61, nlt_0, nlt_1, nlt_2, nlt_3, nlt_4, nlt_5, nlt_6, nlt_7, nlt_60, nlt_61, nge_0, nge_1, nge_2, nge_3, nge_4, nge_5, nge_6, nge_7, nge_60, nge_61, ngt_0, ngt_1, ngt_2, ngt_3, ngt_4, ngt_5, ngt_6, ngt_7, ngt_60, ngt_61, neq_0, neq_1, neq_2, neq_3, neq_4, neq_5, neq_6, neq_7, neq_60, neq_61, Nat.not_lt_zero, and_self, and_true, true_and, or_true, true_or, if_true, if_false, or_self, and_false, false_and, or_false, false_or, not_true_eq_false, not_false_eq_true, ne_eq, reduceCtorEq, eq_self, bind_s, c10, c01, c20, c30, c40, cl_0, inb_0, onI_l, onI_r, onV_l, onV_r, b_G_upCount_4, b_G_upCount_24, hn]
  unfold bn
  split <;> rfl
theorem en_uc {σ : Sg} {n a : Nat} {x : Int32} : b_G_upCount_4 σ (n + 1) a x (nI (2 + 1)) = some x := by
  simp only [b_G_upCount_4]
  rw [if_pos (by decide)]
theorem p_upCount {b : Nat} {σ : Sg} (h : SN b σ) {u : Nat → Int32} (hu : ∀ i, i < 3 → g_i σ (4 + 5 * i) 0 = u i) : f_G_upCount σ 0 = some (nI (uc u)) := by
  show b_G_upCount_4 σ (999 + 1) 0 (nI 0) (nI 0) = _
  rw [st_uc h (n := 998 + 1) (by omega), st_uc h (n := 997 + 1) (by omega), st_uc h (n := 996 + 1) (by omega), en_uc, hu 0 (by omega), hu (0 + 1) (by omega), hu (0 + 1 + 1) (by omega), Nat.zero_add]
  rfl
theorem st_nv {b : Nat} {σ : Sg} (h : SN b σ) {n i : Nat} (hi : i < 3) (x : Int32) : b_G_newestViewUp_4 σ (n + 1) 0 x (nI i) = b_G_newestViewUp_4 σ n 0 (mu (g_i σ (4 + 5 * i) 0) (g_i σ (4 + 5 * i) 1) x) (nI (i + 1)) := by
  have hn : ¬ 3 ≤ i := by omega
  simp (disch := omega) only [↓reduceIte, ↓wi_e, ↓wn_e, ↓rc_i, ↓rc_l, ↓h.q0, ↓h.q1, ↓h.q2, ↓h.qr, ↓h.qc, ↓h.qr2, ↓h.qr3, ↓h.qr4, ↓h.qr5, ↓h.qc5, ↓h.qt, ↓h.qt4, ↓h.qt5, ↓h.qt6, ↓h.qm2, ↓h.qm3, ↓h.qm4, ↓h.qm5, ↓h.qm6, ↓h.qm7, ↓h.qm8, ↓h.qm9, ↓h.qm10, ↓h.qm11, ↓h.qm12, ↓h.qm13, ↓h.qm14, ↓h.qm15, ↓h.qm16, ↓h.qm17, ↓h.qm18, ↓h.qm19, ↓h.qm20, ↓h.qm21, ↓h.qm22, ↓h.qm23, ↓h.qm24, h.lt, kd_0, kd_1, kd_2, kd_3, kd_r, kd_ra, kd_rb, kd_rc, kd_rd, ln_ra, ln_rb, ln_rc, ln_rd, kd_c, kd_ca, ln_ca, kd_t, kd_ta, kd_tb, kd_tc, ln_ta, ln_tb, ln_tc, ln_1, ln_2, ln_3, ln_51, kd_27, kd_28, kd_29, kd_30, kd_31, kd_32, kd_33, kd_34, kd_35, kd_36, kd_37, kd_38, kd_39, kd_40, kd_41, kd_42, kd_43, kd_44, kd_45, kd_46, kd_47, kd_48, kd_49, kd_50, kd_51, ln_28, ln_29, ln_30, ln_31, ln_32, ln_33, ln_34, ln_35, ln_36, ln_37, ln_38, ln_39, ln_40, ln_41, ln_42, ln_43, ln_44, ln_45, ln_46, ln_47, ln_48, ln_49, ln_50, inb_n, cl_n, g_n_s_i, g_n_s_l, mul_3, mul_4, mul_6, mul_61, nI_add, nI_1, nle_0, nle_1, nle_2, nle_3, nle_4, nle_5, nle_6, nle_7, nle_60, nle_61, nlt_0, nlt_1, nlt_2, nlt_3, nlt_4, nlt_5, nlt_6, nlt_7, nlt_60, nlt_61, nge_0, nge_1, nge_2, nge_3, nge_4, nge_5, nge_6, nge_7, nge_60, nge_61, ngt_0, ngt_1, ngt_2, ngt_3, ngt_4, ngt_5, ngt_6, ngt_7, ngt_60, ngt_61, neq_0, neq_1, neq_2, neq_3, neq_4, neq_5, neq_6, neq_7, neq_60, neq_61, Nat.not_lt_zero, and_self, and_true, true_and, or_true, true_or, if_true, if_false, or_self, and_false, false_and, or_false, false_or, not_true_eq_false, not_false_eq_true, ne_eq, reduceCtorEq, eq_self, bind_s, c10, c01, c20, c30, c40, cl_0, inb_0, onI_l, onI_r, onV_l, onV_r, b_G_newestViewUp_4, b_G_newestViewUp_35, hn, ↓bq (p_max _ _)]
  unfold mu
  split <;> rfl
theorem en_nv {σ : Sg} {n a : Nat} {x : Int32} : b_G_newestViewUp_4 σ (n + 1) a x (nI (2 + 1)) = some x := by
  simp only [b_G_newestViewUp_4]
  rw [if_pos (by decide)]
theorem p_newest {b : Nat} {σ : Sg} (h : SN b σ) {u v : Nat → Int32} (hu : ∀ i, i < 3 → g_i σ (4 + 5 * i) 0 = u i ∧ g_i σ (4 + 5 * i) 1 = v i) : f_G_newestViewUp σ 0 = some (nvF u v) := by
  show b_G_newestViewUp_4 σ (999 + 1) 0 0 (nI 0) = _
  rw [st_nv h (n := 998 + 1) (by omega), st_nv h (n := 997 + 1) (by omega), st_nv h (n := 996 + 1) (by omega), en_nv, (hu 0 (by omega)).1, (hu 0 (by omega)).2, (hu (0 + 1) (by omega)).1, (hu (0 + 1) (by omega)).2, (hu (0 + 1 + 1) (by omega)).1, (hu (0 + 1 + 1) (by omega)).2]
  rfl
theorem p_someHas {b : Nat} {σ : Sg} (h : SN b σ) {t : Nat} (ht : t < 61) {u v s f a d e : Nat → Int32} (H : HC σ t u v s f a d) (x : Int32) (hx : ∀ i, i < 3 → ((if g_i σ (8 + 5 * i) t = -1 then (0 : Int32) else if g_i σ (8 + 5 * i) t &&& x = 0 then 0 else 1) = 0 ↔ e i = 0)) : ∃ w, f_G_someUpHas σ 0 (nI t) x = some w ∧ (HA u e → w = 1) ∧ (¬ HA u e → w = 0) := by
  refine exl (F := fun n i' => b_G_someUpHas_2 σ n 0 (nI t) x (nI i')) (i0 := 0) ?_ ?_ 3 1000 0 (by omega) (by omega) (by omega)
  · intro n i _ hi
    have hn : ¬ 3 ≤ i := by omega
    obtain ⟨h1, h2, h3⟩ := H i hi
    have ph := p_has h hi ht x
    refine ⟨?_, ?_⟩
    · rintro ⟨z1, z2⟩
      have y : ¬ (if g_i σ (8 + 5 * i) t = -1 then (0 : Int32) else if g_i σ (8 + 5 * i) t &&& x = 0 then 0 else 1) = 0 := fun y => z2 ((hx i hi).mp y)
      simp (disch := omega) only [↓reduceIte, ↓wi_e, ↓wn_e, ↓rc_i, ↓rc_l, ↓h.q0, ↓h.q1, ↓h.q2, ↓h.qr, ↓h.qc, ↓h.qr2, ↓h.qr3, ↓h.qr4, ↓h.qr5, ↓h.qc5, ↓h.qt, ↓h.qt4, ↓h.qt5, ↓h.qt6, ↓h.qm2, ↓h.qm3, ↓h.qm4, ↓h.qm5, ↓h.qm6, ↓h.qm7, ↓h.qm8, ↓h.qm9, ↓h.qm10, ↓h.qm11, ↓h.qm12, ↓h.qm13, ↓h.qm14, ↓h.qm15, ↓h.qm16, ↓h.qm17, ↓h.qm18, ↓h.qm19, ↓h.qm20, ↓h.qm21, ↓h.qm22, ↓h.qm23, ↓h.qm24, h.lt, kd_0, kd_1, kd_2, kd_3, kd_r, kd_ra, kd_rb, kd_rc, kd_rd, ln_ra, ln_rb, ln_rc, ln_rd, kd_c, kd_ca, ln_ca, kd_t, kd_ta, kd_tb, kd_tc, ln_ta, ln_tb, ln_tc, ln_1, ln_2, ln_3, ln_51, kd_27, kd_28, kd_29, kd_30, kd_31, kd_32, kd_33, kd_34, kd_35, kd_36, kd_37, kd_38, kd_39, kd_40, kd_41, kd_42, kd_43, kd_44, kd_45, kd_46, kd_47, kd_48, kd_49, kd_50, kd_51, ln_28, ln_29, ln_30, ln_31, ln_32, ln_33, ln_34, ln_35, ln_36, ln_37, ln_38, ln_39, ln_40, ln_41, ln_42, ln_43, ln_44, ln_45, ln_46, ln_47, ln_48, ln_49, ln_50, inb_n, cl_n, g_n_s_i, g_n_s_l, mul_3, mul_4, mul_6, mul_61, nI_add, nI_1, nle_0, nle_1, nle_2, nle_3, nle_4, nle_5, nle_6, nle_7, nle_60, nle_61, nlt_0, nlt_1, nlt_2, nlt_3, nlt_4, nlt_5, nlt_6, nlt_7, nlt_60, nlt_61, nge_0, nge_1, nge_2, nge_3, nge_4, nge_5, nge_6, nge_7, nge_60, nge_61, ngt_0, ngt_1, ngt_2, ngt_3, ngt_4, ngt_5, ngt_6, ngt_7, ngt_60, ngt_61, neq_0, neq_1, neq_2, neq_3, neq_4, neq_5, neq_6, neq_7, neq_60, neq_61, Nat.not_lt_zero, and_self, and_true, true_and, or_true, true_or, if_true, if_false, or_self, and_false, false_and, or_false, false_or, not_true_eq_false, not_false_eq_true, ne_eq, reduceCtorEq, eq_self, bind_s, c10, c01, c20, c30, c40, cl_0, inb_0, onI_l, onI_r, onV_l, onV_r, b_G_someUpHas_2, b_G_someUpHas_35, hn, h1, z1, ↓bq ph, y]
    · intro z
      by_cases z1 : u i = 0
      · simp (disch := omega) only [↓reduceIte, ↓wi_e, ↓wn_e, ↓rc_i, ↓rc_l, ↓h.q0, ↓h.q1, ↓h.q2, ↓h.qr, ↓h.qc, ↓h.qr2, ↓h.qr3, ↓h.qr4, ↓h.qr5, ↓h.qc5, ↓h.qt, ↓h.qt4, ↓h.qt5, ↓h.qt6, ↓h.qm2, ↓h.qm3, ↓h.qm4, ↓h.qm5, ↓h.qm6, ↓h.qm7, ↓h.qm8, ↓h.qm9, ↓h.qm10, ↓h.qm11, ↓h.qm12, ↓h.qm13, ↓h.qm14, ↓h.qm15, ↓h.qm16, ↓h.qm17, ↓h.qm18, ↓h.qm19, ↓h.qm20, ↓h.qm21, ↓h.qm22, ↓h.qm23, ↓h.qm24, h.lt, kd_0, kd_1, kd_2, kd_3, kd_r, kd_ra, kd_rb, kd_rc, kd_rd, ln_ra, ln_rb, ln_rc, ln_rd, kd_c, kd_ca, ln_ca, kd_t, kd_ta, kd_tb, kd_tc, ln_ta, ln_tb, ln_tc, ln_1, ln_2, ln_3, ln_51, kd_27, kd_28, kd_29, kd_30, kd_31, kd_32, kd_33, kd_34, kd_35, kd_36, kd_37, kd_38, kd_39, kd_40, kd_41, kd_42, kd_43, kd_44, kd_45, kd_46, kd_47, kd_48, kd_49, kd_50, kd_51, ln_28, ln_29, ln_30, ln_31, ln_32, ln_33, ln_34, ln_35, ln_36, ln_37, ln_38, ln_39, ln_40, ln_41, ln_42, ln_43, ln_44, ln_45, ln_46, ln_47, ln_48, ln_49, ln_50, inb_n, cl_n, g_n_s_i, g_n_s_l, mul_3, mul_4, mul_6, mul_61, nI_add, nI_1, nle_0, nle_1, nle_2, nle_3, nle_4, nle_5, nle_6, nle_7, nle_60, nle_61, nlt_0, nlt_1, nlt_2, nlt_3, nlt_4, nlt_5, nlt_6, nlt_7, nlt_60, nlt_61, nge_0, nge_1, nge_2, nge_3, nge_4, nge_5, nge_6, nge_7, nge_60, nge_61, ngt_0, ngt_1, ngt_2, ngt_3, ngt_4, ngt_5, ngt_6, ngt_7, ngt_60, ngt_61, neq_0, neq_1, neq_2, neq_3, neq_4, neq_5, neq_6, neq_7, neq_60, neq_61, Nat.not_lt_zero, and_self, and_true, true_and, or_true, true_or, if_true, if_false, or_self, and_false, false_and, or_false, false_or, not_true_eq_false, not_false_eq_true, ne_eq, reduceCtorEq, eq_self, bind_s, c10, c01, c20, c30, c40, cl_0, inb_0, onI_l, onI_r, onV_l, onV_r, b_G_someUpHas_2, b_G_someUpHas_35, hn, h1, z1]
      · have y : (if g_i σ (8 + 5 * i) t = -1 then (0 : Int32) else if g_i σ (8 + 5 * i) t &&& x = 0 then 0 else 1) = 0 := (hx i hi).mpr (Classical.byContradiction (fun y => z ⟨z1, y⟩))
        simp (disch := omega) only [↓reduceIte, ↓wi_e, ↓wn_e, ↓rc_i, ↓rc_l, ↓h.q0, ↓h.q1, ↓h.q2, ↓h.qr, ↓h.qc, ↓h.qr2, ↓h.qr3, ↓h.qr4, ↓h.qr5, ↓h.qc5, ↓h.qt, ↓h.qt4, ↓h.qt5, ↓h.qt6, ↓h.qm2, ↓h.qm3, ↓h.qm4, ↓h.qm5, ↓h.qm6, ↓h.qm7, ↓h.qm8, ↓h.qm9, ↓h.qm10, ↓h.qm11, ↓h.qm12, ↓h.qm13, ↓h.qm14, ↓h.qm15, ↓h.qm16, ↓h.qm17, ↓h.qm18, ↓h.qm19, ↓h.qm20, ↓h.qm21, ↓h.qm22, ↓h.qm23, ↓h.qm24, h.lt, kd_0, kd_1, kd_2, kd_3, kd_r, kd_ra, kd_rb, kd_rc, kd_rd, ln_ra, ln_rb, ln_rc, ln_rd, kd_c, kd_ca, ln_ca, kd_t, kd_ta, kd_tb, kd_tc, ln_ta, ln_tb, ln_tc, ln_1, ln_2, ln_3, ln_51, kd_27, kd_28, kd_29, kd_30, kd_31, kd_32, kd_33, kd_34, kd_35, kd_36, kd_37, kd_38, kd_39, kd_40, kd_41, kd_42, kd_43, kd_44, kd_45, kd_46, kd_47, kd_48, kd_49, kd_50, kd_51, ln_28, ln_29, ln_30, ln_31, ln_32, ln_33, ln_34, ln_35, ln_36, ln_37, ln_38, ln_39, ln_40, ln_41, ln_42, ln_43, ln_44, ln_45, ln_46, ln_47, ln_48, ln_49, ln_50, inb_n, cl_n, g_n_s_i, g_n_s_l, mul_3, mul_4, mul_6, mul_61, nI_add, nI_1, nle_0, nle_1, nle_2, nle_3, nle_4, nle_5, nle_6, nle_7, nle_60, nle_61, nlt_0, nlt_1, nlt_2, nlt_3, nlt_4, nlt_5, nlt_6, nlt_7, nlt_60, nlt_61, nge_0, nge_1, nge_2, nge_3, nge_4, nge_5, nge_6, nge_7, nge_60, nge_61, ngt_0, ngt_1, ngt_2, ngt_3, ngt_4, ngt_5, ngt_6, ngt_7, ngt_60, ngt_61, neq_0, neq_1, neq_2, neq_3, neq_4, neq_5, neq_6, neq_7, neq_60, neq_61, Nat.not_lt_zero, and_self, and_true, true_and, or_true, true_or, if_true, if_false, or_self, and_false, false_and, or_false, false_or, not_true_eq_false, not_false_eq_true, ne_eq, reduceCtorEq, eq_self, bind_s, c10, c01, c20, c30, c40, cl_0, inb_0, onI_l, onI_r, onV_l, onV_r, b_G_someUpHas_2, b_G_someUpHas_35, hn, h1, z1, ↓bq ph, y]
  · intro n
    simp only [b_G_someUpHas_2]
    rw [if_pos (by decide)]
theorem p_someKnows {b : Nat} {σ : Sg} (h : SN b σ) {t : Nat} (ht : t < 61) {u v s f a d : Nat → Int32} (H : HC σ t u v s f a d) : ∃ w, f_G_someUpKnows σ 0 (nI t) = some w ∧ (KN u s → w = 1) ∧ (¬ KN u s → w = 0) := by
  refine exl (F := fun n i' => b_G_someUpKnows_2 σ n 0 (nI t) (nI i')) (i0 := 0) ?_ ?_ 3 1000 0 (by omega) (by omega) (by omega)
  · intro n i _ hi
    have hn : ¬ 3 ≤ i := by omega
    obtain ⟨h1, h2, h3⟩ := H i hi
    have ph := p_knows h hi ht
    have hx := h3.kn
    refine ⟨?_, ?_⟩
    · rintro ⟨z1, z2⟩
      have y : ¬ (if g_i σ (8 + 5 * i) t = -1 then (0 : Int32) else 1) = 0 := fun y => (hx.mp y) z2
      simp (disch := omega) only [↓reduceIte, ↓wi_e, ↓wn_e, ↓rc_i, ↓rc_l, ↓h.q0, ↓h.q1, ↓h.q2, ↓h.qr, ↓h.qc, ↓h.qr2, ↓h.qr3, ↓h.qr4, ↓h.qr5, ↓h.qc5, ↓h.qt, ↓h.qt4, ↓h.qt5, ↓h.qt6, ↓h.qm2, ↓h.qm3, ↓h.qm4, ↓h.qm5, ↓h.qm6, ↓h.qm7, ↓h.qm8, ↓h.qm9, ↓h.qm10, ↓h.qm11, ↓h.qm12, ↓h.qm13, ↓h.qm14, ↓h.qm15, ↓h.qm16, ↓h.qm17, ↓h.qm18, ↓h.qm19, ↓h.qm20, ↓h.qm21, ↓h.qm22, ↓h.qm23, ↓h.qm24, h.lt, kd_0, kd_1, kd_2, kd_3, kd_r, kd_ra, kd_rb, kd_rc, kd_rd, ln_ra, ln_rb, ln_rc, ln_rd, kd_c, kd_ca, ln_ca, kd_t, kd_ta, kd_tb, kd_tc, ln_ta, ln_tb, ln_tc, ln_1, ln_2, ln_3, ln_51, kd_27, kd_28, kd_29, kd_30, kd_31, kd_32, kd_33, kd_34, kd_35, kd_36, kd_37, kd_38, kd_39, kd_40, kd_41, kd_42, kd_43, kd_44, kd_45, kd_46, kd_47, kd_48, kd_49, kd_50, kd_51, ln_28, ln_29, ln_30, ln_31, ln_32, ln_33, ln_34, ln_35, ln_36, ln_37, ln_38, ln_39, ln_40, ln_41, ln_42, ln_43, ln_44, ln_45, ln_46, ln_47, ln_48, ln_49, ln_50, inb_n, cl_n, g_n_s_i, g_n_s_l, mul_3, mul_4, mul_6, mul_61, nI_add, nI_1, nle_0, nle_1, nle_2, nle_3, nle_4, nle_5, nle_6, nle_7, nle_60, nle_61, nlt_0, nlt_1, nlt_2, nlt_3, nlt_4, nlt_5, nlt_6, nlt_7, nlt_60, nlt_61, nge_0, nge_1, nge_2, nge_3, nge_4, nge_5, nge_6, nge_7, nge_60, nge_61, ngt_0, ngt_1, ngt_2, ngt_3, ngt_4, ngt_5, ngt_6, ngt_7, ngt_60, ngt_61, neq_0, neq_1, neq_2, neq_3, neq_4, neq_5, neq_6, neq_7, neq_60, neq_61, Nat.not_lt_zero, and_self, and_true, true_and, or_true, true_or, if_true, if_false, or_self, and_false, false_and, or_false, false_or, not_true_eq_false, not_false_eq_true, ne_eq, reduceCtorEq, eq_self, bind_s, c10, c01, c20, c30, c40, cl_0, inb_0, onI_l, onI_r, onV_l, onV_r, b_G_someUpKnows_2, b_G_someUpKnows_34, hn, h1, z1, ↓bq ph, y]
    · intro z
      by_cases z1 : u i = 0
      · simp (disch := omega) only [↓reduceIte, ↓wi_e, ↓wn_e, ↓rc_i, ↓rc_l, ↓h.q0, ↓h.q1, ↓h.q2, ↓h.qr, ↓h.qc, ↓h.qr2, ↓h.qr3, ↓h.qr4, ↓h.qr5, ↓h.qc5, ↓h.qt, ↓h.qt4, ↓h.qt5, ↓h.qt6, ↓h.qm2, ↓h.qm3, ↓h.qm4, ↓h.qm5, ↓h.qm6, ↓h.qm7, ↓h.qm8, ↓h.qm9, ↓h.qm10, ↓h.qm11, ↓h.qm12, ↓h.qm13, ↓h.qm14, ↓h.qm15, ↓h.qm16, ↓h.qm17, ↓h.qm18, ↓h.qm19, ↓h.qm20, ↓h.qm21, ↓h.qm22, ↓h.qm23, ↓h.qm24, h.lt, kd_0, kd_1, kd_2, kd_3, kd_r, kd_ra, kd_rb, kd_rc, kd_rd, ln_ra, ln_rb, ln_rc, ln_rd, kd_c, kd_ca, ln_ca, kd_t, kd_ta, kd_tb, kd_tc, ln_ta, ln_tb, ln_tc, ln_1, ln_2, ln_3, ln_51, kd_27, kd_28, kd_29, kd_30, kd_31, kd_32, kd_33, kd_34, kd_35, kd_36, kd_37, kd_38, kd_39, kd_40, kd_41, kd_42, kd_43, kd_44, kd_45, kd_46, kd_47, kd_48, kd_49, kd_50, kd_51, ln_28, ln_29, ln_30, ln_31, ln_32, ln_33, ln_34, ln_35, ln_36, ln_37, ln_38, ln_39, ln_40, ln_41, ln_42, ln_43, ln_44, ln_45, ln_46, ln_47, ln_48, ln_49, ln_50, inb_n, cl_n, g_n_s_i, g_n_s_l, mul_3, mul_4, mul_6, mul_61, nI_add, nI_1, nle_0, nle_1, nle_2, nle_3, nle_4, nle_5, nle_6, nle_7, nle_60, nle_61, nlt_0, nlt_1, nlt_2, nlt_3, nlt_4, nlt_5, nlt_6, nlt_7, nlt_60, nlt_61, nge_0, nge_1, nge_2, nge_3, nge_4, nge_5, nge_6, nge_7, nge_60, nge_61, ngt_0, ngt_1, ngt_2, ngt_3, ngt_4, ngt_5, ngt_6, ngt_7, ngt_60, ngt_61, neq_0, neq_1, neq_2, neq_3, neq_4, neq_5, neq_6, neq_7, neq_60, neq_61, Nat.not_lt_zero, and_self, and_true, true_and, or_true, true_or, if_true, if_false, or_self, and_false, false_and, or_false, false_or, not_true_eq_false, not_false_eq_true, ne_eq, reduceCtorEq, eq_self, bind_s, c10, c01, c20, c30, c40, cl_0, inb_0, onI_l, onI_r, onV_l, onV_r, b_G_someUpKnows_2, b_G_someUpKnows_34, hn, h1, z1]
      · have y : (if g_i σ (8 + 5 * i) t = -1 then (0 : Int32) else 1) = 0 := hx.mpr (fun y => z ⟨z1, y⟩)
        simp (disch := omega) only [↓reduceIte, ↓wi_e, ↓wn_e, ↓rc_i, ↓rc_l, ↓h.q0, ↓h.q1, ↓h.q2, ↓h.qr, ↓h.qc, ↓h.qr2, ↓h.qr3, ↓h.qr4, ↓h.qr5, ↓h.qc5, ↓h.qt, ↓h.qt4, ↓h.qt5, ↓h.qt6, ↓h.qm2, ↓h.qm3, ↓h.qm4, ↓h.qm5, ↓h.qm6, ↓h.qm7, ↓h.qm8, ↓h.qm9, ↓h.qm10, ↓h.qm11, ↓h.qm12, ↓h.qm13, ↓h.qm14, ↓h.qm15, ↓h.qm16, ↓h.qm17, ↓h.qm18, ↓h.qm19, ↓h.qm20, ↓h.qm21, ↓h.qm22, ↓h.qm23, ↓h.qm24, h.lt, kd_0, kd_1, kd_2, kd_3, kd_r, kd_ra, kd_rb, kd_rc, kd_rd, ln_ra, ln_rb, ln_rc, ln_rd, kd_c, kd_ca, ln_ca, kd_t, kd_ta, kd_tb, kd_tc, ln_ta, ln_tb, ln_tc, ln_1, ln_2, ln_3, ln_51, kd_27, kd_28, kd_29, kd_30, kd_31, kd_32, kd_33, kd_34, kd_35, kd_36, kd_37, kd_38, kd_39, kd_40, kd_41, kd_42, kd_43, kd_44, kd_45, kd_46, kd_47, kd_48, kd_49, kd_50, kd_51, ln_28, ln_29, ln_30, ln_31, ln_32, ln_33, ln_34, ln_35, ln_36, ln_37, ln_38, ln_39, ln_40, ln_41, ln_42, ln_43, ln_44, ln_45, ln_46, ln_47, ln_48, ln_49, ln_50, inb_n, cl_n, g_n_s_i, g_n_s_l, mul_3, mul_4, mul_6, mul_61, nI_add, nI_1, nle_0, nle_1, nle_2, nle_3, nle_4, nle_5, nle_6, nle_7, nle_60, nle_61, nlt_0, nlt_1, nlt_2, nlt_3, nlt_4, nlt_5, nlt_6, nlt_7, nlt_60, nlt_61, nge_0, nge_1, nge_2, nge_3, nge_4, nge_5, nge_6, nge_7, nge_60, nge_61, ngt_0, ngt_1, ngt_2, ngt_3, ngt_4, ngt_5, ngt_6, ngt_7, ngt_60, ngt_61, neq_0, neq_1, neq_2, neq_3, neq_4, neq_5, neq_6, neq_7, neq_60, neq_61, Nat.not_lt_zero, and_self, and_true, true_and, or_true, true_or, if_true, if_false, or_self, and_false, false_and, or_false, false_or, not_true_eq_false, not_false_eq_true, ne_eq, reduceCtorEq, eq_self, bind_s, c10, c01, c20, c30, c40, cl_0, inb_0, onI_l, onI_r, onV_l, onV_r, b_G_someUpKnows_2, b_G_someUpKnows_34, hn, h1, z1, ↓bq ph, y]
  · intro n
    simp only [b_G_someUpKnows_2]
    rw [if_pos (by decide)]
theorem st_cw {b : Nat} {σ : Sg} (h : SN b σ) {t : Nat} (ht : t < 61) {u v s f a d : Nat → Int32} (H : HC σ t u v s f a d) {n i c : Nat} (hi : i < 3) (x : Int32) : b_G_upCountWith_5 σ (n + 1) 0 (nI t) x (nI c) (nI i) = b_G_upCountWith_5 σ n 0 (nI t) x (nI (c + cw1 (u i) (s i) x)) (nI (i + 1)) := by
  have hn : ¬ 3 ≤ i := by omega
  obtain ⟨h1, h2, h3⟩ := H i hi
  have ph := p_resultOf h hi ht
  rw [h3.ro] at ph
  simp (disch := omega) only [↓reduceIte, ↓wi_e, ↓wn_e, ↓rc_i, ↓rc_l, ↓h.q0, ↓h.q1, ↓h.q2, ↓h.qr, ↓h.qc, ↓h.qr2, ↓h.qr3, ↓h.qr4, ↓h.qr5, ↓h.qc5, ↓h.qt, ↓h.qt4, ↓h.qt5, ↓h.qt6, ↓h.qm2, ↓h.qm3, ↓h.qm4, ↓h.qm5, ↓h.qm6, ↓h.qm7, ↓h.qm8, ↓h.qm9, ↓h.qm10, ↓h.qm11, ↓h.qm12, ↓h.qm13, ↓h.qm14, ↓h.qm15, ↓h.qm16, ↓h.qm17, ↓h.qm18, ↓h.qm19, ↓h.qm20, ↓h.qm21, ↓h.qm22, ↓h.qm23, ↓h.qm24, h.lt, kd_0, kd_1, kd_2, kd_3, kd_r, kd_ra, kd_rb, kd_rc, kd_rd, ln_ra, ln_rb, ln_rc, ln_rd, kd_c, kd_ca, ln_ca, kd_t, kd_ta, kd_tb, kd_tc, ln_ta, ln_tb, ln_tc, ln_1, ln_2, ln_3, ln_51, kd_27, kd_28, kd_29, kd_30, kd_31, kd_32, kd_33, kd_34, kd_35, kd_36, kd_37, kd_38, kd_39, kd_40, kd_41, kd_42, kd_43, kd_44, kd_45, kd_46, kd_47, kd_48, kd_49, kd_50, kd_51, ln_28, ln_29, ln_30, ln_31, ln_32, ln_33, ln_34, ln_35, ln_36, ln_37, ln_38, ln_39, ln_40, ln_41, ln_42, ln_43, ln_44, ln_45, ln_46, ln_47, ln_48, ln_49, ln_50, inb_n, cl_n, g_n_s_i, g_n_s_l, mul_3, mul_4, mul_6, mul_61, nI_add, nI_1, nle_0, nle_1, nle_2, nle_3, nle_4, nle_5, nle_6, nle_7, nle_60, nle_61, nlt_0, nlt_1, nlt_2, nlt_3, nlt_4, nlt_5, nlt_6, nlt_7, nlt_60, nlt_61, nge_0, nge_1, nge_2, nge_3, nge_4, nge_5, nge_6, nge_7, nge_60, nge_61, ngt_0, ngt_1, ngt_2, ngt_3, ngt_4, ngt_5, ngt_6, ngt_7, ngt_60, ngt_61, neq_0, neq_1, neq_2, neq_3, neq_4, neq_5, neq_6, neq_7, neq_60, neq_61, Nat.not_lt_zero, and_self, and_true, true_and, or_true, true_or, if_true, if_false, or_self, and_false, false_and, or_false, false_or, not_true_eq_false, not_false_eq_true, ne_eq, reduceCtorEq, eq_self, bind_s, c10, c01, c20, c30, c40, cl_0, inb_0, onI_l, onI_r, onV_l, onV_r, b_G_upCountWith_5, b_G_upCountWith_42, hn, h1, ↓bq ph]
  unfold cw1
  grind
theorem en_cw {σ : Sg} {n a : Nat} {x y c : Int32} : b_G_upCountWith_5 σ (n + 1) a x y c (nI (2 + 1)) = some c := by
  simp only [b_G_upCountWith_5]
  rw [if_pos (by decide)]
theorem p_cw {b : Nat} {σ : Sg} (h : SN b σ) {t : Nat} (ht : t < 61) {u v s f a d : Nat → Int32} (H : HC σ t u v s f a d) (x : Int32) : f_G_upCountWith σ 0 (nI t) x = some (nI (cwF u s x)) := by
  show b_G_upCountWith_5 σ (999 + 1) 0 (nI t) x (nI 0) (nI 0) = _
  rw [st_cw h ht H (n := 998 + 1) (by omega), st_cw h ht H (n := 997 + 1) (by omega), st_cw h ht H (n := 996 + 1) (by omega), en_cw, Nat.zero_add]
  rfl
theorem p_rest {b : Nat} {σ : Sg} (h : SN b σ) {t : Nat} (ht : t < 61) {u v s f a d : Nat → Int32} (H : HC σ t u v s f a d) : b_G_mergedResult_65 σ 1000 0 (nI t) 1 = some (reF u s) := by
  have c0 := p_cw h ht H 0
  have c1 := p_cw h ht H 1
  have c2 := p_cw h ht H 2
  have c3 := p_cw h ht H 3
  have l0 := cw_le u s 0
  have l1 := cw_le u s 1
  have l2 := cw_le u s 2
  have l3 := cw_le u s 3
  have lu := uc_le u
  have pu := p_upCount h (fun i hi => (H i hi).1)
  have S : ∀ n x, ¬ (3 : Int32) < x → ∀ y, f_G_upCountWith σ 0 (nI t) x = some y → b_G_mergedResult_65 σ (n + 1) 0 (nI t) x = if y < 2 then b_G_mergedResult_65 σ n 0 (nI t) (x + 1) else some x := by
    intro n x hx y e
    simp (disch := omega) only [↓reduceIte, ↓wi_e, ↓wn_e, ↓rc_i, ↓rc_l, ↓h.q0, ↓h.q1, ↓h.q2, ↓h.qr, ↓h.qc, ↓h.qr2, ↓h.qr3, ↓h.qr4, ↓h.qr5, ↓h.qc5, ↓h.qt, ↓h.qt4, ↓h.qt5, ↓h.qt6, ↓h.qm2, ↓h.qm3, ↓h.qm4, ↓h.qm5, ↓h.qm6, ↓h.qm7, ↓h.qm8, ↓h.qm9, ↓h.qm10, ↓h.qm11, ↓h.qm12, ↓h.qm13, ↓h.qm14, ↓h.qm15, ↓h.qm16, ↓h.qm17, ↓h.qm18, ↓h.qm19, ↓h.qm20, ↓h.qm21, ↓h.qm22, ↓h.qm23, ↓h.qm24, h.lt, kd_0, kd_1, kd_2, kd_3, kd_r, kd_ra, kd_rb, kd_rc, kd_rd, ln_ra, ln_rb, ln_rc, ln_rd, kd_c, kd_ca, ln_ca, kd_t, kd_ta, kd_tb, kd_tc, ln_ta, ln_tb, ln_tc, ln_1, ln_2, ln_3, ln_51, kd_27, kd_28, kd_29, kd_30, kd_31, kd_32, kd_33, kd_34, kd_35, kd_36, kd_37, kd_38, kd_39, kd_40, kd_41, kd_42, kd_43, kd_44, kd_45, kd_46, kd_47, kd_48, kd_49, kd_50, kd_51, ln_28, ln_29, ln_30, ln_31, ln_32, ln_33, ln_34, ln_35, ln_36, ln_37, ln_38, ln_39, ln_40, ln_41, ln_42, ln_43, ln_44, ln_45, ln_46, ln_47, ln_48, ln_49, ln_50, inb_n, cl_n, g_n_s_i, g_n_s_l, mul_3, mul_4, mul_6, mul_61, nI_add, nI_1, nle_0, nle_1, nle_2, nle_3, nle_4, nle_5, nle_6, nle_7, nle_60, nle_61, nlt_0, nlt_1, nlt_2, nlt_3, nlt_4, nlt_5, nlt_6, nlt_7, nlt_60, nlt_61, nge_0, nge_1, nge_2, nge_3, nge_4, nge_5, nge_6, nge_7, nge_60, nge_61, ngt_0, ngt_1, ngt_2, ngt_3, ngt_4, ngt_5, ngt_6, ngt_7, ngt_60, ngt_61, neq_0, neq_1, neq_2, neq_3, neq_4, neq_5, neq_6, neq_7, neq_60, neq_61, Nat.not_lt_zero, and_self, and_true, true_and, or_true, true_or, if_true, if_false, or_self, and_false, false_and, or_false, false_or, not_true_eq_false, not_false_eq_true, ne_eq, reduceCtorEq, eq_self, bind_s, c10, c01, c20, c30, c40, cl_0, inb_0, onI_l, onI_r, onV_l, onV_r, b_G_mergedResult_65, hx, ↓bq e]
  show b_G_mergedResult_65 σ (999 + 1) 0 (nI t) 1 = _
  rw [S 999 1 (by decide) _ c1, show (999 : Nat) = 998 + 1 from rfl, show (1 : Int32) + 1 = 2 from rfl, S 998 2 (by decide) _ c2, show (998 : Nat) = 997 + 1 from rfl, show (2 : Int32) + 1 = 3 from rfl, S 997 3 (by decide) _ c3, show (997 : Nat) = 996 + 1 from rfl, show (3 : Int32) + 1 = 4 from rfl]
  have E : b_G_mergedResult_65 σ (996 + 1) 0 (nI t) 4 = some (if cwF u s 0 = uc u then 0 else 2) := by
    have c34 : ((3 : Int32) < 4) = True := by decide
    generalize (996 : Nat) = n
    simp (disch := omega) only [↓reduceIte, ↓wi_e, ↓wn_e, ↓rc_i, ↓rc_l, ↓h.q0, ↓h.q1, ↓h.q2, ↓h.qr, ↓h.qc, ↓h.qr2, ↓h.qr3, ↓h.qr4, ↓h.qr5, ↓h.qc5, ↓h.qt, ↓h.qt4, ↓h.qt5, ↓h.qt6, ↓h.qm2, ↓h.qm3, ↓h.qm4, ↓h.qm5, ↓h.qm6, ↓h.qm7, ↓h.qm8, ↓h.qm9, ↓h.qm10, ↓h.qm11, ↓h.qm12, ↓h.qm13, ↓h.qm14, ↓h.qm15, ↓h.qm16, ↓h.qm17, ↓h.qm18, ↓h.qm19, ↓h.qm20, ↓h.qm21, ↓h.qm22, ↓h.qm23, ↓h.qm24, h.lt, kd_0, kd_1, kd_2, kd_3, kd_r, kd_ra, kd_rb, kd_rc, kd_rd, ln_ra, ln_rb, ln_rc, ln_rd, kd_c, kd_ca, ln_ca, kd_t, kd_ta, kd_tb, kd_tc, ln_ta, ln_tb, ln_tc, ln_1, ln_2, ln_3, ln_51, kd_27, kd_28, kd_29, kd_30, kd_31, kd_32, kd_33, kd_34, kd_35, kd_36, kd_37, kd_38, kd_39, kd_40, kd_41, kd_42, kd_43, kd_44, kd_45, kd_46, kd_47, kd_48, kd_49, kd_50, kd_51, ln_28, ln_29, ln_30, ln_31, ln_32, ln_33, ln_34, ln_35, ln_36, ln_37, ln_38, ln_39, ln_40, ln_41, ln_42, ln_43, ln_44, ln_45, ln_46, ln_47, ln_48, ln_49, ln_50, inb_n, cl_n, g_n_s_i, g_n_s_l, mul_3, mul_4, mul_6, mul_61, nI_add, nI_1, nle_0, nle_1, nle_2, nle_3, nle_4, nle_5, nle_6, nle_7, nle_60, nle_61, nlt_0, nlt_1, nlt_2, nlt_3, nlt_4, nlt_5, nlt_6, nlt_7, nlt_60, nlt_61, nge_0, nge_1, nge_2, nge_3, nge_4, nge_5, nge_6, nge_7, nge_60, nge_61, ngt_0, ngt_1, ngt_2, ngt_3, ngt_4, ngt_5, ngt_6, ngt_7, ngt_60, ngt_61, neq_0, neq_1, neq_2, neq_3, neq_4, neq_5, neq_6, neq_7, neq_60, neq_61, Nat.not_lt_zero, and_self, and_true, true_and, or_true, true_or, if_true, if_false, or_self, and_false, false_and, or_false, false_or, not_true_eq_false, not_false_eq_true, ne_eq, reduceCtorEq, eq_self, bind_s, c10, c01, c20, c30, c40, cl_0, inb_0, onI_l, onI_r, onV_l, onV_r, b_G_mergedResult_65, b_G_mergedResult_106, c34, ↓bq c0, ↓bq pu, neq]
    split <;> rfl
  rw [E]
  unfold reF
  simp (disch := omega) only [ngt_2]
  grind
theorem st_mr {b : Nat} {σ : Sg} (h : SN b σ) {t : Nat} (ht : t < 61) {u v s f a d : Nat → Int32} (H : HC σ t u v s f a d) {n i : Nat} (hi : i < 3) (nv : Int32) : b_G_mergedResult_2 σ (n + 1) 0 (nI t) nv (nI i) = if fiF u v f nv i then some (s i) else b_G_mergedResult_2 σ n 0 (nI t) nv (nI (i + 1)) := by
  have hn : ¬ 3 ≤ i := by omega
  obtain ⟨h1, h2, h3⟩ := H i hi
  have ph := p_resultOf h hi ht
  rw [h3.ro] at ph
  have p4 := p_has h hi ht 4
  by_cases z1 : u i = 0
  · rw [if_neg (fun z => z.1 z1)]
    simp (disch := omega) only [↓reduceIte, ↓wi_e, ↓wn_e, ↓rc_i, ↓rc_l, ↓h.q0, ↓h.q1, ↓h.q2, ↓h.qr, ↓h.qc, ↓h.qr2, ↓h.qr3, ↓h.qr4, ↓h.qr5, ↓h.qc5, ↓h.qt, ↓h.qt4, ↓h.qt5, ↓h.qt6, ↓h.qm2, ↓h.qm3, ↓h.qm4, ↓h.qm5, ↓h.qm6, ↓h.qm7, ↓h.qm8, ↓h.qm9, ↓h.qm10, ↓h.qm11, ↓h.qm12, ↓h.qm13, ↓h.qm14, ↓h.qm15, ↓h.qm16, ↓h.qm17, ↓h.qm18, ↓h.qm19, ↓h.qm20, ↓h.qm21, ↓h.qm22, ↓h.qm23, ↓h.qm24, h.lt, kd_0, kd_1, kd_2, kd_3, kd_r, kd_ra, kd_rb, kd_rc, kd_rd, ln_ra, ln_rb, ln_rc, ln_rd, kd_c, kd_ca, ln_ca, kd_t, kd_ta, kd_tb, kd_tc, ln_ta, ln_tb, ln_tc, ln_1, ln_2, ln_3, ln_51, kd_27, kd_28, kd_29, kd_30, kd_31, kd_32, kd_33, kd_34, kd_35, kd_36, kd_37, kd_38, kd_39, kd_40, kd_41, kd_42, kd_43, kd_44, kd_45, kd_46, kd_47, kd_48, kd_49, kd_50, kd_51, ln_28, ln_29, ln_30, ln_31, ln_32, ln_33, ln_34, ln_35, ln_36, ln_37, ln_38, ln_39, ln_40, ln_41, ln_42, ln_43, ln_44, ln_45, ln_46, ln_47, ln_48, ln_49, ln_50, inb_n, cl_n, g_n_s_i, g_n_s_l, mul_3, mul_4, mul_6, mul_61, nI_add, nI_1, nle_0, nle_1, nle_2, nle_3, nle_4, nle_5, nle_6, nle_7, nle_60, nle_61, nlt_0, nlt_1, nlt_2, nlt_3, nlt_4, nlt_5, nlt_6, nlt_7, nlt_60, nlt_61, nge_0, nge_1, nge_2, nge_3, nge_4, nge_5, nge_6, nge_7, nge_60, nge_61, ngt_0, ngt_1, ngt_2, ngt_3, ngt_4, ngt_5, ngt_6, ngt_7, ngt_60, ngt_61, neq_0, neq_1, neq_2, neq_3, neq_4, neq_5, neq_6, neq_7, neq_60, neq_61, Nat.not_lt_zero, and_self, and_true, true_and, or_true, true_or, if_true, if_false, or_self, and_false, false_and, or_false, false_or, not_true_eq_false, not_false_eq_true, ne_eq, reduceCtorEq, eq_self, bind_s, c10, c01, c20, c30, c40, cl_0, inb_0, onI_l, onI_r, onV_l, onV_r, b_G_mergedResult_2, b_G_mergedResult_57, hn, h1, z1]
  by_cases z2 : v i = nv
  · by_cases z3 : f i = 0
    · rw [if_neg (fun z => z.2.2 z3)]
      have y := h3.h4.mpr z3
      simp (disch := omega) only [↓reduceIte, ↓wi_e, ↓wn_e, ↓rc_i, ↓rc_l, ↓h.q0, ↓h.q1, ↓h.q2, ↓h.qr, ↓h.qc, ↓h.qr2, ↓h.qr3, ↓h.qr4, ↓h.qr5, ↓h.qc5, ↓h.qt, ↓h.qt4, ↓h.qt5, ↓h.qt6, ↓h.qm2, ↓h.qm3, ↓h.qm4, ↓h.qm5, ↓h.qm6, ↓h.qm7, ↓h.qm8, ↓h.qm9, ↓h.qm10, ↓h.qm11, ↓h.qm12, ↓h.qm13, ↓h.qm14, ↓h.qm15, ↓h.qm16, ↓h.qm17, ↓h.qm18, ↓h.qm19, ↓h.qm20, ↓h.qm21, ↓h.qm22, ↓h.qm23, ↓h.qm24, h.lt, kd_0, kd_1, kd_2, kd_3, kd_r, kd_ra, kd_rb, kd_rc, kd_rd, ln_ra, ln_rb, ln_rc, ln_rd, kd_c, kd_ca, ln_ca, kd_t, kd_ta, kd_tb, kd_tc, ln_ta, ln_tb, ln_tc, ln_1, ln_2, ln_3, ln_51, kd_27, kd_28, kd_29, kd_30, kd_31, kd_32, kd_33, kd_34, kd_35, kd_36, kd_37, kd_38, kd_39, kd_40, kd_41, kd_42, kd_43, kd_44, kd_45, kd_46, kd_47, kd_48, kd_49, kd_50, kd_51, ln_28, ln_29, ln_30, ln_31, ln_32, ln_33, ln_34, ln_35, ln_36, ln_37, ln_38, ln_39, ln_40, ln_41, ln_42, ln_43, ln_44, ln_45, ln_46, ln_47, ln_48, ln_49, ln_50, inb_n, cl_n, g_n_s_i, g_n_s_l, mul_3, mul_4, mul_6, mul_61, nI_add, nI_1, nle_0, nle_1, nle_2, nle_3, nle_4, nle_5, nle_6, nle_7, nle_60, nle_61, nlt_0, nlt_1, nlt_2, nlt_3, nlt_4, nlt_5, nlt_6, nlt_7, nlt_60, nlt_61, nge_0, nge_1, nge_2, nge_3, nge_4, nge_5, nge_6, nge_7, nge_60, nge_61, ngt_0, ngt_1, ngt_2, ngt_3, ngt_4, ngt_5, ngt_6, ngt_7, ngt_60, ngt_61, neq_0, neq_1, neq_2, neq_3, neq_4, neq_5, neq_6, neq_7, neq_60, neq_61, Nat.not_lt_zero, and_self, and_true, true_and, or_true, true_or, if_true, if_false, or_self, and_false, false_and, or_false, false_or, not_true_eq_false, not_false_eq_true, ne_eq, reduceCtorEq, eq_self, bind_s, c10, c01, c20, c30, c40, cl_0, inb_0, onI_l, onI_r, onV_l, onV_r, b_G_mergedResult_2, b_G_mergedResult_57, hn, h1, z1, h2, z2, ↓bq p4, y]
    · rw [if_pos ⟨z1, z2, z3⟩]
      have y : ¬ (if g_i σ (8 + 5 * i) t = -1 then (0 : Int32) else if g_i σ (8 + 5 * i) t &&& 4 = 0 then 0 else 1) = 0 := fun y => z3 (h3.h4.mp y)
      simp (disch := omega) only [↓reduceIte, ↓wi_e, ↓wn_e, ↓rc_i, ↓rc_l, ↓h.q0, ↓h.q1, ↓h.q2, ↓h.qr, ↓h.qc, ↓h.qr2, ↓h.qr3, ↓h.qr4, ↓h.qr5, ↓h.qc5, ↓h.qt, ↓h.qt4, ↓h.qt5, ↓h.qt6, ↓h.qm2, ↓h.qm3, ↓h.qm4, ↓h.qm5, ↓h.qm6, ↓h.qm7, ↓h.qm8, ↓h.qm9, ↓h.qm10, ↓h.qm11, ↓h.qm12, ↓h.qm13, ↓h.qm14, ↓h.qm15, ↓h.qm16, ↓h.qm17, ↓h.qm18, ↓h.qm19, ↓h.qm20, ↓h.qm21, ↓h.qm22, ↓h.qm23, ↓h.qm24, h.lt, kd_0, kd_1, kd_2, kd_3, kd_r, kd_ra, kd_rb, kd_rc, kd_rd, ln_ra, ln_rb, ln_rc, ln_rd, kd_c, kd_ca, ln_ca, kd_t, kd_ta, kd_tb, kd_tc, ln_ta, ln_tb, ln_tc, ln_1, ln_2, ln_3, ln_51, kd_27, kd_28, kd_29, kd_30, kd_31, kd_32, kd_33, kd_34, kd_35, kd_36, kd_37, kd_38, kd_39, kd_40, kd_41, kd_42, kd_43, kd_44, kd_45, kd_46, kd_47, kd_48, kd_49, kd_50, kd_51, ln_28, ln_29, ln_30, ln_31, ln_32, ln_33, ln_34, ln_35, ln_36, ln_37, ln_38, ln_39, ln_40, ln_41, ln_42, ln_43, ln_44, ln_45, ln_46, ln_47, ln_48, ln_49, ln_50, inb_n, cl_n, g_n_s_i, g_n_s_l, mul_3, mul_4, mul_6, mul_61, nI_add, nI_1, nle_0, nle_1, nle_2, nle_3, nle_4, nle_5, nle_6, nle_7, nle_60, nle_61, nlt_0, nlt_1, nlt_2, nlt_3, nlt_4, nlt_5, nlt_6, nlt_7, nlt_60, nlt_61, nge_0, nge_1, nge_2, nge_3, nge_4, nge_5, nge_6, nge_7, nge_60, nge_61, ngt_0, ngt_1, ngt_2, ngt_3, ngt_4, ngt_5, ngt_6, ngt_7, ngt_60, ngt_61, neq_0, neq_1, neq_2, neq_3, neq_4, neq_5, neq_6, neq_7, neq_60, neq_61, Nat.not_lt_zero, and_self, and_true, true_and, or_true, true_or, if_true, if_false, or_self, and_false, false_and, or_false, false_or, not_true_eq_false, not_false_eq_true, ne_eq, reduceCtorEq, eq_self, bind_s, c10, c01, c20, c30, c40, cl_0, inb_0, onI_l, onI_r, onV_l, onV_r, b_G_mergedResult_2, b_G_mergedResult_57, hn, h1, z1, h2, z2, ↓bq p4, y, ↓bq ph]
  · rw [if_neg (fun z => z2 z.2.1)]
    simp (disch := omega) only [↓reduceIte, ↓wi_e, ↓wn_e, ↓rc_i, ↓rc_l, ↓h.q0, ↓h.q1, ↓h.q2, ↓h.qr, ↓h.qc, ↓h.qr2, ↓h.qr3, ↓h.qr4, ↓h.qr5, ↓h.qc5, ↓h.qt, ↓h.qt4, ↓h.qt5, ↓h.qt6, ↓h.qm2, ↓h.qm3, ↓h.qm4, ↓h.qm5, ↓h.qm6, ↓h.qm7, ↓h.qm8, ↓h.qm9, ↓h.qm10, ↓h.qm11, ↓h.qm12, ↓h.qm13, ↓h.qm14, ↓h.qm15, ↓h.qm16, ↓h.qm17, ↓h.qm18, ↓h.qm19, ↓h.qm20, ↓h.qm21, ↓h.qm22, ↓h.qm23, ↓h.qm24, h.lt, kd_0, kd_1, kd_2, kd_3, kd_r, kd_ra, kd_rb, kd_rc, kd_rd, ln_ra, ln_rb, ln_rc, ln_rd, kd_c, kd_ca, ln_ca, kd_t, kd_ta, kd_tb, kd_tc, ln_ta, ln_tb, ln_tc, ln_1, ln_2, ln_3, ln_51, kd_27, kd_28, kd_29, kd_30, kd_31, kd_32, kd_33, kd_34, kd_35, kd_36, kd_37, kd_38, kd_39, kd_40, kd_41, kd_42, kd_43, kd_44, kd_45, kd_46, kd_47, kd_48, kd_49, kd_50, kd_51, ln_28, ln_29, ln_30, ln_31, ln_32, ln_33, ln_34, ln_35, ln_36, ln_37, ln_38, ln_39, ln_40, ln_41, ln_42, ln_43, ln_44, ln_45, ln_46, ln_47, ln_48, ln_49, ln_50, inb_n, cl_n, g_n_s_i, g_n_s_l, mul_3, mul_4, mul_6, mul_61, nI_add, nI_1, nle_0, nle_1, nle_2, nle_3, nle_4, nle_5, nle_6, nle_7, nle_60, nle_61, nlt_0, nlt_1, nlt_2, nlt_3, nlt_4, nlt_5, nlt_6, nlt_7, nlt_60, nlt_61, nge_0, nge_1, nge_2, nge_3, nge_4, nge_5, nge_6, nge_7, nge_60, nge_61, ngt_0, ngt_1, ngt_2, ngt_3, ngt_4, ngt_5, ngt_6, ngt_7, ngt_60, ngt_61, neq_0, neq_1, neq_2, neq_3, neq_4, neq_5, neq_6, neq_7, neq_60, neq_61, Nat.not_lt_zero, and_self, and_true, true_and, or_true, true_or, if_true, if_false, or_self, and_false, false_and, or_false, false_or, not_true_eq_false, not_false_eq_true, ne_eq, reduceCtorEq, eq_self, bind_s, c10, c01, c20, c30, c40, cl_0, inb_0, onI_l, onI_r, onV_l, onV_r, b_G_mergedResult_2, b_G_mergedResult_57, hn, h1, z1, h2, z2]
theorem p_mr {b : Nat} {σ : Sg} (h : SN b σ) {t : Nat} (ht : t < 61) {u v s f a d : Nat → Int32} (H : HC σ t u v s f a d) (nv : Int32) : f_G_mergedResult σ 0 (nI t) nv = some (mrF u v s f nv) := by
  show b_G_mergedResult_2 σ (999 + 1) 0 (nI t) nv (nI 0) = _
  have E : b_G_mergedResult_2 σ (996 + 1) 0 (nI t) nv (nI (0 + 1 + 1 + 1)) = some (reF u s) := by
    rw [← p_rest h ht H]
    generalize (996 : Nat) = n
    simp only [b_G_mergedResult_2]
    rw [if_pos (by decide)]
  rw [st_mr h ht H (n := 998 + 1) (by omega), st_mr h ht H (n := 997 + 1) (by omega), st_mr h ht H (n := 996 + 1) (by omega), E]
  unfold mrF
  grind

