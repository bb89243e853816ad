/-! check of the reference; prepare. -/
theorem fl2 {X : Type} {F : Nat → Nat → Int32 → Int32 → X} {G : Int32 → Int32 → X} {c : Nat} {A B : Nat → Prop} (step : ∀ n j a s, j < c → ∃ a2 s2, F (n + 1) j a s = F n (j + 1) a2 s2 ∧ (a = 1 ∨ A j → a2 = 1) ∧ (a = 0 → ¬ A j → a2 = 0) ∧ (s = 1 ∨ B j → s2 = 1) ∧ (s = 0 → ¬ B j → s2 = 0)) (en : ∀ n a s, F (n + 1) c a s = G a s) :
    ∀ d n j a s, d + j = c → d < n → ∃ a2 s2, F n j a s = G a2 s2 ∧ ((a = 1 ∨ ∃ p, j ≤ p ∧ p < c ∧ A p) → a2 = 1) ∧ (a = 0 → ¬ (∃ p, j ≤ p ∧ p < c ∧ A p) → a2 = 0) ∧ ((s = 1 ∨ ∃ p, j ≤ p ∧ p < c ∧ B p) → s2 = 1) ∧ (s = 0 → ¬ (∃ p, j ≤ p ∧ p < c ∧ B p) → s2 = 0) := by
  intro d
  induction d with
  | zero =>
    intro n j a s hj hn
    obtain ⟨n, rfl⟩ : ∃ q, n = q + 1 := ⟨n - 1, by omega⟩
    obtain rfl : j = c := by omega
    refine ⟨a, s, en n a s, ?_, fun z _ => z, ?_, fun z _ => z⟩
    · rintro (z | ⟨p, z1, z2, _⟩)
      · exact z
      · omega
    · rintro (z | ⟨p, z1, z2, _⟩)
      · exact z
      · omega
  | succ d ih =>
    intro n j a s hj hn
    obtain ⟨n, rfl⟩ : ∃ q, n = q + 1 := ⟨n - 1, by omega⟩
    obtain ⟨a2, s2, e, h1, h2, h3, h4⟩ := step n j a s (by omega)
    obtain ⟨a3, s3, e', k1, k2, k3, k4⟩ := ih n (j + 1) a2 s2 (by omega) (by omega)
    have T : ∀ C : Nat → Prop, (∃ p, j ≤ p ∧ p < c ∧ C p) ↔ (C j ∨ ∃ p, j + 1 ≤ p ∧ p < c ∧ C p) := by
      intro C
      constructor
      · rintro ⟨p, z1, z2, z3⟩
        by_cases z : p = j
        · subst z
          exact Or.inl z3
        · exact Or.inr ⟨p, by omega, z2, z3⟩
      · rintro (z | ⟨p, z1, z2, z3⟩)
        · exact ⟨j, by omega, by omega, z⟩
        · exact ⟨p, by omega, z2, z3⟩
    rw [T A, T B]
    refine ⟨a3, s3, e.trans e', ?_, ?_, ?_, ?_⟩
    · rintro (z | z | z)
      · exact k1 (Or.inl (h1 (Or.inl z)))
      · exact k1 (Or.inl (h1 (Or.inr z)))
      · exact k1 (Or.inr z)
    · intro z1 z2
      exact k2 (h2 z1 (fun y => z2 (Or.inl y))) (fun y => z2 (Or.inr y))
    · rintro (z | z | z)
      · exact k3 (Or.inl (h3 (Or.inl z)))
      · exact k3 (Or.inl (h3 (Or.inr z)))
      · exact k3 (Or.inr z)
    · intro z1 z2
      exact k4 (h4 z1 (fun y => z2 (Or.inl y))) (fun y => z2 (Or.inr y))
theorem p_mcheck {b : Nat} {M W : Nat → Nat} {σ : Sg} (h : R b M W σ) {Z : Sg} (hs : SN b Z) (hZ : ∀ a j, 28 ≤ a → a ≤ 50 → g_i Z a j = g_i σ a j) (hm : g_i Z 27 1 = nI b) {i t : Nat} (hi : i < 3) (ht1 : 1 ≤ t) (ht2 : t ≤ b) : ∃ v, f_M_check Z 27 (nI t) (nI i) = some v ∧ Rs4 (cA M σ i t) (cB b M W σ i t) (cC b M W σ i t) v := by
  have hb6 := h.r0.b60
  obtain ⟨q1, q2, q3, q4⟩ := h.r11 t ht1 ht2
  obtain ⟨r1, r2, r3, r4, r5, r6⟩ := q3
  obtain ⟨w1, w2, w3, w4, w5, w6, w7⟩ := q4
  have ec : g_i Z 29 t = nI (pc (M t)) := by rw [hZ _ _ (by omega) (by omega)]; exact r4
  have ew : g_i Z 33 t = nI (pc (W t)) := by rw [hZ _ _ (by omega) (by omega)]; exact w4
  have n10 : ¬ (1 : Int32) = 0 := by decide
  -- the reads
  obtain ⟨a2, s2, e1, a3, a4, s3, s4⟩ := fl2 (F := fun n j a s => b_M_check_13 Z n 27 (nI t) (nI i) a s 0 (nI (4 * t + j))) (G := fun a s => b_M_check_120 Z 1000 27 (nI t) (nI i) a s 0 (nI (4 * t))) (c := pc (M t)) (A := fun j => ∃ k, k < 6 ∧ g_i σ 30 (4 * t + j) = nI k ∧ (M t).testBit k = true ∧ (g_i σ (49 + 4 * t) k < g_i σ (5 + 5 * i) k ∨ ¬ g_i σ (49 + 4 * t) k < g_i σ 28 t)) (B := fun j => ∃ k, k < 6 ∧ g_i σ 30 (4 * t + j) = nI k ∧ (∃ u, 1 ≤ u ∧ u < b + 1 ∧ (u ≠ t ∧ PR σ i u ∧ (W u).testBit k = true))) (by
      intro n j a s hj
      obtain ⟨k, hk, bk, ek, ev, _⟩ := r5 j hj
      obtain ⟨v, ew1, ew2, ew3⟩ := p_wba h hs hZ hm hi (t := t) (k := k) (by omega) hk
      have ek' : g_i Z 30 (4 * t + j) = nI k := by rw [hZ _ _ (by omega) (by omega)]; exact ek
      refine ⟨_, _, st_c13 hs hi (by omega) r2 hj hk ec ek' ew1, ?_, ?_, ?_, ?_⟩
      · intro z
        rcases z with z | ⟨k', hk', z1, z2, z3⟩
        · rw [z, if_neg n10]
        · rw [ek, neq (by omega) (by omega)] at z1
          subst z1
          rw [hZ 31 _ (by omega) (by omega), hZ 44 _ (by omega) (by omega), hZ 28 _ (by omega) (by omega), ev, (h.r3 i hi k hk).1]
          split
          · split
            · rfl
            · rename_i y
              rw [if_neg (z3.resolve_left y)]
          · rfl
      · intro z1 z2
        have y1 : ¬ g_i σ (49 + 4 * t) k < g_i σ (5 + 5 * i) k := fun y => z2 ⟨k, hk, ek, bk, Or.inl y⟩
        have y2 : g_i σ (49 + 4 * t) k < g_i σ 28 t := Classical.byContradiction (fun y => z2 ⟨k, hk, ek, bk, Or.inr y⟩)
        rw [hZ 31 _ (by omega) (by omega), hZ 44 _ (by omega) (by omega), hZ 28 _ (by omega) (by omega), ev, (h.r3 i hi k hk).1, if_pos z1, if_neg y1, if_pos y2]
      · intro z
        rcases z with z | ⟨k', hk', z1, z2⟩
        · rw [z, if_neg n10]
        · rw [ek, neq (by omega) (by omega)] at z1
          subst z1
          rw [ew2 z2, if_neg n10, ite_self]
      · intro z1 z2
        rw [if_pos z1, ew3 (fun y => z2 ⟨k, hk, ek, y⟩), if_pos rfl]) (by
      intro n a s
      exact en_c13 hs (by omega) r2 ec) (pc (M t)) 1000 0 0 0 (by omega) (by omega)
  -- the writes
  obtain ⟨c2, _, e2, c3, c4, _, _⟩ := fl2 (F := fun n j r _ => b_M_check_120 Z n 27 (nI t) (nI i) a2 s2 r (nI (4 * t + j))) (G := fun r _ => some (if a2 = 0 then (if s2 = 0 then (if r = 0 then 0 else 3) else 1) else 2)) (c := pc (W t)) (A := fun j => ∃ k, k < 6 ∧ g_i σ 34 (4 * t + j) = nI k ∧ ((∃ u, 1 ≤ u ∧ u < b + 1 ∧ (u ≠ t ∧ PR σ i u ∧ ¬ g_i σ 28 u ≤ g_i σ 28 t ∧ (M u).testBit k = true)) ∨ ¬ g_i σ (7 + 5 * i) k ≤ g_i σ 28 t ∨ g_i σ 28 t < g_i σ (5 + 5 * i) k)) (B := fun _ => False) (by
      intro n j a s hj
      obtain ⟨k, hk, bk, ek, ev⟩ := w5 j hj
      obtain ⟨v, ew1, ew2, ew3⟩ := p_rbl h hs hZ hm hi (t := t) (k := k) (by omega) hk
      have ek' : g_i Z 34 (4 * t + j) = nI k := by rw [hZ _ _ (by omega) (by omega)]; exact ek
      rw [(h.r3 i hi k hk).2.2] at ew3
      refine ⟨_, s, st_c120 hs hi (by omega) w2 hj hk ew ek' ew1, ?_, ?_, fun z => z.resolve_right id, fun z _ => z⟩
      · intro z
        rw [hZ 44 _ (by omega) (by omega), hZ 28 _ (by omega) (by omega), (h.r3 i hi k hk).1]
        rcases z with z | ⟨k', hk', z1, z2⟩
        · rw [z, if_neg n10]
        · rw [ek, neq (by omega) (by omega)] at z1
          subst z1
          rcases z2 with z2 | z2 | z2
          · rw [ew2 z2, if_neg n10, ite_self]
          · by_cases y : ∃ u, 1 ≤ u ∧ u < b + 1 ∧ (u ≠ t ∧ PR σ i u ∧ ¬ g_i σ 28 u ≤ g_i σ 28 t ∧ (M u).testBit k = true)
            · rw [ew2 y, if_neg n10, ite_self]
            · rw [ew3 y, if_neg z2, if_neg n10, ite_self]
          · have y : ¬ g_i σ (5 + 5 * i) k ≤ g_i σ 28 t := by grind
            rw [if_neg y, ite_self, ite_self]
      · intro z1 z2
        rw [hZ 44 _ (by omega) (by omega), hZ 28 _ (by omega) (by omega), (h.r3 i hi k hk).1]
        have y1 : ¬ (∃ u, 1 ≤ u ∧ u < b + 1 ∧ (u ≠ t ∧ PR σ i u ∧ ¬ g_i σ 28 u ≤ g_i σ 28 t ∧ (M u).testBit k = true)) := fun y => z2 ⟨k, hk, ek, Or.inl y⟩
        have y2 : g_i σ (7 + 5 * i) k ≤ g_i σ 28 t := Classical.byContradiction (fun y => z2 ⟨k, hk, ek, Or.inr (Or.inl y)⟩)
        have y3 : g_i σ (5 + 5 * i) k ≤ g_i σ 28 t := by
          have : ¬ g_i σ 28 t < g_i σ (5 + 5 * i) k := fun y => z2 ⟨k, hk, ek, Or.inr (Or.inr y)⟩
          grind
        rw [if_pos z1, ew3 y1, if_pos y2, if_pos rfl, if_pos y3]) (by
      intro n a s
      exact en_c120 hs (by omega) w2 ew) (pc (W t)) 1000 0 0 0 (by omega) (by omega)
  have E : f_M_check Z 27 (nI t) (nI i) = some (if a2 = 0 then (if s2 = 0 then (if c2 = 0 then 0 else 3) else 1) else 2) := by
    have e0 : f_M_check Z 27 (nI t) (nI i) = b_M_check_13 Z 1000 27 (nI t) (nI i) 0 0 0 (nI (4 * t + 0)) := by
      simp only [f_M_check, wn_e, mul_4, Nat.add_zero]
    rw [e0]
    exact e1.trans e2
  refine ⟨_, E, ?_⟩
  -- A
  have iA : (∃ p, 0 ≤ p ∧ p < pc (M t) ∧ ∃ k, k < 6 ∧ g_i σ 30 (4 * t + p) = nI k ∧ (M t).testBit k = true ∧ (g_i σ (49 + 4 * t) k < g_i σ (5 + 5 * i) k ∨ ¬ g_i σ (49 + 4 * t) k < g_i σ 28 t)) ↔ cA M σ i t := by
    unfold cA
    constructor
    · rintro ⟨p, _, hp, k, hk, z1, z2, z3⟩
      exact ⟨k, by omega, hk, z2, z3⟩
    · rintro ⟨k, _, hk, z2, z3⟩
      obtain ⟨j, hj, e⟩ := r6 k hk z2
      exact ⟨j, by omega, hj, k, hk, e, z2, z3⟩
  have iB : (∃ p, 0 ≤ p ∧ p < pc (M t) ∧ ∃ k, k < 6 ∧ g_i σ 30 (4 * t + p) = nI k ∧ (∃ u, 1 ≤ u ∧ u < b + 1 ∧ (u ≠ t ∧ PR σ i u ∧ (W u).testBit k = true))) ↔ cB b M W σ i t := by
    unfold cB
    constructor
    · rintro ⟨p, _, hp, k, hk, z1, u, hu1, hu2, y1, y2, y3⟩
      obtain ⟨k', hk', bk, ek, _⟩ := r5 p hp
      rw [ek, neq (by omega) (by omega)] at z1
      subst z1
      exact ⟨u, hu1, hu2, y1, y2, k', hk, bk, y3⟩
    · rintro ⟨u, hu1, hu2, y1, y2, k, hk, z2, z3⟩
      obtain ⟨j, hj, e⟩ := r6 k hk z2
      exact ⟨j, by omega, hj, k, hk, e, u, hu1, hu2, y1, y2, z3⟩
  have iC : (∃ p, 0 ≤ p ∧ p < pc (W t) ∧ ∃ k, k < 6 ∧ g_i σ 34 (4 * t + p) = nI k ∧ ((∃ u, 1 ≤ u ∧ u < b + 1 ∧ (u ≠ t ∧ PR σ i u ∧ ¬ g_i σ 28 u ≤ g_i σ 28 t ∧ (M u).testBit k = true)) ∨ ¬ g_i σ (7 + 5 * i) k ≤ g_i σ 28 t ∨ g_i σ 28 t < g_i σ (5 + 5 * i) k)) ↔ cC b M W σ i t := by
    unfold cC
    constructor
    · rintro ⟨p, _, hp, k, hk, z1, z2⟩
      obtain ⟨k', hk', bk, ek, _⟩ := w5 p hp
      rw [ek, neq (by omega) (by omega)] at z1
      subst z1
      rcases z2 with ⟨u, hu1, hu2, y1, y2, y3, y4⟩ | z2 | z2
      · exact Or.inr ⟨u, hu1, hu2, y1, y2, y3, k', hk, bk, y4⟩
      · exact Or.inl ⟨k', by omega, hk, bk, Or.inr z2⟩
      · exact Or.inl ⟨k', by omega, hk, bk, Or.inl z2⟩
    · rintro (⟨k, _, hk, z1, z2⟩ | ⟨u, hu1, hu2, y1, y2, y3, k, hk, z1, z2⟩)
      · obtain ⟨j, hj, e⟩ := w6 k hk z1
        exact ⟨j, by omega, hj, k, hk, e, Or.inr z2.symm⟩
      · obtain ⟨j, hj, e⟩ := w6 k hk z1
        exact ⟨j, by omega, hj, k, hk, e, Or.inl ⟨u, hu1, hu2, y1, y2, y3, z2⟩⟩
  rw [iA] at a3 a4
  rw [iB] at s3 s4
  rw [iC] at c3 c4
  refine ⟨fun z => ?_, fun z1 z2 => ?_, fun z1 z2 z3 => ?_, fun z1 z2 z3 => ?_⟩
  · rw [a3 (Or.inr z), if_neg n10]
  · rw [a4 rfl z1, if_pos rfl, s3 (Or.inr z2), if_neg n10]
  · rw [a4 rfl z1, if_pos rfl, s4 rfl z2, if_pos rfl, c3 (Or.inr z3), if_neg n10]
  · rw [a4 rfl z1, if_pos rfl, s4 rfl z2, if_pos rfl, c4 rfl z3, if_pos rfl]

