/-! change: class and reference agree. -/
theorem Oc.nA {u v s f a d : Nat → Int32} {nv : Int32} {i : Nat} {s' f' a' d' : Int32} (h : Oc u v s f a d nv i s' f' a' d') (n : ¬ HA u a) : a' = a i := by
  obtain ⟨h1, h2, h3, h4, h5⟩ := h
  by_cases z0 : u i = 0
  · exact (h1 z0).2.2.1
  by_cases z2 : HA u d
  · exact (h3 z0 n z2).2.2.1
  by_cases z3 : KN u s
  · exact (h4 z0 n z2 z3).2.2.1
  · exact (h5 z0 n z2 z3).2.2.1
theorem Oc.nD {u v s f a d : Nat → Int32} {nv : Int32} {i : Nat} {s' f' a' d' : Int32} (h : Oc u v s f a d nv i s' f' a' d') (n : ¬ HA u a) (n2 : ¬ HA u d) : d' = d i := by
  obtain ⟨h1, h2, h3, h4, h5⟩ := h
  by_cases z0 : u i = 0
  · exact (h1 z0).2.2.2
  by_cases z3 : KN u s
  · exact (h4 z0 n n2 z3).2.2.2
  · exact (h5 z0 n n2 z3).2.2.2
theorem Qr.mk {r s f a d : Int32} (q : Qr r s f a d) : (f ≠ 0 → 0 ≤ s) ∧ (a = 0 ∨ a = 1) ∧ (a ≠ 0 ∨ d ≠ 0 → 0 ≤ s) := by
  rcases q with ⟨_, e2, e3, e4, e5⟩ | ⟨n, hn, e1, e2, e3, e4, e5⟩
  · refine ⟨fun z => absurd e3 z, Or.inl e4, fun z => ?_⟩
    rcases z with z | z
    · exact absurd e4 z
    · exact absurd e5 z
  · have p : 0 ≤ s := by rw [e2]; exact nI_pos' (by omega)
    refine ⟨fun _ => p, ?_, fun _ => p⟩
    obtain z | z : n / 8 % 2 = 0 ∨ n / 8 % 2 = 1 := by omega
    · left; rw [e4, z]; rfl
    · right; rw [e4, z]; rfl
theorem r_change {b : Nat} {M W : Nat → Nat} {σ τ : Sg} (h : R b M W σ) {u v : Nat → Int32} {S F A D p x l : Nat → Nat → Int32} {nx : Int32} (hup : u 0 ≠ 0 ∨ u 1 ≠ 0 ∨ u 2 ≠ 0)
    (hQ : ∀ i, i < 3 → ∀ q, 1 ≤ q → q ≤ b → g_i σ 49 (61 * i + q) = A q i ∧ g_i σ 50 (61 * i + q) = D q i)
    (hp : ∀ i, i < 3 → ∀ q, q < 6 → g_i σ (5 + 5 * i) q = p q i ∧ g_i σ (6 + 5 * i) q = x q i ∧ g_i σ (7 + 5 * i) q = l q i)
    (s0 : SN b τ) (gr : ∀ a j, g_r τ a j = g_r σ a j)
    (fr : ∀ a j, (a = 0 ∨ (a = 27 ∧ j = 1) ∨ (18 < a ∧ a < 27) ∨ (28 ≤ a ∧ a ≤ 42) ∨ 51 ≤ a ∨ ((a = 4 ∨ a = 9 ∨ a = 14) ∧ j = 0)) → g_i τ a j = g_i σ a j)
    (V1 : ∀ i, i < 3 → g_i τ (4 + 5 * i) 1 = (if u i = 0 then v i else nx) ∧ g_i τ 43 i = (if u i = 0 then v i else nx))
    (V2 : ∀ i, i < 3 → ∀ q, q < 6 → g_i τ (5 + 5 * i) q = (if u i = 0 then p q i else MxF u (p q)) ∧ g_i τ (6 + 5 * i) q = (if u i = 0 then x q i else VxF u (p q) (x q)) ∧ g_i τ (7 + 5 * i) q = (if u i = 0 then l q i else nvF u (l q)))
    (V2' : ∀ i, i < 3 → ∀ q, q < 6 → g_i τ 44 (6 * i + q) = (if u i = 0 then p q i else MxF u (p q)) ∧ g_i τ 45 (6 * i + q) = (if u i = 0 then x q i else VxF u (p q) (x q)) ∧ g_i τ 46 (6 * i + q) = (if u i = 0 then l q i else nvF u (l q)))
    (V3 : ∀ i, i < 3 → ∀ q, 1 ≤ q → q ≤ b → ∃ s' f' a' d', Oc u v (S q) (F q) (A q) (D q) (nvF u v) i s' f' a' d' ∧ Qr (g_i τ (8 + 5 * i) q) s' f' a' d')
    (V3' : ∀ i, i < 3 → ∀ q, 1 ≤ q → q ≤ b → Oc u v (S q) (F q) (A q) (D q) (nvF u v) i (g_i τ 47 (61 * i + q)) (g_i τ 48 (61 * i + q)) (g_i τ 49 (61 * i + q)) (g_i τ 50 (61 * i + q)))
    (V4 : ∀ i, i < 3 → ∀ q, q < 61 → (q < 1 ∨ b < q) → g_i τ (8 + 5 * i) q = g_i σ (8 + 5 * i) q ∧ g_i τ 47 (61 * i + q) = g_i σ 47 (61 * i + q) ∧ g_i τ 48 (61 * i + q) = g_i σ 48 (61 * i + q) ∧ g_i τ 49 (61 * i + q) = g_i σ 49 (61 * i + q) ∧ g_i τ 50 (61 * i + q) = g_i σ 50 (61 * i + q)) :
    R b M W τ := by
  have hb6 := h.r0.b60
  have hK : ∀ k, k < 6 → ∀ i, i < 3 → 0 ≤ p k i ∧ (p k i = 0 → x k i = 0) := by
    intro k hk i hi
    have q := h.r4 i hi k hk
    rw [(hp i hi k hk).1, (hp i hi k hk).2.1] at q
    exact q
  have pk : ∀ i, i < 3 → ∀ k, k < 6 → ∃ j, j < 3 ∧ g_i τ (5 + 5 * i) k = g_i σ (5 + 5 * j) k ∧ g_i τ (6 + 5 * i) k = g_i σ (6 + 5 * j) k := by
    intro i hi k hk
    obtain ⟨e1, e2, _⟩ := V2 i hi k hk
    by_cases z : u i = 0
    · rw [if_pos z] at e1 e2
      exact ⟨i, hi, by rw [e1, (hp i hi k hk).1], by rw [e2, (hp i hi k hk).2.1]⟩
    · rw [if_neg z] at e1 e2
      obtain ⟨j, hj, _, m1, m2⟩ := Mx_k hup (hK k hk)
      exact ⟨j, hj, by rw [e1, (hp j hj k hk).1, m1], by rw [e2, (hp j hj k hk).2.1, m2]⟩
  have bd : ∀ y, Bd σ y → Bd τ y := by
    intro y q
    refine ⟨q.1, q.2.1, fun c hc e => ?_⟩
    rw [fr 39 c (by omega)]
    exact q.2.2 c hc e
  refine ⟨s0, ?_, ?_, ?_, ?_, ?_, ?_, ?_, ?_, ?_, ?_, ?_, ?_, ?_, ?_, ?_, ?_, ?_⟩
  · -- Z1
    exact ⟨by rw [fr 0 3 (by omega)]; exact h.r1.1, by rw [fr 27 1 (by omega)]; exact h.r1.2⟩
  · -- Z2
    intro i hi
    obtain ⟨e1, e2, e3⟩ := h.r2 i hi
    refine ⟨?_, (V1 i hi).2.trans (V1 i hi).1.symm, ?_⟩
    · rw [fr 42 i (by omega), fr (4 + 5 * i) 0 (by omega)]
      exact e1
    · rw [fr (4 + 5 * i) 0 (by omega)]
      exact e3
  · -- Z3
    intro i hi k hk
    obtain ⟨a1, a2, a3⟩ := V2 i hi k hk
    obtain ⟨b1, b2, b3⟩ := V2' i hi k hk
    exact ⟨b1.trans a1.symm, b2.trans a2.symm, b3.trans a3.symm⟩
  · -- Z4
    intro i hi k hk
    obtain ⟨j, hj, e1, e2⟩ := pk i hi k hk
    rw [e1, e2]
    exact h.r4 j hj k hk
  · -- Z5
    intro i hi i2 hi2 k hk
    obtain ⟨j, hj, e1, e2⟩ := pk i hi k hk
    obtain ⟨j2, hj2, f1, f2⟩ := pk i2 hi2 k hk
    rw [e1, e2, f1, f2]
    exact h.r5 j hj j2 hj2 k hk
  · -- Z6
    intro i hi t ht
    by_cases z : 1 ≤ t ∧ t ≤ b
    · obtain ⟨s', f', a', d', oo, qq⟩ := V3 i hi t z.1 z.2
      obtain ⟨e1, e2, e3, e4⟩ := Oc.one oo (V3' i hi t z.1 z.2)
      rw [← e1, ← e2, ← e3, ← e4]
      exact qq
    · obtain ⟨e0, e1, e2, e3, e4⟩ := V4 i hi t ht (by omega)
      rw [e0, e1, e2, e3, e4]
      exact h.r6 i hi t ht
  · -- Z7
    refine ⟨fun i hi t ht hb => ?_, fun t hb ht => ?_⟩
    · rw [(V4 i hi t ht (by omega)).1]
      exact h.r7.1 i hi t ht hb
    · rw [fr 28 t (by omega), fr 29 t (by omega), fr 33 t (by omega)]
      exact h.r7.2 t hb ht
  · -- Z8
    intro c hc
    have q := h.r8 c hc
    revert q
    simp (disch := omega) only [fr, gr]
    exact id
  · -- Z9
    intro c hc
    have q := h.r9 c hc
    revert q
    simp (disch := omega) only [fr, gr]
    exact id
  · -- Z10
    intro c hc
    have q := h.r10 c hc
    revert q
    simp (disch := omega) only [fr, gr]
    exact id
  · -- Z11
    intro t h1 h2
    have q := h.r11 t h1 h2
    revert q
    simp (disch := omega) only [fr, Rl, Wl]
    exact id
  · -- Z12
    intro c hc d hd
    have q := h.r12 c hc d hd
    revert q
    simp (disch := omega) only [fr, gr]
    exact id
  · -- Z13
    intro c hc t ht
    have q := h.r13 c hc t ht
    revert q
    simp (disch := omega) only [fr, gr]
    intro q e
    obtain ⟨q1, q2⟩ := q e
    refine ⟨q1, fun y i hi => ?_⟩
    have q2 := q2 y
    by_cases z : 1 ≤ t ∧ t ≤ b
    · have nA : ¬ HA u (A t) := by
        rintro ⟨j, _, hj, _, w⟩
        rw [← (hQ j hj t z.1 z.2).1] at w
        exact w (q2 j hj).1
      have nD : ¬ HA u (D t) := by
        rintro ⟨j, _, hj, _, w⟩
        rw [← (hQ j hj t z.1 z.2).2] at w
        exact w (q2 j hj).2
      have oo := V3' i hi t z.1 z.2
      rw [oo.nA nA, oo.nD nA nD, ← (hQ i hi t z.1 z.2).1, ← (hQ i hi t z.1 z.2).2]
      exact q2 i hi
    · obtain ⟨e0, e1, e2, e3, e4⟩ := V4 i hi t ht (by omega)
      rw [e3, e4]
      exact q2 i hi
  · -- Z14
    intro i hi t h1 h2 k hk y
    rw [fr 28 t (by omega)]
    obtain ⟨e1, _, e3⟩ := V2 i hi k hk
    have oo := V3' i hi t h1 h2
    by_cases z : u i = 0
    · rw [if_pos z] at e1 e3
      rw [(oo.1 z).2.2.1, ← (hQ i hi t h1 h2).1] at y
      have q := h.r14 i hi t h1 h2 k hk y
      rw [e1, e3, ← (hp i hi k hk).1, ← (hp i hi k hk).2.2]
      exact q
    · rw [if_neg z] at e1 e3
      by_cases a : HA u (A t)
      · obtain ⟨j, _, hj, uj, w⟩ := a
        rw [← (hQ j hj t h1 h2).1] at w
        have q := h.r14 j hj t h1 h2 k hk w
        rw [(hp j hj k hk).1, (hp j hj k hk).2.2] at q
        rw [e1, e3]
        exact ⟨fun m => Int32.le_trans (q.1 m) ((Mx_p u (p k) (x k)).2.1 j hj uj), fun m => Int32.le_trans (q.2 m) ((nv_p u (l k)).2.1 j hj uj)⟩
      · rw [oo.nA a] at y
        exact absurd ⟨i, Nat.zero_le _, hi, z, y⟩ a
  · -- Z15
    intro t h1 h2 i hi k hk
    obtain ⟨j, hj, e1, e2⟩ := pk i hi k hk
    rw [e1, e2, fr 28 t (by omega), fr (51 + 4 * t) k (by omega)]
    exact h.r15 t h1 h2 j hj k hk
  · -- Z16
    intro t h1 h2 w h3 h4
    rw [fr 28 t (by omega), fr 28 w (by omega)]
    exact h.r16 t h1 h2 w h3 h4
  · -- Z17
    refine ⟨fun c hc => ?_, fun t h1 h2 => ?_, fun i hi k hk => ?_⟩
    · rw [fr 39 c (by omega)]
      exact h.r17.1 c hc
    · rw [fr 28 t (by omega)]
      exact bd _ (h.r17.2.1 t h1 h2)
    · obtain ⟨j, hj, e1, _⟩ := pk i hi k hk
      rw [e1]
      exact bd _ (h.r17.2.2 j hj k hk)
theorem o_change {b : Nat} {M W : Nat → Nat} {σ : Sg} (h : R b M W σ) : OpI (f_L_change σ 0 51) (fun s => f_M_change s 27) (fun v => v.toInt64) := by
  have h0 := h.r0
  have hb6 := h0.b60
  obtain ⟨u, hu⟩ : ∃ u : Nat → Int32, ∀ i, g_i σ (4 + 5 * i) 0 = u i := ⟨fun i => g_i σ (4 + 5 * i) 0, fun _ => rfl⟩
  obtain ⟨v, hv⟩ : ∃ v : Nat → Int32, ∀ i, g_i σ (4 + 5 * i) 1 = v i := ⟨fun i => g_i σ (4 + 5 * i) 1, fun _ => rfl⟩
  have lu := uc_le u
  by_cases c2 : 2 ≤ uc u
  · obtain ⟨S, hS⟩ : ∃ S : Nat → Nat → Int32, ∀ q i, g_i σ 47 (61 * i + q) = S q i := ⟨fun q i => g_i σ 47 (61 * i + q), fun _ _ => rfl⟩
    obtain ⟨F, hF⟩ : ∃ S : Nat → Nat → Int32, ∀ q i, g_i σ 48 (61 * i + q) = S q i := ⟨fun q i => g_i σ 48 (61 * i + q), fun _ _ => rfl⟩
    obtain ⟨A, hA⟩ : ∃ S : Nat → Nat → Int32, ∀ q i, g_i σ 49 (61 * i + q) = S q i := ⟨fun q i => g_i σ 49 (61 * i + q), fun _ _ => rfl⟩
    obtain ⟨D, hD⟩ : ∃ S : Nat → Nat → Int32, ∀ q i, g_i σ 50 (61 * i + q) = S q i := ⟨fun q i => g_i σ 50 (61 * i + q), fun _ _ => rfl⟩
    obtain ⟨p, hp⟩ : ∃ S : Nat → Nat → Int32, ∀ q i, g_i σ (5 + 5 * i) q = S q i := ⟨fun q i => g_i σ (5 + 5 * i) q, fun _ _ => rfl⟩
    obtain ⟨x, hx⟩ : ∃ S : Nat → Nat → Int32, ∀ q i, g_i σ (6 + 5 * i) q = S q i := ⟨fun q i => g_i σ (6 + 5 * i) q, fun _ _ => rfl⟩
    obtain ⟨l, hl⟩ : ∃ S : Nat → Nat → Int32, ∀ q i, g_i σ (7 + 5 * i) q = S q i := ⟨fun q i => g_i σ (7 + 5 * i) q, fun _ _ => rfl⟩
    have hQ : ∀ i, i < 3 → ∀ q, 1 ≤ q → q ≤ b → Qr (g_i σ (8 + 5 * i) q) (S q i) (F q i) (A q i) (D q i) := by
      intro i hi q h1 h2
      rw [← hS q i, ← hF q i, ← hA q i, ← hD q i]
      exact h.r6 i hi q (by omega)
    have hup := uc_up c2
    have hK : ∀ k, k < 6 → ∀ i, i < 3 → 0 ≤ p k i ∧ (p k i = 0 → x k i = 0) := by
      intro k hk i hi
      have q := h.r4 i hi k hk
      rw [hp k i, hx k i] at q
      exact q
    obtain ⟨σ1, e1, s1, r1, F1, N1, K1, Q1⟩ := p_gchange h0 h.r1.1 (u := u) (v := v) (S := S) (F := F) (A := A) (D := D) (p := p) (x := x) (l := l) (fun i _ => ⟨hu i, hv i⟩) hQ (fun i _ q _ => ⟨hp q i, hx q i, hl q i⟩) c2
    have G : ∀ a j, 18 < a → g_i σ1 a j = g_i σ a j := fun a j q => F1 a j (by omega)
    have mg : mgv (s_l σ1 51 0 (gv σ + 1).toInt64) = gv σ := by
      have a0 : g_i σ 43 0 = g_i σ 4 1 := (h.r2 0 (by omega)).2.1
      have a1 : g_i σ 43 1 = g_i σ 9 1 := (h.r2 1 (by omega)).2.1
      have a2 : g_i σ 43 2 = g_i σ 14 1 := (h.r2 2 (by omega)).2.1
      unfold mgv gv
      rw [g_i_s_l, g_i_s_l, g_i_s_l, G 43 0 (by omega), G 43 1 (by omega), G 43 2 (by omega), a0, a1, a2]
    generalize hx1 : gv σ + 1 = nx at *
    have sZ : SN b (s_l σ1 51 0 nx.toInt64) := s1
    generalize hZ : s_l σ1 51 0 nx.toInt64 = Z at *
    have GZ : ∀ a j, g_i Z a j = g_i σ1 a j := by intro a j; rw [← hZ]; rfl
    have GY : ∀ a j, 18 < a → (a ≠ 27 ∨ j ≠ 0) → g_i (s_i Z 27 0 0) a j = g_i σ a j := fun a j q1 q2 => by rw [gi_n q2, GZ, G a j q1]
    have U : ∀ i, i < 3 → g_i σ 42 i = u i := fun i hi => (h.r2 i hi).1.trans (hu i)
    have W' : ∀ i, i < 3 → g_i σ 43 i = v i := fun i hi => (h.r2 i hi).2.1.trans (hv i)
    obtain ⟨Z1, m1, t1, q1, G1, J1, O1⟩ := lp_mm (b := b) (u := u) (v := v) (S := S) (F := F) (A := A) (D := D) (p := p) (x := x) (l := l) (Mx := fun k => MxF u (p k)) (Vx := fun k => VxF u (p k) (x k)) (Lx := fun k => nvF u (l k)) (st := fun q => g_i σ 28 q) (W := W) (M := M) (cW := fun q => pc (W q)) (cM := fun q => pc (M q)) (V := fun q => g_i σ (51 + 4 * q)) nx hb6
      (fun i hi k hk => (hK k hk i hi).1)
      (fun q h1 h2 i hi => (hQ i hi q h1 h2).mk)
      (by
        intro q h1 h2 ha k hk
        obtain ⟨j, _, hj, uj, w⟩ := ha
        rw [← hA q j] at w
        have z := h.r14 j hj q h1 h2 k hk w
        rw [hp k j, hl k j] at z
        refine ⟨fun m => ⟨Int32.le_trans (z.1 m) ((Mx_p u (p k) (x k)).2.1 j hj uj), fun y1 y2 => ?_⟩, fun m => Int32.le_trans (z.2 m) ((nv_p u (l k)).2.1 j hj uj)⟩
        obtain ⟨i0, hi0, _, p0, x0⟩ := Mx_k hup (hK k hk)
        have y3 := h.r15 q h1 h2 i0 hi0 k hk (by
          intro e
          rw [show g_i σ 28 q = 0 from e] at y1
          exact absurd y1 (by decide)) (by rw [hp k i0, p0]; exact y2.symm)
        rw [hx k i0, x0] at y3
        exact y3.symm)
      b 1000 1 (s_i Z 27 0 0) (by omega) (by omega) (by omega) sZ (by rw [GY 27 1 (by omega) (by omega)]; exact h.r1.2) (by
        intro i hi
        rw [GY 42 i (by omega) (by omega), GY 43 i (by omega) (by omega)]
        exact ⟨U i hi, W' i hi⟩) (by
        intro q h1 h2
        have z1 := (h.r11 q h1 h2).2.2.2.lw
        have z2 := (h.r11 q h1 h2).2.2.1.lr
        refine ⟨GY 28 q (by omega) (by omega), ?_, ?_⟩
        · revert z1
          unfold Lw
          simp (disch := omega) only [GY]
          exact id
        · revert z2
          unfold Lr
          simp (disch := omega) only [GY]
          exact id) (by
        intro i hi q h1 h2
        rw [GY 47 _ (by omega) (by omega), GY 48 _ (by omega) (by omega), GY 49 _ (by omega) (by omega), GY 50 _ (by omega) (by omega)]
        exact ⟨hS q i, hF q i, hA q i, hD q i⟩) (by
        intro i hi k hk
        rw [GY 44 _ (by omega) (by omega), GY 45 _ (by omega) (by omega), GY 46 _ (by omega) (by omega), (h.r3 i hi k hk).1, (h.r3 i hi k hk).2.1, (h.r3 i hi k hk).2.2, hp k i, hx k i, hl k i]
        refine ⟨fun _ => ⟨rfl, rfl, rfl⟩, fun y => ⟨Int32.le_refl _, (Mx_p u (p k) (x k)).2.1 i hi y, fun e => ?_, Int32.le_refl _, (nv_p u (l k)).2.1 i hi y⟩⟩
        obtain ⟨i0, hi0, _, p0, x0⟩ := Mx_k hup (hK k hk)
        have y3 := h.r5 i hi i0 hi0 k hk (by rw [hp k i, hp k i0, p0]; exact e)
        rw [hx k i, hx k i0, x0] at y3
        exact y3)
    obtain ⟨Z2, m2, t2, q2, G2, _, K2⟩ := lp_mkey (b := b) (u := u) (p := p) (x := x) (l := l) nx hup hK 6 1000 0 Z1 (by omega) (by omega) t1 (by
      intro i hi
      rw [G1 42 i (by omega), GY 42 i (by omega) (by omega)]
      exact U i hi) (fun i hi q _ hq => J1 i hi q hq)
    have CH : ∀ a j, (a < 43 ∨ 50 < a) → (a ≠ 27 ∨ j ≠ 0) → g_i (Vm3 nx Z2) a j = g_i σ1 a j := by
      intro a j y1 y2
      rw [Vm3_n (by omega), G2 a j (by omega), G1 a j (by omega), gi_n y2, GZ]
    refine ⟨0, Z, nx, Vm3 nx Z2, b, M, W, ?_, ?_, ?_, ?_, ?_, ?_⟩
    · rw [← hZ]
      simp (disch := omega) only [↓reduceIte, ↓wi_e, ↓wn_e, ↓rc_i, ↓rc_l, ↓h0.q0, ↓h0.q1, ↓h0.q2, ↓h0.qr, ↓h0.qc, ↓h0.qr2, ↓h0.qr3, ↓h0.qr4, ↓h0.qr5, ↓h0.qc5, ↓h0.qt, ↓h0.qt4, ↓h0.qt5, ↓h0.qt6, ↓h0.qm2, ↓h0.qm3, ↓h0.qm4, ↓h0.qm5, ↓h0.qm6, ↓h0.qm7, ↓h0.qm8, ↓h0.qm9, ↓h0.qm10, ↓h0.qm11, ↓h0.qm12, ↓h0.qm13, ↓h0.qm14, ↓h0.qm15, ↓h0.qm16, ↓h0.qm17, ↓h0.qm18, ↓h0.qm19, ↓h0.qm20, ↓h0.qm21, ↓h0.qm22, ↓h0.qm23, ↓h0.qm24, h0.lt, kd_0, kd_1, kd_2, kd_3, kd_r, kd_ra, kd_rb, kd_rc, kd_rd, ln_ra, ln_rb, ln_rc, ln_rd, kd_c, kd_ca, ln_ca, kd_t, kd_ta, kd_tb, kd_tc, ln_ta, ln_tb, ln_tc, ln_1, ln_2, ln_3, ln_51, kd_27, kd_28, kd_29, kd_30, kd_31, kd_32, kd_33, kd_34, kd_35, kd_36, kd_37, kd_38, kd_39, kd_40, kd_41, kd_42, kd_43, kd_44, kd_45, kd_46, kd_47, kd_48, kd_49, kd_50, kd_51, ln_28, ln_29, ln_30, ln_31, ln_32, ln_33, ln_34, ln_35, ln_36, ln_37, ln_38, ln_39, ln_40, ln_41, ln_42, ln_43, ln_44, ln_45, ln_46, ln_47, ln_48, ln_49, ln_50, inb_n, cl_n, g_n_s_i, g_n_s_l, mul_3, mul_4, mul_6, mul_61, nI_add, nI_1, nle_0, nle_1, nle_2, nle_3, nle_4, nle_5, nle_6, nle_7, nle_60, nle_61, nlt_0, nlt_1, nlt_2, nlt_3, nlt_4, nlt_5, nlt_6, nlt_7, nlt_60, nlt_61, nge_0, nge_1, nge_2, nge_3, nge_4, nge_5, nge_6, nge_7, nge_60, nge_61, ngt_0, ngt_1, ngt_2, ngt_3, ngt_4, ngt_5, ngt_6, ngt_7, ngt_60, ngt_61, neq_0, neq_1, neq_2, neq_3, neq_4, neq_5, neq_6, neq_7, neq_60, neq_61, Nat.not_lt_zero, and_self, and_true, true_and, or_true, true_or, if_true, if_false, or_self, and_false, false_and, or_false, false_or, not_true_eq_false, not_false_eq_true, ne_eq, reduceCtorEq, eq_self, bind_s, c10, c01, c20, c30, c40, cl_0, inb_0, onI_l, onI_r, onV_l, onV_r, f_L_change, ↓bq e1, s1.lt]
    · rw [sZ.1]; omega
    · show f_M_change Z 27 = _
      rw [p_c4 sZ (u := u) (fun i hi => by rw [GZ, G 42 i (by omega)]; exact U i hi), if_pos c2, c43_0 sZ, mg, hx1]
      exact m1.trans (m2.trans (p_110 t2 _))
    · rw [Vm3_n (by omega), G2 27 0 (by omega), G1 27 0 (by omega), g270]
    · intro _
      show g_l Z2 51 0 = _
      rw [(q2 51 0).2, (q1 51 0).2]
      show g_l Z 51 0 = _
      rw [← hZ, g510]
    · refine r_change h (u := u) (v := v) (S := S) (F := F) (A := A) (D := D) (p := p) (x := x) (l := l) (nx := nx) hup (fun i _ q _ _ => ⟨hA q i, hD q i⟩) (fun i _ q _ => ⟨hp q i, hx q i, hl q i⟩) t2 ?_ ?_ ?_ ?_ ?_ ?_ ?_ ?_
      · intro a j
        show g_r Z2 a j = _
        rw [(q2 a j).1, (q1 a j).1]
        show g_r Z a j = _
        rw [← hZ]
        exact (r1 a j).1
      · intro a j y
        rw [CH a j (by omega) (by omega)]
        exact F1 a j (by omega)
      · intro i hi
        refine ⟨?_, ?_⟩
        · rw [CH _ _ (by omega) (by omega)]
          exact N1 i hi
        · rw [Vm3_v hi, G2 42 i (by omega), G1 42 i (by omega), G2 43 i (by omega), G1 43 i (by omega), GY 42 i (by omega) (by omega), GY 43 i (by omega) (by omega), U i hi, W' i hi]
      · intro i hi q hq
        rw [CH _ _ (by omega) (by omega), CH _ _ (by omega) (by omega), CH _ _ (by omega) (by omega)]
        exact K1 i hi q hq
      · intro i hi q hq
        rw [Vm3_n (by omega), Vm3_n (by omega), Vm3_n (by omega)]
        exact K2 i hi q (by omega) hq
      · intro i hi q y1 y2
        rw [CH _ _ (by omega) (by omega)]
        exact Q1 i hi q y1 y2
      · intro i hi q y1 y2
        rw [Vm3_n (by omega), Vm3_n (by omega), Vm3_n (by omega), Vm3_n (by omega), G2 47 _ (by omega), G2 48 _ (by omega), G2 49 _ (by omega), G2 50 _ (by omega)]
        exact O1 q y1 y2 i hi
      · intro i hi q y1 y2
        refine ⟨?_, ?_, ?_, ?_, ?_⟩
        · rw [CH _ _ (by omega) (by omega)]
          exact F1 _ _ (by omega)
        · rw [Vm3_n (by omega), G2 47 _ (by omega), G1 47 _ (Or.inr ⟨by omega, by omega, fun i' hi' q' y3 y4 => by omega⟩), GY 47 _ (by omega) (by omega)]
        · rw [Vm3_n (by omega), G2 48 _ (by omega), G1 48 _ (Or.inr ⟨by omega, by omega, fun i' hi' q' y3 y4 => by omega⟩), GY 48 _ (by omega) (by omega)]
        · rw [Vm3_n (by omega), G2 49 _ (by omega), G1 49 _ (Or.inr ⟨by omega, by omega, fun i' hi' q' y3 y4 => by omega⟩), GY 49 _ (by omega) (by omega)]
        · rw [Vm3_n (by omega), G2 50 _ (by omega), G1 50 _ (Or.inr ⟨by omega, by omega, fun i' hi' q' y3 y4 => by omega⟩), GY 50 _ (by omega) (by omega)]
  · refine OpI.bad h (k := 1) (by decide) (v := 0) ?_ ?_
    · simp (disch := omega) only [↓reduceIte, ↓wi_e, ↓wn_e, ↓rc_i, ↓rc_l, ↓h0.q0, ↓h0.q1, ↓h0.q2, ↓h0.qr, ↓h0.qc, ↓h0.qr2, ↓h0.qr3, ↓h0.qr4, ↓h0.qr5, ↓h0.qc5, ↓h0.qt, ↓h0.qt4, ↓h0.qt5, ↓h0.qt6, ↓h0.qm2, ↓h0.qm3, ↓h0.qm4, ↓h0.qm5, ↓h0.qm6, ↓h0.qm7, ↓h0.qm8, ↓h0.qm9, ↓h0.qm10, ↓h0.qm11, ↓h0.qm12, ↓h0.qm13, ↓h0.qm14, ↓h0.qm15, ↓h0.qm16, ↓h0.qm17, ↓h0.qm18, ↓h0.qm19, ↓h0.qm20, ↓h0.qm21, ↓h0.qm22, ↓h0.qm23, ↓h0.qm24, h0.lt, kd_0, kd_1, kd_2, kd_3, kd_r, kd_ra, kd_rb, kd_rc, kd_rd, ln_ra, ln_rb, ln_rc, ln_rd, kd_c, kd_ca, ln_ca, kd_t, kd_ta, kd_tb, kd_tc, ln_ta, ln_tb, ln_tc, ln_1, ln_2, ln_3, ln_51, kd_27, kd_28, kd_29, kd_30, kd_31, kd_32, kd_33, kd_34, kd_35, kd_36, kd_37, kd_38, kd_39, kd_40, kd_41, kd_42, kd_43, kd_44, kd_45, kd_46, kd_47, kd_48, kd_49, kd_50, kd_51, ln_28, ln_29, ln_30, ln_31, ln_32, ln_33, ln_34, ln_35, ln_36, ln_37, ln_38, ln_39, ln_40, ln_41, ln_42, ln_43, ln_44, ln_45, ln_46, ln_47, ln_48, ln_49, ln_50, inb_n, cl_n, g_n_s_i, g_n_s_l, mul_3, mul_4, mul_6, mul_61, nI_add, nI_1, nle_0, nle_1, nle_2, nle_3, nle_4, nle_5, nle_6, nle_7, nle_60, nle_61, nlt_0, nlt_1, nlt_2, nlt_3, nlt_4, nlt_5, nlt_6, nlt_7, nlt_60, nlt_61, nge_0, nge_1, nge_2, nge_3, nge_4, nge_5, nge_6, nge_7, nge_60, nge_61, ngt_0, ngt_1, ngt_2, ngt_3, ngt_4, ngt_5, ngt_6, ngt_7, ngt_60, ngt_61, neq_0, neq_1, neq_2, neq_3, neq_4, neq_5, neq_6, neq_7, neq_60, neq_61, Nat.not_lt_zero, and_self, and_true, true_and, or_true, true_or, if_true, if_false, or_self, and_false, false_and, or_false, false_or, not_true_eq_false, not_false_eq_true, ne_eq, reduceCtorEq, eq_self, bind_s, c10, c01, c20, c30, c40, cl_0, inb_0, onI_l, onI_r, onV_l, onV_r, f_L_change, f_G_change, ↓bq (p_upCount h0 (fun i _ => hu i)), c2, sx_0, sx_1, sx_2, sx_3, sx_4, sx_5, sx_6, sx_7, sx_8, sx_9, sx_10, sx_11]
    · show f_M_change σ 27 = _
      rw [p_c4 h0 (u := u) (fun i hi => (h.r2 i hi).1.trans (hu i)), if_neg c2, c43_1 h0]
