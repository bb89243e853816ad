/-! The world as class, reference and answer cell are new. -/
def inI : Option Sg := (f_G_init (s_n s_0) 0).bind (fun a => (f_M_init (s_n a) 27).bind (fun b => some (s_n b)))
def sI : Sg := inI.getD s_0
theorem j_g : (f_G_init (s_n s_0) 0).isSome = true := by decide +kernel
theorem j_g1 : (f_G_init (s_n s_0) 0).map (fun a => a.1) = some 27 := by decide +kernel
theorem j_some : inI.isSome = true := by decide +kernel
theorem j_n : sI.1 = 52 := by decide +kernel
theorem j_0 : g_r sI 0 0 = some 1 ∧ g_r sI 0 1 = some 2 ∧ g_r sI 0 2 = some 3 ∧ g_i sI 0 3 = 0 ∧ g_i sI 27 1 = 0 := by decide +kernel
theorem j_r : ∀ i, i < 3 → g_r sI 1 i = some (4 + 5 * i) ∧ g_r sI (4 + 5 * i) 2 = some (5 + 5 * i) ∧ g_r sI (4 + 5 * i) 3 = some (6 + 5 * i) ∧ g_r sI (4 + 5 * i) 4 = some (7 + 5 * i) ∧ g_r sI (4 + 5 * i) 5 = some (8 + 5 * i) ∧ g_i sI (4 + 5 * i) 0 = 1 ∧ g_i sI (4 + 5 * i) 1 = 0 ∧ g_i sI 42 i = 1 ∧ g_i sI 43 i = 0 := by decide +kernel
theorem j_c : ∀ c, c < 4 → g_r sI 2 c = some (19 + 2 * c) ∧ g_r sI (19 + 2 * c) 5 = some (20 + 2 * c) ∧ g_r sI (19 + 2 * c) 0 = none ∧ g_i sI (19 + 2 * c) 1 = 0 ∧ g_i sI (19 + 2 * c) 2 = 0 ∧ g_i sI 36 c = 0 ∧ g_i sI 39 c = 0 := by decide +kernel
theorem j_m : ∀ j, j < 25 → 2 ≤ j → g_r sI 27 j = some (26 + j) := by decide +kernel
theorem j_k : ∀ i, i < 3 → ∀ k, k < 6 → g_i sI (5 + 5 * i) k = 0 ∧ g_i sI (6 + 5 * i) k = 0 ∧ g_i sI (7 + 5 * i) k = 0 ∧ g_i sI 44 (6 * i + k) = 0 ∧ g_i sI 45 (6 * i + k) = 0 ∧ g_i sI 46 (6 * i + k) = 0 := by decide +kernel
theorem j_q : ∀ i, i < 3 → ∀ t, t < 61 → g_i sI (8 + 5 * i) t = -1 ∧ g_i sI 47 (61 * i + t) = -1 := by decide +kernel
theorem j_z : ∀ i, i < 3 → ∀ t, t < 61 → g_i sI 48 (61 * i + t) = 0 ∧ g_i sI 49 (61 * i + t) = 0 ∧ g_i sI 50 (61 * i + t) = 0 := by decide +kernel
theorem j_t : ∀ t, t < 61 → g_i sI 28 t = 0 ∧ g_i sI 29 t = 0 ∧ g_i sI 33 t = 0 := by decide +kernel
theorem j_R : R 0 (fun _ => 0) (fun _ => 0) sI := by
  refine ⟨⟨j_n, by omega, j_0.1, j_0.2.1, j_0.2.2.1, fun i hi => (j_r i hi).1, fun c hc => (j_c c hc).1, fun i hi => (j_r i hi).2.1, fun i hi => (j_r i hi).2.2.1, fun i hi => (j_r i hi).2.2.2.1, fun i hi => (j_r i hi).2.2.2.2.1, fun c hc => (j_c c hc).2.1, fun t h1 h2 => absurd h1 (by omega), fun t h1 h2 => absurd h1 (by omega), fun t h1 h2 => absurd h1 (by omega), fun t h1 h2 => absurd h1 (by omega), fun j h1 h2 => j_m j h2 h1⟩, ?_, ?_, ?_, ?_, ?_, ?_, ?_, ?_, ?_, ?_, ?_, ?_, ?_, ?_, ?_, ?_, ?_⟩
  · exact ⟨j_0.2.2.2.1, j_0.2.2.2.2⟩
  · intro i hi
    obtain ⟨_, _, _, _, _, e1, e2, e3, e4⟩ := j_r i hi
    rw [e1, e2, e3, e4]
    exact ⟨rfl, rfl, Or.inr rfl⟩
  · intro i hi k hk
    obtain ⟨e1, e2, e3, e4, e5, e6⟩ := j_k i hi k hk
    rw [e1, e2, e3, e4, e5, e6]
    exact ⟨rfl, rfl, rfl⟩
  · intro i hi k hk
    obtain ⟨e1, e2, e3, e4, e5, e6⟩ := j_k i hi k hk
    rw [e1, e2]
    exact ⟨Int32.le_refl _, fun _ => rfl⟩
  · intro i hi j hj k hk _
    rw [(j_k i hi k hk).2.1, (j_k j hj k hk).2.1]
  · intro i hi t ht
    exact Or.inl ⟨(j_q i hi t ht).1, (j_q i hi t ht).2, (j_z i hi t ht).1, (j_z i hi t ht).2.1, (j_z i hi t ht).2.2⟩
  · exact ⟨fun i hi t ht _ => (j_q i hi t ht).1, fun t _ ht => j_t t ht⟩
  · intro c hc
    obtain ⟨_, _, _, e1, e2, e3, e4⟩ := j_c c hc
    rw [e1, e2, e3, e4]
    exact ⟨rfl, ⟨0, by omega, rfl⟩, rfl, fun q => absurd q (by decide)⟩
  · intro c hc
    obtain ⟨_, _, e0, e1, e2, e3, e4⟩ := j_c c hc
    exact ⟨fun _ => e0, fun q => absurd e3 q⟩
  · intro c hc q
    exact absurd (j_c c hc).2.2.2.2.2.1 q
  · intro t h1 h2
    exact absurd h1 (by omega)
  · intro c hc d hd _ q
    exact absurd (j_c c hc).2.2.2.2.2.1 q
  · intro c hc t ht _
    rw [(j_c c hc).2.2.2.2.2.1]
    refine ⟨fun q => absurd q (by decide), fun q => ?_⟩
    rcases q with q | q | q
    · exact absurd q (by decide)
    · exact absurd q (by decide)
    · exact absurd q (by decide)
  · intro i hi t h1 h2
    exact absurd h1 (by omega)
  · intro t h1 h2
    exact absurd h1 (by omega)
  · intro t h1 h2
    exact absurd h1 (by omega)
  · refine ⟨fun c hc => ?_, fun t h1 h2 => absurd h1 (by omega), fun i hi k hk => ?_⟩
    · rw [(j_c c hc).2.2.2.2.2.2]
      decide
    · rw [(j_k i hi k hk).1]
      refine ⟨by decide, by decide, fun c hc _ => ?_⟩
      rw [(j_c c hc).2.2.2.2.2.2]
      decide
theorem j_l (N : Nat) (xs : Nat → Int32) : f_L_law N xs s_0 = b_L_law_23 N xs 1000 sI 0 27 51 0 := by
  obtain ⟨a, ea⟩ := Option.isSome_iff_exists.mp j_g
  have a1 : a.1 = 27 := by
    have q := j_g1
    rw [ea] at q
    exact Option.some.inj q
  have hs := j_some
  have e : inI = (f_M_init (s_n a) 27).bind (fun b => some (s_n b)) := by
    unfold inI
    exact bq ea _
  rw [e] at hs
  obtain ⟨w, ew⟩ := Option.isSome_iff_exists.mp hs
  obtain ⟨d, ed, _⟩ := Option.bind_eq_some_iff.mp ew
  have eI : sI = s_n d := by
    unfold sI
    rw [e, ed]
    rfl
  have d1 : d.1 = 51 := by
    have q := j_n
    rw [eI] at q
    exact Nat.succ.inj q
  have s01 : s_0.1 = 0 := rfl
  unfold f_L_law
  rw [s01, if_pos ⟨rfl, by decide⟩, wi_e, bq ea, a1, if_pos ⟨rfl, by decide⟩, wi_e, bq ed, d1, if_pos ⟨⟨rfl, rfl⟩, by decide⟩, wi_e, eI]
