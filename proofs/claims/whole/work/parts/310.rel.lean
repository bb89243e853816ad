/-! The relation of class and reference. -/
/-- a record: the class's number, and the reference's result and marks -/
def Qr (r s f a d : Int32) : Prop := (r = -1 ∧ s = -1 ∧ f = 0 ∧ a = 0 ∧ d = 0) ∨ ∃ n, n < 32 ∧ r = nI n ∧ s = nI (n % 4) ∧ f = nI (n / 4 % 2) ∧ a = nI (n / 8 % 2) ∧ d = nI (n / 16 % 2)
def Rl (σ : Sg) (t m : Nat) : Prop := m < 64 ∧ pc m ≤ 4 ∧ g_i σ (48 + 4 * t) 2 = nI m ∧ g_i σ 29 t = nI (pc m) ∧ (∀ j, j < pc m → ∃ k, k < 6 ∧ m.testBit k = true ∧ g_i σ 30 (4 * t + j) = nI k ∧ g_i σ 31 (4 * t + j) = g_i σ (49 + 4 * t) k ∧ g_i σ 32 (4 * t + j) = g_i σ (50 + 4 * t) k) ∧ (∀ k, k < 6 → m.testBit k = true → ∃ j, j < pc m ∧ g_i σ 30 (4 * t + j) = nI k)
def Wl (σ : Sg) (t m : Nat) : Prop := m < 64 ∧ pc m ≤ 4 ∧ g_i σ (48 + 4 * t) 3 = nI m ∧ g_i σ 33 t = nI (pc m) ∧ (∀ j, j < pc m → ∃ k, k < 6 ∧ m.testBit k = true ∧ g_i σ 34 (4 * t + j) = nI k ∧ g_i σ 35 (4 * t + j) = g_i σ (51 + 4 * t) k) ∧ (∀ k, k < 6 → m.testBit k = true → ∃ j, j < pc m ∧ g_i σ 34 (4 * t + j) = nI k) ∧ (∀ i j, i < pc m → j < pc m → g_i σ 34 (4 * t + i) = g_i σ 34 (4 * t + j) → i = j)
def Z1 (b : Nat) (σ : Sg) : Prop := g_i σ 0 3 = nI b ∧ g_i σ 27 1 = nI b
def Z2 (σ : Sg) : Prop := ∀ i, i < 3 → g_i σ 42 i = g_i σ (4 + 5 * i) 0 ∧ g_i σ 43 i = g_i σ (4 + 5 * i) 1 ∧ (g_i σ (4 + 5 * i) 0 = 0 ∨ g_i σ (4 + 5 * i) 0 = 1)
def Z3 (σ : Sg) : Prop := ∀ i, i < 3 → ∀ k, k < 6 → g_i σ 44 (6 * i + k) = g_i σ (5 + 5 * i) k ∧ g_i σ 45 (6 * i + k) = g_i σ (6 + 5 * i) k ∧ g_i σ 46 (6 * i + k) = g_i σ (7 + 5 * i) k
def Z4 (σ : Sg) : Prop := ∀ i, i < 3 → ∀ k, k < 6 → 0 ≤ g_i σ (5 + 5 * i) k ∧ (g_i σ (5 + 5 * i) k = 0 → g_i σ (6 + 5 * i) k = 0)
def Z5 (σ : Sg) : Prop := ∀ i, i < 3 → ∀ j, j < 3 → ∀ k, k < 6 → g_i σ (5 + 5 * i) k = g_i σ (5 + 5 * j) k → g_i σ (6 + 5 * i) k = g_i σ (6 + 5 * j) k
def Z6 (σ : Sg) : Prop := ∀ i, i < 3 → ∀ t, t < 61 → Qr (g_i σ (8 + 5 * i) t) (g_i σ 47 (61 * i + t)) (g_i σ 48 (61 * i + t)) (g_i σ 49 (61 * i + t)) (g_i σ 50 (61 * i + t))
def Z7 (b : Nat) (σ : Sg) : Prop := (∀ i, i < 3 → ∀ t, t < 61 → b < t → g_i σ (8 + 5 * i) t = -1) ∧ (∀ t, b < t → t < 61 → g_i σ 28 t = 0 ∧ g_i σ 29 t = 0 ∧ g_i σ 33 t = 0)
def Z8 (σ : Sg) : Prop := ∀ c, c < 4 → g_i σ (19 + 2 * c) 1 = g_i σ 36 c ∧ (∃ s, s ≤ 5 ∧ g_i σ 36 c = nI s) ∧ g_i σ (19 + 2 * c) 2 = g_i σ 39 c ∧ (g_i σ 36 c = 3 → g_i σ (19 + 2 * c) 3 = g_i σ 38 c ∧ ∃ q, q < 4 ∧ g_i σ 38 c = nI q)
def Z9 (b : Nat) (σ : Sg) : Prop := ∀ c, c < 4 → (g_i σ 36 c = 0 → g_r σ (19 + 2 * c) 0 = none) ∧ (g_i σ 36 c ≠ 0 → ∃ t, 1 ≤ t ∧ t ≤ b ∧ g_i σ 37 c = nI t ∧ g_r σ (19 + 2 * c) 0 = some (48 + 4 * t))
def Ra (x : Int32) : Prop := x = -1 ∨ x = 0 ∨ x = 1 ∨ x = 2 ∨ x = 3
def Z10 (σ : Sg) : Prop := ∀ c, c < 4 → g_i σ 36 c ≠ 0 → (∀ r, r < 3 → g_i σ (20 + 2 * c) r = g_i σ 40 (3 * c + r) ∧ Ra (g_i σ (20 + 2 * c) r)) ∧ ∃ m, m < 8 ∧ g_i σ (19 + 2 * c) 4 = nI m ∧ ∀ r, r < 3 → g_i σ 41 (3 * c + r) = if m.testBit r = true then 1 else 0
def Z11 (b : Nat) (M W : Nat → Nat) (σ : Sg) : Prop := ∀ t, 1 ≤ t → t ≤ b → g_i σ (48 + 4 * t) 0 = nI t ∧ g_i σ (48 + 4 * t) 1 = g_i σ 28 t ∧ Rl σ t (M t) ∧ Wl σ t (W t)
def Z12 (σ : Sg) : Prop := ∀ c, c < 4 → ∀ d, d < 4 → c ≠ d → g_i σ 36 c ≠ 0 → g_i σ 36 d ≠ 0 → g_i σ 37 c ≠ g_i σ 37 d
def Z13 (σ : Sg) : Prop := ∀ c, c < 4 → ∀ t, t < 61 → g_i σ 37 c = nI t → (g_i σ 36 c = 1 → g_i σ 28 t = 0) ∧ (g_i σ 36 c = 1 ∨ g_i σ 36 c = 2 ∨ g_i σ 36 c = 3 → ∀ i, i < 3 → g_i σ 49 (61 * i + t) = 0 ∧ g_i σ 50 (61 * i + t) = 0)
def Z14 (b : Nat) (M W : Nat → Nat) (σ : Sg) : Prop := ∀ i, i < 3 → ∀ t, 1 ≤ t → t ≤ b → ∀ k, k < 6 → g_i σ 49 (61 * i + t) ≠ 0 → ((W t).testBit k = true → g_i σ 28 t ≤ g_i σ (5 + 5 * i) k) ∧ ((M t).testBit k = true → g_i σ 28 t ≤ g_i σ (7 + 5 * i) k)
def Z15 (b : Nat) (σ : Sg) : Prop := ∀ t, 1 ≤ t → t ≤ b → ∀ i, i < 3 → ∀ k, k < 6 → g_i σ 28 t ≠ 0 → g_i σ (5 + 5 * i) k = g_i σ 28 t → g_i σ (6 + 5 * i) k = g_i σ (51 + 4 * t) k
def Z16 (b : Nat) (σ : Sg) : Prop := ∀ t, 1 ≤ t → t ≤ b → ∀ u, 1 ≤ u → u ≤ b → t ≠ u → g_i σ 28 t = g_i σ 28 u → g_i σ 28 t = 0
/-- a stamp that its client has passed -/
def Bd (σ : Sg) (x : Int32) : Prop := 0 ≤ x.toInt ∧ x.toInt ≤ 4000003 ∧ ∀ c : Nat, c < 4 → x.toInt % 4 = c → x.toInt / 4 ≤ (g_i σ 39 c).toInt
def Z17 (b : Nat) (σ : Sg) : Prop := (∀ c, c < 4 → 0 ≤ (g_i σ 39 c).toInt ∧ (g_i σ 39 c).toInt ≤ 1000000) ∧ (∀ t, 1 ≤ t → t ≤ b → Bd σ (g_i σ 28 t)) ∧ (∀ i, i < 3 → ∀ k, k < 6 → Bd σ (g_i σ (5 + 5 * i) k))
def R (b : Nat) (M W : Nat → Nat) (σ : Sg) : Prop := SN b σ ∧ Z1 b σ ∧ Z2 σ ∧ Z3 σ ∧ Z4 σ ∧ Z5 σ ∧ Z6 σ ∧ Z7 b σ ∧ Z8 σ ∧ Z9 b σ ∧ Z10 σ ∧ Z11 b M W σ ∧ Z12 σ ∧ Z13 σ ∧ Z14 b M W σ ∧ Z15 b σ ∧ Z16 b σ ∧ Z17 b σ
theorem R.r0 {b : Nat} {M W : Nat → Nat} {σ : Sg} (h : R b M W σ) : SN b σ := h.1
theorem R.r1 {b : Nat} {M W : Nat → Nat} {σ : Sg} (h : R b M W σ) : Z1 b σ := h.2.1
theorem R.r2 {b : Nat} {M W : Nat → Nat} {σ : Sg} (h : R b M W σ) : Z2 σ := h.2.2.1
theorem R.r3 {b : Nat} {M W : Nat → Nat} {σ : Sg} (h : R b M W σ) : Z3 σ := h.2.2.2.1
theorem R.r4 {b : Nat} {M W : Nat → Nat} {σ : Sg} (h : R b M W σ) : Z4 σ := h.2.2.2.2.1
theorem R.r5 {b : Nat} {M W : Nat → Nat} {σ : Sg} (h : R b M W σ) : Z5 σ := h.2.2.2.2.2.1
theorem R.r6 {b : Nat} {M W : Nat → Nat} {σ : Sg} (h : R b M W σ) : Z6 σ := h.2.2.2.2.2.2.1
theorem R.r7 {b : Nat} {M W : Nat → Nat} {σ : Sg} (h : R b M W σ) : Z7 b σ := h.2.2.2.2.2.2.2.1
theorem R.r8 {b : Nat} {M W : Nat → Nat} {σ : Sg} (h : R b M W σ) : Z8 σ := h.2.2.2.2.2.2.2.2.1
theorem R.r9 {b : Nat} {M W : Nat → Nat} {σ : Sg} (h : R b M W σ) : Z9 b σ := h.2.2.2.2.2.2.2.2.2.1
theorem R.r10 {b : Nat} {M W : Nat → Nat} {σ : Sg} (h : R b M W σ) : Z10 σ := h.2.2.2.2.2.2.2.2.2.2.1
theorem R.r11 {b : Nat} {M W : Nat → Nat} {σ : Sg} (h : R b M W σ) : Z11 b M W σ := h.2.2.2.2.2.2.2.2.2.2.2.1
theorem R.r12 {b : Nat} {M W : Nat → Nat} {σ : Sg} (h : R b M W σ) : Z12 σ := h.2.2.2.2.2.2.2.2.2.2.2.2.1
theorem R.r13 {b : Nat} {M W : Nat → Nat} {σ : Sg} (h : R b M W σ) : Z13 σ := h.2.2.2.2.2.2.2.2.2.2.2.2.2.1
theorem R.r14 {b : Nat} {M W : Nat → Nat} {σ : Sg} (h : R b M W σ) : Z14 b M W σ := h.2.2.2.2.2.2.2.2.2.2.2.2.2.2.1
theorem R.r15 {b : Nat} {M W : Nat → Nat} {σ : Sg} (h : R b M W σ) : Z15 b σ := h.2.2.2.2.2.2.2.2.2.2.2.2.2.2.2.1
theorem R.r16 {b : Nat} {M W : Nat → Nat} {σ : Sg} (h : R b M W σ) : Z16 b σ := h.2.2.2.2.2.2.2.2.2.2.2.2.2.2.2.2.1
theorem R.r17 {b : Nat} {M W : Nat → Nat} {σ : Sg} (h : R b M W σ) : Z17 b σ := h.2.2.2.2.2.2.2.2.2.2.2.2.2.2.2.2.2
/-- only what was thrown differs -/
theorem R.cg {b : Nat} {M W : Nat → Nat} {σ : Sg} (h : R b M W σ) (x : Int32) : R b M W (s_i σ 27 0 x) := by
  
  refine ⟨h.r0, by unfold Z1; simp (disch := omega) only [gi_n, g_r_s_i, g_r_s_l, g_i_s_l, g_i_s_r, Bd, Rl, Wl]; exact h.r1, by intro i' hi'; have q := h.r2 i' hi'; revert q; simp (disch := omega) only [gi_n, g_r_s_i, g_r_s_l, g_i_s_l, g_i_s_r, Bd, Rl, Wl]; exact id, by intro i' hi' k' hk'; have q := h.r3 i' hi' k' hk'; revert q; simp (disch := omega) only [gi_n, g_r_s_i, g_r_s_l, g_i_s_l, g_i_s_r, Bd, Rl, Wl]; exact id, by intro i' hi' k' hk'; have q := h.r4 i' hi' k' hk'; revert q; simp (disch := omega) only [gi_n, g_r_s_i, g_r_s_l, g_i_s_l, g_i_s_r, Bd, Rl, Wl]; exact id, by intro i' hi' j' hj' k' hk'; have q := h.r5 i' hi' j' hj' k' hk'; revert q; simp (disch := omega) only [gi_n, g_r_s_i, g_r_s_l, g_i_s_l, g_i_s_r, Bd, Rl, Wl]; exact id, by intro i' hi' t' ht'; have q := h.r6 i' hi' t' ht'; revert q; simp (disch := omega) only [gi_n, g_r_s_i, g_r_s_l, g_i_s_l, g_i_s_r, Bd, Rl, Wl]; exact id, ⟨by intro i' hi' t' ht'; have q := h.r7.1 i' hi' t' ht'; revert q; simp (disch := omega) only [gi_n, g_r_s_i, g_r_s_l, g_i_s_l, g_i_s_r, Bd, Rl, Wl]; exact id, by intro t' hb' ht'; have q := h.r7.2 t' hb' ht'; revert q; simp (disch := omega) only [gi_n, g_r_s_i, g_r_s_l, g_i_s_l, g_i_s_r, Bd, Rl, Wl]; exact id⟩, by intro c' hc'; have q := h.r8 c' hc'; revert q; simp (disch := omega) only [gi_n, g_r_s_i, g_r_s_l, g_i_s_l, g_i_s_r, Bd, Rl, Wl]; exact id, by intro c' hc'; have q := h.r9 c' hc'; revert q; simp (disch := omega) only [gi_n, g_r_s_i, g_r_s_l, g_i_s_l, g_i_s_r, Bd, Rl, Wl]; exact id, by intro c' hc'; have q := h.r10 c' hc'; revert q; simp (disch := omega) only [gi_n, g_r_s_i, g_r_s_l, g_i_s_l, g_i_s_r, Bd, Rl, Wl]; exact id, by intro t' ht1' ht2'; have q := h.r11 t' ht1' ht2'; revert q; simp (disch := omega) only [gi_n, g_r_s_i, g_r_s_l, g_i_s_l, g_i_s_r, Bd, Rl, Wl]; exact id, by intro c' hc' d' hd'; have q := h.r12 c' hc' d' hd'; revert q; simp (disch := omega) only [gi_n, g_r_s_i, g_r_s_l, g_i_s_l, g_i_s_r, Bd, Rl, Wl]; exact id, by intro c' hc' t' ht'; have q := h.r13 c' hc' t' ht'; revert q; simp (disch := omega) only [gi_n, g_r_s_i, g_r_s_l, g_i_s_l, g_i_s_r, Bd, Rl, Wl]; exact id, by intro i' hi' t' ht1' ht2' k' hk'; have q := h.r14 i' hi' t' ht1' ht2' k' hk'; revert q; simp (disch := omega) only [gi_n, g_r_s_i, g_r_s_l, g_i_s_l, g_i_s_r, Bd, Rl, Wl]; exact id, by intro t' ht1' ht2' i' hi' k' hk'; have q := h.r15 t' ht1' ht2' i' hi' k' hk'; revert q; simp (disch := omega) only [gi_n, g_r_s_i, g_r_s_l, g_i_s_l, g_i_s_r, Bd, Rl, Wl]; exact id, by intro t' ht1' ht2' u' hu1' hu2'; have q := h.r16 t' ht1' ht2' u' hu1' hu2'; revert q; simp (disch := omega) only [gi_n, g_r_s_i, g_r_s_l, g_i_s_l, g_i_s_r, Bd, Rl, Wl]; exact id, ⟨by intro c' hc'; have q := h.r17.1 c' hc'; revert q; simp (disch := omega) only [gi_n, g_r_s_i, g_r_s_l, g_i_s_l, g_i_s_r, Bd, Rl, Wl]; exact id, by intro t' h1' h2'; have q := h.r17.2.1 t' h1' h2'; revert q; simp (disch := omega) only [gi_n, g_r_s_i, g_r_s_l, g_i_s_l, g_i_s_r, Bd, Rl, Wl]; exact id, by intro i' hi' k' hk'; have q := h.r17.2.2 i' hi' k' hk'; revert q; simp (disch := omega) only [gi_n, g_r_s_i, g_r_s_l, g_i_s_l, g_i_s_r, Bd, Rl, Wl]; exact id⟩⟩
theorem R.lg {b : Nat} {M W : Nat → Nat} {σ : Sg} (h : R b M W σ) (a k : Nat) (x : Int64) : R b M W (s_l σ a k x) := h
