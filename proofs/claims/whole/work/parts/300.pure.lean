/-! PURE part: the functions f_ and b_ as they run on states of the form that the program makes. -/
theorem rc_s {β : Type} (b : Nat) (x : β) (f : Nat → β) : rc (some b) x f = f b := rfl
theorem rc_n {β : Type} (x : β) (f : Nat → β) : rc none x f = x := rfl
theorem wi_e {β : Type} (x : Sg) (k : Sg → Option β) : wi x k = k x := rfl
theorem wn_e {β : Type} (x : Int32) (k : Int32 → Option β) : wn x k = k x := rfl
theorem bind_s {α β : Type} (x : α) (f : α → Option β) : (some x).bind f = f x := rfl
theorem inb_n {i n : Nat} (h : i < n) (hn : n < 2147483648) : inb (nI i) n = true := decide_eq_true (nI_in h hn)
theorem cl_n {i : Nat} (h : i < 2147483648) : (nI i).toNatClampNeg = i := nI_clamp h
/-- the shape of the heap when b transactions were begun: who points to whom -/
def SN (b : Nat) (σ : Sg) : Prop := σ.1 = 52 + 4 * b ∧ b ≤ 60 ∧ g_r σ 0 0 = some 1 ∧ g_r σ 0 1 = some 2 ∧ g_r σ 0 2 = some 3 ∧
  (∀ i, i < 3 → g_r σ 1 i = some (4 + 5 * i)) ∧ (∀ c, c < 4 → g_r σ 2 c = some (19 + 2 * c)) ∧
  (∀ i, i < 3 → g_r σ (4 + 5 * i) 2 = some (5 + 5 * i)) ∧ (∀ i, i < 3 → g_r σ (4 + 5 * i) 3 = some (6 + 5 * i)) ∧ (∀ i, i < 3 → g_r σ (4 + 5 * i) 4 = some (7 + 5 * i)) ∧ (∀ i, i < 3 → g_r σ (4 + 5 * i) 5 = some (8 + 5 * i)) ∧
  (∀ c, c < 4 → g_r σ (19 + 2 * c) 5 = some (20 + 2 * c)) ∧
  (∀ t, 1 ≤ t → t ≤ b → g_r σ 3 t = some (48 + 4 * t)) ∧ (∀ t, 1 ≤ t → t ≤ b → g_r σ (48 + 4 * t) 4 = some (49 + 4 * t)) ∧ (∀ t, 1 ≤ t → t ≤ b → g_r σ (48 + 4 * t) 5 = some (50 + 4 * t)) ∧ (∀ t, 1 ≤ t → t ≤ b → g_r σ (48 + 4 * t) 6 = some (51 + 4 * t)) ∧
  (∀ j, 2 ≤ j → j < 25 → g_r σ 27 j = some (26 + j))
theorem SN.lt {b : Nat} {σ : Sg} (h : SN b σ) {a : Nat} (ha : a < 52 + 4 * b) : (a < σ.1) = True := by rw [h.1]; exact eq_true ha
theorem SN.g0 {b : Nat} {σ : Sg} (h : SN b σ) : g_r σ 0 0 = some 1 := h.2.2.1
theorem SN.g1 {b : Nat} {σ : Sg} (h : SN b σ) : g_r σ 0 1 = some 2 := h.2.2.2.1
theorem SN.g2 {b : Nat} {σ : Sg} (h : SN b σ) : g_r σ 0 2 = some 3 := h.2.2.2.2.1
theorem SN.r {b : Nat} {σ : Sg} (h : SN b σ) {i : Nat} (hi : i < 3) : g_r σ 1 i = some (4 + 5 * i) := h.2.2.2.2.2.1 i hi
theorem SN.c {b : Nat} {σ : Sg} (h : SN b σ) {i : Nat} (hi : i < 4) : g_r σ 2 i = some (19 + 2 * i) := h.2.2.2.2.2.2.1 i hi
theorem SN.r2 {b : Nat} {σ : Sg} (h : SN b σ) {i : Nat} (hi : i < 3) : g_r σ (4 + 5 * i) 2 = some (5 + 5 * i) := h.2.2.2.2.2.2.2.1 i hi
theorem SN.r3 {b : Nat} {σ : Sg} (h : SN b σ) {i : Nat} (hi : i < 3) : g_r σ (4 + 5 * i) 3 = some (6 + 5 * i) := h.2.2.2.2.2.2.2.2.1 i hi
theorem SN.r4 {b : Nat} {σ : Sg} (h : SN b σ) {i : Nat} (hi : i < 3) : g_r σ (4 + 5 * i) 4 = some (7 + 5 * i) := h.2.2.2.2.2.2.2.2.2.1 i hi
theorem SN.r5 {b : Nat} {σ : Sg} (h : SN b σ) {i : Nat} (hi : i < 3) : g_r σ (4 + 5 * i) 5 = some (8 + 5 * i) := h.2.2.2.2.2.2.2.2.2.2.1 i hi
theorem SN.c5 {b : Nat} {σ : Sg} (h : SN b σ) {i : Nat} (hi : i < 4) : g_r σ (19 + 2 * i) 5 = some (20 + 2 * i) := h.2.2.2.2.2.2.2.2.2.2.2.1 i hi
theorem SN.t {b : Nat} {σ : Sg} (h : SN b σ) {t : Nat} (h1 : 1 ≤ t) (h2 : t ≤ b) : g_r σ 3 t = some (48 + 4 * t) := h.2.2.2.2.2.2.2.2.2.2.2.2.1 t h1 h2
theorem SN.t4 {b : Nat} {σ : Sg} (h : SN b σ) {t : Nat} (h1 : 1 ≤ t) (h2 : t ≤ b) : g_r σ (48 + 4 * t) 4 = some (49 + 4 * t) := h.2.2.2.2.2.2.2.2.2.2.2.2.2.1 t h1 h2
theorem SN.t5 {b : Nat} {σ : Sg} (h : SN b σ) {t : Nat} (h1 : 1 ≤ t) (h2 : t ≤ b) : g_r σ (48 + 4 * t) 5 = some (50 + 4 * t) := h.2.2.2.2.2.2.2.2.2.2.2.2.2.2.1 t h1 h2
theorem SN.t6 {b : Nat} {σ : Sg} (h : SN b σ) {t : Nat} (h1 : 1 ≤ t) (h2 : t ≤ b) : g_r σ (48 + 4 * t) 6 = some (51 + 4 * t) := h.2.2.2.2.2.2.2.2.2.2.2.2.2.2.2.1 t h1 h2
theorem SN.m {b : Nat} {σ : Sg} (h : SN b σ) {j : Nat} (h1 : 2 ≤ j) (h2 : j < 25) : g_r σ 27 j = some (26 + j) := h.2.2.2.2.2.2.2.2.2.2.2.2.2.2.2.2 j h1 h2
theorem SN.b60 {b : Nat} {σ : Sg} (h : SN b σ) : b ≤ 60 := h.2.1
theorem kd_r {i : Nat} (hi : i < 3) : kd (4 + 5 * i) = 1 := by rcases i with _ | _ | _ | i <;> first | rfl | omega
theorem kd_ra {i : Nat} (hi : i < 3) : kd (5 + 5 * i) = 10 := by rcases i with _ | _ | _ | i <;> first | rfl | omega
theorem kd_rb {i : Nat} (hi : i < 3) : kd (6 + 5 * i) = 10 := by rcases i with _ | _ | _ | i <;> first | rfl | omega
theorem kd_rc {i : Nat} (hi : i < 3) : kd (7 + 5 * i) = 10 := by rcases i with _ | _ | _ | i <;> first | rfl | omega
theorem kd_rd {i : Nat} (hi : i < 3) : kd (8 + 5 * i) = 10 := by rcases i with _ | _ | _ | i <;> first | rfl | omega
theorem ln_ra {i : Nat} (hi : i < 3) : ln (5 + 5 * i) = 6 := by rcases i with _ | _ | _ | i <;> first | rfl | omega
theorem ln_rb {i : Nat} (hi : i < 3) : ln (6 + 5 * i) = 6 := by rcases i with _ | _ | _ | i <;> first | rfl | omega
theorem ln_rc {i : Nat} (hi : i < 3) : ln (7 + 5 * i) = 6 := by rcases i with _ | _ | _ | i <;> first | rfl | omega
theorem ln_rd {i : Nat} (hi : i < 3) : ln (8 + 5 * i) = 61 := by rcases i with _ | _ | _ | i <;> first | rfl | omega
theorem kd_c {i : Nat} (hi : i < 4) : kd (19 + 2 * i) = 0 := by rcases i with _ | _ | _ | _ | i <;> first | rfl | omega
theorem kd_ca {i : Nat} (hi : i < 4) : kd (20 + 2 * i) = 10 := by rcases i with _ | _ | _ | _ | i <;> first | rfl | omega
theorem ln_ca {i : Nat} (hi : i < 4) : ln (20 + 2 * i) = 3 := by rcases i with _ | _ | _ | _ | i <;> first | rfl | omega
theorem kd_big {a : Nat} (ha : 52 ≤ a) : kd a = if (a - 52) % 4 = 0 then 2 else 10 := by
  unfold kd
  rw [if_neg (by omega)]
theorem ln_big {a : Nat} (ha : 52 ≤ a) : ln a = 6 := by
  unfold ln
  rw [if_neg (by omega)]
theorem kd_t {t : Nat} (ht : 1 ≤ t) : kd (48 + 4 * t) = 2 := by rw [kd_big (by omega), if_pos (by omega)]
theorem kd_ta {t : Nat} (ht : 1 ≤ t) : kd (49 + 4 * t) = 10 := by rw [kd_big (by omega), if_neg (by omega)]
theorem kd_tb {t : Nat} (ht : 1 ≤ t) : kd (50 + 4 * t) = 10 := by rw [kd_big (by omega), if_neg (by omega)]
theorem kd_tc {t : Nat} (ht : 1 ≤ t) : kd (51 + 4 * t) = 10 := by rw [kd_big (by omega), if_neg (by omega)]
theorem ln_ta {t : Nat} (ht : 1 ≤ t) : ln (49 + 4 * t) = 6 := ln_big (by omega)
theorem ln_tb {t : Nat} (ht : 1 ≤ t) : ln (50 + 4 * t) = 6 := ln_big (by omega)
theorem ln_tc {t : Nat} (ht : 1 ≤ t) : ln (51 + 4 * t) = 6 := ln_big (by omega)
theorem kd_0 : kd 0 = 3 := rfl
theorem kd_1 : kd 1 = 13 := rfl
theorem ln_1 : ln 1 = 3 := rfl
theorem kd_2 : kd 2 = 14 := rfl
theorem ln_2 : ln 2 = 4 := rfl
theorem kd_3 : kd 3 = 15 := rfl
theorem ln_3 : ln 3 = 61 := rfl
theorem kd_27 : kd 27 = 4 := rfl
theorem kd_28 : kd 28 = 10 := rfl
theorem ln_28 : ln 28 = 61 := rfl
theorem kd_29 : kd 29 = 10 := rfl
theorem ln_29 : ln 29 = 61 := rfl
theorem kd_30 : kd 30 = 10 := rfl
theorem ln_30 : ln 30 = 244 := rfl
theorem kd_31 : kd 31 = 10 := rfl
theorem ln_31 : ln 31 = 244 := rfl
theorem kd_32 : kd 32 = 10 := rfl
theorem ln_32 : ln 32 = 244 := rfl
theorem kd_33 : kd 33 = 10 := rfl
theorem ln_33 : ln 33 = 61 := rfl
theorem kd_34 : kd 34 = 10 := rfl
theorem ln_34 : ln 34 = 244 := rfl
theorem kd_35 : kd 35 = 10 := rfl
theorem ln_35 : ln 35 = 244 := rfl
theorem kd_36 : kd 36 = 10 := rfl
theorem ln_36 : ln 36 = 4 := rfl
theorem kd_37 : kd 37 = 10 := rfl
theorem ln_37 : ln 37 = 4 := rfl
theorem kd_38 : kd 38 = 10 := rfl
theorem ln_38 : ln 38 = 4 := rfl
theorem kd_39 : kd 39 = 10 := rfl
theorem ln_39 : ln 39 = 4 := rfl
theorem kd_40 : kd 40 = 10 := rfl
theorem ln_40 : ln 40 = 12 := rfl
theorem kd_41 : kd 41 = 11 := rfl
theorem ln_41 : ln 41 = 12 := rfl
theorem kd_42 : kd 42 = 11 := rfl
theorem ln_42 : ln 42 = 3 := rfl
theorem kd_43 : kd 43 = 10 := rfl
theorem ln_43 : ln 43 = 3 := rfl
theorem kd_44 : kd 44 = 10 := rfl
theorem ln_44 : ln 44 = 18 := rfl
theorem kd_45 : kd 45 = 10 := rfl
theorem ln_45 : ln 45 = 18 := rfl
theorem kd_46 : kd 46 = 10 := rfl
theorem ln_46 : ln 46 = 18 := rfl
theorem kd_47 : kd 47 = 10 := rfl
theorem ln_47 : ln 47 = 183 := rfl
theorem kd_48 : kd 48 = 11 := rfl
theorem ln_48 : ln 48 = 183 := rfl
theorem kd_49 : kd 49 = 11 := rfl
theorem ln_49 : ln 49 = 183 := rfl
theorem kd_50 : kd 50 = 11 := rfl
theorem ln_50 : ln 50 = 183 := rfl
theorem kd_51 : kd 51 = 12 := rfl
theorem ln_51 : ln 51 = 1 := rfl
theorem gi_n {σ : Sg} {a k b j : Nat} {x : Int32} (h : b ≠ a ∨ j ≠ k) : g_i (s_i σ a k x) b j = g_i σ b j := by
  rw [g_i_s_i, if_neg]
  rintro ⟨h1, h2⟩
  rcases h with h | h
  · exact h h1
  · exact h h2
theorem gi_s {σ : Sg} {a k b j : Nat} {x : Int32} (h : b = a ∧ j = k) : g_i (s_i σ a k x) b j = x := by
  rw [g_i_s_i, if_pos h]
theorem gr_n {σ : Sg} {a k b j : Nat} {x : Option Nat} (h : b ≠ a ∨ j ≠ k) : g_r (s_r σ a k x) b j = g_r σ b j := by
  rw [g_r_s_r, if_neg]
  rintro ⟨h1, h2⟩
  rcases h with h | h
  · exact h h1
  · exact h h2
theorem gr_s {σ : Sg} {a k b j : Nat} {x : Option Nat} (h : b = a ∧ j = k) : g_r (s_r σ a k x) b j = x := by
  rw [g_r_s_r, if_pos h]
-- leaves
theorem p_knows {b : Nat} {σ : Sg} (h : SN b σ) {i t : Nat} (hi : i < 3) (ht : t < 61) : f_R_knows σ (4 + 5 * i) (nI t) = some (if g_i σ (8 + 5 * i) t = -1 then 0 else 1) := by
  simp (disch := omega) only [f_R_knows, b_R_knows_15, h.lt, kd_r, h.r5, rc_s, kd_rd, ln_rd, inb_n, cl_n, and_self, if_true]
  split <;> simp
