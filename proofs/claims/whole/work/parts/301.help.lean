/-! Helpers of the pure part: how a method's text is run, and numbers as Int32. -/
theorem bq {α β : Type} {o : Option α} {v : α} (h : o = some v) (k : α → Option β) : o.bind k = k v := by rw [h]; rfl
theorem rq {β : Type} {o : Option Nat} {v : Nat} (h : o = some v) (x : β) (k : Nat → β) : rc o x k = k v := by rw [h]; rfl
theorem rqn {β : Type} {o : Option Nat} (h : o = none) (x : β) (k : Nat → β) : rc o x k = x := by rw [h]; rfl
theorem rc_i {β : Type} (σ : Sg) (a k : Nat) (v : Int32) (b j : Nat) (x : β) (f : Nat → β) : rc (g_r (s_i σ a k v) b j) x f = rc (g_r σ b j) x f := rfl
theorem rc_l {β : Type} (σ : Sg) (a k : Nat) (v : Int64) (b j : Nat) (x : β) (f : Nat → β) : rc (g_r (s_l σ a k v) b j) x f = rc (g_r σ b j) x f := rfl
theorem SN.i {b : Nat} {σ : Sg} (h : SN b σ) (a k : Nat) (x : Int32) : SN b (s_i σ a k x) := h
theorem SN.l {b : Nat} {σ : Sg} (h : SN b σ) (a k : Nat) (x : Int64) : SN b (s_l σ a k x) := h
theorem SN.q0 {b : Nat} {σ : Sg} (h : SN b σ) {β : Type} {x : β} {f : Nat → β} : rc (g_r σ 0 0) x f = f 1 := by rw [h.g0]; rfl
theorem SN.q1 {b : Nat} {σ : Sg} (h : SN b σ) {β : Type} {x : β} {f : Nat → β} : rc (g_r σ 0 1) x f = f 2 := by rw [h.g1]; rfl
theorem SN.q2 {b : Nat} {σ : Sg} (h : SN b σ) {β : Type} {x : β} {f : Nat → β} : rc (g_r σ 0 2) x f = f 3 := by rw [h.g2]; rfl
theorem SN.qr {b : Nat} {σ : Sg} (h : SN b σ) {β : Type} {x : β} {f : Nat → β} {i : Nat} (hi : i < 3) : rc (g_r σ 1 (nI i).toNatClampNeg) x f = f (4 + 5 * i) := by rw [cl_n (by omega), h.r hi]; rfl
theorem SN.qc {b : Nat} {σ : Sg} (h : SN b σ) {β : Type} {x : β} {f : Nat → β} {i : Nat} (hi : i < 4) : rc (g_r σ 2 (nI i).toNatClampNeg) x f = f (19 + 2 * i) := by rw [cl_n (by omega), h.c hi]; rfl
theorem SN.qr2 {b : Nat} {σ : Sg} (h : SN b σ) {β : Type} {x : β} {f : Nat → β} {i : Nat} (hi : i < 3) : rc (g_r σ (4 + 5 * i) 2) x f = f (5 + 5 * i) := by rw [h.r2 hi]; rfl
theorem SN.qr3 {b : Nat} {σ : Sg} (h : SN b σ) {β : Type} {x : β} {f : Nat → β} {i : Nat} (hi : i < 3) : rc (g_r σ (4 + 5 * i) 3) x f = f (6 + 5 * i) := by rw [h.r3 hi]; rfl
theorem SN.qr4 {b : Nat} {σ : Sg} (h : SN b σ) {β : Type} {x : β} {f : Nat → β} {i : Nat} (hi : i < 3) : rc (g_r σ (4 + 5 * i) 4) x f = f (7 + 5 * i) := by rw [h.r4 hi]; rfl
theorem SN.qr5 {b : Nat} {σ : Sg} (h : SN b σ) {β : Type} {x : β} {f : Nat → β} {i : Nat} (hi : i < 3) : rc (g_r σ (4 + 5 * i) 5) x f = f (8 + 5 * i) := by rw [h.r5 hi]; rfl
theorem SN.qc5 {b : Nat} {σ : Sg} (h : SN b σ) {β : Type} {x : β} {f : Nat → β} {i : Nat} (hi : i < 4) : rc (g_r σ (19 + 2 * i) 5) x f = f (20 + 2 * i) := by rw [h.c5 hi]; rfl
theorem SN.qt {b : Nat} {σ : Sg} (h : SN b σ) {β : Type} {x : β} {f : Nat → β} {t : Nat} (h1 : 1 ≤ t) (h2 : t ≤ b) : rc (g_r σ 3 (nI t).toNatClampNeg) x f = f (48 + 4 * t) := by
  have := h.b60
  rw [cl_n (by omega), h.t h1 h2]; rfl
theorem SN.qt4 {b : Nat} {σ : Sg} (h : SN b σ) {β : Type} {x : β} {f : Nat → β} {t : Nat} (h1 : 1 ≤ t) (h2 : t ≤ b) : rc (g_r σ (48 + 4 * t) 4) x f = f (49 + 4 * t) := by rw [h.t4 h1 h2]; rfl
theorem SN.qt5 {b : Nat} {σ : Sg} (h : SN b σ) {β : Type} {x : β} {f : Nat → β} {t : Nat} (h1 : 1 ≤ t) (h2 : t ≤ b) : rc (g_r σ (48 + 4 * t) 5) x f = f (50 + 4 * t) := by rw [h.t5 h1 h2]; rfl
theorem SN.qt6 {b : Nat} {σ : Sg} (h : SN b σ) {β : Type} {x : β} {f : Nat → β} {t : Nat} (h1 : 1 ≤ t) (h2 : t ≤ b) : rc (g_r σ (48 + 4 * t) 6) x f = f (51 + 4 * t) := by rw [h.t6 h1 h2]; rfl
theorem SN.qm2 {b : Nat} {σ : Sg} (h : SN b σ) {β : Type} {x : β} {f : Nat → β} : rc (g_r σ 27 2) x f = f 28 := by rw [h.m (Nat.le_of_ble_eq_true rfl) (Nat.le_of_ble_eq_true rfl)]; rfl
theorem SN.qm3 {b : Nat} {σ : Sg} (h : SN b σ) {β : Type} {x : β} {f : Nat → β} : rc (g_r σ 27 3) x f = f 29 := by rw [h.m (Nat.le_of_ble_eq_true rfl) (Nat.le_of_ble_eq_true rfl)]; rfl
theorem SN.qm4 {b : Nat} {σ : Sg} (h : SN b σ) {β : Type} {x : β} {f : Nat → β} : rc (g_r σ 27 4) x f = f 30 := by rw [h.m (Nat.le_of_ble_eq_true rfl) (Nat.le_of_ble_eq_true rfl)]; rfl
theorem SN.qm5 {b : Nat} {σ : Sg} (h : SN b σ) {β : Type} {x : β} {f : Nat → β} : rc (g_r σ 27 5) x f = f 31 := by rw [h.m (Nat.le_of_ble_eq_true rfl) (Nat.le_of_ble_eq_true rfl)]; rfl
theorem SN.qm6 {b : Nat} {σ : Sg} (h : SN b σ) {β : Type} {x : β} {f : Nat → β} : rc (g_r σ 27 6) x f = f 32 := by rw [h.m (Nat.le_of_ble_eq_true rfl) (Nat.le_of_ble_eq_true rfl)]; rfl
theorem SN.qm7 {b : Nat} {σ : Sg} (h : SN b σ) {β : Type} {x : β} {f : Nat → β} : rc (g_r σ 27 7) x f = f 33 := by rw [h.m (Nat.le_of_ble_eq_true rfl) (Nat.le_of_ble_eq_true rfl)]; rfl
theorem SN.qm8 {b : Nat} {σ : Sg} (h : SN b σ) {β : Type} {x : β} {f : Nat → β} : rc (g_r σ 27 8) x f = f 34 := by rw [h.m (Nat.le_of_ble_eq_true rfl) (Nat.le_of_ble_eq_true rfl)]; rfl
theorem SN.qm9 {b : Nat} {σ : Sg} (h : SN b σ) {β : Type} {x : β} {f : Nat → β} : rc (g_r σ 27 9) x f = f 35 := by rw [h.m (Nat.le_of_ble_eq_true rfl) (Nat.le_of_ble_eq_true rfl)]; rfl
theorem SN.qm10 {b : Nat} {σ : Sg} (h : SN b σ) {β : Type} {x : β} {f : Nat → β} : rc (g_r σ 27 10) x f = f 36 := by rw [h.m (Nat.le_of_ble_eq_true rfl) (Nat.le_of_ble_eq_true rfl)]; rfl
theorem SN.qm11 {b : Nat} {σ : Sg} (h : SN b σ) {β : Type} {x : β} {f : Nat → β} : rc (g_r σ 27 11) x f = f 37 := by rw [h.m (Nat.le_of_ble_eq_true rfl) (Nat.le_of_ble_eq_true rfl)]; rfl
theorem SN.qm12 {b : Nat} {σ : Sg} (h : SN b σ) {β : Type} {x : β} {f : Nat → β} : rc (g_r σ 27 12) x f = f 38 := by rw [h.m (Nat.le_of_ble_eq_true rfl) (Nat.le_of_ble_eq_true rfl)]; rfl
theorem SN.qm13 {b : Nat} {σ : Sg} (h : SN b σ) {β : Type} {x : β} {f : Nat → β} : rc (g_r σ 27 13) x f = f 39 := by rw [h.m (Nat.le_of_ble_eq_true rfl) (Nat.le_of_ble_eq_true rfl)]; rfl
theorem SN.qm14 {b : Nat} {σ : Sg} (h : SN b σ) {β : Type} {x : β} {f : Nat → β} : rc (g_r σ 27 14) x f = f 40 := by rw [h.m (Nat.le_of_ble_eq_true rfl) (Nat.le_of_ble_eq_true rfl)]; rfl
theorem SN.qm15 {b : Nat} {σ : Sg} (h : SN b σ) {β : Type} {x : β} {f : Nat → β} : rc (g_r σ 27 15) x f = f 41 := by rw [h.m (Nat.le_of_ble_eq_true rfl) (Nat.le_of_ble_eq_true rfl)]; rfl
theorem SN.qm16 {b : Nat} {σ : Sg} (h : SN b σ) {β : Type} {x : β} {f : Nat → β} : rc (g_r σ 27 16) x f = f 42 := by rw [h.m (Nat.le_of_ble_eq_true rfl) (Nat.le_of_ble_eq_true rfl)]; rfl
theorem SN.qm17 {b : Nat} {σ : Sg} (h : SN b σ) {β : Type} {x : β} {f : Nat → β} : rc (g_r σ 27 17) x f = f 43 := by rw [h.m (Nat.le_of_ble_eq_true rfl) (Nat.le_of_ble_eq_true rfl)]; rfl
theorem SN.qm18 {b : Nat} {σ : Sg} (h : SN b σ) {β : Type} {x : β} {f : Nat → β} : rc (g_r σ 27 18) x f = f 44 := by rw [h.m (Nat.le_of_ble_eq_true rfl) (Nat.le_of_ble_eq_true rfl)]; rfl
theorem SN.qm19 {b : Nat} {σ : Sg} (h : SN b σ) {β : Type} {x : β} {f : Nat → β} : rc (g_r σ 27 19) x f = f 45 := by rw [h.m (Nat.le_of_ble_eq_true rfl) (Nat.le_of_ble_eq_true rfl)]; rfl
theorem SN.qm20 {b : Nat} {σ : Sg} (h : SN b σ) {β : Type} {x : β} {f : Nat → β} : rc (g_r σ 27 20) x f = f 46 := by rw [h.m (Nat.le_of_ble_eq_true rfl) (Nat.le_of_ble_eq_true rfl)]; rfl
theorem SN.qm21 {b : Nat} {σ : Sg} (h : SN b σ) {β : Type} {x : β} {f : Nat → β} : rc (g_r σ 27 21) x f = f 47 := by rw [h.m (Nat.le_of_ble_eq_true rfl) (Nat.le_of_ble_eq_true rfl)]; rfl
theorem SN.qm22 {b : Nat} {σ : Sg} (h : SN b σ) {β : Type} {x : β} {f : Nat → β} : rc (g_r σ 27 22) x f = f 48 := by rw [h.m (Nat.le_of_ble_eq_true rfl) (Nat.le_of_ble_eq_true rfl)]; rfl
theorem SN.qm23 {b : Nat} {σ : Sg} (h : SN b σ) {β : Type} {x : β} {f : Nat → β} : rc (g_r σ 27 23) x f = f 49 := by rw [h.m (Nat.le_of_ble_eq_true rfl) (Nat.le_of_ble_eq_true rfl)]; rfl
theorem SN.qm24 {b : Nat} {σ : Sg} (h : SN b σ) {β : Type} {x : β} {f : Nat → β} : rc (g_r σ 27 24) x f = f 50 := by rw [h.m (Nat.le_of_ble_eq_true rfl) (Nat.le_of_ble_eq_true rfl)]; rfl
theorem nle_0 {i : Nat} (h : i < 2147483648) : ((0 : Int32) ≤ nI i) = (0 ≤ i) := propext (nI_leI (a := 0) (Nat.le_of_ble_eq_true rfl) h)
theorem nlt_0 {i : Nat} (h : i < 2147483648) : ((0 : Int32) < nI i) = (0 < i) := propext (nI_ltI (a := 0) (Nat.le_of_ble_eq_true rfl) h)
theorem nge_0 {i : Nat} (h : i < 2147483648) : (nI i ≤ (0 : Int32)) = (i ≤ 0) := propext (nI_leI (b := 0) h (Nat.le_of_ble_eq_true rfl))
theorem ngt_0 {i : Nat} (h : i < 2147483648) : (nI i < (0 : Int32)) = (i < 0) := propext (nI_ltI (b := 0) h (Nat.le_of_ble_eq_true rfl))
theorem neq_0 {i : Nat} (h : i < 2147483648) : (nI i = (0 : Int32)) = (i = 0) := propext (nI_eq (b := 0) h (Nat.le_of_ble_eq_true rfl))
theorem nle_1 {i : Nat} (h : i < 2147483648) : ((1 : Int32) ≤ nI i) = (1 ≤ i) := propext (nI_leI (a := 1) (Nat.le_of_ble_eq_true rfl) h)
theorem nlt_1 {i : Nat} (h : i < 2147483648) : ((1 : Int32) < nI i) = (1 < i) := propext (nI_ltI (a := 1) (Nat.le_of_ble_eq_true rfl) h)
theorem nge_1 {i : Nat} (h : i < 2147483648) : (nI i ≤ (1 : Int32)) = (i ≤ 1) := propext (nI_leI (b := 1) h (Nat.le_of_ble_eq_true rfl))
theorem ngt_1 {i : Nat} (h : i < 2147483648) : (nI i < (1 : Int32)) = (i < 1) := propext (nI_ltI (b := 1) h (Nat.le_of_ble_eq_true rfl))
theorem neq_1 {i : Nat} (h : i < 2147483648) : (nI i = (1 : Int32)) = (i = 1) := propext (nI_eq (b := 1) h (Nat.le_of_ble_eq_true rfl))
theorem nle_2 {i : Nat} (h : i < 2147483648) : ((2 : Int32) ≤ nI i) = (2 ≤ i) := propext (nI_leI (a := 2) (Nat.le_of_ble_eq_true rfl) h)
theorem nlt_2 {i : Nat} (h : i < 2147483648) : ((2 : Int32) < nI i) = (2 < i) := propext (nI_ltI (a := 2) (Nat.le_of_ble_eq_true rfl) h)
theorem nge_2 {i : Nat} (h : i < 2147483648) : (nI i ≤ (2 : Int32)) = (i ≤ 2) := propext (nI_leI (b := 2) h (Nat.le_of_ble_eq_true rfl))
theorem ngt_2 {i : Nat} (h : i < 2147483648) : (nI i < (2 : Int32)) = (i < 2) := propext (nI_ltI (b := 2) h (Nat.le_of_ble_eq_true rfl))
theorem neq_2 {i : Nat} (h : i < 2147483648) : (nI i = (2 : Int32)) = (i = 2) := propext (nI_eq (b := 2) h (Nat.le_of_ble_eq_true rfl))
theorem nle_3 {i : Nat} (h : i < 2147483648) : ((3 : Int32) ≤ nI i) = (3 ≤ i) := propext (nI_leI (a := 3) (Nat.le_of_ble_eq_true rfl) h)
theorem nlt_3 {i : Nat} (h : i < 2147483648) : ((3 : Int32) < nI i) = (3 < i) := propext (nI_ltI (a := 3) (Nat.le_of_ble_eq_true rfl) h)
theorem nge_3 {i : Nat} (h : i < 2147483648) : (nI i ≤ (3 : Int32)) = (i ≤ 3) := propext (nI_leI (b := 3) h (Nat.le_of_ble_eq_true rfl))
theorem ngt_3 {i : Nat} (h : i < 2147483648) : (nI i < (3 : Int32)) = (i < 3) := propext (nI_ltI (b := 3) h (Nat.le_of_ble_eq_true rfl))
theorem neq_3 {i : Nat} (h : i < 2147483648) : (nI i = (3 : Int32)) = (i = 3) := propext (nI_eq (b := 3) h (Nat.le_of_ble_eq_true rfl))
theorem nle_4 {i : Nat} (h : i < 2147483648) : ((4 : Int32) ≤ nI i) = (4 ≤ i) := propext (nI_leI (a := 4) (Nat.le_of_ble_eq_true rfl) h)
theorem nlt_4 {i : Nat} (h : i < 2147483648) : ((4 : Int32) < nI i) = (4 < i) := propext (nI_ltI (a := 4) (Nat.le_of_ble_eq_true rfl) h)
theorem nge_4 {i : Nat} (h : i < 2147483648) : (nI i ≤ (4 : Int32)) = (i ≤ 4) := propext (nI_leI (b := 4) h (Nat.le_of_ble_eq_true rfl))
theorem ngt_4 {i : Nat} (h : i < 2147483648) : (nI i < (4 : Int32)) = (i < 4) := propext (nI_ltI (b := 4) h (Nat.le_of_ble_eq_true rfl))
theorem neq_4 {i : Nat} (h : i < 2147483648) : (nI i = (4 : Int32)) = (i = 4) := propext (nI_eq (b := 4) h (Nat.le_of_ble_eq_true rfl))
theorem nle_5 {i : Nat} (h : i < 2147483648) : ((5 : Int32) ≤ nI i) = (5 ≤ i) := propext (nI_leI (a := 5) (Nat.le_of_ble_eq_true rfl) h)
theorem nlt_5 {i : Nat} (h : i < 2147483648) : ((5 : Int32) < nI i) = (5 < i) := propext (nI_ltI (a := 5) (Nat.le_of_ble_eq_true rfl) h)
theorem nge_5 {i : Nat} (h : i < 2147483648) : (nI i ≤ (5 : Int32)) = (i ≤ 5) := propext (nI_leI (b := 5) h (Nat.le_of_ble_eq_true rfl))
theorem ngt_5 {i : Nat} (h : i < 2147483648) : (nI i < (5 : Int32)) = (i < 5) := propext (nI_ltI (b := 5) h (Nat.le_of_ble_eq_true rfl))
theorem neq_5 {i : Nat} (h : i < 2147483648) : (nI i = (5 : Int32)) = (i = 5) := propext (nI_eq (b := 5) h (Nat.le_of_ble_eq_true rfl))
theorem nle_6 {i : Nat} (h : i < 2147483648) : ((6 : Int32) ≤ nI i) = (6 ≤ i) := propext (nI_leI (a := 6) (Nat.le_of_ble_eq_true rfl) h)
theorem nlt_6 {i : Nat} (h : i < 2147483648) : ((6 : Int32) < nI i) = (6 < i) := propext (nI_ltI (a := 6) (Nat.le_of_ble_eq_true rfl) h)
theorem nge_6 {i : Nat} (h : i < 2147483648) : (nI i ≤ (6 : Int32)) = (i ≤ 6) := propext (nI_leI (b := 6) h (Nat.le_of_ble_eq_true rfl))
theorem ngt_6 {i : Nat} (h : i < 2147483648) : (nI i < (6 : Int32)) = (i < 6) := propext (nI_ltI (b := 6) h (Nat.le_of_ble_eq_true rfl))
theorem neq_6 {i : Nat} (h : i < 2147483648) : (nI i = (6 : Int32)) = (i = 6) := propext (nI_eq (b := 6) h (Nat.le_of_ble_eq_true rfl))
theorem nle_7 {i : Nat} (h : i < 2147483648) : ((7 : Int32) ≤ nI i) = (7 ≤ i) := propext (nI_leI (a := 7) (Nat.le_of_ble_eq_true rfl) h)
theorem nlt_7 {i : Nat} (h : i < 2147483648) : ((7 : Int32) < nI i) = (7 < i) := propext (nI_ltI (a := 7) (Nat.le_of_ble_eq_true rfl) h)
theorem nge_7 {i : Nat} (h : i < 2147483648) : (nI i ≤ (7 : Int32)) = (i ≤ 7) := propext (nI_leI (b := 7) h (Nat.le_of_ble_eq_true rfl))
theorem ngt_7 {i : Nat} (h : i < 2147483648) : (nI i < (7 : Int32)) = (i < 7) := propext (nI_ltI (b := 7) h (Nat.le_of_ble_eq_true rfl))
theorem neq_7 {i : Nat} (h : i < 2147483648) : (nI i = (7 : Int32)) = (i = 7) := propext (nI_eq (b := 7) h (Nat.le_of_ble_eq_true rfl))
theorem nle_31 {i : Nat} (h : i < 2147483648) : ((31 : Int32) ≤ nI i) = (31 ≤ i) := propext (nI_leI (a := 31) (Nat.le_of_ble_eq_true rfl) h)
theorem nlt_31 {i : Nat} (h : i < 2147483648) : ((31 : Int32) < nI i) = (31 < i) := propext (nI_ltI (a := 31) (Nat.le_of_ble_eq_true rfl) h)
theorem nge_31 {i : Nat} (h : i < 2147483648) : (nI i ≤ (31 : Int32)) = (i ≤ 31) := propext (nI_leI (b := 31) h (Nat.le_of_ble_eq_true rfl))
theorem ngt_31 {i : Nat} (h : i < 2147483648) : (nI i < (31 : Int32)) = (i < 31) := propext (nI_ltI (b := 31) h (Nat.le_of_ble_eq_true rfl))
theorem neq_31 {i : Nat} (h : i < 2147483648) : (nI i = (31 : Int32)) = (i = 31) := propext (nI_eq (b := 31) h (Nat.le_of_ble_eq_true rfl))
theorem nle_60 {i : Nat} (h : i < 2147483648) : ((60 : Int32) ≤ nI i) = (60 ≤ i) := propext (nI_leI (a := 60) (Nat.le_of_ble_eq_true rfl) h)
theorem nlt_60 {i : Nat} (h : i < 2147483648) : ((60 : Int32) < nI i) = (60 < i) := propext (nI_ltI (a := 60) (Nat.le_of_ble_eq_true rfl) h)
theorem nge_60 {i : Nat} (h : i < 2147483648) : (nI i ≤ (60 : Int32)) = (i ≤ 60) := propext (nI_leI (b := 60) h (Nat.le_of_ble_eq_true rfl))
theorem ngt_60 {i : Nat} (h : i < 2147483648) : (nI i < (60 : Int32)) = (i < 60) := propext (nI_ltI (b := 60) h (Nat.le_of_ble_eq_true rfl))
theorem neq_60 {i : Nat} (h : i < 2147483648) : (nI i = (60 : Int32)) = (i = 60) := propext (nI_eq (b := 60) h (Nat.le_of_ble_eq_true rfl))
theorem nle_61 {i : Nat} (h : i < 2147483648) : ((61 : Int32) ≤ nI i) = (61 ≤ i) := propext (nI_leI (a := 61) (Nat.le_of_ble_eq_true rfl) h)
theorem nlt_61 {i : Nat} (h : i < 2147483648) : ((61 : Int32) < nI i) = (61 < i) := propext (nI_ltI (a := 61) (Nat.le_of_ble_eq_true rfl) h)
theorem nge_61 {i : Nat} (h : i < 2147483648) : (nI i ≤ (61 : Int32)) = (i ≤ 61) := propext (nI_leI (b := 61) h (Nat.le_of_ble_eq_true rfl))
theorem ngt_61 {i : Nat} (h : i < 2147483648) : (nI i < (61 : Int32)) = (i < 61) := propext (nI_ltI (b := 61) h (Nat.le_of_ble_eq_true rfl))
theorem neq_61 {i : Nat} (h : i < 2147483648) : (nI i = (61 : Int32)) = (i = 61) := propext (nI_eq (b := 61) h (Nat.le_of_ble_eq_true rfl))
theorem nle_1000000 {i : Nat} (h : i < 2147483648) : ((1000000 : Int32) ≤ nI i) = (1000000 ≤ i) := propext (nI_leI (a := 1000000) (Nat.le_of_ble_eq_true rfl) h)
theorem nlt_1000000 {i : Nat} (h : i < 2147483648) : ((1000000 : Int32) < nI i) = (1000000 < i) := propext (nI_ltI (a := 1000000) (Nat.le_of_ble_eq_true rfl) h)
theorem nge_1000000 {i : Nat} (h : i < 2147483648) : (nI i ≤ (1000000 : Int32)) = (i ≤ 1000000) := propext (nI_leI (b := 1000000) h (Nat.le_of_ble_eq_true rfl))
theorem ngt_1000000 {i : Nat} (h : i < 2147483648) : (nI i < (1000000 : Int32)) = (i < 1000000) := propext (nI_ltI (b := 1000000) h (Nat.le_of_ble_eq_true rfl))
theorem neq_1000000 {i : Nat} (h : i < 2147483648) : (nI i = (1000000 : Int32)) = (i = 1000000) := propext (nI_eq (b := 1000000) h (Nat.le_of_ble_eq_true rfl))
theorem nlt {i j : Nat} (h : i < 2147483648) (h' : j < 2147483648) : (nI i < nI j) = (i < j) := propext (nI_ltI h h')
theorem nle {i j : Nat} (h : i < 2147483648) (h' : j < 2147483648) : (nI i ≤ nI j) = (i ≤ j) := propext (nI_leI h h')
theorem neq {i j : Nat} (h : i < 2147483648) (h' : j < 2147483648) : (nI i = nI j) = (i = j) := propext (nI_eq h h')
theorem nmul (a b : Nat) : nI a * nI b = nI (a * b) := (Int32.ofNat_mul a b).symm
theorem mul_3 (a : Nat) : (3 : Int32) * nI a = nI (3 * a) := nmul 3 a
theorem mul_4 (a : Nat) : (4 : Int32) * nI a = nI (4 * a) := nmul 4 a
theorem mul_6 (a : Nat) : (6 : Int32) * nI a = nI (6 * a) := nmul 6 a
theorem mul_61 (a : Nat) : (61 : Int32) * nI a = nI (61 * a) := nmul 61 a
theorem n_m1 {i : Nat} (h : i < 2147483648) : (nI i = (-1 : Int32)) = False := by
  apply eq_false
  intro e
  have : (nI i).toInt = (-1 : Int32).toInt := by rw [e]
  rw [nI_toInt h] at this
  have h2 : (-1 : Int32).toInt = -1 := rfl
  omega
theorem nng {i : Nat} (h : i < 2147483648) : (nI i < (0 : Int32)) = False := eq_false (nI_pos h)
theorem oor4 {x : Int32} : (∃ c, c < 4 ∧ x = nI c) ∨ (x < 0 ∨ 4 ≤ x) := by
  by_cases h : x < 0
  · exact Or.inr (Or.inl h)
  obtain ⟨j, hj, rfl⟩ := nI_of h
  by_cases h4 : j < 4
  · exact Or.inl ⟨j, h4, rfl⟩
  · exact Or.inr (Or.inr (by rw [nle_4 hj]; omega))
theorem oor3 {x : Int32} : (∃ c, c < 3 ∧ x = nI c) ∨ (x < 0 ∨ 3 ≤ x) := by
  by_cases h : x < 0
  · exact Or.inr (Or.inl h)
  obtain ⟨j, hj, rfl⟩ := nI_of h
  by_cases h4 : j < 3
  · exact Or.inl ⟨j, h4, rfl⟩
  · exact Or.inr (Or.inr (by rw [nle_3 hj]; omega))
theorem oor6 {x : Int32} : (∃ c, c < 6 ∧ x = nI c) ∨ (x < 0 ∨ 6 ≤ x) := by
  by_cases h : x < 0
  · exact Or.inr (Or.inl h)
  obtain ⟨j, hj, rfl⟩ := nI_of h
  by_cases h4 : j < 6
  · exact Or.inl ⟨j, h4, rfl⟩
  · exact Or.inr (Or.inr (by rw [nle_6 hj]; omega))
/-- the number of bits of m below the sixth -/
def pc (m : Nat) : Nat := (m.testBit 0).toNat + (m.testBit 1).toNat + (m.testBit 2).toNat + (m.testBit 3).toNat + (m.testBit 4).toNat + (m.testBit 5).toNat
theorem bit_get : ∀ m, m < 64 → ∀ k, k < 6 → ((((nI m) >>> ((nI k) &&& 31)) &&& (1 : Int32)) = 0 ↔ m.testBit k = false) := by decide +kernel
theorem bit_set : ∀ m, m < 64 → ∀ k, k < 6 → (nI m ||| ((1 : Int32) <<< ((nI k) &&& 31)) = nI (m ||| 1 <<< k) ∧ (m ||| 1 <<< k) < 64) := by decide +kernel
theorem pc_set : ∀ m, m < 64 → ∀ k, k < 6 → m.testBit k = false → pc (m ||| 1 <<< k) = pc m + 1 := by decide +kernel
theorem tb_set : ∀ m, m < 64 → ∀ k, k < 6 → ∀ j, j < 6 → (m ||| 1 <<< k).testBit j = (m.testBit j || decide (j = k)) := by decide +kernel
theorem set_set : ∀ m, m < 64 → ∀ k, k < 6 → m.testBit k = true → (m ||| 1 <<< k) = m := by decide +kernel
theorem and_bit : ∀ m, m < 64 → ∀ k, k < 64 → ((nI m &&& nI k = 0) ↔ (∀ j, j < 6 → ¬ (m.testBit j = true ∧ k.testBit j = true))) := by decide +kernel
theorem p_bitCount {σ : Sg} : ∀ m, m < 64 → f_J_bitCount σ (nI m) = some (nI (pc m)) := by
  have : ∀ m, m < 64 → f_J_bitCount s_0 (nI m) = some (nI (pc m)) := by decide +kernel
  exact this
theorem rec_3 : ∀ n, n < 32 → (nI n &&& (3 : Int32)) = nI (n % 4) := by decide +kernel
theorem rec_4 : ∀ n, n < 32 → ((nI n &&& (4 : Int32)) = 0 ↔ n / 4 % 2 = 0) := by decide +kernel
theorem rec_8 : ∀ n, n < 32 → ((nI n &&& (8 : Int32)) = 0 ↔ n / 8 % 2 = 0) := by decide +kernel
theorem rec_16 : ∀ n, n < 32 → ((nI n &&& (16 : Int32)) = 0 ↔ n / 16 % 2 = 0) := by decide +kernel
theorem rec_24 : ∀ n, n < 32 → ((nI n &&& (24 : Int32)) = 0 ↔ n / 8 % 2 = 0 ∧ n / 16 % 2 = 0) := by decide +kernel
theorem rec_o4 : ∀ n, n < 4 → (nI n ||| (4 : Int32)) = nI (n + 4) := by decide +kernel
theorem rec_o8 : ∀ n, n < 32 → (nI n ||| (8 : Int32)) = nI (n % 8 + 8 + 16 * (n / 16)) := by decide +kernel
theorem rec_o16 : ∀ n, n < 32 → (nI n ||| (16 : Int32)) = nI (n % 16 + 16) := by decide +kernel
