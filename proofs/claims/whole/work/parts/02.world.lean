/-! The state of class and reference as one heap of names: name k is the k-th cell that the program makes (exceptions aside). Numbers, references and longs lie in three tables by name and place. -/
abbrev Sg : Type := Nat × (Nat → Nat → Int32) × (Nat → Nat → Option Nat) × (Nat → Nat → Int64)
def SCR : Nat := 1000000
def g_i (σ : Sg) (a k : Nat) : Int32 := σ.2.1 a k
def g_r (σ : Sg) (a k : Nat) : Option Nat := σ.2.2.1 a k
def g_l (σ : Sg) (a k : Nat) : Int64 := σ.2.2.2 a k
def s_i (σ : Sg) (a k : Nat) (x : Int32) : Sg := (σ.1, (fun b j => if b = a ∧ j = k then x else σ.2.1 b j), σ.2.2.1, σ.2.2.2)
def s_r (σ : Sg) (a k : Nat) (x : Option Nat) : Sg := (σ.1, σ.2.1, (fun b j => if b = a ∧ j = k then x else σ.2.2.1 b j), σ.2.2.2)
def s_l (σ : Sg) (a k : Nat) (x : Int64) : Sg := (σ.1, σ.2.1, σ.2.2.1, (fun b j => if b = a ∧ j = k then x else σ.2.2.2 b j))
/-- one cell more, blank -/
def s_n (σ : Sg) : Sg := (σ.1 + 1, (fun b j => if b = σ.1 then 0 else σ.2.1 b j), (fun b j => if b = σ.1 then none else σ.2.2.1 b j), (fun b j => if b = σ.1 then 0 else σ.2.2.2 b j))
theorem g_n_s_i (σ : Sg) (a k : Nat) (x : Int32) : (s_i σ a k x).1 = σ.1 := rfl
theorem g_n_s_r (σ : Sg) (a k : Nat) (x : Option Nat) : (s_r σ a k x).1 = σ.1 := rfl
theorem g_n_s_l (σ : Sg) (a k : Nat) (x : Int64) : (s_l σ a k x).1 = σ.1 := rfl
theorem g_n_s_n (σ : Sg) : (s_n σ).1 = σ.1 + 1 := rfl
theorem g_i_s_i (σ : Sg) (a k : Nat) (x : Int32) (b j : Nat) : g_i (s_i σ a k x) b j = if b = a ∧ j = k then x else g_i σ b j := rfl
theorem g_r_s_i (σ : Sg) (a k : Nat) (x : Int32) (b j : Nat) : g_r (s_i σ a k x) b j = g_r σ b j := rfl
theorem g_l_s_i (σ : Sg) (a k : Nat) (x : Int32) (b j : Nat) : g_l (s_i σ a k x) b j = g_l σ b j := rfl
theorem g_i_s_r (σ : Sg) (a k : Nat) (x : Option Nat) (b j : Nat) : g_i (s_r σ a k x) b j = g_i σ b j := rfl
theorem g_r_s_r (σ : Sg) (a k : Nat) (x : Option Nat) (b j : Nat) : g_r (s_r σ a k x) b j = if b = a ∧ j = k then x else g_r σ b j := rfl
theorem g_l_s_r (σ : Sg) (a k : Nat) (x : Option Nat) (b j : Nat) : g_l (s_r σ a k x) b j = g_l σ b j := rfl
theorem g_i_s_l (σ : Sg) (a k : Nat) (x : Int64) (b j : Nat) : g_i (s_l σ a k x) b j = g_i σ b j := rfl
theorem g_r_s_l (σ : Sg) (a k : Nat) (x : Int64) (b j : Nat) : g_r (s_l σ a k x) b j = g_r σ b j := rfl
theorem g_l_s_l (σ : Sg) (a k : Nat) (x : Int64) (b j : Nat) : g_l (s_l σ a k x) b j = if b = a ∧ j = k then x else g_l σ b j := rfl
theorem g_i_s_n (σ : Sg) (b j : Nat) : g_i (s_n σ) b j = if b = σ.1 then 0 else g_i σ b j := rfl
theorem g_r_s_n (σ : Sg) (b j : Nat) : g_r (s_n σ) b j = if b = σ.1 then none else g_r σ b j := rfl
theorem g_l_s_n (σ : Sg) (b j : Nat) : g_l (s_n σ) b j = if b = σ.1 then 0 else g_l σ b j := rfl
/-- a value with names for addresses, as the machine has it -/
def tr (ν : Nat → Nat) (v : Value) : Value := match v with
  | .ref k => .ref (ν k)
  | v => v
def okv (n : Nat) (v : Value) : Prop := match v with
  | .ref k => k < n ∨ k = SCR
  | _ => True
def oks (n : Nat) (st : List Value) : Prop := ∀ v ∈ st, okv n v
theorem oks_nil {n : Nat} : oks n [] := fun v h => nomatch h
theorem oks_cons {n : Nat} {v : Value} {st : List Value} (h : okv n v) (hs : oks n st) : oks n (v :: st) := fun w hw => (List.mem_cons.mp hw).elim (fun e => by rw [e]; exact h) (hs w)
theorem oks_tail {n : Nat} {v : Value} {st : List Value} (h : oks n (v :: st)) : oks n st := fun w hw => h w (List.mem_cons_of_mem _ hw)
theorem oks_head {n : Nat} {v : Value} {st : List Value} (h : oks n (v :: st)) : okv n v := h v List.mem_cons_self
theorem oks_app {n : Nat} {a b : List Value} (ha : oks n a) (hb : oks n b) : oks n (a ++ b) := fun w hw => (List.mem_append.mp hw).elim (ha w) (hb w)
theorem oks_left {n : Nat} {a b : List Value} (h : oks n (a ++ b)) : oks n a := fun w hw => h w (List.mem_append_left _ hw)
theorem oks_right {n : Nat} {a b : List Value} (h : oks n (a ++ b)) : oks n b := fun w hw => h w (List.mem_append_right _ hw)
theorem oks_rev {n : Nat} {a : List Value} (h : oks n a) : oks n a.reverse := fun w hw => h w (List.mem_reverse.mp hw)
theorem okv_mono {n n' : Nat} (hn : n ≤ n') {v : Value} (h : okv n v) : okv n' v := by
  cases v <;> first | exact trivial | exact (show _ from h).elim (fun q => Or.inl (Nat.lt_of_lt_of_le q hn)) Or.inr
theorem oks_mono {n n' : Nat} (hn : n ≤ n') {st : List Value} (h : oks n st) : oks n' st := fun v hv => okv_mono hn (h v hv)
theorem tr_cat (ν : Nat → Nat) (v : Value) : (tr ν v).category = v.category := by cases v <;> rfl
theorem tr_rf (ν : Nat → Nat) (o : Option Nat) : tr ν (va_rf o) = va_rf (o.map ν) := by cases o <;> rfl
/-- ν goes on from ν0: the names below n, and the script's -/
def ext (ν0 : Nat → Nat) (n : Nat) (ν : Nat → Nat) : Prop := ∀ k, k < n ∨ k = SCR → ν k = ν0 k
theorem ext_refl {ν : Nat → Nat} {n : Nat} : ext ν n ν := fun _ _ => rfl
theorem ext_trans {ν0 ν1 ν2 : Nat → Nat} {n n' : Nat} (hn : n ≤ n') (h1 : ext ν0 n ν1) (h2 : ext ν1 n' ν2) : ext ν0 n ν2 := fun k hk => (h2 k (hk.elim (fun q => Or.inl (Nat.lt_of_lt_of_le q hn)) Or.inr)).trans (h1 k hk)
theorem ext_tr {ν0 ν : Nat → Nat} {n : Nat} (h : ext ν0 n ν) {v : Value} (hv : okv n v) : tr ν v = tr ν0 v := by
  cases v <;> first | rfl | exact congrArg Value.ref (h _ hv)
theorem ext_map {ν0 ν : Nat → Nat} {n : Nat} (h : ext ν0 n ν) {st : List Value} (hv : oks n st) : st.map (tr ν) = st.map (tr ν0) := List.map_congr_left fun v hw => ext_tr h (hv v hw)
theorem ext_loc {ν0 ν : Nat → Nat} {n : Nat} (h : ext ν0 n ν) {L : List (Nat × Value)} (hv : oks n (L.map Prod.snd)) : L.map (fun q => (q.1, tr ν q.2)) = L.map (fun q => (q.1, tr ν0 q.2)) :=
  List.map_congr_left fun q hw => by rw [ext_tr h (hv q.2 (List.mem_map.mpr ⟨q, hw, rfl⟩))]
/-- a field's value -/
def fl (ν : Nat → Nat) (σ : Sg) (a j : Nat) : Value := if rf (kd a) j = true then va_rf ((g_r σ a j).map ν) else .int (g_i σ a j)
/-- what the cell of name a holds: kinds below 10 are the classes of vwCl; 10 int[], 11 boolean[], 12 long[], further ones arrays of references -/
def en (ν : Nat → Nat) (dA : Nat → ClassId) (σ : Sg) (a : Nat) : va_E :=
  if kd a < 10 then .inr (kd a, (List.range (nf (kd a))).map (fl ν σ a))
  else .inl (dA (kd a), ln a, if kd a < 12 then .inl (g_i σ a) else if kd a = 12 then .inr (.inl (g_l σ a)) else .inr (.inr (.inr (.inr (fun j => (g_r σ a j).map ν)))))
def wl (ν : Nat → Nat) (dA : Nat → ClassId) (σ : Sg) : va_W := (List.range σ.1).map (fun k => (ν k, en ν dA σ k))
theorem wl_len (ν : Nat → Nat) (dA : Nat → ClassId) (σ : Sg) : (wl ν dA σ).length = σ.1 := by simp [wl]
theorem wl_at {ν : Nat → Nat} {dA : Nat → ClassId} {σ : Sg} {k : Nat} (h : k < σ.1) : (wl ν dA σ)[k]? = some (ν k, en ν dA σ k) := by
  simp [wl, List.getElem?_map, List.getElem?_range h]
theorem wl_inv {ν : Nat → Nat} {dA : Nat → ClassId} {σ : Sg} {k : Nat} {q : Nat × va_E} (h : (wl ν dA σ)[k]? = some q) : k < σ.1 ∧ q = (ν k, en ν dA σ k) := by
  have hk : k < σ.1 := by
    have := (List.getElem?_eq_some_iff.mp h).1
    rwa [wl_len] at this
  rw [wl_at hk] at h
  exact ⟨hk, (Option.some.inj h).symm⟩
theorem wl_set {ν : Nat → Nat} {dA : Nat → ClassId} {σ σ' : Sg} {k : Nat} {e : va_E} (h : k < σ.1) (hn : σ'.1 = σ.1) (he : en ν dA σ' k = e) (ho : ∀ j, j ≠ k → en ν dA σ' j = en ν dA σ j) : (wl ν dA σ).set k (ν k, e) = wl ν dA σ' := by
  apply List.ext_getElem?
  intro j
  by_cases hj : j < σ.1
  · rw [wl_at (σ := σ') (by rw [hn]; exact hj)]
    by_cases hjk : j = k
    · subst hjk
      rw [List.getElem?_set_self (by rw [wl_len]; exact h), he]
    · rw [List.getElem?_set_ne (Ne.symm hjk), wl_at hj, ho j hjk]
  · rw [List.getElem?_eq_none (by rw [List.length_set, wl_len]; omega), List.getElem?_eq_none (by rw [wl_len, hn]; omega)]
theorem wl_push {ν ν' : Nat → Nat} {dA : Nat → ClassId} {σ σ' : Sg} {q : Nat} {e : va_E} (hn : σ'.1 = σ.1 + 1) (hν : ∀ k, k < σ.1 → ν' k = ν k) (hq : ν' σ.1 = q) (he : en ν' dA σ' σ.1 = e) (ho : ∀ j, j < σ.1 → en ν' dA σ' j = en ν dA σ j) : wl ν dA σ ++ [(q, e)] = wl ν' dA σ' := by
  simp only [wl, hn, List.range_succ, List.map_append, List.map_cons, List.map_nil, hq, he]
  congr 1
  apply List.map_congr_left
  intro k hk
  rw [List.mem_range] at hk
  rw [hν k hk, ho k hk]
theorem en_cg {ν ν' : Nat → Nat} {dA : Nat → ClassId} {σ σ' : Sg} {b : Nat} (hi : g_i σ' b = g_i σ b) (hr : ∀ k, (g_r σ' b k).map ν' = (g_r σ b k).map ν) (hl : g_l σ' b = g_l σ b) : en ν' dA σ' b = en ν dA σ b := by
  have hf : fl ν' σ' b = fl ν σ b := by funext j; simp only [fl, hi, hr]
  have hq : (fun j => (g_r σ' b j).map ν') = fun j => (g_r σ b j).map ν := by funext j; exact hr j
  simp only [en, hf, hi, hl, hq]
theorem en_o {ν : Nat → Nat} {dA : Nat → ClassId} {σ : Sg} {a ci : Nat} (h : kd a = ci) (h10 : ci < 10) : en ν dA σ a = .inr (ci, (List.range (nf ci)).map (fl ν σ a)) := by
  simp only [en, h, h10, if_true]
theorem en_i {ν : Nat → Nat} {dA : Nat → ClassId} {σ : Sg} {a ci : Nat} (h : kd a = ci) (h1 : 10 ≤ ci) (h2 : ci < 12) : en ν dA σ a = .inl (dA ci, ln a, .inl (g_i σ a)) := by
  simp only [en, h, Nat.not_lt.mpr h1, h2, if_true, if_false]
theorem en_l {ν : Nat → Nat} {dA : Nat → ClassId} {σ : Sg} {a : Nat} (h : kd a = 12) : en ν dA σ a = .inl (dA 12, ln a, .inr (.inl (g_l σ a))) := by
  simp [en, h]
theorem en_q {ν : Nat → Nat} {dA : Nat → ClassId} {σ : Sg} {a ci : Nat} (h : kd a = ci) (h1 : 12 < ci) : en ν dA σ a = .inl (dA ci, ln a, .inr (.inr (.inr (.inr (fun j => (g_r σ a j).map ν))))) := by
  have a1 : ¬ ci < 10 := by omega
  have a2 : ¬ ci < 12 := by omega
  have a3 : ¬ ci = 12 := by omega
  simp only [en, h, a1, a2, a3, if_false]
theorem fl_set {ν : Nat → Nat} {σ σ' : Sg} {a k N : Nat} {v : Value} (hv : fl ν σ' a k = v) (ho : ∀ j, j ≠ k → fl ν σ' a j = fl ν σ a j) : ((List.range N).map (fl ν σ a)).set k v = (List.range N).map (fl ν σ' a) := by
  apply List.ext_getElem?
  intro j
  by_cases hj : j < N
  · by_cases hjk : j = k
    · subst hjk
      rw [List.getElem?_set_self (by simpa using hj)]
      simp [List.getElem?_range hj, hv]
    · rw [List.getElem?_set_ne (Ne.symm hjk)]
      simp [List.getElem?_range hj, ho j hjk]
  · rw [List.getElem?_eq_none (by simp; omega), List.getElem?_eq_none (by simp; omega)]
theorem fl_at {ν : Nat → Nat} {σ : Sg} {a k N : Nat} (h : k < N) : ((List.range N).map (fl ν σ a))[k]? = some (fl ν σ a k) := by
  simp [List.getElem?_range h]
theorem gi_ne {σ : Sg} {a b k : Nat} {x : Int32} (h : b ≠ a) : g_i (s_i σ a k x) b = g_i σ b := by
  funext j; simp [g_i_s_i, h]
theorem gr_ne {σ : Sg} {a b k : Nat} {x : Option Nat} (h : b ≠ a) : g_r (s_r σ a k x) b = g_r σ b := by
  funext j; simp [g_r_s_r, h]
theorem gl_ne {σ : Sg} {a b k : Nat} {x : Int64} (h : b ≠ a) : g_l (s_l σ a k x) b = g_l σ b := by
  funext j; simp [g_l_s_l, h]
/-- the references that cells hold are names of cells -/
def shut (σ : Sg) : Prop := ∀ a k b, a < σ.1 → g_r σ a k = some b → b < σ.1
def Wd (D : va_G) (dA : Nat → ClassId) (n0 : Nat) (ν : Nat → Nat) (σ : Sg) (H : Heap) : Prop :=
  va_P D vwCl (wl ν dA σ) H ∧ va_D (fun q => n0 ≤ q) (wl ν dA σ) ∧ shut σ ∧ σ.1 ≤ SCR
