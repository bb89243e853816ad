/-! Rows of the heap: fields, arrays, new cells. -/
def inb (i : Int32) (n : Nat) : Bool := decide (¬ (i < 0 ∨ n ≤ i.toNatClampNeg))
theorem inb_in {i : Int32} {n : Nat} (h : inb i n = true) : vp_in i n := show ¬ (i < 0 ∨ n ≤ i.toNatClampNeg) from of_decide_eq_true h
def rc {β : Type} (x : Option Nat) (o1 : β) (o2 : Nat → β) : β := match x with
  | none => o1
  | some b => o2 b
/-- a class's facts: its row in vwCl, its fields laid out, their types -/
def CF (ci : Nat) (C : String) (T : u_T) (N : Nat) (ty : Nat → FieldType) : Prop := vwCl[ci]? = some (C, T, N) ∧ nf ci = N ∧ ci < 10 ∧ (∀ w ∈ u_ws C T N, w ∈ TB) ∧ (∀ k, k < N → parseFieldDescriptor (T k).2.2.1 = some (ty k)) ∧ (∀ a, a < N → ∀ b, b < N → a ≠ b → (T a).2.1 ≠ (T b).2.1) ∧ (∀ j, j < N → defaultValue (ty j) = if rf ci j = true then .null else .int 0)
/-- a field that the pool of own names at idx: field j of class ci -/
def FL (own : String) (idx ci j : Nat) (ref : Bool) (ty : FieldType) (fin : Bool) : Prop := ∃ (C : String) (T : u_T) (N : Nat) (tys : Nat → FieldType), CF ci C T N tys ∧ j < N ∧ Cond.fieldLink own idx (T j).1 (T j).2.1 (T j).2.2.1 ∈ TB ∧ rf ci j = ref ∧ parseFieldDescriptor (T j).2.2.1 = some ty ∧ (T j).2.2.2 = fin ∧ (T j).1 = C
theorem wd_put {D : va_G} {dA : Nat → ClassId} {n0 : Nat} {ν : Nat → Nat} {σ σ' : Sg} {H H1 : Heap} {a : Nat} {e : va_E} (h : Wd D dA n0 ν σ H) (hn : σ'.1 = σ.1) (ha : a < σ.1) (he : en ν dA σ' a = e) (ho : ∀ j, j ≠ a → en ν dA σ' j = en ν dA σ j) (hs : shut σ') (h1 : va_P D vwCl ((wl ν dA σ).set a (ν a, e)) H1) (h2 : va_D (fun q => n0 ≤ q) ((wl ν dA σ).set a (ν a, e))) : Wd D dA n0 ν σ' H1 := by
  rw [wl_set ha hn he ho] at h1 h2
  exact ⟨h1, h2, hs, by rw [hn]; exact h.2.2.2⟩
theorem shut_r {σ : Sg} {a j : Nat} {x : Option Nat} (h : shut σ) (hx : ∀ b, x = some b → b < σ.1) : shut (s_r σ a j x) := by
  intro a' k b ha hb
  rw [g_r_s_r] at hb
  by_cases q : a' = a ∧ k = j
  · rw [if_pos q] at hb; exact hx b hb
  · rw [if_neg q] at hb; exact h a' k b ha hb
theorem en_si {ν : Nat → Nat} {dA : Nat → ClassId} {σ : Sg} {a k : Nat} {x : Int32} : ∀ j, j ≠ a → en ν dA (s_i σ a k x) j = en ν dA σ j := fun j hj => en_cg (gi_ne hj) (fun _ => rfl) rfl
theorem en_sr {ν : Nat → Nat} {dA : Nat → ClassId} {σ : Sg} {a k : Nat} {x : Option Nat} : ∀ j, j ≠ a → en ν dA (s_r σ a k x) j = en ν dA σ j := fun j hj => en_cg rfl (fun q => by rw [gr_ne hj]) rfl
theorem en_sl {ν : Nat → Nat} {dA : Nat → ClassId} {σ : Sg} {a k : Nat} {x : Int64} : ∀ j, j ≠ a → en ν dA (s_l σ a k x) j = en ν dA σ j := fun j hj => en_cg rfl (fun _ => rfl) (gl_ne hj)
theorem gi_upd {σ : Sg} {a k : Nat} {x : Int32} : g_i (s_i σ a k x) a = upd (g_i σ a) k x := by
  funext j; simp [g_i_s_i, upd]
theorem gl_upd {σ : Sg} {a k : Nat} {x : Int64} : g_l (s_l σ a k x) a = vp_updL (g_l σ a) k x := by
  funext j; simp [g_l_s_l, vp_updL]
/-- one cell more: the world with it -/
def nu1 (ν : Nat → Nat) (n q : Nat) : Nat → Nat := fun k => if k = n then q else ν k
theorem nu1_lt {ν : Nat → Nat} {n q k : Nat} (h : k < n) : nu1 ν n q k = ν k := if_neg (Nat.ne_of_lt h)
theorem nu1_ext {ν : Nat → Nat} {n q : Nat} (h : n < SCR) : ext ν n (nu1 ν n q) := fun k hk => if_neg (by omega)
theorem wd_new {D : va_G} {dA : Nat → ClassId} {n0 q : Nat} {ν : Nat → Nat} {σ : Sg} {H H1 : Heap} {e : va_E} (h : Wd D dA n0 ν σ H) (hlt : σ.1 < SCR) (he : en (nu1 ν σ.1 q) dA (s_n σ) σ.1 = e) (h1 : va_P D vwCl (wl ν dA σ ++ [(q, e)]) H1) (h2 : va_D (fun q => n0 ≤ q) (wl ν dA σ ++ [(q, e)])) : Wd D dA n0 (nu1 ν σ.1 q) (s_n σ) H1 := by
  have hw : wl ν dA σ ++ [(q, e)] = wl (nu1 ν σ.1 q) dA (s_n σ) := by
    refine wl_push rfl (fun k hk => nu1_lt hk) (if_pos rfl) he (fun j hj => ?_)
    have hne : ¬ j = σ.1 := Nat.ne_of_lt hj
    refine en_cg ?_ (fun k => ?_) ?_
    · funext k; simp [g_i_s_n, hne]
    · rw [g_r_s_n, if_neg hne]
      cases hb : g_r σ j k with
      | none => rfl
      | some b => exact congrArg some (nu1_lt (h.2.2.1 j k b hj hb))
    · funext k; simp [g_l_s_n, hne]
  rw [hw] at h1 h2
  refine ⟨h1, h2, fun a k b ha hb => ?_, hlt⟩
  have ha' : a < σ.1 + 1 := ha
  rw [g_r_s_n] at hb
  by_cases q1 : a = σ.1
  · rw [if_pos q1] at hb; cases hb
  · rw [if_neg q1] at hb
    exact Nat.lt_succ_of_lt (h.2.2.1 a k b (by omega) hb)
def Ini (Γ : GX) : Prop := match Γ with
  | (p, l, e, R, s, m, args, below, meth, c, D, dA, Hl, ν0, N0, Qr) => meth.name = "<init>"
def Scr (Γ : GX) (n : Nat) (xs : Nat → Int32) : Prop := match Γ with
  | (p, l, e, R, s, m, args, below, meth, c, D, dA, Hl, ν0, N0, Qr) => va_X (ν0 SCR) n xs s Hl ∧ ν0 SCR < Hl.size
section GH
variable {ρ : Type} {mk : ρ → Rs} {Γ : GX} {own : String} {cc : ByteArray} {nL : Nat} {rm : Room} {cells slots pc : Nat} {L : List (Nat × Value)} {st : List Value} {σ : Sg} {o : Option ρ}
theorem g_acmp_eq (K : Cx Γ own cc nL rm) {a b : Nat} {off : Int} {tgt : Nat} {o1 o2 : Option ρ} (d : decode cc pc = .ok (.if_acmp .eq off, 3)) (ht : (pc : Int) + off = (tgt : Int)) (kt : a = b → G Γ mk cells slots tgt L st σ o1) (kf : ¬ a = b → G Γ mk cells slots (pc + 3) L st σ o2) : G Γ mk cells slots pc L (.ref b :: .ref a :: st) σ (if a < σ.1 ∧ b < σ.1 then (if a = b then o1 else o2) else none) := by
  refine g_if fun hc => ?_
  obtain ⟨p, l, e, R, s, m, args, below, meth, c, D, dA, Hl, ν0, N0, Qr⟩ := Γ
  obtain ⟨hx, hb, hml, hown, hts, hX, hlk, htr, hR⟩ := K
  intro r hr ν H ls locs a1 a2 a3 a4 a5 a6 a7
  refine lv_acmp_eq (rx := some (ν a)) (ry := some (ν b)) hx hb d ht (fun h => ?_) (fun h => ?_)
  · have hab : a = b := a3.2.1.1 a b _ _ (wl_at hc.1) (wl_at hc.2) (Option.some.inj h)
    rw [if_pos hab] at hr
    exact kt hab r hr ν H ls locs a1 a2 a3 a4 a5 (oks_tail (oks_tail a6)) a7
  · have hab : ¬ a = b := fun q => h (by rw [q])
    rw [if_neg hab] at hr
    exact kf hab r hr ν H ls locs a1 a2 a3 a4 a5 (oks_tail (oks_tail a6)) a7
theorem g_acmp_ne (K : Cx Γ own cc nL rm) {a b : Nat} {off : Int} {tgt : Nat} {o1 o2 : Option ρ} (d : decode cc pc = .ok (.if_acmp .ne off, 3)) (ht : (pc : Int) + off = (tgt : Int)) (kt : ¬ a = b → G Γ mk cells slots tgt L st σ o1) (kf : a = b → G Γ mk cells slots (pc + 3) L st σ o2) : G Γ mk cells slots pc L (.ref b :: .ref a :: st) σ (if a < σ.1 ∧ b < σ.1 then (if a = b then o2 else o1) else none) := by
  refine g_if fun hc => ?_
  obtain ⟨p, l, e, R, s, m, args, below, meth, c, D, dA, Hl, ν0, N0, Qr⟩ := Γ
  obtain ⟨hx, hb, hml, hown, hts, hX, hlk, htr, hR⟩ := K
  intro r hr ν H ls locs a1 a2 a3 a4 a5 a6 a7
  refine lv_acmp_ne (rx := some (ν a)) (ry := some (ν b)) hx hb d ht (fun h => ?_) (fun h => ?_)
  · have hab : ¬ a = b := fun q => h (by rw [q])
    rw [if_neg hab] at hr
    exact kt hab r hr ν H ls locs a1 a2 a3 a4 a5 (oks_tail (oks_tail a6)) a7
  · have hab : a = b := a3.2.1.1 a b _ _ (wl_at hc.1) (wl_at hc.2) (Option.some.inj h)
    rw [if_pos hab] at hr
    exact kf hab r hr ν H ls locs a1 a2 a3 a4 a5 (oks_tail (oks_tail a6)) a7
theorem g_getI (K : Cx Γ own cc nL rm) {idx ci j a : Nat} {ty : FieldType} {fin : Bool} (hF : FL own idx ci j false ty fin) (d : decode cc pc = .ok (.getfield idx, 3)) (k : G Γ mk cells slots (pc + 3) L (.int (g_i σ a j) :: st) σ o) : G Γ mk cells slots pc L (.ref a :: st) σ (if a < σ.1 ∧ kd a = ci then o else none) := by
  refine g_if fun hc => ?_
  obtain ⟨C, T, N, tys, ⟨c1, c2, c3, c4, c5, c6, c7⟩, f1, f2, f3, f4, f5, f6⟩ := hF
  obtain ⟨p, l, e, R, s, m, args, below, meth, c, D, dA, Hl, ν0, N0, Qr⟩ := Γ
  obtain ⟨hx, hb, hml, hown, hts, hX, hlk, htr, hR⟩ := K
  intro r hr ν H ls locs a1 a2 a3 a4 a5 a6 a7
  have he : (wl ν dA σ)[a]? = some (ν a, .inr (ci, (List.range (nf ci)).map (fl ν σ a))) := by rw [wl_at hc.1, en_o hc.2 c3]
  refine va_get (D := D) hx hb hts c4 hown hX.1 a3.1 a he c1 j f1 (hts _ f2) (fun x h => h) (v := .int (g_i σ a j)) ?_ d (k r hr ν H ls locs a1 a2 a3 a4 a5 (oks_cons trivial (oks_tail a6)) a7)
  rw [c2, fl_at f1]
  simp [fl, hc.2, f3]
theorem g_getR (K : Cx Γ own cc nL rm) {idx ci j a : Nat} {ty : FieldType} {fin : Bool} {o1 : Option ρ} {o2 : Nat → Option ρ} (hF : FL own idx ci j true ty fin) (d : decode cc pc = .ok (.getfield idx, 3)) (k1 : g_r σ a j = none → G Γ mk cells slots (pc + 3) L (.null :: st) σ o1) (k2 : ∀ b, g_r σ a j = some b → G Γ mk cells slots (pc + 3) L (.ref b :: st) σ (o2 b)) : G Γ mk cells slots pc L (.ref a :: st) σ (if a < σ.1 ∧ kd a = ci then rc (g_r σ a j) o1 o2 else none) := by
  refine g_if fun hc => ?_
  obtain ⟨C, T, N, tys, ⟨c1, c2, c3, c4, c5, c6, c7⟩, f1, f2, f3, f4, f5, f6⟩ := hF
  obtain ⟨p, l, e, R, s, m, args, below, meth, c, D, dA, Hl, ν0, N0, Qr⟩ := Γ
  obtain ⟨hx, hb, hml, hown, hts, hX, hlk, htr, hR⟩ := K
  intro r hr ν H ls locs a1 a2 a3 a4 a5 a6 a7
  have he : (wl ν dA σ)[a]? = some (ν a, .inr (ci, (List.range (nf ci)).map (fl ν σ a))) := by rw [wl_at hc.1, en_o hc.2 c3]
  cases hg : g_r σ a j with
  | none =>
    rw [hg] at hr
    refine va_get (D := D) hx hb hts c4 hown hX.1 a3.1 a he c1 j f1 (hts _ f2) (fun x h => h) (v := .null) ?_ d (k1 hg r hr ν H ls locs a1 a2 a3 a4 a5 (oks_cons trivial (oks_tail a6)) a7)
    rw [c2, fl_at f1]
    simp [fl, hc.2, f3, hg, va_rf]
  | some b =>
    rw [hg] at hr
    refine va_get (D := D) hx hb hts c4 hown hX.1 a3.1 a he c1 j f1 (hts _ f2) (fun x h => h) (v := .ref (ν b)) ?_ d (k2 b hg r hr ν H ls locs a1 a2 a3 a4 a5 (oks_cons (Or.inl (a3.2.2.1 a j b hc.1 hg)) (oks_tail a6)) a7)
    rw [c2, fl_at f1]
    simp [fl, hc.2, f3, hg, va_rf]
theorem g_putI (K : Cx Γ own cc nL rm) {idx ci j a : Nat} {x : Int32}  (hF : FL own idx ci j false .int false) (d : decode cc pc = .ok (.putfield idx, 3)) (k : G Γ mk cells slots (pc + 3) L st (s_i σ a j x) o) : G Γ mk cells slots pc L (.int x :: .ref a :: st) σ (if a < σ.1 ∧ kd a = ci then o else none) := by
  refine g_if fun hc0 => ?_
  have hc : a < σ.1 ∧ kd a = ci := hc0
  obtain ⟨C, T, N, tys, ⟨c1, c2, c3, c4, c5, c6, c7⟩, f1, f2, f3, f4, f5, f6⟩ := hF
  obtain ⟨p, l, e, R, s, m, args, below, meth, c, D, dA, Hl, ν0, N0, Qr⟩ := Γ
  obtain ⟨hx, hb, hml, hown, hts, hX, hlk, htr, hR⟩ := K
  intro r hr ν H ls locs a1 a2 a3 a4 a5 a6 a7
  have he : (wl ν dA σ)[a]? = some (ν a, .inr (ci, (List.range (nf ci)).map (fl ν σ a))) := by rw [wl_at hc.1, en_o hc.2 c3]
  refine va_put (D := D) hx hb hts c4 tys c5 c6 hown hX.1 a3.1 a3.2.1 a4 a he c1 j f1 (hts _ f2) (fun x h => h) f5 f4 rfl rfl (by simp [c2, f1]) d (fun H1 locs1 b1 b2 b3 => ?_)
  refine k r hr ν H1 ls locs1 a1 a2 (wd_put a3 rfl hc.1 ?_ en_si a3.2.2.1 b1 b2) b3 a5 (oks_tail (oks_tail a6)) a7
  rw [en_o hc.2 c3]
  congr 2
  refine (fl_set ?_ (fun q hq => ?_)).symm
  · simp [fl, hc.2, f3, g_i_s_i, tr]
  · simp [fl, g_i_s_i, g_r_s_i, hq]
theorem g_putIF (K : Cx Γ own cc nL rm) {idx ci j a : Nat} {x : Int32} (hI : Ini Γ) (ho : ∀ C T N, vwCl[ci]? = some (C, T, N) → C = own)  (hF : FL own idx ci j false .int true) (d : decode cc pc = .ok (.putfield idx, 3)) (k : G Γ mk cells slots (pc + 3) L st (s_i σ a j x) o) : G Γ mk cells slots pc L (.int x :: .ref a :: st) σ (if a < σ.1 ∧ kd a = ci then o else none) := by
  refine g_if fun hc0 => ?_
  have hc : a < σ.1 ∧ kd a = ci := hc0
  obtain ⟨C, T, N, tys, ⟨c1, c2, c3, c4, c5, c6, c7⟩, f1, f2, f3, f4, f5, f6⟩ := hF
  obtain ⟨p, l, e, R, s, m, args, below, meth, c, D, dA, Hl, ν0, N0, Qr⟩ := Γ
  obtain ⟨hx, hb, hml, hown, hts, hX, hlk, htr, hR⟩ := K
  intro r hr ν H ls locs a1 a2 a3 a4 a5 a6 a7
  have he : (wl ν dA σ)[a]? = some (ν a, .inr (ci, (List.range (nf ci)).map (fl ν σ a))) := by rw [wl_at hc.1, en_o hc.2 c3]
  refine va_putF (D := D) hx hb hts c4 tys c5 c6 hown hX.1 a3.1 a3.2.1 a4 a he c1 j f1 (hts _ f2) (fun x h => h) f5 hI (f6.trans (ho _ _ _ c1)) f4 rfl rfl (by simp [c2, f1]) d (fun H1 locs1 b1 b2 b3 => ?_)
  refine k r hr ν H1 ls locs1 a1 a2 (wd_put a3 rfl hc.1 ?_ en_si a3.2.2.1 b1 b2) b3 a5 (oks_tail (oks_tail a6)) a7
  rw [en_o hc.2 c3]
  congr 2
  refine (fl_set ?_ (fun q hq => ?_)).symm
  · simp [fl, hc.2, f3, g_i_s_i, tr]
  · simp [fl, g_i_s_i, g_r_s_i, hq]
theorem g_putZ (K : Cx Γ own cc nL rm) {idx ci j a : Nat} {x : Int32}  (hF : FL own idx ci j false .boolean false) (d : decode cc pc = .ok (.putfield idx, 3)) (k : G Γ mk cells slots (pc + 3) L st (s_i σ a j x) o) : G Γ mk cells slots pc L (.int x :: .ref a :: st) σ (if (a < σ.1 ∧ kd a = ci) ∧ (x = 0 ∨ x = 1) then o else none) := by
  refine g_if fun hc0 => ?_
  have hc : a < σ.1 ∧ kd a = ci := hc0.1
  obtain ⟨C, T, N, tys, ⟨c1, c2, c3, c4, c5, c6, c7⟩, f1, f2, f3, f4, f5, f6⟩ := hF
  obtain ⟨p, l, e, R, s, m, args, below, meth, c, D, dA, Hl, ν0, N0, Qr⟩ := Γ
  obtain ⟨hx, hb, hml, hown, hts, hX, hlk, htr, hR⟩ := K
  intro r hr ν H ls locs a1 a2 a3 a4 a5 a6 a7
  have he : (wl ν dA σ)[a]? = some (ν a, .inr (ci, (List.range (nf ci)).map (fl ν σ a))) := by rw [wl_at hc.1, en_o hc.2 c3]
  refine va_put (D := D) hx hb hts c4 tys c5 c6 hown hX.1 a3.1 a3.2.1 a4 a he c1 j f1 (hts _ f2) (fun x h => h) f5 f4 (by rcases hc0.2 with h | h <;> rw [h] <;> rfl) (by rcases hc0.2 with h | h <;> rw [h] <;> rfl) (by simp [c2, f1]) d (fun H1 locs1 b1 b2 b3 => ?_)
  refine k r hr ν H1 ls locs1 a1 a2 (wd_put a3 rfl hc.1 ?_ en_si a3.2.2.1 b1 b2) b3 a5 (oks_tail (oks_tail a6)) a7
  rw [en_o hc.2 c3]
  congr 2
  refine (fl_set ?_ (fun q hq => ?_)).symm
  · simp [fl, hc.2, f3, g_i_s_i, tr]
  · simp [fl, g_i_s_i, g_r_s_i, hq]
theorem g_putR (K : Cx Γ own cc nL rm) {idx ci j a : Nat} {b : Nat} {C9 : String}  (hF : FL own idx ci j true (.object C9) false) (d : decode cc pc = .ok (.putfield idx, 3)) (k : G Γ mk cells slots (pc + 3) L st (s_r σ a j (some b)) o) : G Γ mk cells slots pc L (.ref b :: .ref a :: st) σ (if (a < σ.1 ∧ kd a = ci) ∧ b < σ.1 then o else none) := by
  refine g_if fun hc0 => ?_
  have hc : a < σ.1 ∧ kd a = ci := hc0.1
  obtain ⟨C, T, N, tys, ⟨c1, c2, c3, c4, c5, c6, c7⟩, f1, f2, f3, f4, f5, f6⟩ := hF
  obtain ⟨p, l, e, R, s, m, args, below, meth, c, D, dA, Hl, ν0, N0, Qr⟩ := Γ
  obtain ⟨hx, hb, hml, hown, hts, hX, hlk, htr, hR⟩ := K
  intro r hr ν H ls locs a1 a2 a3 a4 a5 a6 a7
  have he : (wl ν dA σ)[a]? = some (ν a, .inr (ci, (List.range (nf ci)).map (fl ν σ a))) := by rw [wl_at hc.1, en_o hc.2 c3]
  refine va_put (D := D) hx hb hts c4 tys c5 c6 hown hX.1 a3.1 a3.2.1 a4 a he c1 j f1 (hts _ f2) (fun x h => h) f5 f4 rfl rfl (by simp [c2, f1]) d (fun H1 locs1 b1 b2 b3 => ?_)
  refine k r hr ν H1 ls locs1 a1 a2 (wd_put a3 rfl hc.1 ?_ en_sr (shut_r a3.2.2.1 (fun z hz => by cases hz; exact hc0.2)) b1 b2) b3 a5 (oks_tail (oks_tail a6)) a7
  rw [en_o hc.2 c3]
  congr 2
  refine (fl_set ?_ (fun q hq => ?_)).symm
  · simp [fl, hc.2, f3, g_r_s_r, va_rf, tr]
  · simp [fl, g_i_s_r, g_r_s_r, hq]
theorem g_putN (K : Cx Γ own cc nL rm) {idx ci j a : Nat} {C9 : String}  (hF : FL own idx ci j true (.object C9) false) (d : decode cc pc = .ok (.putfield idx, 3)) (k : G Γ mk cells slots (pc + 3) L st (s_r σ a j none) o) : G Γ mk cells slots pc L (.null :: .ref a :: st) σ (if a < σ.1 ∧ kd a = ci then o else none) := by
  refine g_if fun hc0 => ?_
  have hc : a < σ.1 ∧ kd a = ci := hc0
  obtain ⟨C, T, N, tys, ⟨c1, c2, c3, c4, c5, c6, c7⟩, f1, f2, f3, f4, f5, f6⟩ := hF
  obtain ⟨p, l, e, R, s, m, args, below, meth, c, D, dA, Hl, ν0, N0, Qr⟩ := Γ
  obtain ⟨hx, hb, hml, hown, hts, hX, hlk, htr, hR⟩ := K
  intro r hr ν H ls locs a1 a2 a3 a4 a5 a6 a7
  have he : (wl ν dA σ)[a]? = some (ν a, .inr (ci, (List.range (nf ci)).map (fl ν σ a))) := by rw [wl_at hc.1, en_o hc.2 c3]
  refine va_put (D := D) hx hb hts c4 tys c5 c6 hown hX.1 a3.1 a3.2.1 a4 a he c1 j f1 (hts _ f2) (fun x h => h) f5 f4 rfl rfl (by simp [c2, f1]) d (fun H1 locs1 b1 b2 b3 => ?_)
  refine k r hr ν H1 ls locs1 a1 a2 (wd_put a3 rfl hc.1 ?_ en_sr (shut_r a3.2.2.1 (fun z hz => by cases hz)) b1 b2) b3 a5 (oks_tail (oks_tail a6)) a7
  rw [en_o hc.2 c3]
  congr 2
  refine (fl_set ?_ (fun q hq => ?_)).symm
  · simp [fl, hc.2, f3, g_r_s_r, va_rf, tr]
  · simp [fl, g_i_s_r, g_r_s_r, hq]
theorem g_putRF (K : Cx Γ own cc nL rm) {idx ci j a : Nat} {b : Nat} {C9 : FieldType} (hI : Ini Γ) (ho : ∀ C T N, vwCl[ci]? = some (C, T, N) → C = own)  (hF : FL own idx ci j true (.array C9) true) (d : decode cc pc = .ok (.putfield idx, 3)) (k : G Γ mk cells slots (pc + 3) L st (s_r σ a j (some b)) o) : G Γ mk cells slots pc L (.ref b :: .ref a :: st) σ (if (a < σ.1 ∧ kd a = ci) ∧ b < σ.1 then o else none) := by
  refine g_if fun hc0 => ?_
  have hc : a < σ.1 ∧ kd a = ci := hc0.1
  obtain ⟨C, T, N, tys, ⟨c1, c2, c3, c4, c5, c6, c7⟩, f1, f2, f3, f4, f5, f6⟩ := hF
  obtain ⟨p, l, e, R, s, m, args, below, meth, c, D, dA, Hl, ν0, N0, Qr⟩ := Γ
  obtain ⟨hx, hb, hml, hown, hts, hX, hlk, htr, hR⟩ := K
  intro r hr ν H ls locs a1 a2 a3 a4 a5 a6 a7
  have he : (wl ν dA σ)[a]? = some (ν a, .inr (ci, (List.range (nf ci)).map (fl ν σ a))) := by rw [wl_at hc.1, en_o hc.2 c3]
  refine va_putF (D := D) hx hb hts c4 tys c5 c6 hown hX.1 a3.1 a3.2.1 a4 a he c1 j f1 (hts _ f2) (fun x h => h) f5 hI (f6.trans (ho _ _ _ c1)) f4 rfl rfl (by simp [c2, f1]) d (fun H1 locs1 b1 b2 b3 => ?_)
  refine k r hr ν H1 ls locs1 a1 a2 (wd_put a3 rfl hc.1 ?_ en_sr (shut_r a3.2.2.1 (fun z hz => by cases hz; exact hc0.2)) b1 b2) b3 a5 (oks_tail (oks_tail a6)) a7
  rw [en_o hc.2 c3]
  congr 2
  refine (fl_set ?_ (fun q hq => ?_)).symm
  · simp [fl, hc.2, f3, g_r_s_r, va_rf, tr]
  · simp [fl, g_i_s_r, g_r_s_r, hq]
theorem g_iald (K : Cx Γ own cc nL rm) {a : Nat} {i : Int32} (d : decode cc pc = .ok (.iaload, 1)) (k : G Γ mk cells slots (pc + 1) L (.int (g_i σ a i.toNatClampNeg) :: st) σ o) : G Γ mk cells slots pc L (.int i :: .ref a :: st) σ (if (a < σ.1 ∧ kd a = 10) ∧ inb i (ln a) = true then o else none) := by
  refine g_if fun hc => ?_
  obtain ⟨p, l, e, R, s, m, args, below, meth, c, D, dA, Hl, ν0, N0, Qr⟩ := Γ
  obtain ⟨hx, hb, hml, hown, hts, hX, hlk, htr, hR⟩ := K
  intro r hr ν H ls locs a1 a2 a3 a4 a5 a6 a7
  have he : (wl ν dA σ)[a]? = some (ν a, .inl (dA 10, ln a, .inl (g_i σ a))) := by rw [wl_at hc.1.1, en_i hc.1.2 (by decide) (by decide)]
  exact va_iald (D := D) hx hb hX.1 a3.1 a 0 he rfl (inb_in hc.2) d (k r hr ν H ls locs a1 a2 a3 a4 a5 (oks_cons trivial (oks_tail (oks_tail a6))) a7)
theorem g_zald (K : Cx Γ own cc nL rm) {a : Nat} {i : Int32} (d : decode cc pc = .ok (.baload, 1)) (k : G Γ mk cells slots (pc + 1) L (.int (g_i σ a i.toNatClampNeg) :: st) σ o) : G Γ mk cells slots pc L (.int i :: .ref a :: st) σ (if (a < σ.1 ∧ kd a = 11) ∧ inb i (ln a) = true then o else none) := by
  refine g_if fun hc => ?_
  obtain ⟨p, l, e, R, s, m, args, below, meth, c, D, dA, Hl, ν0, N0, Qr⟩ := Γ
  obtain ⟨hx, hb, hml, hown, hts, hX, hlk, htr, hR⟩ := K
  intro r hr ν H ls locs a1 a2 a3 a4 a5 a6 a7
  have he : (wl ν dA σ)[a]? = some (ν a, .inl (dA 11, ln a, .inl (g_i σ a))) := by rw [wl_at hc.1.1, en_i hc.1.2 (by decide) (by decide)]
  exact va_zald (D := D) hx hb hX.1 a3.1 a 1 he rfl (inb_in hc.2) d (k r hr ν H ls locs a1 a2 a3 a4 a5 (oks_cons trivial (oks_tail (oks_tail a6))) a7)
theorem g_iast (K : Cx Γ own cc nL rm) {a : Nat} {i x : Int32} (d : decode cc pc = .ok (.iastore, 1)) (k : G Γ mk cells slots (pc + 1) L st (s_i σ a i.toNatClampNeg x) o) : G Γ mk cells slots pc L (.int x :: .int i :: .ref a :: st) σ (if (a < σ.1 ∧ kd a = 10) ∧ inb i (ln a) = true then o else none) := by
  refine g_if fun hc0 => ?_
  have hc : (a < σ.1 ∧ kd a = 10) ∧ inb i (ln a) = true := hc0
  obtain ⟨p, l, e, R, s, m, args, below, meth, c, D, dA, Hl, ν0, N0, Qr⟩ := Γ
  obtain ⟨hx, hb, hml, hown, hts, hX, hlk, htr, hR⟩ := K
  intro r hr ν H ls locs a1 a2 a3 a4 a5 a6 a7
  have he : (wl ν dA σ)[a]? = some (ν a, .inl (dA 10, ln a, .inl (g_i σ a))) := by rw [wl_at hc.1.1, en_i hc.1.2 (by decide) (by decide)]
  refine va_iast (D := D) hx hb hX.1 a3.1 a3.2.1 a4 a 0 he rfl (inb_in hc.2) d (fun H1 locs1 b1 b2 b3 => ?_)
  refine k r hr ν H1 ls locs1 a1 a2 (wd_put a3 rfl hc.1.1 ?_ en_si a3.2.2.1 b1 b2) b3 a5 (oks_tail (oks_tail (oks_tail a6))) a7
  rw [en_i hc.1.2 (by decide) (by decide), gi_upd]
theorem g_zast (K : Cx Γ own cc nL rm) {a : Nat} {i x : Int32} (d : decode cc pc = .ok (.bastore, 1)) (k : G Γ mk cells slots (pc + 1) L st (s_i σ a i.toNatClampNeg x) o) : G Γ mk cells slots pc L (.int x :: .int i :: .ref a :: st) σ (if ((a < σ.1 ∧ kd a = 11) ∧ inb i (ln a) = true) ∧ (x = 0 ∨ x = 1) then o else none) := by
  refine g_if fun hc0 => ?_
  have hc : (a < σ.1 ∧ kd a = 11) ∧ inb i (ln a) = true := hc0.1
  obtain ⟨p, l, e, R, s, m, args, below, meth, c, D, dA, Hl, ν0, N0, Qr⟩ := Γ
  obtain ⟨hx, hb, hml, hown, hts, hX, hlk, htr, hR⟩ := K
  intro r hr ν H ls locs a1 a2 a3 a4 a5 a6 a7
  have hnar : vp_nar .boolean x = x := by rcases hc0.2 with h | h <;> rw [h] <;> rfl
  have he : (wl ν dA σ)[a]? = some (ν a, .inl (dA 11, ln a, .inl (g_i σ a))) := by rw [wl_at hc.1.1, en_i hc.1.2 (by decide) (by decide)]
  refine va_zast (D := D) hx hb hX.1 a3.1 a3.2.1 a4 a 1 he rfl (inb_in hc.2) d (fun H1 locs1 b1 b2 b3 => ?_)
  rw [hnar] at b1 b2
  refine k r hr ν H1 ls locs1 a1 a2 (wd_put a3 rfl hc.1.1 ?_ en_si a3.2.2.1 b1 b2) b3 a5 (oks_tail (oks_tail (oks_tail a6))) a7
  rw [en_i hc.1.2 (by decide) (by decide), gi_upd]
theorem g_lald (K : Cx Γ own cc nL rm) {a : Nat} {i : Int32} (d : decode cc pc = .ok (.laload, 1)) (k : G Γ mk cells slots (pc + 1) L (.long (g_l σ a i.toNatClampNeg) :: st) σ o) : G Γ mk cells slots pc L (.int i :: .ref a :: st) σ (if (a < σ.1 ∧ kd a = 12) ∧ inb i (ln a) = true then o else none) := by
  refine g_if fun hc => ?_
  obtain ⟨p, l, e, R, s, m, args, below, meth, c, D, dA, Hl, ν0, N0, Qr⟩ := Γ
  obtain ⟨hx, hb, hml, hown, hts, hX, hlk, htr, hR⟩ := K
  intro r hr ν H ls locs a1 a2 a3 a4 a5 a6 a7
  have he : (wl ν dA σ)[a]? = some (ν a, .inl (dA 12, ln a, .inr (.inl (g_l σ a)))) := by rw [wl_at hc.1.1, en_l hc.1.2]
  exact va_lald (D := D) hx hb hX.1 a3.1 a 2 he rfl (inb_in hc.2) d (k r hr ν H ls locs a1 a2 a3 a4 a5 (oks_cons trivial (oks_tail (oks_tail a6))) a7)
theorem g_last (K : Cx Γ own cc nL rm) {a : Nat} {i : Int32} {x : Int64} (d : decode cc pc = .ok (.lastore, 1)) (k : G Γ mk cells slots (pc + 1) L st (s_l σ a i.toNatClampNeg x) o) : G Γ mk cells slots pc L (.long x :: .int i :: .ref a :: st) σ (if (a < σ.1 ∧ kd a = 12) ∧ inb i (ln a) = true then o else none) := by
  refine g_if fun hc => ?_
  obtain ⟨p, l, e, R, s, m, args, below, meth, c, D, dA, Hl, ν0, N0, Qr⟩ := Γ
  obtain ⟨hx, hb, hml, hown, hts, hX, hlk, htr, hR⟩ := K
  intro r hr ν H ls locs a1 a2 a3 a4 a5 a6 a7
  have he : (wl ν dA σ)[a]? = some (ν a, .inl (dA 12, ln a, .inr (.inl (g_l σ a)))) := by rw [wl_at hc.1.1, en_l hc.1.2]
  refine va_last (D := D) hx hb hX.1 a3.1 a3.2.1 a4 a 2 he rfl (inb_in hc.2) d (fun H1 locs1 b1 b2 b3 => ?_)
  refine k r hr ν H1 ls locs1 a1 a2 (wd_put a3 rfl hc.1.1 ?_ en_sl a3.2.2.1 b1 b2) b3 a5 (oks_tail (oks_tail (oks_tail a6))) a7
  rw [en_l hc.1.2, gl_upd]
theorem g_aald (K : Cx Γ own cc nL rm) {a kq t0 : Nat} {i : Int32} {C : String} {o1 : Option ρ} {o2 : Nat → Option ρ} (hq : 12 < kq) (ht : ∀ dA : Nat → ClassId, (tyL dA)[t0]? = some (dA kq, .object C)) (d : decode cc pc = .ok (.aaload, 1)) (k1 : g_r σ a i.toNatClampNeg = none → G Γ mk cells slots (pc + 1) L (.null :: st) σ o1) (k2 : ∀ b, g_r σ a i.toNatClampNeg = some b → G Γ mk cells slots (pc + 1) L (.ref b :: st) σ (o2 b)) : G Γ mk cells slots pc L (.int i :: .ref a :: st) σ (if (a < σ.1 ∧ kd a = kq) ∧ inb i (ln a) = true then rc (g_r σ a i.toNatClampNeg) o1 o2 else none) := by
  refine g_if fun hc => ?_
  obtain ⟨p, l, e, R, s, m, args, below, meth, c, D, dA, Hl, ν0, N0, Qr⟩ := Γ
  obtain ⟨hx, hb, hml, hown, hts, hX, hlk, htr, hR⟩ := K
  intro r hr ν H ls locs a1 a2 a3 a4 a5 a6 a7
  have he : (wl ν dA σ)[a]? = some (ν a, .inl (dA kq, ln a, .inr (.inr (.inr (.inr (fun j => (g_r σ a j).map ν)))))) := by rw [wl_at hc.1.1, en_q hc.1.2 hq]
  refine va_aldq (D := D) hx hb hX.1 a3.1 a t0 he (ht dA) (inb_in hc.2) d ?_
  cases hg : g_r σ a i.toNatClampNeg with
  | none =>
    rw [hg] at hr
    exact k1 hg r hr ν H ls locs a1 a2 a3 a4 a5 (oks_cons trivial (oks_tail (oks_tail a6))) a7
  | some b =>
    rw [hg] at hr
    exact k2 b hg r hr ν H ls locs a1 a2 a3 a4 a5 (oks_cons (Or.inl (a3.2.2.1 a _ b hc.1.1 hg)) (oks_tail (oks_tail a6))) a7
theorem g_aast (K : Cx Γ own cc nL rm) {a b kq t0 cb : Nat} {i : Int32} {T : u_T} {N : Nat} {C : String} (hq : 12 < kq) (h10 : cb < 10) (ht : ∀ dA : Nat → ClassId, (tyL dA)[t0]? = some (dA kq, .object C)) (hcl : vwCl[cb]? = some (C, T, N)) (d : decode cc pc = .ok (.aastore, 1)) (k : G Γ mk cells slots (pc + 1) L st (s_r σ a i.toNatClampNeg (some b)) o) : G Γ mk cells slots pc L (.ref b :: .int i :: .ref a :: st) σ (if ((a < σ.1 ∧ kd a = kq) ∧ inb i (ln a) = true) ∧ b < σ.1 ∧ kd b = cb then o else none) := by
  refine g_if fun hc => ?_
  obtain ⟨p, l, e, R, s, m, args, below, meth, c, D, dA, Hl, ν0, N0, Qr⟩ := Γ
  obtain ⟨hx, hb, hml, hown, hts, hX, hlk, htr, hR⟩ := K
  intro r hr ν H ls locs a1 a2 a3 a4 a5 a6 a7
  have he : (wl ν dA σ)[a]? = some (ν a, .inl (dA kq, ln a, .inr (.inr (.inr (.inr (fun j => (g_r σ a j).map ν)))))) := by rw [wl_at hc.1.1.1, en_q hc.1.1.2 hq]
  have hv : (wl ν dA σ)[b]? = some (ν b, .inr (cb, (List.range (nf cb)).map (fl ν σ b))) := by rw [wl_at hc.2.1, en_o hc.2.2 h10]
  refine va_astq (D := D) (r := (C, T, N)) hx hb hX.1 a3.1 a3.2.1 a4 a t0 b cb he (ht dA) hv hcl (inb_in hc.1.2) d (fun H1 locs1 b1 b2 b3 => ?_)
  refine k r hr ν H1 ls locs1 a1 a2 (wd_put a3 rfl hc.1.1.1 ?_ en_sr (shut_r a3.2.2.1 (fun z hz => by cases hz; exact hc.2.1)) b1 b2) b3 a5 (oks_tail (oks_tail (oks_tail a6))) a7
  have hf : (fun j => (g_r (s_r σ a i.toNatClampNeg (some b)) a j).map ν) = va_up (fun j => (g_r σ a j).map ν) i.toNatClampNeg (some (ν b)) := by
    funext j
    by_cases hj : j = i.toNatClampNeg
    · simp [g_r_s_r, va_up, hj]
    · simp [g_r_s_r, va_up, hj]
  rw [en_q hc.1.1.2 hq, hf]
theorem g_sld (K : Cx Γ own cc nL rm) {n : Nat} {xs : Nat → Int32} (hS : Scr Γ n xs) {i : Int32} (d : decode cc pc = .ok (.iaload, 1)) (k : G Γ mk cells slots (pc + 1) L (.int (xs i.toNatClampNeg) :: st) σ o) : G Γ mk cells slots pc L (.int i :: .ref SCR :: st) σ (if inb i n = true then o else none) := by
  refine g_if fun hc => ?_
  obtain ⟨p, l, e, R, s, m, args, below, meth, c, D, dA, Hl, ν0, N0, Qr⟩ := Γ
  obtain ⟨hx, hb, hml, hown, hts, hX, hlk, htr, hR⟩ := K
  intro r hr ν H ls locs a1 a2 a3 a4 a5 a6 a7
  have hν : ν SCR = ν0 SCR := a1 SCR (Or.inr rfl)
  have e9 : tr ν (.ref SCR) = .ref (ν0 SCR) := congrArg Value.ref hν
  show W p l e R s m args below meth c H locs cells slots (Qr (mk r)) (F0 m pc ls (.int i :: tr ν (.ref SCR) :: st.map (tr ν)))
  rw [e9]
  exact va_sld (A := fun q => Hl.size ≤ q) hx hb hS.1 hS.2 (Nat.not_le.mpr hS.2) a4 (inb_in hc) d (k r hr ν H ls locs a1 a2 a3 a4 a5 (oks_cons trivial (oks_tail (oks_tail a6))) a7)
theorem g_slen (K : Cx Γ own cc nL rm) {n : Nat} {xs : Nat → Int32} (hS : Scr Γ n xs) (d : decode cc pc = .ok (.arraylength, 1)) (k : G Γ mk cells slots (pc + 1) L (.int (nI n) :: st) σ o) : G Γ mk cells slots pc L (.ref SCR :: st) σ o := by
  obtain ⟨p, l, e, R, s, m, args, below, meth, c, D, dA, Hl, ν0, N0, Qr⟩ := Γ
  obtain ⟨hx, hb, hml, hown, hts, hX, hlk, htr, hR⟩ := K
  intro r hr ν H ls locs a1 a2 a3 a4 a5 a6 a7
  have hν : ν SCR = ν0 SCR := a1 SCR (Or.inr rfl)
  have e9 : tr ν (.ref SCR) = .ref (ν0 SCR) := congrArg Value.ref hν
  show W p l e R s m args below meth c H locs cells slots (Qr (mk r)) (F0 m pc ls (tr ν (.ref SCR) :: st.map (tr ν)))
  rw [e9]
  exact va_slen (A := fun q => Hl.size ≤ q) hx hb hS.1 hS.2 (Nat.not_le.mpr hS.2) a4 d (k r hr ν H ls locs a1 a2 a3 a4 a5 (oks_cons trivial (oks_tail a6)) a7)
theorem g_new (K : Cx Γ own cc nL rm) {idx ci N : Nat} {C : String} {T : u_T} {ty : Nat → FieldType} (hC : CF ci C T N ty) (hk : Cond.classLink own idx C ∈ TB) (hi : Cond.instantiable C N ∈ TB) (hn : Cond.initialized C ∈ TB) (d : decode cc pc = .ok (.new idx, 3)) (h1 : cells + 1 ≤ rm.cells) (h2 : slots + N ≤ rm.slots) (k : G Γ mk (cells + 1) (slots + N) (pc + 3) L (.ref σ.1 :: st) (s_n σ) o) : G Γ mk cells slots pc L st σ (if kd σ.1 = ci ∧ σ.1 < SCR then o else none) := by
  refine g_if fun hc => ?_
  obtain ⟨c1, c2, c3, c4, c5, c6, c7⟩ := hC
  obtain ⟨p, l, e, R, s, m, args, below, meth, c, D, dA, Hl, ν0, N0, Qr⟩ := Γ
  obtain ⟨hx, hb, hml, hown, hts, hX, hlk, htr, hR⟩ := K
  intro r hr ν H ls locs a1 a2 a3 a4 a5 a6 a7
  refine va_new (D := D) (A := fun q => Hl.size ≤ q) (H0 := Hl) (fs := (List.range N).map (fun j => if rf ci j = true then Value.null else Value.int 0)) hx hb hts c4 ty c5 hown (hts _ hk) (hts _ hi) (hts _ hn) hX.1 a3.1 a3.2.1 a4 (fun q h => h) c1 (fun j hj => ?_) (by rw [hR]; exact h1) (by rw [hR]; exact h2) d (fun q H1 b1 b2 b3 => ?_)
  · rw [c7 j hj]
    simp [vp_V, List.getD_eq_getElem?_getD, hj]
  · have hx1 := nu1_ext (ν := ν) (q := q) hc.2
    have hw := wd_new a3 hc.2 (e := .inr (ci, (List.range N).map (fun j => if rf ci j = true then Value.null else Value.int 0))) (by
      have hf : fl (nu1 ν σ.1 q) (s_n σ) σ.1 = fun j => if rf ci j = true then Value.null else Value.int 0 := by
        funext j
        simp [fl, hc.1, g_r_s_n, g_i_s_n, va_rf]
      rw [en_o hc.1 c3, c2, hf]) b1 b2
    have hk := k r hr (nu1 ν σ.1 q) H1 ls locs (ext_trans a2 a1 hx1) (Nat.le_succ_of_le a2) hw b3 (okL_mono (Nat.le_succ _) a5) (oks_cons (Or.inl (Nat.lt_succ_self _)) (oks_mono (Nat.le_succ _) a6)) (by rw [ext_trL hx1 a5]; exact a7)
    have e1 : (Value.ref σ.1 :: st).map (tr (nu1 ν σ.1 q)) = .ref q :: st.map (tr ν) := by
      rw [List.map_cons, ext_map hx1 a6]
      show Value.ref (nu1 ν σ.1 q σ.1) :: _ = _
      rw [show nu1 ν σ.1 q σ.1 = q from if_pos rfl]
    rw [e1] at hk
    exact hk
theorem g_newI (K : Cx Γ own cc nL rm) {n : Int32} {N : Nat} (ha : Cond.arrayClass .int ∈ TB) (d : decode cc pc = .ok (.newarray .int, 2)) (h0 : ¬ n < 0) (hN : n.toNatClampNeg = N) (hB : N * 8 ≤ 536870912) (h1 : cells + 1 ≤ rm.cells) (h2 : slots + N ≤ rm.slots) (k : G Γ mk (cells + 1) (slots + N) (pc + 2) L (.ref σ.1 :: st) (s_n σ) o) : G Γ mk cells slots pc L (.int n :: st) σ (if (kd σ.1 = 10 ∧ ln σ.1 = N) ∧ σ.1 < SCR then o else none) := by
  refine g_if fun hc => ?_
  obtain ⟨p, l, e, R, s, m, args, below, meth, c, D, dA, Hl, ν0, N0, Qr⟩ := Γ
  obtain ⟨hx, hb, hml, hown, hts, hX, hlk, htr, hR⟩ := K
  intro r hr ν H ls locs a1 a2 a3 a4 a5 a6 a7
  refine va_newa (D := D) (A := fun q => Hl.size ≤ q) (H0 := Hl) (a0 := (N, .inl (fun _ => 0))) (atype := .int) (ty := .int) hx hb (hts _ ha) rfl hX.1 a3.1 a3.2.1 a4 (fun q h => h) (fun _ => rfl) h0 hN (Nat.le_trans (Nat.mul_le_mul_left _ (by decide)) hB) (by rw [hR]; exact h1) (by rw [hR]; exact h2) d (fun q cA H1 b0 b1 b2 b3 => ?_)
  have hcA : cA = dA 10 := by
    have e1 := (hX.1.2 0 _ rfl).2
    have e2 := (b0.2 (tyL dA).length (cA, .int) (by rw [List.getElem?_append_right (Nat.le_refl _), Nat.sub_self]; rfl)).2
    exact Option.some.inj ((show s.vm.findClass _ = some cA from e2).symm.trans (show s.vm.findClass _ = some (dA 10) from e1))
  subst hcA
  have hx1 := nu1_ext (ν := ν) (q := q) hc.2
  have hw := wd_new a3 hc.2 (e := .inl (dA 10, N, .inl (fun _ => 0))) (by
    have hf : g_i (s_n σ) σ.1 = fun _ => 0 := by
      funext j
      simp [g_i_s_n]
    rw [en_i hc.1.1 (by decide) (by decide), hc.1.2, hf]) b1 b2
  have hk := k r hr (nu1 ν σ.1 q) H1 ls locs (ext_trans a2 a1 hx1) (Nat.le_succ_of_le a2) hw b3 (okL_mono (Nat.le_succ _) a5) (oks_cons (Or.inl (Nat.lt_succ_self _)) (oks_mono (Nat.le_succ _) (oks_tail a6))) (by rw [ext_trL hx1 a5]; exact a7)
  have e1 : (Value.ref σ.1 :: st).map (tr (nu1 ν σ.1 q)) = .ref q :: st.map (tr ν) := by
    rw [List.map_cons, ext_map hx1 (oks_tail a6)]
    show Value.ref (nu1 ν σ.1 q σ.1) :: _ = _
    rw [show nu1 ν σ.1 q σ.1 = q from if_pos rfl]
  rw [e1] at hk
  exact hk
theorem g_newZ (K : Cx Γ own cc nL rm) {n : Int32} {N : Nat} (ha : Cond.arrayClass .boolean ∈ TB) (d : decode cc pc = .ok (.newarray .boolean, 2)) (h0 : ¬ n < 0) (hN : n.toNatClampNeg = N) (hB : N * 8 ≤ 536870912) (h1 : cells + 1 ≤ rm.cells) (h2 : slots + N ≤ rm.slots) (k : G Γ mk (cells + 1) (slots + N) (pc + 2) L (.ref σ.1 :: st) (s_n σ) o) : G Γ mk cells slots pc L (.int n :: st) σ (if (kd σ.1 = 11 ∧ ln σ.1 = N) ∧ σ.1 < SCR then o else none) := by
  refine g_if fun hc => ?_
  obtain ⟨p, l, e, R, s, m, args, below, meth, c, D, dA, Hl, ν0, N0, Qr⟩ := Γ
  obtain ⟨hx, hb, hml, hown, hts, hX, hlk, htr, hR⟩ := K
  intro r hr ν H ls locs a1 a2 a3 a4 a5 a6 a7
  refine va_newa (D := D) (A := fun q => Hl.size ≤ q) (H0 := Hl) (a0 := (N, .inl (fun _ => 0))) (atype := .boolean) (ty := .boolean) hx hb (hts _ ha) rfl hX.1 a3.1 a3.2.1 a4 (fun q h => h) (fun _ => rfl) h0 hN (Nat.le_trans (Nat.mul_le_mul_left _ (by decide)) hB) (by rw [hR]; exact h1) (by rw [hR]; exact h2) d (fun q cA H1 b0 b1 b2 b3 => ?_)
  have hcA : cA = dA 11 := by
    have e1 := (hX.1.2 1 _ rfl).2
    have e2 := (b0.2 (tyL dA).length (cA, .boolean) (by rw [List.getElem?_append_right (Nat.le_refl _), Nat.sub_self]; rfl)).2
    exact Option.some.inj ((show s.vm.findClass _ = some cA from e2).symm.trans (show s.vm.findClass _ = some (dA 11) from e1))
  subst hcA
  have hx1 := nu1_ext (ν := ν) (q := q) hc.2
  have hw := wd_new a3 hc.2 (e := .inl (dA 11, N, .inl (fun _ => 0))) (by
    have hf : g_i (s_n σ) σ.1 = fun _ => 0 := by
      funext j
      simp [g_i_s_n]
    rw [en_i hc.1.1 (by decide) (by decide), hc.1.2, hf]) b1 b2
  have hk := k r hr (nu1 ν σ.1 q) H1 ls locs (ext_trans a2 a1 hx1) (Nat.le_succ_of_le a2) hw b3 (okL_mono (Nat.le_succ _) a5) (oks_cons (Or.inl (Nat.lt_succ_self _)) (oks_mono (Nat.le_succ _) (oks_tail a6))) (by rw [ext_trL hx1 a5]; exact a7)
  have e1 : (Value.ref σ.1 :: st).map (tr (nu1 ν σ.1 q)) = .ref q :: st.map (tr ν) := by
    rw [List.map_cons, ext_map hx1 (oks_tail a6)]
    show Value.ref (nu1 ν σ.1 q σ.1) :: _ = _
    rw [show nu1 ν σ.1 q σ.1 = q from if_pos rfl]
  rw [e1] at hk
  exact hk
theorem g_newL (K : Cx Γ own cc nL rm) {n : Int32} {N : Nat} (ha : Cond.arrayClass .long ∈ TB) (d : decode cc pc = .ok (.newarray .long, 2)) (h0 : ¬ n < 0) (hN : n.toNatClampNeg = N) (hB : N * 8 ≤ 536870912) (h1 : cells + 1 ≤ rm.cells) (h2 : slots + N ≤ rm.slots) (k : G Γ mk (cells + 1) (slots + N) (pc + 2) L (.ref σ.1 :: st) (s_n σ) o) : G Γ mk cells slots pc L (.int n :: st) σ (if (kd σ.1 = 12 ∧ ln σ.1 = N) ∧ σ.1 < SCR then o else none) := by
  refine g_if fun hc => ?_
  obtain ⟨p, l, e, R, s, m, args, below, meth, c, D, dA, Hl, ν0, N0, Qr⟩ := Γ
  obtain ⟨hx, hb, hml, hown, hts, hX, hlk, htr, hR⟩ := K
  intro r hr ν H ls locs a1 a2 a3 a4 a5 a6 a7
  refine va_newa (D := D) (A := fun q => Hl.size ≤ q) (H0 := Hl) (a0 := (N, .inr (.inl (fun _ => 0)))) (atype := .long) (ty := .long) hx hb (hts _ ha) rfl hX.1 a3.1 a3.2.1 a4 (fun q h => h) (fun _ => rfl) h0 hN (Nat.le_trans (Nat.mul_le_mul_left _ (by decide)) hB) (by rw [hR]; exact h1) (by rw [hR]; exact h2) d (fun q cA H1 b0 b1 b2 b3 => ?_)
  have hcA : cA = dA 12 := by
    have e1 := (hX.1.2 2 _ rfl).2
    have e2 := (b0.2 (tyL dA).length (cA, .long) (by rw [List.getElem?_append_right (Nat.le_refl _), Nat.sub_self]; rfl)).2
    exact Option.some.inj ((show s.vm.findClass _ = some cA from e2).symm.trans (show s.vm.findClass _ = some (dA 12) from e1))
  subst hcA
  have hx1 := nu1_ext (ν := ν) (q := q) hc.2
  have hw := wd_new a3 hc.2 (e := .inl (dA 12, N, .inr (.inl (fun _ => 0)))) (by
    have hf : g_l (s_n σ) σ.1 = fun _ => 0 := by
      funext j
      simp [g_l_s_n]
    rw [en_l hc.1.1, hc.1.2, hf]) b1 b2
  have hk := k r hr (nu1 ν σ.1 q) H1 ls locs (ext_trans a2 a1 hx1) (Nat.le_succ_of_le a2) hw b3 (okL_mono (Nat.le_succ _) a5) (oks_cons (Or.inl (Nat.lt_succ_self _)) (oks_mono (Nat.le_succ _) (oks_tail a6))) (by rw [ext_trL hx1 a5]; exact a7)
  have e1 : (Value.ref σ.1 :: st).map (tr (nu1 ν σ.1 q)) = .ref q :: st.map (tr ν) := by
    rw [List.map_cons, ext_map hx1 (oks_tail a6)]
    show Value.ref (nu1 ν σ.1 q σ.1) :: _ = _
    rw [show nu1 ν σ.1 q σ.1 = q from if_pos rfl]
  rw [e1] at hk
  exact hk
theorem g_newQ (K : Cx Γ own cc nL rm) {n : Int32} {N idx kq t0 : Nat} {C : String} (hq : 12 < kq) (ht : ∀ dA : Nat → ClassId, (tyL dA)[t0]? = some (dA kq, .object C)) (hcl : Cond.classLink own idx C ∈ TB) (ha : C ∈ aov) (d : decode cc pc = .ok (.anewarray idx, 3)) (h0 : ¬ n < 0) (hN : n.toNatClampNeg = N) (hB : N * 4 ≤ 536870912) (h1 : cells + 1 ≤ rm.cells) (h2 : slots + N ≤ rm.slots) (k : G Γ mk (cells + 1) (slots + N) (pc + 3) L (.ref σ.1 :: st) (s_n σ) o) : G Γ mk cells slots pc L (.int n :: st) σ (if (kd σ.1 = kq ∧ ln σ.1 = N) ∧ σ.1 < SCR then o else none) := by
  refine g_if fun hc => ?_
  obtain ⟨p, l, e, R, s, m, args, below, meth, c, D, dA, Hl, ν0, N0, Qr⟩ := Γ
  obtain ⟨hx, hb, hml, hown, hts, hX, hlk, htr, hR⟩ := K
  intro r hr ν H ls locs a1 a2 a3 a4 a5 a6 a7
  refine va_newq (D := D) (A := fun q => Hl.size ≤ q) (H0 := Hl) hx hb hown (hts _ hcl) (hX.ao _ ha) hX.1 a3.1 a3.2.1 a4 (fun q h => h) h0 hN hB (by rw [hR]; exact h1) (by rw [hR]; exact h2) d (fun q cA H1 b0 b1 b2 b3 => ?_)
  have hcA : cA = dA kq := by
    obtain ⟨_, _, -, -, -, e1⟩ := (hX.1.2 t0 _ (ht dA)).2
    obtain ⟨_, _, -, -, -, e2⟩ := (b0.2 (tyL dA).length (cA, .object C) (by rw [List.getElem?_append_right (Nat.le_refl _), Nat.sub_self]; rfl)).2
    exact Option.some.inj (e2.symm.trans e1)
  subst hcA
  have hx1 := nu1_ext (ν := ν) (q := q) hc.2
  have hw := wd_new a3 hc.2 (e := .inl (dA kq, N, .inr (.inr (.inr (.inr (fun _ => none)))))) (by
    have hf : (fun j => (g_r (s_n σ) σ.1 j).map (nu1 ν σ.1 q)) = fun _ => none := by
      funext j
      simp [g_r_s_n]
    rw [en_q hc.1.1 hq, hc.1.2, hf]) b1 b2
  have hk := k r hr (nu1 ν σ.1 q) H1 ls locs (ext_trans a2 a1 hx1) (Nat.le_succ_of_le a2) hw b3 (okL_mono (Nat.le_succ _) a5) (oks_cons (Or.inl (Nat.lt_succ_self _)) (oks_mono (Nat.le_succ _) (oks_tail a6))) (by rw [ext_trL hx1 a5]; exact a7)
  have e1 : (Value.ref σ.1 :: st).map (tr (nu1 ν σ.1 q)) = .ref q :: st.map (tr ν) := by
    rw [List.map_cons, ext_map hx1 (oks_tail a6)]
    show Value.ref (nu1 ν σ.1 q σ.1) :: _ = _
    rw [show nu1 ν σ.1 q σ.1 = q from if_pos rfl]
  rw [e1] at hk
  exact hk
theorem g_objInit (K : Cx Γ own cc nL rm) {idx a : Nat} (h1 : Cond.methodLink own idx objectInit ∈ TB) (h2 : Cond.instanceMethod objectInit ∈ TB) (h3 : Cond.code objectInit ⟨#[0xb1]⟩ 1 none ∈ TB) (hf : 1 ≤ rm.frames) (hl : 20 ≤ rm.locals) (hst : (st.map fun v => v.category).sum ≤ 8) (d : decode cc pc = .ok (.invokespecial idx, 3)) (k : G Γ mk cells slots (pc + 3) L st σ o) : G Γ mk cells slots pc L (.ref a :: st) σ o := by
  obtain ⟨p, l, e, R, s, m, args, below, meth, c, D, dA, Hl, ν0, N0, Qr⟩ := Γ
  obtain ⟨hx, hb, hml, hown, hts, hX, hlk, htr, hR⟩ := K
  intro r hr ν H ls locs a1 a2 a3 a4 a5 a6 a7
  refine W.objInit hx hb hown (hts _ h1) (hts _ h2) (hts _ h3) rfl a7.1 rfl d (by rw [hR]; exact hf) ?_ (k r hr ν H ls locs a1 a2 a3 a4 a5 (oks_tail a6) a7)
  have e1 : ((st.map (tr ν)).map fun v => v.category).sum = (st.map fun v => v.category).sum := by
    rw [List.map_map]
    congr 1
    exact List.map_congr_left fun v _ => tr_cat ν v
  have e2 := lv_room (m := m) (pc := pc) (ls := ls) (rest := []) (st := st.map (tr ν)) (by rw [e1]; exact hst)
  rw [hR]
  have e3 : 2 * (F0 m pc ls ((Value.ref a :: st).map (tr ν))).monitorRoom + ((st.map (tr ν)).map fun v => v.category).sum ≤ 8 := e2
  omega
end GH
