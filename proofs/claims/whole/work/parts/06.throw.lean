/-! Exceptions: 'throw new E("text")' leaves the method; a callee's exception is caught by a row of the caller's table. -/
section TH
/-- one row of the search for a handler, its class linked or not yet -/
theorem fh_step {Q : Handler → Pre} {E : CtlPost} {e : Env} {d : Bool} {acts : List Action} {s : State} {f : JFrame} {a : Addr} {x : ExceptionTableEntry} {t : List ExceptionTableEntry} {c : ClassId} {cell : Cell} (hx : covers x f.pc = true) (h0 : x.catchType ≠ 0)
    (hl : s.vm.ClassLinks e.platform f.method.cls x.catchType c) (hcell : s.heap[a]? = some cell) (hobj : ∀ k, cell.vm ≠ .statics k) (hk : ∃ k, s.vm.classes[cell.cls]? = some k) (hc : ∃ k, s.vm.classes[c]? = some k) {b : Bool} (hfit : s.vm.assignable cell.cls c = b) :
    wp (findHandler.go f a (x :: t)) Q E e d acts s ↔ (if b = true then Q (.found x.handlerPc) d acts (s.setVm (s.vm.noted f.method.cls x.catchType (.cls c))) else wp (findHandler.go f a t) Q E e d acts (s.setVm (s.vm.noted f.method.cls x.catchType (.cls c)))) := by
  simp only [covers] at hx
  obtain ⟨ha, ht⟩ := (resolveClass_links e.toSetting hl).op (op := VmOp.resolveClass f.method.cls x.catchType) rfl
  have hal : s.vm.Alike (s.vm.noted f.method.cls x.catchType (.cls c)) := (Vm.Alike.refl s.vm).noted _ _ _
  obtain ⟨k1, hk1⟩ := hk
  obtain ⟨k2, hk2⟩ := hc
  obtain ⟨k1', hk1', -⟩ := hal.2.2 _ _ hk1
  obtain ⟨k2', hk2', -⟩ := hal.2.2 _ _ hk2
  have hfit' : (s.vm.noted f.method.cls x.catchType (.cls c)).assignable cell.cls c = b := by rw [hal.assignable]; exact hfit
  cases b <;> simp [findHandler.go, hx, h0, ha, ht, hcell, hobj, hk1', hk2', hfit', VmOp.dirties, VmOp.acts]
/-- the search through rows that don't take it, to one that does -/
theorem fh_go {e : Env} {s0 : State} {f : JFrame} {a : Addr} {cell : Cell} (hobj : ∀ k, cell.vm ≠ .statics k) (hk0 : ∃ k, s0.vm.classes[cell.cls]? = some k) (x : ExceptionTableEntry) (rest : List ExceptionTableEntry) (hx : covers x f.pc = true) (h0 : x.catchType ≠ 0) {cx : ClassId} (hlx : s0.vm.ClassLinks e.platform f.method.cls x.catchType cx) (hfit : s0.vm.assignable cell.cls cx = true) :
    ∀ (pre : List ExceptionTableEntry) (S : State), s0.WarmedH S.vm → S.heap[a]? = some cell → (∀ z ∈ pre, covers z f.pc = true ∧ z.catchType ≠ 0 ∧ ∃ c, s0.vm.ClassLinks e.platform f.method.cls z.catchType c ∧ s0.vm.assignable cell.cls c = false) →
      ∃ vm', s0.WarmedH vm' ∧ ∀ (Q : Handler → Pre) (E : CtlPost) (d : Bool) (acts : List Action), wp (findHandler.go f a (pre ++ x :: rest)) Q E e d acts S ↔ Q (.found x.handlerPc) d acts (S.setVm vm') := by
  obtain ⟨k0, hk0⟩ := hk0
  intro pre
  induction pre with
  | nil =>
    intro S hW hcell _
    obtain ⟨k1, hk1, -⟩ := hW.alike.2.2 _ _ hk0
    obtain ⟨dk, _, _, kt, hd, _, _, _, _, hkt, _, hopen⟩ := hlx.here
    obtain ⟨kt', hkt', -⟩ := hW.alike.2.2 _ _ hkt
    refine ⟨_, hW.noted hd hopen (State.rightAt_cls hlx), fun Q E d acts => ?_⟩
    rw [List.nil_append, fh_step hx h0 (hW.classLinks hlx) hcell hobj ⟨k1, hk1⟩ ⟨kt', hkt'⟩ (b := true) (by rw [hW.alike.assignable]; exact hfit), if_pos rfl]
  | cons z zs ih =>
    intro S hW hcell hp
    obtain ⟨k1, hk1, -⟩ := hW.alike.2.2 _ _ hk0
    obtain ⟨g1, g2, c, hl, hno⟩ := hp z List.mem_cons_self
    obtain ⟨dk, _, _, kt, hd, _, _, _, _, hkt, _, hopen⟩ := hl.here
    obtain ⟨kt', hkt', -⟩ := hW.alike.2.2 _ _ hkt
    obtain ⟨vm', hW', hq⟩ := ih (S.setVm (S.vm.noted f.method.cls z.catchType (.cls c))) (hW.noted hd hopen (State.rightAt_cls hl)) hcell (fun y hy => hp y (List.mem_cons_of_mem _ hy))
    refine ⟨vm', hW', fun Q E d acts => ?_⟩
    rw [List.cons_append, fh_step g1 g2 (hW.classLinks hl) hcell hobj ⟨k1, hk1⟩ ⟨kt', hkt'⟩ (b := false) (by rw [hW.alike.assignable]; exact hno), if_neg (by decide)]
    exact hq Q E d acts
/-- into the handler, with the tables that the search leaves -/
theorem fh_caught {tb : Tables} {e : Env} {s target : State} {g : JFrame} {c : Code} {below : List Frame} {a : Addr} (h : At s g.method c below) {pc : Nat} {vm' : Vm}
    (hfind : ∀ (Q : Handler → Pre) (E : CtlPost) (d : Bool) (acts : List Action), wp (findHandler g a) Q E e d acts ((s.setTop g).pushFrame (.throwing a)) ↔ Q (.found pc) d acts (((s.setTop g).pushFrame (.throwing a)).setVm vm'))
    (hrest : Steps tb e below ((s.setVm vm').setTop { g with pc := pc, stack := [.ref a] }) target) : Steps tb e below ((s.setTop g).pushFrame (.throwing a)) target := by
  obtain ⟨hgo, hw⟩ := h.throwing a
  refine Steps.head hgo hw ?_
  have hstep : ∀ (u : State) (r : List Frame), (∀ (Q : Handler → Pre) (E : CtlPost) (d : Bool) (acts : List Action), wp (findHandler g a) Q E e d acts u ↔ Q (.found pc) d acts (u.setVm vm')) →
      (stepThrowing e u a (.java g :: r)).Is ((u.setVm vm').setFrames (.java { g with pc := pc, stack := [.ref a] } :: r)) [] := by
    intro u r hf
    simp only [stepThrowing, searchFrame, vmDo]
    generalize hr : Sem.go _ e false [] u = res
    obtain ⟨as, rfl, ha⟩ := Sem.eq_ok_of hr (a := Handler.found pc) (s' := u.setVm vm') (acts' := []) (by simp [hf _ _ _ _])
    exact ⟨rfl, ha⟩
  rw [stepThread_throwing (frames_entered h.top _), (hstep ((s.setTop g).pushFrame (.throwing a)) _ hfind).1]
  obtain ⟨g₀, hg⟩ := Option.isSome_iff_exists.mp h.top
  obtain ⟨r, hr⟩ := State.topJava?_eq_some.mp hg
  have hr' : (s.setVm vm').frames = .java g₀ :: r := hr
  have hsv : ∀ (u : State) (F F' : List Frame), ((u.setFrames F).setVm vm').setFrames F' = (u.setVm vm').setFrames F' := fun u F F' => by
    have h1 : (u.setFrames F).setVm vm' = (u.setVm vm').setFrames F := rfl
    rw [h1, State.setFrames_setFrames]
  rw [State.setTop_of_frames _ hr'] at hrest
  rw [hr, List.tail_cons, State.pushFrame, hsv, State.setTop_of_frames _ hr, hsv]
  exact hrest
end TH
def cov (z : Nat × Nat × Nat × Nat) (pc : Nat) : Bool := decide (z.1 ≤ pc) && decide (pc < z.2.1)
section GT1
variable {ρ : Type} {mk : ρ → Rs} {Γ : GX} {own : String} {cc : ByteArray} {nL : Nat} {rm : Room} {cells slots pc : Nat} {L L' : List (Nat × Value)} {st : List Value} {σ : Sg} {o : Option ρ} {hh : List (Nat × Nat × Nat × Nat)} {E : String}
theorem g_catch0 (K : Cx Γ own cc nL rm) (hT : Tb Γ hh) (pre : List (Nat × Nat × Nat × Nat)) (x : Nat × Nat × Nat × Nat) (suf : List (Nat × Nat × Nat × Nat)) (hsplit : hh = pre ++ x :: suf) (hpass : ∀ z ∈ pre, cov z pc = true ∧ z.2.2.2 ≠ 0 ∧ ∃ nm, Cond.classLink own z.2.2.2 nm ∈ TB ∧ (E, nm) ∈ ncs) (hx9 : cov x pc = true) (h0 : x.2.2.2 ≠ 0) (hlink : Cond.classLink own x.2.2.2 E ∈ TB) (hE : Cond.instantiable E 6 ∈ TB) {j : Nat} (hj : j < nL) {len : Nat}
    (hst : ∀ (p : Program) (l : Launch) (e : Env) (R : Room) (s : State) (m : MethodId) (args : Array Value) (below : List Frame) (meth : Method) (c : Code) (H : Heap) (locs : List Loc) (Q : State → Prop) (ls : Array Slot) (q : Nat) (lv : List (Nat × Value)), p.tables.exec = Jvm.exec → c.code = cc → lv_has ls nL lv → (∀ ls' : Array Slot, lv_has ls' nL ((j, Value.ref q) :: lv.filter (fun q => !(q.1 == j) && !(q.1 + 1 == j && q.2.category == 2))) → W p l e R s m args below meth c H locs cells slots Q (F0 m (x.2.2.1 + len) ls' [])) → W p l e R s m args below meth c H locs cells slots Q (F0 m x.2.2.1 ls [.ref q]))
    (hl : L.filter (fun q => !(q.1 == j)) = L') (k : G Γ mk cells slots (x.2.2.1 + len) L' [] σ o) : GT Γ mk cells slots pc L st E σ o := by
  obtain ⟨p, l, e, R, s, m, args, below, meth, c, D, dA, Hl, ν0, N0, Qr⟩ := Γ
  obtain ⟨hx, hb, hml, hown, hts, hX, hlk, htr, hR⟩ := K
  intro r hr ν H ls locs q ce a1 a2 a3 a4 a5 a7 b1 b2 b3 T hTh X
  subst hl
  have hT : c.exceptionTable.toList.map (fun h => (h.startPc, h.endPc, h.handlerPc, h.catchType)) = hh := hT
  rw [hsplit] at hT
  obtain ⟨pre', suf0, hs1, hs2, hs3⟩ := List.map_eq_append_iff.mp hT
  obtain ⟨x', suf', hs4, hs5, hs6⟩ := List.map_eq_cons_iff.mp hs3
  have hpl : e.platform.magicAccessors = ({} : Platform).magicAccessors := by rw [X.admits.platform]
  have hcl : ClassAt s E ce.cls := by
    obtain ⟨cC, h9⟩ := classAt_of (hts _ hE)
    cases Option.some.inj (h9.1.symm.trans b3)
    exact h9
  obtain ⟨c5, hc5, hl5⟩ := Cond.classLink_spec hown (hts _ hlink) e.platform hpl
  cases Option.some.inj (hc5.symm.trans b3)
  have hk0 : ∃ k, s.vm.classes[ce.cls]? = some k := by obtain ⟨-, kC, hk, -⟩ := hcl; exact ⟨kC, hk⟩
  have ex : (x'.startPc, x'.endPc, x'.handlerPc, x'.catchType) = x := hs5
  have hobj : ∀ k, ce.vm ≠ .statics k := fun k hk => by rw [b2] at hk; cases hk
  obtain ⟨vm', hW', hf⟩ := fh_go (e := e) (s0 := s) (f := F0 m pc ls (st.map (tr ν))) (a := q) (cell := ce) hobj hk0 x' suf' (by rw [← ex] at hx9; exact hx9) (by rw [← ex] at h0; exact h0) (cx := ce.cls) (by rw [← ex] at hl5; exact hl5) (va_assign hcl) pre' ((T.setTop (F0 m pc ls (st.map (tr ν)))).pushFrame (.throwing q)) X.warmed (by show T.heap[q]? = some ce; rw [hTh]; exact b1) (fun z hz => by
    have hz' : (z.startPc, z.endPc, z.handlerPc, z.catchType) ∈ pre := by rw [← hs2]; exact List.mem_map.mpr ⟨z, hz, rfl⟩
    obtain ⟨g1, g2, nm, g3, g4⟩ := hpass _ hz'
    obtain ⟨c6, hc6, hl6⟩ := Cond.classLink_spec hown (hts _ g3) e.platform hpl
    obtain ⟨a8, b8, n1, n2, n3⟩ := hX.nc _ g4
    cases Option.some.inj (n1.symm.trans b3)
    cases Option.some.inj (n2.symm.trans hc6)
    exact ⟨g1, g2, _, hl6, n3⟩)
  have X' := X.noted hW'
  have hw : W p l e R s m args below meth c H locs cells slots (Qr (mk r)) (F0 m x.2.2.1 ls [.ref q]) := by
    refine hst p l e R s m args below meth c H locs _ ls q (trL ν L) hx hb (by rw [← hml]; exact a7) (fun ls' h' => ?_)
    refine k r hr ν H ls' locs a1 a2 a3 a4 (fun z hz => a5 z (List.mem_filter.mp hz).1) oks_nil ⟨by rw [hml]; exact h'.1, h'.2.1, fun z hz => ?_⟩
    obtain ⟨w, hw, rfl⟩ := List.mem_map.mp hz
    obtain ⟨hw1, hw2⟩ := List.mem_filter.mp hw
    refine h'.2.2 _ (List.mem_cons_of_mem _ (List.mem_filter.mpr ⟨List.mem_map.mpr ⟨w, hw1, rfl⟩, ?_⟩))
    have h1 : (tr ν w.2).category = 1 := (tr_cat ν w.2).trans (a5 w hw1).2
    simp [h1]
    simpa using hw2
  obtain ⟨t, s9, hQ⟩ := hw (T.setVm vm') hTh X'
  refine ⟨t, ?_, hQ⟩
  refine fh_caught X.here (pc := x.2.2.1) (vm' := vm') (fun Q9 E9 d9 acts9 => ?_) s9
  rw [W.findHandler_eq (meth := meth) (code := c) X.method' X.code, hs1, hs4]
  rw [← ex]
  exact hf Q9 E9 d9 acts9
end GT1
