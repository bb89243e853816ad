/-! Exceptions: 'throw new E("text")' leaves the method; a callee's exception is caught by a row of the caller's table. -/
section TH
/-- one row of the search for a handler, its class linked or not yet -/
theorem fh_step {Q : Handler → Pre} {E : CtlPost} {e : Env} {d : Bool} {acts : List Action} {s : State} {f : JFrame} {a : Addr} {x : ExceptionTableEntry} {t : List ExceptionTableEntry} {c : ClassId} {cell : Cell} (hx : covers x f.pc = true) (h0 : x.catchType ≠ 0)
    (hl : s.vm.ClassLinks e.platform f.method.cls x.catchType c) (hcell : s.heap[a]? = some cell) (hobj : ∀ k, cell.vm ≠ .statics k) (hk : ∃ k, s.vm.classes[cell.cls]? = some k) (hc : ∃ k, s.vm.classes[c]? = some k) {b : Bool} (hfit : s.vm.assignable cell.cls c = b) :
    wp (findHandler.go f a (x :: t)) Q E e d acts s ↔ (if b = true then Q (.found x.handlerPc) d acts (s.setVm (s.vm.noted f.method.cls x.catchType (.cls c))) else wp (findHandler.go f a t) Q E e d acts (s.setVm (s.vm.noted f.method.cls x.catchType (.cls c)))) := by
  simp only [covers] at hx
  obtain ⟨ha, ht⟩ := (resolveClass_links e.toSetting hl).op (op := VmOp.resolveClass f.method.cls x.catchType) rfl
  have hal : s.vm.Alike (s.vm.noted f.method.cls x.catchType (.cls c)) := (Vm.Alike.refl s.vm).noted _ _ _
  obtain ⟨k1, hk1⟩ := hk
  obtain ⟨k2, hk2⟩ := hc
  obtain ⟨k1', hk1', -⟩ := hal.2.2 _ _ hk1
  obtain ⟨k2', hk2', -⟩ := hal.2.2 _ _ hk2
  have hfit' : (s.vm.noted f.method.cls x.catchType (.cls c)).assignable cell.cls c = b := by rw [hal.assignable]; exact hfit
  cases b <;> simp [findHandler.go, hx, h0, ha, ht, hcell, hobj, hk1', hk2', hfit', VmOp.dirties, VmOp.acts]
/-- the search through rows that don't take it, to one that does -/
theorem fh_go {e : Env} {s0 : State} {f : JFrame} {a : Addr} {cell : Cell} (hobj : ∀ k, cell.vm ≠ .statics k) (hk0 : ∃ k, s0.vm.classes[cell.cls]? = some k) (x : ExceptionTableEntry) (rest : List ExceptionTableEntry) (hx : covers x f.pc = true) (h0 : x.catchType ≠ 0) {cx : ClassId} (hlx : s0.vm.ClassLinks e.platform f.method.cls x.catchType cx) (hfit : s0.vm.assignable cell.cls cx = true) :
    ∀ (pre : List ExceptionTableEntry) (S : State), s0.WarmedH S.vm → S.heap[a]? = some cell → (∀ z ∈ pre, covers z f.pc = true ∧ z.catchType ≠ 0 ∧ ∃ c, s0.vm.ClassLinks e.platform f.method.cls z.catchType c ∧ s0.vm.assignable cell.cls c = false) →
      ∃ vm', s0.WarmedH vm' ∧ ∀ (Q : Handler → Pre) (E : CtlPost) (d : Bool) (acts : List Action), wp (findHandler.go f a (pre ++ x :: rest)) Q E e d acts S ↔ Q (.found x.handlerPc) d acts (S.setVm vm') := by
  obtain ⟨k0, hk0⟩ := hk0
  intro pre
  induction pre with
  | nil =>
    intro S hW hcell _
    obtain ⟨k1, hk1, -⟩ := hW.alike.2.2 _ _ hk0
    obtain ⟨dk, _, _, kt, hd, _, _, _, _, hkt, _, hopen⟩ := hlx.here
    obtain ⟨kt', hkt', -⟩ := hW.alike.2.2 _ _ hkt
    refine ⟨_, hW.noted hd hopen (State.rightAt_cls hlx), fun Q E d acts => ?_⟩
    rw [List.nil_append, fh_step hx h0 (hW.classLinks hlx) hcell hobj ⟨k1, hk1⟩ ⟨kt', hkt'⟩ (b := true) (by rw [hW.alike.assignable]; exact hfit), if_pos rfl]
  | cons z zs ih =>
    intro S hW hcell hp
    obtain ⟨k1, hk1, -⟩ := hW.alike.2.2 _ _ hk0
    obtain ⟨g1, g2, c, hl, hno⟩ := hp z List.mem_cons_self
    obtain ⟨dk, _, _, kt, hd, _, _, _, _, hkt, _, hopen⟩ := hl.here
    obtain ⟨kt', hkt', -⟩ := hW.alike.2.2 _ _ hkt
    obtain ⟨vm', hW', hq⟩ := ih (S.setVm (S.vm.noted f.method.cls z.catchType (.cls c))) (hW.noted hd hopen (State.rightAt_cls hl)) hcell (fun y hy => hp y (List.mem_cons_of_mem _ hy))
    refine ⟨vm', hW', fun Q E d acts => ?_⟩
    rw [List.cons_append, fh_step g1 g2 (hW.classLinks hl) hcell hobj ⟨k1, hk1⟩ ⟨kt', hkt'⟩ (b := false) (by rw [hW.alike.assignable]; exact hno), if_neg (by decide)]
    exact hq Q E d acts
/-- into the handler, with the tables that the search leaves -/
theorem fh_caught {tb : Tables} {e : Env} {s target : State} {g : JFrame} {c : Code} {below : List Frame} {a : Addr} (h : At s g.method c below) {pc : Nat} {vm' : Vm}
    (hfind : ∀ (Q : Handler → Pre) (E : CtlPost) (d : Bool) (acts : List Action), wp (findHandler g a) Q E e d acts ((s.setTop g).pushFrame (.throwing a)) ↔ Q (.found pc) d acts (((s.setTop g).pushFrame (.throwing a)).setVm vm'))
    (hrest : Steps tb e below ((s.setVm vm').setTop { g with pc := pc, stack := [.ref a] }) target) : Steps tb e below ((s.setTop g).pushFrame (.throwing a)) target := by
  obtain ⟨hgo, hw⟩ := h.throwing a
  refine Steps.head hgo hw ?_
  have hstep : ∀ (u : State) (r : List Frame), (∀ (Q : Handler → Pre) (E : CtlPost) (d : Bool) (acts : List Action), wp (findHandler g a) Q E e d acts u ↔ Q (.found pc) d acts (u.setVm vm')) →
      (stepThrowing e u a (.java g :: r)).Is ((u.setVm vm').setFrames (.java { g with pc := pc, stack := [.ref a] } :: r)) [] := by
    intro u r hf
    simp only [stepThrowing, searchFrame, vmDo]
    generalize hr : Sem.go _ e false [] u = res
    obtain ⟨as, rfl, ha⟩ := Sem.eq_ok_of hr (a := Handler.found pc) (s' := u.setVm vm') (acts' := []) (by simp [hf _ _ _ _])
    exact ⟨rfl, ha⟩
  rw [stepThread_throwing (frames_entered h.top _), (hstep ((s.setTop g).pushFrame (.throwing a)) _ hfind).1]
  obtain ⟨g₀, hg⟩ := Option.isSome_iff_exists.mp h.top
  obtain ⟨r, hr⟩ := State.topJava?_eq_some.mp hg
  have hr' : (s.setVm vm').frames = .java g₀ :: r := hr
  have hsv : ∀ (u : State) (F F' : List Frame), ((u.setFrames F).setVm vm').setFrames F' = (u.setVm vm').setFrames F' := fun u F F' => by
    have h1 : (u.setFrames F).setVm vm' = (u.setVm vm').setFrames F := rfl
    rw [h1, State.setFrames_setFrames]
  rw [State.setTop_of_frames _ hr'] at hrest
  rw [hr, List.tail_cons, State.pushFrame, hsv, State.setTop_of_frames _ hr, hsv]
  exact hrest
end TH
def cov (z : Nat × Nat × Nat × Nat) (pc : Nat) : Bool := decide (z.1 ≤ pc) && decide (pc < z.2.1)
section GT1
variable {ρ : Type} {mk : ρ → Rs} {Γ : GX} {own : String} {cc : ByteArray} {nL : Nat} {rm : Room} {cells slots pc : Nat} {L L' : List (Nat × Value)} {st : List Value} {σ : Sg} {o : Option ρ} {hh : List (Nat × Nat × Nat × Nat)} {E : String}
theorem g_catch0 (K : Cx Γ own cc nL rm) (hT : Tb Γ hh) (pre : List (Nat × Nat × Nat × Nat)) (x : Nat × Nat × Nat × Nat) (suf : List (Nat × Nat × Nat × Nat)) (hsplit : hh = pre ++ x :: suf) (hpass : ∀ z ∈ pre, cov z pc = true ∧ z.2.2.2 ≠ 0 ∧ ∃ nm, Cond.classLink own z.2.2.2 nm ∈ TB ∧ (E, nm) ∈ ncs) (hx9 : cov x pc = true) (h0 : x.2.2.2 ≠ 0) (hlink : Cond.classLink own x.2.2.2 E ∈ TB) (hE : Cond.instantiable E 6 ∈ TB) {j : Nat} (hj : j < nL) {len : Nat}
    (hst : ∀ (p : Program) (l : Launch) (e : Env) (R : Room) (s : State) (m : MethodId) (args : Array Value) (below : List Frame) (meth : Method) (c : Code) (H : Heap) (locs : List Loc) (Q : State → Prop) (ls : Array Slot) (q : Nat) (lv : List (Nat × Value)), p.tables.exec = Jvm.exec → c.code = cc → lv_has ls nL lv → (∀ ls' : Array Slot, lv_has ls' nL ((j, Value.ref q) :: lv.filter (fun q => !(q.1 == j) && !(q.1 + 1 == j && q.2.category == 2))) → W p l e R s m args below meth c H locs cells slots Q (F0 m (x.2.2.1 + len) ls' [])) → W p l e R s m args below meth c H locs cells slots Q (F0 m x.2.2.1 ls [.ref q]))
    (hl : L.filter (fun q => !(q.1 == j)) = L') (k : G Γ mk cells slots (x.2.2.1 + len) L' [] σ o) : GT Γ mk cells slots pc L st E σ o := by
  obtain ⟨p, l, e, R, s, m, args, below, meth, c, D, dA, Hl, ν0, N0, Qr⟩ := Γ
  obtain ⟨hx, hb, hml, hown, hts, hX, hlk, htr, hR⟩ := K
  intro r hr ν H ls locs q ce a1 a2 a3 a4 a5 a7 b1 b2 b3 T hTh X
  subst hl
  have hT : c.exceptionTable.toList.map (fun h => (h.startPc, h.endPc, h.handlerPc, h.catchType)) = hh := hT
  rw [hsplit] at hT
  obtain ⟨pre', suf0, hs1, hs2, hs3⟩ := List.map_eq_append_iff.mp hT
  obtain ⟨x', suf', hs4, hs5, hs6⟩ := List.map_eq_cons_iff.mp hs3
  have hpl : e.platform.magicAccessors = ({} : Platform).magicAccessors := by rw [X.admits.platform]
  have hcl : ClassAt s E ce.cls := by
    obtain ⟨cC, h9⟩ := classAt_of (hts _ hE)
    cases Option.some.inj (h9.1.symm.trans b3)
    exact h9
  obtain ⟨c5, hc5, hl5⟩ := Cond.classLink_spec hown (hts _ hlink) e.platform hpl
  cases Option.some.inj (hc5.symm.trans b3)
  have hk0 : ∃ k, s.vm.classes[ce.cls]? = some k := by obtain ⟨-, kC, hk, -⟩ := hcl; exact ⟨kC, hk⟩
  have ex : (x'.startPc, x'.endPc, x'.handlerPc, x'.catchType) = x := hs5
  have hobj : ∀ k, ce.vm ≠ .statics k := fun k hk => by rw [b2] at hk; cases hk
  obtain ⟨vm', hW', hf⟩ := fh_go (e := e) (s0 := s) (f := F0 m pc ls (st.map (tr ν))) (a := q) (cell := ce) hobj hk0 x' suf' (by rw [← ex] at hx9; exact hx9) (by rw [← ex] at h0; exact h0) (cx := ce.cls) (by rw [← ex] at hl5; exact hl5) (va_assign hcl) pre' ((T.setTop (F0 m pc ls (st.map (tr ν)))).pushFrame (.throwing q)) X.warmed (by show T.heap[q]? = some ce; rw [hTh]; exact b1) (fun z hz => by
    have hz' : (z.startPc, z.endPc, z.handlerPc, z.catchType) ∈ pre := by rw [← hs2]; exact List.mem_map.mpr ⟨z, hz, rfl⟩
    obtain ⟨g1, g2, nm, g3, g4⟩ := hpass _ hz'
    obtain ⟨c6, hc6, hl6⟩ := Cond.classLink_spec hown (hts _ g3) e.platform hpl
    obtain ⟨a8, b8, n1, n2, n3⟩ := hX.nc _ g4
    cases Option.some.inj (n1.symm.trans b3)
    cases Option.some.inj (n2.symm.trans hc6)
    exact ⟨g1, g2, _, hl6, n3⟩)
  have X' := X.noted hW'
  have hw : W p l e R s m args below meth c H locs cells slots (Qr (mk r)) (F0 m x.2.2.1 ls [.ref q]) := by
    refine hst p l e R s m args below meth c H locs _ ls q (trL ν L) hx hb (by rw [← hml]; exact a7) (fun ls' h' => ?_)
    refine k r hr ν H ls' locs a1 a2 a3 a4 (fun z hz => a5 z (List.mem_filter.mp hz).1) oks_nil ⟨by rw [hml]; exact h'.1, h'.2.1, fun z hz => ?_⟩
    obtain ⟨w, hw, rfl⟩ := List.mem_map.mp hz
    obtain ⟨hw1, hw2⟩ := List.mem_filter.mp hw
    refine h'.2.2 _ (List.mem_cons_of_mem _ (List.mem_filter.mpr ⟨List.mem_map.mpr ⟨w, hw1, rfl⟩, ?_⟩))
    have h1 : (tr ν w.2).category = 1 := (tr_cat ν w.2).trans (a5 w hw1).2
    simp [h1]
    simpa using hw2
  obtain ⟨t, s9, hQ⟩ := hw (T.setVm vm') hTh X'
  refine ⟨t, ?_, hQ⟩
  refine fh_caught X.here (pc := x.2.2.1) (vm' := vm') (fun Q9 E9 d9 acts9 => ?_) s9
  rw [W.findHandler_eq (meth := meth) (code := c) X.method' X.code, hs1, hs4]
  rw [← ex]
  exact hf Q9 E9 d9 acts9
theorem g_catch1 (K : Cx Γ own cc nL rm) (hT : Tb Γ hh) (pre : List (Nat × Nat × Nat × Nat)) (x : Nat × Nat × Nat × Nat) (suf : List (Nat × Nat × Nat × Nat)) (hsplit : hh = pre ++ x :: suf) (hpass : ∀ z ∈ pre, cov z pc = true ∧ z.2.2.2 ≠ 0 ∧ ∃ nm, Cond.classLink own z.2.2.2 nm ∈ TB ∧ (E, nm) ∈ ncs) (hx9 : cov x pc = true) (h0 : x.2.2.2 ≠ 0) (hlink : Cond.classLink own x.2.2.2 E ∈ TB) (hE : Cond.instantiable E 6 ∈ TB) {j : Fin 4} (hj : (j : Nat) < nL) (d : decode cc x.2.2.1 = .ok (.astore_n j, 1))
    (hl : L.filter (fun q => !(q.1 == (j : Nat))) = L') (k : G Γ mk cells slots (x.2.2.1 + 1) L' [] σ o) : GT Γ mk cells slots pc L st E σ o :=
  g_catch0 K hT pre x suf hsplit hpass hx9 h0 hlink hE hj (len := 1) (fun _ _ _ _ _ _ _ _ _ _ _ _ _ _ _ _ hx hb hlv kk => lv_astore_n hx hb d rfl hlv hj rfl kk) hl k
theorem g_catch2 (K : Cx Γ own cc nL rm) (hT : Tb Γ hh) (pre : List (Nat × Nat × Nat × Nat)) (x : Nat × Nat × Nat × Nat) (suf : List (Nat × Nat × Nat × Nat)) (hsplit : hh = pre ++ x :: suf) (hpass : ∀ z ∈ pre, cov z pc = true ∧ z.2.2.2 ≠ 0 ∧ ∃ nm, Cond.classLink own z.2.2.2 nm ∈ TB ∧ (E, nm) ∈ ncs) (hx9 : cov x pc = true) (h0 : x.2.2.2 ≠ 0) (hlink : Cond.classLink own x.2.2.2 E ∈ TB) (hE : Cond.instantiable E 6 ∈ TB) {j : Nat} (hj : j < nL) (d : decode cc x.2.2.1 = .ok (.astore j, 2))
    (hl : L.filter (fun q => !(q.1 == j)) = L') (k : G Γ mk cells slots (x.2.2.1 + 2) L' [] σ o) : GT Γ mk cells slots pc L st E σ o :=
  g_catch0 K hT pre x suf hsplit hpass hx9 h0 hlink hE hj (len := 2) (fun _ _ _ _ _ _ _ _ _ _ _ _ _ _ _ _ hx hb hlv kk => lv_astore hx hb d hlv hj rfl kk) hl k
end GT1
/-- the same frame, as if the method were called anew in the heap that stands now -/
theorem x_rebase {p : Program} {l : Launch} {e : Env} {R R' : Room} {s : State} {m : MethodId} {args : Array Value} {below : List Frame} {meth : Method} {c : Code} {T : State} {locs : List Loc} {cells slots : Nat} (X : Stand p l e R s m args below meth c T locs cells slots) (hf : R'.frames ≤ R.frames) (hl : R'.locals ≤ R.locals) (hc : cells + R'.cells ≤ R.cells) (hs : slots + R'.slots ≤ R.slots) :
    Stand p l e R' ((T.setVm s.vm).setFrames (.invoking m args :: below)) m args below meth c T [] 0 0 := by
  have htop : (T.setVm s.vm).topJava?.isSome := X.here.top
  have hF : ((T.setVm s.vm).setFrames (.invoking m args :: below)).frames = .invoking m args :: below := State.frames_setFrames _ (State.cur_lt_of_top htop)
  obtain ⟨g₀, hg0⟩ := Option.isSome_iff_exists.mp htop
  obtain ⟨r, hr⟩ := State.topJava?_eq_some.mp hg0
  have hl9 : e.platform.stackLimits (T.setVm s.vm).me = e.platform.stackLimits s.me := X.limits
  have hb9 : (T.setVm s.vm).me.stackBytes = s.me.stackBytes := X.bytes
  refine ⟨X.admits, X.cas, X.clock, hF, ?_, X.hears, X.method, X.code, X.here, X.tail, X.warmed, by rw [State.stackLimits_setFrames]; rfl, by rw [State.stackBytes_setFrames]; rfl, ?_⟩
  · have h := X.room
    have hU : ((T.setVm s.vm).setFrames (.invoking m args :: below)).localsInUse = s.localsInUse := by
      rw [State.localsInUse_invoking hF (meth := meth) (c := c) X.method X.code, State.localsInUse_invoking X.frames X.method X.code]
    simp only [State.hasRoom, Bool.and_eq_true, decide_eq_true_eq] at h ⊢
    obtain ⟨⟨⟨⟨h1, h2, h3, h4, h5, h6⟩, h7⟩, h8⟩, h9⟩ := h
    rw [X.frames, List.length_cons] at h2 h3
    have q1 := X.heapSize
    have q2 := X.used
    simp only [hF, hU, List.length_cons, State.stackLimits_setFrames, State.stackBytes_setFrames, hl9, hb9]
    refine ⟨⟨⟨⟨by omega, by omega, by omega, by omega, by omega, h6⟩, ?_⟩, ?_⟩, X.book⟩
    · show T.heap.size + R'.cells ≤ e.platform.maxCells
      omega
    · show T.slotsUsed + R'.slots ≤ e.platform.maxSlots
      omega
  · have hd : T.heap.toList.drop T.heap.size = [] := List.drop_eq_nil_of_le (Nat.le_of_eq Array.length_toList)
    refine ⟨?_, Nat.le_refl _, Nat.le_refl _, ?_, ?_, fun a c9 h9 => ⟨c9, h9, rfl, rfl, fun _ _ => rfl⟩⟩
    · obtain ⟨t, ht, -⟩ := State.frames_cons hr
      show T.setVm s.vm = { ((T.setVm s.vm).setFrames (.invoking m args :: below)).setFrames (T.setVm s.vm).frames with heap := T.heap, slotsUsed := T.slotsUsed }
      rw [State.setFrames_setFrames, State.setFrames_self ht]
      rfl
    · show T.slotsUsed = T.slotsUsed + ((T.heap.toList.drop T.heap.size).map (·.slots.size)).sum
      rw [hd]
      rfl
    · show ((T.heap.toList.drop T.heap.size).map (·.slots.size)).sum ≤ 0
      rw [hd]
      exact Nat.le_refl _
def zws : List Cond := [Cond.isRef (.static "java/lang/Throwable" "UNASSIGNED_STACK" stD), Cond.isRef (.static "java/lang/Throwable" "SUPPRESSED_SENTINEL" liD), Cond.laysStatic "java/lang/Throwable" "UNASSIGNED_STACK" stD, Cond.laysStatic "java/lang/Throwable" "SUPPRESSED_SENTINEL" liD]
def nms : List String := ["java/lang/RuntimeException", "java/lang/Exception"]
/-- all that a throw of E asks of words -/
def TW (own : String) (ik is ic : Nat) (E text : String) : Prop := Bundle.fit E = true ∧ Cond.classLink own ik E ∈ TB ∧ Cond.initialized E ∈ TB ∧ (own, is, text) ∈ strs ∧ ∀ w ∈ Bundle.ownAtoms own ic E nms, w ∈ TB ∨ w ∈ zws ∨ w ∈ dcl.map Cond.declares ∨ w ∈ exs.map (fun E => Cond.castable E E)
section GT2
variable {ρ : Type} {mk : ρ → Rs} {z : ρ} {Γ : GX} {own : String} {cc : ByteArray} {nL : Nat} {rm : Room} {cells slots pc : Nat} {L : List (Nat × Value)} {σ : Sg} {hh : List (Nat × Nat × Nat × Nat)} {E text : String} {ret : Option FieldType} {ik is ic : Nat}
set_option maxHeartbeats 1000000 in
theorem g_throw (K : Cx Γ own cc nL rm) (S : Std Γ ret) (hT : Tb Γ hh) (hW : TW own ik is ic E text) (hout : ∀ z ∈ hh, cov z (pc + 9) = false)
    (d0 : decode cc pc = .ok (.new ik, 3)) (d3 : decode cc (pc + 3) = .ok (.dup, 1)) (d4 : decode cc (pc + 4) = .ok (.ldc is, 2)) (d6 : decode cc (pc + 6) = .ok (.invokespecial ic, 3)) (d9 : decode cc (pc + 9) = .ok (.athrow, 1))
    (hRf : 6 ≤ rm.frames) (hRl : 90 ≤ rm.locals) (hRc : cells + 1 ≤ rm.cells) (hRs : slots + 6 ≤ rm.slots) (hz : mk z = (.inr E, σ)) : G Γ mk cells slots pc L [] σ (some z) := by
  obtain ⟨w1, w2, w3, w4, w5⟩ := hW
  obtain ⟨p, l, e, R, s, m, args, below, meth, c, D, dA, Hl, ν0, N0, Qr⟩ := Γ
  obtain ⟨hx, hb, hml, hown, hts, hX, hlk, htr, hR⟩ := K
  intro r hr ν H ls locs a1 a2 a3 a4 a5 a6 a7 T hTh X
  cases hr
  rw [hz]
  obtain ⟨hret, hQ⟩ := S
  subst hQ
  subst hR
  have hT : c.exceptionTable.toList.map (fun h => (h.startPc, h.endPc, h.handlerPc, h.catchType)) = hh := hT
  have hout' : ∀ x ∈ c.exceptionTable.toList, covers x (pc + 9) = false := fun x hx => hout (x.startPc, x.endPc, x.handlerPc, x.catchType) (by rw [← hT]; exact List.mem_map.mpr ⟨x, hx, rfl⟩)
  have htr9 : e.platform.stackTraces = false := (show e.platform.stackTraces = l.stackTraces by rw [X.admits.platform]).trans htr
  have Y := x_rebase X (R' := { frames := R.frames, locals := R.locals, cells := 1, slots := 6 }) (Nat.le_refl _) (Nat.le_refl _) hRc hRs
  obtain ⟨s', hs'⟩ : ∃ u, u = (T.setVm s.vm).setFrames (.invoking m args :: below) := ⟨_, rfl⟩
  rw [← hs'] at Y
  have hvm : s'.vm = s.vm := by rw [hs']; rfl
  have hhp : s'.heap = H := by rw [hs']; exact hTh
  have hW0 : s.WarmedH s'.vm := by rw [hvm]; exact State.WarmedH.refl s
  have hX' := hX.warm hW0
  have hH : ∀ q : Nat, q < Hl.size → s'.heap[q]? = Hl[q]? := fun q hq => by rw [hhp]; exact a4.2.1 q hq (Nat.not_le.mpr hq)
  have hat : ∀ w ∈ Bundle.ownAtoms own ic E nms, w.before args s' = true := fun w hw => by
    rcases w5 w hw with h | h | h | h
    · exact TB_at hW0 h (hts _ h)
    · rcases List.mem_cons.mp h with rfl | h
      · exact hX'.2.1.isRef hH
      · rcases List.mem_cons.mp h with rfl | h
        · exact hX'.2.2.1.isRef hH
        · rcases List.mem_cons.mp h with rfl | h
          · exact hX'.2.1.lays hH
          · rcases List.mem_cons.mp h with rfl | h
            · exact hX'.2.2.1.lays hH
            · cases h
    · obtain ⟨q, hq, rfl⟩ := List.mem_map.mp h
      exact va_Nw.use rfl (hX'.2.2.2.2.2.1 q hq)
    · obtain ⟨q, hq, rfl⟩ := List.mem_map.mp h
      exact va_Nw.use rfl (hX'.2.2.2.2.2.2.1 q hq)
  obtain ⟨sa, hstr⟩ := hX'.2.2.2.1 _ w4
  have hown' : s'.vm.findClass own = some m.cls := by rw [hvm]; exact hown
  have hins : (Cond.instantiable E 6).before args s' = true := hat _ (by simp [Bundle.ownAtoms])
  obtain ⟨vm₁, cX, kX, hfX, hkX, -, -, X₁, st1⟩ := Y.newCold hx (own := own) (C := E) (index := ik) (n := 6) hown' (TB_at hW0 w2 (hts _ w2)) hins (TB_at hW0 w3 (hts _ w3)) (g := F0 m pc ls []) rfl (by rw [hb]; exact d0) (Nat.le_refl _) (Nat.le_refl _)
  generalize hT1 : (T.setVm vm₁).pushCell { cls := cX, slots := kX.instanceTypes.map defaultValue, vm := .none } = T1 at X₁ st1
  have hcellA : T1.heap[T.heap.size]? = some (freshCell cX kX) := by rw [← hT1]; exact State.heap_pushCell_size _ _
  have d3' : decode c.code (pc + 3) = .ok (.dup, 1) := by rw [hb]; exact d3
  have d4' : decode c.code (pc + 4) = .ok (.ldc is, 2) := by rw [hb]; exact d4
  have hnm : ∀ n ∈ nms, Bundle.fit n = true := by decide +kernel
  obtain ⟨U, hsteps, hrun, hend, hWU, hsame, ce, hce, hO⟩ := X₁.ctorThrowS hx htr9 (own := own) (cls := E) (names := nms) (ic := ic) hown' w1 hnm hat (fun x hx => nomatch hx) hfX hkX hcellA (by rw [hhp, hTh]; exact Nat.le_refl _) (msg := .ref sa) rfl
    (g := { method := m, pc := pc + 6, locals := ls, stack := .ref sa :: .ref T.heap.size :: .ref T.heap.size :: [], locked := none }) rfl a7.1 rfl rfl (rest := []) rfl
    (by rw [hb]; exact d6) (by rw [hb]; exact d9) hout' (by show 2 + 3 < R.frames; omega) (by
      have h9 : 2 * (F0 m (pc + 6) ls []).monitorRoom + 0 ≤ 8 := lv_room (m := m) (pc := pc + 6) (ls := ls) (rest := []) (st := []) (by decide)
      have h8 : 2 * (F0 m (pc + 6) ls []).monitorRoom + 1 + 81 ≤ R.locals := by omega
      exact h8) hlk
  obtain ⟨e1, e2, e3, e4, e5, e6⟩ := hsame
  have hsz : H.size ≤ U.heap.size := by rw [← hhp]; exact e2
  have hkeep : ∀ q : Nat, q < H.size → U.heap[q]? = H[q]? := by
    intro q hq
    have hq' : q < s'.heap.size := by rw [hhp]; exact hq
    obtain ⟨c9, f1, f2, f3, f4⟩ := e6 q _ (Array.getElem?_eq_getElem hq')
    have hs9 : c9.slots = (s'.heap[q]).slots := Array.ext_getElem? fun i => f4 i (fun h => nomatch h)
    have h9 : c9 = s'.heap[q] := by
      rw [hs9] at f2
      exact f2
    have f5 : U.heap[q]? = some c9 := f1
    rw [f5, h9, ← Array.getElem?_eq_getElem hq', hhp]
  have hWs : s.WarmedH U.vm := State.WarmedH.trans hW0 hWU
  have hcl : s.vm.findClass E = some ce.cls := by
    have h9 := hO.cls
    rw [hvm] at h9
    exact h9
  have hall : s.sameButNew ({ U with vm := s.vm } : State) locs R.cells R.slots := by
    subst hs'
    rw [State.setFrames_setFrames] at e1
    have h2 : (T.setVm s.vm).sameButNew ({ U with vm := s.vm } : State) [] (0 + 1) (0 + 6) := ⟨e1, e2, e3, e4, e5, e6⟩
    have h3 := X.same.trans h2
    rw [List.append_nil] at h3
    exact h3.mono hRc hRs
  refine ⟨U, ?_, .threw T.heap.size, hrun, hend, ν, locs, a1, a2, ⟨a3.1.kept (fun k q hk => hkeep _ (a3.1 k q hk).lt), a3.2⟩, ⟨Nat.le_trans a4.1 hsz, fun q h1 h2 => (hkeep q (Nat.lt_of_lt_of_le h1 a4.1)).trans (a4.2.1 q h1 h2), a4.2.2⟩, hWs, hall, Or.inr ⟨E, T.heap.size, ce, rfl, rfl, hce, hO.vm, hcl⟩⟩
  refine st1 _ ?_
  show Steps p.tables e below (T1.setTop { method := m, pc := pc + 3, locals := ls, stack := .ref T.heap.size :: [], locked := none }) _
  jvm_step X₁.here [X₁.here.top, hx, d3', Value.category]
  exact X₁.ldcString hx (own := own) (text := text) (index := is) (a := sa) hown' hstr.1 hstr.2
    (g := { method := m, pc := pc + 4, locals := ls, stack := .ref T.heap.size :: .ref T.heap.size :: [], locked := none }) rfl d4' _ hsteps
end GT2
/-! what the walks' program uses besides -/
def wi {β : Type} (x : Sg) (k : Sg → Option β) : Option β := k x
def wn {β : Type} (x : Int32) (k : Int32 → Option β) : Option β := k x
abbrev mkI (σ : Sg) (x : Int32) : Rs := (.inl (some (.int x)), σ)
abbrev mkV (s : Sg) : Rs := (.inl none, s)
abbrev mkW (r : Int32 × Sg) : Rs := (.inl (some (.int r.1)), r.2)
abbrev mkR (r : Rs) : Rs := r
def onI {β : Type} (r : Option Value ⊕ String) (k : Int32 → Option β) (h : String → Option β) : Option β := match r with
  | .inl (some (.int x)) => k x
  | .inl _ => none
  | .inr E => h E
def onV {β : Type} (r : Option Value ⊕ String) (k : Option β) (h : String → Option β) : Option β := match r with
  | .inl none => k
  | .inl (some _) => none
  | .inr E => h E
section GW
variable {ρ : Type} {mk : ρ → Rs} {Γ : GX} {own : String} {cc : ByteArray} {nL : Nat} {rm : Room} {cells slots pc len : Nat} {L : List (Nat × Value)} {st : List Value} {σ : Sg} {o : Option ρ}
theorem g_wi {k : Sg → Option ρ} (h : ∀ s, s = σ → G Γ mk cells slots pc L st s (k s)) : G Γ mk cells slots pc L st σ (wi σ k) := h σ rfl
theorem g_wn {k : Int32 → Option ρ} {x : Int32} (h : ∀ y, y = x → G Γ mk cells slots pc L (.int y :: st) σ (k y)) : G Γ mk cells slots pc L (.int x :: st) σ (wn x k) := h x rfl
theorem g_none' {r : Rs} : GRs Γ mk cells slots pc len L st r none := by
  obtain ⟨v, s⟩ := r
  unfold GRs
  cases v with
  | inl v => exact g_none
  | inr E =>
    obtain ⟨p, l, e, R, s, m, args, below, meth, c, D, dA, Hl, ν0, N0, Qr⟩ := Γ
    intro r hr
    cases hr
theorem gt_none {E : String} : GT Γ mk cells slots pc L st E σ none := by
  obtain ⟨p, l, e, R, s, m, args, below, meth, c, D, dA, Hl, ν0, N0, Qr⟩ := Γ
  intro r hr
  cases hr
theorem gt_ite {E : String} {c : Prop} [Decidable c] {o1 o2 : Option ρ} (k1 : c → GT Γ mk cells slots pc L st E σ o1) (k2 : ¬ c → GT Γ mk cells slots pc L st E σ o2) : GT Γ mk cells slots pc L st E σ (if c then o1 else o2) := by
  by_cases h : c
  · rw [if_pos h]; exact k1 h
  · rw [if_neg h]; exact k2 h
theorem g_onI {r : Rs} {k : Int32 → Option ρ} {h : String → Option ρ} (k1 : ∀ x, G Γ mk cells slots (pc + len) L (.int x :: st) r.2 (k x)) (k2 : ∀ E, GT Γ mk cells slots pc L st E r.2 (h E)) : GRs Γ mk cells slots pc len L st r (onI r.1 k h) := by
  obtain ⟨v, s⟩ := r
  cases v with
  | inl v =>
    cases v with
    | none => exact g_none'
    | some w => cases w <;> first | exact g_none' | exact k1 _
  | inr E => exact k2 E
theorem g_onV {r : Rs} {k : Option ρ} {h : String → Option ρ} (k1 : G Γ mk cells slots (pc + len) L st r.2 k) (k2 : ∀ E, GT Γ mk cells slots pc L st E r.2 (h E)) : GRs Γ mk cells slots pc len L st r (onV r.1 k h) := by
  obtain ⟨v, s⟩ := r
  cases v with
  | inl v =>
    cases v with
    | none => exact k1
    | some w => exact g_none'
  | inr E => exact k2 E
theorem g_ldcw (K : Cx Γ own cc nL rm) {i : Nat} {v : Int32} (hc : Cond.constant own i v ∈ TB) (d : decode cc pc = .ok (.ldc_w i, 3)) (k : G Γ mk cells slots (pc + 3) L (.int v :: st) σ o) : G Γ mk cells slots pc L st σ o := by
  obtain ⟨p, l, e, R, s, m, args, below, meth, c, D, dA, Hl, ν0, N0, Qr⟩ := Γ
  obtain ⟨hx, hb, hml, hown, hts, hX, hlk, htr, hR⟩ := K
  intro r hr ν H ls locs a1 a2 a3 a4 a5 a6 a7
  exact lv_ldcw hx hb hown (hts _ hc) d (k r hr ν H ls locs a1 a2 a3 a4 a5 (oks_cons trivial a6) a7)
theorem g_alen (K : Cx Γ own cc nL rm) {a : Nat} (d : decode cc pc = .ok (.arraylength, 1)) (k : G Γ mk cells slots (pc + 1) L (.int (nI (ln a)) :: st) σ o) : G Γ mk cells slots pc L (.ref a :: st) σ (if a < σ.1 ∧ kd a = 10 then o else none) := by
  refine g_if fun hc => ?_
  obtain ⟨p, l, e, R, s, m, args, below, meth, c, D, dA, Hl, ν0, N0, Qr⟩ := Γ
  obtain ⟨hx, hb, hml, hown, hts, hX, hlk, htr, hR⟩ := K
  intro r hr ν H ls locs a1 a2 a3 a4 a5 a6 a7
  have he : (wl ν dA σ)[a]? = some (ν a, .inl (dA 10, ln a, .inl (g_i σ a))) := by rw [wl_at hc.1, en_i hc.2 (by decide) (by decide)]
  exact va_alen (D := D) hx hb hX.1 a3.1 a 0 he rfl rfl d (k r hr ν H ls locs a1 a2 a3 a4 a5 (oks_cons trivial (oks_tail a6)) a7)
end GW
