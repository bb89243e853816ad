/-! Contracts over whole worlds, with two ends: an answer, or an exception of a class; entry, return, calls. -/
def Pz (D : va_G) (dA : Nat → ClassId) (Hl : Heap) (ν0 : Nat → Nat) (vs : List Value) (σ : Sg) : Array Value → State → Prop := fun a U =>
  a = (vs.map (tr ν0)).toArray ∧ oks σ.1 vs ∧ Wd D dA Hl.size ν0 σ U.heap ∧ va_S (fun q => Hl.size ≤ q) Hl U.heap [] ∧ Fx D dA Hl U
def Qz (D : va_G) (dA : Nat → ClassId) (Hl : Heap) (ν0 : Nat → Nat) (N0 : Nat) (r : Rs) (mc ms : Nat) : Array Value → State → Outcome → State → Prop := fun _ st o t =>
  ∃ (ν : Nat → Nat) (Lc : List Loc), ext ν0 N0 ν ∧ N0 ≤ r.2.1 ∧ Wd D dA Hl.size ν r.2 t.heap ∧ va_S (fun q => Hl.size ≤ q) Hl t.heap Lc ∧ st.WarmedH t.vm ∧ st.sameButNew ({ t with vm := st.vm } : State) Lc mc ms ∧
    ((∃ v, r.1 = .inl v ∧ o = .returned (v.map (tr ν)) ∧ ∀ w, v = some w → okv r.2.1 w) ∨ (∃ (E : String) (q : Nat) (ce : Cell), r.1 = .inr E ∧ o = .threw q ∧ t.heap[q]? = some ce ∧ ce.vm = .none ∧ st.vm.findClass E = some ce.cls))
def Con (l : Launch) (y : MethodName) (cw : Cond) (rm : Room) (vs : List Value) (σ : Sg) (r : Rs) : Prop :=
  ∀ (D : va_G) (dA : Nat → ClassId) (Hl : Heap) (ν0 : Nat → Nat), MetFree l y (headSpec (cw :: TB) rm) (Pz D dA Hl ν0 vs σ) (fun _ _ _ _ _ => True) (Qz D dA Hl ν0 σ.1 r rm.cells rm.slots)
/-- the word of a method's code, with or without an exception table -/
def CW (y : MethodName) (cw : Cond) (bytes : ByteArray) (maxL : Nat) (ret : Option FieldType) (hh : List (Nat × Nat × Nat × Nat)) : Prop := (cw = .code y bytes maxL ret ∧ hh = []) ∨ cw = .codeWith y bytes maxL ret hh
theorem CW.spec {y : MethodName} {cw : Cond} {bytes : ByteArray} {maxL : Nat} {ret : Option FieldType} {hh : List (Nat × Nat × Nat × Nat)} (h : CW y cw bytes maxL ret hh) {args : Array Value} {s : State} (hw : cw.before args s = true) :
    ∃ m meth c, s.methodNamed? y = some m ∧ s.vm.method? m = some meth ∧ meth.code = some c ∧ c.code = bytes ∧ c.maxLocals = maxL ∧ c.exceptionTable.toList.map (fun h => (h.startPc, h.endPc, h.handlerPc, h.catchType)) = hh ∧ meth.sig.returnType = ret ∧ meth.locks = false ∧ parseMethodDescriptor y.desc = some meth.sig := by
  rcases h with ⟨rfl, rfl⟩ | rfl
  · obtain ⟨m, hn⟩ := Cond.code_named hw
    obtain ⟨meth, c, h1, h2, h3, h4, h5, h6, h7, h8⟩ := Cond.code_spec hn hw
    have h9 : c.exceptionTable = #[] := by simpa using h7
    exact ⟨m, meth, c, hn, h1, h2, h3, h4, by rw [h9]; rfl, h5, h6, h8⟩
  · exact Cond.codeWith_spec hw
def Std (Γ : GX) (ret : Option FieldType) : Prop := match Γ with
  | (p, l, e, R, s, m, args, below, meth, c, D, dA, Hl, ν0, N0, Qr) => meth.sig.returnType = ret ∧ Qr = fun r t => ∃ o, t.status = .running ∧ Ended t below o ∧ Qz D dA Hl ν0 N0 r R.cells R.slots args s o t
def Tb (Γ : GX) (hh : List (Nat × Nat × Nat × Nat)) : Prop := match Γ with
  | (p, l, e, R, s, m, args, below, meth, c, D, dA, Hl, ν0, N0, Qr) => c.exceptionTable.toList.map (fun h => (h.startPc, h.endPc, h.handlerPc, h.catchType)) = hh
theorem lv_args_tr {ν : Nat → Nat} : ∀ (vs : List Value) (i : Nat), lv_args i (vs.map (tr ν)) = trL ν (lv_args i vs)
  | [], _ => rfl
  | v :: vs, i => by
    show (i, tr ν v) :: lv_args (if (tr ν v).category = 2 then i + 2 else i + 1) (vs.map (tr ν)) = (i, tr ν v) :: trL ν (lv_args (if v.category = 2 then i + 2 else i + 1) vs)
    rw [tr_cat, lv_args_tr]
theorem lv_args_mem : ∀ (vs : List Value) (i : Nat) (q : Nat × Value), q ∈ lv_args i vs → q.2 ∈ vs
  | [], _, _, h => nomatch h
  | v :: vs, i, q, h => (List.mem_cons.mp h).elim (fun e => by rw [e]; exact List.mem_cons_self) (fun h => List.mem_cons_of_mem _ (lv_args_mem vs _ q h))
theorem lg_sl_len : ∀ vs : List Value, (∀ v ∈ vs, v.category = 1) → (lg_sl vs).length = vs.length
  | [], _ => rfl
  | v :: vs, h => by
    have h1 := h v List.mem_cons_self
    have h2 := lg_sl_len vs (fun w hw => h w (List.mem_cons_of_mem _ hw))
    unfold lg_sl at h2 ⊢
    simp [h1, h2]
theorem Con.of {ρ : Type} {mk : ρ → Rs} {o : Option ρ} {z : ρ} {l : Launch} {y : MethodName} {cw : Cond} {rm : Room} {vs : List Value} {σ : Sg} {r : Rs} {bytes : ByteArray} {maxL : Nat} {ret : Option FieldType} {hh : List (Nat × Nat × Nat × Nat)} {L0 : List (Nat × Value)}
    (hl : l.stackTraces = false) (hy : plainFor y = true) (hcw : CW y cw bytes maxL ret hh) (hcat : ∀ v ∈ vs, v.category = 1) (hlen : vs.length ≤ maxL) (hL : lv_args 0 vs = L0)
    (body : ∀ Γ, Cx Γ y.cls bytes maxL rm → Std Γ ret → Tb Γ hh → (y.name = "<init>" → Ini Γ) → G Γ mk 0 0 0 L0 [] σ o) (hr : o = some z) (hz : mk z = r) : Con l y cw rm vs σ r := by
  intro D dA Hl ν0
  refine MetFree.of_bodySF (code := bytes) (maxLocals := maxL) (ret := ret) hy ?_ ?_
  · intro args s m h hn
    obtain ⟨m9, meth, c, hn9, h1, h2, h3, h4, -, h5, h6, -⟩ := hcw.spec (atoms_spec (ws := cw :: TB) h _ List.mem_cons_self)
    cases hn.symm.trans hn9
    exact ⟨meth, c, h1, h2, h3, h4, h5, h6⟩
  · intro p e s m args below meth c s₁ B hml hP _
    obtain ⟨ha, hok, hW, hS, hF⟩ := hP
    have hh0 : s₁.heap = s.heap := by rw [B.state]; rfl
    have hts := atoms_spec (ws := cw :: TB) B.pre
    have X₀ : Stand p l e rm s m args below meth c s₁ [] 0 0 := Stand.of_body B
    have htab : c.exceptionTable.toList.map (fun h => (h.startPc, h.endPc, h.handlerPc, h.catchType)) = hh := by
      obtain ⟨m9, meth9, c9, hn9, h1, h2, -, -, h5, -, -, -⟩ := hcw.spec (hts _ List.mem_cons_self)
      cases B.named.symm.trans hn9
      cases B.method.symm.trans h1
      cases X₀.code.symm.trans h2
      exact h5
    have hg := body (p, l, e, rm, s, m, args, below, meth, c, D, dA, Hl, ν0, σ.1, fun r t => ∃ o, t.status = .running ∧ Ended t below o ∧ Qz D dA Hl ν0 σ.1 r rm.cells rm.slots args s o t)
      ⟨B.exec, B.bytes, hml, findClass_of_methodNamed B.named, fun w hw => hts w (List.mem_cons_of_mem _ hw), hF, B.notSynchronized, hl, rfl⟩ ⟨B.returns, rfl⟩ htab (fun hq => (name_of_methodNamed B.named B.method).1.trans hq)
    have hcat' : ∀ v ∈ vs.map (tr ν0), v.category = 1 := fun v hv => by
      obtain ⟨w, hw, rfl⟩ := List.mem_map.mp hv
      rw [tr_cat]; exact hcat w hw
    have hlv := lv_entry (vs.map (tr ν0)) (n := maxL) (by rw [lg_sl_len _ hcat', List.length_map]; exact hlen)
    rw [lv_args_tr, hL] at hlv
    have hokL : okL σ.1 L0 := fun q hq => by
      rw [← hL] at hq
      have := lv_args_mem vs 0 q hq
      exact ⟨hok _ this, hcat _ this⟩
    have hw := hg z hr ν0 s.heap _ [] ext_refl (Nat.le_refl _) hW hS hokL oks_nil (by rw [hml]; exact hlv)
    rw [hz] at hw
    obtain ⟨t, q1, o9, q2, q3, q4⟩ := hw s₁ hh0 X₀
    refine ⟨t, o9, ?_, q2, q3, q4⟩
    rw [ha, lg_entry_eq]
    exact q1
section GC
variable {ρ : Type} {mk : ρ → Rs} {Γ : GX} {own : String} {cc : ByteArray} {nL : Nat} {rm : Room} {cells slots pc : Nat} {L : List (Nat × Value)} {st : List Value} {σ : Sg} {z : ρ}
theorem g_iret (K : Cx Γ own cc nL rm) {ty : FieldType} {x : Int32} (S : Std Γ (some ty)) (hn : narrow ty (.int x) = .int x) (d : decode cc pc = .ok (.ireturn, 1)) (hc : cells ≤ rm.cells) (hs : slots ≤ rm.slots) (hz : mk z = (.inl (some (.int x)), σ)) : G Γ mk cells slots pc L [.int x] σ (some z) := by
  obtain ⟨p, l, e, R, s, m, args, below, meth, c, D, dA, Hl, ν0, N0, Qr⟩ := Γ
  obtain ⟨hx, hb, hml, hown, hts, hX, hlk, htr, hR⟩ := K
  intro r hr ν H ls locs a1 a2 a3 a4 a5 a6 a7
  cases hr
  rw [hz]
  obtain ⟨hret, hQ⟩ := S
  subst hQ
  subst hR
  refine W.widen hc hs ?_
  have h := W.zret (Qc := fun _ _ o t => o = .returned (some (.int x)) ∧ t.heap = H) (free := fun q => Hl.size ≤ q) (v := x) hx hb hret hn (fun t ht hW => ⟨rfl, ht⟩) a4.2.2 d (hlocks := hlk) (p := p) (l := l) (e := e) (R := R) (s := s) (m := m) (args := args) (below := below) (meth := meth) (c := c) (H := H) (locs := locs) (cells := R.cells) (slots := R.slots) (ls := ls)
  intro T hT X
  obtain ⟨t, q1, o9, q2, q3, ⟨q4, q5⟩, L9, q6, q7⟩ := h T hT X
  exact ⟨t, q1, o9, q2, q3, ν, L9, a1, a2, by rw [q5]; exact a3, ⟨by rw [q5]; exact a4.1, by rw [q5]; exact a4.2.1, q7⟩, q6.2.1, q6.2.2, Or.inl ⟨_, rfl, q4, fun w hw => by cases hw; trivial⟩⟩
theorem g_zret (K : Cx Γ own cc nL rm) {x : Int32} (S : Std Γ (some .boolean)) (d : decode cc pc = .ok (.ireturn, 1)) (hc : cells ≤ rm.cells) (hs : slots ≤ rm.slots) (hz : mk z = (.inl (some (.int x)), σ)) : G Γ mk cells slots pc L [.int x] σ (if x = 0 ∨ x = 1 then some z else none) :=
  g_if fun h => g_iret K S (by rcases h with h | h <;> rw [h] <;> rfl) d hc hs hz
theorem g_vret (K : Cx Γ own cc nL rm) (S : Std Γ none) (d : decode cc pc = .ok (.return_, 1)) (hc : cells ≤ rm.cells) (hs : slots ≤ rm.slots) (hz : mk z = (.inl none, σ)) : G Γ mk cells slots pc L [] σ (some z) := by
  obtain ⟨p, l, e, R, s, m, args, below, meth, c, D, dA, Hl, ν0, N0, Qr⟩ := Γ
  obtain ⟨hx, hb, hml, hown, hts, hX, hlk, htr, hR⟩ := K
  intro r hr ν H ls locs a1 a2 a3 a4 a5 a6 a7
  cases hr
  rw [hz]
  obtain ⟨hret, hQ⟩ := S
  subst hQ
  subst hR
  refine W.widen hc hs ?_
  have h := W.vret (Qc := fun _ _ o t => o = .returned none ∧ t.heap = H) (free := fun q => Hl.size ≤ q) hx hb hret (fun t ht hW => ⟨rfl, ht⟩) a4.2.2 d (hlocks := hlk) (p := p) (l := l) (e := e) (R := R) (s := s) (m := m) (args := args) (below := below) (meth := meth) (c := c) (H := H) (locs := locs) (cells := R.cells) (slots := R.slots) (ls := ls)
  intro T hT X
  obtain ⟨t, q1, o9, q2, q3, ⟨q4, q5⟩, L9, q6, q7⟩ := h T hT X
  exact ⟨t, q1, o9, q2, q3, ν, L9, a1, a2, by rw [q5]; exact a3, ⟨by rw [q5]; exact a4.1, by rw [q5]; exact a4.2.1, q7⟩, q6.2.1, q6.2.2, Or.inl ⟨_, rfl, q4, fun w hw => by cases hw⟩⟩
end GC
/-- a call's way, behind the invocation: what the callee's contract gives, seen in the caller's frame -/
theorem x_run {p : Program} {l : Launch} {e : Env} {R : Room} {s : State} {m : MethodId} {sargs : Array Value} {below : List Frame} {meth : Method} {c : Code} {U : State} {Ls : List Loc} {c0 s0 : Nat} (X : Stand p l e R s m sargs below meth c U Ls c0 s0)
    {g : JFrame} (hg : g.method = m) (hsize : g.locals.size = c.maxLocals) {ig : Instr} {len : Nat} (hdg : decode c.code g.pc = .ok (ig, len)) (hW : 2 * g.monitorRoom + (g.stack.map fun v => v.category).sum ≤ 8)
    {y : MethodName} {mk : MethodId} (hn : U.methodNamed? y = some mk) {a : Array Value} {ws : List Cond} {rm : Room} {Pc : Array Value → State → Prop} {Q : Array Value → State → Outcome → State → Prop}
    (hM : MetFree l y (headSpec ws rm) Pc (fun _ _ _ _ _ => True) Q) (hPc : Pc a (U.calling g mk a)) (h1 : ∀ w ∈ ws, w.before a U = true) {methY : Method} {cY : Code} {maxL : Nat} (hmY : U.vm.method? mk = some methY) (hcY : methY.code = some cY) (hlY : cY.maxLocals = maxL)
    (h3 : (Cond.initialized y.cls).before a U = true) (hfr : rm.frames + 1 ≤ R.frames) (hlo : 8 + (maxL + 11) + rm.locals ≤ R.locals) (h4 : c0 + rm.cells ≤ R.cells) (h5 : s0 + rm.slots ≤ R.slots) :
    ∃ (o : Outcome) (t : State), Q a (U.calling g mk a) o t ∧ ∀ L, (U.calling g mk a).WarmedH t.vm → (U.calling g mk a).sameButNew ({ t with vm := (U.calling g mk a).vm } : State) L rm.cells rm.slots →
      ∃ T' : State, T'.heap = t.heap ∧ T'.vm = t.vm ∧ Stand p l e R s m sargs below meth c T' (Ls ++ L) (c0 + rm.cells) (s0 + rm.slots) ∧
        (∀ v, o = .returned v → Steps p.tables e below (doInvoke e (U.setTop g) [] mk a).1 (T'.setTop { g with pc := g.pc + len, stack := v.toList ++ g.stack })) ∧
        (∀ q, o = .threw q → Steps p.tables e below (doInvoke e (U.setTop g) [] mk a).1 ((T'.setTop g).pushFrame (.throwing q))) := by
  subst hg
  obtain ⟨kY, hkY, -⟩ := className_of_methodNamed hn
  have hinitY : kY.init = .initialized := Cond.initialized_spec (findClass_of_methodNamed hn) hkY h3
  have h : At U g.method c below := X.here
  have hpre : (headSpec ws rm).pre.before a U = true := atoms_intro h1
  have hlo' : 8 + (maxL + 11) + (headSpec ws rm).room.locals ≤ R.locals := hlo
  have happ : (headSpec ws rm).appliesLoose y e.platform (U.calling g mk a) = true :=
    Spec.appliesLoose_calling (g := g) h hdg hn hkY hinitY (X.room_calling (g := g) (R' := (headSpec ws rm).room) hsize hmY hcY hfr (by rw [hlY]; omega) h4 h5) hpre
  obtain ⟨mid, hmid⟩ := h.above
  have hfrm : (U.setTop g).frames = (.java g :: mid) ++ below := by rw [State.frames_setTop' g h.top, hmid]; rfl
  obtain ⟨o, t, hsteps, -, hend, hq⟩ := Steps.callFree hM p X.admits X.cas X.clock (acts := []) hfrm happ hPc trivial
  refine ⟨o, t, hq, fun L hW2 hsm => ?_⟩
  rw [State.frames_setTop' g h.top] at hend
  obtain ⟨g₀, hg0⟩ := Option.isSome_iff_exists.mp h.top
  obtain ⟨r, hr⟩ := State.topJava?_eq_some.mp hg0
  obtain ⟨e2, q2, q3, q4, q5, q6⟩ := id hsm
  have e3 : t = ({ (U.calling g mk a).setFrames t.frames with heap := t.heap, slotsUsed := t.slotsUsed } : State).setVm t.vm := by
    have h9 : t = ({ t with vm := (U.calling g mk a).vm } : State).setVm t.vm := rfl
    rw [e2] at h9
    exact h9
  have hW' : U.WarmedH t.vm := hW2
  have hr' : (({ U with heap := t.heap, slotsUsed := t.slotsUsed } : State).setVm t.vm).frames = .java g₀ :: r := hr
  have hsame : U.sameButNew ({ U with heap := t.heap, slotsUsed := t.slotsUsed } : State) L rm.cells rm.slots := by
    refine ⟨?_, q2, q3, q4, q5, q6⟩
    obtain ⟨t9, ht9, -⟩ := State.frames_cons hr
    show ({ U with heap := t.heap, slotsUsed := t.slotsUsed } : State) = { U.setFrames U.frames with heap := t.heap, slotsUsed := t.slotsUsed }
    rw [State.setFrames_self ht9]
  refine ⟨({ U with heap := t.heap, slotsUsed := t.slotsUsed } : State).setVm t.vm, rfl, rfl,
    ⟨X.admits, X.cas, X.clock, X.frames, X.room, X.hears, X.method, X.code, (X.here.setHeapUsed t.heap t.slotsUsed).setVm hW'.alike, X.tail, State.WarmedH.trans X.warmed hW', X.limits, X.bytes, X.same.trans (hsame.setVm s.vm)⟩, fun v hv => ?_, fun q hv => ?_⟩
  · subst hv
    obtain ⟨c₂, i₂, len₂, hc₂, hd₂, hf₂⟩ := hend
    have hcc : c₂ = c := by
      have h9 : t.code? g.method = U.code? g.method := by rw [State.code?_eq, State.code?_eq, hW'.alike.method?]
      exact Option.some.inj (hc₂.symm.trans (h9.trans h.code))
    subst hcc
    have hlen : len₂ = len := by rw [hdg] at hd₂; cases hd₂; rfl
    subst hlen
    have hst : t = (({ U with heap := t.heap, slotsUsed := t.slotsUsed } : State).setVm t.vm).setTop { g with pc := g.pc + len₂, stack := v.toList ++ g.stack } := by
      refine e3.trans ?_
      rw [hf₂, State.calling_eq h.top, State.setFrames_setFrames, State.setTop_of_frames _ hr', hr]
      rfl
    rw [← hst]
    exact hsteps
  · subst hv
    have hf₂ : t.frames = .throwing q :: .java g :: U.frames.tail := hend
    have hst : t = ((({ U with heap := t.heap, slotsUsed := t.slotsUsed } : State).setVm t.vm).setTop g).pushFrame (.throwing q) := by
      refine e3.trans ?_
      rw [hf₂, State.calling_eq h.top, State.setFrames_setFrames, State.pushFrame, State.frames_setTop _ hr', State.setTop_of_frames _ hr', State.setFrames_setFrames, hr]
      rfl
    rw [← hst]
    exact hsteps
/-- an exception of class E is under way in this frame -/
def GT {ρ : Type} (Γ : GX) (mk : ρ → Rs) (cells slots pc : Nat) (L : List (Nat × Value)) (st : List Value) (E : String) (σ : Sg) (o : Option ρ) : Prop := match Γ with
  | (p, l, e, R, s, m, args, below, meth, c, D, dA, Hl, ν0, N0, Qr) => ∀ r, o = some r → ∀ (ν : Nat → Nat) (H : Heap) (ls : Array Slot) (locs : List Loc) (q : Nat) (ce : Cell), ext ν0 N0 ν → N0 ≤ σ.1 → Wd D dA Hl.size ν σ H → va_S (fun q => Hl.size ≤ q) Hl H locs → okL σ.1 L → lv_has ls c.maxLocals (trL ν L) → H[q]? = some ce → ce.vm = .none → s.vm.findClass E = some ce.cls →
    ∀ T : State, T.heap = H → Stand p l e R s m args below meth c T locs cells slots → ∃ t, Steps p.tables e below ((T.setTop (F0 m pc ls (st.map (tr ν)))).pushFrame (.throwing q)) t ∧ Qr (mk r) t
def GRs {ρ : Type} (Γ : GX) (mk : ρ → Rs) (cells slots pc len : Nat) (L : List (Nat × Value)) (st : List Value) (r : Rs) (o : Option ρ) : Prop := match r.1 with
  | .inl v => G Γ mk cells slots (pc + len) L (v.toList ++ st) r.2 o
  | .inr E => GT Γ mk cells slots pc L st E r.2 o
theorem sum_tr {ν : Nat → Nat} {st : List Value} : ((st.map (tr ν)).map fun v => v.category).sum = (st.map fun v => v.category).sum := by
  rw [List.map_map]
  congr 1
  exact List.map_congr_left fun v _ => tr_cat ν v
section GC2
variable {Γ : GX} {own : String} {cc : ByteArray} {nL : Nat} {rm : Room} {cells slots pc : Nat} {L : List (Nat × Value)} {st st0 : List Value} {σ : Sg}
variable {ρ : Type} {mk : ρ → Rs} {ρc : Type} {fo : Option ρc} {mkc : ρc → Rs} {o' : ρc → Option ρ} {idx maxL : Nat} {y : MethodName} {cw : Cond} {bytes : ByteArray} {ret : Option FieldType} {hh : List (Nat × Nat × Nat × Nat)} {rmc : Room} {vs : List Value}
/-- what a call asks of rooms and words -/
def CR (rm rmc : Room) (cells slots maxL : Nat) : Prop := rmc.frames + 1 ≤ rm.frames ∧ 8 + (maxL + 11) + rmc.locals ≤ rm.locals ∧ cells + rmc.cells ≤ rm.cells ∧ slots + rmc.slots ≤ rm.slots
def CN (y : MethodName) (cw : Cond) (bytes : ByteArray) (maxL : Nat) (ret : Option FieldType) (hh : List (Nat × Nat × Nat × Nat)) (n : Nat) : Prop := CW y cw bytes maxL ret hh ∧ cw ∈ TB ∧ Cond.initialized y.cls ∈ TB ∧ (y.cls ≠ "java/lang/invoke/MethodHandle" ∧ y.cls ≠ "java/lang/invoke/VarHandle") ∧ (parseMethodDescriptor y.desc).map (fun d => d.parameters.length) = some n
theorem TB_at {args a' : Array Value} {s U : State} (hW : s.WarmedH U.vm) {w : Cond} (hw : w ∈ TB) (h : w.before args s = true) : w.before a' U = true := word_at hW (good_of_word (TB_good w hw)) h
/-- behind the instruction: the callee runs, the caller goes on or has an exception -/
theorem x_fin {p : Program} {l : Launch} {e : Env} {R : Room} {s : State} {m : MethodId} {args : Array Value} {below : List Frame} {meth : Method} {c : Code} {D : va_G} {dA : Nat → ClassId} {Hl : Heap} {ν0 : Nat → Nat} {N0 : Nat} {Qr : Rs → State → Prop} {n : Nat}
    (hN : CN y cw bytes maxL ret hh n) (hC : ∀ l : Launch, l.stackTraces = false → ∀ r, fo = some r → Con l y cw rmc vs σ (mkc r)) (hts : ∀ w ∈ TB, w.before args s = true) (hX : Fx D dA Hl s) (htr : l.stackTraces = false) (hCR : CR R rmc cells slots maxL)
    (k : ∀ r, fo = some r → GRs (p, l, e, R, s, m, args, below, meth, c, D, dA, Hl, ν0, N0, Qr) mk (cells + rmc.cells) (slots + rmc.slots) pc 3 L st (mkc r) (o' r)) (hst : (st.map fun v => v.category).sum ≤ 8)
    {r : ρ} (hr : fo.bind o' = some r) {ν : Nat → Nat} {H : Heap} {ls : Array Slot} {locs : List Loc} (a1 : ext ν0 N0 ν) (a2 : N0 ≤ σ.1) (a3 : Wd D dA Hl.size ν σ H) (a4 : va_S (fun q => Hl.size ≤ q) Hl H locs) (a5 : okL σ.1 L) (a6 : oks σ.1 st) (av : oks σ.1 vs) (a7 : lv_has ls c.maxLocals (trL ν L))
    {T : State} (hT : T.heap = H) {vm' : Vm} (X₁ : Stand p l e R s m args below meth c (T.setVm vm') locs cells slots) {ig : Instr} (hdg : decode c.code pc = .ok (ig, 3)) {mkY : MethodId} (hn : s.methodNamed? y = some mkY) {S0 : State}
    (hstep : ∀ target, Steps p.tables e below (doInvoke e ((T.setVm vm').setTop (F0 m pc ls (st.map (tr ν)))) [] mkY (vs.map (tr ν)).toArray).1 target → Steps p.tables e below S0 target) :
    ∃ t, Steps p.tables e below S0 t ∧ Qr (mk r) t := by
  obtain ⟨hcw, hin, hini, hmh, hpar⟩ := hN
  cases hfo : fo with
  | none => rw [hfo] at hr; cases hr
  | some z =>
    rw [hfo] at hr
    have hr : o' z = some r := hr
    have hW0 := X₁.warmed
    obtain ⟨m9, methY, cY, hn9, hmY, hcY, -, hlY, -, -, -, -⟩ := hcw.spec (args := args) (s := T.setVm vm') (TB_at hW0 hin (hts _ hin))
    cases (X₁.named hn).symm.trans hn9
    obtain ⟨z1, z2, z3, z4⟩ := hCR
    obtain ⟨o9, t, hq, hrest⟩ := x_run X₁ (g := F0 m pc ls (st.map (tr ν))) rfl a7.1 hdg (lv_room (m := m) (pc := pc) (ls := ls) (rest := st.map (tr ν)) (by rw [sum_tr]; exact hst)) hn9 (a := (vs.map (tr ν)).toArray) (hC l htr z hfo D dA Hl ν)
      ⟨rfl, av, by show Wd D dA Hl.size ν σ T.heap; rw [hT]; exact a3, ⟨by show Hl.size ≤ T.heap.size; rw [hT]; exact a4.1, by show ∀ q : Nat, q < Hl.size → ¬ Hl.size ≤ q → T.heap[q]? = Hl[q]?; rw [hT]; exact a4.2.1, fun _ h => nomatch h⟩, hX.warm hW0⟩
      (fun w hw => (List.mem_cons.mp hw).elim (fun e => by rw [e]; exact TB_at hW0 hin (hts _ hin)) (fun h => TB_at hW0 h (hts _ h))) hmY hcY hlY (TB_at hW0 hini (hts _ hini)) z1 z2 z3 z4
    obtain ⟨ν1, Lc, q1, q2, q3, q4, q5, q6, q7⟩ := hq
    obtain ⟨T', e1, e2, X', hret, hthr⟩ := hrest Lc q5 q6
    have hSs : va_S (fun q => Hl.size ≤ q) Hl T'.heap (locs ++ Lc) := ⟨by rw [e1]; exact q4.1, by rw [e1]; exact q4.2.1, fun l9 hl => (List.mem_append.mp hl).elim (a4.2.2 l9) (q4.2.2 l9)⟩
    have kz := k z hfo
    unfold GRs at kz
    rcases q7 with ⟨v, v1, v2, v3⟩ | ⟨E, q, ce, v1, v2, v3, v4, v5⟩
    · rw [v1] at kz
      obtain ⟨t2, s2, hQ⟩ := kz r hr ν1 T'.heap ls (locs ++ Lc) (ext_trans a2 a1 q1) (Nat.le_trans a2 q2) (by rw [e1]; exact q3) hSs (okL_mono q2 a5) (oks_app (fun w hw => v3 w (by cases v with | none => cases hw | some u => rw [List.mem_singleton.mp hw])) (oks_mono q2 a6)) (by rw [ext_trL q1 a5]; exact a7) T' rfl X'
      refine ⟨t2, hstep _ ((hret _ v2).trans ?_), hQ⟩
      have e4 : (v.toList ++ st).map (tr ν1) = (v.map (tr ν1)).toList ++ st.map (tr ν) := by
        rw [List.map_append, ext_map q1 a6]
        cases v <;> rfl
      rw [e4] at s2
      exact s2
    · rw [v1] at kz
      obtain ⟨t2, s2, hQ⟩ := kz r hr ν1 T'.heap ls (locs ++ Lc) q ce (ext_trans a2 a1 q1) (Nat.le_trans a2 q2) (by rw [e1]; exact q3) hSs (okL_mono q2 a5) (by rw [ext_trL q1 a5]; exact a7) (by rw [e1]; exact v3) v4 (by
        have v6 : (T.setVm vm').vm.findClass E = some ce.cls := v5
        rw [hW0.alike.findClass] at v6
        exact v6) T' rfl X'
      refine ⟨t2, hstep _ ((hthr _ v2).trans ?_), hQ⟩
      rw [ext_map q1 a6] at s2
      exact s2
theorem g_callS (K : Cx Γ own cc nL rm) {n : Nat} (hN : CN y cw bytes maxL ret hh n) (hC : ∀ l : Launch, l.stackTraces = false → ∀ r, fo = some r → Con l y cw rmc vs σ (mkc r)) (hlink : Cond.methodLink own idx y ∈ TB) (hstat : Cond.static y ∈ TB) (hCR : CR rm rmc cells slots maxL) (d : decode cc pc = .ok (.invokestatic idx, 3)) (hn : vs.length = n) (hs : vs.reverse ++ st = st0) (hst : (st.map fun v => v.category).sum ≤ 8)
    (k : ∀ r, fo = some r → GRs Γ mk (cells + rmc.cells) (slots + rmc.slots) pc 3 L st (mkc r) (o' r)) : G Γ mk cells slots pc L st0 σ (fo.bind o') := by
  subst hs
  obtain ⟨p, l, e, R, s, m, args, below, meth, c, D, dA, Hl, ν0, N0, Qr⟩ := Γ
  obtain ⟨hx, hb, hml, hown, hts, hX, hlk, htr, hR⟩ := K
  intro r hr ν H ls locs a1 a2 a3 a4 a5 a6 a7
  subst hR
  intro T hT X
  have hcw := hN.1
  have hmh := hN.2.2.2.1
  obtain ⟨mkY, methY, cY, hnY, hmY, hcY, -, -, -, -, -, hsig⟩ := hcw.spec (hts _ hN.2.1)
  have hstatic : methY.isStatic = true := Cond.static_spec hnY hmY (hts _ hstat)
  obtain ⟨kP, hkP, -⟩ := className_of_methodNamed hnY
  have hinitP : kP.init = .initialized := Cond.initialized_spec (findClass_of_methodNamed hnY) hkP (hts _ hN.2.2.1)
  have hpar : (vs.map (tr ν)).length = methY.sig.parameters.length := by
    have h9 := hN.2.2.2.2
    rw [hsig] at h9
    rw [List.length_map, hn]
    exact (Option.some.inj h9).symm
  obtain ⟨vm₁, X₁, hstep⟩ := X.invokestatic hx hown (hts _ hlink) hnY hmY hstatic hkP hinitP hmh (g := F0 m pc ls ((vs.reverse ++ st).map (tr ν))) rfl (argsL := vs.map (tr ν)) (rest := st.map (tr ν)) hpar (by show (vs.reverse ++ st).map (tr ν) = _; rw [List.map_append, List.map_reverse]) (by rw [hb]; exact d)
  exact x_fin hN hC hts hX htr hCR k hst hr a1 a2 a3 a4 a5 (oks_right a6) (fun v hv => oks_left a6 v (List.mem_reverse.mpr hv)) a7 hT X₁ (by rw [hb]; exact d) hnY (fun target h => hstep _ fun acts => by rw [doInvoke_state]; exact h)
theorem g_callV (K : Cx Γ own cc nL rm) {n ci N a : Nat} {C : String} {T9 : u_T} (hcl : vwCl[ci]? = some (C, T9, N)) (h10 : ci < 10) (hN : CN y cw bytes maxL ret hh n) (hC : ∀ l : Launch, l.stackTraces = false → ∀ r, fo = some r → Con l y cw rmc (.ref a :: vs) σ (mkc r)) (hlink : Cond.methodLink own idx y ∈ TB) (hinst : Cond.instanceMethod y ∈ TB) (hsel : Cond.selects C y y ∈ TB) (hCR : CR rm rmc cells slots maxL) (d : decode cc pc = .ok (.invokevirtual idx, 3)) (hn : vs.length = n) (hs : vs.reverse ++ .ref a :: st = st0) (hst : (st.map fun v => v.category).sum ≤ 8)
    (k : ∀ r, fo = some r → GRs Γ mk (cells + rmc.cells) (slots + rmc.slots) pc 3 L st (mkc r) (o' r)) : G Γ mk cells slots pc L st0 σ (if a < σ.1 ∧ kd a = ci then fo.bind o' else none) := by
  refine g_if fun hc => ?_
  subst hs
  obtain ⟨p, l, e, R, s, m, args, below, meth, c, D, dA, Hl, ν0, N0, Qr⟩ := Γ
  obtain ⟨hx, hb, hml, hown, hts, hX, hlk, htr, hR⟩ := K
  intro r hr ν H ls locs a1 a2 a3 a4 a5 a6 a7
  subst hR
  intro T hT X
  have hcw := hN.1
  have hmh := hN.2.2.2.1
  have he : (wl ν dA σ)[a]? = some (ν a, .inr (ci, (List.range (nf ci)).map (fl ν σ a))) := by rw [wl_at hc.1, en_o hc.2 h10]
  obtain ⟨cellB, hcell, hobj, hcls⟩ := va_recv hX.1 a3.1 hcl he
  obtain ⟨mkY, methY, hnY, hmY, hstM, habM⟩ := Cond.instanceMethod_spec (hts _ hinst)
  obtain ⟨mk9, meth9, cY, hn9, hm9, hcY, -, -, -, -, -, hsig⟩ := hcw.spec (hts _ hN.2.1)
  cases hnY.symm.trans hn9
  cases hmY.symm.trans hm9
  obtain ⟨c2, r2, m2, q1, q2, q3, q4, kP, hkP, hkPi⟩ := Cond.selects_spec (hts _ hsel)
  cases hcls.symm.trans q1
  cases (State.methodFound?_of_named hnY hmh).symm.trans q2
  cases hnY.symm.trans q3
  have hselP : selectMethod e.platform s.vm cellB.cls mkY = .method mkY := by rw [Launch.admits_selectMethod X.admits]; exact q4
  have hpar : (vs.map (tr ν)).length = methY.sig.parameters.length := by
    have h9 := hN.2.2.2.2
    rw [hsig] at h9
    rw [List.length_map, hn]
    exact (Option.some.inj h9).symm
  obtain ⟨vm₁, X₁, hstep⟩ := X.invokevirtual hx hown (hts _ hlink) hnY hmY hstM hkP hkPi hmh (a := ν a) (cell := cellB) (by rw [hT]; exact hcell)
    (fun z h => by rw [h] at hobj; cases hobj) hselP hmY habM hkP hkPi (g := F0 m pc ls ((vs.reverse ++ .ref a :: st).map (tr ν))) rfl (argsL := vs.map (tr ν)) (rest := st.map (tr ν)) hpar (by show (vs.reverse ++ .ref a :: st).map (tr ν) = _; rw [List.map_append, List.map_reverse]; rfl) (by rw [hb]; exact d)
  exact x_fin hN hC hts hX htr hCR k hst hr a1 a2 a3 a4 a5 (oks_tail (oks_right a6)) (oks_cons (oks_head (oks_right a6)) (fun v hv => oks_left a6 v (List.mem_reverse.mpr hv))) a7 hT X₁ (by rw [hb]; exact d) hnY (fun target h => hstep _ fun acts => by rw [doInvoke_state]; exact h)
theorem g_callI (K : Cx Γ own cc nL rm) {n a : Nat} (hN : CN y (.code y bytes maxL none) bytes maxL none [] n) (hname : y.name = "<init>") (hC : ∀ l : Launch, l.stackTraces = false → ∀ r, fo = some r → Con l y (.code y bytes maxL none) rmc (.ref a :: vs) σ (mkc r)) (hlink : Cond.methodLink own idx y ∈ TB) (hinst : Cond.instanceMethod y ∈ TB) (hCR : CR rm rmc cells slots maxL) (d : decode cc pc = .ok (.invokespecial idx, 3)) (hn : vs.length = n) (hs : vs.reverse ++ .ref a :: st = st0) (hst : (st.map fun v => v.category).sum ≤ 8)
    (k : ∀ r, fo = some r → GRs Γ mk (cells + rmc.cells) (slots + rmc.slots) pc 3 L st (mkc r) (o' r)) : G Γ mk cells slots pc L st0 σ (fo.bind o') := by
  subst hs
  obtain ⟨p, l, e, R, s, m, args, below, meth, c, D, dA, Hl, ν0, N0, Qr⟩ := Γ
  obtain ⟨hx, hb, hml, hown, hts, hX, hlk, htr, hR⟩ := K
  intro r hr ν H ls locs a1 a2 a3 a4 a5 a6 a7
  subst hR
  intro T hT X
  have hmh := hN.2.2.2.1
  have hpl : e.platform.magicAccessors = ({} : Platform).magicAccessors := by rw [X.admits.platform]
  obtain ⟨mkY, methY, cY, kP, vm₁, hnY, hmY, hcY, -, -, -, hkP, -, hW₁, hstep⟩ := Steps.initColdArgs (e := e) X.here hx X.warmed hpl hown hname hmh (hts _ hlink) (hts _ hinst) (hts _ hN.2.1) (f := F0 m pc ls ((vs.reverse ++ .ref a :: st).map (tr ν))) rfl (a := ν a) (argsL := vs.map (tr ν)) (rest := st.map (tr ν)) (fun sig h => by
    have h9 := hN.2.2.2.2
    rw [h] at h9
    rw [List.length_map, hn]
    exact (Option.some.inj h9).symm) (by show (vs.reverse ++ .ref a :: st).map (tr ν) = _; rw [List.map_append, List.map_reverse]; rfl) (by rw [hb]; exact d)
  exact x_fin hN hC hts hX htr hCR k hst hr a1 a2 a3 a4 a5 (oks_tail (oks_right a6)) (oks_cons (oks_head (oks_right a6)) (fun v hv => oks_left a6 v (List.mem_reverse.mpr hv))) a7 hT (X.noted hW₁) (by rw [hb]; exact d) hnY (fun target h => hstep _ fun acts => by rw [doInvoke_state]; exact h)
end GC2
