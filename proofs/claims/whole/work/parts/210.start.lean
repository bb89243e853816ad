/-! THE CLAIM OUT OF ONE WALK OF THE LAW'S BODY. Your part is whole_start (and what it stands on); all else here is the same for every law, but numbers. -/
def R_law : String := "TapirGroupLaw"
def lw_P (b : Addr) (xs : List Int32) (args : Array Value) (s : State) : Prop := args = #[.ref b] ∧ s.IntsAt b xs ∧ xs.length ≤ 2048 ∧ (Jvm.Cond.and given_1 narrow_1).before args s = true
def lw_Q (_ : Array Value) (s : State) (o : Outcome) (t : State) : Prop := o = .returned (some (.int 1)) ∧ Framed s o t [] 601024 7293034
def lw_Z (below : List Frame) (a : Array Value) (s : State) : State → Prop := fun t => ∃ o, t.status = .running ∧ Ended t below o ∧ lw_Q a s o t
/-- the law's own end, with 1 on the stack, nothing written that was there before, its room as the claim has it -/
theorem lw_ret {p : Program} {l : Launch} {e : Env} {s : State} {m : MethodId} {below : List Frame} {meth : Method} {c : Code} {b : Nat} (hx : p.tables.exec = Jvm.exec) (hb : c.code = code) (hr : meth.sig.returnType = ret) (hlocks : meth.locks = false) {pc : Nat} {H : Heap} {ls : Array Slot} (hdg : decode code pc = .ok (.ireturn, 1)) : W p l e room_1 s m #[Value.ref b] below meth c H [] 601024 7293034 (lw_Z below #[Value.ref b] s) (F0 m pc ls [.int 1]) := by
  intro T hT X
  obtain ⟨fs, hret, hrun, hended, hW, hframe⟩ := X.leave (v := some (.int 1)) (hlocks := hlocks) (fun h => by rw [hr] at h; cases h)
  have hmeth' : T.vm.method? m = some meth := X.method'
  refine ⟨T.setFrames fs, ?_, .returned (some (.int 1)), hrun, hended, rfl, ⟨_, rfl⟩, hW, hframe⟩
  jvm_step X.here [X.here.top, hx, hb, hdg, hmeth', hr, ret, narrow_b1]
  (try refine ⟨rfl, ?_⟩); (try refine ⟨rfl, ?_⟩)
  first | (intro acts; rw [hret _ acts rfl rfl rfl]) | rw [hret _ _ rfl rfl rfl]
  exact Steps.refl _
/-- what holds at the law's entry: the machine, the code, the tables' words (any of lw_tbl by 'hts w (by decide +kernel)'), the script of L ints xs at the cell b, what the Statement gives of the start (any of its parts by flat_of_before) -/
def lw_At (p : Program) (s : State) (m : MethodId) (meth : Method) (c : Code) (b L : Nat) (xs : Nat → Int32) : Prop :=
  p.tables.exec = Jvm.exec ∧ c.code = code ∧ meth.sig.returnType = ret ∧ c.maxLocals = 7 ∧ s.vm.findClass R_law = some m.cls ∧ (∀ w ∈ lw_tbl, w.before #[Value.ref b] s = true) ∧ va_X b L xs s s.heap ∧ b < s.heap.size ∧ meth.locks = false ∧ (Jvm.Cond.and given_1 narrow_1).before #[Value.ref b] s = true
theorem st_str {args : Array Value} {s : State} {own tx : String} {k : Nat} (h1 : (Cond.stringRef own k tx).before args s = true) (h2 : (Cond.exactly (.string own k) "java/lang/String").before args s = true) : ∃ a, vk_R own k tx a s := by
  cases hv : (Term.string own k).eval args s none [] s with
  | none => simp [Cond.before, Cond.holds, Cond.value, hv] at h2
  | some w =>
    cases w with
    | ref a => exact ⟨a, vk_R.of h1 hv⟩
    | _ =>
      simp only [Cond.before, Cond.holds, Cond.value, hv] at h2
      cases hc : s.vm.findClass "java/lang/String" <;> simp [hc] at h2
theorem st_w1 : ∀ q ∈ strs, Cond.stringRef q.1 q.2.1 q.2.2 ∈ lw_tbl := by decide +kernel
theorem st_w2 : ∀ q ∈ strs, Cond.exactly (.string q.1 q.2.1) "java/lang/String" ∈ flatC (Jvm.Cond.and given_1 narrow_1) := by decide +kernel
theorem st_w3 : ∀ q ∈ ncs, Cond.not (.castable q.1 q.2) ∈ flatC (Jvm.Cond.and given_1 narrow_1) := by decide +kernel
theorem st_w4 : ∀ q ∈ dcl, Cond.declares q ∈ lw_tbl := by decide +kernel
theorem st_w5 : ∀ q ∈ exs, Cond.castable q q ∈ lw_tbl := by decide +kernel
theorem st_w6 : ∀ q ∈ aov, Cond.arrayOver (.object q) ∈ lw_tbl := by decide +kernel
theorem st_w7 : Cond.isRef (.static "java/lang/Throwable" "UNASSIGNED_STACK" stD) ∈ flatC (Jvm.Cond.and given_1 narrow_1) ∧ Cond.isRef (.static "java/lang/Throwable" "SUPPRESSED_SENTINEL" liD) ∈ flatC (Jvm.Cond.and given_1 narrow_1) := by decide +kernel
theorem st_w8 : Cond.laysStatic "java/lang/Throwable" "UNASSIGNED_STACK" stD ∈ lw_tbl ∧ Cond.laysStatic "java/lang/Throwable" "SUPPRESSED_SENTINEL" liD ∈ lw_tbl ∧ Cond.initialized "java/lang/Throwable" ∈ lw_tbl := by decide +kernel
theorem st_ZS {args : Array Value} {s : State} {n d : String} (hl : (Cond.laysStatic "java/lang/Throwable" n d).before args s = true) (hi : (Cond.initialized "java/lang/Throwable").before args s = true) (hr : (Cond.isRef (.static "java/lang/Throwable" n d)).before args s = true) : ZS n d s.heap s := by
  obtain ⟨c, k, i, f, a, cell, h1, h2, h3, h4, h5, h6, h7, h8, h9⟩ := Cond.laysStatic_spec hl
  have hk : s.vm.classes[c]? = some k := State.fieldFound?_class h2
  have hv : cell.slots[f.slot]? = some cell.slots[f.slot] := Array.getElem?_eq_getElem h8
  have he : (Term.static "java/lang/Throwable" n d).eval args s none [] s = some cell.slots[f.slot] := by
    simp [Term.eval, State.fieldNamed?, h2, h3, h4, h5, h6, hv]
  refine ⟨c, k, i, f, a, cell, _, h1, h2, h3, Cond.initialized_spec h1 hk hi, h4, h5, h6, h7, h8, h9, hv, ?_⟩
  simp only [Cond.before, Cond.holds, Cond.value, he] at hr
  cases hw : cell.slots[f.slot] <;> simp_all [Value.isRef]
theorem st_arr {args : Array Value} {s : State} {ty : FieldType} (h : (Cond.arrayClass ty).before args s = true) (hn : ∀ C, ty ≠ .object C) : ∃ cA, ArrOfT s cA ty ∧ va_RA s cA ty := by
  obtain ⟨c, k, comp, h1, h2, h3⟩ := Cond.arrayClass_spec h
  refine ⟨c, fun n z => ⟨fun k h => (by cases h), k, h2, comp, h3⟩, ?_⟩
  cases ty <;> first | exact h1 | exact absurd rfl (hn _)
theorem st_arq {args : Array Value} {s : State} {C : String} (h : (Cond.arrayOver (.object C)).before args s = true) : ∃ cA, ArrOfT s cA (.object C) ∧ va_RA s cA (.object C) := by
  obtain ⟨comp, c, k, h1, -, h2, h3, h4⟩ := Cond.arrayOver_spec h
  exact ⟨c, fun n z => ⟨fun k h => (by cases h), k, h2, comp, h3⟩, k, comp, h2, h3, h1, h4⟩
theorem st_known {s : State} {args : Array Value} (hts : ∀ w ∈ TB, w.before args s = true) {C : String} {T : u_T} {N n : Nat} (hin : ∀ w ∈ u_ws C T N, w ∈ TB) (hi : Cond.instantiable C n ∈ TB) : ∃ (cC : ClassId) (iS : Nat → Nat), u_Kn s C T N cC iS := u_known hts hin (hts _ hi)
def s_0 : Sg := (0, fun _ _ => 0, fun _ _ => none, fun _ _ => 0)
theorem st_i0 : Cond.instantiable R0 6 ∈ TB := tb_m 103 (by decide +kernel) (by decide +kernel)
theorem st_i1 : Cond.instantiable R1 6 ∈ TB := tb_m 69 (by decide +kernel) (by decide +kernel)
theorem st_i2 : Cond.instantiable R2 7 ∈ TB := tb_m 300 (by decide +kernel) (by decide +kernel)
theorem st_i3 : Cond.instantiable R3 4 ∈ TB := tb_m 56 (by decide +kernel) (by decide +kernel)
theorem st_i4 : Cond.instantiable R4 25 ∈ TB := tb_m 609 (by decide +kernel) (by decide +kernel)
theorem st_a_int : Cond.arrayClass .int ∈ TB := tb_m 102 (by decide +kernel) (by decide +kernel)
theorem st_a_boolean : Cond.arrayClass .boolean ∈ TB := tb_m 690 (by decide +kernel) (by decide +kernel)
theorem st_a_long : Cond.arrayClass .long ∈ TB := tb_m 864 (by decide +kernel) (by decide +kernel)
set_option maxHeartbeats 4000000 in
theorem st_Fx {s : State} {args : Array Value} (hts : ∀ w ∈ lw_tbl, w.before args s = true) (hgv : (Jvm.Cond.and given_1 narrow_1).before args s = true) : ∃ (D : va_G) (dA : Nat → ClassId), Fx D dA s.heap s := by
  have htb : ∀ w ∈ TB, w.before args s = true := fun w hw => hts w (TB_tbl w hw)
  have hfl := flat_of_before _ hgv
  obtain ⟨c0, i0, k0⟩ := st_known htb uw0 st_i0
  obtain ⟨c1, i1, k1⟩ := st_known htb uw1 st_i1
  obtain ⟨c2, i2, k2⟩ := st_known htb uw2 st_i2
  obtain ⟨c3, i3, k3⟩ := st_known htb uw3 st_i3
  obtain ⟨c4, i4, k4⟩ := st_known htb uw4 st_i4
  obtain ⟨a0, x0⟩ := st_arr (htb _ st_a_int) (fun C h => by cases h)
  obtain ⟨a1, x1⟩ := st_arr (htb _ st_a_boolean) (fun C h => by cases h)
  obtain ⟨a2, x2⟩ := st_arr (htb _ st_a_long) (fun C h => by cases h)
  obtain ⟨a3, x3⟩ := st_arq (hts _ (st_w6 _ (by decide +kernel : "TapirGroup$Replica" ∈ aov)))
  obtain ⟨a4, x4⟩ := st_arq (hts _ (st_w6 _ (by decide +kernel : "TapirGroup$Client" ∈ aov)))
  obtain ⟨a5, x5⟩ := st_arq (hts _ (st_w6 _ (by decide +kernel : "TapirGroup$Transaction" ∈ aov)))
  refine ⟨(fun k => match k with | 0 => c0 | 1 => c1 | 2 => c2 | 3 => c3 | _ => c4, fun k => match k with | 0 => i0 | 1 => i1 | 2 => i2 | 3 => i3 | _ => i4), fun k => match k with | 10 => a0 | 11 => a1 | 12 => a2 | 13 => a3 | 14 => a4 | _ => a5, ⟨fun c q hq => ?_, fun k q hq => ?_⟩, ?_, ?_, fun q hq => st_str (hts _ (st_w1 q hq)) (hfl _ (st_w2 q hq)), fun q hq => va_Nc.of (hfl _ (st_w3 q hq)), fun q hq => va_Nw.of rfl (hts _ (st_w4 q hq)), fun q hq => va_Nw.of rfl (hts _ (st_w5 q hq)), fun q hq => va_AO.of (hts _ (st_w6 q hq))⟩
  · match c, hq with
    | 0, hq => cases hq; exact k0
    | 1, hq => cases hq; exact k1
    | 2, hq => cases hq; exact k2
    | 3, hq => cases hq; exact k3
    | 4, hq => cases hq; exact k4
    | n + 5, hq => exact absurd hq (by simp [vwCl])
  · match k, hq with
    | 0, hq => cases hq; exact x0
    | 1, hq => cases hq; exact x1
    | 2, hq => cases hq; exact x2
    | 3, hq => cases hq; exact x3
    | 4, hq => cases hq; exact x4
    | 5, hq => cases hq; exact x5
    | n + 6, hq => exact absurd hq (by simp [tyL])
  · exact st_ZS (hts _ st_w8.1) (hts _ st_w8.2.2) (hfl _ st_w7.1)
  · exact st_ZS (hts _ st_w8.2.1) (hts _ st_w8.2.2) (hfl _ st_w7.2)
set_option maxHeartbeats 4000000 in
theorem whole_start {p : Program} {e : Env} {s : State} {m : MethodId} {below : List Frame} {meth : Method} {c : Code} (l : Launch) (hl : l.stackTraces = false) {b L : Nat} {xs : Nat → Int32} (hP : ∃ σ', f_L_law L xs s_0 = some (1, σ')) (C0 : lw_At p s m meth c b L xs) : W p l e room_1 s m #[Value.ref b] below meth c s.heap [] 0 0 (lw_Z below #[Value.ref b] s) (entryFrame m ([Value.ref b] : List Value).toArray 7) := by
  obtain ⟨hx, hb, hr, hml, hown, hts, hX, hbl, hlk, hgv⟩ := C0
  obtain ⟨σ', hf⟩ := hP
  obtain ⟨D, dA, hF⟩ := st_Fx hts hgv
  have hg := g_L_law (Γ := (p, l, e, room_1, s, m, #[Value.ref b], below, meth, c, D, dA, s.heap, fun _ => b, 0, fun r t => ∃ x : Int32, r.1 = .inl (some (.int x)) ∧ ∃ o, t.status = .running ∧ Ended t below o ∧ o = .returned (some (.int x)) ∧ Framed s o t [] 601024 7293034)) (Ns := L) (xs := xs)
    ⟨hx, hb, hml, hown, fun w hw => hts w (TB_tbl w hw), hF, hlk, hl, rfl⟩ ⟨hr, rfl, rfl⟩ ⟨hX, hbl⟩ s_0
  have hlv := lv_entry ([Value.ref b] : List Value) (n := 7) (Nat.le_of_ble_eq_true rfl)
  rw [lg_entry_eq]
  have hw := hg _ hf (fun _ => b) s.heap _ [] ext_refl (Nat.le_refl _) ⟨fun k q hk => absurd hk (by simp [wl, s_0]), ⟨fun i j p q hi => absurd hi (by simp [wl, s_0]), fun k q hk => absurd hk (by simp [wl, s_0])⟩, fun a k b ha => absurd ha (Nat.not_lt_zero _), Nat.zero_le _⟩ ⟨Nat.le_refl _, fun q _ _ => rfl, fun l h => nomatch h⟩ (fun q hq => by
      rw [List.mem_singleton.mp hq]
      exact ⟨Or.inr rfl, rfl⟩) oks_nil (by rw [hml]; exact hlv)
  intro T hT X
  obtain ⟨t, q1, x9, q2, o9, q3, q4, q5, q6⟩ := hw T hT X
  cases q2
  exact ⟨t, q1, o9, q3, q4, q5, q6⟩
set_option maxHeartbeats 4000000 in
theorem lw_walk (hPure : ∀ (N : Nat) (xs : Nat → Int32), N ≤ 2048 → ∃ σ', f_L_law N xs s_0 = some (1, σ')) (l : Launch) (hl : l.stackTraces = false) (b : Addr) (xs : List Int32) : MetFree l x (headSpec (Jvm.Cond.code x code maxLocals ret :: tables_1) room_1) (lw_P b xs) (fun _ _ _ _ _ => True) lw_Q := by
  refine MetFree.of_bodyS (code := code) (maxLocals := maxLocals) (ret := ret) (by decide) ?_ ?_
  · intro args s m h hn
    obtain ⟨meth, c, h1, h2, h3, h4, h5, h6, -, -⟩ := Cond.code_spec hn (atoms_spec (ws := Jvm.Cond.code x code maxLocals ret :: tables_1) h _ List.mem_cons_self)
    exact ⟨meth, c, h1, h2, h3, h4, h5, h6⟩
  · intro p e s m args below meth c s₁ B hml0 hP _
    obtain ⟨rfl, hx, hbd, hgv⟩ := hP
    obtain ⟨scr, harrAt, hlist, hof, hsmall⟩ := hx
    obtain ⟨hcb, hkn, -, -⟩ := State.arrayAt?_spec harrAt
    have hown : s.vm.findClass R_law = some m.cls := findClass_of_methodNamed B.named
    have hts0 : ∀ c ∈ (Jvm.Cond.code x code maxLocals ret :: tables_1), c.before #[Value.ref b] s = true := atoms_spec (ws := Jvm.Cond.code x code maxLocals ret :: tables_1) B.pre
    have hts : ∀ w ∈ lw_tbl, w.before #[Value.ref b] s = true := k2_hts_sels lw_privs (fun w hw => hts0 w (List.mem_cons_of_mem _ hw)) lw_privs_ok
    have hml : c.maxLocals = 7 := B.maxLocals_eq (hts0 _ List.mem_cons_self)
    have X₀ : Stand p l e room_1 s m #[Value.ref b] below meth c s₁ [] 0 0 := Stand.of_body B
    have hh0 : s₁.heap = s.heap := by rw [B.state]; rfl
    have hsz : scr.slots.size = xs.length := by rw [← Array.length_toList, hlist, List.length_map]
    have hval : ∀ j : Nat, j < xs.length → scr.slots[j]? = some (.int (xs.getD j 0)) := fun j hj => by
      rw [← Array.getElem?_toList, hlist]
      simp [hj]
    have hbl : b < s.heap.size := (Array.getElem?_eq_some_iff.mp hcb).1
    have hX : va_X b xs.length (fun j => xs.getD j 0) s s.heap := ⟨scr, hcb, hof, hkn, hsz, hval⟩
    have K : W p l e room_1 s m #[Value.ref b] below meth c s₁.heap [] 0 0 (lw_Z below #[Value.ref b] s) (entryFrame m ([Value.ref b] : List Value).toArray 7) := by
      rw [hh0]
      exact whole_start l hl (hPure _ _ hbd) ⟨B.exec, B.bytes, B.returns, hml, hown, hts, hX, hbl, B.notSynchronized, hgv⟩
    obtain ⟨t, a1, o, b1, b2, b3⟩ := K s₁ rfl X₀
    exact ⟨t, o, a1, b1, b2, b3⟩
theorem lw_pre_spec {args : Array Value} {s : State} (h : (Jvm.Cond.and given_1 narrow_1).before args s = true) (hr : rest_1_c.before args s = true) : ∃ (b : Addr) (xs : List Int32), lw_P b xs args s := by
  have hs := flat_of_before _ h
  have hq := flat_of_before _ hr
  have hc : (Cond.count 1).before args s = true := hs _ (by decide +kernel)
  have harr : (Cond.arrayOf (.arg 0) .int).before args s = true := hs _ (by decide +kernel)
  have hle : (Cond.le (.length (.arg 0)) (.int 2048)).before args s = true := hs _ (by decide +kernel)
  have hlen : (Cond.isInt (.length (.arg 0))).before args s = true := hq _ (by decide +kernel)
  have hall : (Cond.all (.arg 0) (.isInt (.elem (.arg 0) (.index 0)))).before args s = true := hq _ (by decide +kernel)
  obtain ⟨b, xs, hb, hx⟩ := State.ints_of_pre rfl harr hlen hall
  have hsm : xs.length < 2 ^ 31 := hx.choose_spec.2.2.2
  have hev : (Term.length (.arg 0)).eval args s none [] s = some (.int xs.length.toInt32) := hx.length_eval hb
  have hv := Cond.le_ints hev (show (Term.int 2048).eval args s none [] s = some (.int 2048) from rfl)
  have hd : xs.length.toInt32 ≤ 2048 := by
    simpa [Cond.before, Cond.holds, hv] using hle
  have hN : xs.length ≤ 2048 := (Int32.ofNat_le_ofNat hsm (by decide)).mp (show Int32.ofNat xs.length ≤ Int32.ofNat 2048 from hd)
  exact ⟨b, xs, Cond.one_arg hc (show args[0]? = some (.ref b) from hb), hx, hN, h⟩
theorem lw_comes (hPure : ∀ (N : Nat) (xs : Nat → Int32), N ≤ 2048 → ∃ σ', f_L_law N xs s_0 = some (1, σ')) (l : Launch) (hl : l.stackTraces = false) : Comes l x (Jvm.Cond.code x code maxLocals ret :: tables_1) room_1 (fun tb e args s => Calls_1 tb e args s ∧ rest_1 tb e args s ∧ Pre_1 tb e args s)
    (fun _ _ args s o t => lw_Q args s o t) := by
  intro p e ha hc hk s m args below hf hfit hheap happ hpre
  obtain ⟨b, xs, hP⟩ := lw_pre_spec hpre.2.2 hpre.2.1
  obtain ⟨k, o, h1, h2, h3, hQ⟩ := lw_walk hPure l hl b xs p e ha hc hk s m args below hf ((Spec.applies_iff_loose hf).mp happ).1 hP trivial
  exact ⟨k, o, h1, h2, h3, hQ⟩
theorem lw_frame {s t : State} {o : Outcome} {args : Array Value} (h : Framed s o t [] 601024 7293034) :
    Framed s o t (fieldLocs frame_1_writes args s ++ arrayLocs frame_1_arrays args s ++ staticLocs frame_1_statics s) 601024 7293034 := h
theorem lw_limb (hPure : ∀ (N : Nat) (xs : Nat → Int32), N ≤ 2048 → ∃ σ', f_L_law N xs s_0 = some (1, σ')) (L : Cond) (hL : ∀ (args : Array Value) (s t : State), L.after args s (.returned (some (.int 1))) t = true) :
    ArmFor flags0 classFile x code maxLocals ret World_1 tables_1 room_1 Calls_1 rest_1 Pre_1
      (fun tb e a s o t => postC L tb e a s o t ∧ Framed s o t (fieldLocs frame_1_writes a s ++ arrayLocs frame_1_arrays a s ++ staticLocs frame_1_statics s) 601024 7293034) := by
  intro l hfl _ _ p e ha hc hk s m args below hf hfit hheap happ hpre
  have hl : l.stackTraces = false := by
    unfold Launch.stackTraces
    rw [hfl]
    decide +kernel
  obtain ⟨k, o, h1, h2, h3, rfl, hF⟩ := lw_comes hPure l hl p e ha hc hk s m args below hf hfit hheap happ hpre
  exact ⟨k, _, h1, h2, h3, hL args s _, lw_frame hF⟩
theorem whole_of (hPure : ∀ (N : Nat) (xs : Nat → Int32), N ≤ 2048 → ∃ σ', f_L_law N xs s_0 = some (1, σ')) : Claimed_1_1 ∧ Claimed_1_2 := ⟨lw_limb hPure limb_1_1 (fun args s t => by simp [limb_1_1, Cond.after, Cond.holds, Cond.value]), lw_limb hPure limb_1_2 (fun args s t => Cond.after_iff.mpr (by
  first | (rw [show limb_1_2 = Cond.eq .result (.int 1) from rfl, Cond.eq_ints (x := 1) (y := 1) rfl rfl]; simp; done) | (simp [limb_1_2, Cond.value, Term.eval]; done)))⟩
