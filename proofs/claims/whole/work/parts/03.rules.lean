/-! One row an instruction, over whole worlds: G says that from here the machine comes to the method's end, with the result that o names (nothing, if o is none). -/
abbrev Rs : Type := (Option Value ⊕ String) × Sg
abbrev GX : Type := Program × Launch × Env × Room × State × MethodId × Array Value × List Frame × Method × Code × va_G × (Nat → ClassId) × Heap × (Nat → Nat) × Nat × (Rs → State → Prop)
def okL (n : Nat) (L : List (Nat × Value)) : Prop := ∀ q ∈ L, okv n q.2 ∧ q.2.category = 1
def trL (ν : Nat → Nat) (L : List (Nat × Value)) : List (Nat × Value) := L.map fun q => (q.1, tr ν q.2)
def G {ρ : Type} (Γ : GX) (mk : ρ → Rs) (cells slots pc : Nat) (L : List (Nat × Value)) (st : List Value) (σ : Sg) (o : Option ρ) : Prop := match Γ with
  | (p, l, e, R, s, m, args, below, meth, c, D, dA, Hl, ν0, N0, Qr) => ∀ r, o = some r → ∀ (ν : Nat → Nat) (H : Heap) (ls : Array Slot) (locs : List Loc), ext ν0 N0 ν → N0 ≤ σ.1 → Wd D dA Hl.size ν σ H → va_S (fun q => Hl.size ≤ q) Hl H locs → okL σ.1 L → oks σ.1 st → lv_has ls c.maxLocals (trL ν L) → W p l e R s m args below meth c H locs cells slots (Qr (mk r)) (F0 m pc ls (st.map (tr ν)))
/-- what holds in the method's frame: its code, the words of the tables, the facts of the start, its room -/
def Cx (Γ : GX) (own : String) (cc : ByteArray) (nL : Nat) (rm : Room) : Prop := match Γ with
  | (p, l, e, R, s, m, args, below, meth, c, D, dA, Hl, ν0, N0, Qr) => p.tables.exec = Jvm.exec ∧ c.code = cc ∧ c.maxLocals = nL ∧ s.vm.findClass own = some m.cls ∧ (∀ w ∈ TB, w.before args s = true) ∧ Fx D dA Hl s ∧ meth.locks = false ∧ l.stackTraces = false ∧ R = rm
theorem trL_at {ν : Nat → Nat} {L : List (Nat × Value)} {k i : Nat} {v : Value} (h : L[k]? = some (i, v)) : (trL ν L)[k]? = some (i, tr ν v) := by
  rw [trL, List.getElem?_map, h]; rfl
theorem okL_at {n : Nat} {L : List (Nat × Value)} {k i : Nat} {v : Value} (h : okL n L) (hk : L[k]? = some (i, v)) : okv n v ∧ v.category = 1 := h _ (List.mem_of_getElem? hk)
theorem okL_oks {n : Nat} {L : List (Nat × Value)} (h : okL n L) : oks n (L.map Prod.snd) := fun v hv => by
  obtain ⟨q, hq, rfl⟩ := List.mem_map.mp hv
  exact (h q hq).1
theorem okL_mono {n n' : Nat} (hn : n ≤ n') {L : List (Nat × Value)} (h : okL n L) : okL n' L := fun q hq => ⟨okv_mono hn (h q hq).1, (h q hq).2⟩
theorem ext_trL {ν0 ν : Nat → Nat} {n : Nat} (h : ext ν0 n ν) {L : List (Nat × Value)} (hv : okL n L) : trL ν L = trL ν0 L := List.map_congr_left fun q hw => by rw [ext_tr h (hv q hw).1]
/-- a store into the locals -/
def putL (L : List (Nat × Value)) (i : Nat) (v : Value) : List (Nat × Value) := (i, v) :: L.filter (fun q => !(q.1 == i))
theorem okL_put {n : Nat} {L : List (Nat × Value)} {i : Nat} {v : Value} (h : okL n L) (hv : okv n v) (hc : v.category = 1) : okL n (putL L i v) := fun q hq => by
  rcases List.mem_cons.mp hq with e | hq
  · rw [e]; exact ⟨hv, hc⟩
  · exact h q (List.mem_filter.mp hq).1
theorem trL_put {ν : Nat → Nat} {n : Nat} {L : List (Nat × Value)} {i : Nat} {v : Value} (h : okL n L) : (i, tr ν v) :: (trL ν L).filter (fun q => !(q.1 == i) && !(q.1 + 1 == i && q.2.category == 2)) = trL ν (putL L i v) := by
  unfold trL putL
  rw [List.map_cons, List.filter_map]
  congr 2
  apply List.filter_congr
  intro q hq
  have h1 : (tr ν q.2).category = 1 := (tr_cat ν q.2).trans (h q hq).2
  simp [Function.comp, h1]
section GR
variable {ρ : Type} {mk : ρ → Rs} {Γ : GX} {own : String} {cc : ByteArray} {nL : Nat} {rm : Room} {cells slots pc : Nat} {L : List (Nat × Value)} {st : List Value} {σ : Sg} {o : Option ρ}
theorem g_none : G Γ mk cells slots pc L st σ none := by
  obtain ⟨p, l, e, R, s, m, args, below, meth, c, D, dA, Hl, ν0, N0, Qr⟩ := Γ
  intro r hr
  cases hr
theorem g_if {c : Prop} [Decidable c] (k : c → G Γ mk cells slots pc L st σ o) : G Γ mk cells slots pc L st σ (if c then o else none) := by
  by_cases h : c
  · rw [if_pos h]; exact k h
  · rw [if_neg h]; exact g_none
theorem g_ite {c : Prop} [Decidable c] {o1 o2 : Option ρ} (k1 : c → G Γ mk cells slots pc L st σ o1) (k2 : ¬ c → G Γ mk cells slots pc L st σ o2) : G Γ mk cells slots pc L st σ (if c then o1 else o2) := by
  by_cases h : c
  · rw [if_pos h]; exact k1 h
  · rw [if_neg h]; exact k2 h
theorem g_widen {k n : Nat} (h1 : cells ≤ k) (h2 : slots ≤ n) (kk : G Γ mk k n pc L st σ o) : G Γ mk cells slots pc L st σ o := by
  obtain ⟨p, l, e, R, s, m, args, below, meth, c, D, dA, Hl, ν0, N0, Qr⟩ := Γ
  intro r hr ν H ls locs a1 a2 a3 a4 a5 a6 a7
  exact W.widen h1 h2 (kk r hr ν H ls locs a1 a2 a3 a4 a5 a6 a7)
theorem g_sub {L' : List (Nat × Value)} (ks : List Nat) (hl : ks.filterMap (fun k => L[k]?) = L') (kk : G Γ mk cells slots pc L' st σ o) : G Γ mk cells slots pc L st σ o := by
  have hin : ∀ q ∈ L', q ∈ L := fun q hq => by
    rw [← hl] at hq
    obtain ⟨k, -, hk⟩ := List.mem_filterMap.mp hq
    exact List.mem_of_getElem? hk
  obtain ⟨p, l, e, R, s, m, args, below, meth, c, D, dA, Hl, ν0, N0, Qr⟩ := Γ
  intro r hr ν H ls locs a1 a2 a3 a4 a5 a6 a7
  refine kk r hr ν H ls locs a1 a2 a3 a4 (fun q hq => a5 q (hin q hq)) a6 ⟨a7.1, a7.2.1, fun q hq => ?_⟩
  obtain ⟨z, hz, rfl⟩ := List.mem_map.mp hq
  exact a7.2.2 _ (List.mem_map.mpr ⟨z, hin z hz, rfl⟩)
theorem g_iconst (K : Cx Γ own cc nL rm) {n : Int} {v : Int32} (d : decode cc pc = .ok (.iconst n, 1)) (hv : Int32.ofInt n = v) (k : G Γ mk cells slots (pc + 1) L (.int v :: st) σ o) : G Γ mk cells slots pc L (st) σ o := by
  obtain ⟨p, l, e, R, s, m, args, below, meth, c, D, dA, Hl, ν0, N0, Qr⟩ := Γ
  obtain ⟨hx, hb, hml, hown, hts, hF, hlk, htr, hR⟩ := K
  intro r hr ν H ls locs a1 a2 a3 a4 a5 a6 a7
  exact lv_iconst hx hb d hv (k r hr ν H ls locs a1 a2 a3 a4 a5 (oks_cons trivial a6) a7)
theorem g_bipush (K : Cx Γ own cc nL rm) {n : Int} {v : Int32} (d : decode cc pc = .ok (.bipush n, 2)) (hv : (Int8.ofInt n).toInt32 = v) (k : G Γ mk cells slots (pc + 2) L (.int v :: st) σ o) : G Γ mk cells slots pc L (st) σ o := by
  obtain ⟨p, l, e, R, s, m, args, below, meth, c, D, dA, Hl, ν0, N0, Qr⟩ := Γ
  obtain ⟨hx, hb, hml, hown, hts, hF, hlk, htr, hR⟩ := K
  intro r hr ν H ls locs a1 a2 a3 a4 a5 a6 a7
  exact lv_bipush hx hb d hv (k r hr ν H ls locs a1 a2 a3 a4 a5 (oks_cons trivial a6) a7)
theorem g_sipush (K : Cx Γ own cc nL rm) {n : Int} {v : Int32} (d : decode cc pc = .ok (.sipush n, 3)) (hv : (Int16.ofInt n).toInt32 = v) (k : G Γ mk cells slots (pc + 3) L (.int v :: st) σ o) : G Γ mk cells slots pc L (st) σ o := by
  obtain ⟨p, l, e, R, s, m, args, below, meth, c, D, dA, Hl, ν0, N0, Qr⟩ := Γ
  obtain ⟨hx, hb, hml, hown, hts, hF, hlk, htr, hR⟩ := K
  intro r hr ν H ls locs a1 a2 a3 a4 a5 a6 a7
  exact lv_sipush hx hb d hv (k r hr ν H ls locs a1 a2 a3 a4 a5 (oks_cons trivial a6) a7)
theorem g_lconst (K : Cx Γ own cc nL rm) {n : Fin 2} {v : Int64} (d : decode cc pc = .ok (.lconst n, 1)) (hv : Int64.ofNat (n : Nat) = v) (k : G Γ mk cells slots (pc + 1) L (.long v :: st) σ o) : G Γ mk cells slots pc L (st) σ o := by
  obtain ⟨p, l, e, R, s, m, args, below, meth, c, D, dA, Hl, ν0, N0, Qr⟩ := Γ
  obtain ⟨hx, hb, hml, hown, hts, hF, hlk, htr, hR⟩ := K
  intro r hr ν H ls locs a1 a2 a3 a4 a5 a6 a7
  exact lv_lconst hx hb d hv (k r hr ν H ls locs a1 a2 a3 a4 a5 (oks_cons trivial a6) a7)
theorem g_ldc (K : Cx Γ own cc nL rm) {i : Nat} {v : Int32} (hc : Cond.constant own i v ∈ TB) (d : decode cc pc = .ok (.ldc i, 2)) (k : G Γ mk cells slots (pc + 2) L (.int v :: st) σ o) : G Γ mk cells slots pc L (st) σ o := by
  obtain ⟨p, l, e, R, s, m, args, below, meth, c, D, dA, Hl, ν0, N0, Qr⟩ := Γ
  obtain ⟨hx, hb, hml, hown, hts, hF, hlk, htr, hR⟩ := K
  intro r hr ν H ls locs a1 a2 a3 a4 a5 a6 a7
  exact lv_ldc hx hb hown (hts _ hc) d (k r hr ν H ls locs a1 a2 a3 a4 a5 (oks_cons trivial a6) a7)
theorem g_null (K : Cx Γ own cc nL rm) (d : decode cc pc = .ok (.aconst_null, 1)) (k : G Γ mk cells slots (pc + 1) L (.null :: st) σ o) : G Γ mk cells slots pc L (st) σ o := by
  obtain ⟨p, l, e, R, s, m, args, below, meth, c, D, dA, Hl, ν0, N0, Qr⟩ := Γ
  obtain ⟨hx, hb, hml, hown, hts, hF, hlk, htr, hR⟩ := K
  intro r hr ν H ls locs a1 a2 a3 a4 a5 a6 a7
  exact lv_null hx hb d (k r hr ν H ls locs a1 a2 a3 a4 a5 (oks_cons trivial a6) a7)
theorem g_iload_n (K : Cx Γ own cc nL rm) {i : Fin 4} {j : Nat} {x : Int32} (d : decode cc pc = .ok (.iload_n i, 1)) (hL : L[j]? = some ((i : Nat), .int x)) (k : G Γ mk cells slots (pc + 1) L (.int x :: st) σ o) : G Γ mk cells slots pc L (st) σ o := by
  obtain ⟨p, l, e, R, s, m, args, below, meth, c, D, dA, Hl, ν0, N0, Qr⟩ := Γ
  obtain ⟨hx, hb, hml, hown, hts, hF, hlk, htr, hR⟩ := K
  intro r hr ν H ls locs a1 a2 a3 a4 a5 a6 a7
  exact lv_iload_n hx hb d rfl (lv_at a7 j (trL_at hL)) (k r hr ν H ls locs a1 a2 a3 a4 a5 (oks_cons trivial a6) a7)
theorem g_iload (K : Cx Γ own cc nL rm) {i j : Nat} {x : Int32} (d : decode cc pc = .ok (.iload i, 2)) (hL : L[j]? = some (i, .int x)) (k : G Γ mk cells slots (pc + 2) L (.int x :: st) σ o) : G Γ mk cells slots pc L (st) σ o := by
  obtain ⟨p, l, e, R, s, m, args, below, meth, c, D, dA, Hl, ν0, N0, Qr⟩ := Γ
  obtain ⟨hx, hb, hml, hown, hts, hF, hlk, htr, hR⟩ := K
  intro r hr ν H ls locs a1 a2 a3 a4 a5 a6 a7
  exact lv_iload hx hb d (lv_at a7 j (trL_at hL)) (k r hr ν H ls locs a1 a2 a3 a4 a5 (oks_cons trivial a6) a7)
theorem g_aload_n (K : Cx Γ own cc nL rm) {i : Fin 4} {j : Nat} {x : Nat} (d : decode cc pc = .ok (.aload_n i, 1)) (hL : L[j]? = some ((i : Nat), .ref x)) (k : G Γ mk cells slots (pc + 1) L (.ref x :: st) σ o) : G Γ mk cells slots pc L (st) σ o := by
  obtain ⟨p, l, e, R, s, m, args, below, meth, c, D, dA, Hl, ν0, N0, Qr⟩ := Γ
  obtain ⟨hx, hb, hml, hown, hts, hF, hlk, htr, hR⟩ := K
  intro r hr ν H ls locs a1 a2 a3 a4 a5 a6 a7
  exact lv_aload_n hx hb d rfl (lv_at a7 j (trL_at hL)) (k r hr ν H ls locs a1 a2 a3 a4 a5 (oks_cons (okL_at a5 hL).1 a6) a7)
theorem g_aload (K : Cx Γ own cc nL rm) {i j : Nat} {x : Nat} (d : decode cc pc = .ok (.aload i, 2)) (hL : L[j]? = some (i, .ref x)) (k : G Γ mk cells slots (pc + 2) L (.ref x :: st) σ o) : G Γ mk cells slots pc L (st) σ o := by
  obtain ⟨p, l, e, R, s, m, args, below, meth, c, D, dA, Hl, ν0, N0, Qr⟩ := Γ
  obtain ⟨hx, hb, hml, hown, hts, hF, hlk, htr, hR⟩ := K
  intro r hr ν H ls locs a1 a2 a3 a4 a5 a6 a7
  exact lv_aload hx hb d (lv_at a7 j (trL_at hL)) (k r hr ν H ls locs a1 a2 a3 a4 a5 (oks_cons (okL_at a5 hL).1 a6) a7)
theorem g_aload_nN (K : Cx Γ own cc nL rm) {i : Fin 4} {j : Nat} (d : decode cc pc = .ok (.aload_n i, 1)) (hL : L[j]? = some ((i : Nat), .null)) (k : G Γ mk cells slots (pc + 1) L (.null :: st) σ o) : G Γ mk cells slots pc L (st) σ o := by
  obtain ⟨p, l, e, R, s, m, args, below, meth, c, D, dA, Hl, ν0, N0, Qr⟩ := Γ
  obtain ⟨hx, hb, hml, hown, hts, hF, hlk, htr, hR⟩ := K
  intro r hr ν H ls locs a1 a2 a3 a4 a5 a6 a7
  exact lv_aload_nN hx hb d rfl (lv_at a7 j (trL_at hL)) (k r hr ν H ls locs a1 a2 a3 a4 a5 (oks_cons trivial a6) a7)
theorem g_aloadN (K : Cx Γ own cc nL rm) {i j : Nat} (d : decode cc pc = .ok (.aload i, 2)) (hL : L[j]? = some (i, .null)) (k : G Γ mk cells slots (pc + 2) L (.null :: st) σ o) : G Γ mk cells slots pc L (st) σ o := by
  obtain ⟨p, l, e, R, s, m, args, below, meth, c, D, dA, Hl, ν0, N0, Qr⟩ := Γ
  obtain ⟨hx, hb, hml, hown, hts, hF, hlk, htr, hR⟩ := K
  intro r hr ν H ls locs a1 a2 a3 a4 a5 a6 a7
  exact lv_aloadN hx hb d (lv_at a7 j (trL_at hL)) (k r hr ν H ls locs a1 a2 a3 a4 a5 (oks_cons trivial a6) a7)
theorem g_istore_n (K : Cx Γ own cc nL rm) {i : Fin 4} {x : Int32} {L' : List (Nat × Value)} (d : decode cc pc = .ok (.istore_n i, 1)) (hn : (i : Nat) < nL) (hl : putL L i (.int x) = L') (k : G Γ mk cells slots (pc + 1) L' st σ o) : G Γ mk cells slots pc L (.int x :: st) σ o := by
  obtain ⟨p, l, e, R, s, m, args, below, meth, c, D, dA, Hl, ν0, N0, Qr⟩ := Γ
  obtain ⟨hx, hb, hml, hown, hts, hF, hlk, htr, hR⟩ := K
  intro r hr ν H ls locs a1 a2 a3 a4 a5 a6 a7
  subst hl
  exact lv_istore_n hx hb d rfl a7 (by rw [hml]; exact hn) (trL_put (v := .int x) a5) (fun ls' h' => k r hr ν H ls' locs a1 a2 a3 a4 (okL_put a5 (trivial) rfl) (oks_tail a6) h')
theorem g_istore (K : Cx Γ own cc nL rm) {i : Nat} {x : Int32} {L' : List (Nat × Value)} (d : decode cc pc = .ok (.istore i, 2)) (hn : (i : Nat) < nL) (hl : putL L i (.int x) = L') (k : G Γ mk cells slots (pc + 2) L' st σ o) : G Γ mk cells slots pc L (.int x :: st) σ o := by
  obtain ⟨p, l, e, R, s, m, args, below, meth, c, D, dA, Hl, ν0, N0, Qr⟩ := Γ
  obtain ⟨hx, hb, hml, hown, hts, hF, hlk, htr, hR⟩ := K
  intro r hr ν H ls locs a1 a2 a3 a4 a5 a6 a7
  subst hl
  exact lv_istore hx hb d a7 (by rw [hml]; exact hn) (trL_put (v := .int x) a5) (fun ls' h' => k r hr ν H ls' locs a1 a2 a3 a4 (okL_put a5 (trivial) rfl) (oks_tail a6) h')
theorem g_astore_n (K : Cx Γ own cc nL rm) {i : Fin 4} {x : Nat} {L' : List (Nat × Value)} (d : decode cc pc = .ok (.astore_n i, 1)) (hn : (i : Nat) < nL) (hl : putL L i (.ref x) = L') (k : G Γ mk cells slots (pc + 1) L' st σ o) : G Γ mk cells slots pc L (.ref x :: st) σ o := by
  obtain ⟨p, l, e, R, s, m, args, below, meth, c, D, dA, Hl, ν0, N0, Qr⟩ := Γ
  obtain ⟨hx, hb, hml, hown, hts, hF, hlk, htr, hR⟩ := K
  intro r hr ν H ls locs a1 a2 a3 a4 a5 a6 a7
  subst hl
  exact lv_astore_n hx hb d rfl a7 (by rw [hml]; exact hn) (trL_put (v := .ref x) a5) (fun ls' h' => k r hr ν H ls' locs a1 a2 a3 a4 (okL_put a5 (oks_head a6) rfl) (oks_tail a6) h')
theorem g_astore (K : Cx Γ own cc nL rm) {i x : Nat} {L' : List (Nat × Value)} (d : decode cc pc = .ok (.astore i, 2)) (hn : (i : Nat) < nL) (hl : putL L i (.ref x) = L') (k : G Γ mk cells slots (pc + 2) L' st σ o) : G Γ mk cells slots pc L (.ref x :: st) σ o := by
  obtain ⟨p, l, e, R, s, m, args, below, meth, c, D, dA, Hl, ν0, N0, Qr⟩ := Γ
  obtain ⟨hx, hb, hml, hown, hts, hF, hlk, htr, hR⟩ := K
  intro r hr ν H ls locs a1 a2 a3 a4 a5 a6 a7
  subst hl
  exact lv_astore hx hb d a7 (by rw [hml]; exact hn) (trL_put (v := .ref x) a5) (fun ls' h' => k r hr ν H ls' locs a1 a2 a3 a4 (okL_put a5 (oks_head a6) rfl) (oks_tail a6) h')
theorem g_astore_nN (K : Cx Γ own cc nL rm) {i : Fin 4} {L' : List (Nat × Value)} (d : decode cc pc = .ok (.astore_n i, 1)) (hn : (i : Nat) < nL) (hl : putL L i (.null) = L') (k : G Γ mk cells slots (pc + 1) L' st σ o) : G Γ mk cells slots pc L (.null :: st) σ o := by
  obtain ⟨p, l, e, R, s, m, args, below, meth, c, D, dA, Hl, ν0, N0, Qr⟩ := Γ
  obtain ⟨hx, hb, hml, hown, hts, hF, hlk, htr, hR⟩ := K
  intro r hr ν H ls locs a1 a2 a3 a4 a5 a6 a7
  subst hl
  exact lv_astore_nN hx hb d rfl a7 (by rw [hml]; exact hn) (trL_put (v := .null) a5) (fun ls' h' => k r hr ν H ls' locs a1 a2 a3 a4 (okL_put a5 (trivial) rfl) (oks_tail a6) h')
theorem g_astoreN (K : Cx Γ own cc nL rm) {i : Nat} {L' : List (Nat × Value)} (d : decode cc pc = .ok (.astore i, 2)) (hn : (i : Nat) < nL) (hl : putL L i (.null) = L') (k : G Γ mk cells slots (pc + 2) L' st σ o) : G Γ mk cells slots pc L (.null :: st) σ o := by
  obtain ⟨p, l, e, R, s, m, args, below, meth, c, D, dA, Hl, ν0, N0, Qr⟩ := Γ
  obtain ⟨hx, hb, hml, hown, hts, hF, hlk, htr, hR⟩ := K
  intro r hr ν H ls locs a1 a2 a3 a4 a5 a6 a7
  subst hl
  exact lv_astoreN hx hb d a7 (by rw [hml]; exact hn) (trL_put (v := .null) a5) (fun ls' h' => k r hr ν H ls' locs a1 a2 a3 a4 (okL_put a5 (trivial) rfl) (oks_tail a6) h')
theorem g_iinc (K : Cx Γ own cc nL rm) {i j : Nat} {n : Int} {x v : Int32} {L' : List (Nat × Value)} (d : decode cc pc = .ok (.iinc i n, 3)) (hL : L[j]? = some (i, .int x)) (hv : x + Int32.ofInt n = v) (hn : i < nL) (hl : putL L i (.int v) = L') (k : G Γ mk cells slots (pc + 3) L' st σ o) : G Γ mk cells slots pc L st σ o := by
  obtain ⟨p, l, e, R, s, m, args, below, meth, c, D, dA, Hl, ν0, N0, Qr⟩ := Γ
  obtain ⟨hx, hb, hml, hown, hts, hF, hlk, htr, hR⟩ := K
  intro r hr ν H ls locs a1 a2 a3 a4 a5 a6 a7
  subst hl
  exact lv_iinc hx hb d a7 (trL_at hL) hv (by rw [hml]; exact hn) (trL_put (v := .int v) a5) (fun ls' h' => k r hr ν H ls' locs a1 a2 a3 a4 (okL_put a5 trivial rfl) a6 h')
theorem g_iadd (K : Cx Γ own cc nL rm) {x y : Int32} (d : decode cc pc = .ok (.iadd, 1)) (k : G Γ mk cells slots (pc + 1) L (.int (x + y) :: st) σ o) : G Γ mk cells slots pc L (.int y :: .int x :: st) σ o := by
  obtain ⟨p, l, e, R, s, m, args, below, meth, c, D, dA, Hl, ν0, N0, Qr⟩ := Γ
  obtain ⟨hx, hb, hml, hown, hts, hF, hlk, htr, hR⟩ := K
  intro r hr ν H ls locs a1 a2 a3 a4 a5 a6 a7
  exact lv_iadd hx hb d (k r hr ν H ls locs a1 a2 a3 a4 a5 (oks_cons trivial (oks_tail (oks_tail a6))) a7)
theorem g_isub (K : Cx Γ own cc nL rm) {x y : Int32} (d : decode cc pc = .ok (.isub, 1)) (k : G Γ mk cells slots (pc + 1) L (.int (x - y) :: st) σ o) : G Γ mk cells slots pc L (.int y :: .int x :: st) σ o := by
  obtain ⟨p, l, e, R, s, m, args, below, meth, c, D, dA, Hl, ν0, N0, Qr⟩ := Γ
  obtain ⟨hx, hb, hml, hown, hts, hF, hlk, htr, hR⟩ := K
  intro r hr ν H ls locs a1 a2 a3 a4 a5 a6 a7
  exact lv_isub hx hb d (k r hr ν H ls locs a1 a2 a3 a4 a5 (oks_cons trivial (oks_tail (oks_tail a6))) a7)
theorem g_imul (K : Cx Γ own cc nL rm) {x y : Int32} (d : decode cc pc = .ok (.imul, 1)) (k : G Γ mk cells slots (pc + 1) L (.int (x * y) :: st) σ o) : G Γ mk cells slots pc L (.int y :: .int x :: st) σ o := by
  obtain ⟨p, l, e, R, s, m, args, below, meth, c, D, dA, Hl, ν0, N0, Qr⟩ := Γ
  obtain ⟨hx, hb, hml, hown, hts, hF, hlk, htr, hR⟩ := K
  intro r hr ν H ls locs a1 a2 a3 a4 a5 a6 a7
  exact lv_imul hx hb d (k r hr ν H ls locs a1 a2 a3 a4 a5 (oks_cons trivial (oks_tail (oks_tail a6))) a7)
theorem g_iand (K : Cx Γ own cc nL rm) {x y : Int32} (d : decode cc pc = .ok (.iand, 1)) (k : G Γ mk cells slots (pc + 1) L (.int (x &&& y) :: st) σ o) : G Γ mk cells slots pc L (.int y :: .int x :: st) σ o := by
  obtain ⟨p, l, e, R, s, m, args, below, meth, c, D, dA, Hl, ν0, N0, Qr⟩ := Γ
  obtain ⟨hx, hb, hml, hown, hts, hF, hlk, htr, hR⟩ := K
  intro r hr ν H ls locs a1 a2 a3 a4 a5 a6 a7
  exact lv_iand hx hb d (k r hr ν H ls locs a1 a2 a3 a4 a5 (oks_cons trivial (oks_tail (oks_tail a6))) a7)
theorem g_ior (K : Cx Γ own cc nL rm) {x y : Int32} (d : decode cc pc = .ok (.ior, 1)) (k : G Γ mk cells slots (pc + 1) L (.int (x ||| y) :: st) σ o) : G Γ mk cells slots pc L (.int y :: .int x :: st) σ o := by
  obtain ⟨p, l, e, R, s, m, args, below, meth, c, D, dA, Hl, ν0, N0, Qr⟩ := Γ
  obtain ⟨hx, hb, hml, hown, hts, hF, hlk, htr, hR⟩ := K
  intro r hr ν H ls locs a1 a2 a3 a4 a5 a6 a7
  exact lv_ior hx hb d (k r hr ν H ls locs a1 a2 a3 a4 a5 (oks_cons trivial (oks_tail (oks_tail a6))) a7)
theorem g_ixor (K : Cx Γ own cc nL rm) {x y : Int32} (d : decode cc pc = .ok (.ixor, 1)) (k : G Γ mk cells slots (pc + 1) L (.int (x ^^^ y) :: st) σ o) : G Γ mk cells slots pc L (.int y :: .int x :: st) σ o := by
  obtain ⟨p, l, e, R, s, m, args, below, meth, c, D, dA, Hl, ν0, N0, Qr⟩ := Γ
  obtain ⟨hx, hb, hml, hown, hts, hF, hlk, htr, hR⟩ := K
  intro r hr ν H ls locs a1 a2 a3 a4 a5 a6 a7
  exact lv_ixor hx hb d (k r hr ν H ls locs a1 a2 a3 a4 a5 (oks_cons trivial (oks_tail (oks_tail a6))) a7)
theorem g_ishl (K : Cx Γ own cc nL rm) {x y : Int32} (d : decode cc pc = .ok (.ishl, 1)) (k : G Γ mk cells slots (pc + 1) L (.int (x <<< (y &&& 31)) :: st) σ o) : G Γ mk cells slots pc L (.int y :: .int x :: st) σ o := by
  obtain ⟨p, l, e, R, s, m, args, below, meth, c, D, dA, Hl, ν0, N0, Qr⟩ := Γ
  obtain ⟨hx, hb, hml, hown, hts, hF, hlk, htr, hR⟩ := K
  intro r hr ν H ls locs a1 a2 a3 a4 a5 a6 a7
  exact lv_ishl hx hb d (k r hr ν H ls locs a1 a2 a3 a4 a5 (oks_cons trivial (oks_tail (oks_tail a6))) a7)
theorem g_ishr (K : Cx Γ own cc nL rm) {x y : Int32} (d : decode cc pc = .ok (.ishr, 1)) (k : G Γ mk cells slots (pc + 1) L (.int (x >>> (y &&& 31)) :: st) σ o) : G Γ mk cells slots pc L (.int y :: .int x :: st) σ o := by
  obtain ⟨p, l, e, R, s, m, args, below, meth, c, D, dA, Hl, ν0, N0, Qr⟩ := Γ
  obtain ⟨hx, hb, hml, hown, hts, hF, hlk, htr, hR⟩ := K
  intro r hr ν H ls locs a1 a2 a3 a4 a5 a6 a7
  exact lv_ishr hx hb d (k r hr ν H ls locs a1 a2 a3 a4 a5 (oks_cons trivial (oks_tail (oks_tail a6))) a7)
theorem g_iushr (K : Cx Γ own cc nL rm) {x y : Int32} (d : decode cc pc = .ok (.iushr, 1)) (k : G Γ mk cells slots (pc + 1) L (.int (x.toUInt32 >>> (y.toUInt32 &&& Int32.toUInt32 31)).toInt32 :: st) σ o) : G Γ mk cells slots pc L (.int y :: .int x :: st) σ o := by
  obtain ⟨p, l, e, R, s, m, args, below, meth, c, D, dA, Hl, ν0, N0, Qr⟩ := Γ
  obtain ⟨hx, hb, hml, hown, hts, hF, hlk, htr, hR⟩ := K
  intro r hr ν H ls locs a1 a2 a3 a4 a5 a6 a7
  exact lv_iushr hx hb d rfl (k r hr ν H ls locs a1 a2 a3 a4 a5 (oks_cons trivial (oks_tail (oks_tail a6))) a7)
theorem g_i2l (K : Cx Γ own cc nL rm) {x : Int32} (d : decode cc pc = .ok (.i2l, 1)) (k : G Γ mk cells slots (pc + 1) L (.long x.toInt64 :: st) σ o) : G Γ mk cells slots pc L (.int x :: st) σ o := by
  obtain ⟨p, l, e, R, s, m, args, below, meth, c, D, dA, Hl, ν0, N0, Qr⟩ := Γ
  obtain ⟨hx, hb, hml, hown, hts, hF, hlk, htr, hR⟩ := K
  intro r hr ν H ls locs a1 a2 a3 a4 a5 a6 a7
  exact lv_i2l hx hb d rfl (k r hr ν H ls locs a1 a2 a3 a4 a5 (oks_cons trivial (oks_tail a6)) a7)
theorem g_lcmp (K : Cx Γ own cc nL rm) {x y : Int64} (d : decode cc pc = .ok (.lcmp, 1)) (k : G Γ mk cells slots (pc + 1) L (.int (lg_cmp x y) :: st) σ o) : G Γ mk cells slots pc L (.long y :: .long x :: st) σ o := by
  obtain ⟨p, l, e, R, s, m, args, below, meth, c, D, dA, Hl, ν0, N0, Qr⟩ := Γ
  obtain ⟨hx, hb, hml, hown, hts, hF, hlk, htr, hR⟩ := K
  intro r hr ν H ls locs a1 a2 a3 a4 a5 a6 a7
  exact W.lcmp hx hb d (k r hr ν H ls locs a1 a2 a3 a4 a5 (oks_cons trivial (oks_tail (oks_tail a6))) a7)
theorem g_dup (K : Cx Γ own cc nL rm) {v : Value} (d : decode cc pc = .ok (.dup, 1)) (hc : v.category = 1) (k : G Γ mk cells slots (pc + 1) L (v :: v :: st) σ o) : G Γ mk cells slots pc L (v :: st) σ o := by
  obtain ⟨p, l, e, R, s, m, args, below, meth, c, D, dA, Hl, ν0, N0, Qr⟩ := Γ
  obtain ⟨hx, hb, hml, hown, hts, hF, hlk, htr, hR⟩ := K
  intro r hr ν H ls locs a1 a2 a3 a4 a5 a6 a7
  exact lv_dup hx hb d ((tr_cat ν v).trans hc) (k r hr ν H ls locs a1 a2 a3 a4 a5 (oks_cons (oks_head a6) a6) a7)
theorem g_pop (K : Cx Γ own cc nL rm) {v : Value} (d : decode cc pc = .ok (.pop, 1)) (hc : v.category = 1) (k : G Γ mk cells slots (pc + 1) L (st) σ o) : G Γ mk cells slots pc L (v :: st) σ o := by
  obtain ⟨p, l, e, R, s, m, args, below, meth, c, D, dA, Hl, ν0, N0, Qr⟩ := Γ
  obtain ⟨hx, hb, hml, hown, hts, hF, hlk, htr, hR⟩ := K
  intro r hr ν H ls locs a1 a2 a3 a4 a5 a6 a7
  exact lv_pop hx hb d ((tr_cat ν v).trans hc) (k r hr ν H ls locs a1 a2 a3 a4 a5 (oks_tail a6) a7)
theorem g_dup_x1 (K : Cx Γ own cc nL rm) {v w : Value} (d : decode cc pc = .ok (.dup_x1, 1)) (hc : v.category = 1) (hc2 : w.category = 1) (k : G Γ mk cells slots (pc + 1) L (v :: w :: v :: st) σ o) : G Γ mk cells slots pc L (v :: w :: st) σ o := by
  obtain ⟨p, l, e, R, s, m, args, below, meth, c, D, dA, Hl, ν0, N0, Qr⟩ := Γ
  obtain ⟨hx, hb, hml, hown, hts, hF, hlk, htr, hR⟩ := K
  intro r hr ν H ls locs a1 a2 a3 a4 a5 a6 a7
  exact lv_dup_x1 hx hb d ((tr_cat ν v).trans hc) ((tr_cat ν w).trans hc2) (k r hr ν H ls locs a1 a2 a3 a4 a5 (oks_cons (oks_head a6) (oks_cons (oks_head (oks_tail a6)) (oks_cons (oks_head a6) (oks_tail (oks_tail a6))))) a7)
theorem g_dup2 (K : Cx Γ own cc nL rm) {v w : Value} (d : decode cc pc = .ok (.dup2, 1)) (hc : v.category = 1) (hc2 : w.category = 1) (k : G Γ mk cells slots (pc + 1) L (v :: w :: v :: w :: st) σ o) : G Γ mk cells slots pc L (v :: w :: st) σ o := by
  obtain ⟨p, l, e, R, s, m, args, below, meth, c, D, dA, Hl, ν0, N0, Qr⟩ := Γ
  obtain ⟨hx, hb, hml, hown, hts, hF, hlk, htr, hR⟩ := K
  intro r hr ν H ls locs a1 a2 a3 a4 a5 a6 a7
  exact lv_dup2_11 hx hb d ((tr_cat ν v).trans hc) ((tr_cat ν w).trans hc2) (k r hr ν H ls locs a1 a2 a3 a4 a5 (oks_cons (oks_head a6) (oks_cons (oks_head (oks_tail a6)) a6)) a7)
-- branches below
theorem g_if_eq (K : Cx Γ own cc nL rm) {x : Int32} {off : Int} {tgt : Nat} {o1 o2 : Option ρ} (d : decode cc pc = .ok (.ifCond .eq off, 3)) (ht : (pc : Int) + off = (tgt : Int)) (kt : x = 0 → G Γ mk cells slots tgt L st σ o1) (kf : ¬ x = 0 → G Γ mk cells slots (pc + 3) L st σ o2) : G Γ mk cells slots pc L (.int x :: st) σ (if x = 0 then o1 else o2) := by
  obtain ⟨p, l, e, R, s, m, args, below, meth, c, D, dA, Hl, ν0, N0, Qr⟩ := Γ
  obtain ⟨hx, hb, hml, hown, hts, hF, hlk, htr, hR⟩ := K
  intro r hr ν H ls locs a1 a2 a3 a4 a5 a6 a7
  refine lv_if_eq hx hb d ht (fun h => kt h r ?_ ν H ls locs a1 a2 a3 a4 a5 (oks_tail a6) a7) (fun h => kf h r ?_ ν H ls locs a1 a2 a3 a4 a5 (oks_tail a6) a7)
  · first | (rw [if_pos h] at hr; exact hr) | (rw [if_neg h] at hr; exact hr)
  · first | (rw [if_neg h] at hr; exact hr) | (rw [if_pos h] at hr; exact hr)
theorem g_icmp_eq (K : Cx Γ own cc nL rm) {x y : Int32} {off : Int} {tgt : Nat} {o1 o2 : Option ρ} (d : decode cc pc = .ok (.if_icmp .eq off, 3)) (ht : (pc : Int) + off = (tgt : Int)) (kt : x = y → G Γ mk cells slots tgt L st σ o1) (kf : ¬ x = y → G Γ mk cells slots (pc + 3) L st σ o2) : G Γ mk cells slots pc L (.int y :: .int x :: st) σ (if x = y then o1 else o2) := by
  obtain ⟨p, l, e, R, s, m, args, below, meth, c, D, dA, Hl, ν0, N0, Qr⟩ := Γ
  obtain ⟨hx, hb, hml, hown, hts, hF, hlk, htr, hR⟩ := K
  intro r hr ν H ls locs a1 a2 a3 a4 a5 a6 a7
  refine lv_icmp_eq hx hb d ht (fun h => kt h r ?_ ν H ls locs a1 a2 a3 a4 a5 (oks_tail (oks_tail a6)) a7) (fun h => kf h r ?_ ν H ls locs a1 a2 a3 a4 a5 (oks_tail (oks_tail a6)) a7)
  · first | (rw [if_pos h] at hr; exact hr) | (rw [if_neg h] at hr; exact hr)
  · first | (rw [if_neg h] at hr; exact hr) | (rw [if_pos h] at hr; exact hr)
theorem g_if_ne (K : Cx Γ own cc nL rm) {x : Int32} {off : Int} {tgt : Nat} {o1 o2 : Option ρ} (d : decode cc pc = .ok (.ifCond .ne off, 3)) (ht : (pc : Int) + off = (tgt : Int)) (kt : ¬ x = 0 → G Γ mk cells slots tgt L st σ o1) (kf : x = 0 → G Γ mk cells slots (pc + 3) L st σ o2) : G Γ mk cells slots pc L (.int x :: st) σ (if x = 0 then o2 else o1) := by
  obtain ⟨p, l, e, R, s, m, args, below, meth, c, D, dA, Hl, ν0, N0, Qr⟩ := Γ
  obtain ⟨hx, hb, hml, hown, hts, hF, hlk, htr, hR⟩ := K
  intro r hr ν H ls locs a1 a2 a3 a4 a5 a6 a7
  refine lv_if_ne hx hb d ht (fun h => kt h r ?_ ν H ls locs a1 a2 a3 a4 a5 (oks_tail a6) a7) (fun h => kf h r ?_ ν H ls locs a1 a2 a3 a4 a5 (oks_tail a6) a7)
  · first | (rw [if_pos h] at hr; exact hr) | (rw [if_neg h] at hr; exact hr)
  · first | (rw [if_neg h] at hr; exact hr) | (rw [if_pos h] at hr; exact hr)
theorem g_icmp_ne (K : Cx Γ own cc nL rm) {x y : Int32} {off : Int} {tgt : Nat} {o1 o2 : Option ρ} (d : decode cc pc = .ok (.if_icmp .ne off, 3)) (ht : (pc : Int) + off = (tgt : Int)) (kt : ¬ x = y → G Γ mk cells slots tgt L st σ o1) (kf : x = y → G Γ mk cells slots (pc + 3) L st σ o2) : G Γ mk cells slots pc L (.int y :: .int x :: st) σ (if x = y then o2 else o1) := by
  obtain ⟨p, l, e, R, s, m, args, below, meth, c, D, dA, Hl, ν0, N0, Qr⟩ := Γ
  obtain ⟨hx, hb, hml, hown, hts, hF, hlk, htr, hR⟩ := K
  intro r hr ν H ls locs a1 a2 a3 a4 a5 a6 a7
  refine lv_icmp_ne hx hb d ht (fun h => kt h r ?_ ν H ls locs a1 a2 a3 a4 a5 (oks_tail (oks_tail a6)) a7) (fun h => kf h r ?_ ν H ls locs a1 a2 a3 a4 a5 (oks_tail (oks_tail a6)) a7)
  · first | (rw [if_pos h] at hr; exact hr) | (rw [if_neg h] at hr; exact hr)
  · first | (rw [if_neg h] at hr; exact hr) | (rw [if_pos h] at hr; exact hr)
theorem g_if_lt (K : Cx Γ own cc nL rm) {x : Int32} {off : Int} {tgt : Nat} {o1 o2 : Option ρ} (d : decode cc pc = .ok (.ifCond .lt off, 3)) (ht : (pc : Int) + off = (tgt : Int)) (kt : x < 0 → G Γ mk cells slots tgt L st σ o1) (kf : ¬ x < 0 → G Γ mk cells slots (pc + 3) L st σ o2) : G Γ mk cells slots pc L (.int x :: st) σ (if x < 0 then o1 else o2) := by
  obtain ⟨p, l, e, R, s, m, args, below, meth, c, D, dA, Hl, ν0, N0, Qr⟩ := Γ
  obtain ⟨hx, hb, hml, hown, hts, hF, hlk, htr, hR⟩ := K
  intro r hr ν H ls locs a1 a2 a3 a4 a5 a6 a7
  refine lv_if_lt hx hb d ht (fun h => kt h r ?_ ν H ls locs a1 a2 a3 a4 a5 (oks_tail a6) a7) (fun h => kf h r ?_ ν H ls locs a1 a2 a3 a4 a5 (oks_tail a6) a7)
  · first | (rw [if_pos h] at hr; exact hr) | (rw [if_neg h] at hr; exact hr)
  · first | (rw [if_neg h] at hr; exact hr) | (rw [if_pos h] at hr; exact hr)
theorem g_icmp_lt (K : Cx Γ own cc nL rm) {x y : Int32} {off : Int} {tgt : Nat} {o1 o2 : Option ρ} (d : decode cc pc = .ok (.if_icmp .lt off, 3)) (ht : (pc : Int) + off = (tgt : Int)) (kt : x < y → G Γ mk cells slots tgt L st σ o1) (kf : ¬ x < y → G Γ mk cells slots (pc + 3) L st σ o2) : G Γ mk cells slots pc L (.int y :: .int x :: st) σ (if x < y then o1 else o2) := by
  obtain ⟨p, l, e, R, s, m, args, below, meth, c, D, dA, Hl, ν0, N0, Qr⟩ := Γ
  obtain ⟨hx, hb, hml, hown, hts, hF, hlk, htr, hR⟩ := K
  intro r hr ν H ls locs a1 a2 a3 a4 a5 a6 a7
  refine lv_icmp_lt hx hb d ht (fun h => kt h r ?_ ν H ls locs a1 a2 a3 a4 a5 (oks_tail (oks_tail a6)) a7) (fun h => kf h r ?_ ν H ls locs a1 a2 a3 a4 a5 (oks_tail (oks_tail a6)) a7)
  · first | (rw [if_pos h] at hr; exact hr) | (rw [if_neg h] at hr; exact hr)
  · first | (rw [if_neg h] at hr; exact hr) | (rw [if_pos h] at hr; exact hr)
theorem g_if_ge (K : Cx Γ own cc nL rm) {x : Int32} {off : Int} {tgt : Nat} {o1 o2 : Option ρ} (d : decode cc pc = .ok (.ifCond .ge off, 3)) (ht : (pc : Int) + off = (tgt : Int)) (kt : 0 ≤ x → G Γ mk cells slots tgt L st σ o1) (kf : ¬ 0 ≤ x → G Γ mk cells slots (pc + 3) L st σ o2) : G Γ mk cells slots pc L (.int x :: st) σ (if 0 ≤ x then o1 else o2) := by
  obtain ⟨p, l, e, R, s, m, args, below, meth, c, D, dA, Hl, ν0, N0, Qr⟩ := Γ
  obtain ⟨hx, hb, hml, hown, hts, hF, hlk, htr, hR⟩ := K
  intro r hr ν H ls locs a1 a2 a3 a4 a5 a6 a7
  refine lv_if_ge hx hb d ht (fun h => kt h r ?_ ν H ls locs a1 a2 a3 a4 a5 (oks_tail a6) a7) (fun h => kf h r ?_ ν H ls locs a1 a2 a3 a4 a5 (oks_tail a6) a7)
  · first | (rw [if_pos h] at hr; exact hr) | (rw [if_neg h] at hr; exact hr)
  · first | (rw [if_neg h] at hr; exact hr) | (rw [if_pos h] at hr; exact hr)
theorem g_icmp_ge (K : Cx Γ own cc nL rm) {x y : Int32} {off : Int} {tgt : Nat} {o1 o2 : Option ρ} (d : decode cc pc = .ok (.if_icmp .ge off, 3)) (ht : (pc : Int) + off = (tgt : Int)) (kt : y ≤ x → G Γ mk cells slots tgt L st σ o1) (kf : ¬ y ≤ x → G Γ mk cells slots (pc + 3) L st σ o2) : G Γ mk cells slots pc L (.int y :: .int x :: st) σ (if y ≤ x then o1 else o2) := by
  obtain ⟨p, l, e, R, s, m, args, below, meth, c, D, dA, Hl, ν0, N0, Qr⟩ := Γ
  obtain ⟨hx, hb, hml, hown, hts, hF, hlk, htr, hR⟩ := K
  intro r hr ν H ls locs a1 a2 a3 a4 a5 a6 a7
  refine lv_icmp_ge hx hb d ht (fun h => kt h r ?_ ν H ls locs a1 a2 a3 a4 a5 (oks_tail (oks_tail a6)) a7) (fun h => kf h r ?_ ν H ls locs a1 a2 a3 a4 a5 (oks_tail (oks_tail a6)) a7)
  · first | (rw [if_pos h] at hr; exact hr) | (rw [if_neg h] at hr; exact hr)
  · first | (rw [if_neg h] at hr; exact hr) | (rw [if_pos h] at hr; exact hr)
theorem g_if_gt (K : Cx Γ own cc nL rm) {x : Int32} {off : Int} {tgt : Nat} {o1 o2 : Option ρ} (d : decode cc pc = .ok (.ifCond .gt off, 3)) (ht : (pc : Int) + off = (tgt : Int)) (kt : 0 < x → G Γ mk cells slots tgt L st σ o1) (kf : ¬ 0 < x → G Γ mk cells slots (pc + 3) L st σ o2) : G Γ mk cells slots pc L (.int x :: st) σ (if 0 < x then o1 else o2) := by
  obtain ⟨p, l, e, R, s, m, args, below, meth, c, D, dA, Hl, ν0, N0, Qr⟩ := Γ
  obtain ⟨hx, hb, hml, hown, hts, hF, hlk, htr, hR⟩ := K
  intro r hr ν H ls locs a1 a2 a3 a4 a5 a6 a7
  refine lv_if_gt hx hb d ht (fun h => kt h r ?_ ν H ls locs a1 a2 a3 a4 a5 (oks_tail a6) a7) (fun h => kf h r ?_ ν H ls locs a1 a2 a3 a4 a5 (oks_tail a6) a7)
  · first | (rw [if_pos h] at hr; exact hr) | (rw [if_neg h] at hr; exact hr)
  · first | (rw [if_neg h] at hr; exact hr) | (rw [if_pos h] at hr; exact hr)
theorem g_icmp_gt (K : Cx Γ own cc nL rm) {x y : Int32} {off : Int} {tgt : Nat} {o1 o2 : Option ρ} (d : decode cc pc = .ok (.if_icmp .gt off, 3)) (ht : (pc : Int) + off = (tgt : Int)) (kt : y < x → G Γ mk cells slots tgt L st σ o1) (kf : ¬ y < x → G Γ mk cells slots (pc + 3) L st σ o2) : G Γ mk cells slots pc L (.int y :: .int x :: st) σ (if y < x then o1 else o2) := by
  obtain ⟨p, l, e, R, s, m, args, below, meth, c, D, dA, Hl, ν0, N0, Qr⟩ := Γ
  obtain ⟨hx, hb, hml, hown, hts, hF, hlk, htr, hR⟩ := K
  intro r hr ν H ls locs a1 a2 a3 a4 a5 a6 a7
  refine lv_icmp_gt hx hb d ht (fun h => kt h r ?_ ν H ls locs a1 a2 a3 a4 a5 (oks_tail (oks_tail a6)) a7) (fun h => kf h r ?_ ν H ls locs a1 a2 a3 a4 a5 (oks_tail (oks_tail a6)) a7)
  · first | (rw [if_pos h] at hr; exact hr) | (rw [if_neg h] at hr; exact hr)
  · first | (rw [if_neg h] at hr; exact hr) | (rw [if_pos h] at hr; exact hr)
theorem g_if_le (K : Cx Γ own cc nL rm) {x : Int32} {off : Int} {tgt : Nat} {o1 o2 : Option ρ} (d : decode cc pc = .ok (.ifCond .le off, 3)) (ht : (pc : Int) + off = (tgt : Int)) (kt : x ≤ 0 → G Γ mk cells slots tgt L st σ o1) (kf : ¬ x ≤ 0 → G Γ mk cells slots (pc + 3) L st σ o2) : G Γ mk cells slots pc L (.int x :: st) σ (if x ≤ 0 then o1 else o2) := by
  obtain ⟨p, l, e, R, s, m, args, below, meth, c, D, dA, Hl, ν0, N0, Qr⟩ := Γ
  obtain ⟨hx, hb, hml, hown, hts, hF, hlk, htr, hR⟩ := K
  intro r hr ν H ls locs a1 a2 a3 a4 a5 a6 a7
  refine lv_if_le hx hb d ht (fun h => kt h r ?_ ν H ls locs a1 a2 a3 a4 a5 (oks_tail a6) a7) (fun h => kf h r ?_ ν H ls locs a1 a2 a3 a4 a5 (oks_tail a6) a7)
  · first | (rw [if_pos h] at hr; exact hr) | (rw [if_neg h] at hr; exact hr)
  · first | (rw [if_neg h] at hr; exact hr) | (rw [if_pos h] at hr; exact hr)
theorem g_icmp_le (K : Cx Γ own cc nL rm) {x y : Int32} {off : Int} {tgt : Nat} {o1 o2 : Option ρ} (d : decode cc pc = .ok (.if_icmp .le off, 3)) (ht : (pc : Int) + off = (tgt : Int)) (kt : x ≤ y → G Γ mk cells slots tgt L st σ o1) (kf : ¬ x ≤ y → G Γ mk cells slots (pc + 3) L st σ o2) : G Γ mk cells slots pc L (.int y :: .int x :: st) σ (if x ≤ y then o1 else o2) := by
  obtain ⟨p, l, e, R, s, m, args, below, meth, c, D, dA, Hl, ν0, N0, Qr⟩ := Γ
  obtain ⟨hx, hb, hml, hown, hts, hF, hlk, htr, hR⟩ := K
  intro r hr ν H ls locs a1 a2 a3 a4 a5 a6 a7
  refine lv_icmp_le hx hb d ht (fun h => kt h r ?_ ν H ls locs a1 a2 a3 a4 a5 (oks_tail (oks_tail a6)) a7) (fun h => kf h r ?_ ν H ls locs a1 a2 a3 a4 a5 (oks_tail (oks_tail a6)) a7)
  · first | (rw [if_pos h] at hr; exact hr) | (rw [if_neg h] at hr; exact hr)
  · first | (rw [if_neg h] at hr; exact hr) | (rw [if_pos h] at hr; exact hr)
theorem g_goto (K : Cx Γ own cc nL rm) {off : Int} {tgt : Nat} (d : decode cc pc = .ok (.goto off, 3)) (ht : (pc : Int) + off = (tgt : Int)) (k : G Γ mk cells slots tgt L st σ o) : G Γ mk cells slots pc L st σ o := by
  obtain ⟨p, l, e, R, s, m, args, below, meth, c, D, dA, Hl, ν0, N0, Qr⟩ := Γ
  obtain ⟨hx, hb, hml, hown, hts, hF, hlk, htr, hR⟩ := K
  intro r hr ν H ls locs a1 a2 a3 a4 a5 a6 a7
  exact lv_goto hx hb d ht (k r hr ν H ls locs a1 a2 a3 a4 a5 a6 a7)
theorem g_ifnull (K : Cx Γ own cc nL rm) {a : Nat} {off : Int} (d : decode cc pc = .ok (.ifnull off, 3)) (k : G Γ mk cells slots (pc + 3) L st σ o) : G Γ mk cells slots pc L (.ref a :: st) σ o := by
  obtain ⟨p, l, e, R, s, m, args, below, meth, c, D, dA, Hl, ν0, N0, Qr⟩ := Γ
  obtain ⟨hx, hb, hml, hown, hts, hF, hlk, htr, hR⟩ := K
  intro r hr ν H ls locs a1 a2 a3 a4 a5 a6 a7
  exact lv_ifnull hx hb d (k r hr ν H ls locs a1 a2 a3 a4 a5 (oks_tail a6) a7)
theorem g_ifnullN (K : Cx Γ own cc nL rm) {off : Int} {tgt : Nat} (d : decode cc pc = .ok (.ifnull off, 3)) (ht : (pc : Int) + off = (tgt : Int)) (k : G Γ mk cells slots tgt L st σ o) : G Γ mk cells slots pc L (.null :: st) σ o := by
  obtain ⟨p, l, e, R, s, m, args, below, meth, c, D, dA, Hl, ν0, N0, Qr⟩ := Γ
  obtain ⟨hx, hb, hml, hown, hts, hF, hlk, htr, hR⟩ := K
  intro r hr ν H ls locs a1 a2 a3 a4 a5 a6 a7
  exact lv_ifnullN hx hb d ht (k r hr ν H ls locs a1 a2 a3 a4 a5 (oks_tail a6) a7)
theorem g_ifnonnull (K : Cx Γ own cc nL rm) {a : Nat} {off : Int} {tgt : Nat} (d : decode cc pc = .ok (.ifnonnull off, 3)) (ht : (pc : Int) + off = (tgt : Int)) (k : G Γ mk cells slots tgt L st σ o) : G Γ mk cells slots pc L (.ref a :: st) σ o := by
  obtain ⟨p, l, e, R, s, m, args, below, meth, c, D, dA, Hl, ν0, N0, Qr⟩ := Γ
  obtain ⟨hx, hb, hml, hown, hts, hF, hlk, htr, hR⟩ := K
  intro r hr ν H ls locs a1 a2 a3 a4 a5 a6 a7
  exact lv_ifnonnull hx hb d ht (k r hr ν H ls locs a1 a2 a3 a4 a5 (oks_tail a6) a7)
theorem g_ifnonnullN (K : Cx Γ own cc nL rm) {off : Int} (d : decode cc pc = .ok (.ifnonnull off, 3)) (k : G Γ mk cells slots (pc + 3) L st σ o) : G Γ mk cells slots pc L (.null :: st) σ o := by
  obtain ⟨p, l, e, R, s, m, args, below, meth, c, D, dA, Hl, ν0, N0, Qr⟩ := Γ
  obtain ⟨hx, hb, hml, hown, hts, hF, hlk, htr, hR⟩ := K
  intro r hr ν H ls locs a1 a2 a3 a4 a5 a6 a7
  exact lv_ifnonnullN hx hb d (k r hr ν H ls locs a1 a2 a3 a4 a5 (oks_tail a6) a7)
theorem g_tableIn (K : Cx Γ own cc nL rm) {dflt lo hi : Int} {offs : Array Int} {len : Nat} {x : Int32} {off : Int} {tgt : Nat} (d : decode cc pc = .ok (.tableswitch dflt lo hi offs, len)) (h1 : ¬ x.toInt < lo) (h2 : ¬ hi < x.toInt) (ho : offs[(x.toInt - lo).toNat]? = some off) (ht : (pc : Int) + off = (tgt : Int)) (k : G Γ mk cells slots tgt L st σ o) : G Γ mk cells slots pc L (.int x :: st) σ o := by
  obtain ⟨p, l, e, R, s, m, args, below, meth, c, D, dA, Hl, ν0, N0, Qr⟩ := Γ
  obtain ⟨hx, hb, hml, hown, hts, hF, hlk, htr, hR⟩ := K
  intro r hr ν H ls locs a1 a2 a3 a4 a5 a6 a7
  exact lv_tableIn hx hb d h1 h2 ho ht (k r hr ν H ls locs a1 a2 a3 a4 a5 (oks_tail a6) a7)
theorem g_tableOut (K : Cx Γ own cc nL rm) {dflt lo hi : Int} {offs : Array Int} {len : Nat} {x : Int32} {tgt : Nat} (d : decode cc pc = .ok (.tableswitch dflt lo hi offs, len)) (h : x.toInt < lo ∨ hi < x.toInt) (ht : (pc : Int) + dflt = (tgt : Int)) (k : G Γ mk cells slots tgt L st σ o) : G Γ mk cells slots pc L (.int x :: st) σ o := by
  obtain ⟨p, l, e, R, s, m, args, below, meth, c, D, dA, Hl, ν0, N0, Qr⟩ := Γ
  obtain ⟨hx, hb, hml, hown, hts, hF, hlk, htr, hR⟩ := K
  intro r hr ν H ls locs a1 a2 a3 a4 a5 a6 a7
  exact lv_tableOut hx hb d h ht (k r hr ν H ls locs a1 a2 a3 a4 a5 (oks_tail a6) a7)
end GR
