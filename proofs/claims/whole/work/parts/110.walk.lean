-- TapirGroup.markAtAllUp(III)V
def y_G_markAtAllUp : MethodName := ⟨"TapirGroup", "markAtAllUp", "(III)V"⟩
abbrev rm_G_markAtAllUp : Room := { frames := 2, cells := 0, slots := 0, locals := 45 }
theorem d_G_markAtAllUp_0 : decode prog_1_method_30_code 0 = .ok (.iconst 0, 1) := by decide +kernel
theorem d_G_markAtAllUp_1 : decode prog_1_method_30_code 1 = .ok (.istore 4, 2) := by decide +kernel
theorem d_G_markAtAllUp_3 : decode prog_1_method_30_code 3 = .ok (.iload 4, 2) := by decide +kernel
theorem d_G_markAtAllUp_5 : decode prog_1_method_30_code 5 = .ok (.iconst 3, 1) := by decide +kernel
theorem d_G_markAtAllUp_6 : decode prog_1_method_30_code 6 = .ok (.if_icmp .ge 35, 3) := by decide +kernel
theorem d_G_markAtAllUp_9 : decode prog_1_method_30_code 9 = .ok (.aload_n 0, 1) := by decide +kernel
theorem d_G_markAtAllUp_10 : decode prog_1_method_30_code 10 = .ok (.getfield 11, 3) := by decide +kernel
theorem d_G_markAtAllUp_13 : decode prog_1_method_30_code 13 = .ok (.iload 4, 2) := by decide +kernel
theorem d_G_markAtAllUp_15 : decode prog_1_method_30_code 15 = .ok (.aaload, 1) := by decide +kernel
theorem d_G_markAtAllUp_16 : decode prog_1_method_30_code 16 = .ok (.getfield 220, 3) := by decide +kernel
theorem d_G_markAtAllUp_19 : decode prog_1_method_30_code 19 = .ok (.ifCond .eq 16, 3) := by decide +kernel
theorem d_G_markAtAllUp_22 : decode prog_1_method_30_code 22 = .ok (.aload_n 0, 1) := by decide +kernel
theorem d_G_markAtAllUp_23 : decode prog_1_method_30_code 23 = .ok (.getfield 11, 3) := by decide +kernel
theorem d_G_markAtAllUp_26 : decode prog_1_method_30_code 26 = .ok (.iload 4, 2) := by decide +kernel
theorem d_G_markAtAllUp_28 : decode prog_1_method_30_code 28 = .ok (.aaload, 1) := by decide +kernel
theorem d_G_markAtAllUp_29 : decode prog_1_method_30_code 29 = .ok (.iload_n 1, 1) := by decide +kernel
theorem d_G_markAtAllUp_30 : decode prog_1_method_30_code 30 = .ok (.iload_n 2, 1) := by decide +kernel
theorem d_G_markAtAllUp_31 : decode prog_1_method_30_code 31 = .ok (.iload_n 3, 1) := by decide +kernel
theorem d_G_markAtAllUp_32 : decode prog_1_method_30_code 32 = .ok (.invokevirtual 212, 3) := by decide +kernel
theorem d_G_markAtAllUp_35 : decode prog_1_method_30_code 35 = .ok (.iinc 4 1, 3) := by decide +kernel
theorem d_G_markAtAllUp_38 : decode prog_1_method_30_code 38 = .ok (.goto (-35), 3) := by decide +kernel
theorem d_G_markAtAllUp_41 : decode prog_1_method_30_code 41 = .ok (.return_, 1) := by decide +kernel
theorem cn_G_markAtAllUp : CN y_G_markAtAllUp (.code y_G_markAtAllUp prog_1_method_30_code 5 none) prog_1_method_30_code 5 none [] 3 := ⟨Or.inl ⟨rfl, rfl⟩, mw_552, mw_1, ⟨by decide +kernel, by decide +kernel⟩, by decide +kernel⟩
def b_G_markAtAllUp_35 (k : Sg → Nat → Int32 → Int32 → Int32 → Int32 → Option Sg) (σ : Sg) (a0 : Nat) (x1 : Int32) (x2 : Int32) (x3 : Int32) (x4 : Int32) : Option Sg := (k σ a0 x1 x2 x3 (x4 + 1))
set_option maxRecDepth 100000 in
set_option maxHeartbeats 4000000 in
theorem gb_G_markAtAllUp_35 {Γ : GX} (K : Cx Γ "TapirGroup" prog_1_method_30_code 5 rm_G_markAtAllUp) (S : Std Γ none) (T : Tb Γ []) (hI : y_G_markAtAllUp.name = "<init>" → Ini Γ) (k : Sg → Nat → Int32 → Int32 → Int32 → Int32 → Option Sg) (hk : ∀ (σ : Sg) (a0 : Nat) (x1 : Int32) (x2 : Int32) (x3 : Int32) (x4 : Int32), G Γ mkV 0 0 3 [(0, .ref a0), (1, .int x1), (2, .int x2), (3, .int x3), (4, .int x4)] [] σ (k σ a0 x1 x2 x3 x4)) (σ : Sg) (a0 : Nat) (x1 : Int32) (x2 : Int32) (x3 : Int32) (x4 : Int32) : G Γ mkV 0 0 35 [(0, .ref a0), (1, .int x1), (2, .int x2), (3, .int x3), (4, .int x4)] [] σ (b_G_markAtAllUp_35 k σ a0 x1 x2 x3 x4) := by
  unfold b_G_markAtAllUp_35
  refine g_iinc (pc := 35) (j := 4) (v := (x4 + 1)) (L' := [(4, .int (x4 + 1)), (0, .ref a0), (1, .int x1), (2, .int x2), (3, .int x3)]) K d_G_markAtAllUp_35 rfl (by rfl) (by decide) rfl ?_
  refine g_goto (pc := 38) (tgt := 3) K d_G_markAtAllUp_38 (by decide) ?_
  refine g_sub (L' := [(0, .ref a0), (1, .int x1), (2, .int x2), (3, .int x3), (4, .int (x4 + 1))]) [1, 2, 3, 4, 0] rfl ?_
  exact hk σ a0 x1 x2 x3 (x4 + 1)
def b_G_markAtAllUp_3 : Nat → Sg → Nat → Int32 → Int32 → Int32 → Int32 → Option Sg
  | 0 => fun _ _ _ _ _ _ => none
  | n + 1 => fun σ a0 x1 x2 x3 x4 => (if (3 : Int32) ≤ x4 then (some σ) else (if a0 < σ.1 ∧ kd a0 = 3 then rc (g_r σ a0 0) none (fun b1 => (if (b1 < σ.1 ∧ kd b1 = 13) ∧ inb x4 (ln b1) = true then rc (g_r σ b1 x4.toNatClampNeg) none (fun b2 => (if b2 < σ.1 ∧ kd b2 = 1 then (if (g_i σ b2 0) = 0 then (b_G_markAtAllUp_35 (b_G_markAtAllUp_3 n) σ a0 x1 x2 x3 x4) else (if a0 < σ.1 ∧ kd a0 = 3 then rc (g_r σ a0 0) none (fun b3 => (if (b3 < σ.1 ∧ kd b3 = 13) ∧ inb x4 (ln b3) = true then rc (g_r σ b3 x4.toNatClampNeg) none (fun b4 => (if b4 < σ.1 ∧ kd b4 = 1 then (f_R_mark σ b4 x1 x2 x3).bind (fun s5 => (b_G_markAtAllUp_35 (b_G_markAtAllUp_3 n) s5 a0 x1 x2 x3 x4)) else none)) else none)) else none)) else none)) else none)) else none))
set_option maxRecDepth 100000 in
set_option maxHeartbeats 4000000 in
theorem gb_G_markAtAllUp_3 {Γ : GX} (K : Cx Γ "TapirGroup" prog_1_method_30_code 5 rm_G_markAtAllUp) (S : Std Γ none) (T : Tb Γ []) (hI : y_G_markAtAllUp.name = "<init>" → Ini Γ) (n : Nat) : ∀ (σ : Sg) (a0 : Nat) (x1 : Int32) (x2 : Int32) (x3 : Int32) (x4 : Int32), G Γ mkV 0 0 3 [(0, .ref a0), (1, .int x1), (2, .int x2), (3, .int x3), (4, .int x4)] [] σ (b_G_markAtAllUp_3 n σ a0 x1 x2 x3 x4) := by
  induction n with
  | zero =>
    intro σ a0 x1 x2 x3 x4
    exact g_none
  | succ n ih =>
    intro σ a0 x1 x2 x3 x4
    rw [b_G_markAtAllUp_3]
    refine g_iload (pc := 3) (j := 4) K d_G_markAtAllUp_3 rfl ?_
    refine g_iconst (pc := 5) (v := 3) K d_G_markAtAllUp_5 (by decide) ?_
    refine g_icmp_ge (pc := 6) (tgt := 41) K d_G_markAtAllUp_6 (by decide) (fun _ => ?_) (fun _ => ?_)
    · exact g_vret (pc := 41) K S d_G_markAtAllUp_41 (by decide) (by decide) rfl
    · refine g_aload_n (pc := 9) (j := 0) K d_G_markAtAllUp_9 rfl ?_
      refine g_getR (pc := 10) K fl_G_11 d_G_markAtAllUp_10 (fun _ => ?_) (fun b1 _ => ?_)
      · exact g_none
      · refine g_iload (pc := 13) (j := 4) K d_G_markAtAllUp_13 rfl ?_
        refine g_aald (pc := 15) (kq := 13) (t0 := 3) K (by decide) (fun _ => rfl) d_G_markAtAllUp_15 (fun _ => ?_) (fun b2 _ => ?_)
        · exact g_none
        · refine g_getI (pc := 16) K fl_G_220 d_G_markAtAllUp_16 ?_
          refine g_if_eq (pc := 19) (tgt := 35) K d_G_markAtAllUp_19 (by decide) (fun _ => ?_) (fun _ => ?_)
          · exact gb_G_markAtAllUp_35 K S T hI (b_G_markAtAllUp_3 n) ih σ a0 x1 x2 x3 x4
          · refine g_aload_n (pc := 22) (j := 0) K d_G_markAtAllUp_22 rfl ?_
            refine g_getR (pc := 23) K fl_G_11 d_G_markAtAllUp_23 (fun _ => ?_) (fun b3 _ => ?_)
            · exact g_none
            · refine g_iload (pc := 26) (j := 4) K d_G_markAtAllUp_26 rfl ?_
              refine g_aald (pc := 28) (kq := 13) (t0 := 3) K (by decide) (fun _ => rfl) d_G_markAtAllUp_28 (fun _ => ?_) (fun b4 _ => ?_)
              · exact g_none
              · refine g_iload_n (pc := 29) (j := 1) K d_G_markAtAllUp_29 rfl ?_
                refine g_iload_n (pc := 30) (j := 2) K d_G_markAtAllUp_30 rfl ?_
                refine g_iload_n (pc := 31) (j := 3) K d_G_markAtAllUp_31 rfl ?_
                refine g_callV (pc := 32) (ci := 1) (a := b4) (vs := [.int x1, .int x2, .int x3]) (st := []) (mkc := mkV) K rfl (by decide) cn_R_mark (fun l hl r hr => k_R_mark l hl _ _ _ _ _ r hr) mw_502 mw_503 mw_504 ⟨by decide, by decide, by decide, by decide⟩ d_G_markAtAllUp_32 rfl rfl (Nat.le_of_ble_eq_true rfl) (fun s5 _ => ?_)
                change G Γ mkV 0 0 35 [(0, .ref a0), (1, .int x1), (2, .int x2), (3, .int x3), (4, .int x4)] [] s5 _
                exact gb_G_markAtAllUp_35 K S T hI (b_G_markAtAllUp_3 n) ih s5 a0 x1 x2 x3 x4
def f_G_markAtAllUp (σ : Sg) (a0 : Nat) (x1 : Int32) (x2 : Int32) (x3 : Int32) : Option Sg := (b_G_markAtAllUp_3 1000 σ a0 x1 x2 x3 (0 : Int32))
set_option maxRecDepth 100000 in
set_option maxHeartbeats 4000000 in
theorem k_G_markAtAllUp (l : Launch) (hl : l.stackTraces = false) (σ : Sg) (a0 : Nat) (x1 : Int32) (x2 : Int32) (x3 : Int32) (r : Sg) (h : f_G_markAtAllUp σ a0 x1 x2 x3 = some r) : Con l y_G_markAtAllUp (.code y_G_markAtAllUp prog_1_method_30_code 5 none) rm_G_markAtAllUp [.ref a0, .int x1, .int x2, .int x3] σ (mkV r) := by
  refine Con.of (mk := mkV) (o := f_G_markAtAllUp σ a0 x1 x2 x3) (z := r) (L0 := [(0, .ref a0), (1, .int x1), (2, .int x2), (3, .int x3)]) (bytes := prog_1_method_30_code) (maxL := 5) (ret := none) (hh := []) hl (by decide +kernel) (Or.inl ⟨rfl, rfl⟩) (by simp [Value.category]) (Nat.le_of_ble_eq_true rfl) rfl (fun Γ K S T hI => ?_) h rfl
  unfold f_G_markAtAllUp
  refine g_iconst (pc := 0) (v := 0) K d_G_markAtAllUp_0 (by decide) ?_
  refine g_istore (pc := 1) (L' := [(4, .int (0 : Int32)), (0, .ref a0), (1, .int x1), (2, .int x2), (3, .int x3)]) K d_G_markAtAllUp_1 (by decide) rfl ?_
  refine g_sub (L' := [(0, .ref a0), (1, .int x1), (2, .int x2), (3, .int x3), (4, .int (0 : Int32))]) [1, 2, 3, 4, 0] rfl ?_
  exact gb_G_markAtAllUp_3 K S T hI 1000 σ a0 x1 x2 x3 (0 : Int32)
-- TapirGroup.someUpKnows(I)Z
def y_G_someUpKnows : MethodName := ⟨"TapirGroup", "someUpKnows", "(I)Z"⟩
abbrev rm_G_someUpKnows : Room := { frames := 1, cells := 0, slots := 0, locals := 21 }
theorem d_G_someUpKnows_0 : decode prog_1_method_29_code 0 = .ok (.iconst 0, 1) := by decide +kernel
theorem d_G_someUpKnows_1 : decode prog_1_method_29_code 1 = .ok (.istore_n 2, 1) := by decide +kernel
theorem d_G_someUpKnows_2 : decode prog_1_method_29_code 2 = .ok (.iload_n 2, 1) := by decide +kernel
theorem d_G_someUpKnows_3 : decode prog_1_method_29_code 3 = .ok (.iconst 3, 1) := by decide +kernel
theorem d_G_someUpKnows_4 : decode prog_1_method_29_code 4 = .ok (.if_icmp .ge 36, 3) := by decide +kernel
theorem d_G_someUpKnows_7 : decode prog_1_method_29_code 7 = .ok (.aload_n 0, 1) := by decide +kernel
theorem d_G_someUpKnows_8 : decode prog_1_method_29_code 8 = .ok (.getfield 11, 3) := by decide +kernel
theorem d_G_someUpKnows_11 : decode prog_1_method_29_code 11 = .ok (.iload_n 2, 1) := by decide +kernel
theorem d_G_someUpKnows_12 : decode prog_1_method_29_code 12 = .ok (.aaload, 1) := by decide +kernel
theorem d_G_someUpKnows_13 : decode prog_1_method_29_code 13 = .ok (.getfield 220, 3) := by decide +kernel
theorem d_G_someUpKnows_16 : decode prog_1_method_29_code 16 = .ok (.ifCond .eq 18, 3) := by decide +kernel
theorem d_G_someUpKnows_19 : decode prog_1_method_29_code 19 = .ok (.aload_n 0, 1) := by decide +kernel
theorem d_G_someUpKnows_20 : decode prog_1_method_29_code 20 = .ok (.getfield 11, 3) := by decide +kernel
theorem d_G_someUpKnows_23 : decode prog_1_method_29_code 23 = .ok (.iload_n 2, 1) := by decide +kernel
theorem d_G_someUpKnows_24 : decode prog_1_method_29_code 24 = .ok (.aaload, 1) := by decide +kernel
theorem d_G_someUpKnows_25 : decode prog_1_method_29_code 25 = .ok (.iload_n 1, 1) := by decide +kernel
theorem d_G_someUpKnows_26 : decode prog_1_method_29_code 26 = .ok (.invokevirtual 152, 3) := by decide +kernel
theorem d_G_someUpKnows_29 : decode prog_1_method_29_code 29 = .ok (.ifCond .eq 5, 3) := by decide +kernel
theorem d_G_someUpKnows_32 : decode prog_1_method_29_code 32 = .ok (.iconst 1, 1) := by decide +kernel
theorem d_G_someUpKnows_33 : decode prog_1_method_29_code 33 = .ok (.ireturn, 1) := by decide +kernel
theorem d_G_someUpKnows_34 : decode prog_1_method_29_code 34 = .ok (.iinc 2 1, 3) := by decide +kernel
theorem d_G_someUpKnows_37 : decode prog_1_method_29_code 37 = .ok (.goto (-35), 3) := by decide +kernel
theorem d_G_someUpKnows_40 : decode prog_1_method_29_code 40 = .ok (.iconst 0, 1) := by decide +kernel
theorem d_G_someUpKnows_41 : decode prog_1_method_29_code 41 = .ok (.ireturn, 1) := by decide +kernel
theorem cn_G_someUpKnows : CN y_G_someUpKnows (.code y_G_someUpKnows prog_1_method_29_code 3 (some .boolean)) prog_1_method_29_code 3 (some .boolean) [] 1 := ⟨Or.inl ⟨rfl, rfl⟩, mw_556, mw_1, ⟨by decide +kernel, by decide +kernel⟩, by decide +kernel⟩
def b_G_someUpKnows_34 (σ : Sg) (k : Nat → Int32 → Int32 → Option Int32) (a0 : Nat) (x1 : Int32) (x2 : Int32) : Option Int32 := (k a0 x1 (x2 + 1))
set_option maxRecDepth 100000 in
set_option maxHeartbeats 4000000 in
theorem gb_G_someUpKnows_34 {Γ : GX} (K : Cx Γ "TapirGroup" prog_1_method_29_code 3 rm_G_someUpKnows) (S : Std Γ (some .boolean)) (T : Tb Γ []) (hI : y_G_someUpKnows.name = "<init>" → Ini Γ) (σ : Sg) (k : Nat → Int32 → Int32 → Option Int32) (hk : ∀ (a0 : Nat) (x1 : Int32) (x2 : Int32), G Γ (mkI σ) 0 0 2 [(0, .ref a0), (1, .int x1), (2, .int x2)] [] σ (k a0 x1 x2)) (a0 : Nat) (x1 : Int32) (x2 : Int32) : G Γ (mkI σ) 0 0 34 [(0, .ref a0), (1, .int x1), (2, .int x2)] [] σ (b_G_someUpKnows_34 σ k a0 x1 x2) := by
  unfold b_G_someUpKnows_34
  refine g_iinc (pc := 34) (j := 2) (v := (x2 + 1)) (L' := [(2, .int (x2 + 1)), (0, .ref a0), (1, .int x1)]) K d_G_someUpKnows_34 rfl (by rfl) (by decide) rfl ?_
  refine g_goto (pc := 37) (tgt := 2) K d_G_someUpKnows_37 (by decide) ?_
  refine g_sub (L' := [(0, .ref a0), (1, .int x1), (2, .int (x2 + 1))]) [1, 2, 0] rfl ?_
  exact hk a0 x1 (x2 + 1)
def b_G_someUpKnows_2 (σ : Sg) : Nat → Nat → Int32 → Int32 → Option Int32
  | 0 => fun _ _ _ => none
  | n + 1 => fun a0 x1 x2 => (if (3 : Int32) ≤ x2 then (some (0 : Int32)) else (if a0 < σ.1 ∧ kd a0 = 3 then rc (g_r σ a0 0) none (fun b1 => (if (b1 < σ.1 ∧ kd b1 = 13) ∧ inb x2 (ln b1) = true then rc (g_r σ b1 x2.toNatClampNeg) none (fun b2 => (if b2 < σ.1 ∧ kd b2 = 1 then (if (g_i σ b2 0) = 0 then (b_G_someUpKnows_34 σ (b_G_someUpKnows_2 σ n) a0 x1 x2) else (if a0 < σ.1 ∧ kd a0 = 3 then rc (g_r σ a0 0) none (fun b3 => (if (b3 < σ.1 ∧ kd b3 = 13) ∧ inb x2 (ln b3) = true then rc (g_r σ b3 x2.toNatClampNeg) none (fun b4 => (if b4 < σ.1 ∧ kd b4 = 1 then (f_R_knows σ b4 x1).bind (fun v5 => (if v5 = 0 then (b_G_someUpKnows_34 σ (b_G_someUpKnows_2 σ n) a0 x1 x2) else (some (1 : Int32)))) else none)) else none)) else none)) else none)) else none)) else none))
set_option maxRecDepth 100000 in
set_option maxHeartbeats 4000000 in
theorem gb_G_someUpKnows_2 {Γ : GX} (K : Cx Γ "TapirGroup" prog_1_method_29_code 3 rm_G_someUpKnows) (S : Std Γ (some .boolean)) (T : Tb Γ []) (hI : y_G_someUpKnows.name = "<init>" → Ini Γ) (σ : Sg) (n : Nat) : ∀ (a0 : Nat) (x1 : Int32) (x2 : Int32), G Γ (mkI σ) 0 0 2 [(0, .ref a0), (1, .int x1), (2, .int x2)] [] σ (b_G_someUpKnows_2 σ n a0 x1 x2) := by
  induction n with
  | zero =>
    intro a0 x1 x2
    exact g_none
  | succ n ih =>
    intro a0 x1 x2
    rw [b_G_someUpKnows_2]
    refine g_iload_n (pc := 2) (j := 2) K d_G_someUpKnows_2 rfl ?_
    refine g_iconst (pc := 3) (v := 3) K d_G_someUpKnows_3 (by decide) ?_
    refine g_icmp_ge (pc := 4) (tgt := 40) K d_G_someUpKnows_4 (by decide) (fun _ => ?_) (fun _ => ?_)
    · refine g_iconst (pc := 40) (v := 0) K d_G_someUpKnows_40 (by decide) ?_
      exact g_iret (pc := 41) K S rfl d_G_someUpKnows_41 (by decide) (by decide) rfl
    · refine g_aload_n (pc := 7) (j := 0) K d_G_someUpKnows_7 rfl ?_
      refine g_getR (pc := 8) K fl_G_11 d_G_someUpKnows_8 (fun _ => ?_) (fun b1 _ => ?_)
      · exact g_none
      · refine g_iload_n (pc := 11) (j := 2) K d_G_someUpKnows_11 rfl ?_
        refine g_aald (pc := 12) (kq := 13) (t0 := 3) K (by decide) (fun _ => rfl) d_G_someUpKnows_12 (fun _ => ?_) (fun b2 _ => ?_)
        · exact g_none
        · refine g_getI (pc := 13) K fl_G_220 d_G_someUpKnows_13 ?_
          refine g_if_eq (pc := 16) (tgt := 34) K d_G_someUpKnows_16 (by decide) (fun _ => ?_) (fun _ => ?_)
          · exact gb_G_someUpKnows_34 K S T hI σ (b_G_someUpKnows_2 σ n) ih a0 x1 x2
          · refine g_aload_n (pc := 19) (j := 0) K d_G_someUpKnows_19 rfl ?_
            refine g_getR (pc := 20) K fl_G_11 d_G_someUpKnows_20 (fun _ => ?_) (fun b3 _ => ?_)
            · exact g_none
            · refine g_iload_n (pc := 23) (j := 2) K d_G_someUpKnows_23 rfl ?_
              refine g_aald (pc := 24) (kq := 13) (t0 := 3) K (by decide) (fun _ => rfl) d_G_someUpKnows_24 (fun _ => ?_) (fun b4 _ => ?_)
              · exact g_none
              · refine g_iload_n (pc := 25) (j := 1) K d_G_someUpKnows_25 rfl ?_
                refine g_callV (pc := 26) (ci := 1) (a := b4) (vs := [.int x1]) (st := []) (mkc := mkI σ) K rfl (by decide) cn_R_knows (fun l hl r hr => k_R_knows l hl _ _ _ r hr) mw_408 mw_409 mw_410 ⟨by decide, by decide, by decide, by decide⟩ d_G_someUpKnows_26 rfl rfl (Nat.le_of_ble_eq_true rfl) (fun v5 _ => ?_)
                change G Γ (mkI σ) 0 0 29 [(0, .ref a0), (1, .int x1), (2, .int x2)] [.int v5] σ _
                refine g_if_eq (pc := 29) (tgt := 34) K d_G_someUpKnows_29 (by decide) (fun _ => ?_) (fun _ => ?_)
                · exact gb_G_someUpKnows_34 K S T hI σ (b_G_someUpKnows_2 σ n) ih a0 x1 x2
                · refine g_iconst (pc := 32) (v := 1) K d_G_someUpKnows_32 (by decide) ?_
                  exact g_iret (pc := 33) K S rfl d_G_someUpKnows_33 (by decide) (by decide) rfl
def f_G_someUpKnows (σ : Sg) (a0 : Nat) (x1 : Int32) : Option Int32 := (b_G_someUpKnows_2 σ 1000 a0 x1 (0 : Int32))
set_option maxRecDepth 100000 in
set_option maxHeartbeats 4000000 in
theorem k_G_someUpKnows (l : Launch) (hl : l.stackTraces = false) (σ : Sg) (a0 : Nat) (x1 : Int32) (r : Int32) (h : f_G_someUpKnows σ a0 x1 = some r) : Con l y_G_someUpKnows (.code y_G_someUpKnows prog_1_method_29_code 3 (some .boolean)) rm_G_someUpKnows [.ref a0, .int x1] σ ((mkI σ) r) := by
  refine Con.of (mk := (mkI σ)) (o := f_G_someUpKnows σ a0 x1) (z := r) (L0 := [(0, .ref a0), (1, .int x1)]) (bytes := prog_1_method_29_code) (maxL := 3) (ret := (some .boolean)) (hh := []) hl (by decide +kernel) (Or.inl ⟨rfl, rfl⟩) (by simp [Value.category]) (Nat.le_of_ble_eq_true rfl) rfl (fun Γ K S T hI => ?_) h rfl
  unfold f_G_someUpKnows
  refine g_iconst (pc := 0) (v := 0) K d_G_someUpKnows_0 (by decide) ?_
  refine g_istore_n (pc := 1) (L' := [(2, .int (0 : Int32)), (0, .ref a0), (1, .int x1)]) K d_G_someUpKnows_1 (by decide) rfl ?_
  refine g_sub (L' := [(0, .ref a0), (1, .int x1), (2, .int (0 : Int32))]) [1, 2, 0] rfl ?_
  exact gb_G_someUpKnows_2 K S T hI σ 1000 a0 x1 (0 : Int32)
-- TapirGroup.upCountWith(II)I
def y_G_upCountWith : MethodName := ⟨"TapirGroup", "upCountWith", "(II)I"⟩
abbrev rm_G_upCountWith : Room := { frames := 2, cells := 0, slots := 0, locals := 42 }
theorem d_G_upCountWith_0 : decode prog_1_method_32_code 0 = .ok (.iconst 0, 1) := by decide +kernel
theorem d_G_upCountWith_1 : decode prog_1_method_32_code 1 = .ok (.istore_n 3, 1) := by decide +kernel
theorem d_G_upCountWith_2 : decode prog_1_method_32_code 2 = .ok (.iconst 0, 1) := by decide +kernel
theorem d_G_upCountWith_3 : decode prog_1_method_32_code 3 = .ok (.istore 4, 2) := by decide +kernel
theorem d_G_upCountWith_5 : decode prog_1_method_32_code 5 = .ok (.iload 4, 2) := by decide +kernel
theorem d_G_upCountWith_7 : decode prog_1_method_32_code 7 = .ok (.iconst 3, 1) := by decide +kernel
theorem d_G_upCountWith_8 : decode prog_1_method_32_code 8 = .ok (.if_icmp .ge 40, 3) := by decide +kernel
theorem d_G_upCountWith_11 : decode prog_1_method_32_code 11 = .ok (.aload_n 0, 1) := by decide +kernel
theorem d_G_upCountWith_12 : decode prog_1_method_32_code 12 = .ok (.getfield 11, 3) := by decide +kernel
theorem d_G_upCountWith_15 : decode prog_1_method_32_code 15 = .ok (.iload 4, 2) := by decide +kernel
theorem d_G_upCountWith_17 : decode prog_1_method_32_code 17 = .ok (.aaload, 1) := by decide +kernel
theorem d_G_upCountWith_18 : decode prog_1_method_32_code 18 = .ok (.getfield 220, 3) := by decide +kernel
theorem d_G_upCountWith_21 : decode prog_1_method_32_code 21 = .ok (.ifCond .eq 21, 3) := by decide +kernel
theorem d_G_upCountWith_24 : decode prog_1_method_32_code 24 = .ok (.aload_n 0, 1) := by decide +kernel
theorem d_G_upCountWith_25 : decode prog_1_method_32_code 25 = .ok (.getfield 11, 3) := by decide +kernel
theorem d_G_upCountWith_28 : decode prog_1_method_32_code 28 = .ok (.iload 4, 2) := by decide +kernel
theorem d_G_upCountWith_30 : decode prog_1_method_32_code 30 = .ok (.aaload, 1) := by decide +kernel
theorem d_G_upCountWith_31 : decode prog_1_method_32_code 31 = .ok (.iload_n 1, 1) := by decide +kernel
theorem d_G_upCountWith_32 : decode prog_1_method_32_code 32 = .ok (.invokevirtual 162, 3) := by decide +kernel
theorem d_G_upCountWith_35 : decode prog_1_method_32_code 35 = .ok (.iload_n 2, 1) := by decide +kernel
theorem d_G_upCountWith_36 : decode prog_1_method_32_code 36 = .ok (.if_icmp .ne 6, 3) := by decide +kernel
theorem d_G_upCountWith_39 : decode prog_1_method_32_code 39 = .ok (.iinc 3 1, 3) := by decide +kernel
theorem d_G_upCountWith_42 : decode prog_1_method_32_code 42 = .ok (.iinc 4 1, 3) := by decide +kernel
theorem d_G_upCountWith_45 : decode prog_1_method_32_code 45 = .ok (.goto (-40), 3) := by decide +kernel
theorem d_G_upCountWith_48 : decode prog_1_method_32_code 48 = .ok (.iload_n 3, 1) := by decide +kernel
theorem d_G_upCountWith_49 : decode prog_1_method_32_code 49 = .ok (.ireturn, 1) := by decide +kernel
theorem cn_G_upCountWith : CN y_G_upCountWith (.code y_G_upCountWith prog_1_method_32_code 5 (some .int)) prog_1_method_32_code 5 (some .int) [] 2 := ⟨Or.inl ⟨rfl, rfl⟩, mw_564, mw_1, ⟨by decide +kernel, by decide +kernel⟩, by decide +kernel⟩
def b_G_upCountWith_42 (σ : Sg) (k : Nat → Int32 → Int32 → Int32 → Int32 → Option Int32) (a0 : Nat) (x1 : Int32) (x2 : Int32) (x3 : Int32) (x4 : Int32) : Option Int32 := (k a0 x1 x2 x3 (x4 + 1))
set_option maxRecDepth 100000 in
set_option maxHeartbeats 4000000 in
theorem gb_G_upCountWith_42 {Γ : GX} (K : Cx Γ "TapirGroup" prog_1_method_32_code 5 rm_G_upCountWith) (S : Std Γ (some .int)) (T : Tb Γ []) (hI : y_G_upCountWith.name = "<init>" → Ini Γ) (σ : Sg) (k : Nat → Int32 → Int32 → Int32 → Int32 → Option Int32) (hk : ∀ (a0 : Nat) (x1 : Int32) (x2 : Int32) (x3 : Int32) (x4 : Int32), G Γ (mkI σ) 0 0 5 [(0, .ref a0), (1, .int x1), (2, .int x2), (3, .int x3), (4, .int x4)] [] σ (k a0 x1 x2 x3 x4)) (a0 : Nat) (x1 : Int32) (x2 : Int32) (x3 : Int32) (x4 : Int32) : G Γ (mkI σ) 0 0 42 [(0, .ref a0), (1, .int x1), (2, .int x2), (3, .int x3), (4, .int x4)] [] σ (b_G_upCountWith_42 σ k a0 x1 x2 x3 x4) := by
  unfold b_G_upCountWith_42
  refine g_iinc (pc := 42) (j := 4) (v := (x4 + 1)) (L' := [(4, .int (x4 + 1)), (0, .ref a0), (1, .int x1), (2, .int x2), (3, .int x3)]) K d_G_upCountWith_42 rfl (by rfl) (by decide) rfl ?_
  refine g_goto (pc := 45) (tgt := 5) K d_G_upCountWith_45 (by decide) ?_
  refine g_sub (L' := [(0, .ref a0), (1, .int x1), (2, .int x2), (3, .int x3), (4, .int (x4 + 1))]) [1, 2, 3, 4, 0] rfl ?_
  exact hk a0 x1 x2 x3 (x4 + 1)
def b_G_upCountWith_5 (σ : Sg) : Nat → Nat → Int32 → Int32 → Int32 → Int32 → Option Int32
  | 0 => fun _ _ _ _ _ => none
  | n + 1 => fun a0 x1 x2 x3 x4 => (if (3 : Int32) ≤ x4 then (some x3) else (if a0 < σ.1 ∧ kd a0 = 3 then rc (g_r σ a0 0) none (fun b1 => (if (b1 < σ.1 ∧ kd b1 = 13) ∧ inb x4 (ln b1) = true then rc (g_r σ b1 x4.toNatClampNeg) none (fun b2 => (if b2 < σ.1 ∧ kd b2 = 1 then (if (g_i σ b2 0) = 0 then (b_G_upCountWith_42 σ (b_G_upCountWith_5 σ n) a0 x1 x2 x3 x4) else (if a0 < σ.1 ∧ kd a0 = 3 then rc (g_r σ a0 0) none (fun b3 => (if (b3 < σ.1 ∧ kd b3 = 13) ∧ inb x4 (ln b3) = true then rc (g_r σ b3 x4.toNatClampNeg) none (fun b4 => (if b4 < σ.1 ∧ kd b4 = 1 then (f_R_resultOf σ b4 x1).bind (fun v5 => (if v5 = x2 then (b_G_upCountWith_42 σ (b_G_upCountWith_5 σ n) a0 x1 x2 (x3 + 1) x4) else (b_G_upCountWith_42 σ (b_G_upCountWith_5 σ n) a0 x1 x2 x3 x4))) else none)) else none)) else none)) else none)) else none)) else none))
set_option maxRecDepth 100000 in
set_option maxHeartbeats 4000000 in
theorem gb_G_upCountWith_5 {Γ : GX} (K : Cx Γ "TapirGroup" prog_1_method_32_code 5 rm_G_upCountWith) (S : Std Γ (some .int)) (T : Tb Γ []) (hI : y_G_upCountWith.name = "<init>" → Ini Γ) (σ : Sg) (n : Nat) : ∀ (a0 : Nat) (x1 : Int32) (x2 : Int32) (x3 : Int32) (x4 : Int32), G Γ (mkI σ) 0 0 5 [(0, .ref a0), (1, .int x1), (2, .int x2), (3, .int x3), (4, .int x4)] [] σ (b_G_upCountWith_5 σ n a0 x1 x2 x3 x4) := by
  induction n with
  | zero =>
    intro a0 x1 x2 x3 x4
    exact g_none
  | succ n ih =>
    intro a0 x1 x2 x3 x4
    rw [b_G_upCountWith_5]
    refine g_iload (pc := 5) (j := 4) K d_G_upCountWith_5 rfl ?_
    refine g_iconst (pc := 7) (v := 3) K d_G_upCountWith_7 (by decide) ?_
    refine g_icmp_ge (pc := 8) (tgt := 48) K d_G_upCountWith_8 (by decide) (fun _ => ?_) (fun _ => ?_)
    · refine g_iload_n (pc := 48) (j := 3) K d_G_upCountWith_48 rfl ?_
      exact g_iret (pc := 49) K S rfl d_G_upCountWith_49 (by decide) (by decide) rfl
    · refine g_aload_n (pc := 11) (j := 0) K d_G_upCountWith_11 rfl ?_
      refine g_getR (pc := 12) K fl_G_11 d_G_upCountWith_12 (fun _ => ?_) (fun b1 _ => ?_)
      · exact g_none
      · refine g_iload (pc := 15) (j := 4) K d_G_upCountWith_15 rfl ?_
        refine g_aald (pc := 17) (kq := 13) (t0 := 3) K (by decide) (fun _ => rfl) d_G_upCountWith_17 (fun _ => ?_) (fun b2 _ => ?_)
        · exact g_none
        · refine g_getI (pc := 18) K fl_G_220 d_G_upCountWith_18 ?_
          refine g_if_eq (pc := 21) (tgt := 42) K d_G_upCountWith_21 (by decide) (fun _ => ?_) (fun _ => ?_)
          · exact gb_G_upCountWith_42 K S T hI σ (b_G_upCountWith_5 σ n) ih a0 x1 x2 x3 x4
          · refine g_aload_n (pc := 24) (j := 0) K d_G_upCountWith_24 rfl ?_
            refine g_getR (pc := 25) K fl_G_11 d_G_upCountWith_25 (fun _ => ?_) (fun b3 _ => ?_)
            · exact g_none
            · refine g_iload (pc := 28) (j := 4) K d_G_upCountWith_28 rfl ?_
              refine g_aald (pc := 30) (kq := 13) (t0 := 3) K (by decide) (fun _ => rfl) d_G_upCountWith_30 (fun _ => ?_) (fun b4 _ => ?_)
              · exact g_none
              · refine g_iload_n (pc := 31) (j := 1) K d_G_upCountWith_31 rfl ?_
                refine g_callV (pc := 32) (ci := 1) (a := b4) (vs := [.int x1]) (st := []) (mkc := mkI σ) K rfl (by decide) cn_R_resultOf (fun l hl r hr => k_R_resultOf l hl _ _ _ r hr) mw_447 mw_430 mw_431 ⟨by decide, by decide, by decide, by decide⟩ d_G_upCountWith_32 rfl rfl (Nat.le_of_ble_eq_true rfl) (fun v5 _ => ?_)
                change G Γ (mkI σ) 0 0 35 [(0, .ref a0), (1, .int x1), (2, .int x2), (3, .int x3), (4, .int x4)] [.int v5] σ _
                refine g_iload_n (pc := 35) (j := 2) K d_G_upCountWith_35 rfl ?_
                refine g_icmp_ne (pc := 36) (tgt := 42) K d_G_upCountWith_36 (by decide) (fun _ => ?_) (fun _ => ?_)
                · exact gb_G_upCountWith_42 K S T hI σ (b_G_upCountWith_5 σ n) ih a0 x1 x2 x3 x4
                · refine g_iinc (pc := 39) (j := 3) (v := (x3 + 1)) (L' := [(3, .int (x3 + 1)), (0, .ref a0), (1, .int x1), (2, .int x2), (4, .int x4)]) K d_G_upCountWith_39 rfl (by rfl) (by decide) rfl ?_
                  refine g_sub (L' := [(0, .ref a0), (1, .int x1), (2, .int x2), (3, .int (x3 + 1)), (4, .int x4)]) [1, 2, 3, 0, 4] rfl ?_
                  exact gb_G_upCountWith_42 K S T hI σ (b_G_upCountWith_5 σ n) ih a0 x1 x2 (x3 + 1) x4
def f_G_upCountWith (σ : Sg) (a0 : Nat) (x1 : Int32) (x2 : Int32) : Option Int32 := (b_G_upCountWith_5 σ 1000 a0 x1 x2 (0 : Int32) (0 : Int32))
set_option maxRecDepth 100000 in
set_option maxHeartbeats 4000000 in
theorem k_G_upCountWith (l : Launch) (hl : l.stackTraces = false) (σ : Sg) (a0 : Nat) (x1 : Int32) (x2 : Int32) (r : Int32) (h : f_G_upCountWith σ a0 x1 x2 = some r) : Con l y_G_upCountWith (.code y_G_upCountWith prog_1_method_32_code 5 (some .int)) rm_G_upCountWith [.ref a0, .int x1, .int x2] σ ((mkI σ) r) := by
  refine Con.of (mk := (mkI σ)) (o := f_G_upCountWith σ a0 x1 x2) (z := r) (L0 := [(0, .ref a0), (1, .int x1), (2, .int x2)]) (bytes := prog_1_method_32_code) (maxL := 5) (ret := (some .int)) (hh := []) hl (by decide +kernel) (Or.inl ⟨rfl, rfl⟩) (by simp [Value.category]) (Nat.le_of_ble_eq_true rfl) rfl (fun Γ K S T hI => ?_) h rfl
  unfold f_G_upCountWith
  refine g_iconst (pc := 0) (v := 0) K d_G_upCountWith_0 (by decide) ?_
  refine g_istore_n (pc := 1) (L' := [(3, .int (0 : Int32)), (0, .ref a0), (1, .int x1), (2, .int x2)]) K d_G_upCountWith_1 (by decide) rfl ?_
  refine g_iconst (pc := 2) (v := 0) K d_G_upCountWith_2 (by decide) ?_
  refine g_istore (pc := 3) (L' := [(4, .int (0 : Int32)), (3, .int (0 : Int32)), (0, .ref a0), (1, .int x1), (2, .int x2)]) K d_G_upCountWith_3 (by decide) rfl ?_
  refine g_sub (L' := [(0, .ref a0), (1, .int x1), (2, .int x2), (3, .int (0 : Int32)), (4, .int (0 : Int32))]) [2, 3, 4, 1, 0] rfl ?_
  exact gb_G_upCountWith_5 K S T hI σ 1000 a0 x1 x2 (0 : Int32) (0 : Int32)
-- TapirGroup.mergedResult(II)I
def y_G_mergedResult : MethodName := ⟨"TapirGroup", "mergedResult", "(II)I"⟩
abbrev rm_G_mergedResult : Room := { frames := 3, cells := 0, slots := 0, locals := 66 }
theorem d_G_mergedResult_0 : decode prog_1_method_31_code 0 = .ok (.iconst 0, 1) := by decide +kernel
theorem d_G_mergedResult_1 : decode prog_1_method_31_code 1 = .ok (.istore_n 3, 1) := by decide +kernel
theorem d_G_mergedResult_2 : decode prog_1_method_31_code 2 = .ok (.iload_n 3, 1) := by decide +kernel
theorem d_G_mergedResult_3 : decode prog_1_method_31_code 3 = .ok (.iconst 3, 1) := by decide +kernel
theorem d_G_mergedResult_4 : decode prog_1_method_31_code 4 = .ok (.if_icmp .ge 59, 3) := by decide +kernel
theorem d_G_mergedResult_7 : decode prog_1_method_31_code 7 = .ok (.aload_n 0, 1) := by decide +kernel
theorem d_G_mergedResult_8 : decode prog_1_method_31_code 8 = .ok (.getfield 11, 3) := by decide +kernel
theorem d_G_mergedResult_11 : decode prog_1_method_31_code 11 = .ok (.iload_n 3, 1) := by decide +kernel
theorem d_G_mergedResult_12 : decode prog_1_method_31_code 12 = .ok (.aaload, 1) := by decide +kernel
theorem d_G_mergedResult_13 : decode prog_1_method_31_code 13 = .ok (.getfield 220, 3) := by decide +kernel
theorem d_G_mergedResult_16 : decode prog_1_method_31_code 16 = .ok (.ifCond .eq 41, 3) := by decide +kernel
theorem d_G_mergedResult_19 : decode prog_1_method_31_code 19 = .ok (.aload_n 0, 1) := by decide +kernel
theorem d_G_mergedResult_20 : decode prog_1_method_31_code 20 = .ok (.getfield 11, 3) := by decide +kernel
theorem d_G_mergedResult_23 : decode prog_1_method_31_code 23 = .ok (.iload_n 3, 1) := by decide +kernel
theorem d_G_mergedResult_24 : decode prog_1_method_31_code 24 = .ok (.aaload, 1) := by decide +kernel
theorem d_G_mergedResult_25 : decode prog_1_method_31_code 25 = .ok (.getfield 241, 3) := by decide +kernel
theorem d_G_mergedResult_28 : decode prog_1_method_31_code 28 = .ok (.iload_n 2, 1) := by decide +kernel
theorem d_G_mergedResult_29 : decode prog_1_method_31_code 29 = .ok (.if_icmp .ne 28, 3) := by decide +kernel
theorem d_G_mergedResult_32 : decode prog_1_method_31_code 32 = .ok (.aload_n 0, 1) := by decide +kernel
theorem d_G_mergedResult_33 : decode prog_1_method_31_code 33 = .ok (.getfield 11, 3) := by decide +kernel
theorem d_G_mergedResult_36 : decode prog_1_method_31_code 36 = .ok (.iload_n 3, 1) := by decide +kernel
theorem d_G_mergedResult_37 : decode prog_1_method_31_code 37 = .ok (.aaload, 1) := by decide +kernel
theorem d_G_mergedResult_38 : decode prog_1_method_31_code 38 = .ok (.iload_n 1, 1) := by decide +kernel
theorem d_G_mergedResult_39 : decode prog_1_method_31_code 39 = .ok (.iconst 4, 1) := by decide +kernel
theorem d_G_mergedResult_40 : decode prog_1_method_31_code 40 = .ok (.invokevirtual 188, 3) := by decide +kernel
theorem d_G_mergedResult_43 : decode prog_1_method_31_code 43 = .ok (.ifCond .eq 14, 3) := by decide +kernel
theorem d_G_mergedResult_46 : decode prog_1_method_31_code 46 = .ok (.aload_n 0, 1) := by decide +kernel
theorem d_G_mergedResult_47 : decode prog_1_method_31_code 47 = .ok (.getfield 11, 3) := by decide +kernel
theorem d_G_mergedResult_50 : decode prog_1_method_31_code 50 = .ok (.iload_n 3, 1) := by decide +kernel
theorem d_G_mergedResult_51 : decode prog_1_method_31_code 51 = .ok (.aaload, 1) := by decide +kernel
theorem d_G_mergedResult_52 : decode prog_1_method_31_code 52 = .ok (.iload_n 1, 1) := by decide +kernel
theorem d_G_mergedResult_53 : decode prog_1_method_31_code 53 = .ok (.invokevirtual 162, 3) := by decide +kernel
theorem d_G_mergedResult_56 : decode prog_1_method_31_code 56 = .ok (.ireturn, 1) := by decide +kernel
theorem d_G_mergedResult_57 : decode prog_1_method_31_code 57 = .ok (.iinc 3 1, 3) := by decide +kernel
theorem d_G_mergedResult_60 : decode prog_1_method_31_code 60 = .ok (.goto (-58), 3) := by decide +kernel
theorem d_G_mergedResult_63 : decode prog_1_method_31_code 63 = .ok (.iconst 1, 1) := by decide +kernel
theorem d_G_mergedResult_64 : decode prog_1_method_31_code 64 = .ok (.istore_n 3, 1) := by decide +kernel
theorem d_G_mergedResult_65 : decode prog_1_method_31_code 65 = .ok (.iload_n 3, 1) := by decide +kernel
theorem d_G_mergedResult_66 : decode prog_1_method_31_code 66 = .ok (.iconst 3, 1) := by decide +kernel
theorem d_G_mergedResult_67 : decode prog_1_method_31_code 67 = .ok (.if_icmp .gt 21, 3) := by decide +kernel
theorem d_G_mergedResult_70 : decode prog_1_method_31_code 70 = .ok (.aload_n 0, 1) := by decide +kernel
theorem d_G_mergedResult_71 : decode prog_1_method_31_code 71 = .ok (.iload_n 1, 1) := by decide +kernel
theorem d_G_mergedResult_72 : decode prog_1_method_31_code 72 = .ok (.iload_n 3, 1) := by decide +kernel
theorem d_G_mergedResult_73 : decode prog_1_method_31_code 73 = .ok (.invokevirtual 288, 3) := by decide +kernel
theorem d_G_mergedResult_76 : decode prog_1_method_31_code 76 = .ok (.iconst 2, 1) := by decide +kernel
theorem d_G_mergedResult_77 : decode prog_1_method_31_code 77 = .ok (.if_icmp .lt 5, 3) := by decide +kernel
theorem d_G_mergedResult_80 : decode prog_1_method_31_code 80 = .ok (.iload_n 3, 1) := by decide +kernel
theorem d_G_mergedResult_81 : decode prog_1_method_31_code 81 = .ok (.ireturn, 1) := by decide +kernel
theorem d_G_mergedResult_82 : decode prog_1_method_31_code 82 = .ok (.iinc 3 1, 3) := by decide +kernel
theorem d_G_mergedResult_85 : decode prog_1_method_31_code 85 = .ok (.goto (-20), 3) := by decide +kernel
theorem d_G_mergedResult_88 : decode prog_1_method_31_code 88 = .ok (.aload_n 0, 1) := by decide +kernel
theorem d_G_mergedResult_89 : decode prog_1_method_31_code 89 = .ok (.iload_n 1, 1) := by decide +kernel
theorem d_G_mergedResult_90 : decode prog_1_method_31_code 90 = .ok (.iconst 0, 1) := by decide +kernel
theorem d_G_mergedResult_91 : decode prog_1_method_31_code 91 = .ok (.invokevirtual 288, 3) := by decide +kernel
theorem d_G_mergedResult_94 : decode prog_1_method_31_code 94 = .ok (.aload_n 0, 1) := by decide +kernel
theorem d_G_mergedResult_95 : decode prog_1_method_31_code 95 = .ok (.invokevirtual 224, 3) := by decide +kernel
theorem d_G_mergedResult_98 : decode prog_1_method_31_code 98 = .ok (.if_icmp .ne 7, 3) := by decide +kernel
theorem d_G_mergedResult_101 : decode prog_1_method_31_code 101 = .ok (.iconst 0, 1) := by decide +kernel
theorem d_G_mergedResult_102 : decode prog_1_method_31_code 102 = .ok (.goto 4, 3) := by decide +kernel
theorem d_G_mergedResult_105 : decode prog_1_method_31_code 105 = .ok (.iconst 2, 1) := by decide +kernel
theorem d_G_mergedResult_106 : decode prog_1_method_31_code 106 = .ok (.ireturn, 1) := by decide +kernel
theorem cn_G_mergedResult : CN y_G_mergedResult (.code y_G_mergedResult prog_1_method_31_code 4 (some .int)) prog_1_method_31_code 4 (some .int) [] 2 := ⟨Or.inl ⟨rfl, rfl⟩, mw_560, mw_1, ⟨by decide +kernel, by decide +kernel⟩, by decide +kernel⟩
def b_G_mergedResult_106 (σ : Sg)  (t0 : Int32) : Option Int32 := (some t0)
set_option maxRecDepth 100000 in
set_option maxHeartbeats 4000000 in
theorem gb_G_mergedResult_106 {Γ : GX} (K : Cx Γ "TapirGroup" prog_1_method_31_code 4 rm_G_mergedResult) (S : Std Γ (some .int)) (T : Tb Γ []) (hI : y_G_mergedResult.name = "<init>" → Ini Γ) (σ : Sg) (t0 : Int32) : G Γ (mkI σ) 0 0 106 [] [.int t0] σ (b_G_mergedResult_106 σ t0) := by
  unfold b_G_mergedResult_106
  exact g_iret (pc := 106) K S rfl d_G_mergedResult_106 (by decide) (by decide) rfl
def b_G_mergedResult_65 (σ : Sg) : Nat → Nat → Int32 → Int32 → Option Int32
  | 0 => fun _ _ _ => none
  | n + 1 => fun a0 x1 x3 => (if (3 : Int32) < x3 then (if a0 < σ.1 ∧ kd a0 = 3 then (f_G_upCountWith σ a0 x1 (0 : Int32)).bind (fun v11 => (if a0 < σ.1 ∧ kd a0 = 3 then (f_G_upCount σ a0).bind (fun v12 => (if v11 = v12 then (b_G_mergedResult_106 σ (0 : Int32)) else (b_G_mergedResult_106 σ (2 : Int32)))) else none)) else none) else (if a0 < σ.1 ∧ kd a0 = 3 then (f_G_upCountWith σ a0 x1 x3).bind (fun v13 => (if v13 < (2 : Int32) then (b_G_mergedResult_65 σ n a0 x1 (x3 + 1)) else (some x3))) else none))
set_option maxRecDepth 100000 in
set_option maxHeartbeats 4000000 in
theorem gb_G_mergedResult_65 {Γ : GX} (K : Cx Γ "TapirGroup" prog_1_method_31_code 4 rm_G_mergedResult) (S : Std Γ (some .int)) (T : Tb Γ []) (hI : y_G_mergedResult.name = "<init>" → Ini Γ) (σ : Sg) (n : Nat) : ∀ (a0 : Nat) (x1 : Int32) (x3 : Int32), G Γ (mkI σ) 0 0 65 [(0, .ref a0), (1, .int x1), (3, .int x3)] [] σ (b_G_mergedResult_65 σ n a0 x1 x3) := by
  induction n with
  | zero =>
    intro a0 x1 x3
    exact g_none
  | succ n ih =>
    intro a0 x1 x3
    rw [b_G_mergedResult_65]
    refine g_iload_n (pc := 65) (j := 2) K d_G_mergedResult_65 rfl ?_
    refine g_iconst (pc := 66) (v := 3) K d_G_mergedResult_66 (by decide) ?_
    refine g_icmp_gt (pc := 67) (tgt := 88) K d_G_mergedResult_67 (by decide) (fun _ => ?_) (fun _ => ?_)
    · refine g_aload_n (pc := 88) (j := 0) K d_G_mergedResult_88 rfl ?_
      refine g_iload_n (pc := 89) (j := 1) K d_G_mergedResult_89 rfl ?_
      refine g_iconst (pc := 90) (v := 0) K d_G_mergedResult_90 (by decide) ?_
      refine g_callV (pc := 91) (ci := 3) (a := a0) (vs := [.int x1, .int (0 : Int32)]) (st := []) (mkc := mkI σ) K rfl (by decide) cn_G_upCountWith (fun l hl r hr => k_G_upCountWith l hl _ _ _ _ r hr) mw_561 mw_563 ms_13 ⟨by decide, by decide, by decide, by decide⟩ d_G_mergedResult_91 rfl rfl (Nat.le_of_ble_eq_true rfl) (fun v11 _ => ?_)
      change G Γ (mkI σ) 0 0 94 [(0, .ref a0), (1, .int x1), (3, .int x3)] [.int v11] σ _
      refine g_aload_n (pc := 94) (j := 0) K d_G_mergedResult_94 rfl ?_
      refine g_callV (pc := 95) (ci := 3) (a := a0) (vs := []) (st := [.int v11]) (mkc := mkI σ) K rfl (by decide) cn_G_upCount (fun l hl r hr => k_G_upCount l hl _ _ r hr) mw_532 mw_534 ms_6 ⟨by decide, by decide, by decide, by decide⟩ d_G_mergedResult_95 rfl rfl (Nat.le_of_ble_eq_true rfl) (fun v12 _ => ?_)
      change G Γ (mkI σ) 0 0 98 [(0, .ref a0), (1, .int x1), (3, .int x3)] [.int v12, .int v11] σ _
      refine g_icmp_ne (pc := 98) (tgt := 105) K d_G_mergedResult_98 (by decide) (fun _ => ?_) (fun _ => ?_)
      · refine g_iconst (pc := 105) (v := 2) K d_G_mergedResult_105 (by decide) ?_
        refine g_sub (L' := []) [] rfl ?_
        exact gb_G_mergedResult_106 K S T hI σ (2 : Int32)
      · refine g_iconst (pc := 101) (v := 0) K d_G_mergedResult_101 (by decide) ?_
        refine g_goto (pc := 102) (tgt := 106) K d_G_mergedResult_102 (by decide) ?_
        refine g_sub (L' := []) [] rfl ?_
        exact gb_G_mergedResult_106 K S T hI σ (0 : Int32)
    · refine g_aload_n (pc := 70) (j := 0) K d_G_mergedResult_70 rfl ?_
      refine g_iload_n (pc := 71) (j := 1) K d_G_mergedResult_71 rfl ?_
      refine g_iload_n (pc := 72) (j := 2) K d_G_mergedResult_72 rfl ?_
      refine g_callV (pc := 73) (ci := 3) (a := a0) (vs := [.int x1, .int x3]) (st := []) (mkc := mkI σ) K rfl (by decide) cn_G_upCountWith (fun l hl r hr => k_G_upCountWith l hl _ _ _ _ r hr) mw_561 mw_563 ms_13 ⟨by decide, by decide, by decide, by decide⟩ d_G_mergedResult_73 rfl rfl (Nat.le_of_ble_eq_true rfl) (fun v13 _ => ?_)
      change G Γ (mkI σ) 0 0 76 [(0, .ref a0), (1, .int x1), (3, .int x3)] [.int v13] σ _
      refine g_iconst (pc := 76) (v := 2) K d_G_mergedResult_76 (by decide) ?_
      refine g_icmp_lt (pc := 77) (tgt := 82) K d_G_mergedResult_77 (by decide) (fun _ => ?_) (fun _ => ?_)
      · refine g_iinc (pc := 82) (j := 2) (v := (x3 + 1)) (L' := [(3, .int (x3 + 1)), (0, .ref a0), (1, .int x1)]) K d_G_mergedResult_82 rfl (by rfl) (by decide) rfl ?_
        refine g_goto (pc := 85) (tgt := 65) K d_G_mergedResult_85 (by decide) ?_
        refine g_sub (L' := [(0, .ref a0), (1, .int x1), (3, .int (x3 + 1))]) [1, 2, 0] rfl ?_
        exact ih a0 x1 (x3 + 1)
      · refine g_iload_n (pc := 80) (j := 2) K d_G_mergedResult_80 rfl ?_
        exact g_iret (pc := 81) K S rfl d_G_mergedResult_81 (by decide) (by decide) rfl
def b_G_mergedResult_57 (σ : Sg) (k : Nat → Int32 → Int32 → Int32 → Option Int32) (a0 : Nat) (x1 : Int32) (x2 : Int32) (x3 : Int32) : Option Int32 := (k a0 x1 x2 (x3 + 1))
set_option maxRecDepth 100000 in
set_option maxHeartbeats 4000000 in
theorem gb_G_mergedResult_57 {Γ : GX} (K : Cx Γ "TapirGroup" prog_1_method_31_code 4 rm_G_mergedResult) (S : Std Γ (some .int)) (T : Tb Γ []) (hI : y_G_mergedResult.name = "<init>" → Ini Γ) (σ : Sg) (k : Nat → Int32 → Int32 → Int32 → Option Int32) (hk : ∀ (a0 : Nat) (x1 : Int32) (x2 : Int32) (x3 : Int32), G Γ (mkI σ) 0 0 2 [(0, .ref a0), (1, .int x1), (2, .int x2), (3, .int x3)] [] σ (k a0 x1 x2 x3)) (a0 : Nat) (x1 : Int32) (x2 : Int32) (x3 : Int32) : G Γ (mkI σ) 0 0 57 [(0, .ref a0), (1, .int x1), (2, .int x2), (3, .int x3)] [] σ (b_G_mergedResult_57 σ k a0 x1 x2 x3) := by
  unfold b_G_mergedResult_57
  refine g_iinc (pc := 57) (j := 3) (v := (x3 + 1)) (L' := [(3, .int (x3 + 1)), (0, .ref a0), (1, .int x1), (2, .int x2)]) K d_G_mergedResult_57 rfl (by rfl) (by decide) rfl ?_
  refine g_goto (pc := 60) (tgt := 2) K d_G_mergedResult_60 (by decide) ?_
  refine g_sub (L' := [(0, .ref a0), (1, .int x1), (2, .int x2), (3, .int (x3 + 1))]) [1, 2, 3, 0] rfl ?_
  exact hk a0 x1 x2 (x3 + 1)
def b_G_mergedResult_2 (σ : Sg) : Nat → Nat → Int32 → Int32 → Int32 → Option Int32
  | 0 => fun _ _ _ _ => none
  | n + 1 => fun a0 x1 x2 x3 => (if (3 : Int32) ≤ x3 then (b_G_mergedResult_65 σ 1000 a0 x1 (1 : Int32)) else (if a0 < σ.1 ∧ kd a0 = 3 then rc (g_r σ a0 0) none (fun b1 => (if (b1 < σ.1 ∧ kd b1 = 13) ∧ inb x3 (ln b1) = true then rc (g_r σ b1 x3.toNatClampNeg) none (fun b2 => (if b2 < σ.1 ∧ kd b2 = 1 then (if (g_i σ b2 0) = 0 then (b_G_mergedResult_57 σ (b_G_mergedResult_2 σ n) a0 x1 x2 x3) else (if a0 < σ.1 ∧ kd a0 = 3 then rc (g_r σ a0 0) none (fun b3 => (if (b3 < σ.1 ∧ kd b3 = 13) ∧ inb x3 (ln b3) = true then rc (g_r σ b3 x3.toNatClampNeg) none (fun b4 => (if b4 < σ.1 ∧ kd b4 = 1 then (if (g_i σ b4 1) = x2 then (if a0 < σ.1 ∧ kd a0 = 3 then rc (g_r σ a0 0) none (fun b5 => (if (b5 < σ.1 ∧ kd b5 = 13) ∧ inb x3 (ln b5) = true then rc (g_r σ b5 x3.toNatClampNeg) none (fun b6 => (if b6 < σ.1 ∧ kd b6 = 1 then (f_R_has σ b6 x1 (4 : Int32)).bind (fun v7 => (if v7 = 0 then (b_G_mergedResult_57 σ (b_G_mergedResult_2 σ n) a0 x1 x2 x3) else (if a0 < σ.1 ∧ kd a0 = 3 then rc (g_r σ a0 0) none (fun b8 => (if (b8 < σ.1 ∧ kd b8 = 13) ∧ inb x3 (ln b8) = true then rc (g_r σ b8 x3.toNatClampNeg) none (fun b9 => (if b9 < σ.1 ∧ kd b9 = 1 then (f_R_resultOf σ b9 x1).bind (fun v10 => (some v10)) else none)) else none)) else none))) else none)) else none)) else none) else (b_G_mergedResult_57 σ (b_G_mergedResult_2 σ n) a0 x1 x2 x3)) else none)) else none)) else none)) else none)) else none)) else none))
set_option maxRecDepth 100000 in
set_option maxHeartbeats 4000000 in
theorem gb_G_mergedResult_2 {Γ : GX} (K : Cx Γ "TapirGroup" prog_1_method_31_code 4 rm_G_mergedResult) (S : Std Γ (some .int)) (T : Tb Γ []) (hI : y_G_mergedResult.name = "<init>" → Ini Γ) (σ : Sg) (n : Nat) : ∀ (a0 : Nat) (x1 : Int32) (x2 : Int32) (x3 : Int32), G Γ (mkI σ) 0 0 2 [(0, .ref a0), (1, .int x1), (2, .int x2), (3, .int x3)] [] σ (b_G_mergedResult_2 σ n a0 x1 x2 x3) := by
  induction n with
  | zero =>
    intro a0 x1 x2 x3
    exact g_none
  | succ n ih =>
    intro a0 x1 x2 x3
    rw [b_G_mergedResult_2]
    refine g_iload_n (pc := 2) (j := 3) K d_G_mergedResult_2 rfl ?_
    refine g_iconst (pc := 3) (v := 3) K d_G_mergedResult_3 (by decide) ?_
    refine g_icmp_ge (pc := 4) (tgt := 63) K d_G_mergedResult_4 (by decide) (fun _ => ?_) (fun _ => ?_)
    · refine g_iconst (pc := 63) (v := 1) K d_G_mergedResult_63 (by decide) ?_
      refine g_istore_n (pc := 64) (L' := [(3, .int (1 : Int32)), (0, .ref a0), (1, .int x1), (2, .int x2)]) K d_G_mergedResult_64 (by decide) rfl ?_
      refine g_sub (L' := [(0, .ref a0), (1, .int x1), (3, .int (1 : Int32))]) [1, 2, 0] rfl ?_
      exact gb_G_mergedResult_65 K S T hI σ 1000 a0 x1 (1 : Int32)
    · refine g_aload_n (pc := 7) (j := 0) K d_G_mergedResult_7 rfl ?_
      refine g_getR (pc := 8) K fl_G_11 d_G_mergedResult_8 (fun _ => ?_) (fun b1 _ => ?_)
      · exact g_none
      · refine g_iload_n (pc := 11) (j := 3) K d_G_mergedResult_11 rfl ?_
        refine g_aald (pc := 12) (kq := 13) (t0 := 3) K (by decide) (fun _ => rfl) d_G_mergedResult_12 (fun _ => ?_) (fun b2 _ => ?_)
        · exact g_none
        · refine g_getI (pc := 13) K fl_G_220 d_G_mergedResult_13 ?_
          refine g_if_eq (pc := 16) (tgt := 57) K d_G_mergedResult_16 (by decide) (fun _ => ?_) (fun _ => ?_)
          · exact gb_G_mergedResult_57 K S T hI σ (b_G_mergedResult_2 σ n) ih a0 x1 x2 x3
          · refine g_aload_n (pc := 19) (j := 0) K d_G_mergedResult_19 rfl ?_
            refine g_getR (pc := 20) K fl_G_11 d_G_mergedResult_20 (fun _ => ?_) (fun b3 _ => ?_)
            · exact g_none
            · refine g_iload_n (pc := 23) (j := 3) K d_G_mergedResult_23 rfl ?_
              refine g_aald (pc := 24) (kq := 13) (t0 := 3) K (by decide) (fun _ => rfl) d_G_mergedResult_24 (fun _ => ?_) (fun b4 _ => ?_)
              · exact g_none
              · refine g_getI (pc := 25) K fl_G_241 d_G_mergedResult_25 ?_
                refine g_iload_n (pc := 28) (j := 2) K d_G_mergedResult_28 rfl ?_
                refine g_icmp_ne (pc := 29) (tgt := 57) K d_G_mergedResult_29 (by decide) (fun _ => ?_) (fun _ => ?_)
                · exact gb_G_mergedResult_57 K S T hI σ (b_G_mergedResult_2 σ n) ih a0 x1 x2 x3
                · refine g_aload_n (pc := 32) (j := 0) K d_G_mergedResult_32 rfl ?_
                  refine g_getR (pc := 33) K fl_G_11 d_G_mergedResult_33 (fun _ => ?_) (fun b5 _ => ?_)
                  · exact g_none
                  · refine g_iload_n (pc := 36) (j := 3) K d_G_mergedResult_36 rfl ?_
                    refine g_aald (pc := 37) (kq := 13) (t0 := 3) K (by decide) (fun _ => rfl) d_G_mergedResult_37 (fun _ => ?_) (fun b6 _ => ?_)
                    · exact g_none
                    · refine g_iload_n (pc := 38) (j := 1) K d_G_mergedResult_38 rfl ?_
                      refine g_iconst (pc := 39) (v := 4) K d_G_mergedResult_39 (by decide) ?_
                      refine g_callV (pc := 40) (ci := 1) (a := b6) (vs := [.int x1, .int (4 : Int32)]) (st := []) (mkc := mkI σ) K rfl (by decide) cn_R_has (fun l hl r hr => k_R_has l hl _ _ _ _ r hr) mw_480 mw_435 mw_436 ⟨by decide, by decide, by decide, by decide⟩ d_G_mergedResult_40 rfl rfl (Nat.le_of_ble_eq_true rfl) (fun v7 _ => ?_)
                      change G Γ (mkI σ) 0 0 43 [(0, .ref a0), (1, .int x1), (2, .int x2), (3, .int x3)] [.int v7] σ _
                      refine g_if_eq (pc := 43) (tgt := 57) K d_G_mergedResult_43 (by decide) (fun _ => ?_) (fun _ => ?_)
                      · exact gb_G_mergedResult_57 K S T hI σ (b_G_mergedResult_2 σ n) ih a0 x1 x2 x3
                      · refine g_aload_n (pc := 46) (j := 0) K d_G_mergedResult_46 rfl ?_
                        refine g_getR (pc := 47) K fl_G_11 d_G_mergedResult_47 (fun _ => ?_) (fun b8 _ => ?_)
                        · exact g_none
                        · refine g_iload_n (pc := 50) (j := 3) K d_G_mergedResult_50 rfl ?_
                          refine g_aald (pc := 51) (kq := 13) (t0 := 3) K (by decide) (fun _ => rfl) d_G_mergedResult_51 (fun _ => ?_) (fun b9 _ => ?_)
                          · exact g_none
                          · refine g_iload_n (pc := 52) (j := 1) K d_G_mergedResult_52 rfl ?_
                            refine g_callV (pc := 53) (ci := 1) (a := b9) (vs := [.int x1]) (st := []) (mkc := mkI σ) K rfl (by decide) cn_R_resultOf (fun l hl r hr => k_R_resultOf l hl _ _ _ r hr) mw_447 mw_430 mw_431 ⟨by decide, by decide, by decide, by decide⟩ d_G_mergedResult_53 rfl rfl (Nat.le_of_ble_eq_true rfl) (fun v10 _ => ?_)
                            change G Γ (mkI σ) 0 0 56 [(0, .ref a0), (1, .int x1), (2, .int x2), (3, .int x3)] [.int v10] σ _
                            exact g_iret (pc := 56) K S rfl d_G_mergedResult_56 (by decide) (by decide) rfl
def f_G_mergedResult (σ : Sg) (a0 : Nat) (x1 : Int32) (x2 : Int32) : Option Int32 := (b_G_mergedResult_2 σ 1000 a0 x1 x2 (0 : Int32))
set_option maxRecDepth 100000 in
set_option maxHeartbeats 4000000 in
theorem k_G_mergedResult (l : Launch) (hl : l.stackTraces = false) (σ : Sg) (a0 : Nat) (x1 : Int32) (x2 : Int32) (r : Int32) (h : f_G_mergedResult σ a0 x1 x2 = some r) : Con l y_G_mergedResult (.code y_G_mergedResult prog_1_method_31_code 4 (some .int)) rm_G_mergedResult [.ref a0, .int x1, .int x2] σ ((mkI σ) r) := by
  refine Con.of (mk := (mkI σ)) (o := f_G_mergedResult σ a0 x1 x2) (z := r) (L0 := [(0, .ref a0), (1, .int x1), (2, .int x2)]) (bytes := prog_1_method_31_code) (maxL := 4) (ret := (some .int)) (hh := []) hl (by decide +kernel) (Or.inl ⟨rfl, rfl⟩) (by simp [Value.category]) (Nat.le_of_ble_eq_true rfl) rfl (fun Γ K S T hI => ?_) h rfl
  unfold f_G_mergedResult
  refine g_iconst (pc := 0) (v := 0) K d_G_mergedResult_0 (by decide) ?_
  refine g_istore_n (pc := 1) (L' := [(3, .int (0 : Int32)), (0, .ref a0), (1, .int x1), (2, .int x2)]) K d_G_mergedResult_1 (by decide) rfl ?_
  refine g_sub (L' := [(0, .ref a0), (1, .int x1), (2, .int x2), (3, .int (0 : Int32))]) [1, 2, 3, 0] rfl ?_
  exact gb_G_mergedResult_2 K S T hI σ 1000 a0 x1 x2 (0 : Int32)
