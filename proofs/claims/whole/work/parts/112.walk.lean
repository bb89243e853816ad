-- TapirGroup.change()I
def y_G_change : MethodName := ⟨"TapirGroup", "change", "()I"⟩
abbrev rm_G_change : Room := { frames := 6, cells := 1, slots := 6, locals := 113 }
theorem d_G_change_0 : decode prog_1_method_12_code 0 = .ok (.aload_n 0, 1) := by decide +kernel
theorem d_G_change_1 : decode prog_1_method_12_code 1 = .ok (.invokevirtual 224, 3) := by decide +kernel
theorem d_G_change_4 : decode prog_1_method_12_code 4 = .ok (.iconst 2, 1) := by decide +kernel
theorem d_G_change_5 : decode prog_1_method_12_code 5 = .ok (.if_icmp .ge 13, 3) := by decide +kernel
theorem d_G_change_8 : decode prog_1_method_12_code 8 = .ok (.new 48, 3) := by decide +kernel
theorem d_G_change_11 : decode prog_1_method_12_code 11 = .ok (.dup, 1) := by decide +kernel
theorem d_G_change_12 : decode prog_1_method_12_code 12 = .ok (.ldc 227, 2) := by decide +kernel
theorem d_G_change_14 : decode prog_1_method_12_code 14 = .ok (.invokespecial 52, 3) := by decide +kernel
theorem d_G_change_17 : decode prog_1_method_12_code 17 = .ok (.athrow, 1) := by decide +kernel
theorem d_G_change_18 : decode prog_1_method_12_code 18 = .ok (.aload_n 0, 1) := by decide +kernel
theorem d_G_change_19 : decode prog_1_method_12_code 19 = .ok (.invokevirtual 229, 3) := by decide +kernel
theorem d_G_change_22 : decode prog_1_method_12_code 22 = .ok (.iconst 1, 1) := by decide +kernel
theorem d_G_change_23 : decode prog_1_method_12_code 23 = .ok (.iadd, 1) := by decide +kernel
theorem d_G_change_24 : decode prog_1_method_12_code 24 = .ok (.istore_n 1, 1) := by decide +kernel
theorem d_G_change_25 : decode prog_1_method_12_code 25 = .ok (.aload_n 0, 1) := by decide +kernel
theorem d_G_change_26 : decode prog_1_method_12_code 26 = .ok (.invokevirtual 232, 3) := by decide +kernel
theorem d_G_change_29 : decode prog_1_method_12_code 29 = .ok (.istore_n 2, 1) := by decide +kernel
theorem d_G_change_30 : decode prog_1_method_12_code 30 = .ok (.iconst 1, 1) := by decide +kernel
theorem d_G_change_31 : decode prog_1_method_12_code 31 = .ok (.istore_n 3, 1) := by decide +kernel
theorem d_G_change_32 : decode prog_1_method_12_code 32 = .ok (.iload_n 3, 1) := by decide +kernel
theorem d_G_change_33 : decode prog_1_method_12_code 33 = .ok (.aload_n 0, 1) := by decide +kernel
theorem d_G_change_34 : decode prog_1_method_12_code 34 = .ok (.getfield 27, 3) := by decide +kernel
theorem d_G_change_37 : decode prog_1_method_12_code 37 = .ok (.if_icmp .gt 15, 3) := by decide +kernel
theorem d_G_change_40 : decode prog_1_method_12_code 40 = .ok (.aload_n 0, 1) := by decide +kernel
theorem d_G_change_41 : decode prog_1_method_12_code 41 = .ok (.iload_n 3, 1) := by decide +kernel
theorem d_G_change_42 : decode prog_1_method_12_code 42 = .ok (.iload_n 2, 1) := by decide +kernel
theorem d_G_change_43 : decode prog_1_method_12_code 43 = .ok (.invokevirtual 235, 3) := by decide +kernel
theorem d_G_change_46 : decode prog_1_method_12_code 46 = .ok (.iinc 3 1, 3) := by decide +kernel
theorem d_G_change_49 : decode prog_1_method_12_code 49 = .ok (.goto (-17), 3) := by decide +kernel
theorem d_G_change_52 : decode prog_1_method_12_code 52 = .ok (.iconst 0, 1) := by decide +kernel
theorem d_G_change_53 : decode prog_1_method_12_code 53 = .ok (.istore_n 3, 1) := by decide +kernel
theorem d_G_change_54 : decode prog_1_method_12_code 54 = .ok (.iload_n 3, 1) := by decide +kernel
theorem d_G_change_55 : decode prog_1_method_12_code 55 = .ok (.bipush 6, 2) := by decide +kernel
theorem d_G_change_57 : decode prog_1_method_12_code 57 = .ok (.if_icmp .ge 14, 3) := by decide +kernel
theorem d_G_change_60 : decode prog_1_method_12_code 60 = .ok (.aload_n 0, 1) := by decide +kernel
theorem d_G_change_61 : decode prog_1_method_12_code 61 = .ok (.iload_n 3, 1) := by decide +kernel
theorem d_G_change_62 : decode prog_1_method_12_code 62 = .ok (.invokevirtual 238, 3) := by decide +kernel
theorem d_G_change_65 : decode prog_1_method_12_code 65 = .ok (.iinc 3 1, 3) := by decide +kernel
theorem d_G_change_68 : decode prog_1_method_12_code 68 = .ok (.goto (-14), 3) := by decide +kernel
theorem d_G_change_71 : decode prog_1_method_12_code 71 = .ok (.iconst 0, 1) := by decide +kernel
theorem d_G_change_72 : decode prog_1_method_12_code 72 = .ok (.istore_n 3, 1) := by decide +kernel
theorem d_G_change_73 : decode prog_1_method_12_code 73 = .ok (.iload_n 3, 1) := by decide +kernel
theorem d_G_change_74 : decode prog_1_method_12_code 74 = .ok (.iconst 3, 1) := by decide +kernel
theorem d_G_change_75 : decode prog_1_method_12_code 75 = .ok (.if_icmp .ge 31, 3) := by decide +kernel
theorem d_G_change_78 : decode prog_1_method_12_code 78 = .ok (.aload_n 0, 1) := by decide +kernel
theorem d_G_change_79 : decode prog_1_method_12_code 79 = .ok (.getfield 11, 3) := by decide +kernel
theorem d_G_change_82 : decode prog_1_method_12_code 82 = .ok (.iload_n 3, 1) := by decide +kernel
theorem d_G_change_83 : decode prog_1_method_12_code 83 = .ok (.aaload, 1) := by decide +kernel
theorem d_G_change_84 : decode prog_1_method_12_code 84 = .ok (.getfield 220, 3) := by decide +kernel
theorem d_G_change_87 : decode prog_1_method_12_code 87 = .ok (.ifCond .eq 13, 3) := by decide +kernel
theorem d_G_change_90 : decode prog_1_method_12_code 90 = .ok (.aload_n 0, 1) := by decide +kernel
theorem d_G_change_91 : decode prog_1_method_12_code 91 = .ok (.getfield 11, 3) := by decide +kernel
theorem d_G_change_94 : decode prog_1_method_12_code 94 = .ok (.iload_n 3, 1) := by decide +kernel
theorem d_G_change_95 : decode prog_1_method_12_code 95 = .ok (.aaload, 1) := by decide +kernel
theorem d_G_change_96 : decode prog_1_method_12_code 96 = .ok (.iload_n 1, 1) := by decide +kernel
theorem d_G_change_97 : decode prog_1_method_12_code 97 = .ok (.putfield 241, 3) := by decide +kernel
theorem d_G_change_100 : decode prog_1_method_12_code 100 = .ok (.iinc 3 1, 3) := by decide +kernel
theorem d_G_change_103 : decode prog_1_method_12_code 103 = .ok (.goto (-30), 3) := by decide +kernel
theorem d_G_change_106 : decode prog_1_method_12_code 106 = .ok (.iload_n 1, 1) := by decide +kernel
theorem d_G_change_107 : decode prog_1_method_12_code 107 = .ok (.ireturn, 1) := by decide +kernel
theorem cn_G_change : CN y_G_change (.code y_G_change prog_1_method_12_code 4 (some .int)) prog_1_method_12_code 4 (some .int) [] 0 := ⟨Or.inl ⟨rfl, rfl⟩, mw_531, mw_1, ⟨by decide +kernel, by decide +kernel⟩, by decide +kernel⟩
def b_G_change_100 (k : Sg → Nat → Int32 → Int32 → Option Rs) (σ : Sg) (a0 : Nat) (x1 : Int32) (x3 : Int32) : Option Rs := (k σ a0 x1 (x3 + 1))
set_option maxRecDepth 100000 in
set_option maxHeartbeats 4000000 in
theorem gb_G_change_100 {Γ : GX} (K : Cx Γ "TapirGroup" prog_1_method_12_code 4 rm_G_change) (S : Std Γ (some .int)) (T : Tb Γ []) (hI : y_G_change.name = "<init>" → Ini Γ) (k : Sg → Nat → Int32 → Int32 → Option Rs) (hk : ∀ (σ : Sg) (a0 : Nat) (x1 : Int32) (x3 : Int32), G Γ mkR 0 0 73 [(0, .ref a0), (1, .int x1), (3, .int x3)] [] σ (k σ a0 x1 x3)) (σ : Sg) (a0 : Nat) (x1 : Int32) (x3 : Int32) : G Γ mkR 0 0 100 [(0, .ref a0), (1, .int x1), (3, .int x3)] [] σ (b_G_change_100 k σ a0 x1 x3) := by
  unfold b_G_change_100
  refine g_iinc (pc := 100) (j := 2) (v := (x3 + 1)) (L' := [(3, .int (x3 + 1)), (0, .ref a0), (1, .int x1)]) K d_G_change_100 rfl (by rfl) (by decide) rfl ?_
  refine g_goto (pc := 103) (tgt := 73) K d_G_change_103 (by decide) ?_
  refine g_sub (L' := [(0, .ref a0), (1, .int x1), (3, .int (x3 + 1))]) [1, 2, 0] rfl ?_
  exact hk σ a0 x1 (x3 + 1)
def b_G_change_73 : Nat → Sg → Nat → Int32 → Int32 → Option Rs
  | 0 => fun _ _ _ _ => none
  | n + 1 => fun σ a0 x1 x3 => (if (3 : Int32) ≤ x3 then (some ((.inl (some (.int x1)), σ) : Rs)) else (if a0 < σ.1 ∧ kd a0 = 3 then rc (g_r σ a0 0) none (fun b7 => (if (b7 < σ.1 ∧ kd b7 = 13) ∧ inb x3 (ln b7) = true then rc (g_r σ b7 x3.toNatClampNeg) none (fun b8 => (if b8 < σ.1 ∧ kd b8 = 1 then (if (g_i σ b8 0) = 0 then (b_G_change_100 (b_G_change_73 n) σ a0 x1 x3) else (if a0 < σ.1 ∧ kd a0 = 3 then rc (g_r σ a0 0) none (fun b9 => (if (b9 < σ.1 ∧ kd b9 = 13) ∧ inb x3 (ln b9) = true then rc (g_r σ b9 x3.toNatClampNeg) none (fun b10 => (if b10 < σ.1 ∧ kd b10 = 1 then (wi (s_i σ b10 1 x1) (fun s11 => (b_G_change_100 (b_G_change_73 n) s11 a0 x1 x3))) else none)) else none)) else none)) else none)) else none)) else none))
set_option maxRecDepth 100000 in
set_option maxHeartbeats 4000000 in
theorem gb_G_change_73 {Γ : GX} (K : Cx Γ "TapirGroup" prog_1_method_12_code 4 rm_G_change) (S : Std Γ (some .int)) (T : Tb Γ []) (hI : y_G_change.name = "<init>" → Ini Γ) (n : Nat) : ∀ (σ : Sg) (a0 : Nat) (x1 : Int32) (x3 : Int32), G Γ mkR 0 0 73 [(0, .ref a0), (1, .int x1), (3, .int x3)] [] σ (b_G_change_73 n σ a0 x1 x3) := by
  induction n with
  | zero =>
    intro σ a0 x1 x3
    exact g_none
  | succ n ih =>
    intro σ a0 x1 x3
    rw [b_G_change_73]
    refine g_iload_n (pc := 73) (j := 2) K d_G_change_73 rfl ?_
    refine g_iconst (pc := 74) (v := 3) K d_G_change_74 (by decide) ?_
    refine g_icmp_ge (pc := 75) (tgt := 106) K d_G_change_75 (by decide) (fun _ => ?_) (fun _ => ?_)
    · refine g_iload_n (pc := 106) (j := 1) K d_G_change_106 rfl ?_
      exact g_iret (pc := 107) K S rfl d_G_change_107 (by decide) (by decide) rfl
    · refine g_aload_n (pc := 78) (j := 0) K d_G_change_78 rfl ?_
      refine g_getR (pc := 79) K fl_G_11 d_G_change_79 (fun _ => ?_) (fun b7 _ => ?_)
      · exact g_none
      · refine g_iload_n (pc := 82) (j := 2) K d_G_change_82 rfl ?_
        refine g_aald (pc := 83) (kq := 13) (t0 := 3) K (by decide) (fun _ => rfl) d_G_change_83 (fun _ => ?_) (fun b8 _ => ?_)
        · exact g_none
        · refine g_getI (pc := 84) K fl_G_220 d_G_change_84 ?_
          refine g_if_eq (pc := 87) (tgt := 100) K d_G_change_87 (by decide) (fun _ => ?_) (fun _ => ?_)
          · exact gb_G_change_100 K S T hI (b_G_change_73 n) ih σ a0 x1 x3
          · refine g_aload_n (pc := 90) (j := 0) K d_G_change_90 rfl ?_
            refine g_getR (pc := 91) K fl_G_11 d_G_change_91 (fun _ => ?_) (fun b9 _ => ?_)
            · exact g_none
            · refine g_iload_n (pc := 94) (j := 2) K d_G_change_94 rfl ?_
              refine g_aald (pc := 95) (kq := 13) (t0 := 3) K (by decide) (fun _ => rfl) d_G_change_95 (fun _ => ?_) (fun b10 _ => ?_)
              · exact g_none
              · refine g_iload_n (pc := 96) (j := 1) K d_G_change_96 rfl ?_
                refine g_putI (pc := 97) K fl_G_241 d_G_change_97 ?_
                refine g_wi (fun s11 _ => ?_)
                exact gb_G_change_100 K S T hI (b_G_change_73 n) ih s11 a0 x1 x3
def b_G_change_54 : Nat → Sg → Nat → Int32 → Int32 → Option Rs
  | 0 => fun _ _ _ _ => none
  | n + 1 => fun σ a0 x1 x3 => (if (6 : Int32) ≤ x3 then (b_G_change_73 1000 σ a0 x1 (0 : Int32)) else (if a0 < σ.1 ∧ kd a0 = 3 then (f_G_mergeKey σ a0 x3).bind (fun s6 => (b_G_change_54 n s6 a0 x1 (x3 + 1))) else none))
set_option maxRecDepth 100000 in
set_option maxHeartbeats 4000000 in
theorem gb_G_change_54 {Γ : GX} (K : Cx Γ "TapirGroup" prog_1_method_12_code 4 rm_G_change) (S : Std Γ (some .int)) (T : Tb Γ []) (hI : y_G_change.name = "<init>" → Ini Γ) (n : Nat) : ∀ (σ : Sg) (a0 : Nat) (x1 : Int32) (x3 : Int32), G Γ mkR 0 0 54 [(0, .ref a0), (1, .int x1), (3, .int x3)] [] σ (b_G_change_54 n σ a0 x1 x3) := by
  induction n with
  | zero =>
    intro σ a0 x1 x3
    exact g_none
  | succ n ih =>
    intro σ a0 x1 x3
    rw [b_G_change_54]
    refine g_iload_n (pc := 54) (j := 2) K d_G_change_54 rfl ?_
    refine g_bipush (pc := 55) (v := 6) K d_G_change_55 (by decide) ?_
    refine g_icmp_ge (pc := 57) (tgt := 71) K d_G_change_57 (by decide) (fun _ => ?_) (fun _ => ?_)
    · refine g_iconst (pc := 71) (v := 0) K d_G_change_71 (by decide) ?_
      refine g_istore_n (pc := 72) (L' := [(3, .int (0 : Int32)), (0, .ref a0), (1, .int x1)]) K d_G_change_72 (by decide) rfl ?_
      refine g_sub (L' := [(0, .ref a0), (1, .int x1), (3, .int (0 : Int32))]) [1, 2, 0] rfl ?_
      exact gb_G_change_73 K S T hI 1000 σ a0 x1 (0 : Int32)
    · refine g_aload_n (pc := 60) (j := 0) K d_G_change_60 rfl ?_
      refine g_iload_n (pc := 61) (j := 2) K d_G_change_61 rfl ?_
      refine g_callV (pc := 62) (ci := 3) (a := a0) (vs := [.int x3]) (st := []) (mkc := mkV) K rfl (by decide) cn_G_mergeKey (fun l hl r hr => k_G_mergeKey l hl _ _ _ r hr) mw_565 mw_567 ms_14 ⟨by decide, by decide, by decide, by decide⟩ d_G_change_62 rfl rfl (Nat.le_of_ble_eq_true rfl) (fun s6 _ => ?_)
      change G Γ mkR 0 0 65 [(0, .ref a0), (1, .int x1), (3, .int x3)] [] s6 _
      refine g_iinc (pc := 65) (j := 2) (v := (x3 + 1)) (L' := [(3, .int (x3 + 1)), (0, .ref a0), (1, .int x1)]) K d_G_change_65 rfl (by rfl) (by decide) rfl ?_
      refine g_goto (pc := 68) (tgt := 54) K d_G_change_68 (by decide) ?_
      refine g_sub (L' := [(0, .ref a0), (1, .int x1), (3, .int (x3 + 1))]) [1, 2, 0] rfl ?_
      exact ih s6 a0 x1 (x3 + 1)
def b_G_change_32 : Nat → Sg → Nat → Int32 → Int32 → Int32 → Option Rs
  | 0 => fun _ _ _ _ _ => none
  | n + 1 => fun σ a0 x1 x2 x3 => (if a0 < σ.1 ∧ kd a0 = 3 then (if (g_i σ a0 3) < x3 then (b_G_change_54 1000 σ a0 x1 (0 : Int32)) else (if a0 < σ.1 ∧ kd a0 = 3 then (f_G_mergeRecords σ a0 x3 x2).bind (fun s5 => (b_G_change_32 n s5 a0 x1 x2 (x3 + 1))) else none)) else none)
set_option maxRecDepth 100000 in
set_option maxHeartbeats 4000000 in
theorem gb_G_change_32 {Γ : GX} (K : Cx Γ "TapirGroup" prog_1_method_12_code 4 rm_G_change) (S : Std Γ (some .int)) (T : Tb Γ []) (hI : y_G_change.name = "<init>" → Ini Γ) (n : Nat) : ∀ (σ : Sg) (a0 : Nat) (x1 : Int32) (x2 : Int32) (x3 : Int32), G Γ mkR 0 0 32 [(0, .ref a0), (1, .int x1), (2, .int x2), (3, .int x3)] [] σ (b_G_change_32 n σ a0 x1 x2 x3) := by
  induction n with
  | zero =>
    intro σ a0 x1 x2 x3
    exact g_none
  | succ n ih =>
    intro σ a0 x1 x2 x3
    rw [b_G_change_32]
    refine g_iload_n (pc := 32) (j := 3) K d_G_change_32 rfl ?_
    refine g_aload_n (pc := 33) (j := 0) K d_G_change_33 rfl ?_
    refine g_getI (pc := 34) K fl_G_27 d_G_change_34 ?_
    refine g_icmp_gt (pc := 37) (tgt := 52) K d_G_change_37 (by decide) (fun _ => ?_) (fun _ => ?_)
    · refine g_iconst (pc := 52) (v := 0) K d_G_change_52 (by decide) ?_
      refine g_istore_n (pc := 53) (L' := [(3, .int (0 : Int32)), (0, .ref a0), (1, .int x1), (2, .int x2)]) K d_G_change_53 (by decide) rfl ?_
      refine g_sub (L' := [(0, .ref a0), (1, .int x1), (3, .int (0 : Int32))]) [1, 2, 0] rfl ?_
      exact gb_G_change_54 K S T hI 1000 σ a0 x1 (0 : Int32)
    · refine g_aload_n (pc := 40) (j := 0) K d_G_change_40 rfl ?_
      refine g_iload_n (pc := 41) (j := 3) K d_G_change_41 rfl ?_
      refine g_iload_n (pc := 42) (j := 2) K d_G_change_42 rfl ?_
      refine g_callV (pc := 43) (ci := 3) (a := a0) (vs := [.int x3, .int x2]) (st := []) (mkc := mkV) K rfl (by decide) cn_G_mergeRecords (fun l hl r hr => k_G_mergeRecords l hl _ _ _ _ r hr) mw_541 mw_543 ms_8 ⟨by decide, by decide, by decide, by decide⟩ d_G_change_43 rfl rfl (Nat.le_of_ble_eq_true rfl) (fun s5 _ => ?_)
      change G Γ mkR 0 0 46 [(0, .ref a0), (1, .int x1), (2, .int x2), (3, .int x3)] [] s5 _
      refine g_iinc (pc := 46) (j := 3) (v := (x3 + 1)) (L' := [(3, .int (x3 + 1)), (0, .ref a0), (1, .int x1), (2, .int x2)]) K d_G_change_46 rfl (by rfl) (by decide) rfl ?_
      refine g_goto (pc := 49) (tgt := 32) K d_G_change_49 (by decide) ?_
      refine g_sub (L' := [(0, .ref a0), (1, .int x1), (2, .int x2), (3, .int (x3 + 1))]) [1, 2, 3, 0] rfl ?_
      exact ih s5 a0 x1 x2 (x3 + 1)
def f_G_change (σ : Sg) (a0 : Nat) : Option Rs := (if a0 < σ.1 ∧ kd a0 = 3 then (f_G_upCount σ a0).bind (fun v1 => (if (2 : Int32) ≤ v1 then (if a0 < σ.1 ∧ kd a0 = 3 then (f_G_groupView σ a0).bind (fun v2 => (wn (v2 + (1 : Int32)) (fun y3 => (if a0 < σ.1 ∧ kd a0 = 3 then (f_G_newestViewUp σ a0).bind (fun v4 => (b_G_change_32 1000 σ a0 y3 v4 (1 : Int32))) else none)))) else none) else (some ((.inr "java/lang/IllegalStateException", σ) : Rs)))) else none)
set_option maxRecDepth 100000 in
set_option maxHeartbeats 4000000 in
theorem k_G_change (l : Launch) (hl : l.stackTraces = false) (σ : Sg) (a0 : Nat) (r : Rs) (h : f_G_change σ a0 = some r) : Con l y_G_change (.code y_G_change prog_1_method_12_code 4 (some .int)) rm_G_change [.ref a0] σ (mkR r) := by
  refine Con.of (mk := mkR) (o := f_G_change σ a0) (z := r) (L0 := [(0, .ref a0)]) (bytes := prog_1_method_12_code) (maxL := 4) (ret := (some .int)) (hh := []) hl (by decide +kernel) (Or.inl ⟨rfl, rfl⟩) (by simp [Value.category]) (Nat.le_of_ble_eq_true rfl) rfl (fun Γ K S T hI => ?_) h rfl
  unfold f_G_change
  refine g_aload_n (pc := 0) (j := 0) K d_G_change_0 rfl ?_
  refine g_callV (pc := 1) (ci := 3) (a := a0) (vs := []) (st := []) (mkc := mkI σ) K rfl (by decide) cn_G_upCount (fun l hl r hr => k_G_upCount l hl _ _ r hr) mw_532 mw_534 ms_6 ⟨by decide, by decide, by decide, by decide⟩ d_G_change_1 rfl rfl (Nat.le_of_ble_eq_true rfl) (fun v1 _ => ?_)
  change G Γ mkR 0 0 4 [(0, .ref a0)] [.int v1] σ _
  refine g_iconst (pc := 4) (v := 2) K d_G_change_4 (by decide) ?_
  refine g_icmp_ge (pc := 5) (tgt := 18) K d_G_change_5 (by decide) (fun _ => ?_) (fun _ => ?_)
  · refine g_aload_n (pc := 18) (j := 0) K d_G_change_18 rfl ?_
    refine g_callV (pc := 19) (ci := 3) (a := a0) (vs := []) (st := []) (mkc := mkI σ) K rfl (by decide) cn_G_groupView (fun l hl r hr => k_G_groupView l hl _ _ r hr) mw_160 mw_162 ms_0 ⟨by decide, by decide, by decide, by decide⟩ d_G_change_19 rfl rfl (Nat.le_of_ble_eq_true rfl) (fun v2 _ => ?_)
    change G Γ mkR 0 0 22 [(0, .ref a0)] [.int v2] σ _
    refine g_iconst (pc := 22) (v := 1) K d_G_change_22 (by decide) ?_
    refine g_iadd (pc := 23) K d_G_change_23 ?_
    refine g_wn (fun y3 _ => ?_)
    refine g_istore_n (pc := 24) (L' := [(1, .int y3), (0, .ref a0)]) K d_G_change_24 (by decide) rfl ?_
    refine g_aload_n (pc := 25) (j := 1) K d_G_change_25 rfl ?_
    refine g_callV (pc := 26) (ci := 3) (a := a0) (vs := []) (st := []) (mkc := mkI σ) K rfl (by decide) cn_G_newestViewUp (fun l hl r hr => k_G_newestViewUp l hl _ _ r hr) mw_537 mw_539 ms_7 ⟨by decide, by decide, by decide, by decide⟩ d_G_change_26 rfl rfl (Nat.le_of_ble_eq_true rfl) (fun v4 _ => ?_)
    change G Γ mkR 0 0 29 [(1, .int y3), (0, .ref a0)] [.int v4] σ _
    refine g_istore_n (pc := 29) (L' := [(2, .int v4), (1, .int y3), (0, .ref a0)]) K d_G_change_29 (by decide) rfl ?_
    refine g_iconst (pc := 30) (v := 1) K d_G_change_30 (by decide) ?_
    refine g_istore_n (pc := 31) (L' := [(3, .int (1 : Int32)), (2, .int v4), (1, .int y3), (0, .ref a0)]) K d_G_change_31 (by decide) rfl ?_
    refine g_sub (L' := [(0, .ref a0), (1, .int y3), (2, .int v4), (3, .int (1 : Int32))]) [3, 2, 1, 0] rfl ?_
    exact gb_G_change_32 K S T hI 1000 σ a0 y3 v4 (1 : Int32)
  · exact g_throw (pc := 8) K S T tw_G_48_227_52 (fun _ h => nomatch h) d_G_change_8 d_G_change_11 d_G_change_12 d_G_change_14 d_G_change_17 (by decide) (by decide) (by decide) (by decide) rfl
-- TapirGroupLaw.change(LTapirGroup;[J)I
def y_L_change : MethodName := ⟨"TapirGroupLaw", "change", "(LTapirGroup;[J)I"⟩
abbrev rm_L_change : Room := { frames := 7, cells := 1, slots := 6, locals := 136 }
theorem d_L_change_0 : decode method_13_code 0 = .ok (.aload_n 1, 1) := by decide +kernel
theorem d_L_change_1 : decode method_13_code 1 = .ok (.iconst 0, 1) := by decide +kernel
theorem d_L_change_2 : decode method_13_code 2 = .ok (.aload_n 0, 1) := by decide +kernel
theorem d_L_change_3 : decode method_13_code 3 = .ok (.invokevirtual 55, 3) := by decide +kernel
theorem d_L_change_6 : decode method_13_code 6 = .ok (.i2l, 1) := by decide +kernel
theorem d_L_change_7 : decode method_13_code 7 = .ok (.lastore, 1) := by decide +kernel
theorem d_L_change_8 : decode method_13_code 8 = .ok (.goto 6, 3) := by decide +kernel
theorem d_L_change_11 : decode method_13_code 11 = .ok (.astore_n 2, 1) := by decide +kernel
theorem d_L_change_12 : decode method_13_code 12 = .ok (.iconst 1, 1) := by decide +kernel
theorem d_L_change_13 : decode method_13_code 13 = .ok (.ireturn, 1) := by decide +kernel
theorem d_L_change_14 : decode method_13_code 14 = .ok (.iconst 0, 1) := by decide +kernel
theorem d_L_change_15 : decode method_13_code 15 = .ok (.ireturn, 1) := by decide +kernel
theorem cn_L_change : CN y_L_change (.codeWith y_L_change method_13_code 3 (some .int) [(0, 8, 11, 15)]) method_13_code 3 (some .int) [(0, 8, 11, 15)] 2 := ⟨Or.inr rfl, mw_527, mw_0, ⟨by decide +kernel, by decide +kernel⟩, by decide +kernel⟩
def f_L_change (σ : Sg) (a0 : Nat) (a1 : Nat) : Option (Int32 × Sg) := (if a0 < σ.1 ∧ kd a0 = 3 then (f_G_change σ a0).bind (fun w1 => (onI w1.1 (fun x2 => (if (a1 < w1.2.1 ∧ kd a1 = 12) ∧ inb (0 : Int32) (ln a1) = true then (wi (s_l w1.2 a1 (0 : Int32).toNatClampNeg ((x2).toInt64)) (fun s3 => (some ((0 : Int32), s3)))) else none)) (fun E => (if E = "java/lang/IllegalStateException" then (some ((1 : Int32), w1.2)) else none)))) else none)
set_option maxRecDepth 100000 in
set_option maxHeartbeats 4000000 in
theorem k_L_change (l : Launch) (hl : l.stackTraces = false) (σ : Sg) (a0 : Nat) (a1 : Nat) (r : (Int32 × Sg)) (h : f_L_change σ a0 a1 = some r) : Con l y_L_change (.codeWith y_L_change method_13_code 3 (some .int) [(0, 8, 11, 15)]) rm_L_change [.ref a0, .ref a1] σ (mkW r) := by
  refine Con.of (mk := mkW) (o := f_L_change σ a0 a1) (z := r) (L0 := [(0, .ref a0), (1, .ref a1)]) (bytes := method_13_code) (maxL := 3) (ret := (some .int)) (hh := [(0, 8, 11, 15)]) hl (by decide +kernel) (Or.inr rfl) (by simp [Value.category]) (Nat.le_of_ble_eq_true rfl) rfl (fun Γ K S T hI => ?_) h rfl
  unfold f_L_change
  refine g_aload_n (pc := 0) (j := 1) K d_L_change_0 rfl ?_
  refine g_iconst (pc := 1) (v := 0) K d_L_change_1 (by decide) ?_
  refine g_aload_n (pc := 2) (j := 0) K d_L_change_2 rfl ?_
  refine g_callV (pc := 3) (ci := 3) (a := a0) (vs := []) (st := [.int (0 : Int32), .ref a1]) (mkc := mkR) K rfl (by decide) cn_G_change (fun l hl r hr => k_G_change l hl _ _ r hr) mw_528 mw_529 mw_530 ⟨by decide, by decide, by decide, by decide⟩ d_L_change_3 rfl rfl (Nat.le_of_ble_eq_true rfl) (fun w1 _ => ?_)
  refine g_onI (fun x2 => ?_) (fun E => ?_)
  · refine g_i2l (pc := 6) K d_L_change_6 ?_
    refine g_last (pc := 7) K d_L_change_7 ?_
    refine g_wi (fun s3 _ => ?_)
    refine g_goto (pc := 8) (tgt := 14) K d_L_change_8 (by decide) ?_
    refine g_iconst (pc := 14) (v := 0) K d_L_change_14 (by decide) ?_
    exact g_iret (pc := 15) K S rfl d_L_change_15 (by decide) (by decide) rfl
  · refine gt_ite (fun h => ?_) (fun _ => ?_)
    · subst h
      refine g_catch1 (L' := [(0, .ref a0), (1, .ref a1)]) K T [] (0, 8, 11, 15) [] rfl (fun _ h => nomatch h) (by decide) (by decide) mw_171 mw_246 (by decide) d_L_change_11 rfl ?_
      refine g_iconst (pc := 12) (v := 1) K d_L_change_12 (by decide) ?_
      exact g_iret (pc := 13) K S rfl d_L_change_13 (by decide) (by decide) rfl
    exact gt_none
-- TapirGroupModel.<init>()V
def y_M_init : MethodName := ⟨"TapirGroupModel", "<init>", "()V"⟩
abbrev rm_M_init : Room := { frames := 1, cells := 23, slots := 2235, locals := 20 }
theorem d_M_init_0 : decode prog_6_method_1_code 0 = .ok (.aload_n 0, 1) := by decide +kernel
theorem d_M_init_1 : decode prog_6_method_1_code 1 = .ok (.invokespecial 1, 3) := by decide +kernel
theorem d_M_init_4 : decode prog_6_method_1_code 4 = .ok (.aload_n 0, 1) := by decide +kernel
theorem d_M_init_5 : decode prog_6_method_1_code 5 = .ok (.bipush 61, 2) := by decide +kernel
theorem d_M_init_7 : decode prog_6_method_1_code 7 = .ok (.newarray .int, 2) := by decide +kernel
theorem d_M_init_9 : decode prog_6_method_1_code 9 = .ok (.putfield 7, 3) := by decide +kernel
theorem d_M_init_12 : decode prog_6_method_1_code 12 = .ok (.aload_n 0, 1) := by decide +kernel
theorem d_M_init_13 : decode prog_6_method_1_code 13 = .ok (.bipush 61, 2) := by decide +kernel
theorem d_M_init_15 : decode prog_6_method_1_code 15 = .ok (.newarray .int, 2) := by decide +kernel
theorem d_M_init_17 : decode prog_6_method_1_code 17 = .ok (.putfield 13, 3) := by decide +kernel
theorem d_M_init_20 : decode prog_6_method_1_code 20 = .ok (.aload_n 0, 1) := by decide +kernel
theorem d_M_init_21 : decode prog_6_method_1_code 21 = .ok (.sipush 244, 3) := by decide +kernel
theorem d_M_init_24 : decode prog_6_method_1_code 24 = .ok (.newarray .int, 2) := by decide +kernel
theorem d_M_init_26 : decode prog_6_method_1_code 26 = .ok (.putfield 16, 3) := by decide +kernel
theorem d_M_init_29 : decode prog_6_method_1_code 29 = .ok (.aload_n 0, 1) := by decide +kernel
theorem d_M_init_30 : decode prog_6_method_1_code 30 = .ok (.sipush 244, 3) := by decide +kernel
theorem d_M_init_33 : decode prog_6_method_1_code 33 = .ok (.newarray .int, 2) := by decide +kernel
theorem d_M_init_35 : decode prog_6_method_1_code 35 = .ok (.putfield 19, 3) := by decide +kernel
theorem d_M_init_38 : decode prog_6_method_1_code 38 = .ok (.aload_n 0, 1) := by decide +kernel
theorem d_M_init_39 : decode prog_6_method_1_code 39 = .ok (.sipush 244, 3) := by decide +kernel
theorem d_M_init_42 : decode prog_6_method_1_code 42 = .ok (.newarray .int, 2) := by decide +kernel
theorem d_M_init_44 : decode prog_6_method_1_code 44 = .ok (.putfield 22, 3) := by decide +kernel
theorem d_M_init_47 : decode prog_6_method_1_code 47 = .ok (.aload_n 0, 1) := by decide +kernel
theorem d_M_init_48 : decode prog_6_method_1_code 48 = .ok (.bipush 61, 2) := by decide +kernel
theorem d_M_init_50 : decode prog_6_method_1_code 50 = .ok (.newarray .int, 2) := by decide +kernel
theorem d_M_init_52 : decode prog_6_method_1_code 52 = .ok (.putfield 25, 3) := by decide +kernel
theorem d_M_init_55 : decode prog_6_method_1_code 55 = .ok (.aload_n 0, 1) := by decide +kernel
theorem d_M_init_56 : decode prog_6_method_1_code 56 = .ok (.sipush 244, 3) := by decide +kernel
theorem d_M_init_59 : decode prog_6_method_1_code 59 = .ok (.newarray .int, 2) := by decide +kernel
theorem d_M_init_61 : decode prog_6_method_1_code 61 = .ok (.putfield 28, 3) := by decide +kernel
theorem d_M_init_64 : decode prog_6_method_1_code 64 = .ok (.aload_n 0, 1) := by decide +kernel
theorem d_M_init_65 : decode prog_6_method_1_code 65 = .ok (.sipush 244, 3) := by decide +kernel
theorem d_M_init_68 : decode prog_6_method_1_code 68 = .ok (.newarray .int, 2) := by decide +kernel
theorem d_M_init_70 : decode prog_6_method_1_code 70 = .ok (.putfield 31, 3) := by decide +kernel
theorem d_M_init_73 : decode prog_6_method_1_code 73 = .ok (.aload_n 0, 1) := by decide +kernel
theorem d_M_init_74 : decode prog_6_method_1_code 74 = .ok (.iconst 4, 1) := by decide +kernel
theorem d_M_init_75 : decode prog_6_method_1_code 75 = .ok (.newarray .int, 2) := by decide +kernel
theorem d_M_init_77 : decode prog_6_method_1_code 77 = .ok (.putfield 34, 3) := by decide +kernel
theorem d_M_init_80 : decode prog_6_method_1_code 80 = .ok (.aload_n 0, 1) := by decide +kernel
theorem d_M_init_81 : decode prog_6_method_1_code 81 = .ok (.iconst 4, 1) := by decide +kernel
theorem d_M_init_82 : decode prog_6_method_1_code 82 = .ok (.newarray .int, 2) := by decide +kernel
theorem d_M_init_84 : decode prog_6_method_1_code 84 = .ok (.putfield 37, 3) := by decide +kernel
theorem d_M_init_87 : decode prog_6_method_1_code 87 = .ok (.aload_n 0, 1) := by decide +kernel
theorem d_M_init_88 : decode prog_6_method_1_code 88 = .ok (.iconst 4, 1) := by decide +kernel
theorem d_M_init_89 : decode prog_6_method_1_code 89 = .ok (.newarray .int, 2) := by decide +kernel
theorem d_M_init_91 : decode prog_6_method_1_code 91 = .ok (.putfield 40, 3) := by decide +kernel
theorem d_M_init_94 : decode prog_6_method_1_code 94 = .ok (.aload_n 0, 1) := by decide +kernel
theorem d_M_init_95 : decode prog_6_method_1_code 95 = .ok (.iconst 4, 1) := by decide +kernel
theorem d_M_init_96 : decode prog_6_method_1_code 96 = .ok (.newarray .int, 2) := by decide +kernel
theorem d_M_init_98 : decode prog_6_method_1_code 98 = .ok (.putfield 43, 3) := by decide +kernel
theorem d_M_init_101 : decode prog_6_method_1_code 101 = .ok (.aload_n 0, 1) := by decide +kernel
theorem d_M_init_102 : decode prog_6_method_1_code 102 = .ok (.bipush 12, 2) := by decide +kernel
theorem d_M_init_104 : decode prog_6_method_1_code 104 = .ok (.newarray .int, 2) := by decide +kernel
theorem d_M_init_106 : decode prog_6_method_1_code 106 = .ok (.putfield 46, 3) := by decide +kernel
theorem d_M_init_109 : decode prog_6_method_1_code 109 = .ok (.aload_n 0, 1) := by decide +kernel
theorem d_M_init_110 : decode prog_6_method_1_code 110 = .ok (.bipush 12, 2) := by decide +kernel
theorem d_M_init_112 : decode prog_6_method_1_code 112 = .ok (.newarray .boolean, 2) := by decide +kernel
theorem d_M_init_114 : decode prog_6_method_1_code 114 = .ok (.putfield 49, 3) := by decide +kernel
theorem d_M_init_117 : decode prog_6_method_1_code 117 = .ok (.aload_n 0, 1) := by decide +kernel
theorem d_M_init_118 : decode prog_6_method_1_code 118 = .ok (.iconst 3, 1) := by decide +kernel
theorem d_M_init_119 : decode prog_6_method_1_code 119 = .ok (.newarray .boolean, 2) := by decide +kernel
theorem d_M_init_121 : decode prog_6_method_1_code 121 = .ok (.putfield 53, 3) := by decide +kernel
theorem d_M_init_124 : decode prog_6_method_1_code 124 = .ok (.aload_n 0, 1) := by decide +kernel
theorem d_M_init_125 : decode prog_6_method_1_code 125 = .ok (.iconst 3, 1) := by decide +kernel
theorem d_M_init_126 : decode prog_6_method_1_code 126 = .ok (.newarray .int, 2) := by decide +kernel
theorem d_M_init_128 : decode prog_6_method_1_code 128 = .ok (.putfield 56, 3) := by decide +kernel
theorem d_M_init_131 : decode prog_6_method_1_code 131 = .ok (.aload_n 0, 1) := by decide +kernel
theorem d_M_init_132 : decode prog_6_method_1_code 132 = .ok (.bipush 18, 2) := by decide +kernel
theorem d_M_init_134 : decode prog_6_method_1_code 134 = .ok (.newarray .int, 2) := by decide +kernel
theorem d_M_init_136 : decode prog_6_method_1_code 136 = .ok (.putfield 59, 3) := by decide +kernel
theorem d_M_init_139 : decode prog_6_method_1_code 139 = .ok (.aload_n 0, 1) := by decide +kernel
theorem d_M_init_140 : decode prog_6_method_1_code 140 = .ok (.bipush 18, 2) := by decide +kernel
theorem d_M_init_142 : decode prog_6_method_1_code 142 = .ok (.newarray .int, 2) := by decide +kernel
theorem d_M_init_144 : decode prog_6_method_1_code 144 = .ok (.putfield 62, 3) := by decide +kernel
theorem d_M_init_147 : decode prog_6_method_1_code 147 = .ok (.aload_n 0, 1) := by decide +kernel
theorem d_M_init_148 : decode prog_6_method_1_code 148 = .ok (.bipush 18, 2) := by decide +kernel
theorem d_M_init_150 : decode prog_6_method_1_code 150 = .ok (.newarray .int, 2) := by decide +kernel
theorem d_M_init_152 : decode prog_6_method_1_code 152 = .ok (.putfield 65, 3) := by decide +kernel
theorem d_M_init_155 : decode prog_6_method_1_code 155 = .ok (.aload_n 0, 1) := by decide +kernel
theorem d_M_init_156 : decode prog_6_method_1_code 156 = .ok (.sipush 183, 3) := by decide +kernel
theorem d_M_init_159 : decode prog_6_method_1_code 159 = .ok (.newarray .int, 2) := by decide +kernel
theorem d_M_init_161 : decode prog_6_method_1_code 161 = .ok (.putfield 68, 3) := by decide +kernel
theorem d_M_init_164 : decode prog_6_method_1_code 164 = .ok (.aload_n 0, 1) := by decide +kernel
theorem d_M_init_165 : decode prog_6_method_1_code 165 = .ok (.sipush 183, 3) := by decide +kernel
theorem d_M_init_168 : decode prog_6_method_1_code 168 = .ok (.newarray .boolean, 2) := by decide +kernel
theorem d_M_init_170 : decode prog_6_method_1_code 170 = .ok (.putfield 71, 3) := by decide +kernel
theorem d_M_init_173 : decode prog_6_method_1_code 173 = .ok (.aload_n 0, 1) := by decide +kernel
theorem d_M_init_174 : decode prog_6_method_1_code 174 = .ok (.sipush 183, 3) := by decide +kernel
theorem d_M_init_177 : decode prog_6_method_1_code 177 = .ok (.newarray .boolean, 2) := by decide +kernel
theorem d_M_init_179 : decode prog_6_method_1_code 179 = .ok (.putfield 74, 3) := by decide +kernel
theorem d_M_init_182 : decode prog_6_method_1_code 182 = .ok (.aload_n 0, 1) := by decide +kernel
theorem d_M_init_183 : decode prog_6_method_1_code 183 = .ok (.sipush 183, 3) := by decide +kernel
theorem d_M_init_186 : decode prog_6_method_1_code 186 = .ok (.newarray .boolean, 2) := by decide +kernel
theorem d_M_init_188 : decode prog_6_method_1_code 188 = .ok (.putfield 77, 3) := by decide +kernel
theorem d_M_init_191 : decode prog_6_method_1_code 191 = .ok (.iconst 0, 1) := by decide +kernel
theorem d_M_init_192 : decode prog_6_method_1_code 192 = .ok (.istore_n 1, 1) := by decide +kernel
theorem d_M_init_193 : decode prog_6_method_1_code 193 = .ok (.iload_n 1, 1) := by decide +kernel
theorem d_M_init_194 : decode prog_6_method_1_code 194 = .ok (.iconst 3, 1) := by decide +kernel
theorem d_M_init_195 : decode prog_6_method_1_code 195 = .ok (.if_icmp .ge 16, 3) := by decide +kernel
theorem d_M_init_198 : decode prog_6_method_1_code 198 = .ok (.aload_n 0, 1) := by decide +kernel
theorem d_M_init_199 : decode prog_6_method_1_code 199 = .ok (.getfield 53, 3) := by decide +kernel
theorem d_M_init_202 : decode prog_6_method_1_code 202 = .ok (.iload_n 1, 1) := by decide +kernel
theorem d_M_init_203 : decode prog_6_method_1_code 203 = .ok (.iconst 1, 1) := by decide +kernel
theorem d_M_init_204 : decode prog_6_method_1_code 204 = .ok (.bastore, 1) := by decide +kernel
theorem d_M_init_205 : decode prog_6_method_1_code 205 = .ok (.iinc 1 1, 3) := by decide +kernel
theorem d_M_init_208 : decode prog_6_method_1_code 208 = .ok (.goto (-15), 3) := by decide +kernel
theorem d_M_init_211 : decode prog_6_method_1_code 211 = .ok (.iconst 0, 1) := by decide +kernel
theorem d_M_init_212 : decode prog_6_method_1_code 212 = .ok (.istore_n 1, 1) := by decide +kernel
theorem d_M_init_213 : decode prog_6_method_1_code 213 = .ok (.iload_n 1, 1) := by decide +kernel
theorem d_M_init_214 : decode prog_6_method_1_code 214 = .ok (.sipush 183, 3) := by decide +kernel
theorem d_M_init_217 : decode prog_6_method_1_code 217 = .ok (.if_icmp .ge 16, 3) := by decide +kernel
theorem d_M_init_220 : decode prog_6_method_1_code 220 = .ok (.aload_n 0, 1) := by decide +kernel
theorem d_M_init_221 : decode prog_6_method_1_code 221 = .ok (.getfield 68, 3) := by decide +kernel
theorem d_M_init_224 : decode prog_6_method_1_code 224 = .ok (.iload_n 1, 1) := by decide +kernel
theorem d_M_init_225 : decode prog_6_method_1_code 225 = .ok (.iconst (-1), 1) := by decide +kernel
theorem d_M_init_226 : decode prog_6_method_1_code 226 = .ok (.iastore, 1) := by decide +kernel
theorem d_M_init_227 : decode prog_6_method_1_code 227 = .ok (.iinc 1 1, 3) := by decide +kernel
theorem d_M_init_230 : decode prog_6_method_1_code 230 = .ok (.goto (-17), 3) := by decide +kernel
theorem d_M_init_233 : decode prog_6_method_1_code 233 = .ok (.return_, 1) := by decide +kernel
theorem cn_M_init : CN y_M_init (.code y_M_init prog_6_method_1_code 2 none) prog_6_method_1_code 2 none [] 0 := ⟨Or.inl ⟨rfl, rfl⟩, mw_573, mw_5, ⟨by decide +kernel, by decide +kernel⟩, by decide +kernel⟩
def b_M_init_213 : Nat → Sg → Nat → Int32 → Option Sg
  | 0 => fun _ _ _ => none
  | n + 1 => fun σ a0 x1 => (if (183 : Int32) ≤ x1 then (some σ) else (if a0 < σ.1 ∧ kd a0 = 4 then rc (g_r σ a0 21) none (fun b49 => (if (b49 < σ.1 ∧ kd b49 = 10) ∧ inb x1 (ln b49) = true then (wi (s_i σ b49 x1.toNatClampNeg (-1 : Int32)) (fun s50 => (b_M_init_213 n s50 a0 (x1 + 1)))) else none)) else none))
set_option maxRecDepth 100000 in
set_option maxHeartbeats 4000000 in
theorem gb_M_init_213 {Γ : GX} (K : Cx Γ "TapirGroupModel" prog_6_method_1_code 2 rm_M_init) (S : Std Γ none) (T : Tb Γ []) (hI : y_M_init.name = "<init>" → Ini Γ) (n : Nat) : ∀ (σ : Sg) (a0 : Nat) (x1 : Int32), G Γ mkV 23 2235 213 [(0, .ref a0), (1, .int x1)] [] σ (b_M_init_213 n σ a0 x1) := by
  induction n with
  | zero =>
    intro σ a0 x1
    exact g_none
  | succ n ih =>
    intro σ a0 x1
    rw [b_M_init_213]
    refine g_iload_n (pc := 213) (j := 1) K d_M_init_213 rfl ?_
    refine g_sipush (pc := 214) (v := 183) K d_M_init_214 (by decide) ?_
    refine g_icmp_ge (pc := 217) (tgt := 233) K d_M_init_217 (by decide) (fun _ => ?_) (fun _ => ?_)
    · exact g_vret (pc := 233) K S d_M_init_233 (by decide) (by decide) rfl
    · refine g_aload_n (pc := 220) (j := 0) K d_M_init_220 rfl ?_
      refine g_getR (pc := 221) K fl_M_68 d_M_init_221 (fun _ => ?_) (fun b49 _ => ?_)
      · exact g_none
      · refine g_iload_n (pc := 224) (j := 1) K d_M_init_224 rfl ?_
        refine g_iconst (pc := 225) (v := -1) K d_M_init_225 (by decide) ?_
        refine g_iast (pc := 226) K d_M_init_226 ?_
        refine g_wi (fun s50 _ => ?_)
        refine g_iinc (pc := 227) (j := 1) (v := (x1 + 1)) (L' := [(1, .int (x1 + 1)), (0, .ref a0)]) K d_M_init_227 rfl (by rfl) (by decide) rfl ?_
        refine g_goto (pc := 230) (tgt := 213) K d_M_init_230 (by decide) ?_
        refine g_sub (L' := [(0, .ref a0), (1, .int (x1 + 1))]) [1, 0] rfl ?_
        exact ih s50 a0 (x1 + 1)
def b_M_init_193 : Nat → Sg → Nat → Int32 → Option Sg
  | 0 => fun _ _ _ => none
  | n + 1 => fun σ a0 x1 => (if (3 : Int32) ≤ x1 then (b_M_init_213 1000 σ a0 (0 : Int32)) else (if a0 < σ.1 ∧ kd a0 = 4 then rc (g_r σ a0 16) none (fun b47 => (if ((b47 < σ.1 ∧ kd b47 = 11) ∧ inb x1 (ln b47) = true) ∧ ((1 : Int32) = 0 ∨ (1 : Int32) = 1) then (wi (s_i σ b47 x1.toNatClampNeg (1 : Int32)) (fun s48 => (b_M_init_193 n s48 a0 (x1 + 1)))) else none)) else none))
set_option maxRecDepth 100000 in
set_option maxHeartbeats 4000000 in
theorem gb_M_init_193 {Γ : GX} (K : Cx Γ "TapirGroupModel" prog_6_method_1_code 2 rm_M_init) (S : Std Γ none) (T : Tb Γ []) (hI : y_M_init.name = "<init>" → Ini Γ) (n : Nat) : ∀ (σ : Sg) (a0 : Nat) (x1 : Int32), G Γ mkV 23 2235 193 [(0, .ref a0), (1, .int x1)] [] σ (b_M_init_193 n σ a0 x1) := by
  induction n with
  | zero =>
    intro σ a0 x1
    exact g_none
  | succ n ih =>
    intro σ a0 x1
    rw [b_M_init_193]
    refine g_iload_n (pc := 193) (j := 1) K d_M_init_193 rfl ?_
    refine g_iconst (pc := 194) (v := 3) K d_M_init_194 (by decide) ?_
    refine g_icmp_ge (pc := 195) (tgt := 211) K d_M_init_195 (by decide) (fun _ => ?_) (fun _ => ?_)
    · refine g_iconst (pc := 211) (v := 0) K d_M_init_211 (by decide) ?_
      refine g_istore_n (pc := 212) (L' := [(1, .int (0 : Int32)), (0, .ref a0)]) K d_M_init_212 (by decide) rfl ?_
      refine g_sub (L' := [(0, .ref a0), (1, .int (0 : Int32))]) [1, 0] rfl ?_
      exact gb_M_init_213 K S T hI 1000 σ a0 (0 : Int32)
    · refine g_aload_n (pc := 198) (j := 0) K d_M_init_198 rfl ?_
      refine g_getR (pc := 199) K fl_M_53 d_M_init_199 (fun _ => ?_) (fun b47 _ => ?_)
      · exact g_none
      · refine g_iload_n (pc := 202) (j := 1) K d_M_init_202 rfl ?_
        refine g_iconst (pc := 203) (v := 1) K d_M_init_203 (by decide) ?_
        refine g_zast (pc := 204) K d_M_init_204 ?_
        refine g_wi (fun s48 _ => ?_)
        refine g_iinc (pc := 205) (j := 1) (v := (x1 + 1)) (L' := [(1, .int (x1 + 1)), (0, .ref a0)]) K d_M_init_205 rfl (by rfl) (by decide) rfl ?_
        refine g_goto (pc := 208) (tgt := 193) K d_M_init_208 (by decide) ?_
        refine g_sub (L' := [(0, .ref a0), (1, .int (x1 + 1))]) [1, 0] rfl ?_
        exact ih s48 a0 (x1 + 1)
def f_M_init (σ : Sg) (a0 : Nat) : Option Sg := (if (kd σ.1 = 10 ∧ ln σ.1 = 61) ∧ σ.1 < SCR then (wi (s_n σ) (fun s1 => (if (a0 < s1.1 ∧ kd a0 = 4) ∧ σ.1 < s1.1 then (wi (s_r s1 a0 2 (some σ.1)) (fun s2 => (if (kd s2.1 = 10 ∧ ln s2.1 = 61) ∧ s2.1 < SCR then (wi (s_n s2) (fun s3 => (if (a0 < s3.1 ∧ kd a0 = 4) ∧ s2.1 < s3.1 then (wi (s_r s3 a0 3 (some s2.1)) (fun s4 => (if (kd s4.1 = 10 ∧ ln s4.1 = 244) ∧ s4.1 < SCR then (wi (s_n s4) (fun s5 => (if (a0 < s5.1 ∧ kd a0 = 4) ∧ s4.1 < s5.1 then (wi (s_r s5 a0 4 (some s4.1)) (fun s6 => (if (kd s6.1 = 10 ∧ ln s6.1 = 244) ∧ s6.1 < SCR then (wi (s_n s6) (fun s7 => (if (a0 < s7.1 ∧ kd a0 = 4) ∧ s6.1 < s7.1 then (wi (s_r s7 a0 5 (some s6.1)) (fun s8 => (if (kd s8.1 = 10 ∧ ln s8.1 = 244) ∧ s8.1 < SCR then (wi (s_n s8) (fun s9 => (if (a0 < s9.1 ∧ kd a0 = 4) ∧ s8.1 < s9.1 then (wi (s_r s9 a0 6 (some s8.1)) (fun s10 => (if (kd s10.1 = 10 ∧ ln s10.1 = 61) ∧ s10.1 < SCR then (wi (s_n s10) (fun s11 => (if (a0 < s11.1 ∧ kd a0 = 4) ∧ s10.1 < s11.1 then (wi (s_r s11 a0 7 (some s10.1)) (fun s12 => (if (kd s12.1 = 10 ∧ ln s12.1 = 244) ∧ s12.1 < SCR then (wi (s_n s12) (fun s13 => (if (a0 < s13.1 ∧ kd a0 = 4) ∧ s12.1 < s13.1 then (wi (s_r s13 a0 8 (some s12.1)) (fun s14 => (if (kd s14.1 = 10 ∧ ln s14.1 = 244) ∧ s14.1 < SCR then (wi (s_n s14) (fun s15 => (if (a0 < s15.1 ∧ kd a0 = 4) ∧ s14.1 < s15.1 then (wi (s_r s15 a0 9 (some s14.1)) (fun s16 => (if (kd s16.1 = 10 ∧ ln s16.1 = 4) ∧ s16.1 < SCR then (wi (s_n s16) (fun s17 => (if (a0 < s17.1 ∧ kd a0 = 4) ∧ s16.1 < s17.1 then (wi (s_r s17 a0 10 (some s16.1)) (fun s18 => (if (kd s18.1 = 10 ∧ ln s18.1 = 4) ∧ s18.1 < SCR then (wi (s_n s18) (fun s19 => (if (a0 < s19.1 ∧ kd a0 = 4) ∧ s18.1 < s19.1 then (wi (s_r s19 a0 11 (some s18.1)) (fun s20 => (if (kd s20.1 = 10 ∧ ln s20.1 = 4) ∧ s20.1 < SCR then (wi (s_n s20) (fun s21 => (if (a0 < s21.1 ∧ kd a0 = 4) ∧ s20.1 < s21.1 then (wi (s_r s21 a0 12 (some s20.1)) (fun s22 => (if (kd s22.1 = 10 ∧ ln s22.1 = 4) ∧ s22.1 < SCR then (wi (s_n s22) (fun s23 => (if (a0 < s23.1 ∧ kd a0 = 4) ∧ s22.1 < s23.1 then (wi (s_r s23 a0 13 (some s22.1)) (fun s24 => (if (kd s24.1 = 10 ∧ ln s24.1 = 12) ∧ s24.1 < SCR then (wi (s_n s24) (fun s25 => (if (a0 < s25.1 ∧ kd a0 = 4) ∧ s24.1 < s25.1 then (wi (s_r s25 a0 14 (some s24.1)) (fun s26 => (if (kd s26.1 = 11 ∧ ln s26.1 = 12) ∧ s26.1 < SCR then (wi (s_n s26) (fun s27 => (if (a0 < s27.1 ∧ kd a0 = 4) ∧ s26.1 < s27.1 then (wi (s_r s27 a0 15 (some s26.1)) (fun s28 => (if (kd s28.1 = 11 ∧ ln s28.1 = 3) ∧ s28.1 < SCR then (wi (s_n s28) (fun s29 => (if (a0 < s29.1 ∧ kd a0 = 4) ∧ s28.1 < s29.1 then (wi (s_r s29 a0 16 (some s28.1)) (fun s30 => (if (kd s30.1 = 10 ∧ ln s30.1 = 3) ∧ s30.1 < SCR then (wi (s_n s30) (fun s31 => (if (a0 < s31.1 ∧ kd a0 = 4) ∧ s30.1 < s31.1 then (wi (s_r s31 a0 17 (some s30.1)) (fun s32 => (if (kd s32.1 = 10 ∧ ln s32.1 = 18) ∧ s32.1 < SCR then (wi (s_n s32) (fun s33 => (if (a0 < s33.1 ∧ kd a0 = 4) ∧ s32.1 < s33.1 then (wi (s_r s33 a0 18 (some s32.1)) (fun s34 => (if (kd s34.1 = 10 ∧ ln s34.1 = 18) ∧ s34.1 < SCR then (wi (s_n s34) (fun s35 => (if (a0 < s35.1 ∧ kd a0 = 4) ∧ s34.1 < s35.1 then (wi (s_r s35 a0 19 (some s34.1)) (fun s36 => (if (kd s36.1 = 10 ∧ ln s36.1 = 18) ∧ s36.1 < SCR then (wi (s_n s36) (fun s37 => (if (a0 < s37.1 ∧ kd a0 = 4) ∧ s36.1 < s37.1 then (wi (s_r s37 a0 20 (some s36.1)) (fun s38 => (if (kd s38.1 = 10 ∧ ln s38.1 = 183) ∧ s38.1 < SCR then (wi (s_n s38) (fun s39 => (if (a0 < s39.1 ∧ kd a0 = 4) ∧ s38.1 < s39.1 then (wi (s_r s39 a0 21 (some s38.1)) (fun s40 => (if (kd s40.1 = 11 ∧ ln s40.1 = 183) ∧ s40.1 < SCR then (wi (s_n s40) (fun s41 => (if (a0 < s41.1 ∧ kd a0 = 4) ∧ s40.1 < s41.1 then (wi (s_r s41 a0 22 (some s40.1)) (fun s42 => (if (kd s42.1 = 11 ∧ ln s42.1 = 183) ∧ s42.1 < SCR then (wi (s_n s42) (fun s43 => (if (a0 < s43.1 ∧ kd a0 = 4) ∧ s42.1 < s43.1 then (wi (s_r s43 a0 23 (some s42.1)) (fun s44 => (if (kd s44.1 = 11 ∧ ln s44.1 = 183) ∧ s44.1 < SCR then (wi (s_n s44) (fun s45 => (if (a0 < s45.1 ∧ kd a0 = 4) ∧ s44.1 < s45.1 then (wi (s_r s45 a0 24 (some s44.1)) (fun s46 => (b_M_init_193 1000 s46 a0 (0 : Int32)))) else none))) else none))) else none))) else none))) else none))) else none))) else none))) else none))) else none))) else none))) else none))) else none))) else none))) else none))) else none))) else none))) else none))) else none))) else none))) else none))) else none))) else none))) else none))) else none))) else none))) else none))) else none))) else none))) else none))) else none))) else none))) else none))) else none))) else none))) else none))) else none))) else none))) else none))) else none))) else none))) else none))) else none))) else none))) else none))) else none))) else none)
set_option maxRecDepth 100000 in
set_option maxHeartbeats 4000000 in
theorem k_M_init (l : Launch) (hl : l.stackTraces = false) (σ : Sg) (a0 : Nat) (r : Sg) (h : f_M_init σ a0 = some r) : Con l y_M_init (.code y_M_init prog_6_method_1_code 2 none) rm_M_init [.ref a0] σ (mkV r) := by
  refine Con.of (mk := mkV) (o := f_M_init σ a0) (z := r) (L0 := [(0, .ref a0)]) (bytes := prog_6_method_1_code) (maxL := 2) (ret := none) (hh := []) hl (by decide +kernel) (Or.inl ⟨rfl, rfl⟩) (by simp [Value.category]) (Nat.le_of_ble_eq_true rfl) rfl (fun Γ K S T hI => ?_) h rfl
  unfold f_M_init
  refine g_aload_n (pc := 0) (j := 0) K d_M_init_0 rfl ?_
  refine g_objInit (pc := 1) K mw_574 mw_22 mw_23 (by decide) (by decide) (Nat.le_of_ble_eq_true rfl) d_M_init_1 ?_
  refine g_aload_n (pc := 4) (j := 0) K d_M_init_4 rfl ?_
  refine g_bipush (pc := 5) (v := 61) K d_M_init_5 (by decide) ?_
  refine g_newI (pc := 7) (N := 61) K mw_63 d_M_init_7 (by decide) (by decide) (by decide) (by decide) (by decide) ?_
  refine g_wi (fun s1 _ => ?_)
  refine g_putRF (pc := 9) K (hI rfl) (fun _ _ _ h => by cases h; rfl) fl_M_7 d_M_init_9 ?_
  refine g_wi (fun s2 _ => ?_)
  refine g_aload_n (pc := 12) (j := 0) K d_M_init_12 rfl ?_
  refine g_bipush (pc := 13) (v := 61) K d_M_init_13 (by decide) ?_
  refine g_newI (pc := 15) (N := 61) K mw_63 d_M_init_15 (by decide) (by decide) (by decide) (by decide) (by decide) ?_
  refine g_wi (fun s3 _ => ?_)
  refine g_putRF (pc := 17) K (hI rfl) (fun _ _ _ h => by cases h; rfl) fl_M_13 d_M_init_17 ?_
  refine g_wi (fun s4 _ => ?_)
  refine g_aload_n (pc := 20) (j := 0) K d_M_init_20 rfl ?_
  refine g_sipush (pc := 21) (v := 244) K d_M_init_21 (by decide) ?_
  refine g_newI (pc := 24) (N := 244) K mw_63 d_M_init_24 (by decide) (by decide) (by decide) (by decide) (by decide) ?_
  refine g_wi (fun s5 _ => ?_)
  refine g_putRF (pc := 26) K (hI rfl) (fun _ _ _ h => by cases h; rfl) fl_M_16 d_M_init_26 ?_
  refine g_wi (fun s6 _ => ?_)
  refine g_aload_n (pc := 29) (j := 0) K d_M_init_29 rfl ?_
  refine g_sipush (pc := 30) (v := 244) K d_M_init_30 (by decide) ?_
  refine g_newI (pc := 33) (N := 244) K mw_63 d_M_init_33 (by decide) (by decide) (by decide) (by decide) (by decide) ?_
  refine g_wi (fun s7 _ => ?_)
  refine g_putRF (pc := 35) K (hI rfl) (fun _ _ _ h => by cases h; rfl) fl_M_19 d_M_init_35 ?_
  refine g_wi (fun s8 _ => ?_)
  refine g_aload_n (pc := 38) (j := 0) K d_M_init_38 rfl ?_
  refine g_sipush (pc := 39) (v := 244) K d_M_init_39 (by decide) ?_
  refine g_newI (pc := 42) (N := 244) K mw_63 d_M_init_42 (by decide) (by decide) (by decide) (by decide) (by decide) ?_
  refine g_wi (fun s9 _ => ?_)
  refine g_putRF (pc := 44) K (hI rfl) (fun _ _ _ h => by cases h; rfl) fl_M_22 d_M_init_44 ?_
  refine g_wi (fun s10 _ => ?_)
  refine g_aload_n (pc := 47) (j := 0) K d_M_init_47 rfl ?_
  refine g_bipush (pc := 48) (v := 61) K d_M_init_48 (by decide) ?_
  refine g_newI (pc := 50) (N := 61) K mw_63 d_M_init_50 (by decide) (by decide) (by decide) (by decide) (by decide) ?_
  refine g_wi (fun s11 _ => ?_)
  refine g_putRF (pc := 52) K (hI rfl) (fun _ _ _ h => by cases h; rfl) fl_M_25 d_M_init_52 ?_
  refine g_wi (fun s12 _ => ?_)
  refine g_aload_n (pc := 55) (j := 0) K d_M_init_55 rfl ?_
  refine g_sipush (pc := 56) (v := 244) K d_M_init_56 (by decide) ?_
  refine g_newI (pc := 59) (N := 244) K mw_63 d_M_init_59 (by decide) (by decide) (by decide) (by decide) (by decide) ?_
  refine g_wi (fun s13 _ => ?_)
  refine g_putRF (pc := 61) K (hI rfl) (fun _ _ _ h => by cases h; rfl) fl_M_28 d_M_init_61 ?_
  refine g_wi (fun s14 _ => ?_)
  refine g_aload_n (pc := 64) (j := 0) K d_M_init_64 rfl ?_
  refine g_sipush (pc := 65) (v := 244) K d_M_init_65 (by decide) ?_
  refine g_newI (pc := 68) (N := 244) K mw_63 d_M_init_68 (by decide) (by decide) (by decide) (by decide) (by decide) ?_
  refine g_wi (fun s15 _ => ?_)
  refine g_putRF (pc := 70) K (hI rfl) (fun _ _ _ h => by cases h; rfl) fl_M_31 d_M_init_70 ?_
  refine g_wi (fun s16 _ => ?_)
  refine g_aload_n (pc := 73) (j := 0) K d_M_init_73 rfl ?_
  refine g_iconst (pc := 74) (v := 4) K d_M_init_74 (by decide) ?_
  refine g_newI (pc := 75) (N := 4) K mw_63 d_M_init_75 (by decide) (by decide) (by decide) (by decide) (by decide) ?_
  refine g_wi (fun s17 _ => ?_)
  refine g_putRF (pc := 77) K (hI rfl) (fun _ _ _ h => by cases h; rfl) fl_M_34 d_M_init_77 ?_
  refine g_wi (fun s18 _ => ?_)
  refine g_aload_n (pc := 80) (j := 0) K d_M_init_80 rfl ?_
  refine g_iconst (pc := 81) (v := 4) K d_M_init_81 (by decide) ?_
  refine g_newI (pc := 82) (N := 4) K mw_63 d_M_init_82 (by decide) (by decide) (by decide) (by decide) (by decide) ?_
  refine g_wi (fun s19 _ => ?_)
  refine g_putRF (pc := 84) K (hI rfl) (fun _ _ _ h => by cases h; rfl) fl_M_37 d_M_init_84 ?_
  refine g_wi (fun s20 _ => ?_)
  refine g_aload_n (pc := 87) (j := 0) K d_M_init_87 rfl ?_
  refine g_iconst (pc := 88) (v := 4) K d_M_init_88 (by decide) ?_
  refine g_newI (pc := 89) (N := 4) K mw_63 d_M_init_89 (by decide) (by decide) (by decide) (by decide) (by decide) ?_
  refine g_wi (fun s21 _ => ?_)
  refine g_putRF (pc := 91) K (hI rfl) (fun _ _ _ h => by cases h; rfl) fl_M_40 d_M_init_91 ?_
  refine g_wi (fun s22 _ => ?_)
  refine g_aload_n (pc := 94) (j := 0) K d_M_init_94 rfl ?_
  refine g_iconst (pc := 95) (v := 4) K d_M_init_95 (by decide) ?_
  refine g_newI (pc := 96) (N := 4) K mw_63 d_M_init_96 (by decide) (by decide) (by decide) (by decide) (by decide) ?_
  refine g_wi (fun s23 _ => ?_)
  refine g_putRF (pc := 98) K (hI rfl) (fun _ _ _ h => by cases h; rfl) fl_M_43 d_M_init_98 ?_
  refine g_wi (fun s24 _ => ?_)
  refine g_aload_n (pc := 101) (j := 0) K d_M_init_101 rfl ?_
  refine g_bipush (pc := 102) (v := 12) K d_M_init_102 (by decide) ?_
  refine g_newI (pc := 104) (N := 12) K mw_63 d_M_init_104 (by decide) (by decide) (by decide) (by decide) (by decide) ?_
  refine g_wi (fun s25 _ => ?_)
  refine g_putRF (pc := 106) K (hI rfl) (fun _ _ _ h => by cases h; rfl) fl_M_46 d_M_init_106 ?_
  refine g_wi (fun s26 _ => ?_)
  refine g_aload_n (pc := 109) (j := 0) K d_M_init_109 rfl ?_
  refine g_bipush (pc := 110) (v := 12) K d_M_init_110 (by decide) ?_
  refine g_newZ (pc := 112) (N := 12) K mw_651 d_M_init_112 (by decide) (by decide) (by decide) (by decide) (by decide) ?_
  refine g_wi (fun s27 _ => ?_)
  refine g_putRF (pc := 114) K (hI rfl) (fun _ _ _ h => by cases h; rfl) fl_M_49 d_M_init_114 ?_
  refine g_wi (fun s28 _ => ?_)
  refine g_aload_n (pc := 117) (j := 0) K d_M_init_117 rfl ?_
  refine g_iconst (pc := 118) (v := 3) K d_M_init_118 (by decide) ?_
  refine g_newZ (pc := 119) (N := 3) K mw_651 d_M_init_119 (by decide) (by decide) (by decide) (by decide) (by decide) ?_
  refine g_wi (fun s29 _ => ?_)
  refine g_putRF (pc := 121) K (hI rfl) (fun _ _ _ h => by cases h; rfl) fl_M_53 d_M_init_121 ?_
  refine g_wi (fun s30 _ => ?_)
  refine g_aload_n (pc := 124) (j := 0) K d_M_init_124 rfl ?_
  refine g_iconst (pc := 125) (v := 3) K d_M_init_125 (by decide) ?_
  refine g_newI (pc := 126) (N := 3) K mw_63 d_M_init_126 (by decide) (by decide) (by decide) (by decide) (by decide) ?_
  refine g_wi (fun s31 _ => ?_)
  refine g_putRF (pc := 128) K (hI rfl) (fun _ _ _ h => by cases h; rfl) fl_M_56 d_M_init_128 ?_
  refine g_wi (fun s32 _ => ?_)
  refine g_aload_n (pc := 131) (j := 0) K d_M_init_131 rfl ?_
  refine g_bipush (pc := 132) (v := 18) K d_M_init_132 (by decide) ?_
  refine g_newI (pc := 134) (N := 18) K mw_63 d_M_init_134 (by decide) (by decide) (by decide) (by decide) (by decide) ?_
  refine g_wi (fun s33 _ => ?_)
  refine g_putRF (pc := 136) K (hI rfl) (fun _ _ _ h => by cases h; rfl) fl_M_59 d_M_init_136 ?_
  refine g_wi (fun s34 _ => ?_)
  refine g_aload_n (pc := 139) (j := 0) K d_M_init_139 rfl ?_
  refine g_bipush (pc := 140) (v := 18) K d_M_init_140 (by decide) ?_
  refine g_newI (pc := 142) (N := 18) K mw_63 d_M_init_142 (by decide) (by decide) (by decide) (by decide) (by decide) ?_
  refine g_wi (fun s35 _ => ?_)
  refine g_putRF (pc := 144) K (hI rfl) (fun _ _ _ h => by cases h; rfl) fl_M_62 d_M_init_144 ?_
  refine g_wi (fun s36 _ => ?_)
  refine g_aload_n (pc := 147) (j := 0) K d_M_init_147 rfl ?_
  refine g_bipush (pc := 148) (v := 18) K d_M_init_148 (by decide) ?_
  refine g_newI (pc := 150) (N := 18) K mw_63 d_M_init_150 (by decide) (by decide) (by decide) (by decide) (by decide) ?_
  refine g_wi (fun s37 _ => ?_)
  refine g_putRF (pc := 152) K (hI rfl) (fun _ _ _ h => by cases h; rfl) fl_M_65 d_M_init_152 ?_
  refine g_wi (fun s38 _ => ?_)
  refine g_aload_n (pc := 155) (j := 0) K d_M_init_155 rfl ?_
  refine g_sipush (pc := 156) (v := 183) K d_M_init_156 (by decide) ?_
  refine g_newI (pc := 159) (N := 183) K mw_63 d_M_init_159 (by decide) (by decide) (by decide) (by decide) (by decide) ?_
  refine g_wi (fun s39 _ => ?_)
  refine g_putRF (pc := 161) K (hI rfl) (fun _ _ _ h => by cases h; rfl) fl_M_68 d_M_init_161 ?_
  refine g_wi (fun s40 _ => ?_)
  refine g_aload_n (pc := 164) (j := 0) K d_M_init_164 rfl ?_
  refine g_sipush (pc := 165) (v := 183) K d_M_init_165 (by decide) ?_
  refine g_newZ (pc := 168) (N := 183) K mw_651 d_M_init_168 (by decide) (by decide) (by decide) (by decide) (by decide) ?_
  refine g_wi (fun s41 _ => ?_)
  refine g_putRF (pc := 170) K (hI rfl) (fun _ _ _ h => by cases h; rfl) fl_M_71 d_M_init_170 ?_
  refine g_wi (fun s42 _ => ?_)
  refine g_aload_n (pc := 173) (j := 0) K d_M_init_173 rfl ?_
  refine g_sipush (pc := 174) (v := 183) K d_M_init_174 (by decide) ?_
  refine g_newZ (pc := 177) (N := 183) K mw_651 d_M_init_177 (by decide) (by decide) (by decide) (by decide) (by decide) ?_
  refine g_wi (fun s43 _ => ?_)
  refine g_putRF (pc := 179) K (hI rfl) (fun _ _ _ h => by cases h; rfl) fl_M_74 d_M_init_179 ?_
  refine g_wi (fun s44 _ => ?_)
  refine g_aload_n (pc := 182) (j := 0) K d_M_init_182 rfl ?_
  refine g_sipush (pc := 183) (v := 183) K d_M_init_183 (by decide) ?_
  refine g_newZ (pc := 186) (N := 183) K mw_651 d_M_init_186 (by decide) (by decide) (by decide) (by decide) (by decide) ?_
  refine g_wi (fun s45 _ => ?_)
  refine g_putRF (pc := 188) K (hI rfl) (fun _ _ _ h => by cases h; rfl) fl_M_77 d_M_init_188 ?_
  refine g_wi (fun s46 _ => ?_)
  refine g_iconst (pc := 191) (v := 0) K d_M_init_191 (by decide) ?_
  refine g_istore_n (pc := 192) (L' := [(1, .int (0 : Int32)), (0, .ref a0)]) K d_M_init_192 (by decide) rfl ?_
  refine g_sub (L' := [(0, .ref a0), (1, .int (0 : Int32))]) [1, 0] rfl ?_
  exact gb_M_init_193 K S T hI 1000 s46 a0 (0 : Int32)
-- TapirGroupModel.thrown()I
def y_M_thrown : MethodName := ⟨"TapirGroupModel", "thrown", "()I"⟩
abbrev rm_M_thrown : Room := { frames := 0, cells := 0, slots := 0, locals := 0 }
theorem d_M_thrown_0 : decode prog_6_method_2_code 0 = .ok (.aload_n 0, 1) := by decide +kernel
theorem d_M_thrown_1 : decode prog_6_method_2_code 1 = .ok (.getfield 80, 3) := by decide +kernel
theorem d_M_thrown_4 : decode prog_6_method_2_code 4 = .ok (.ireturn, 1) := by decide +kernel
theorem cn_M_thrown : CN y_M_thrown (.code y_M_thrown prog_6_method_2_code 1 (some .int)) prog_6_method_2_code 1 (some .int) [] 0 := ⟨Or.inl ⟨rfl, rfl⟩, mw_655, mw_5, ⟨by decide +kernel, by decide +kernel⟩, by decide +kernel⟩
def f_M_thrown (σ : Sg) (a0 : Nat) : Option Int32 := (if a0 < σ.1 ∧ kd a0 = 4 then (some (g_i σ a0 0)) else none)
set_option maxRecDepth 100000 in
set_option maxHeartbeats 4000000 in
theorem k_M_thrown (l : Launch) (hl : l.stackTraces = false) (σ : Sg) (a0 : Nat) (r : Int32) (h : f_M_thrown σ a0 = some r) : Con l y_M_thrown (.code y_M_thrown prog_6_method_2_code 1 (some .int)) rm_M_thrown [.ref a0] σ ((mkI σ) r) := by
  refine Con.of (mk := (mkI σ)) (o := f_M_thrown σ a0) (z := r) (L0 := [(0, .ref a0)]) (bytes := prog_6_method_2_code) (maxL := 1) (ret := (some .int)) (hh := []) hl (by decide +kernel) (Or.inl ⟨rfl, rfl⟩) (by simp [Value.category]) (Nat.le_of_ble_eq_true rfl) rfl (fun Γ K S T hI => ?_) h rfl
  unfold f_M_thrown
  refine g_aload_n (pc := 0) (j := 0) K d_M_thrown_0 rfl ?_
  refine g_getI (pc := 1) K fl_M_80 d_M_thrown_1 ?_
  exact g_iret (pc := 4) K S rfl d_M_thrown_4 (by decide) (by decide) rfl
-- TapirGroupModel.in(III)Z
def y_M_in : MethodName := ⟨"TapirGroupModel", "in", "(III)Z"⟩
abbrev rm_M_in : Room := { frames := 0, cells := 0, slots := 0, locals := 0 }
theorem d_M_in_0 : decode prog_6_method_4_code 0 = .ok (.iload_n 0, 1) := by decide +kernel
theorem d_M_in_1 : decode prog_6_method_4_code 1 = .ok (.iload_n 1, 1) := by decide +kernel
theorem d_M_in_2 : decode prog_6_method_4_code 2 = .ok (.if_icmp .lt 12, 3) := by decide +kernel
theorem d_M_in_5 : decode prog_6_method_4_code 5 = .ok (.iload_n 0, 1) := by decide +kernel
theorem d_M_in_6 : decode prog_6_method_4_code 6 = .ok (.iload_n 2, 1) := by decide +kernel
theorem d_M_in_7 : decode prog_6_method_4_code 7 = .ok (.if_icmp .gt 7, 3) := by decide +kernel
theorem d_M_in_10 : decode prog_6_method_4_code 10 = .ok (.iconst 1, 1) := by decide +kernel
theorem d_M_in_11 : decode prog_6_method_4_code 11 = .ok (.goto 4, 3) := by decide +kernel
theorem d_M_in_14 : decode prog_6_method_4_code 14 = .ok (.iconst 0, 1) := by decide +kernel
theorem d_M_in_15 : decode prog_6_method_4_code 15 = .ok (.ireturn, 1) := by decide +kernel
theorem cn_M_in : CN y_M_in (.code y_M_in prog_6_method_4_code 3 (some .boolean)) prog_6_method_4_code 3 (some .boolean) [] 3 := ⟨Or.inl ⟨rfl, rfl⟩, mw_665, mw_5, ⟨by decide +kernel, by decide +kernel⟩, by decide +kernel⟩
def b_M_in_15 (σ : Sg)  (t0 : Int32) : Option Int32 := (if t0 = 0 ∨ t0 = 1 then some t0 else none)
set_option maxRecDepth 100000 in
set_option maxHeartbeats 4000000 in
theorem gb_M_in_15 {Γ : GX} (K : Cx Γ "TapirGroupModel" prog_6_method_4_code 3 rm_M_in) (S : Std Γ (some .boolean)) (T : Tb Γ []) (hI : y_M_in.name = "<init>" → Ini Γ) (σ : Sg) (t0 : Int32) : G Γ (mkI σ) 0 0 15 [] [.int t0] σ (b_M_in_15 σ t0) := by
  unfold b_M_in_15
  exact g_zret (pc := 15) K S d_M_in_15 (by decide) (by decide) rfl
def b_M_in_14 (σ : Sg)   : Option Int32 := (b_M_in_15 σ (0 : Int32))
set_option maxRecDepth 100000 in
set_option maxHeartbeats 4000000 in
theorem gb_M_in_14 {Γ : GX} (K : Cx Γ "TapirGroupModel" prog_6_method_4_code 3 rm_M_in) (S : Std Γ (some .boolean)) (T : Tb Γ []) (hI : y_M_in.name = "<init>" → Ini Γ) (σ : Sg)  : G Γ (mkI σ) 0 0 14 [] [] σ (b_M_in_14 σ ) := by
  unfold b_M_in_14
  refine g_iconst (pc := 14) (v := 0) K d_M_in_14 (by decide) ?_
  exact gb_M_in_15 K S T hI σ (0 : Int32)
def f_M_in (σ : Sg) (x0 : Int32) (x1 : Int32) (x2 : Int32) : Option Int32 := (if x0 < x1 then (b_M_in_14 σ) else (if x2 < x0 then (b_M_in_14 σ) else (b_M_in_15 σ (1 : Int32))))
set_option maxRecDepth 100000 in
set_option maxHeartbeats 4000000 in
theorem k_M_in (l : Launch) (hl : l.stackTraces = false) (σ : Sg) (x0 : Int32) (x1 : Int32) (x2 : Int32) (r : Int32) (h : f_M_in σ x0 x1 x2 = some r) : Con l y_M_in (.code y_M_in prog_6_method_4_code 3 (some .boolean)) rm_M_in [.int x0, .int x1, .int x2] σ ((mkI σ) r) := by
  refine Con.of (mk := (mkI σ)) (o := f_M_in σ x0 x1 x2) (z := r) (L0 := [(0, .int x0), (1, .int x1), (2, .int x2)]) (bytes := prog_6_method_4_code) (maxL := 3) (ret := (some .boolean)) (hh := []) hl (by decide +kernel) (Or.inl ⟨rfl, rfl⟩) (by simp [Value.category]) (Nat.le_of_ble_eq_true rfl) rfl (fun Γ K S T hI => ?_) h rfl
  unfold f_M_in
  refine g_iload_n (pc := 0) (j := 0) K d_M_in_0 rfl ?_
  refine g_iload_n (pc := 1) (j := 1) K d_M_in_1 rfl ?_
  refine g_icmp_lt (pc := 2) (tgt := 14) K d_M_in_2 (by decide) (fun _ => ?_) (fun _ => ?_)
  · refine g_sub (L' := []) [] rfl ?_
    exact gb_M_in_14 K S T hI σ
  · refine g_iload_n (pc := 5) (j := 0) K d_M_in_5 rfl ?_
    refine g_iload_n (pc := 6) (j := 2) K d_M_in_6 rfl ?_
    refine g_icmp_gt (pc := 7) (tgt := 14) K d_M_in_7 (by decide) (fun _ => ?_) (fun _ => ?_)
    · refine g_sub (L' := []) [] rfl ?_
      exact gb_M_in_14 K S T hI σ
    · refine g_iconst (pc := 10) (v := 1) K d_M_in_10 (by decide) ?_
      refine g_goto (pc := 11) (tgt := 15) K d_M_in_11 (by decide) ?_
      refine g_sub (L' := []) [] rfl ?_
      exact gb_M_in_15 K S T hI σ (1 : Int32)
