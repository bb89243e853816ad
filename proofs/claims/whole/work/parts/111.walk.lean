-- TapirGroup.mergeRecords(II)V
def y_G_mergeRecords : MethodName := ⟨"TapirGroup", "mergeRecords", "(II)V"⟩
abbrev rm_G_mergeRecords : Room := { frames := 4, cells := 0, slots := 0, locals := 89 }
theorem d_G_mergeRecords_0 : decode prog_1_method_27_code 0 = .ok (.aload_n 0, 1) := by decide +kernel
theorem d_G_mergeRecords_1 : decode prog_1_method_27_code 1 = .ok (.iload_n 1, 1) := by decide +kernel
theorem d_G_mergeRecords_2 : decode prog_1_method_27_code 2 = .ok (.bipush 8, 2) := by decide +kernel
theorem d_G_mergeRecords_4 : decode prog_1_method_27_code 4 = .ok (.invokevirtual 276, 3) := by decide +kernel
theorem d_G_mergeRecords_7 : decode prog_1_method_27_code 7 = .ok (.ifCond .eq 14, 3) := by decide +kernel
theorem d_G_mergeRecords_10 : decode prog_1_method_27_code 10 = .ok (.aload_n 0, 1) := by decide +kernel
theorem d_G_mergeRecords_11 : decode prog_1_method_27_code 11 = .ok (.iload_n 1, 1) := by decide +kernel
theorem d_G_mergeRecords_12 : decode prog_1_method_27_code 12 = .ok (.bipush 8, 2) := by decide +kernel
theorem d_G_mergeRecords_14 : decode prog_1_method_27_code 14 = .ok (.iconst 0, 1) := by decide +kernel
theorem d_G_mergeRecords_15 : decode prog_1_method_27_code 15 = .ok (.invokevirtual 279, 3) := by decide +kernel
theorem d_G_mergeRecords_18 : decode prog_1_method_27_code 18 = .ok (.goto 79, 3) := by decide +kernel
theorem d_G_mergeRecords_21 : decode prog_1_method_27_code 21 = .ok (.aload_n 0, 1) := by decide +kernel
theorem d_G_mergeRecords_22 : decode prog_1_method_27_code 22 = .ok (.iload_n 1, 1) := by decide +kernel
theorem d_G_mergeRecords_23 : decode prog_1_method_27_code 23 = .ok (.bipush 16, 2) := by decide +kernel
theorem d_G_mergeRecords_25 : decode prog_1_method_27_code 25 = .ok (.invokevirtual 276, 3) := by decide +kernel
theorem d_G_mergeRecords_28 : decode prog_1_method_27_code 28 = .ok (.ifCond .eq 14, 3) := by decide +kernel
theorem d_G_mergeRecords_31 : decode prog_1_method_27_code 31 = .ok (.aload_n 0, 1) := by decide +kernel
theorem d_G_mergeRecords_32 : decode prog_1_method_27_code 32 = .ok (.iload_n 1, 1) := by decide +kernel
theorem d_G_mergeRecords_33 : decode prog_1_method_27_code 33 = .ok (.bipush 16, 2) := by decide +kernel
theorem d_G_mergeRecords_35 : decode prog_1_method_27_code 35 = .ok (.iconst 2, 1) := by decide +kernel
theorem d_G_mergeRecords_36 : decode prog_1_method_27_code 36 = .ok (.invokevirtual 279, 3) := by decide +kernel
theorem d_G_mergeRecords_39 : decode prog_1_method_27_code 39 = .ok (.goto 58, 3) := by decide +kernel
theorem d_G_mergeRecords_42 : decode prog_1_method_27_code 42 = .ok (.aload_n 0, 1) := by decide +kernel
theorem d_G_mergeRecords_43 : decode prog_1_method_27_code 43 = .ok (.iload_n 1, 1) := by decide +kernel
theorem d_G_mergeRecords_44 : decode prog_1_method_27_code 44 = .ok (.invokevirtual 282, 3) := by decide +kernel
theorem d_G_mergeRecords_47 : decode prog_1_method_27_code 47 = .ok (.ifCond .eq 50, 3) := by decide +kernel
theorem d_G_mergeRecords_50 : decode prog_1_method_27_code 50 = .ok (.aload_n 0, 1) := by decide +kernel
theorem d_G_mergeRecords_51 : decode prog_1_method_27_code 51 = .ok (.iload_n 1, 1) := by decide +kernel
theorem d_G_mergeRecords_52 : decode prog_1_method_27_code 52 = .ok (.iload_n 2, 1) := by decide +kernel
theorem d_G_mergeRecords_53 : decode prog_1_method_27_code 53 = .ok (.invokevirtual 285, 3) := by decide +kernel
theorem d_G_mergeRecords_56 : decode prog_1_method_27_code 56 = .ok (.istore_n 3, 1) := by decide +kernel
theorem d_G_mergeRecords_57 : decode prog_1_method_27_code 57 = .ok (.iconst 0, 1) := by decide +kernel
theorem d_G_mergeRecords_58 : decode prog_1_method_27_code 58 = .ok (.istore 4, 2) := by decide +kernel
theorem d_G_mergeRecords_60 : decode prog_1_method_27_code 60 = .ok (.iload 4, 2) := by decide +kernel
theorem d_G_mergeRecords_62 : decode prog_1_method_27_code 62 = .ok (.iconst 3, 1) := by decide +kernel
theorem d_G_mergeRecords_63 : decode prog_1_method_27_code 63 = .ok (.if_icmp .ge 34, 3) := by decide +kernel
theorem d_G_mergeRecords_66 : decode prog_1_method_27_code 66 = .ok (.aload_n 0, 1) := by decide +kernel
theorem d_G_mergeRecords_67 : decode prog_1_method_27_code 67 = .ok (.getfield 11, 3) := by decide +kernel
theorem d_G_mergeRecords_70 : decode prog_1_method_27_code 70 = .ok (.iload 4, 2) := by decide +kernel
theorem d_G_mergeRecords_72 : decode prog_1_method_27_code 72 = .ok (.aaload, 1) := by decide +kernel
theorem d_G_mergeRecords_73 : decode prog_1_method_27_code 73 = .ok (.getfield 220, 3) := by decide +kernel
theorem d_G_mergeRecords_76 : decode prog_1_method_27_code 76 = .ok (.ifCond .eq 15, 3) := by decide +kernel
theorem d_G_mergeRecords_79 : decode prog_1_method_27_code 79 = .ok (.aload_n 0, 1) := by decide +kernel
theorem d_G_mergeRecords_80 : decode prog_1_method_27_code 80 = .ok (.getfield 11, 3) := by decide +kernel
theorem d_G_mergeRecords_83 : decode prog_1_method_27_code 83 = .ok (.iload 4, 2) := by decide +kernel
theorem d_G_mergeRecords_85 : decode prog_1_method_27_code 85 = .ok (.aaload, 1) := by decide +kernel
theorem d_G_mergeRecords_86 : decode prog_1_method_27_code 86 = .ok (.iload_n 1, 1) := by decide +kernel
theorem d_G_mergeRecords_87 : decode prog_1_method_27_code 87 = .ok (.iload_n 3, 1) := by decide +kernel
theorem d_G_mergeRecords_88 : decode prog_1_method_27_code 88 = .ok (.invokevirtual 195, 3) := by decide +kernel
theorem d_G_mergeRecords_91 : decode prog_1_method_27_code 91 = .ok (.iinc 4 1, 3) := by decide +kernel
theorem d_G_mergeRecords_94 : decode prog_1_method_27_code 94 = .ok (.goto (-34), 3) := by decide +kernel
theorem d_G_mergeRecords_97 : decode prog_1_method_27_code 97 = .ok (.return_, 1) := by decide +kernel
theorem cn_G_mergeRecords : CN y_G_mergeRecords (.code y_G_mergeRecords prog_1_method_27_code 5 none) prog_1_method_27_code 5 none [] 2 := ⟨Or.inl ⟨rfl, rfl⟩, mw_544, mw_1, ⟨by decide +kernel, by decide +kernel⟩, by decide +kernel⟩
def b_G_mergeRecords_97  (σ : Sg)  : Option Sg := (some σ)
set_option maxRecDepth 100000 in
set_option maxHeartbeats 4000000 in
theorem gb_G_mergeRecords_97 {Γ : GX} (K : Cx Γ "TapirGroup" prog_1_method_27_code 5 rm_G_mergeRecords) (S : Std Γ none) (T : Tb Γ []) (hI : y_G_mergeRecords.name = "<init>" → Ini Γ) (σ : Sg)  : G Γ mkV 0 0 97 [] [] σ (b_G_mergeRecords_97 σ ) := by
  unfold b_G_mergeRecords_97
  exact g_vret (pc := 97) K S d_G_mergeRecords_97 (by decide) (by decide) rfl
def b_G_mergeRecords_91 (k : Sg → Nat → Int32 → Int32 → Int32 → Option Sg) (σ : Sg) (a0 : Nat) (x1 : Int32) (x3 : Int32) (x4 : Int32) : Option Sg := (k σ a0 x1 x3 (x4 + 1))
set_option maxRecDepth 100000 in
set_option maxHeartbeats 4000000 in
theorem gb_G_mergeRecords_91 {Γ : GX} (K : Cx Γ "TapirGroup" prog_1_method_27_code 5 rm_G_mergeRecords) (S : Std Γ none) (T : Tb Γ []) (hI : y_G_mergeRecords.name = "<init>" → Ini Γ) (k : Sg → Nat → Int32 → Int32 → Int32 → Option Sg) (hk : ∀ (σ : Sg) (a0 : Nat) (x1 : Int32) (x3 : Int32) (x4 : Int32), G Γ mkV 0 0 60 [(0, .ref a0), (1, .int x1), (3, .int x3), (4, .int x4)] [] σ (k σ a0 x1 x3 x4)) (σ : Sg) (a0 : Nat) (x1 : Int32) (x3 : Int32) (x4 : Int32) : G Γ mkV 0 0 91 [(0, .ref a0), (1, .int x1), (3, .int x3), (4, .int x4)] [] σ (b_G_mergeRecords_91 k σ a0 x1 x3 x4) := by
  unfold b_G_mergeRecords_91
  refine g_iinc (pc := 91) (j := 3) (v := (x4 + 1)) (L' := [(4, .int (x4 + 1)), (0, .ref a0), (1, .int x1), (3, .int x3)]) K d_G_mergeRecords_91 rfl (by rfl) (by decide) rfl ?_
  refine g_goto (pc := 94) (tgt := 60) K d_G_mergeRecords_94 (by decide) ?_
  refine g_sub (L' := [(0, .ref a0), (1, .int x1), (3, .int x3), (4, .int (x4 + 1))]) [1, 2, 3, 0] rfl ?_
  exact hk σ a0 x1 x3 (x4 + 1)
def b_G_mergeRecords_60 : Nat → Sg → Nat → Int32 → Int32 → Int32 → Option Sg
  | 0 => fun _ _ _ _ _ => none
  | n + 1 => fun σ a0 x1 x3 x4 => (if (3 : Int32) ≤ x4 then (b_G_mergeRecords_97 σ) else (if a0 < σ.1 ∧ kd a0 = 3 then rc (g_r σ a0 0) none (fun b7 => (if (b7 < σ.1 ∧ kd b7 = 13) ∧ inb x4 (ln b7) = true then rc (g_r σ b7 x4.toNatClampNeg) none (fun b8 => (if b8 < σ.1 ∧ kd b8 = 1 then (if (g_i σ b8 0) = 0 then (b_G_mergeRecords_91 (b_G_mergeRecords_60 n) σ a0 x1 x3 x4) else (if a0 < σ.1 ∧ kd a0 = 3 then rc (g_r σ a0 0) none (fun b9 => (if (b9 < σ.1 ∧ kd b9 = 13) ∧ inb x4 (ln b9) = true then rc (g_r σ b9 x4.toNatClampNeg) none (fun b10 => (if b10 < σ.1 ∧ kd b10 = 1 then (f_R_makeFinal σ b10 x1 x3).bind (fun s11 => (b_G_mergeRecords_91 (b_G_mergeRecords_60 n) s11 a0 x1 x3 x4)) else none)) else none)) else none)) else none)) else none)) else none))
set_option maxRecDepth 100000 in
set_option maxHeartbeats 4000000 in
theorem gb_G_mergeRecords_60 {Γ : GX} (K : Cx Γ "TapirGroup" prog_1_method_27_code 5 rm_G_mergeRecords) (S : Std Γ none) (T : Tb Γ []) (hI : y_G_mergeRecords.name = "<init>" → Ini Γ) (n : Nat) : ∀ (σ : Sg) (a0 : Nat) (x1 : Int32) (x3 : Int32) (x4 : Int32), G Γ mkV 0 0 60 [(0, .ref a0), (1, .int x1), (3, .int x3), (4, .int x4)] [] σ (b_G_mergeRecords_60 n σ a0 x1 x3 x4) := by
  induction n with
  | zero =>
    intro σ a0 x1 x3 x4
    exact g_none
  | succ n ih =>
    intro σ a0 x1 x3 x4
    rw [b_G_mergeRecords_60]
    refine g_iload (pc := 60) (j := 3) K d_G_mergeRecords_60 rfl ?_
    refine g_iconst (pc := 62) (v := 3) K d_G_mergeRecords_62 (by decide) ?_
    refine g_icmp_ge (pc := 63) (tgt := 97) K d_G_mergeRecords_63 (by decide) (fun _ => ?_) (fun _ => ?_)
    · refine g_sub (L' := []) [] rfl ?_
      exact gb_G_mergeRecords_97 K S T hI σ
    · refine g_aload_n (pc := 66) (j := 0) K d_G_mergeRecords_66 rfl ?_
      refine g_getR (pc := 67) K fl_G_11 d_G_mergeRecords_67 (fun _ => ?_) (fun b7 _ => ?_)
      · exact g_none
      · refine g_iload (pc := 70) (j := 3) K d_G_mergeRecords_70 rfl ?_
        refine g_aald (pc := 72) (kq := 13) (t0 := 3) K (by decide) (fun _ => rfl) d_G_mergeRecords_72 (fun _ => ?_) (fun b8 _ => ?_)
        · exact g_none
        · refine g_getI (pc := 73) K fl_G_220 d_G_mergeRecords_73 ?_
          refine g_if_eq (pc := 76) (tgt := 91) K d_G_mergeRecords_76 (by decide) (fun _ => ?_) (fun _ => ?_)
          · exact gb_G_mergeRecords_91 K S T hI (b_G_mergeRecords_60 n) ih σ a0 x1 x3 x4
          · refine g_aload_n (pc := 79) (j := 0) K d_G_mergeRecords_79 rfl ?_
            refine g_getR (pc := 80) K fl_G_11 d_G_mergeRecords_80 (fun _ => ?_) (fun b9 _ => ?_)
            · exact g_none
            · refine g_iload (pc := 83) (j := 3) K d_G_mergeRecords_83 rfl ?_
              refine g_aald (pc := 85) (kq := 13) (t0 := 3) K (by decide) (fun _ => rfl) d_G_mergeRecords_85 (fun _ => ?_) (fun b10 _ => ?_)
              · exact g_none
              · refine g_iload_n (pc := 86) (j := 1) K d_G_mergeRecords_86 rfl ?_
                refine g_iload_n (pc := 87) (j := 2) K d_G_mergeRecords_87 rfl ?_
                refine g_callV (pc := 88) (ci := 1) (a := b10) (vs := [.int x1, .int x3]) (st := []) (mkc := mkV) K rfl (by decide) cn_R_makeFinal (fun l hl r hr => k_R_makeFinal l hl _ _ _ _ r hr) mw_481 mw_482 mw_483 ⟨by decide, by decide, by decide, by decide⟩ d_G_mergeRecords_88 rfl rfl (Nat.le_of_ble_eq_true rfl) (fun s11 _ => ?_)
                change G Γ mkV 0 0 91 [(0, .ref a0), (1, .int x1), (3, .int x3), (4, .int x4)] [] s11 _
                exact gb_G_mergeRecords_91 K S T hI (b_G_mergeRecords_60 n) ih s11 a0 x1 x3 x4
def f_G_mergeRecords (σ : Sg) (a0 : Nat) (x1 : Int32) (x2 : Int32) : Option Sg := (if a0 < σ.1 ∧ kd a0 = 3 then (f_G_someUpHas σ a0 x1 (8 : Int32)).bind (fun v1 => (if v1 = 0 then (if a0 < σ.1 ∧ kd a0 = 3 then (f_G_someUpHas σ a0 x1 (16 : Int32)).bind (fun v2 => (if v2 = 0 then (if a0 < σ.1 ∧ kd a0 = 3 then (f_G_someUpKnows σ a0 x1).bind (fun v3 => (if v3 = 0 then (b_G_mergeRecords_97 σ) else (if a0 < σ.1 ∧ kd a0 = 3 then (f_G_mergedResult σ a0 x1 x2).bind (fun v4 => (b_G_mergeRecords_60 1000 σ a0 x1 v4 (0 : Int32))) else none))) else none) else (if a0 < σ.1 ∧ kd a0 = 3 then (f_G_markAtAllUp σ a0 x1 (16 : Int32) (2 : Int32)).bind (fun s5 => (b_G_mergeRecords_97 s5)) else none))) else none) else (if a0 < σ.1 ∧ kd a0 = 3 then (f_G_markAtAllUp σ a0 x1 (8 : Int32) (0 : Int32)).bind (fun s6 => (b_G_mergeRecords_97 s6)) else none))) else none)
set_option maxRecDepth 100000 in
set_option maxHeartbeats 4000000 in
theorem k_G_mergeRecords (l : Launch) (hl : l.stackTraces = false) (σ : Sg) (a0 : Nat) (x1 : Int32) (x2 : Int32) (r : Sg) (h : f_G_mergeRecords σ a0 x1 x2 = some r) : Con l y_G_mergeRecords (.code y_G_mergeRecords prog_1_method_27_code 5 none) rm_G_mergeRecords [.ref a0, .int x1, .int x2] σ (mkV r) := by
  refine Con.of (mk := mkV) (o := f_G_mergeRecords σ a0 x1 x2) (z := r) (L0 := [(0, .ref a0), (1, .int x1), (2, .int x2)]) (bytes := prog_1_method_27_code) (maxL := 5) (ret := none) (hh := []) hl (by decide +kernel) (Or.inl ⟨rfl, rfl⟩) (by simp [Value.category]) (Nat.le_of_ble_eq_true rfl) rfl (fun Γ K S T hI => ?_) h rfl
  unfold f_G_mergeRecords
  refine g_aload_n (pc := 0) (j := 0) K d_G_mergeRecords_0 rfl ?_
  refine g_iload_n (pc := 1) (j := 1) K d_G_mergeRecords_1 rfl ?_
  refine g_bipush (pc := 2) (v := 8) K d_G_mergeRecords_2 (by decide) ?_
  refine g_callV (pc := 4) (ci := 3) (a := a0) (vs := [.int x1, .int (8 : Int32)]) (st := []) (mkc := mkI σ) K rfl (by decide) cn_G_someUpHas (fun l hl r hr => k_G_someUpHas l hl _ _ _ _ r hr) mw_545 mw_547 ms_9 ⟨by decide, by decide, by decide, by decide⟩ d_G_mergeRecords_4 rfl rfl (Nat.le_of_ble_eq_true rfl) (fun v1 _ => ?_)
  change G Γ mkV 0 0 7 [(0, .ref a0), (1, .int x1), (2, .int x2)] [.int v1] σ _
  refine g_if_eq (pc := 7) (tgt := 21) K d_G_mergeRecords_7 (by decide) (fun _ => ?_) (fun _ => ?_)
  · refine g_aload_n (pc := 21) (j := 0) K d_G_mergeRecords_21 rfl ?_
    refine g_iload_n (pc := 22) (j := 1) K d_G_mergeRecords_22 rfl ?_
    refine g_bipush (pc := 23) (v := 16) K d_G_mergeRecords_23 (by decide) ?_
    refine g_callV (pc := 25) (ci := 3) (a := a0) (vs := [.int x1, .int (16 : Int32)]) (st := []) (mkc := mkI σ) K rfl (by decide) cn_G_someUpHas (fun l hl r hr => k_G_someUpHas l hl _ _ _ _ r hr) mw_545 mw_547 ms_9 ⟨by decide, by decide, by decide, by decide⟩ d_G_mergeRecords_25 rfl rfl (Nat.le_of_ble_eq_true rfl) (fun v2 _ => ?_)
    change G Γ mkV 0 0 28 [(0, .ref a0), (1, .int x1), (2, .int x2)] [.int v2] σ _
    refine g_if_eq (pc := 28) (tgt := 42) K d_G_mergeRecords_28 (by decide) (fun _ => ?_) (fun _ => ?_)
    · refine g_aload_n (pc := 42) (j := 0) K d_G_mergeRecords_42 rfl ?_
      refine g_iload_n (pc := 43) (j := 1) K d_G_mergeRecords_43 rfl ?_
      refine g_callV (pc := 44) (ci := 3) (a := a0) (vs := [.int x1]) (st := []) (mkc := mkI σ) K rfl (by decide) cn_G_someUpKnows (fun l hl r hr => k_G_someUpKnows l hl _ _ _ r hr) mw_553 mw_555 ms_11 ⟨by decide, by decide, by decide, by decide⟩ d_G_mergeRecords_44 rfl rfl (Nat.le_of_ble_eq_true rfl) (fun v3 _ => ?_)
      change G Γ mkV 0 0 47 [(0, .ref a0), (1, .int x1), (2, .int x2)] [.int v3] σ _
      refine g_if_eq (pc := 47) (tgt := 97) K d_G_mergeRecords_47 (by decide) (fun _ => ?_) (fun _ => ?_)
      · refine g_sub (L' := []) [] rfl ?_
        exact gb_G_mergeRecords_97 K S T hI σ
      · refine g_aload_n (pc := 50) (j := 0) K d_G_mergeRecords_50 rfl ?_
        refine g_iload_n (pc := 51) (j := 1) K d_G_mergeRecords_51 rfl ?_
        refine g_iload_n (pc := 52) (j := 2) K d_G_mergeRecords_52 rfl ?_
        refine g_callV (pc := 53) (ci := 3) (a := a0) (vs := [.int x1, .int x2]) (st := []) (mkc := mkI σ) K rfl (by decide) cn_G_mergedResult (fun l hl r hr => k_G_mergedResult l hl _ _ _ _ r hr) mw_557 mw_559 ms_12 ⟨by decide, by decide, by decide, by decide⟩ d_G_mergeRecords_53 rfl rfl (Nat.le_of_ble_eq_true rfl) (fun v4 _ => ?_)
        change G Γ mkV 0 0 56 [(0, .ref a0), (1, .int x1), (2, .int x2)] [.int v4] σ _
        refine g_istore_n (pc := 56) (L' := [(3, .int v4), (0, .ref a0), (1, .int x1), (2, .int x2)]) K d_G_mergeRecords_56 (by decide) rfl ?_
        refine g_iconst (pc := 57) (v := 0) K d_G_mergeRecords_57 (by decide) ?_
        refine g_istore (pc := 58) (L' := [(4, .int (0 : Int32)), (3, .int v4), (0, .ref a0), (1, .int x1), (2, .int x2)]) K d_G_mergeRecords_58 (by decide) rfl ?_
        refine g_sub (L' := [(0, .ref a0), (1, .int x1), (3, .int v4), (4, .int (0 : Int32))]) [2, 3, 1, 0] rfl ?_
        exact gb_G_mergeRecords_60 K S T hI 1000 σ a0 x1 v4 (0 : Int32)
    · refine g_aload_n (pc := 31) (j := 0) K d_G_mergeRecords_31 rfl ?_
      refine g_iload_n (pc := 32) (j := 1) K d_G_mergeRecords_32 rfl ?_
      refine g_bipush (pc := 33) (v := 16) K d_G_mergeRecords_33 (by decide) ?_
      refine g_iconst (pc := 35) (v := 2) K d_G_mergeRecords_35 (by decide) ?_
      refine g_callV (pc := 36) (ci := 3) (a := a0) (vs := [.int x1, .int (16 : Int32), .int (2 : Int32)]) (st := []) (mkc := mkV) K rfl (by decide) cn_G_markAtAllUp (fun l hl r hr => k_G_markAtAllUp l hl _ _ _ _ _ r hr) mw_549 mw_551 ms_10 ⟨by decide, by decide, by decide, by decide⟩ d_G_mergeRecords_36 rfl rfl (Nat.le_of_ble_eq_true rfl) (fun s5 _ => ?_)
      change G Γ mkV 0 0 39 [(0, .ref a0), (1, .int x1), (2, .int x2)] [] s5 _
      refine g_goto (pc := 39) (tgt := 97) K d_G_mergeRecords_39 (by decide) ?_
      refine g_sub (L' := []) [] rfl ?_
      exact gb_G_mergeRecords_97 K S T hI s5
  · refine g_aload_n (pc := 10) (j := 0) K d_G_mergeRecords_10 rfl ?_
    refine g_iload_n (pc := 11) (j := 1) K d_G_mergeRecords_11 rfl ?_
    refine g_bipush (pc := 12) (v := 8) K d_G_mergeRecords_12 (by decide) ?_
    refine g_iconst (pc := 14) (v := 0) K d_G_mergeRecords_14 (by decide) ?_
    refine g_callV (pc := 15) (ci := 3) (a := a0) (vs := [.int x1, .int (8 : Int32), .int (0 : Int32)]) (st := []) (mkc := mkV) K rfl (by decide) cn_G_markAtAllUp (fun l hl r hr => k_G_markAtAllUp l hl _ _ _ _ _ r hr) mw_549 mw_551 ms_10 ⟨by decide, by decide, by decide, by decide⟩ d_G_mergeRecords_15 rfl rfl (Nat.le_of_ble_eq_true rfl) (fun s6 _ => ?_)
    change G Γ mkV 0 0 18 [(0, .ref a0), (1, .int x1), (2, .int x2)] [] s6 _
    refine g_goto (pc := 18) (tgt := 97) K d_G_mergeRecords_18 (by decide) ?_
    refine g_sub (L' := []) [] rfl ?_
    exact gb_G_mergeRecords_97 K S T hI s6
-- TapirGroup.mergeKey(I)V
def y_G_mergeKey : MethodName := ⟨"TapirGroup", "mergeKey", "(I)V"⟩
abbrev rm_G_mergeKey : Room := { frames := 1, cells := 0, slots := 0, locals := 21 }
theorem d_G_mergeKey_0 : decode prog_1_method_33_code 0 = .ok (.iconst 0, 1) := by decide +kernel
theorem d_G_mergeKey_1 : decode prog_1_method_33_code 1 = .ok (.istore_n 2, 1) := by decide +kernel
theorem d_G_mergeKey_2 : decode prog_1_method_33_code 2 = .ok (.iconst 0, 1) := by decide +kernel
theorem d_G_mergeKey_3 : decode prog_1_method_33_code 3 = .ok (.istore_n 3, 1) := by decide +kernel
theorem d_G_mergeKey_4 : decode prog_1_method_33_code 4 = .ok (.iconst 0, 1) := by decide +kernel
theorem d_G_mergeKey_5 : decode prog_1_method_33_code 5 = .ok (.istore 4, 2) := by decide +kernel
theorem d_G_mergeKey_7 : decode prog_1_method_33_code 7 = .ok (.iconst 0, 1) := by decide +kernel
theorem d_G_mergeKey_8 : decode prog_1_method_33_code 8 = .ok (.istore 5, 2) := by decide +kernel
theorem d_G_mergeKey_10 : decode prog_1_method_33_code 10 = .ok (.iload 5, 2) := by decide +kernel
theorem d_G_mergeKey_12 : decode prog_1_method_33_code 12 = .ok (.iconst 3, 1) := by decide +kernel
theorem d_G_mergeKey_13 : decode prog_1_method_33_code 13 = .ok (.if_icmp .ge 75, 3) := by decide +kernel
theorem d_G_mergeKey_16 : decode prog_1_method_33_code 16 = .ok (.aload_n 0, 1) := by decide +kernel
theorem d_G_mergeKey_17 : decode prog_1_method_33_code 17 = .ok (.getfield 11, 3) := by decide +kernel
theorem d_G_mergeKey_20 : decode prog_1_method_33_code 20 = .ok (.iload 5, 2) := by decide +kernel
theorem d_G_mergeKey_22 : decode prog_1_method_33_code 22 = .ok (.aaload, 1) := by decide +kernel
theorem d_G_mergeKey_23 : decode prog_1_method_33_code 23 = .ok (.astore 6, 2) := by decide +kernel
theorem d_G_mergeKey_25 : decode prog_1_method_33_code 25 = .ok (.aload 6, 2) := by decide +kernel
theorem d_G_mergeKey_27 : decode prog_1_method_33_code 27 = .ok (.getfield 220, 3) := by decide +kernel
theorem d_G_mergeKey_30 : decode prog_1_method_33_code 30 = .ok (.ifCond .eq 30, 3) := by decide +kernel
theorem d_G_mergeKey_33 : decode prog_1_method_33_code 33 = .ok (.aload 6, 2) := by decide +kernel
theorem d_G_mergeKey_35 : decode prog_1_method_33_code 35 = .ok (.getfield 103, 3) := by decide +kernel
theorem d_G_mergeKey_38 : decode prog_1_method_33_code 38 = .ok (.iload_n 1, 1) := by decide +kernel
theorem d_G_mergeKey_39 : decode prog_1_method_33_code 39 = .ok (.iaload, 1) := by decide +kernel
theorem d_G_mergeKey_40 : decode prog_1_method_33_code 40 = .ok (.iload_n 2, 1) := by decide +kernel
theorem d_G_mergeKey_41 : decode prog_1_method_33_code 41 = .ok (.if_icmp .le 19, 3) := by decide +kernel
theorem d_G_mergeKey_44 : decode prog_1_method_33_code 44 = .ok (.aload 6, 2) := by decide +kernel
theorem d_G_mergeKey_46 : decode prog_1_method_33_code 46 = .ok (.getfield 103, 3) := by decide +kernel
theorem d_G_mergeKey_49 : decode prog_1_method_33_code 49 = .ok (.iload_n 1, 1) := by decide +kernel
theorem d_G_mergeKey_50 : decode prog_1_method_33_code 50 = .ok (.iaload, 1) := by decide +kernel
theorem d_G_mergeKey_51 : decode prog_1_method_33_code 51 = .ok (.istore_n 2, 1) := by decide +kernel
theorem d_G_mergeKey_52 : decode prog_1_method_33_code 52 = .ok (.aload 6, 2) := by decide +kernel
theorem d_G_mergeKey_54 : decode prog_1_method_33_code 54 = .ok (.getfield 106, 3) := by decide +kernel
theorem d_G_mergeKey_57 : decode prog_1_method_33_code 57 = .ok (.iload_n 1, 1) := by decide +kernel
theorem d_G_mergeKey_58 : decode prog_1_method_33_code 58 = .ok (.iaload, 1) := by decide +kernel
theorem d_G_mergeKey_59 : decode prog_1_method_33_code 59 = .ok (.istore_n 3, 1) := by decide +kernel
theorem d_G_mergeKey_60 : decode prog_1_method_33_code 60 = .ok (.aload 6, 2) := by decide +kernel
theorem d_G_mergeKey_62 : decode prog_1_method_33_code 62 = .ok (.getfield 220, 3) := by decide +kernel
theorem d_G_mergeKey_65 : decode prog_1_method_33_code 65 = .ok (.ifCond .eq 17, 3) := by decide +kernel
theorem d_G_mergeKey_68 : decode prog_1_method_33_code 68 = .ok (.iload 4, 2) := by decide +kernel
theorem d_G_mergeKey_70 : decode prog_1_method_33_code 70 = .ok (.aload 6, 2) := by decide +kernel
theorem d_G_mergeKey_72 : decode prog_1_method_33_code 72 = .ok (.getfield 244, 3) := by decide +kernel
theorem d_G_mergeKey_75 : decode prog_1_method_33_code 75 = .ok (.iload_n 1, 1) := by decide +kernel
theorem d_G_mergeKey_76 : decode prog_1_method_33_code 76 = .ok (.iaload, 1) := by decide +kernel
theorem d_G_mergeKey_77 : decode prog_1_method_33_code 77 = .ok (.invokestatic 247, 3) := by decide +kernel
theorem d_G_mergeKey_80 : decode prog_1_method_33_code 80 = .ok (.istore 4, 2) := by decide +kernel
theorem d_G_mergeKey_82 : decode prog_1_method_33_code 82 = .ok (.iinc 5 1, 3) := by decide +kernel
theorem d_G_mergeKey_85 : decode prog_1_method_33_code 85 = .ok (.goto (-75), 3) := by decide +kernel
theorem d_G_mergeKey_88 : decode prog_1_method_33_code 88 = .ok (.iconst 0, 1) := by decide +kernel
theorem d_G_mergeKey_89 : decode prog_1_method_33_code 89 = .ok (.istore 5, 2) := by decide +kernel
theorem d_G_mergeKey_91 : decode prog_1_method_33_code 91 = .ok (.iload 5, 2) := by decide +kernel
theorem d_G_mergeKey_93 : decode prog_1_method_33_code 93 = .ok (.iconst 3, 1) := by decide +kernel
theorem d_G_mergeKey_94 : decode prog_1_method_33_code 94 = .ok (.if_icmp .ge 62, 3) := by decide +kernel
theorem d_G_mergeKey_97 : decode prog_1_method_33_code 97 = .ok (.aload_n 0, 1) := by decide +kernel
theorem d_G_mergeKey_98 : decode prog_1_method_33_code 98 = .ok (.getfield 11, 3) := by decide +kernel
theorem d_G_mergeKey_101 : decode prog_1_method_33_code 101 = .ok (.iload 5, 2) := by decide +kernel
theorem d_G_mergeKey_103 : decode prog_1_method_33_code 103 = .ok (.aaload, 1) := by decide +kernel
theorem d_G_mergeKey_104 : decode prog_1_method_33_code 104 = .ok (.getfield 220, 3) := by decide +kernel
theorem d_G_mergeKey_107 : decode prog_1_method_33_code 107 = .ok (.ifCond .eq 43, 3) := by decide +kernel
theorem d_G_mergeKey_110 : decode prog_1_method_33_code 110 = .ok (.aload_n 0, 1) := by decide +kernel
theorem d_G_mergeKey_111 : decode prog_1_method_33_code 111 = .ok (.getfield 11, 3) := by decide +kernel
theorem d_G_mergeKey_114 : decode prog_1_method_33_code 114 = .ok (.iload 5, 2) := by decide +kernel
theorem d_G_mergeKey_116 : decode prog_1_method_33_code 116 = .ok (.aaload, 1) := by decide +kernel
theorem d_G_mergeKey_117 : decode prog_1_method_33_code 117 = .ok (.getfield 103, 3) := by decide +kernel
theorem d_G_mergeKey_120 : decode prog_1_method_33_code 120 = .ok (.iload_n 1, 1) := by decide +kernel
theorem d_G_mergeKey_121 : decode prog_1_method_33_code 121 = .ok (.iload_n 2, 1) := by decide +kernel
theorem d_G_mergeKey_122 : decode prog_1_method_33_code 122 = .ok (.iastore, 1) := by decide +kernel
theorem d_G_mergeKey_123 : decode prog_1_method_33_code 123 = .ok (.aload_n 0, 1) := by decide +kernel
theorem d_G_mergeKey_124 : decode prog_1_method_33_code 124 = .ok (.getfield 11, 3) := by decide +kernel
theorem d_G_mergeKey_127 : decode prog_1_method_33_code 127 = .ok (.iload 5, 2) := by decide +kernel
theorem d_G_mergeKey_129 : decode prog_1_method_33_code 129 = .ok (.aaload, 1) := by decide +kernel
theorem d_G_mergeKey_130 : decode prog_1_method_33_code 130 = .ok (.getfield 106, 3) := by decide +kernel
theorem d_G_mergeKey_133 : decode prog_1_method_33_code 133 = .ok (.iload_n 1, 1) := by decide +kernel
theorem d_G_mergeKey_134 : decode prog_1_method_33_code 134 = .ok (.iload_n 3, 1) := by decide +kernel
theorem d_G_mergeKey_135 : decode prog_1_method_33_code 135 = .ok (.iastore, 1) := by decide +kernel
theorem d_G_mergeKey_136 : decode prog_1_method_33_code 136 = .ok (.aload_n 0, 1) := by decide +kernel
theorem d_G_mergeKey_137 : decode prog_1_method_33_code 137 = .ok (.getfield 11, 3) := by decide +kernel
theorem d_G_mergeKey_140 : decode prog_1_method_33_code 140 = .ok (.iload 5, 2) := by decide +kernel
theorem d_G_mergeKey_142 : decode prog_1_method_33_code 142 = .ok (.aaload, 1) := by decide +kernel
theorem d_G_mergeKey_143 : decode prog_1_method_33_code 143 = .ok (.getfield 244, 3) := by decide +kernel
theorem d_G_mergeKey_146 : decode prog_1_method_33_code 146 = .ok (.iload_n 1, 1) := by decide +kernel
theorem d_G_mergeKey_147 : decode prog_1_method_33_code 147 = .ok (.iload 4, 2) := by decide +kernel
theorem d_G_mergeKey_149 : decode prog_1_method_33_code 149 = .ok (.iastore, 1) := by decide +kernel
theorem d_G_mergeKey_150 : decode prog_1_method_33_code 150 = .ok (.iinc 5 1, 3) := by decide +kernel
theorem d_G_mergeKey_153 : decode prog_1_method_33_code 153 = .ok (.goto (-62), 3) := by decide +kernel
theorem d_G_mergeKey_156 : decode prog_1_method_33_code 156 = .ok (.return_, 1) := by decide +kernel
theorem cn_G_mergeKey : CN y_G_mergeKey (.code y_G_mergeKey prog_1_method_33_code 7 none) prog_1_method_33_code 7 none [] 1 := ⟨Or.inl ⟨rfl, rfl⟩, mw_568, mw_1, ⟨by decide +kernel, by decide +kernel⟩, by decide +kernel⟩
def b_G_mergeKey_150 (k : Sg → Nat → Int32 → Int32 → Int32 → Int32 → Int32 → Option Sg) (σ : Sg) (a0 : Nat) (x1 : Int32) (x2 : Int32) (x3 : Int32) (x4 : Int32) (x5 : Int32) : Option Sg := (k σ a0 x1 x2 x3 x4 (x5 + 1))
set_option maxRecDepth 100000 in
set_option maxHeartbeats 4000000 in
theorem gb_G_mergeKey_150 {Γ : GX} (K : Cx Γ "TapirGroup" prog_1_method_33_code 7 rm_G_mergeKey) (S : Std Γ none) (T : Tb Γ []) (hI : y_G_mergeKey.name = "<init>" → Ini Γ) (k : Sg → Nat → Int32 → Int32 → Int32 → Int32 → Int32 → Option Sg) (hk : ∀ (σ : Sg) (a0 : Nat) (x1 : Int32) (x2 : Int32) (x3 : Int32) (x4 : Int32) (x5 : Int32), G Γ mkV 0 0 91 [(0, .ref a0), (1, .int x1), (2, .int x2), (3, .int x3), (4, .int x4), (5, .int x5)] [] σ (k σ a0 x1 x2 x3 x4 x5)) (σ : Sg) (a0 : Nat) (x1 : Int32) (x2 : Int32) (x3 : Int32) (x4 : Int32) (x5 : Int32) : G Γ mkV 0 0 150 [(0, .ref a0), (1, .int x1), (2, .int x2), (3, .int x3), (4, .int x4), (5, .int x5)] [] σ (b_G_mergeKey_150 k σ a0 x1 x2 x3 x4 x5) := by
  unfold b_G_mergeKey_150
  refine g_iinc (pc := 150) (j := 5) (v := (x5 + 1)) (L' := [(5, .int (x5 + 1)), (0, .ref a0), (1, .int x1), (2, .int x2), (3, .int x3), (4, .int x4)]) K d_G_mergeKey_150 rfl (by rfl) (by decide) rfl ?_
  refine g_goto (pc := 153) (tgt := 91) K d_G_mergeKey_153 (by decide) ?_
  refine g_sub (L' := [(0, .ref a0), (1, .int x1), (2, .int x2), (3, .int x3), (4, .int x4), (5, .int (x5 + 1))]) [1, 2, 3, 4, 5, 0] rfl ?_
  exact hk σ a0 x1 x2 x3 x4 (x5 + 1)
def b_G_mergeKey_91 : Nat → Sg → Nat → Int32 → Int32 → Int32 → Int32 → Int32 → Option Sg
  | 0 => fun _ _ _ _ _ _ _ => none
  | n + 1 => fun σ a0 x1 x2 x3 x4 x5 => (if (3 : Int32) ≤ x5 then (some σ) else (if a0 < σ.1 ∧ kd a0 = 3 then rc (g_r σ a0 0) none (fun b8 => (if (b8 < σ.1 ∧ kd b8 = 13) ∧ inb x5 (ln b8) = true then rc (g_r σ b8 x5.toNatClampNeg) none (fun b9 => (if b9 < σ.1 ∧ kd b9 = 1 then (if (g_i σ b9 0) = 0 then (b_G_mergeKey_150 (b_G_mergeKey_91 n) σ a0 x1 x2 x3 x4 x5) else (if a0 < σ.1 ∧ kd a0 = 3 then rc (g_r σ a0 0) none (fun b10 => (if (b10 < σ.1 ∧ kd b10 = 13) ∧ inb x5 (ln b10) = true then rc (g_r σ b10 x5.toNatClampNeg) none (fun b11 => (if b11 < σ.1 ∧ kd b11 = 1 then rc (g_r σ b11 2) none (fun b12 => (if (b12 < σ.1 ∧ kd b12 = 10) ∧ inb x1 (ln b12) = true then (wi (s_i σ b12 x1.toNatClampNeg x2) (fun s13 => (if a0 < s13.1 ∧ kd a0 = 3 then rc (g_r s13 a0 0) none (fun b14 => (if (b14 < s13.1 ∧ kd b14 = 13) ∧ inb x5 (ln b14) = true then rc (g_r s13 b14 x5.toNatClampNeg) none (fun b15 => (if b15 < s13.1 ∧ kd b15 = 1 then rc (g_r s13 b15 3) none (fun b16 => (if (b16 < s13.1 ∧ kd b16 = 10) ∧ inb x1 (ln b16) = true then (wi (s_i s13 b16 x1.toNatClampNeg x3) (fun s17 => (if a0 < s17.1 ∧ kd a0 = 3 then rc (g_r s17 a0 0) none (fun b18 => (if (b18 < s17.1 ∧ kd b18 = 13) ∧ inb x5 (ln b18) = true then rc (g_r s17 b18 x5.toNatClampNeg) none (fun b19 => (if b19 < s17.1 ∧ kd b19 = 1 then rc (g_r s17 b19 4) none (fun b20 => (if (b20 < s17.1 ∧ kd b20 = 10) ∧ inb x1 (ln b20) = true then (wi (s_i s17 b20 x1.toNatClampNeg x4) (fun s21 => (b_G_mergeKey_150 (b_G_mergeKey_91 n) s21 a0 x1 x2 x3 x4 x5))) else none)) else none)) else none)) else none))) else none)) else none)) else none)) else none))) else none)) else none)) else none)) else none)) else none)) else none)) else none))
set_option maxRecDepth 100000 in
set_option maxHeartbeats 4000000 in
theorem gb_G_mergeKey_91 {Γ : GX} (K : Cx Γ "TapirGroup" prog_1_method_33_code 7 rm_G_mergeKey) (S : Std Γ none) (T : Tb Γ []) (hI : y_G_mergeKey.name = "<init>" → Ini Γ) (n : Nat) : ∀ (σ : Sg) (a0 : Nat) (x1 : Int32) (x2 : Int32) (x3 : Int32) (x4 : Int32) (x5 : Int32), G Γ mkV 0 0 91 [(0, .ref a0), (1, .int x1), (2, .int x2), (3, .int x3), (4, .int x4), (5, .int x5)] [] σ (b_G_mergeKey_91 n σ a0 x1 x2 x3 x4 x5) := by
  induction n with
  | zero =>
    intro σ a0 x1 x2 x3 x4 x5
    exact g_none
  | succ n ih =>
    intro σ a0 x1 x2 x3 x4 x5
    rw [b_G_mergeKey_91]
    refine g_iload (pc := 91) (j := 5) K d_G_mergeKey_91 rfl ?_
    refine g_iconst (pc := 93) (v := 3) K d_G_mergeKey_93 (by decide) ?_
    refine g_icmp_ge (pc := 94) (tgt := 156) K d_G_mergeKey_94 (by decide) (fun _ => ?_) (fun _ => ?_)
    · exact g_vret (pc := 156) K S d_G_mergeKey_156 (by decide) (by decide) rfl
    · refine g_aload_n (pc := 97) (j := 0) K d_G_mergeKey_97 rfl ?_
      refine g_getR (pc := 98) K fl_G_11 d_G_mergeKey_98 (fun _ => ?_) (fun b8 _ => ?_)
      · exact g_none
      · refine g_iload (pc := 101) (j := 5) K d_G_mergeKey_101 rfl ?_
        refine g_aald (pc := 103) (kq := 13) (t0 := 3) K (by decide) (fun _ => rfl) d_G_mergeKey_103 (fun _ => ?_) (fun b9 _ => ?_)
        · exact g_none
        · refine g_getI (pc := 104) K fl_G_220 d_G_mergeKey_104 ?_
          refine g_if_eq (pc := 107) (tgt := 150) K d_G_mergeKey_107 (by decide) (fun _ => ?_) (fun _ => ?_)
          · exact gb_G_mergeKey_150 K S T hI (b_G_mergeKey_91 n) ih σ a0 x1 x2 x3 x4 x5
          · refine g_aload_n (pc := 110) (j := 0) K d_G_mergeKey_110 rfl ?_
            refine g_getR (pc := 111) K fl_G_11 d_G_mergeKey_111 (fun _ => ?_) (fun b10 _ => ?_)
            · exact g_none
            · refine g_iload (pc := 114) (j := 5) K d_G_mergeKey_114 rfl ?_
              refine g_aald (pc := 116) (kq := 13) (t0 := 3) K (by decide) (fun _ => rfl) d_G_mergeKey_116 (fun _ => ?_) (fun b11 _ => ?_)
              · exact g_none
              · refine g_getR (pc := 117) K fl_G_103 d_G_mergeKey_117 (fun _ => ?_) (fun b12 _ => ?_)
                · exact g_none
                · refine g_iload_n (pc := 120) (j := 1) K d_G_mergeKey_120 rfl ?_
                  refine g_iload_n (pc := 121) (j := 2) K d_G_mergeKey_121 rfl ?_
                  refine g_iast (pc := 122) K d_G_mergeKey_122 ?_
                  refine g_wi (fun s13 _ => ?_)
                  refine g_aload_n (pc := 123) (j := 0) K d_G_mergeKey_123 rfl ?_
                  refine g_getR (pc := 124) K fl_G_11 d_G_mergeKey_124 (fun _ => ?_) (fun b14 _ => ?_)
                  · exact g_none
                  · refine g_iload (pc := 127) (j := 5) K d_G_mergeKey_127 rfl ?_
                    refine g_aald (pc := 129) (kq := 13) (t0 := 3) K (by decide) (fun _ => rfl) d_G_mergeKey_129 (fun _ => ?_) (fun b15 _ => ?_)
                    · exact g_none
                    · refine g_getR (pc := 130) K fl_G_106 d_G_mergeKey_130 (fun _ => ?_) (fun b16 _ => ?_)
                      · exact g_none
                      · refine g_iload_n (pc := 133) (j := 1) K d_G_mergeKey_133 rfl ?_
                        refine g_iload_n (pc := 134) (j := 3) K d_G_mergeKey_134 rfl ?_
                        refine g_iast (pc := 135) K d_G_mergeKey_135 ?_
                        refine g_wi (fun s17 _ => ?_)
                        refine g_aload_n (pc := 136) (j := 0) K d_G_mergeKey_136 rfl ?_
                        refine g_getR (pc := 137) K fl_G_11 d_G_mergeKey_137 (fun _ => ?_) (fun b18 _ => ?_)
                        · exact g_none
                        · refine g_iload (pc := 140) (j := 5) K d_G_mergeKey_140 rfl ?_
                          refine g_aald (pc := 142) (kq := 13) (t0 := 3) K (by decide) (fun _ => rfl) d_G_mergeKey_142 (fun _ => ?_) (fun b19 _ => ?_)
                          · exact g_none
                          · refine g_getR (pc := 143) K fl_G_244 d_G_mergeKey_143 (fun _ => ?_) (fun b20 _ => ?_)
                            · exact g_none
                            · refine g_iload_n (pc := 146) (j := 1) K d_G_mergeKey_146 rfl ?_
                              refine g_iload (pc := 147) (j := 4) K d_G_mergeKey_147 rfl ?_
                              refine g_iast (pc := 149) K d_G_mergeKey_149 ?_
                              refine g_wi (fun s21 _ => ?_)
                              exact gb_G_mergeKey_150 K S T hI (b_G_mergeKey_91 n) ih s21 a0 x1 x2 x3 x4 x5
def b_G_mergeKey_82 (k : Sg → Nat → Int32 → Int32 → Int32 → Int32 → Int32 → Option Sg) (σ : Sg) (a0 : Nat) (x1 : Int32) (x2 : Int32) (x3 : Int32) (x4 : Int32) (x5 : Int32) : Option Sg := (k σ a0 x1 x2 x3 x4 (x5 + 1))
set_option maxRecDepth 100000 in
set_option maxHeartbeats 4000000 in
theorem gb_G_mergeKey_82 {Γ : GX} (K : Cx Γ "TapirGroup" prog_1_method_33_code 7 rm_G_mergeKey) (S : Std Γ none) (T : Tb Γ []) (hI : y_G_mergeKey.name = "<init>" → Ini Γ) (k : Sg → Nat → Int32 → Int32 → Int32 → Int32 → Int32 → Option Sg) (hk : ∀ (σ : Sg) (a0 : Nat) (x1 : Int32) (x2 : Int32) (x3 : Int32) (x4 : Int32) (x5 : Int32), G Γ mkV 0 0 10 [(0, .ref a0), (1, .int x1), (2, .int x2), (3, .int x3), (4, .int x4), (5, .int x5)] [] σ (k σ a0 x1 x2 x3 x4 x5)) (σ : Sg) (a0 : Nat) (x1 : Int32) (x2 : Int32) (x3 : Int32) (x4 : Int32) (x5 : Int32) : G Γ mkV 0 0 82 [(0, .ref a0), (1, .int x1), (2, .int x2), (3, .int x3), (4, .int x4), (5, .int x5)] [] σ (b_G_mergeKey_82 k σ a0 x1 x2 x3 x4 x5) := by
  unfold b_G_mergeKey_82
  refine g_iinc (pc := 82) (j := 5) (v := (x5 + 1)) (L' := [(5, .int (x5 + 1)), (0, .ref a0), (1, .int x1), (2, .int x2), (3, .int x3), (4, .int x4)]) K d_G_mergeKey_82 rfl (by rfl) (by decide) rfl ?_
  refine g_goto (pc := 85) (tgt := 10) K d_G_mergeKey_85 (by decide) ?_
  refine g_sub (L' := [(0, .ref a0), (1, .int x1), (2, .int x2), (3, .int x3), (4, .int x4), (5, .int (x5 + 1))]) [1, 2, 3, 4, 5, 0] rfl ?_
  exact hk σ a0 x1 x2 x3 x4 (x5 + 1)
def b_G_mergeKey_60 (k : Sg → Nat → Int32 → Int32 → Int32 → Int32 → Int32 → Option Sg) (σ : Sg) (a0 : Nat) (x1 : Int32) (x2 : Int32) (x3 : Int32) (x4 : Int32) (x5 : Int32) (a6 : Nat) : Option Sg := (if a6 < σ.1 ∧ kd a6 = 1 then (if (g_i σ a6 0) = 0 then (b_G_mergeKey_82 k σ a0 x1 x2 x3 x4 x5) else (if a6 < σ.1 ∧ kd a6 = 1 then rc (g_r σ a6 4) none (fun b22 => (if (b22 < σ.1 ∧ kd b22 = 10) ∧ inb x1 (ln b22) = true then ((f_J_max σ x4 (g_i σ b22 x1.toNatClampNeg)).bind (fun v23 => (b_G_mergeKey_82 k σ a0 x1 x2 x3 v23 x5))) else none)) else none)) else none)
set_option maxRecDepth 100000 in
set_option maxHeartbeats 4000000 in
theorem gb_G_mergeKey_60 {Γ : GX} (K : Cx Γ "TapirGroup" prog_1_method_33_code 7 rm_G_mergeKey) (S : Std Γ none) (T : Tb Γ []) (hI : y_G_mergeKey.name = "<init>" → Ini Γ) (k : Sg → Nat → Int32 → Int32 → Int32 → Int32 → Int32 → Option Sg) (hk : ∀ (σ : Sg) (a0 : Nat) (x1 : Int32) (x2 : Int32) (x3 : Int32) (x4 : Int32) (x5 : Int32), G Γ mkV 0 0 10 [(0, .ref a0), (1, .int x1), (2, .int x2), (3, .int x3), (4, .int x4), (5, .int x5)] [] σ (k σ a0 x1 x2 x3 x4 x5)) (σ : Sg) (a0 : Nat) (x1 : Int32) (x2 : Int32) (x3 : Int32) (x4 : Int32) (x5 : Int32) (a6 : Nat) : G Γ mkV 0 0 60 [(0, .ref a0), (1, .int x1), (2, .int x2), (3, .int x3), (4, .int x4), (5, .int x5), (6, .ref a6)] [] σ (b_G_mergeKey_60 k σ a0 x1 x2 x3 x4 x5 a6) := by
  unfold b_G_mergeKey_60
  refine g_aload (pc := 60) (j := 6) K d_G_mergeKey_60 rfl ?_
  refine g_getI (pc := 62) K fl_G_220 d_G_mergeKey_62 ?_
  refine g_if_eq (pc := 65) (tgt := 82) K d_G_mergeKey_65 (by decide) (fun _ => ?_) (fun _ => ?_)
  · refine g_sub (L' := [(0, .ref a0), (1, .int x1), (2, .int x2), (3, .int x3), (4, .int x4), (5, .int x5)]) [0, 1, 2, 3, 4, 5] rfl ?_
    exact gb_G_mergeKey_82 K S T hI k hk σ a0 x1 x2 x3 x4 x5
  · refine g_iload (pc := 68) (j := 4) K d_G_mergeKey_68 rfl ?_
    refine g_aload (pc := 70) (j := 6) K d_G_mergeKey_70 rfl ?_
    refine g_getR (pc := 72) K fl_G_244 d_G_mergeKey_72 (fun _ => ?_) (fun b22 _ => ?_)
    · exact g_none
    · refine g_iload_n (pc := 75) (j := 1) K d_G_mergeKey_75 rfl ?_
      refine g_iald (pc := 76) K d_G_mergeKey_76 ?_
      refine g_callS (pc := 77) (vs := [.int x4, .int (g_i σ b22 x1.toNatClampNeg)]) (st := []) (mkc := mkI σ) K cn_J_max (fun l hl r hr => k_J_max l hl _ _ _ r hr) mw_164 mw_165 ⟨by decide, by decide, by decide, by decide⟩ d_G_mergeKey_77 rfl rfl (Nat.le_of_ble_eq_true rfl) (fun v23 _ => ?_)
      change G Γ mkV 0 0 80 [(0, .ref a0), (1, .int x1), (2, .int x2), (3, .int x3), (4, .int x4), (5, .int x5), (6, .ref a6)] [.int v23] σ _
      refine g_istore (pc := 80) (L' := [(4, .int v23), (0, .ref a0), (1, .int x1), (2, .int x2), (3, .int x3), (5, .int x5), (6, .ref a6)]) K d_G_mergeKey_80 (by decide) rfl ?_
      refine g_sub (L' := [(0, .ref a0), (1, .int x1), (2, .int x2), (3, .int x3), (4, .int v23), (5, .int x5)]) [1, 2, 3, 4, 0, 5] rfl ?_
      exact gb_G_mergeKey_82 K S T hI k hk σ a0 x1 x2 x3 v23 x5
def b_G_mergeKey_10 : Nat → Sg → Nat → Int32 → Int32 → Int32 → Int32 → Int32 → Option Sg
  | 0 => fun _ _ _ _ _ _ _ => none
  | n + 1 => fun σ a0 x1 x2 x3 x4 x5 => (if (3 : Int32) ≤ x5 then (b_G_mergeKey_91 1000 σ a0 x1 x2 x3 x4 (0 : Int32)) else (if a0 < σ.1 ∧ kd a0 = 3 then rc (g_r σ a0 0) none (fun b1 => (if (b1 < σ.1 ∧ kd b1 = 13) ∧ inb x5 (ln b1) = true then rc (g_r σ b1 x5.toNatClampNeg) none (fun b2 => (if b2 < σ.1 ∧ kd b2 = 1 then (if (g_i σ b2 0) = 0 then (b_G_mergeKey_60 (b_G_mergeKey_10 n) σ a0 x1 x2 x3 x4 x5 b2) else (if b2 < σ.1 ∧ kd b2 = 1 then rc (g_r σ b2 2) none (fun b3 => (if (b3 < σ.1 ∧ kd b3 = 10) ∧ inb x1 (ln b3) = true then (if (g_i σ b3 x1.toNatClampNeg) ≤ x2 then (b_G_mergeKey_60 (b_G_mergeKey_10 n) σ a0 x1 x2 x3 x4 x5 b2) else (if b2 < σ.1 ∧ kd b2 = 1 then rc (g_r σ b2 2) none (fun b4 => (if (b4 < σ.1 ∧ kd b4 = 10) ∧ inb x1 (ln b4) = true then (wn (g_i σ b4 x1.toNatClampNeg) (fun y5 => (if b2 < σ.1 ∧ kd b2 = 1 then rc (g_r σ b2 3) none (fun b6 => (if (b6 < σ.1 ∧ kd b6 = 10) ∧ inb x1 (ln b6) = true then (wn (g_i σ b6 x1.toNatClampNeg) (fun y7 => (b_G_mergeKey_60 (b_G_mergeKey_10 n) σ a0 x1 y5 y7 x4 x5 b2))) else none)) else none))) else none)) else none)) else none)) else none)) else none)) else none)) else none))
set_option maxRecDepth 100000 in
set_option maxHeartbeats 4000000 in
theorem gb_G_mergeKey_10 {Γ : GX} (K : Cx Γ "TapirGroup" prog_1_method_33_code 7 rm_G_mergeKey) (S : Std Γ none) (T : Tb Γ []) (hI : y_G_mergeKey.name = "<init>" → Ini Γ) (n : Nat) : ∀ (σ : Sg) (a0 : Nat) (x1 : Int32) (x2 : Int32) (x3 : Int32) (x4 : Int32) (x5 : Int32), G Γ mkV 0 0 10 [(0, .ref a0), (1, .int x1), (2, .int x2), (3, .int x3), (4, .int x4), (5, .int x5)] [] σ (b_G_mergeKey_10 n σ a0 x1 x2 x3 x4 x5) := by
  induction n with
  | zero =>
    intro σ a0 x1 x2 x3 x4 x5
    exact g_none
  | succ n ih =>
    intro σ a0 x1 x2 x3 x4 x5
    rw [b_G_mergeKey_10]
    refine g_iload (pc := 10) (j := 5) K d_G_mergeKey_10 rfl ?_
    refine g_iconst (pc := 12) (v := 3) K d_G_mergeKey_12 (by decide) ?_
    refine g_icmp_ge (pc := 13) (tgt := 88) K d_G_mergeKey_13 (by decide) (fun _ => ?_) (fun _ => ?_)
    · refine g_iconst (pc := 88) (v := 0) K d_G_mergeKey_88 (by decide) ?_
      refine g_istore (pc := 89) (L' := [(5, .int (0 : Int32)), (0, .ref a0), (1, .int x1), (2, .int x2), (3, .int x3), (4, .int x4)]) K d_G_mergeKey_89 (by decide) rfl ?_
      refine g_sub (L' := [(0, .ref a0), (1, .int x1), (2, .int x2), (3, .int x3), (4, .int x4), (5, .int (0 : Int32))]) [1, 2, 3, 4, 5, 0] rfl ?_
      exact gb_G_mergeKey_91 K S T hI 1000 σ a0 x1 x2 x3 x4 (0 : Int32)
    · refine g_aload_n (pc := 16) (j := 0) K d_G_mergeKey_16 rfl ?_
      refine g_getR (pc := 17) K fl_G_11 d_G_mergeKey_17 (fun _ => ?_) (fun b1 _ => ?_)
      · exact g_none
      · refine g_iload (pc := 20) (j := 5) K d_G_mergeKey_20 rfl ?_
        refine g_aald (pc := 22) (kq := 13) (t0 := 3) K (by decide) (fun _ => rfl) d_G_mergeKey_22 (fun _ => ?_) (fun b2 _ => ?_)
        · exact g_none
        · refine g_astore (pc := 23) (L' := [(6, .ref b2), (0, .ref a0), (1, .int x1), (2, .int x2), (3, .int x3), (4, .int x4), (5, .int x5)]) K d_G_mergeKey_23 (by decide) rfl ?_
          refine g_aload (pc := 25) (j := 0) K d_G_mergeKey_25 rfl ?_
          refine g_getI (pc := 27) K fl_G_220 d_G_mergeKey_27 ?_
          refine g_if_eq (pc := 30) (tgt := 60) K d_G_mergeKey_30 (by decide) (fun _ => ?_) (fun _ => ?_)
          · refine g_sub (L' := [(0, .ref a0), (1, .int x1), (2, .int x2), (3, .int x3), (4, .int x4), (5, .int x5), (6, .ref b2)]) [1, 2, 3, 4, 5, 6, 0] rfl ?_
            exact gb_G_mergeKey_60 K S T hI (b_G_mergeKey_10 n) ih σ a0 x1 x2 x3 x4 x5 b2
          · refine g_aload (pc := 33) (j := 0) K d_G_mergeKey_33 rfl ?_
            refine g_getR (pc := 35) K fl_G_103 d_G_mergeKey_35 (fun _ => ?_) (fun b3 _ => ?_)
            · exact g_none
            · refine g_iload_n (pc := 38) (j := 2) K d_G_mergeKey_38 rfl ?_
              refine g_iald (pc := 39) K d_G_mergeKey_39 ?_
              refine g_iload_n (pc := 40) (j := 3) K d_G_mergeKey_40 rfl ?_
              refine g_icmp_le (pc := 41) (tgt := 60) K d_G_mergeKey_41 (by decide) (fun _ => ?_) (fun _ => ?_)
              · refine g_sub (L' := [(0, .ref a0), (1, .int x1), (2, .int x2), (3, .int x3), (4, .int x4), (5, .int x5), (6, .ref b2)]) [1, 2, 3, 4, 5, 6, 0] rfl ?_
                exact gb_G_mergeKey_60 K S T hI (b_G_mergeKey_10 n) ih σ a0 x1 x2 x3 x4 x5 b2
              · refine g_aload (pc := 44) (j := 0) K d_G_mergeKey_44 rfl ?_
                refine g_getR (pc := 46) K fl_G_103 d_G_mergeKey_46 (fun _ => ?_) (fun b4 _ => ?_)
                · exact g_none
                · refine g_iload_n (pc := 49) (j := 2) K d_G_mergeKey_49 rfl ?_
                  refine g_iald (pc := 50) K d_G_mergeKey_50 ?_
                  refine g_wn (fun y5 _ => ?_)
                  refine g_istore_n (pc := 51) (L' := [(2, .int y5), (6, .ref b2), (0, .ref a0), (1, .int x1), (3, .int x3), (4, .int x4), (5, .int x5)]) K d_G_mergeKey_51 (by decide) rfl ?_
                  refine g_aload (pc := 52) (j := 1) K d_G_mergeKey_52 rfl ?_
                  refine g_getR (pc := 54) K fl_G_106 d_G_mergeKey_54 (fun _ => ?_) (fun b6 _ => ?_)
                  · exact g_none
                  · refine g_iload_n (pc := 57) (j := 3) K d_G_mergeKey_57 rfl ?_
                    refine g_iald (pc := 58) K d_G_mergeKey_58 ?_
                    refine g_wn (fun y7 _ => ?_)
                    refine g_istore_n (pc := 59) (L' := [(3, .int y7), (2, .int y5), (6, .ref b2), (0, .ref a0), (1, .int x1), (4, .int x4), (5, .int x5)]) K d_G_mergeKey_59 (by decide) rfl ?_
                    refine g_sub (L' := [(0, .ref a0), (1, .int x1), (2, .int y5), (3, .int y7), (4, .int x4), (5, .int x5), (6, .ref b2)]) [3, 4, 1, 0, 5, 6, 2] rfl ?_
                    exact gb_G_mergeKey_60 K S T hI (b_G_mergeKey_10 n) ih σ a0 x1 y5 y7 x4 x5 b2
def f_G_mergeKey (σ : Sg) (a0 : Nat) (x1 : Int32) : Option Sg := (b_G_mergeKey_10 1000 σ a0 x1 (0 : Int32) (0 : Int32) (0 : Int32) (0 : Int32))
set_option maxRecDepth 100000 in
set_option maxHeartbeats 4000000 in
theorem k_G_mergeKey (l : Launch) (hl : l.stackTraces = false) (σ : Sg) (a0 : Nat) (x1 : Int32) (r : Sg) (h : f_G_mergeKey σ a0 x1 = some r) : Con l y_G_mergeKey (.code y_G_mergeKey prog_1_method_33_code 7 none) rm_G_mergeKey [.ref a0, .int x1] σ (mkV r) := by
  refine Con.of (mk := mkV) (o := f_G_mergeKey σ a0 x1) (z := r) (L0 := [(0, .ref a0), (1, .int x1)]) (bytes := prog_1_method_33_code) (maxL := 7) (ret := none) (hh := []) hl (by decide +kernel) (Or.inl ⟨rfl, rfl⟩) (by simp [Value.category]) (Nat.le_of_ble_eq_true rfl) rfl (fun Γ K S T hI => ?_) h rfl
  unfold f_G_mergeKey
  refine g_iconst (pc := 0) (v := 0) K d_G_mergeKey_0 (by decide) ?_
  refine g_istore_n (pc := 1) (L' := [(2, .int (0 : Int32)), (0, .ref a0), (1, .int x1)]) K d_G_mergeKey_1 (by decide) rfl ?_
  refine g_iconst (pc := 2) (v := 0) K d_G_mergeKey_2 (by decide) ?_
  refine g_istore_n (pc := 3) (L' := [(3, .int (0 : Int32)), (2, .int (0 : Int32)), (0, .ref a0), (1, .int x1)]) K d_G_mergeKey_3 (by decide) rfl ?_
  refine g_iconst (pc := 4) (v := 0) K d_G_mergeKey_4 (by decide) ?_
  refine g_istore (pc := 5) (L' := [(4, .int (0 : Int32)), (3, .int (0 : Int32)), (2, .int (0 : Int32)), (0, .ref a0), (1, .int x1)]) K d_G_mergeKey_5 (by decide) rfl ?_
  refine g_iconst (pc := 7) (v := 0) K d_G_mergeKey_7 (by decide) ?_
  refine g_istore (pc := 8) (L' := [(5, .int (0 : Int32)), (4, .int (0 : Int32)), (3, .int (0 : Int32)), (2, .int (0 : Int32)), (0, .ref a0), (1, .int x1)]) K d_G_mergeKey_8 (by decide) rfl ?_
  refine g_sub (L' := [(0, .ref a0), (1, .int x1), (2, .int (0 : Int32)), (3, .int (0 : Int32)), (4, .int (0 : Int32)), (5, .int (0 : Int32))]) [4, 5, 3, 2, 1, 0] rfl ?_
  exact gb_G_mergeKey_10 K S T hI 1000 σ a0 x1 (0 : Int32) (0 : Int32) (0 : Int32) (0 : Int32)
