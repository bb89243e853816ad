-- TapirGroupModel.end(I)V
def y_M_end : MethodName := ⟨"TapirGroupModel", "end", "(I)V"⟩
abbrev rm_M_end : Room := { frames := 3, cells := 0, slots := 0, locals := 63 }
theorem d_M_end_0 : decode prog_6_method_30_code 0 = .ok (.aload_n 0, 1) := by decide +kernel
theorem d_M_end_1 : decode prog_6_method_30_code 1 = .ok (.iload_n 1, 1) := by decide +kernel
theorem d_M_end_2 : decode prog_6_method_30_code 2 = .ok (.invokestatic 88, 3) := by decide +kernel
theorem d_M_end_5 : decode prog_6_method_30_code 5 = .ok (.ifCond .ne 7, 3) := by decide +kernel
theorem d_M_end_8 : decode prog_6_method_30_code 8 = .ok (.iconst 1, 1) := by decide +kernel
theorem d_M_end_9 : decode prog_6_method_30_code 9 = .ok (.goto 26, 3) := by decide +kernel
theorem d_M_end_12 : decode prog_6_method_30_code 12 = .ok (.aload_n 0, 1) := by decide +kernel
theorem d_M_end_13 : decode prog_6_method_30_code 13 = .ok (.iload_n 1, 1) := by decide +kernel
theorem d_M_end_14 : decode prog_6_method_30_code 14 = .ok (.invokevirtual 112, 3) := by decide +kernel
theorem d_M_end_17 : decode prog_6_method_30_code 17 = .ok (.iconst 4, 1) := by decide +kernel
theorem d_M_end_18 : decode prog_6_method_30_code 18 = .ok (.if_icmp .eq 16, 3) := by decide +kernel
theorem d_M_end_21 : decode prog_6_method_30_code 21 = .ok (.aload_n 0, 1) := by decide +kernel
theorem d_M_end_22 : decode prog_6_method_30_code 22 = .ok (.iload_n 1, 1) := by decide +kernel
theorem d_M_end_23 : decode prog_6_method_30_code 23 = .ok (.invokevirtual 112, 3) := by decide +kernel
theorem d_M_end_26 : decode prog_6_method_30_code 26 = .ok (.iconst 5, 1) := by decide +kernel
theorem d_M_end_27 : decode prog_6_method_30_code 27 = .ok (.if_icmp .eq 7, 3) := by decide +kernel
theorem d_M_end_30 : decode prog_6_method_30_code 30 = .ok (.iconst 2, 1) := by decide +kernel
theorem d_M_end_31 : decode prog_6_method_30_code 31 = .ok (.goto 4, 3) := by decide +kernel
theorem d_M_end_34 : decode prog_6_method_30_code 34 = .ok (.iconst 0, 1) := by decide +kernel
theorem d_M_end_35 : decode prog_6_method_30_code 35 = .ok (.invokevirtual 99, 3) := by decide +kernel
theorem d_M_end_38 : decode prog_6_method_30_code 38 = .ok (.ifCond .ne 4, 3) := by decide +kernel
theorem d_M_end_41 : decode prog_6_method_30_code 41 = .ok (.return_, 1) := by decide +kernel
theorem d_M_end_42 : decode prog_6_method_30_code 42 = .ok (.aload_n 0, 1) := by decide +kernel
theorem d_M_end_43 : decode prog_6_method_30_code 43 = .ok (.getfield 34, 3) := by decide +kernel
theorem d_M_end_46 : decode prog_6_method_30_code 46 = .ok (.iload_n 1, 1) := by decide +kernel
theorem d_M_end_47 : decode prog_6_method_30_code 47 = .ok (.iconst 0, 1) := by decide +kernel
theorem d_M_end_48 : decode prog_6_method_30_code 48 = .ok (.iastore, 1) := by decide +kernel
theorem d_M_end_49 : decode prog_6_method_30_code 49 = .ok (.aload_n 0, 1) := by decide +kernel
theorem d_M_end_50 : decode prog_6_method_30_code 50 = .ok (.getfield 37, 3) := by decide +kernel
theorem d_M_end_53 : decode prog_6_method_30_code 53 = .ok (.iload_n 1, 1) := by decide +kernel
theorem d_M_end_54 : decode prog_6_method_30_code 54 = .ok (.iconst 0, 1) := by decide +kernel
theorem d_M_end_55 : decode prog_6_method_30_code 55 = .ok (.iastore, 1) := by decide +kernel
theorem d_M_end_56 : decode prog_6_method_30_code 56 = .ok (.return_, 1) := by decide +kernel
theorem cn_M_end : CN y_M_end (.code y_M_end prog_6_method_30_code 2 none) prog_6_method_30_code 2 none [] 1 := ⟨Or.inl ⟨rfl, rfl⟩, mw_764, mw_5, ⟨by decide +kernel, by decide +kernel⟩, by decide +kernel⟩
def b_M_end_35  (σ : Sg) (a0 : Nat) (x1 : Int32) (t0 : Nat) (t1 : Int32) : Option Sg := (if t0 < σ.1 ∧ kd t0 = 4 then (f_M_says σ t0 t1).bind (fun w4 => (if w4.1 = 0 then (some w4.2) else (if a0 < w4.2.1 ∧ kd a0 = 4 then rc (g_r w4.2 a0 10) none (fun b5 => (if (b5 < w4.2.1 ∧ kd b5 = 10) ∧ inb x1 (ln b5) = true then (wi (s_i w4.2 b5 x1.toNatClampNeg (0 : Int32)) (fun s6 => (if a0 < s6.1 ∧ kd a0 = 4 then rc (g_r s6 a0 11) none (fun b7 => (if (b7 < s6.1 ∧ kd b7 = 10) ∧ inb x1 (ln b7) = true then (wi (s_i s6 b7 x1.toNatClampNeg (0 : Int32)) (fun s8 => (some s8))) else none)) else none))) else none)) else none))) else none)
set_option maxRecDepth 100000 in
set_option maxHeartbeats 4000000 in
theorem gb_M_end_35 {Γ : GX} (K : Cx Γ "TapirGroupModel" prog_6_method_30_code 2 rm_M_end) (S : Std Γ none) (T : Tb Γ []) (hI : y_M_end.name = "<init>" → Ini Γ) (σ : Sg) (a0 : Nat) (x1 : Int32) (t0 : Nat) (t1 : Int32) : G Γ mkV 0 0 35 [(0, .ref a0), (1, .int x1)] [.int t1, .ref t0] σ (b_M_end_35 σ a0 x1 t0 t1) := by
  unfold b_M_end_35
  refine g_callV (pc := 35) (ci := 4) (a := t0) (vs := [.int t1]) (st := []) (mkc := mkW) K rfl (by decide) cn_M_says (fun l hl r hr => k_M_says l hl _ _ _ r hr) mw_666 mw_668 ms_15 ⟨by decide, by decide, by decide, by decide⟩ d_M_end_35 rfl rfl (Nat.le_of_ble_eq_true rfl) (fun w4 _ => ?_)
  change G Γ mkV 0 0 38 [(0, .ref a0), (1, .int x1)] [.int w4.1] w4.2 _
  refine g_if_ne (pc := 38) (tgt := 42) K d_M_end_38 (by decide) (fun _ => ?_) (fun _ => ?_)
  · refine g_aload_n (pc := 42) (j := 0) K d_M_end_42 rfl ?_
    refine g_getR (pc := 43) K fl_M_34 d_M_end_43 (fun _ => ?_) (fun b5 _ => ?_)
    · exact g_none
    · refine g_iload_n (pc := 46) (j := 1) K d_M_end_46 rfl ?_
      refine g_iconst (pc := 47) (v := 0) K d_M_end_47 (by decide) ?_
      refine g_iast (pc := 48) K d_M_end_48 ?_
      refine g_wi (fun s6 _ => ?_)
      refine g_aload_n (pc := 49) (j := 0) K d_M_end_49 rfl ?_
      refine g_getR (pc := 50) K fl_M_37 d_M_end_50 (fun _ => ?_) (fun b7 _ => ?_)
      · exact g_none
      · refine g_iload_n (pc := 53) (j := 1) K d_M_end_53 rfl ?_
        refine g_iconst (pc := 54) (v := 0) K d_M_end_54 (by decide) ?_
        refine g_iast (pc := 55) K d_M_end_55 ?_
        refine g_wi (fun s8 _ => ?_)
        exact g_vret (pc := 56) K S d_M_end_56 (by decide) (by decide) rfl
  · exact g_vret (pc := 41) K S d_M_end_41 (by decide) (by decide) rfl
def b_M_end_34  (σ : Sg) (a0 : Nat) (x1 : Int32) (t0 : Nat) : Option Sg := (b_M_end_35 σ a0 x1 t0 (0 : Int32))
set_option maxRecDepth 100000 in
set_option maxHeartbeats 4000000 in
theorem gb_M_end_34 {Γ : GX} (K : Cx Γ "TapirGroupModel" prog_6_method_30_code 2 rm_M_end) (S : Std Γ none) (T : Tb Γ []) (hI : y_M_end.name = "<init>" → Ini Γ) (σ : Sg) (a0 : Nat) (x1 : Int32) (t0 : Nat) : G Γ mkV 0 0 34 [(0, .ref a0), (1, .int x1)] [.ref t0] σ (b_M_end_34 σ a0 x1 t0) := by
  unfold b_M_end_34
  refine g_iconst (pc := 34) (v := 0) K d_M_end_34 (by decide) ?_
  exact gb_M_end_35 K S T hI σ a0 x1 t0 (0 : Int32)
def f_M_end (σ : Sg) (a0 : Nat) (x1 : Int32) : Option Sg := ((f_M_isClient σ x1).bind (fun v1 => (if v1 = 0 then (b_M_end_35 σ a0 x1 a0 (1 : Int32)) else (if a0 < σ.1 ∧ kd a0 = 4 then (f_M_stateOf σ a0 x1).bind (fun v2 => (if v2 = (4 : Int32) then (b_M_end_34 σ a0 x1 a0) else (if a0 < σ.1 ∧ kd a0 = 4 then (f_M_stateOf σ a0 x1).bind (fun v3 => (if v3 = (5 : Int32) then (b_M_end_34 σ a0 x1 a0) else (b_M_end_35 σ a0 x1 a0 (2 : Int32)))) else none))) else none))))
set_option maxRecDepth 100000 in
set_option maxHeartbeats 4000000 in
theorem k_M_end (l : Launch) (hl : l.stackTraces = false) (σ : Sg) (a0 : Nat) (x1 : Int32) (r : Sg) (h : f_M_end σ a0 x1 = some r) : Con l y_M_end (.code y_M_end prog_6_method_30_code 2 none) rm_M_end [.ref a0, .int x1] σ (mkV r) := by
  refine Con.of (mk := mkV) (o := f_M_end σ a0 x1) (z := r) (L0 := [(0, .ref a0), (1, .int x1)]) (bytes := prog_6_method_30_code) (maxL := 2) (ret := none) (hh := []) hl (by decide +kernel) (Or.inl ⟨rfl, rfl⟩) (by simp [Value.category]) (Nat.le_of_ble_eq_true rfl) rfl (fun Γ K S T hI => ?_) h rfl
  unfold f_M_end
  refine g_aload_n (pc := 0) (j := 0) K d_M_end_0 rfl ?_
  refine g_iload_n (pc := 1) (j := 1) K d_M_end_1 rfl ?_
  refine g_callS (pc := 2) (vs := [.int x1]) (st := [.ref a0]) (mkc := mkI σ) K cn_M_isClient (fun l hl r hr => k_M_isClient l hl _ _ r hr) mw_660 mw_661 ⟨by decide, by decide, by decide, by decide⟩ d_M_end_2 rfl rfl (Nat.le_of_ble_eq_true rfl) (fun v1 _ => ?_)
  change G Γ mkV 0 0 5 [(0, .ref a0), (1, .int x1)] [.int v1, .ref a0] σ _
  refine g_if_ne (pc := 5) (tgt := 12) K d_M_end_5 (by decide) (fun _ => ?_) (fun _ => ?_)
  · refine g_aload_n (pc := 12) (j := 0) K d_M_end_12 rfl ?_
    refine g_iload_n (pc := 13) (j := 1) K d_M_end_13 rfl ?_
    refine g_callV (pc := 14) (ci := 4) (a := a0) (vs := [.int x1]) (st := [.ref a0]) (mkc := mkI σ) K rfl (by decide) cn_M_stateOf (fun l hl r hr => k_M_stateOf l hl _ _ _ r hr) mw_684 mw_686 ms_17 ⟨by decide, by decide, by decide, by decide⟩ d_M_end_14 rfl rfl (Nat.le_of_ble_eq_true rfl) (fun v2 _ => ?_)
    change G Γ mkV 0 0 17 [(0, .ref a0), (1, .int x1)] [.int v2, .ref a0] σ _
    refine g_iconst (pc := 17) (v := 4) K d_M_end_17 (by decide) ?_
    refine g_icmp_eq (pc := 18) (tgt := 34) K d_M_end_18 (by decide) (fun _ => ?_) (fun _ => ?_)
    · exact gb_M_end_34 K S T hI σ a0 x1 a0
    · refine g_aload_n (pc := 21) (j := 0) K d_M_end_21 rfl ?_
      refine g_iload_n (pc := 22) (j := 1) K d_M_end_22 rfl ?_
      refine g_callV (pc := 23) (ci := 4) (a := a0) (vs := [.int x1]) (st := [.ref a0]) (mkc := mkI σ) K rfl (by decide) cn_M_stateOf (fun l hl r hr => k_M_stateOf l hl _ _ _ r hr) mw_684 mw_686 ms_17 ⟨by decide, by decide, by decide, by decide⟩ d_M_end_23 rfl rfl (Nat.le_of_ble_eq_true rfl) (fun v3 _ => ?_)
      change G Γ mkV 0 0 26 [(0, .ref a0), (1, .int x1)] [.int v3, .ref a0] σ _
      refine g_iconst (pc := 26) (v := 5) K d_M_end_26 (by decide) ?_
      refine g_icmp_eq (pc := 27) (tgt := 34) K d_M_end_27 (by decide) (fun _ => ?_) (fun _ => ?_)
      · exact gb_M_end_34 K S T hI σ a0 x1 a0
      · refine g_iconst (pc := 30) (v := 2) K d_M_end_30 (by decide) ?_
        refine g_goto (pc := 31) (tgt := 35) K d_M_end_31 (by decide) ?_
        exact gb_M_end_35 K S T hI σ a0 x1 a0 (2 : Int32)
  · refine g_iconst (pc := 8) (v := 1) K d_M_end_8 (by decide) ?_
    refine g_goto (pc := 9) (tgt := 35) K d_M_end_9 (by decide) ?_
    exact gb_M_end_35 K S T hI σ a0 x1 a0 (1 : Int32)
-- TapirGroupModel.power(IZ)Z
def y_M_power : MethodName := ⟨"TapirGroupModel", "power", "(IZ)Z"⟩
abbrev rm_M_power : Room := { frames := 2, cells := 0, slots := 0, locals := 42 }
theorem d_M_power_0 : decode prog_6_method_31_code 0 = .ok (.aload_n 0, 1) := by decide +kernel
theorem d_M_power_1 : decode prog_6_method_31_code 1 = .ok (.iload_n 1, 1) := by decide +kernel
theorem d_M_power_2 : decode prog_6_method_31_code 2 = .ok (.invokestatic 109, 3) := by decide +kernel
theorem d_M_power_5 : decode prog_6_method_31_code 5 = .ok (.ifCond .eq 7, 3) := by decide +kernel
theorem d_M_power_8 : decode prog_6_method_31_code 8 = .ok (.iconst 0, 1) := by decide +kernel
theorem d_M_power_9 : decode prog_6_method_31_code 9 = .ok (.goto 4, 3) := by decide +kernel
theorem d_M_power_12 : decode prog_6_method_31_code 12 = .ok (.iconst 1, 1) := by decide +kernel
theorem d_M_power_13 : decode prog_6_method_31_code 13 = .ok (.invokevirtual 99, 3) := by decide +kernel
theorem d_M_power_16 : decode prog_6_method_31_code 16 = .ok (.ifCond .eq 13, 3) := by decide +kernel
theorem d_M_power_19 : decode prog_6_method_31_code 19 = .ok (.aload_n 0, 1) := by decide +kernel
theorem d_M_power_20 : decode prog_6_method_31_code 20 = .ok (.getfield 53, 3) := by decide +kernel
theorem d_M_power_23 : decode prog_6_method_31_code 23 = .ok (.iload_n 1, 1) := by decide +kernel
theorem d_M_power_24 : decode prog_6_method_31_code 24 = .ok (.baload, 1) := by decide +kernel
theorem d_M_power_25 : decode prog_6_method_31_code 25 = .ok (.iload_n 2, 1) := by decide +kernel
theorem d_M_power_26 : decode prog_6_method_31_code 26 = .ok (.if_icmp .ne 5, 3) := by decide +kernel
theorem d_M_power_29 : decode prog_6_method_31_code 29 = .ok (.iconst 0, 1) := by decide +kernel
theorem d_M_power_30 : decode prog_6_method_31_code 30 = .ok (.ireturn, 1) := by decide +kernel
theorem d_M_power_31 : decode prog_6_method_31_code 31 = .ok (.aload_n 0, 1) := by decide +kernel
theorem d_M_power_32 : decode prog_6_method_31_code 32 = .ok (.getfield 53, 3) := by decide +kernel
theorem d_M_power_35 : decode prog_6_method_31_code 35 = .ok (.iload_n 1, 1) := by decide +kernel
theorem d_M_power_36 : decode prog_6_method_31_code 36 = .ok (.iload_n 2, 1) := by decide +kernel
theorem d_M_power_37 : decode prog_6_method_31_code 37 = .ok (.bastore, 1) := by decide +kernel
theorem d_M_power_38 : decode prog_6_method_31_code 38 = .ok (.iconst 1, 1) := by decide +kernel
theorem d_M_power_39 : decode prog_6_method_31_code 39 = .ok (.ireturn, 1) := by decide +kernel
theorem cn_M_power : CN y_M_power (.code y_M_power prog_6_method_31_code 3 (some .boolean)) prog_6_method_31_code 3 (some .boolean) [] 2 := ⟨Or.inl ⟨rfl, rfl⟩, mw_768, mw_5, ⟨by decide +kernel, by decide +kernel⟩, by decide +kernel⟩
def b_M_power_29  (σ : Sg)  : Option (Int32 × Sg) := (some ((0 : Int32), σ))
set_option maxRecDepth 100000 in
set_option maxHeartbeats 4000000 in
theorem gb_M_power_29 {Γ : GX} (K : Cx Γ "TapirGroupModel" prog_6_method_31_code 3 rm_M_power) (S : Std Γ (some .boolean)) (T : Tb Γ []) (hI : y_M_power.name = "<init>" → Ini Γ) (σ : Sg)  : G Γ mkW 0 0 29 [] [] σ (b_M_power_29 σ ) := by
  unfold b_M_power_29
  refine g_iconst (pc := 29) (v := 0) K d_M_power_29 (by decide) ?_
  exact g_iret (pc := 30) K S rfl d_M_power_30 (by decide) (by decide) rfl
def b_M_power_13  (σ : Sg) (a0 : Nat) (x1 : Int32) (x2 : Int32) (t0 : Nat) (t1 : Int32) : Option (Int32 × Sg) := (if t0 < σ.1 ∧ kd t0 = 4 then (f_M_says σ t0 t1).bind (fun w2 => (if w2.1 = 0 then (b_M_power_29 w2.2) else (if a0 < w2.2.1 ∧ kd a0 = 4 then rc (g_r w2.2 a0 16) none (fun b3 => (if (b3 < w2.2.1 ∧ kd b3 = 11) ∧ inb x1 (ln b3) = true then (if (g_i w2.2 b3 x1.toNatClampNeg) = x2 then (b_M_power_29 w2.2) else (if a0 < w2.2.1 ∧ kd a0 = 4 then rc (g_r w2.2 a0 16) none (fun b4 => (if ((b4 < w2.2.1 ∧ kd b4 = 11) ∧ inb x1 (ln b4) = true) ∧ (x2 = 0 ∨ x2 = 1) then (wi (s_i w2.2 b4 x1.toNatClampNeg x2) (fun s5 => (some ((1 : Int32), s5)))) else none)) else none)) else none)) else none))) else none)
set_option maxRecDepth 100000 in
set_option maxHeartbeats 4000000 in
theorem gb_M_power_13 {Γ : GX} (K : Cx Γ "TapirGroupModel" prog_6_method_31_code 3 rm_M_power) (S : Std Γ (some .boolean)) (T : Tb Γ []) (hI : y_M_power.name = "<init>" → Ini Γ) (σ : Sg) (a0 : Nat) (x1 : Int32) (x2 : Int32) (t0 : Nat) (t1 : Int32) : G Γ mkW 0 0 13 [(0, .ref a0), (1, .int x1), (2, .int x2)] [.int t1, .ref t0] σ (b_M_power_13 σ a0 x1 x2 t0 t1) := by
  unfold b_M_power_13
  refine g_callV (pc := 13) (ci := 4) (a := t0) (vs := [.int t1]) (st := []) (mkc := mkW) K rfl (by decide) cn_M_says (fun l hl r hr => k_M_says l hl _ _ _ r hr) mw_666 mw_668 ms_15 ⟨by decide, by decide, by decide, by decide⟩ d_M_power_13 rfl rfl (Nat.le_of_ble_eq_true rfl) (fun w2 _ => ?_)
  change G Γ mkW 0 0 16 [(0, .ref a0), (1, .int x1), (2, .int x2)] [.int w2.1] w2.2 _
  refine g_if_eq (pc := 16) (tgt := 29) K d_M_power_16 (by decide) (fun _ => ?_) (fun _ => ?_)
  · refine g_sub (L' := []) [] rfl ?_
    exact gb_M_power_29 K S T hI w2.2
  · refine g_aload_n (pc := 19) (j := 0) K d_M_power_19 rfl ?_
    refine g_getR (pc := 20) K fl_M_53 d_M_power_20 (fun _ => ?_) (fun b3 _ => ?_)
    · exact g_none
    · refine g_iload_n (pc := 23) (j := 1) K d_M_power_23 rfl ?_
      refine g_zald (pc := 24) K d_M_power_24 ?_
      refine g_iload_n (pc := 25) (j := 2) K d_M_power_25 rfl ?_
      refine g_icmp_ne (pc := 26) (tgt := 31) K d_M_power_26 (by decide) (fun _ => ?_) (fun _ => ?_)
      · refine g_aload_n (pc := 31) (j := 0) K d_M_power_31 rfl ?_
        refine g_getR (pc := 32) K fl_M_53 d_M_power_32 (fun _ => ?_) (fun b4 _ => ?_)
        · exact g_none
        · refine g_iload_n (pc := 35) (j := 1) K d_M_power_35 rfl ?_
          refine g_iload_n (pc := 36) (j := 2) K d_M_power_36 rfl ?_
          refine g_zast (pc := 37) K d_M_power_37 ?_
          refine g_wi (fun s5 _ => ?_)
          refine g_iconst (pc := 38) (v := 1) K d_M_power_38 (by decide) ?_
          exact g_iret (pc := 39) K S rfl d_M_power_39 (by decide) (by decide) rfl
      · refine g_sub (L' := []) [] rfl ?_
        exact gb_M_power_29 K S T hI w2.2
def f_M_power (σ : Sg) (a0 : Nat) (x1 : Int32) (x2 : Int32) : Option (Int32 × Sg) := ((f_M_isReplica σ x1).bind (fun v1 => (if v1 = 0 then (b_M_power_13 σ a0 x1 x2 a0 (1 : Int32)) else (b_M_power_13 σ a0 x1 x2 a0 (0 : Int32)))))
set_option maxRecDepth 100000 in
set_option maxHeartbeats 4000000 in
theorem k_M_power (l : Launch) (hl : l.stackTraces = false) (σ : Sg) (a0 : Nat) (x1 : Int32) (x2 : Int32) (r : (Int32 × Sg)) (h : f_M_power σ a0 x1 x2 = some r) : Con l y_M_power (.code y_M_power prog_6_method_31_code 3 (some .boolean)) rm_M_power [.ref a0, .int x1, .int x2] σ (mkW r) := by
  refine Con.of (mk := mkW) (o := f_M_power σ a0 x1 x2) (z := r) (L0 := [(0, .ref a0), (1, .int x1), (2, .int x2)]) (bytes := prog_6_method_31_code) (maxL := 3) (ret := (some .boolean)) (hh := []) hl (by decide +kernel) (Or.inl ⟨rfl, rfl⟩) (by simp [Value.category]) (Nat.le_of_ble_eq_true rfl) rfl (fun Γ K S T hI => ?_) h rfl
  unfold f_M_power
  refine g_aload_n (pc := 0) (j := 0) K d_M_power_0 rfl ?_
  refine g_iload_n (pc := 1) (j := 1) K d_M_power_1 rfl ?_
  refine g_callS (pc := 2) (vs := [.int x1]) (st := [.ref a0]) (mkc := mkI σ) K cn_M_isReplica (fun l hl r hr => k_M_isReplica l hl _ _ r hr) mw_681 mw_682 ⟨by decide, by decide, by decide, by decide⟩ d_M_power_2 rfl rfl (Nat.le_of_ble_eq_true rfl) (fun v1 _ => ?_)
  change G Γ mkW 0 0 5 [(0, .ref a0), (1, .int x1), (2, .int x2)] [.int v1, .ref a0] σ _
  refine g_if_eq (pc := 5) (tgt := 12) K d_M_power_5 (by decide) (fun _ => ?_) (fun _ => ?_)
  · refine g_iconst (pc := 12) (v := 1) K d_M_power_12 (by decide) ?_
    exact gb_M_power_13 K S T hI σ a0 x1 x2 a0 (1 : Int32)
  · refine g_iconst (pc := 8) (v := 0) K d_M_power_8 (by decide) ?_
    refine g_goto (pc := 9) (tgt := 13) K d_M_power_9 (by decide) ?_
    exact gb_M_power_13 K S T hI σ a0 x1 x2 a0 (0 : Int32)
-- TapirGroupModel.recordsOf(II)I
def y_M_recordsOf : MethodName := ⟨"TapirGroupModel", "recordsOf", "(II)I"⟩
abbrev rm_M_recordsOf : Room := { frames := 0, cells := 0, slots := 0, locals := 0 }
theorem d_M_recordsOf_0 : decode prog_6_method_37_code 0 = .ok (.iconst 0, 1) := by decide +kernel
theorem d_M_recordsOf_1 : decode prog_6_method_37_code 1 = .ok (.istore_n 3, 1) := by decide +kernel
theorem d_M_recordsOf_2 : decode prog_6_method_37_code 2 = .ok (.iconst 0, 1) := by decide +kernel
theorem d_M_recordsOf_3 : decode prog_6_method_37_code 3 = .ok (.istore 4, 2) := by decide +kernel
theorem d_M_recordsOf_5 : decode prog_6_method_37_code 5 = .ok (.iload 4, 2) := by decide +kernel
theorem d_M_recordsOf_7 : decode prog_6_method_37_code 7 = .ok (.iconst 3, 1) := by decide +kernel
theorem d_M_recordsOf_8 : decode prog_6_method_37_code 8 = .ok (.if_icmp .ge 62, 3) := by decide +kernel
theorem d_M_recordsOf_11 : decode prog_6_method_37_code 11 = .ok (.iload_n 3, 1) := by decide +kernel
theorem d_M_recordsOf_12 : decode prog_6_method_37_code 12 = .ok (.aload_n 0, 1) := by decide +kernel
theorem d_M_recordsOf_13 : decode prog_6_method_37_code 13 = .ok (.getfield 53, 3) := by decide +kernel
theorem d_M_recordsOf_16 : decode prog_6_method_37_code 16 = .ok (.iload 4, 2) := by decide +kernel
theorem d_M_recordsOf_18 : decode prog_6_method_37_code 18 = .ok (.baload, 1) := by decide +kernel
theorem d_M_recordsOf_19 : decode prog_6_method_37_code 19 = .ok (.ifCond .eq 42, 3) := by decide +kernel
theorem d_M_recordsOf_22 : decode prog_6_method_37_code 22 = .ok (.aload_n 0, 1) := by decide +kernel
theorem d_M_recordsOf_23 : decode prog_6_method_37_code 23 = .ok (.getfield 68, 3) := by decide +kernel
theorem d_M_recordsOf_26 : decode prog_6_method_37_code 26 = .ok (.bipush 61, 2) := by decide +kernel
theorem d_M_recordsOf_28 : decode prog_6_method_37_code 28 = .ok (.iload 4, 2) := by decide +kernel
theorem d_M_recordsOf_30 : decode prog_6_method_37_code 30 = .ok (.imul, 1) := by decide +kernel
theorem d_M_recordsOf_31 : decode prog_6_method_37_code 31 = .ok (.iload_n 1, 1) := by decide +kernel
theorem d_M_recordsOf_32 : decode prog_6_method_37_code 32 = .ok (.iadd, 1) := by decide +kernel
theorem d_M_recordsOf_33 : decode prog_6_method_37_code 33 = .ok (.iaload, 1) := by decide +kernel
theorem d_M_recordsOf_34 : decode prog_6_method_37_code 34 = .ok (.ifCond .lt 27, 3) := by decide +kernel
theorem d_M_recordsOf_37 : decode prog_6_method_37_code 37 = .ok (.iload_n 2, 1) := by decide +kernel
theorem d_M_recordsOf_38 : decode prog_6_method_37_code 38 = .ok (.ifCond .lt 19, 3) := by decide +kernel
theorem d_M_recordsOf_41 : decode prog_6_method_37_code 41 = .ok (.aload_n 0, 1) := by decide +kernel
theorem d_M_recordsOf_42 : decode prog_6_method_37_code 42 = .ok (.getfield 68, 3) := by decide +kernel
theorem d_M_recordsOf_45 : decode prog_6_method_37_code 45 = .ok (.bipush 61, 2) := by decide +kernel
theorem d_M_recordsOf_47 : decode prog_6_method_37_code 47 = .ok (.iload 4, 2) := by decide +kernel
theorem d_M_recordsOf_49 : decode prog_6_method_37_code 49 = .ok (.imul, 1) := by decide +kernel
theorem d_M_recordsOf_50 : decode prog_6_method_37_code 50 = .ok (.iload_n 1, 1) := by decide +kernel
theorem d_M_recordsOf_51 : decode prog_6_method_37_code 51 = .ok (.iadd, 1) := by decide +kernel
theorem d_M_recordsOf_52 : decode prog_6_method_37_code 52 = .ok (.iaload, 1) := by decide +kernel
theorem d_M_recordsOf_53 : decode prog_6_method_37_code 53 = .ok (.iload_n 2, 1) := by decide +kernel
theorem d_M_recordsOf_54 : decode prog_6_method_37_code 54 = .ok (.if_icmp .ne 7, 3) := by decide +kernel
theorem d_M_recordsOf_57 : decode prog_6_method_37_code 57 = .ok (.iconst 1, 1) := by decide +kernel
theorem d_M_recordsOf_58 : decode prog_6_method_37_code 58 = .ok (.goto 4, 3) := by decide +kernel
theorem d_M_recordsOf_61 : decode prog_6_method_37_code 61 = .ok (.iconst 0, 1) := by decide +kernel
theorem d_M_recordsOf_62 : decode prog_6_method_37_code 62 = .ok (.iadd, 1) := by decide +kernel
theorem d_M_recordsOf_63 : decode prog_6_method_37_code 63 = .ok (.istore_n 3, 1) := by decide +kernel
theorem d_M_recordsOf_64 : decode prog_6_method_37_code 64 = .ok (.iinc 4 1, 3) := by decide +kernel
theorem d_M_recordsOf_67 : decode prog_6_method_37_code 67 = .ok (.goto (-62), 3) := by decide +kernel
theorem d_M_recordsOf_70 : decode prog_6_method_37_code 70 = .ok (.iload_n 3, 1) := by decide +kernel
theorem d_M_recordsOf_71 : decode prog_6_method_37_code 71 = .ok (.ireturn, 1) := by decide +kernel
theorem cn_M_recordsOf : CN y_M_recordsOf (.code y_M_recordsOf prog_6_method_37_code 5 (some .int)) prog_6_method_37_code 5 (some .int) [] 2 := ⟨Or.inl ⟨rfl, rfl⟩, mw_776, mw_5, ⟨by decide +kernel, by decide +kernel⟩, by decide +kernel⟩
def b_M_recordsOf_62 (σ : Sg) (k : Nat → Int32 → Int32 → Int32 → Int32 → Option Int32) (a0 : Nat) (x1 : Int32) (x2 : Int32) (x4 : Int32) (t0 : Int32) (t1 : Int32) : Option Int32 := (wn (t0 + t1) (fun y4 => (k a0 x1 x2 y4 (x4 + 1))))
set_option maxRecDepth 100000 in
set_option maxHeartbeats 4000000 in
theorem gb_M_recordsOf_62 {Γ : GX} (K : Cx Γ "TapirGroupModel" prog_6_method_37_code 5 rm_M_recordsOf) (S : Std Γ (some .int)) (T : Tb Γ []) (hI : y_M_recordsOf.name = "<init>" → Ini Γ) (σ : Sg) (k : Nat → Int32 → Int32 → Int32 → Int32 → Option Int32) (hk : ∀ (a0 : Nat) (x1 : Int32) (x2 : Int32) (x3 : Int32) (x4 : Int32), G Γ (mkI σ) 0 0 5 [(0, .ref a0), (1, .int x1), (2, .int x2), (3, .int x3), (4, .int x4)] [] σ (k a0 x1 x2 x3 x4)) (a0 : Nat) (x1 : Int32) (x2 : Int32) (x4 : Int32) (t0 : Int32) (t1 : Int32) : G Γ (mkI σ) 0 0 62 [(0, .ref a0), (1, .int x1), (2, .int x2), (4, .int x4)] [.int t1, .int t0] σ (b_M_recordsOf_62 σ k a0 x1 x2 x4 t0 t1) := by
  unfold b_M_recordsOf_62
  refine g_iadd (pc := 62) K d_M_recordsOf_62 ?_
  refine g_wn (fun y4 _ => ?_)
  refine g_istore_n (pc := 63) (L' := [(3, .int y4), (0, .ref a0), (1, .int x1), (2, .int x2), (4, .int x4)]) K d_M_recordsOf_63 (by decide) rfl ?_
  refine g_iinc (pc := 64) (j := 4) (v := (x4 + 1)) (L' := [(4, .int (x4 + 1)), (3, .int y4), (0, .ref a0), (1, .int x1), (2, .int x2)]) K d_M_recordsOf_64 rfl (by rfl) (by decide) rfl ?_
  refine g_goto (pc := 67) (tgt := 5) K d_M_recordsOf_67 (by decide) ?_
  refine g_sub (L' := [(0, .ref a0), (1, .int x1), (2, .int x2), (3, .int y4), (4, .int (x4 + 1))]) [2, 3, 4, 1, 0] rfl ?_
  exact hk a0 x1 x2 y4 (x4 + 1)
def b_M_recordsOf_61 (σ : Sg) (k : Nat → Int32 → Int32 → Int32 → Int32 → Option Int32) (a0 : Nat) (x1 : Int32) (x2 : Int32) (x4 : Int32) (t0 : Int32) : Option Int32 := (b_M_recordsOf_62 σ k a0 x1 x2 x4 t0 (0 : Int32))
set_option maxRecDepth 100000 in
set_option maxHeartbeats 4000000 in
theorem gb_M_recordsOf_61 {Γ : GX} (K : Cx Γ "TapirGroupModel" prog_6_method_37_code 5 rm_M_recordsOf) (S : Std Γ (some .int)) (T : Tb Γ []) (hI : y_M_recordsOf.name = "<init>" → Ini Γ) (σ : Sg) (k : Nat → Int32 → Int32 → Int32 → Int32 → Option Int32) (hk : ∀ (a0 : Nat) (x1 : Int32) (x2 : Int32) (x3 : Int32) (x4 : Int32), G Γ (mkI σ) 0 0 5 [(0, .ref a0), (1, .int x1), (2, .int x2), (3, .int x3), (4, .int x4)] [] σ (k a0 x1 x2 x3 x4)) (a0 : Nat) (x1 : Int32) (x2 : Int32) (x4 : Int32) (t0 : Int32) : G Γ (mkI σ) 0 0 61 [(0, .ref a0), (1, .int x1), (2, .int x2), (4, .int x4)] [.int t0] σ (b_M_recordsOf_61 σ k a0 x1 x2 x4 t0) := by
  unfold b_M_recordsOf_61
  refine g_iconst (pc := 61) (v := 0) K d_M_recordsOf_61 (by decide) ?_
  exact gb_M_recordsOf_62 K S T hI σ k hk a0 x1 x2 x4 t0 (0 : Int32)
def b_M_recordsOf_57 (σ : Sg) (k : Nat → Int32 → Int32 → Int32 → Int32 → Option Int32) (a0 : Nat) (x1 : Int32) (x2 : Int32) (x4 : Int32) (t0 : Int32) : Option Int32 := (b_M_recordsOf_62 σ k a0 x1 x2 x4 t0 (1 : Int32))
set_option maxRecDepth 100000 in
set_option maxHeartbeats 4000000 in
theorem gb_M_recordsOf_57 {Γ : GX} (K : Cx Γ "TapirGroupModel" prog_6_method_37_code 5 rm_M_recordsOf) (S : Std Γ (some .int)) (T : Tb Γ []) (hI : y_M_recordsOf.name = "<init>" → Ini Γ) (σ : Sg) (k : Nat → Int32 → Int32 → Int32 → Int32 → Option Int32) (hk : ∀ (a0 : Nat) (x1 : Int32) (x2 : Int32) (x3 : Int32) (x4 : Int32), G Γ (mkI σ) 0 0 5 [(0, .ref a0), (1, .int x1), (2, .int x2), (3, .int x3), (4, .int x4)] [] σ (k a0 x1 x2 x3 x4)) (a0 : Nat) (x1 : Int32) (x2 : Int32) (x4 : Int32) (t0 : Int32) : G Γ (mkI σ) 0 0 57 [(0, .ref a0), (1, .int x1), (2, .int x2), (4, .int x4)] [.int t0] σ (b_M_recordsOf_57 σ k a0 x1 x2 x4 t0) := by
  unfold b_M_recordsOf_57
  refine g_iconst (pc := 57) (v := 1) K d_M_recordsOf_57 (by decide) ?_
  refine g_goto (pc := 58) (tgt := 62) K d_M_recordsOf_58 (by decide) ?_
  exact gb_M_recordsOf_62 K S T hI σ k hk a0 x1 x2 x4 t0 (1 : Int32)
def b_M_recordsOf_5 (σ : Sg) : Nat → Nat → Int32 → Int32 → Int32 → Int32 → Option Int32
  | 0 => fun _ _ _ _ _ => none
  | n + 1 => fun a0 x1 x2 x3 x4 => (if (3 : Int32) ≤ x4 then (some x3) else (if a0 < σ.1 ∧ kd a0 = 4 then rc (g_r σ a0 16) none (fun b1 => (if (b1 < σ.1 ∧ kd b1 = 11) ∧ inb x4 (ln b1) = true then (if (g_i σ b1 x4.toNatClampNeg) = 0 then (b_M_recordsOf_61 σ (b_M_recordsOf_5 σ n) a0 x1 x2 x4 x3) else (if a0 < σ.1 ∧ kd a0 = 4 then rc (g_r σ a0 21) none (fun b2 => (if (b2 < σ.1 ∧ kd b2 = 10) ∧ inb (((61 : Int32) * x4) + x1) (ln b2) = true then (if (g_i σ b2 (((61 : Int32) * x4) + x1).toNatClampNeg) < 0 then (b_M_recordsOf_61 σ (b_M_recordsOf_5 σ n) a0 x1 x2 x4 x3) else (if x2 < 0 then (b_M_recordsOf_57 σ (b_M_recordsOf_5 σ n) a0 x1 x2 x4 x3) else (if a0 < σ.1 ∧ kd a0 = 4 then rc (g_r σ a0 21) none (fun b3 => (if (b3 < σ.1 ∧ kd b3 = 10) ∧ inb (((61 : Int32) * x4) + x1) (ln b3) = true then (if (g_i σ b3 (((61 : Int32) * x4) + x1).toNatClampNeg) = x2 then (b_M_recordsOf_57 σ (b_M_recordsOf_5 σ n) a0 x1 x2 x4 x3) else (b_M_recordsOf_61 σ (b_M_recordsOf_5 σ n) a0 x1 x2 x4 x3)) else none)) else none))) else none)) else none)) else none)) else none))
set_option maxRecDepth 100000 in
set_option maxHeartbeats 4000000 in
theorem gb_M_recordsOf_5 {Γ : GX} (K : Cx Γ "TapirGroupModel" prog_6_method_37_code 5 rm_M_recordsOf) (S : Std Γ (some .int)) (T : Tb Γ []) (hI : y_M_recordsOf.name = "<init>" → Ini Γ) (σ : Sg) (n : Nat) : ∀ (a0 : Nat) (x1 : Int32) (x2 : Int32) (x3 : Int32) (x4 : Int32), G Γ (mkI σ) 0 0 5 [(0, .ref a0), (1, .int x1), (2, .int x2), (3, .int x3), (4, .int x4)] [] σ (b_M_recordsOf_5 σ n a0 x1 x2 x3 x4) := by
  induction n with
  | zero =>
    intro a0 x1 x2 x3 x4
    exact g_none
  | succ n ih =>
    intro a0 x1 x2 x3 x4
    rw [b_M_recordsOf_5]
    refine g_iload (pc := 5) (j := 4) K d_M_recordsOf_5 rfl ?_
    refine g_iconst (pc := 7) (v := 3) K d_M_recordsOf_7 (by decide) ?_
    refine g_icmp_ge (pc := 8) (tgt := 70) K d_M_recordsOf_8 (by decide) (fun _ => ?_) (fun _ => ?_)
    · refine g_iload_n (pc := 70) (j := 3) K d_M_recordsOf_70 rfl ?_
      exact g_iret (pc := 71) K S rfl d_M_recordsOf_71 (by decide) (by decide) rfl
    · refine g_iload_n (pc := 11) (j := 3) K d_M_recordsOf_11 rfl ?_
      refine g_aload_n (pc := 12) (j := 0) K d_M_recordsOf_12 rfl ?_
      refine g_getR (pc := 13) K fl_M_53 d_M_recordsOf_13 (fun _ => ?_) (fun b1 _ => ?_)
      · exact g_none
      · refine g_iload (pc := 16) (j := 4) K d_M_recordsOf_16 rfl ?_
        refine g_zald (pc := 18) K d_M_recordsOf_18 ?_
        refine g_if_eq (pc := 19) (tgt := 61) K d_M_recordsOf_19 (by decide) (fun _ => ?_) (fun _ => ?_)
        · refine g_sub (L' := [(0, .ref a0), (1, .int x1), (2, .int x2), (4, .int x4)]) [0, 1, 2, 4] rfl ?_
          exact gb_M_recordsOf_61 K S T hI σ (b_M_recordsOf_5 σ n) ih a0 x1 x2 x4 x3
        · refine g_aload_n (pc := 22) (j := 0) K d_M_recordsOf_22 rfl ?_
          refine g_getR (pc := 23) K fl_M_68 d_M_recordsOf_23 (fun _ => ?_) (fun b2 _ => ?_)
          · exact g_none
          · refine g_bipush (pc := 26) (v := 61) K d_M_recordsOf_26 (by decide) ?_
            refine g_iload (pc := 28) (j := 4) K d_M_recordsOf_28 rfl ?_
            refine g_imul (pc := 30) K d_M_recordsOf_30 ?_
            refine g_iload_n (pc := 31) (j := 1) K d_M_recordsOf_31 rfl ?_
            refine g_iadd (pc := 32) K d_M_recordsOf_32 ?_
            refine g_iald (pc := 33) K d_M_recordsOf_33 ?_
            refine g_if_lt (pc := 34) (tgt := 61) K d_M_recordsOf_34 (by decide) (fun _ => ?_) (fun _ => ?_)
            · refine g_sub (L' := [(0, .ref a0), (1, .int x1), (2, .int x2), (4, .int x4)]) [0, 1, 2, 4] rfl ?_
              exact gb_M_recordsOf_61 K S T hI σ (b_M_recordsOf_5 σ n) ih a0 x1 x2 x4 x3
            · refine g_iload_n (pc := 37) (j := 2) K d_M_recordsOf_37 rfl ?_
              refine g_if_lt (pc := 38) (tgt := 57) K d_M_recordsOf_38 (by decide) (fun _ => ?_) (fun _ => ?_)
              · refine g_sub (L' := [(0, .ref a0), (1, .int x1), (2, .int x2), (4, .int x4)]) [0, 1, 2, 4] rfl ?_
                exact gb_M_recordsOf_57 K S T hI σ (b_M_recordsOf_5 σ n) ih a0 x1 x2 x4 x3
              · refine g_aload_n (pc := 41) (j := 0) K d_M_recordsOf_41 rfl ?_
                refine g_getR (pc := 42) K fl_M_68 d_M_recordsOf_42 (fun _ => ?_) (fun b3 _ => ?_)
                · exact g_none
                · refine g_bipush (pc := 45) (v := 61) K d_M_recordsOf_45 (by decide) ?_
                  refine g_iload (pc := 47) (j := 4) K d_M_recordsOf_47 rfl ?_
                  refine g_imul (pc := 49) K d_M_recordsOf_49 ?_
                  refine g_iload_n (pc := 50) (j := 1) K d_M_recordsOf_50 rfl ?_
                  refine g_iadd (pc := 51) K d_M_recordsOf_51 ?_
                  refine g_iald (pc := 52) K d_M_recordsOf_52 ?_
                  refine g_iload_n (pc := 53) (j := 2) K d_M_recordsOf_53 rfl ?_
                  refine g_icmp_ne (pc := 54) (tgt := 61) K d_M_recordsOf_54 (by decide) (fun _ => ?_) (fun _ => ?_)
                  · refine g_sub (L' := [(0, .ref a0), (1, .int x1), (2, .int x2), (4, .int x4)]) [0, 1, 2, 4] rfl ?_
                    exact gb_M_recordsOf_61 K S T hI σ (b_M_recordsOf_5 σ n) ih a0 x1 x2 x4 x3
                  · refine g_sub (L' := [(0, .ref a0), (1, .int x1), (2, .int x2), (4, .int x4)]) [0, 1, 2, 4] rfl ?_
                    exact gb_M_recordsOf_57 K S T hI σ (b_M_recordsOf_5 σ n) ih a0 x1 x2 x4 x3
def f_M_recordsOf (σ : Sg) (a0 : Nat) (x1 : Int32) (x2 : Int32) : Option Int32 := (b_M_recordsOf_5 σ 1000 a0 x1 x2 (0 : Int32) (0 : Int32))
set_option maxRecDepth 100000 in
set_option maxHeartbeats 4000000 in
theorem k_M_recordsOf (l : Launch) (hl : l.stackTraces = false) (σ : Sg) (a0 : Nat) (x1 : Int32) (x2 : Int32) (r : Int32) (h : f_M_recordsOf σ a0 x1 x2 = some r) : Con l y_M_recordsOf (.code y_M_recordsOf prog_6_method_37_code 5 (some .int)) rm_M_recordsOf [.ref a0, .int x1, .int x2] σ ((mkI σ) r) := by
  refine Con.of (mk := (mkI σ)) (o := f_M_recordsOf σ a0 x1 x2) (z := r) (L0 := [(0, .ref a0), (1, .int x1), (2, .int x2)]) (bytes := prog_6_method_37_code) (maxL := 5) (ret := (some .int)) (hh := []) hl (by decide +kernel) (Or.inl ⟨rfl, rfl⟩) (by simp [Value.category]) (Nat.le_of_ble_eq_true rfl) rfl (fun Γ K S T hI => ?_) h rfl
  unfold f_M_recordsOf
  refine g_iconst (pc := 0) (v := 0) K d_M_recordsOf_0 (by decide) ?_
  refine g_istore_n (pc := 1) (L' := [(3, .int (0 : Int32)), (0, .ref a0), (1, .int x1), (2, .int x2)]) K d_M_recordsOf_1 (by decide) rfl ?_
  refine g_iconst (pc := 2) (v := 0) K d_M_recordsOf_2 (by decide) ?_
  refine g_istore (pc := 3) (L' := [(4, .int (0 : Int32)), (3, .int (0 : Int32)), (0, .ref a0), (1, .int x1), (2, .int x2)]) K d_M_recordsOf_3 (by decide) rfl ?_
  refine g_sub (L' := [(0, .ref a0), (1, .int x1), (2, .int x2), (3, .int (0 : Int32)), (4, .int (0 : Int32))]) [2, 3, 4, 1, 0] rfl ?_
  exact gb_M_recordsOf_5 K S T hI σ 1000 a0 x1 x2 (0 : Int32) (0 : Int32)
-- TapirGroupModel.isAppliedAtSome(I)Z
def y_M_isAppliedAtSome : MethodName := ⟨"TapirGroupModel", "isAppliedAtSome", "(I)Z"⟩
abbrev rm_M_isAppliedAtSome : Room := { frames := 0, cells := 0, slots := 0, locals := 0 }
theorem d_M_isAppliedAtSome_0 : decode prog_6_method_33_code 0 = .ok (.iconst 0, 1) := by decide +kernel
theorem d_M_isAppliedAtSome_1 : decode prog_6_method_33_code 1 = .ok (.istore_n 2, 1) := by decide +kernel
theorem d_M_isAppliedAtSome_2 : decode prog_6_method_33_code 2 = .ok (.iload_n 2, 1) := by decide +kernel
theorem d_M_isAppliedAtSome_3 : decode prog_6_method_33_code 3 = .ok (.iconst 3, 1) := by decide +kernel
theorem d_M_isAppliedAtSome_4 : decode prog_6_method_33_code 4 = .ok (.if_icmp .ge 34, 3) := by decide +kernel
theorem d_M_isAppliedAtSome_7 : decode prog_6_method_33_code 7 = .ok (.aload_n 0, 1) := by decide +kernel
theorem d_M_isAppliedAtSome_8 : decode prog_6_method_33_code 8 = .ok (.getfield 53, 3) := by decide +kernel
theorem d_M_isAppliedAtSome_11 : decode prog_6_method_33_code 11 = .ok (.iload_n 2, 1) := by decide +kernel
theorem d_M_isAppliedAtSome_12 : decode prog_6_method_33_code 12 = .ok (.baload, 1) := by decide +kernel
theorem d_M_isAppliedAtSome_13 : decode prog_6_method_33_code 13 = .ok (.ifCond .eq 19, 3) := by decide +kernel
theorem d_M_isAppliedAtSome_16 : decode prog_6_method_33_code 16 = .ok (.aload_n 0, 1) := by decide +kernel
theorem d_M_isAppliedAtSome_17 : decode prog_6_method_33_code 17 = .ok (.getfield 74, 3) := by decide +kernel
theorem d_M_isAppliedAtSome_20 : decode prog_6_method_33_code 20 = .ok (.bipush 61, 2) := by decide +kernel
theorem d_M_isAppliedAtSome_22 : decode prog_6_method_33_code 22 = .ok (.iload_n 2, 1) := by decide +kernel
theorem d_M_isAppliedAtSome_23 : decode prog_6_method_33_code 23 = .ok (.imul, 1) := by decide +kernel
theorem d_M_isAppliedAtSome_24 : decode prog_6_method_33_code 24 = .ok (.iload_n 1, 1) := by decide +kernel
theorem d_M_isAppliedAtSome_25 : decode prog_6_method_33_code 25 = .ok (.iadd, 1) := by decide +kernel
theorem d_M_isAppliedAtSome_26 : decode prog_6_method_33_code 26 = .ok (.baload, 1) := by decide +kernel
theorem d_M_isAppliedAtSome_27 : decode prog_6_method_33_code 27 = .ok (.ifCond .eq 5, 3) := by decide +kernel
theorem d_M_isAppliedAtSome_30 : decode prog_6_method_33_code 30 = .ok (.iconst 1, 1) := by decide +kernel
theorem d_M_isAppliedAtSome_31 : decode prog_6_method_33_code 31 = .ok (.ireturn, 1) := by decide +kernel
theorem d_M_isAppliedAtSome_32 : decode prog_6_method_33_code 32 = .ok (.iinc 2 1, 3) := by decide +kernel
theorem d_M_isAppliedAtSome_35 : decode prog_6_method_33_code 35 = .ok (.goto (-33), 3) := by decide +kernel
theorem d_M_isAppliedAtSome_38 : decode prog_6_method_33_code 38 = .ok (.iconst 0, 1) := by decide +kernel
theorem d_M_isAppliedAtSome_39 : decode prog_6_method_33_code 39 = .ok (.ireturn, 1) := by decide +kernel
theorem cn_M_isAppliedAtSome : CN y_M_isAppliedAtSome (.code y_M_isAppliedAtSome prog_6_method_33_code 3 (some .boolean)) prog_6_method_33_code 3 (some .boolean) [] 1 := ⟨Or.inl ⟨rfl, rfl⟩, mw_784, mw_5, ⟨by decide +kernel, by decide +kernel⟩, by decide +kernel⟩
def b_M_isAppliedAtSome_32 (σ : Sg) (k : Nat → Int32 → Int32 → Option Int32) (a0 : Nat) (x1 : Int32) (x2 : Int32) : Option Int32 := (k a0 x1 (x2 + 1))
set_option maxRecDepth 100000 in
set_option maxHeartbeats 4000000 in
theorem gb_M_isAppliedAtSome_32 {Γ : GX} (K : Cx Γ "TapirGroupModel" prog_6_method_33_code 3 rm_M_isAppliedAtSome) (S : Std Γ (some .boolean)) (T : Tb Γ []) (hI : y_M_isAppliedAtSome.name = "<init>" → Ini Γ) (σ : Sg) (k : Nat → Int32 → Int32 → Option Int32) (hk : ∀ (a0 : Nat) (x1 : Int32) (x2 : Int32), G Γ (mkI σ) 0 0 2 [(0, .ref a0), (1, .int x1), (2, .int x2)] [] σ (k a0 x1 x2)) (a0 : Nat) (x1 : Int32) (x2 : Int32) : G Γ (mkI σ) 0 0 32 [(0, .ref a0), (1, .int x1), (2, .int x2)] [] σ (b_M_isAppliedAtSome_32 σ k a0 x1 x2) := by
  unfold b_M_isAppliedAtSome_32
  refine g_iinc (pc := 32) (j := 2) (v := (x2 + 1)) (L' := [(2, .int (x2 + 1)), (0, .ref a0), (1, .int x1)]) K d_M_isAppliedAtSome_32 rfl (by rfl) (by decide) rfl ?_
  refine g_goto (pc := 35) (tgt := 2) K d_M_isAppliedAtSome_35 (by decide) ?_
  refine g_sub (L' := [(0, .ref a0), (1, .int x1), (2, .int (x2 + 1))]) [1, 2, 0] rfl ?_
  exact hk a0 x1 (x2 + 1)
def b_M_isAppliedAtSome_2 (σ : Sg) : Nat → Nat → Int32 → Int32 → Option Int32
  | 0 => fun _ _ _ => none
  | n + 1 => fun a0 x1 x2 => (if (3 : Int32) ≤ x2 then (some (0 : Int32)) else (if a0 < σ.1 ∧ kd a0 = 4 then rc (g_r σ a0 16) none (fun b1 => (if (b1 < σ.1 ∧ kd b1 = 11) ∧ inb x2 (ln b1) = true then (if (g_i σ b1 x2.toNatClampNeg) = 0 then (b_M_isAppliedAtSome_32 σ (b_M_isAppliedAtSome_2 σ n) a0 x1 x2) else (if a0 < σ.1 ∧ kd a0 = 4 then rc (g_r σ a0 23) none (fun b2 => (if (b2 < σ.1 ∧ kd b2 = 11) ∧ inb (((61 : Int32) * x2) + x1) (ln b2) = true then (if (g_i σ b2 (((61 : Int32) * x2) + x1).toNatClampNeg) = 0 then (b_M_isAppliedAtSome_32 σ (b_M_isAppliedAtSome_2 σ n) a0 x1 x2) else (some (1 : Int32))) else none)) else none)) else none)) else none))
set_option maxRecDepth 100000 in
set_option maxHeartbeats 4000000 in
theorem gb_M_isAppliedAtSome_2 {Γ : GX} (K : Cx Γ "TapirGroupModel" prog_6_method_33_code 3 rm_M_isAppliedAtSome) (S : Std Γ (some .boolean)) (T : Tb Γ []) (hI : y_M_isAppliedAtSome.name = "<init>" → Ini Γ) (σ : Sg) (n : Nat) : ∀ (a0 : Nat) (x1 : Int32) (x2 : Int32), G Γ (mkI σ) 0 0 2 [(0, .ref a0), (1, .int x1), (2, .int x2)] [] σ (b_M_isAppliedAtSome_2 σ n a0 x1 x2) := by
  induction n with
  | zero =>
    intro a0 x1 x2
    exact g_none
  | succ n ih =>
    intro a0 x1 x2
    rw [b_M_isAppliedAtSome_2]
    refine g_iload_n (pc := 2) (j := 2) K d_M_isAppliedAtSome_2 rfl ?_
    refine g_iconst (pc := 3) (v := 3) K d_M_isAppliedAtSome_3 (by decide) ?_
    refine g_icmp_ge (pc := 4) (tgt := 38) K d_M_isAppliedAtSome_4 (by decide) (fun _ => ?_) (fun _ => ?_)
    · refine g_iconst (pc := 38) (v := 0) K d_M_isAppliedAtSome_38 (by decide) ?_
      exact g_iret (pc := 39) K S rfl d_M_isAppliedAtSome_39 (by decide) (by decide) rfl
    · refine g_aload_n (pc := 7) (j := 0) K d_M_isAppliedAtSome_7 rfl ?_
      refine g_getR (pc := 8) K fl_M_53 d_M_isAppliedAtSome_8 (fun _ => ?_) (fun b1 _ => ?_)
      · exact g_none
      · refine g_iload_n (pc := 11) (j := 2) K d_M_isAppliedAtSome_11 rfl ?_
        refine g_zald (pc := 12) K d_M_isAppliedAtSome_12 ?_
        refine g_if_eq (pc := 13) (tgt := 32) K d_M_isAppliedAtSome_13 (by decide) (fun _ => ?_) (fun _ => ?_)
        · exact gb_M_isAppliedAtSome_32 K S T hI σ (b_M_isAppliedAtSome_2 σ n) ih a0 x1 x2
        · refine g_aload_n (pc := 16) (j := 0) K d_M_isAppliedAtSome_16 rfl ?_
          refine g_getR (pc := 17) K fl_M_74 d_M_isAppliedAtSome_17 (fun _ => ?_) (fun b2 _ => ?_)
          · exact g_none
          · refine g_bipush (pc := 20) (v := 61) K d_M_isAppliedAtSome_20 (by decide) ?_
            refine g_iload_n (pc := 22) (j := 2) K d_M_isAppliedAtSome_22 rfl ?_
            refine g_imul (pc := 23) K d_M_isAppliedAtSome_23 ?_
            refine g_iload_n (pc := 24) (j := 1) K d_M_isAppliedAtSome_24 rfl ?_
            refine g_iadd (pc := 25) K d_M_isAppliedAtSome_25 ?_
            refine g_zald (pc := 26) K d_M_isAppliedAtSome_26 ?_
            refine g_if_eq (pc := 27) (tgt := 32) K d_M_isAppliedAtSome_27 (by decide) (fun _ => ?_) (fun _ => ?_)
            · exact gb_M_isAppliedAtSome_32 K S T hI σ (b_M_isAppliedAtSome_2 σ n) ih a0 x1 x2
            · refine g_iconst (pc := 30) (v := 1) K d_M_isAppliedAtSome_30 (by decide) ?_
              exact g_iret (pc := 31) K S rfl d_M_isAppliedAtSome_31 (by decide) (by decide) rfl
def f_M_isAppliedAtSome (σ : Sg) (a0 : Nat) (x1 : Int32) : Option Int32 := (b_M_isAppliedAtSome_2 σ 1000 a0 x1 (0 : Int32))
set_option maxRecDepth 100000 in
set_option maxHeartbeats 4000000 in
theorem k_M_isAppliedAtSome (l : Launch) (hl : l.stackTraces = false) (σ : Sg) (a0 : Nat) (x1 : Int32) (r : Int32) (h : f_M_isAppliedAtSome σ a0 x1 = some r) : Con l y_M_isAppliedAtSome (.code y_M_isAppliedAtSome prog_6_method_33_code 3 (some .boolean)) rm_M_isAppliedAtSome [.ref a0, .int x1] σ ((mkI σ) r) := by
  refine Con.of (mk := (mkI σ)) (o := f_M_isAppliedAtSome σ a0 x1) (z := r) (L0 := [(0, .ref a0), (1, .int x1)]) (bytes := prog_6_method_33_code) (maxL := 3) (ret := (some .boolean)) (hh := []) hl (by decide +kernel) (Or.inl ⟨rfl, rfl⟩) (by simp [Value.category]) (Nat.le_of_ble_eq_true rfl) rfl (fun Γ K S T hI => ?_) h rfl
  unfold f_M_isAppliedAtSome
  refine g_iconst (pc := 0) (v := 0) K d_M_isAppliedAtSome_0 (by decide) ?_
  refine g_istore_n (pc := 1) (L' := [(2, .int (0 : Int32)), (0, .ref a0), (1, .int x1)]) K d_M_isAppliedAtSome_1 (by decide) rfl ?_
  refine g_sub (L' := [(0, .ref a0), (1, .int x1), (2, .int (0 : Int32))]) [1, 2, 0] rfl ?_
  exact gb_M_isAppliedAtSome_2 K S T hI σ 1000 a0 x1 (0 : Int32)
-- TapirGroupModel.isDroppedAtSome(I)Z
def y_M_isDroppedAtSome : MethodName := ⟨"TapirGroupModel", "isDroppedAtSome", "(I)Z"⟩
abbrev rm_M_isDroppedAtSome : Room := { frames := 0, cells := 0, slots := 0, locals := 0 }
theorem d_M_isDroppedAtSome_0 : decode prog_6_method_34_code 0 = .ok (.iconst 0, 1) := by decide +kernel
theorem d_M_isDroppedAtSome_1 : decode prog_6_method_34_code 1 = .ok (.istore_n 2, 1) := by decide +kernel
theorem d_M_isDroppedAtSome_2 : decode prog_6_method_34_code 2 = .ok (.iload_n 2, 1) := by decide +kernel
theorem d_M_isDroppedAtSome_3 : decode prog_6_method_34_code 3 = .ok (.iconst 3, 1) := by decide +kernel
theorem d_M_isDroppedAtSome_4 : decode prog_6_method_34_code 4 = .ok (.if_icmp .ge 34, 3) := by decide +kernel
theorem d_M_isDroppedAtSome_7 : decode prog_6_method_34_code 7 = .ok (.aload_n 0, 1) := by decide +kernel
theorem d_M_isDroppedAtSome_8 : decode prog_6_method_34_code 8 = .ok (.getfield 53, 3) := by decide +kernel
theorem d_M_isDroppedAtSome_11 : decode prog_6_method_34_code 11 = .ok (.iload_n 2, 1) := by decide +kernel
theorem d_M_isDroppedAtSome_12 : decode prog_6_method_34_code 12 = .ok (.baload, 1) := by decide +kernel
theorem d_M_isDroppedAtSome_13 : decode prog_6_method_34_code 13 = .ok (.ifCond .eq 19, 3) := by decide +kernel
theorem d_M_isDroppedAtSome_16 : decode prog_6_method_34_code 16 = .ok (.aload_n 0, 1) := by decide +kernel
theorem d_M_isDroppedAtSome_17 : decode prog_6_method_34_code 17 = .ok (.getfield 77, 3) := by decide +kernel
theorem d_M_isDroppedAtSome_20 : decode prog_6_method_34_code 20 = .ok (.bipush 61, 2) := by decide +kernel
theorem d_M_isDroppedAtSome_22 : decode prog_6_method_34_code 22 = .ok (.iload_n 2, 1) := by decide +kernel
theorem d_M_isDroppedAtSome_23 : decode prog_6_method_34_code 23 = .ok (.imul, 1) := by decide +kernel
theorem d_M_isDroppedAtSome_24 : decode prog_6_method_34_code 24 = .ok (.iload_n 1, 1) := by decide +kernel
theorem d_M_isDroppedAtSome_25 : decode prog_6_method_34_code 25 = .ok (.iadd, 1) := by decide +kernel
theorem d_M_isDroppedAtSome_26 : decode prog_6_method_34_code 26 = .ok (.baload, 1) := by decide +kernel
theorem d_M_isDroppedAtSome_27 : decode prog_6_method_34_code 27 = .ok (.ifCond .eq 5, 3) := by decide +kernel
theorem d_M_isDroppedAtSome_30 : decode prog_6_method_34_code 30 = .ok (.iconst 1, 1) := by decide +kernel
theorem d_M_isDroppedAtSome_31 : decode prog_6_method_34_code 31 = .ok (.ireturn, 1) := by decide +kernel
theorem d_M_isDroppedAtSome_32 : decode prog_6_method_34_code 32 = .ok (.iinc 2 1, 3) := by decide +kernel
theorem d_M_isDroppedAtSome_35 : decode prog_6_method_34_code 35 = .ok (.goto (-33), 3) := by decide +kernel
theorem d_M_isDroppedAtSome_38 : decode prog_6_method_34_code 38 = .ok (.iconst 0, 1) := by decide +kernel
theorem d_M_isDroppedAtSome_39 : decode prog_6_method_34_code 39 = .ok (.ireturn, 1) := by decide +kernel
theorem cn_M_isDroppedAtSome : CN y_M_isDroppedAtSome (.code y_M_isDroppedAtSome prog_6_method_34_code 3 (some .boolean)) prog_6_method_34_code 3 (some .boolean) [] 1 := ⟨Or.inl ⟨rfl, rfl⟩, mw_788, mw_5, ⟨by decide +kernel, by decide +kernel⟩, by decide +kernel⟩
def b_M_isDroppedAtSome_32 (σ : Sg) (k : Nat → Int32 → Int32 → Option Int32) (a0 : Nat) (x1 : Int32) (x2 : Int32) : Option Int32 := (k a0 x1 (x2 + 1))
set_option maxRecDepth 100000 in
set_option maxHeartbeats 4000000 in
theorem gb_M_isDroppedAtSome_32 {Γ : GX} (K : Cx Γ "TapirGroupModel" prog_6_method_34_code 3 rm_M_isDroppedAtSome) (S : Std Γ (some .boolean)) (T : Tb Γ []) (hI : y_M_isDroppedAtSome.name = "<init>" → Ini Γ) (σ : Sg) (k : Nat → Int32 → Int32 → Option Int32) (hk : ∀ (a0 : Nat) (x1 : Int32) (x2 : Int32), G Γ (mkI σ) 0 0 2 [(0, .ref a0), (1, .int x1), (2, .int x2)] [] σ (k a0 x1 x2)) (a0 : Nat) (x1 : Int32) (x2 : Int32) : G Γ (mkI σ) 0 0 32 [(0, .ref a0), (1, .int x1), (2, .int x2)] [] σ (b_M_isDroppedAtSome_32 σ k a0 x1 x2) := by
  unfold b_M_isDroppedAtSome_32
  refine g_iinc (pc := 32) (j := 2) (v := (x2 + 1)) (L' := [(2, .int (x2 + 1)), (0, .ref a0), (1, .int x1)]) K d_M_isDroppedAtSome_32 rfl (by rfl) (by decide) rfl ?_
  refine g_goto (pc := 35) (tgt := 2) K d_M_isDroppedAtSome_35 (by decide) ?_
  refine g_sub (L' := [(0, .ref a0), (1, .int x1), (2, .int (x2 + 1))]) [1, 2, 0] rfl ?_
  exact hk a0 x1 (x2 + 1)
def b_M_isDroppedAtSome_2 (σ : Sg) : Nat → Nat → Int32 → Int32 → Option Int32
  | 0 => fun _ _ _ => none
  | n + 1 => fun a0 x1 x2 => (if (3 : Int32) ≤ x2 then (some (0 : Int32)) else (if a0 < σ.1 ∧ kd a0 = 4 then rc (g_r σ a0 16) none (fun b1 => (if (b1 < σ.1 ∧ kd b1 = 11) ∧ inb x2 (ln b1) = true then (if (g_i σ b1 x2.toNatClampNeg) = 0 then (b_M_isDroppedAtSome_32 σ (b_M_isDroppedAtSome_2 σ n) a0 x1 x2) else (if a0 < σ.1 ∧ kd a0 = 4 then rc (g_r σ a0 24) none (fun b2 => (if (b2 < σ.1 ∧ kd b2 = 11) ∧ inb (((61 : Int32) * x2) + x1) (ln b2) = true then (if (g_i σ b2 (((61 : Int32) * x2) + x1).toNatClampNeg) = 0 then (b_M_isDroppedAtSome_32 σ (b_M_isDroppedAtSome_2 σ n) a0 x1 x2) else (some (1 : Int32))) else none)) else none)) else none)) else none))
set_option maxRecDepth 100000 in
set_option maxHeartbeats 4000000 in
theorem gb_M_isDroppedAtSome_2 {Γ : GX} (K : Cx Γ "TapirGroupModel" prog_6_method_34_code 3 rm_M_isDroppedAtSome) (S : Std Γ (some .boolean)) (T : Tb Γ []) (hI : y_M_isDroppedAtSome.name = "<init>" → Ini Γ) (σ : Sg) (n : Nat) : ∀ (a0 : Nat) (x1 : Int32) (x2 : Int32), G Γ (mkI σ) 0 0 2 [(0, .ref a0), (1, .int x1), (2, .int x2)] [] σ (b_M_isDroppedAtSome_2 σ n a0 x1 x2) := by
  induction n with
  | zero =>
    intro a0 x1 x2
    exact g_none
  | succ n ih =>
    intro a0 x1 x2
    rw [b_M_isDroppedAtSome_2]
    refine g_iload_n (pc := 2) (j := 2) K d_M_isDroppedAtSome_2 rfl ?_
    refine g_iconst (pc := 3) (v := 3) K d_M_isDroppedAtSome_3 (by decide) ?_
    refine g_icmp_ge (pc := 4) (tgt := 38) K d_M_isDroppedAtSome_4 (by decide) (fun _ => ?_) (fun _ => ?_)
    · refine g_iconst (pc := 38) (v := 0) K d_M_isDroppedAtSome_38 (by decide) ?_
      exact g_iret (pc := 39) K S rfl d_M_isDroppedAtSome_39 (by decide) (by decide) rfl
    · refine g_aload_n (pc := 7) (j := 0) K d_M_isDroppedAtSome_7 rfl ?_
      refine g_getR (pc := 8) K fl_M_53 d_M_isDroppedAtSome_8 (fun _ => ?_) (fun b1 _ => ?_)
      · exact g_none
      · refine g_iload_n (pc := 11) (j := 2) K d_M_isDroppedAtSome_11 rfl ?_
        refine g_zald (pc := 12) K d_M_isDroppedAtSome_12 ?_
        refine g_if_eq (pc := 13) (tgt := 32) K d_M_isDroppedAtSome_13 (by decide) (fun _ => ?_) (fun _ => ?_)
        · exact gb_M_isDroppedAtSome_32 K S T hI σ (b_M_isDroppedAtSome_2 σ n) ih a0 x1 x2
        · refine g_aload_n (pc := 16) (j := 0) K d_M_isDroppedAtSome_16 rfl ?_
          refine g_getR (pc := 17) K fl_M_77 d_M_isDroppedAtSome_17 (fun _ => ?_) (fun b2 _ => ?_)
          · exact g_none
          · refine g_bipush (pc := 20) (v := 61) K d_M_isDroppedAtSome_20 (by decide) ?_
            refine g_iload_n (pc := 22) (j := 2) K d_M_isDroppedAtSome_22 rfl ?_
            refine g_imul (pc := 23) K d_M_isDroppedAtSome_23 ?_
            refine g_iload_n (pc := 24) (j := 1) K d_M_isDroppedAtSome_24 rfl ?_
            refine g_iadd (pc := 25) K d_M_isDroppedAtSome_25 ?_
            refine g_zald (pc := 26) K d_M_isDroppedAtSome_26 ?_
            refine g_if_eq (pc := 27) (tgt := 32) K d_M_isDroppedAtSome_27 (by decide) (fun _ => ?_) (fun _ => ?_)
            · exact gb_M_isDroppedAtSome_32 K S T hI σ (b_M_isDroppedAtSome_2 σ n) ih a0 x1 x2
            · refine g_iconst (pc := 30) (v := 1) K d_M_isDroppedAtSome_30 (by decide) ?_
              exact g_iret (pc := 31) K S rfl d_M_isDroppedAtSome_31 (by decide) (by decide) rfl
def f_M_isDroppedAtSome (σ : Sg) (a0 : Nat) (x1 : Int32) : Option Int32 := (b_M_isDroppedAtSome_2 σ 1000 a0 x1 (0 : Int32))
set_option maxRecDepth 100000 in
set_option maxHeartbeats 4000000 in
theorem k_M_isDroppedAtSome (l : Launch) (hl : l.stackTraces = false) (σ : Sg) (a0 : Nat) (x1 : Int32) (r : Int32) (h : f_M_isDroppedAtSome σ a0 x1 = some r) : Con l y_M_isDroppedAtSome (.code y_M_isDroppedAtSome prog_6_method_34_code 3 (some .boolean)) rm_M_isDroppedAtSome [.ref a0, .int x1] σ ((mkI σ) r) := by
  refine Con.of (mk := (mkI σ)) (o := f_M_isDroppedAtSome σ a0 x1) (z := r) (L0 := [(0, .ref a0), (1, .int x1)]) (bytes := prog_6_method_34_code) (maxL := 3) (ret := (some .boolean)) (hh := []) hl (by decide +kernel) (Or.inl ⟨rfl, rfl⟩) (by simp [Value.category]) (Nat.le_of_ble_eq_true rfl) rfl (fun Γ K S T hI => ?_) h rfl
  unfold f_M_isDroppedAtSome
  refine g_iconst (pc := 0) (v := 0) K d_M_isDroppedAtSome_0 (by decide) ?_
  refine g_istore_n (pc := 1) (L' := [(2, .int (0 : Int32)), (0, .ref a0), (1, .int x1)]) K d_M_isDroppedAtSome_1 (by decide) rfl ?_
  refine g_sub (L' := [(0, .ref a0), (1, .int x1), (2, .int (0 : Int32))]) [1, 2, 0] rfl ?_
  exact gb_M_isDroppedAtSome_2 K S T hI σ 1000 a0 x1 (0 : Int32)
-- TapirGroupModel.viewUp()I
def y_M_viewUp : MethodName := ⟨"TapirGroupModel", "viewUp", "()I"⟩
abbrev rm_M_viewUp : Room := { frames := 0, cells := 0, slots := 0, locals := 0 }
theorem d_M_viewUp_0 : decode prog_6_method_35_code 0 = .ok (.iconst 0, 1) := by decide +kernel
theorem d_M_viewUp_1 : decode prog_6_method_35_code 1 = .ok (.istore_n 1, 1) := by decide +kernel
theorem d_M_viewUp_2 : decode prog_6_method_35_code 2 = .ok (.iconst 0, 1) := by decide +kernel
theorem d_M_viewUp_3 : decode prog_6_method_35_code 3 = .ok (.istore_n 2, 1) := by decide +kernel
theorem d_M_viewUp_4 : decode prog_6_method_35_code 4 = .ok (.iload_n 2, 1) := by decide +kernel
theorem d_M_viewUp_5 : decode prog_6_method_35_code 5 = .ok (.iconst 3, 1) := by decide +kernel
theorem d_M_viewUp_6 : decode prog_6_method_35_code 6 = .ok (.if_icmp .ge 39, 3) := by decide +kernel
theorem d_M_viewUp_9 : decode prog_6_method_35_code 9 = .ok (.aload_n 0, 1) := by decide +kernel
theorem d_M_viewUp_10 : decode prog_6_method_35_code 10 = .ok (.getfield 53, 3) := by decide +kernel
theorem d_M_viewUp_13 : decode prog_6_method_35_code 13 = .ok (.iload_n 2, 1) := by decide +kernel
theorem d_M_viewUp_14 : decode prog_6_method_35_code 14 = .ok (.baload, 1) := by decide +kernel
theorem d_M_viewUp_15 : decode prog_6_method_35_code 15 = .ok (.ifCond .eq 22, 3) := by decide +kernel
theorem d_M_viewUp_18 : decode prog_6_method_35_code 18 = .ok (.aload_n 0, 1) := by decide +kernel
theorem d_M_viewUp_19 : decode prog_6_method_35_code 19 = .ok (.getfield 56, 3) := by decide +kernel
theorem d_M_viewUp_22 : decode prog_6_method_35_code 22 = .ok (.iload_n 2, 1) := by decide +kernel
theorem d_M_viewUp_23 : decode prog_6_method_35_code 23 = .ok (.iaload, 1) := by decide +kernel
theorem d_M_viewUp_24 : decode prog_6_method_35_code 24 = .ok (.iload_n 1, 1) := by decide +kernel
theorem d_M_viewUp_25 : decode prog_6_method_35_code 25 = .ok (.if_icmp .le 12, 3) := by decide +kernel
theorem d_M_viewUp_28 : decode prog_6_method_35_code 28 = .ok (.aload_n 0, 1) := by decide +kernel
theorem d_M_viewUp_29 : decode prog_6_method_35_code 29 = .ok (.getfield 56, 3) := by decide +kernel
theorem d_M_viewUp_32 : decode prog_6_method_35_code 32 = .ok (.iload_n 2, 1) := by decide +kernel
theorem d_M_viewUp_33 : decode prog_6_method_35_code 33 = .ok (.iaload, 1) := by decide +kernel
theorem d_M_viewUp_34 : decode prog_6_method_35_code 34 = .ok (.goto 4, 3) := by decide +kernel
theorem d_M_viewUp_37 : decode prog_6_method_35_code 37 = .ok (.iload_n 1, 1) := by decide +kernel
theorem d_M_viewUp_38 : decode prog_6_method_35_code 38 = .ok (.istore_n 1, 1) := by decide +kernel
theorem d_M_viewUp_39 : decode prog_6_method_35_code 39 = .ok (.iinc 2 1, 3) := by decide +kernel
theorem d_M_viewUp_42 : decode prog_6_method_35_code 42 = .ok (.goto (-38), 3) := by decide +kernel
theorem d_M_viewUp_45 : decode prog_6_method_35_code 45 = .ok (.iload_n 1, 1) := by decide +kernel
theorem d_M_viewUp_46 : decode prog_6_method_35_code 46 = .ok (.ireturn, 1) := by decide +kernel
theorem cn_M_viewUp : CN y_M_viewUp (.code y_M_viewUp prog_6_method_35_code 3 (some .int)) prog_6_method_35_code 3 (some .int) [] 0 := ⟨Or.inl ⟨rfl, rfl⟩, mw_796, mw_5, ⟨by decide +kernel, by decide +kernel⟩, by decide +kernel⟩
def b_M_viewUp_38 (σ : Sg) (k : Nat → Int32 → Int32 → Option Int32) (a0 : Nat) (x2 : Int32) (t0 : Int32) : Option Int32 := (k a0 t0 (x2 + 1))
set_option maxRecDepth 100000 in
set_option maxHeartbeats 4000000 in
theorem gb_M_viewUp_38 {Γ : GX} (K : Cx Γ "TapirGroupModel" prog_6_method_35_code 3 rm_M_viewUp) (S : Std Γ (some .int)) (T : Tb Γ []) (hI : y_M_viewUp.name = "<init>" → Ini Γ) (σ : Sg) (k : Nat → Int32 → Int32 → Option Int32) (hk : ∀ (a0 : Nat) (x1 : Int32) (x2 : Int32), G Γ (mkI σ) 0 0 4 [(0, .ref a0), (1, .int x1), (2, .int x2)] [] σ (k a0 x1 x2)) (a0 : Nat) (x2 : Int32) (t0 : Int32) : G Γ (mkI σ) 0 0 38 [(0, .ref a0), (2, .int x2)] [.int t0] σ (b_M_viewUp_38 σ k a0 x2 t0) := by
  unfold b_M_viewUp_38
  refine g_istore_n (pc := 38) (L' := [(1, .int t0), (0, .ref a0), (2, .int x2)]) K d_M_viewUp_38 (by decide) rfl ?_
  refine g_iinc (pc := 39) (j := 2) (v := (x2 + 1)) (L' := [(2, .int (x2 + 1)), (1, .int t0), (0, .ref a0)]) K d_M_viewUp_39 rfl (by rfl) (by decide) rfl ?_
  refine g_goto (pc := 42) (tgt := 4) K d_M_viewUp_42 (by decide) ?_
  refine g_sub (L' := [(0, .ref a0), (1, .int t0), (2, .int (x2 + 1))]) [2, 1, 0] rfl ?_
  exact hk a0 t0 (x2 + 1)
def b_M_viewUp_37 (σ : Sg) (k : Nat → Int32 → Int32 → Option Int32) (a0 : Nat) (x1 : Int32) (x2 : Int32) : Option Int32 := (b_M_viewUp_38 σ k a0 x2 x1)
set_option maxRecDepth 100000 in
set_option maxHeartbeats 4000000 in
theorem gb_M_viewUp_37 {Γ : GX} (K : Cx Γ "TapirGroupModel" prog_6_method_35_code 3 rm_M_viewUp) (S : Std Γ (some .int)) (T : Tb Γ []) (hI : y_M_viewUp.name = "<init>" → Ini Γ) (σ : Sg) (k : Nat → Int32 → Int32 → Option Int32) (hk : ∀ (a0 : Nat) (x1 : Int32) (x2 : Int32), G Γ (mkI σ) 0 0 4 [(0, .ref a0), (1, .int x1), (2, .int x2)] [] σ (k a0 x1 x2)) (a0 : Nat) (x1 : Int32) (x2 : Int32) : G Γ (mkI σ) 0 0 37 [(0, .ref a0), (1, .int x1), (2, .int x2)] [] σ (b_M_viewUp_37 σ k a0 x1 x2) := by
  unfold b_M_viewUp_37
  refine g_iload_n (pc := 37) (j := 1) K d_M_viewUp_37 rfl ?_
  refine g_sub (L' := [(0, .ref a0), (2, .int x2)]) [0, 2] rfl ?_
  exact gb_M_viewUp_38 K S T hI σ k hk a0 x2 x1
def b_M_viewUp_4 (σ : Sg) : Nat → Nat → Int32 → Int32 → Option Int32
  | 0 => fun _ _ _ => none
  | n + 1 => fun a0 x1 x2 => (if (3 : Int32) ≤ x2 then (some x1) else (if a0 < σ.1 ∧ kd a0 = 4 then rc (g_r σ a0 16) none (fun b1 => (if (b1 < σ.1 ∧ kd b1 = 11) ∧ inb x2 (ln b1) = true then (if (g_i σ b1 x2.toNatClampNeg) = 0 then (b_M_viewUp_37 σ (b_M_viewUp_4 σ n) a0 x1 x2) else (if a0 < σ.1 ∧ kd a0 = 4 then rc (g_r σ a0 17) none (fun b2 => (if (b2 < σ.1 ∧ kd b2 = 10) ∧ inb x2 (ln b2) = true then (if (g_i σ b2 x2.toNatClampNeg) ≤ x1 then (b_M_viewUp_37 σ (b_M_viewUp_4 σ n) a0 x1 x2) else (if a0 < σ.1 ∧ kd a0 = 4 then rc (g_r σ a0 17) none (fun b3 => (if (b3 < σ.1 ∧ kd b3 = 10) ∧ inb x2 (ln b3) = true then (b_M_viewUp_38 σ (b_M_viewUp_4 σ n) a0 x2 (g_i σ b3 x2.toNatClampNeg)) else none)) else none)) else none)) else none)) else none)) else none))
set_option maxRecDepth 100000 in
set_option maxHeartbeats 4000000 in
theorem gb_M_viewUp_4 {Γ : GX} (K : Cx Γ "TapirGroupModel" prog_6_method_35_code 3 rm_M_viewUp) (S : Std Γ (some .int)) (T : Tb Γ []) (hI : y_M_viewUp.name = "<init>" → Ini Γ) (σ : Sg) (n : Nat) : ∀ (a0 : Nat) (x1 : Int32) (x2 : Int32), G Γ (mkI σ) 0 0 4 [(0, .ref a0), (1, .int x1), (2, .int x2)] [] σ (b_M_viewUp_4 σ n a0 x1 x2) := by
  induction n with
  | zero =>
    intro a0 x1 x2
    exact g_none
  | succ n ih =>
    intro a0 x1 x2
    rw [b_M_viewUp_4]
    refine g_iload_n (pc := 4) (j := 2) K d_M_viewUp_4 rfl ?_
    refine g_iconst (pc := 5) (v := 3) K d_M_viewUp_5 (by decide) ?_
    refine g_icmp_ge (pc := 6) (tgt := 45) K d_M_viewUp_6 (by decide) (fun _ => ?_) (fun _ => ?_)
    · refine g_iload_n (pc := 45) (j := 1) K d_M_viewUp_45 rfl ?_
      exact g_iret (pc := 46) K S rfl d_M_viewUp_46 (by decide) (by decide) rfl
    · refine g_aload_n (pc := 9) (j := 0) K d_M_viewUp_9 rfl ?_
      refine g_getR (pc := 10) K fl_M_53 d_M_viewUp_10 (fun _ => ?_) (fun b1 _ => ?_)
      · exact g_none
      · refine g_iload_n (pc := 13) (j := 2) K d_M_viewUp_13 rfl ?_
        refine g_zald (pc := 14) K d_M_viewUp_14 ?_
        refine g_if_eq (pc := 15) (tgt := 37) K d_M_viewUp_15 (by decide) (fun _ => ?_) (fun _ => ?_)
        · exact gb_M_viewUp_37 K S T hI σ (b_M_viewUp_4 σ n) ih a0 x1 x2
        · refine g_aload_n (pc := 18) (j := 0) K d_M_viewUp_18 rfl ?_
          refine g_getR (pc := 19) K fl_M_56 d_M_viewUp_19 (fun _ => ?_) (fun b2 _ => ?_)
          · exact g_none
          · refine g_iload_n (pc := 22) (j := 2) K d_M_viewUp_22 rfl ?_
            refine g_iald (pc := 23) K d_M_viewUp_23 ?_
            refine g_iload_n (pc := 24) (j := 1) K d_M_viewUp_24 rfl ?_
            refine g_icmp_le (pc := 25) (tgt := 37) K d_M_viewUp_25 (by decide) (fun _ => ?_) (fun _ => ?_)
            · exact gb_M_viewUp_37 K S T hI σ (b_M_viewUp_4 σ n) ih a0 x1 x2
            · refine g_aload_n (pc := 28) (j := 0) K d_M_viewUp_28 rfl ?_
              refine g_getR (pc := 29) K fl_M_56 d_M_viewUp_29 (fun _ => ?_) (fun b3 _ => ?_)
              · exact g_none
              · refine g_iload_n (pc := 32) (j := 2) K d_M_viewUp_32 rfl ?_
                refine g_iald (pc := 33) K d_M_viewUp_33 ?_
                refine g_goto (pc := 34) (tgt := 38) K d_M_viewUp_34 (by decide) ?_
                refine g_sub (L' := [(0, .ref a0), (2, .int x2)]) [0, 2] rfl ?_
                exact gb_M_viewUp_38 K S T hI σ (b_M_viewUp_4 σ n) ih a0 x2 (g_i σ b3 x2.toNatClampNeg)
def f_M_viewUp (σ : Sg) (a0 : Nat) : Option Int32 := (b_M_viewUp_4 σ 1000 a0 (0 : Int32) (0 : Int32))
set_option maxRecDepth 100000 in
set_option maxHeartbeats 4000000 in
theorem k_M_viewUp (l : Launch) (hl : l.stackTraces = false) (σ : Sg) (a0 : Nat) (r : Int32) (h : f_M_viewUp σ a0 = some r) : Con l y_M_viewUp (.code y_M_viewUp prog_6_method_35_code 3 (some .int)) rm_M_viewUp [.ref a0] σ ((mkI σ) r) := by
  refine Con.of (mk := (mkI σ)) (o := f_M_viewUp σ a0) (z := r) (L0 := [(0, .ref a0)]) (bytes := prog_6_method_35_code) (maxL := 3) (ret := (some .int)) (hh := []) hl (by decide +kernel) (Or.inl ⟨rfl, rfl⟩) (by simp [Value.category]) (Nat.le_of_ble_eq_true rfl) rfl (fun Γ K S T hI => ?_) h rfl
  unfold f_M_viewUp
  refine g_iconst (pc := 0) (v := 0) K d_M_viewUp_0 (by decide) ?_
  refine g_istore_n (pc := 1) (L' := [(1, .int (0 : Int32)), (0, .ref a0)]) K d_M_viewUp_1 (by decide) rfl ?_
  refine g_iconst (pc := 2) (v := 0) K d_M_viewUp_2 (by decide) ?_
  refine g_istore_n (pc := 3) (L' := [(2, .int (0 : Int32)), (1, .int (0 : Int32)), (0, .ref a0)]) K d_M_viewUp_3 (by decide) rfl ?_
  refine g_sub (L' := [(0, .ref a0), (1, .int (0 : Int32)), (2, .int (0 : Int32))]) [2, 1, 0] rfl ?_
  exact gb_M_viewUp_4 K S T hI σ 1000 a0 (0 : Int32) (0 : Int32)
