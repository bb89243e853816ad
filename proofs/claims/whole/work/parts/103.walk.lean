-- TapirGroup.serves(I)Z
def y_G_serves : MethodName := ⟨"TapirGroup", "serves", "(I)Z"⟩
abbrev rm_G_serves : Room := { frames := 2, cells := 0, slots := 0, locals := 43 }
theorem d_G_serves_0 : decode prog_1_method_21_code 0 = .ok (.aload_n 0, 1) := by decide +kernel
theorem d_G_serves_1 : decode prog_1_method_21_code 1 = .ok (.getfield 11, 3) := by decide +kernel
theorem d_G_serves_4 : decode prog_1_method_21_code 4 = .ok (.iload_n 1, 1) := by decide +kernel
theorem d_G_serves_5 : decode prog_1_method_21_code 5 = .ok (.aaload, 1) := by decide +kernel
theorem d_G_serves_6 : decode prog_1_method_21_code 6 = .ok (.getfield 220, 3) := by decide +kernel
theorem d_G_serves_9 : decode prog_1_method_21_code 9 = .ok (.ifCond .eq 23, 3) := by decide +kernel
theorem d_G_serves_12 : decode prog_1_method_21_code 12 = .ok (.aload_n 0, 1) := by decide +kernel
theorem d_G_serves_13 : decode prog_1_method_21_code 13 = .ok (.getfield 11, 3) := by decide +kernel
theorem d_G_serves_16 : decode prog_1_method_21_code 16 = .ok (.iload_n 1, 1) := by decide +kernel
theorem d_G_serves_17 : decode prog_1_method_21_code 17 = .ok (.aaload, 1) := by decide +kernel
theorem d_G_serves_18 : decode prog_1_method_21_code 18 = .ok (.getfield 241, 3) := by decide +kernel
theorem d_G_serves_21 : decode prog_1_method_21_code 21 = .ok (.aload_n 0, 1) := by decide +kernel
theorem d_G_serves_22 : decode prog_1_method_21_code 22 = .ok (.invokevirtual 229, 3) := by decide +kernel
theorem d_G_serves_25 : decode prog_1_method_21_code 25 = .ok (.if_icmp .ne 7, 3) := by decide +kernel
theorem d_G_serves_28 : decode prog_1_method_21_code 28 = .ok (.iconst 1, 1) := by decide +kernel
theorem d_G_serves_29 : decode prog_1_method_21_code 29 = .ok (.goto 4, 3) := by decide +kernel
theorem d_G_serves_32 : decode prog_1_method_21_code 32 = .ok (.iconst 0, 1) := by decide +kernel
theorem d_G_serves_33 : decode prog_1_method_21_code 33 = .ok (.ireturn, 1) := by decide +kernel
theorem cn_G_serves : CN y_G_serves (.code y_G_serves prog_1_method_21_code 2 (some .boolean)) prog_1_method_21_code 2 (some .boolean) [] 1 := ⟨Or.inl ⟨rfl, rfl⟩, mw_327, mw_1, ⟨by decide +kernel, by decide +kernel⟩, by decide +kernel⟩
def b_G_serves_33 (σ : Sg)  (t0 : Int32) : Option Int32 := (if t0 = 0 ∨ t0 = 1 then some t0 else none)
set_option maxRecDepth 100000 in
set_option maxHeartbeats 4000000 in
theorem gb_G_serves_33 {Γ : GX} (K : Cx Γ "TapirGroup" prog_1_method_21_code 2 rm_G_serves) (S : Std Γ (some .boolean)) (T : Tb Γ []) (hI : y_G_serves.name = "<init>" → Ini Γ) (σ : Sg) (t0 : Int32) : G Γ (mkI σ) 0 0 33 [] [.int t0] σ (b_G_serves_33 σ t0) := by
  unfold b_G_serves_33
  exact g_zret (pc := 33) K S d_G_serves_33 (by decide) (by decide) rfl
def b_G_serves_32 (σ : Sg)   : Option Int32 := (b_G_serves_33 σ (0 : Int32))
set_option maxRecDepth 100000 in
set_option maxHeartbeats 4000000 in
theorem gb_G_serves_32 {Γ : GX} (K : Cx Γ "TapirGroup" prog_1_method_21_code 2 rm_G_serves) (S : Std Γ (some .boolean)) (T : Tb Γ []) (hI : y_G_serves.name = "<init>" → Ini Γ) (σ : Sg)  : G Γ (mkI σ) 0 0 32 [] [] σ (b_G_serves_32 σ ) := by
  unfold b_G_serves_32
  refine g_iconst (pc := 32) (v := 0) K d_G_serves_32 (by decide) ?_
  exact gb_G_serves_33 K S T hI σ (0 : Int32)
def f_G_serves (σ : Sg) (a0 : Nat) (x1 : Int32) : Option Int32 := (if a0 < σ.1 ∧ kd a0 = 3 then rc (g_r σ a0 0) none (fun b1 => (if (b1 < σ.1 ∧ kd b1 = 13) ∧ inb x1 (ln b1) = true then rc (g_r σ b1 x1.toNatClampNeg) none (fun b2 => (if b2 < σ.1 ∧ kd b2 = 1 then (if (g_i σ b2 0) = 0 then (b_G_serves_32 σ) else (if a0 < σ.1 ∧ kd a0 = 3 then rc (g_r σ a0 0) none (fun b3 => (if (b3 < σ.1 ∧ kd b3 = 13) ∧ inb x1 (ln b3) = true then rc (g_r σ b3 x1.toNatClampNeg) none (fun b4 => (if b4 < σ.1 ∧ kd b4 = 1 then (if a0 < σ.1 ∧ kd a0 = 3 then (f_G_groupView σ a0).bind (fun v5 => (if (g_i σ b4 1) = v5 then (b_G_serves_33 σ (1 : Int32)) else (b_G_serves_32 σ))) else none) else none)) else none)) else none)) else none)) else none)) else none)
set_option maxRecDepth 100000 in
set_option maxHeartbeats 4000000 in
theorem k_G_serves (l : Launch) (hl : l.stackTraces = false) (σ : Sg) (a0 : Nat) (x1 : Int32) (r : Int32) (h : f_G_serves σ a0 x1 = some r) : Con l y_G_serves (.code y_G_serves prog_1_method_21_code 2 (some .boolean)) rm_G_serves [.ref a0, .int x1] σ ((mkI σ) r) := by
  refine Con.of (mk := (mkI σ)) (o := f_G_serves σ a0 x1) (z := r) (L0 := [(0, .ref a0), (1, .int x1)]) (bytes := prog_1_method_21_code) (maxL := 2) (ret := (some .boolean)) (hh := []) hl (by decide +kernel) (Or.inl ⟨rfl, rfl⟩) (by simp [Value.category]) (Nat.le_of_ble_eq_true rfl) rfl (fun Γ K S T hI => ?_) h rfl
  unfold f_G_serves
  refine g_aload_n (pc := 0) (j := 0) K d_G_serves_0 rfl ?_
  refine g_getR (pc := 1) K fl_G_11 d_G_serves_1 (fun _ => ?_) (fun b1 _ => ?_)
  · exact g_none
  · refine g_iload_n (pc := 4) (j := 1) K d_G_serves_4 rfl ?_
    refine g_aald (pc := 5) (kq := 13) (t0 := 3) K (by decide) (fun _ => rfl) d_G_serves_5 (fun _ => ?_) (fun b2 _ => ?_)
    · exact g_none
    · refine g_getI (pc := 6) K fl_G_220 d_G_serves_6 ?_
      refine g_if_eq (pc := 9) (tgt := 32) K d_G_serves_9 (by decide) (fun _ => ?_) (fun _ => ?_)
      · refine g_sub (L' := []) [] rfl ?_
        exact gb_G_serves_32 K S T hI σ
      · refine g_aload_n (pc := 12) (j := 0) K d_G_serves_12 rfl ?_
        refine g_getR (pc := 13) K fl_G_11 d_G_serves_13 (fun _ => ?_) (fun b3 _ => ?_)
        · exact g_none
        · refine g_iload_n (pc := 16) (j := 1) K d_G_serves_16 rfl ?_
          refine g_aald (pc := 17) (kq := 13) (t0 := 3) K (by decide) (fun _ => rfl) d_G_serves_17 (fun _ => ?_) (fun b4 _ => ?_)
          · exact g_none
          · refine g_getI (pc := 18) K fl_G_241 d_G_serves_18 ?_
            refine g_aload_n (pc := 21) (j := 0) K d_G_serves_21 rfl ?_
            refine g_callV (pc := 22) (ci := 3) (a := a0) (vs := []) (st := [.int (g_i σ b4 1)]) (mkc := mkI σ) K rfl (by decide) cn_G_groupView (fun l hl r hr => k_G_groupView l hl _ _ r hr) mw_160 mw_162 ms_0 ⟨by decide, by decide, by decide, by decide⟩ d_G_serves_22 rfl rfl (Nat.le_of_ble_eq_true rfl) (fun v5 _ => ?_)
            change G Γ (mkI σ) 0 0 25 [(0, .ref a0), (1, .int x1)] [.int v5, .int (g_i σ b4 1)] σ _
            refine g_icmp_ne (pc := 25) (tgt := 32) K d_G_serves_25 (by decide) (fun _ => ?_) (fun _ => ?_)
            · refine g_sub (L' := []) [] rfl ?_
              exact gb_G_serves_32 K S T hI σ
            · refine g_iconst (pc := 28) (v := 1) K d_G_serves_28 (by decide) ?_
              refine g_goto (pc := 29) (tgt := 33) K d_G_serves_29 (by decide) ?_
              refine g_sub (L' := []) [] rfl ?_
              exact gb_G_serves_33 K S T hI σ (1 : Int32)
-- TapirGroup$Transaction.see(III)V
def y_T_see : MethodName := ⟨"TapirGroup$Transaction", "see", "(III)V"⟩
abbrev rm_T_see : Room := { frames := 0, cells := 0, slots := 0, locals := 0 }
theorem d_T_see_0 : decode prog_4_method_6_code 0 = .ok (.aload_n 0, 1) := by decide +kernel
theorem d_T_see_1 : decode prog_4_method_6_code 1 = .ok (.dup, 1) := by decide +kernel
theorem d_T_see_2 : decode prog_4_method_6_code 2 = .ok (.getfield 15, 3) := by decide +kernel
theorem d_T_see_5 : decode prog_4_method_6_code 5 = .ok (.iconst 1, 1) := by decide +kernel
theorem d_T_see_6 : decode prog_4_method_6_code 6 = .ok (.iload_n 1, 1) := by decide +kernel
theorem d_T_see_7 : decode prog_4_method_6_code 7 = .ok (.ishl, 1) := by decide +kernel
theorem d_T_see_8 : decode prog_4_method_6_code 8 = .ok (.ior, 1) := by decide +kernel
theorem d_T_see_9 : decode prog_4_method_6_code 9 = .ok (.putfield 15, 3) := by decide +kernel
theorem d_T_see_12 : decode prog_4_method_6_code 12 = .ok (.aload_n 0, 1) := by decide +kernel
theorem d_T_see_13 : decode prog_4_method_6_code 13 = .ok (.getfield 21, 3) := by decide +kernel
theorem d_T_see_16 : decode prog_4_method_6_code 16 = .ok (.iload_n 1, 1) := by decide +kernel
theorem d_T_see_17 : decode prog_4_method_6_code 17 = .ok (.iload_n 2, 1) := by decide +kernel
theorem d_T_see_18 : decode prog_4_method_6_code 18 = .ok (.iastore, 1) := by decide +kernel
theorem d_T_see_19 : decode prog_4_method_6_code 19 = .ok (.aload_n 0, 1) := by decide +kernel
theorem d_T_see_20 : decode prog_4_method_6_code 20 = .ok (.getfield 25, 3) := by decide +kernel
theorem d_T_see_23 : decode prog_4_method_6_code 23 = .ok (.iload_n 1, 1) := by decide +kernel
theorem d_T_see_24 : decode prog_4_method_6_code 24 = .ok (.iload_n 3, 1) := by decide +kernel
theorem d_T_see_25 : decode prog_4_method_6_code 25 = .ok (.iastore, 1) := by decide +kernel
theorem d_T_see_26 : decode prog_4_method_6_code 26 = .ok (.return_, 1) := by decide +kernel
theorem cn_T_see : CN y_T_see (.code y_T_see prog_4_method_6_code 4 none) prog_4_method_6_code 4 none [] 3 := ⟨Or.inl ⟨rfl, rfl⟩, mw_363, mw_11, ⟨by decide +kernel, by decide +kernel⟩, by decide +kernel⟩
def f_T_see (σ : Sg) (a0 : Nat) (x1 : Int32) (x2 : Int32) (x3 : Int32) : Option Sg := (if a0 < σ.1 ∧ kd a0 = 2 then (if a0 < σ.1 ∧ kd a0 = 2 then (wi (s_i σ a0 2 ((g_i σ a0 2) ||| ((1 : Int32) <<< (x1 &&& 31)))) (fun s1 => (if a0 < s1.1 ∧ kd a0 = 2 then rc (g_r s1 a0 4) none (fun b2 => (if (b2 < s1.1 ∧ kd b2 = 10) ∧ inb x1 (ln b2) = true then (wi (s_i s1 b2 x1.toNatClampNeg x2) (fun s3 => (if a0 < s3.1 ∧ kd a0 = 2 then rc (g_r s3 a0 5) none (fun b4 => (if (b4 < s3.1 ∧ kd b4 = 10) ∧ inb x1 (ln b4) = true then (wi (s_i s3 b4 x1.toNatClampNeg x3) (fun s5 => (some s5))) else none)) else none))) else none)) else none))) else none) else none)
set_option maxRecDepth 100000 in
set_option maxHeartbeats 4000000 in
theorem k_T_see (l : Launch) (hl : l.stackTraces = false) (σ : Sg) (a0 : Nat) (x1 : Int32) (x2 : Int32) (x3 : Int32) (r : Sg) (h : f_T_see σ a0 x1 x2 x3 = some r) : Con l y_T_see (.code y_T_see prog_4_method_6_code 4 none) rm_T_see [.ref a0, .int x1, .int x2, .int x3] σ (mkV r) := by
  refine Con.of (mk := mkV) (o := f_T_see σ a0 x1 x2 x3) (z := r) (L0 := [(0, .ref a0), (1, .int x1), (2, .int x2), (3, .int x3)]) (bytes := prog_4_method_6_code) (maxL := 4) (ret := none) (hh := []) hl (by decide +kernel) (Or.inl ⟨rfl, rfl⟩) (by simp [Value.category]) (Nat.le_of_ble_eq_true rfl) rfl (fun Γ K S T hI => ?_) h rfl
  unfold f_T_see
  refine g_aload_n (pc := 0) (j := 0) K d_T_see_0 rfl ?_
  refine g_dup (pc := 1) K d_T_see_1 rfl ?_
  refine g_getI (pc := 2) K fl_T_15 d_T_see_2 ?_
  refine g_iconst (pc := 5) (v := 1) K d_T_see_5 (by decide) ?_
  refine g_iload_n (pc := 6) (j := 1) K d_T_see_6 rfl ?_
  refine g_ishl (pc := 7) K d_T_see_7 ?_
  refine g_ior (pc := 8) K d_T_see_8 ?_
  refine g_putI (pc := 9) K fl_T_15 d_T_see_9 ?_
  refine g_wi (fun s1 _ => ?_)
  refine g_aload_n (pc := 12) (j := 0) K d_T_see_12 rfl ?_
  refine g_getR (pc := 13) K fl_T_21 d_T_see_13 (fun _ => ?_) (fun b2 _ => ?_)
  · exact g_none
  · refine g_iload_n (pc := 16) (j := 1) K d_T_see_16 rfl ?_
    refine g_iload_n (pc := 17) (j := 2) K d_T_see_17 rfl ?_
    refine g_iast (pc := 18) K d_T_see_18 ?_
    refine g_wi (fun s3 _ => ?_)
    refine g_aload_n (pc := 19) (j := 0) K d_T_see_19 rfl ?_
    refine g_getR (pc := 20) K fl_T_25 d_T_see_20 (fun _ => ?_) (fun b4 _ => ?_)
    · exact g_none
    · refine g_iload_n (pc := 23) (j := 1) K d_T_see_23 rfl ?_
      refine g_iload_n (pc := 24) (j := 3) K d_T_see_24 rfl ?_
      refine g_iast (pc := 25) K d_T_see_25 ?_
      refine g_wi (fun s5 _ => ?_)
      exact g_vret (pc := 26) K S d_T_see_26 (by decide) (by decide) rfl
-- TapirGroup.read(III)I
def y_G_read : MethodName := ⟨"TapirGroup", "read", "(III)I"⟩
abbrev rm_G_read : Room := { frames := 6, cells := 1, slots := 6, locals := 90 }
theorem d_G_read_0 : decode prog_1_method_3_code 0 = .ok (.iload_n 1, 1) := by decide +kernel
theorem d_G_read_1 : decode prog_1_method_3_code 1 = .ok (.invokestatic 33, 3) := by decide +kernel
theorem d_G_read_4 : decode prog_1_method_3_code 4 = .ok (.ifCond .eq 17, 3) := by decide +kernel
theorem d_G_read_7 : decode prog_1_method_3_code 7 = .ok (.iload_n 2, 1) := by decide +kernel
theorem d_G_read_8 : decode prog_1_method_3_code 8 = .ok (.invokestatic 60, 3) := by decide +kernel
theorem d_G_read_11 : decode prog_1_method_3_code 11 = .ok (.ifCond .eq 10, 3) := by decide +kernel
theorem d_G_read_14 : decode prog_1_method_3_code 14 = .ok (.iload_n 3, 1) := by decide +kernel
theorem d_G_read_15 : decode prog_1_method_3_code 15 = .ok (.invokestatic 63, 3) := by decide +kernel
theorem d_G_read_18 : decode prog_1_method_3_code 18 = .ok (.ifCond .ne 13, 3) := by decide +kernel
theorem d_G_read_21 : decode prog_1_method_3_code 21 = .ok (.new 37, 3) := by decide +kernel
theorem d_G_read_24 : decode prog_1_method_3_code 24 = .ok (.dup, 1) := by decide +kernel
theorem d_G_read_25 : decode prog_1_method_3_code 25 = .ok (.ldc 66, 2) := by decide +kernel
theorem d_G_read_27 : decode prog_1_method_3_code 27 = .ok (.invokespecial 41, 3) := by decide +kernel
theorem d_G_read_30 : decode prog_1_method_3_code 30 = .ok (.athrow, 1) := by decide +kernel
theorem d_G_read_31 : decode prog_1_method_3_code 31 = .ok (.aload_n 0, 1) := by decide +kernel
theorem d_G_read_32 : decode prog_1_method_3_code 32 = .ok (.getfield 17, 3) := by decide +kernel
theorem d_G_read_35 : decode prog_1_method_3_code 35 = .ok (.iload_n 1, 1) := by decide +kernel
theorem d_G_read_36 : decode prog_1_method_3_code 36 = .ok (.aaload, 1) := by decide +kernel
theorem d_G_read_37 : decode prog_1_method_3_code 37 = .ok (.getfield 44, 3) := by decide +kernel
theorem d_G_read_40 : decode prog_1_method_3_code 40 = .ok (.astore 4, 2) := by decide +kernel
theorem d_G_read_42 : decode prog_1_method_3_code 42 = .ok (.aload 4, 2) := by decide +kernel
theorem d_G_read_44 : decode prog_1_method_3_code 44 = .ok (.ifnull 16, 3) := by decide +kernel
theorem d_G_read_47 : decode prog_1_method_3_code 47 = .ok (.aload_n 0, 1) := by decide +kernel
theorem d_G_read_48 : decode prog_1_method_3_code 48 = .ok (.getfield 17, 3) := by decide +kernel
theorem d_G_read_51 : decode prog_1_method_3_code 51 = .ok (.iload_n 1, 1) := by decide +kernel
theorem d_G_read_52 : decode prog_1_method_3_code 52 = .ok (.aaload, 1) := by decide +kernel
theorem d_G_read_53 : decode prog_1_method_3_code 53 = .ok (.getfield 68, 3) := by decide +kernel
theorem d_G_read_56 : decode prog_1_method_3_code 56 = .ok (.iconst 1, 1) := by decide +kernel
theorem d_G_read_57 : decode prog_1_method_3_code 57 = .ok (.if_icmp .eq 13, 3) := by decide +kernel
theorem d_G_read_60 : decode prog_1_method_3_code 60 = .ok (.new 48, 3) := by decide +kernel
theorem d_G_read_63 : decode prog_1_method_3_code 63 = .ok (.dup, 1) := by decide +kernel
theorem d_G_read_64 : decode prog_1_method_3_code 64 = .ok (.ldc 71, 2) := by decide +kernel
theorem d_G_read_66 : decode prog_1_method_3_code 66 = .ok (.invokespecial 52, 3) := by decide +kernel
theorem d_G_read_69 : decode prog_1_method_3_code 69 = .ok (.athrow, 1) := by decide +kernel
theorem d_G_read_70 : decode prog_1_method_3_code 70 = .ok (.aload 4, 2) := by decide +kernel
theorem d_G_read_72 : decode prog_1_method_3_code 72 = .ok (.iload_n 2, 1) := by decide +kernel
theorem d_G_read_73 : decode prog_1_method_3_code 73 = .ok (.invokevirtual 73, 3) := by decide +kernel
theorem d_G_read_76 : decode prog_1_method_3_code 76 = .ok (.ifCond .eq 11, 3) := by decide +kernel
theorem d_G_read_79 : decode prog_1_method_3_code 79 = .ok (.aload 4, 2) := by decide +kernel
theorem d_G_read_81 : decode prog_1_method_3_code 81 = .ok (.getfield 76, 3) := by decide +kernel
theorem d_G_read_84 : decode prog_1_method_3_code 84 = .ok (.iload_n 2, 1) := by decide +kernel
theorem d_G_read_85 : decode prog_1_method_3_code 85 = .ok (.iaload, 1) := by decide +kernel
theorem d_G_read_86 : decode prog_1_method_3_code 86 = .ok (.ireturn, 1) := by decide +kernel
theorem d_G_read_87 : decode prog_1_method_3_code 87 = .ok (.aload 4, 2) := by decide +kernel
theorem d_G_read_89 : decode prog_1_method_3_code 89 = .ok (.iload_n 2, 1) := by decide +kernel
theorem d_G_read_90 : decode prog_1_method_3_code 90 = .ok (.invokevirtual 80, 3) := by decide +kernel
theorem d_G_read_93 : decode prog_1_method_3_code 93 = .ok (.ifCond .eq 11, 3) := by decide +kernel
theorem d_G_read_96 : decode prog_1_method_3_code 96 = .ok (.aload 4, 2) := by decide +kernel
theorem d_G_read_98 : decode prog_1_method_3_code 98 = .ok (.getfield 83, 3) := by decide +kernel
theorem d_G_read_101 : decode prog_1_method_3_code 101 = .ok (.iload_n 2, 1) := by decide +kernel
theorem d_G_read_102 : decode prog_1_method_3_code 102 = .ok (.iaload, 1) := by decide +kernel
theorem d_G_read_103 : decode prog_1_method_3_code 103 = .ok (.ireturn, 1) := by decide +kernel
theorem d_G_read_104 : decode prog_1_method_3_code 104 = .ok (.aload_n 0, 1) := by decide +kernel
theorem d_G_read_105 : decode prog_1_method_3_code 105 = .ok (.iload_n 3, 1) := by decide +kernel
theorem d_G_read_106 : decode prog_1_method_3_code 106 = .ok (.invokevirtual 86, 3) := by decide +kernel
theorem d_G_read_109 : decode prog_1_method_3_code 109 = .ok (.ifCond .ne 13, 3) := by decide +kernel
theorem d_G_read_112 : decode prog_1_method_3_code 112 = .ok (.new 89, 3) := by decide +kernel
theorem d_G_read_115 : decode prog_1_method_3_code 115 = .ok (.dup, 1) := by decide +kernel
theorem d_G_read_116 : decode prog_1_method_3_code 116 = .ok (.ldc 91, 2) := by decide +kernel
theorem d_G_read_118 : decode prog_1_method_3_code 118 = .ok (.invokespecial 93, 3) := by decide +kernel
theorem d_G_read_121 : decode prog_1_method_3_code 121 = .ok (.athrow, 1) := by decide +kernel
theorem d_G_read_122 : decode prog_1_method_3_code 122 = .ok (.aload 4, 2) := by decide +kernel
theorem d_G_read_124 : decode prog_1_method_3_code 124 = .ok (.invokevirtual 94, 3) := by decide +kernel
theorem d_G_read_127 : decode prog_1_method_3_code 127 = .ok (.iconst 4, 1) := by decide +kernel
theorem d_G_read_128 : decode prog_1_method_3_code 128 = .ok (.if_icmp .lt 13, 3) := by decide +kernel
theorem d_G_read_131 : decode prog_1_method_3_code 131 = .ok (.new 98, 3) := by decide +kernel
theorem d_G_read_134 : decode prog_1_method_3_code 134 = .ok (.dup, 1) := by decide +kernel
theorem d_G_read_135 : decode prog_1_method_3_code 135 = .ok (.ldc 100, 2) := by decide +kernel
theorem d_G_read_137 : decode prog_1_method_3_code 137 = .ok (.invokespecial 102, 3) := by decide +kernel
theorem d_G_read_140 : decode prog_1_method_3_code 140 = .ok (.athrow, 1) := by decide +kernel
theorem d_G_read_141 : decode prog_1_method_3_code 141 = .ok (.aload 4, 2) := by decide +kernel
theorem d_G_read_143 : decode prog_1_method_3_code 143 = .ok (.iload_n 2, 1) := by decide +kernel
theorem d_G_read_144 : decode prog_1_method_3_code 144 = .ok (.aload_n 0, 1) := by decide +kernel
theorem d_G_read_145 : decode prog_1_method_3_code 145 = .ok (.getfield 11, 3) := by decide +kernel
theorem d_G_read_148 : decode prog_1_method_3_code 148 = .ok (.iload_n 3, 1) := by decide +kernel
theorem d_G_read_149 : decode prog_1_method_3_code 149 = .ok (.aaload, 1) := by decide +kernel
theorem d_G_read_150 : decode prog_1_method_3_code 150 = .ok (.getfield 103, 3) := by decide +kernel
theorem d_G_read_153 : decode prog_1_method_3_code 153 = .ok (.iload_n 2, 1) := by decide +kernel
theorem d_G_read_154 : decode prog_1_method_3_code 154 = .ok (.iaload, 1) := by decide +kernel
theorem d_G_read_155 : decode prog_1_method_3_code 155 = .ok (.aload_n 0, 1) := by decide +kernel
theorem d_G_read_156 : decode prog_1_method_3_code 156 = .ok (.getfield 11, 3) := by decide +kernel
theorem d_G_read_159 : decode prog_1_method_3_code 159 = .ok (.iload_n 3, 1) := by decide +kernel
theorem d_G_read_160 : decode prog_1_method_3_code 160 = .ok (.aaload, 1) := by decide +kernel
theorem d_G_read_161 : decode prog_1_method_3_code 161 = .ok (.getfield 106, 3) := by decide +kernel
theorem d_G_read_164 : decode prog_1_method_3_code 164 = .ok (.iload_n 2, 1) := by decide +kernel
theorem d_G_read_165 : decode prog_1_method_3_code 165 = .ok (.iaload, 1) := by decide +kernel
theorem d_G_read_166 : decode prog_1_method_3_code 166 = .ok (.invokevirtual 109, 3) := by decide +kernel
theorem d_G_read_169 : decode prog_1_method_3_code 169 = .ok (.aload 4, 2) := by decide +kernel
theorem d_G_read_171 : decode prog_1_method_3_code 171 = .ok (.getfield 83, 3) := by decide +kernel
theorem d_G_read_174 : decode prog_1_method_3_code 174 = .ok (.iload_n 2, 1) := by decide +kernel
theorem d_G_read_175 : decode prog_1_method_3_code 175 = .ok (.iaload, 1) := by decide +kernel
theorem d_G_read_176 : decode prog_1_method_3_code 176 = .ok (.ireturn, 1) := by decide +kernel
theorem cn_G_read : CN y_G_read (.code y_G_read prog_1_method_3_code 5 (some .int)) prog_1_method_3_code 5 (some .int) [] 3 := ⟨Or.inl ⟨rfl, rfl⟩, mw_313, mw_1, ⟨by decide +kernel, by decide +kernel⟩, by decide +kernel⟩
def b_G_read_21  (σ : Sg)  : Option Rs := (some ((.inr "java/lang/IllegalArgumentException", σ) : Rs))
set_option maxRecDepth 100000 in
set_option maxHeartbeats 4000000 in
theorem gb_G_read_21 {Γ : GX} (K : Cx Γ "TapirGroup" prog_1_method_3_code 5 rm_G_read) (S : Std Γ (some .int)) (T : Tb Γ []) (hI : y_G_read.name = "<init>" → Ini Γ) (σ : Sg)  : G Γ mkR 0 0 21 [] [] σ (b_G_read_21 σ ) := by
  unfold b_G_read_21
  exact g_throw (pc := 21) K S T tw_G_37_66_41 (fun _ h => nomatch h) d_G_read_21 d_G_read_24 d_G_read_25 d_G_read_27 d_G_read_30 (by decide) (by decide) (by decide) (by decide) rfl
def b_G_read_60  (σ : Sg)  : Option Rs := (some ((.inr "java/lang/IllegalStateException", σ) : Rs))
set_option maxRecDepth 100000 in
set_option maxHeartbeats 4000000 in
theorem gb_G_read_60 {Γ : GX} (K : Cx Γ "TapirGroup" prog_1_method_3_code 5 rm_G_read) (S : Std Γ (some .int)) (T : Tb Γ []) (hI : y_G_read.name = "<init>" → Ini Γ) (σ : Sg)  : G Γ mkR 0 0 60 [] [] σ (b_G_read_60 σ ) := by
  unfold b_G_read_60
  exact g_throw (pc := 60) K S T tw_G_48_71_52 (fun _ h => nomatch h) d_G_read_60 d_G_read_63 d_G_read_64 d_G_read_66 d_G_read_69 (by decide) (by decide) (by decide) (by decide) rfl
def f_G_read (σ : Sg) (a0 : Nat) (x1 : Int32) (x2 : Int32) (x3 : Int32) : Option Rs := ((f_G_isClient σ x1).bind (fun v1 => (if v1 = 0 then (b_G_read_21 σ) else ((f_G_isKey σ x2).bind (fun v2 => (if v2 = 0 then (b_G_read_21 σ) else ((f_G_isReplica σ x3).bind (fun v3 => (if v3 = 0 then (b_G_read_21 σ) else (if a0 < σ.1 ∧ kd a0 = 3 then rc (g_r σ a0 1) none (fun b4 => (if (b4 < σ.1 ∧ kd b4 = 14) ∧ inb x1 (ln b4) = true then rc (g_r σ b4 x1.toNatClampNeg) none (fun b5 => (if b5 < σ.1 ∧ kd b5 = 0 then rc (g_r σ b5 0) (b_G_read_60 σ) (fun b6 => (if a0 < σ.1 ∧ kd a0 = 3 then rc (g_r σ a0 1) none (fun b7 => (if (b7 < σ.1 ∧ kd b7 = 14) ∧ inb x1 (ln b7) = true then rc (g_r σ b7 x1.toNatClampNeg) none (fun b8 => (if b8 < σ.1 ∧ kd b8 = 0 then (if (g_i σ b8 1) = (1 : Int32) then (if b6 < σ.1 ∧ kd b6 = 2 then (f_T_hasWritten σ b6 x2).bind (fun v9 => (if v9 = 0 then (if b6 < σ.1 ∧ kd b6 = 2 then (f_T_hasRead σ b6 x2).bind (fun v10 => (if v10 = 0 then (if a0 < σ.1 ∧ kd a0 = 3 then (f_G_serves σ a0 x3).bind (fun v11 => (if v11 = 0 then (some ((.inr "java/lang/UnsupportedOperationException", σ) : Rs)) else (if b6 < σ.1 ∧ kd b6 = 2 then (f_T_readCount σ b6).bind (fun v12 => (if v12 < (4 : Int32) then (if a0 < σ.1 ∧ kd a0 = 3 then rc (g_r σ a0 0) none (fun b13 => (if (b13 < σ.1 ∧ kd b13 = 13) ∧ inb x3 (ln b13) = true then rc (g_r σ b13 x3.toNatClampNeg) none (fun b14 => (if b14 < σ.1 ∧ kd b14 = 1 then rc (g_r σ b14 2) none (fun b15 => (if (b15 < σ.1 ∧ kd b15 = 10) ∧ inb x2 (ln b15) = true then (if a0 < σ.1 ∧ kd a0 = 3 then rc (g_r σ a0 0) none (fun b16 => (if (b16 < σ.1 ∧ kd b16 = 13) ∧ inb x3 (ln b16) = true then rc (g_r σ b16 x3.toNatClampNeg) none (fun b17 => (if b17 < σ.1 ∧ kd b17 = 1 then rc (g_r σ b17 3) none (fun b18 => (if (b18 < σ.1 ∧ kd b18 = 10) ∧ inb x2 (ln b18) = true then (if b6 < σ.1 ∧ kd b6 = 2 then (f_T_see σ b6 x2 (g_i σ b15 x2.toNatClampNeg) (g_i σ b18 x2.toNatClampNeg)).bind (fun s19 => (if b6 < s19.1 ∧ kd b6 = 2 then rc (g_r s19 b6 5) none (fun b20 => (if (b20 < s19.1 ∧ kd b20 = 10) ∧ inb x2 (ln b20) = true then (some ((.inl (some (.int (g_i s19 b20 x2.toNatClampNeg))), s19) : Rs)) else none)) else none)) else none) else none)) else none)) else none)) else none) else none)) else none)) else none)) else none) else (some ((.inr "java/lang/IndexOutOfBoundsException", σ) : Rs)))) else none))) else none) else (if b6 < σ.1 ∧ kd b6 = 2 then rc (g_r σ b6 5) none (fun b21 => (if (b21 < σ.1 ∧ kd b21 = 10) ∧ inb x2 (ln b21) = true then (some ((.inl (some (.int (g_i σ b21 x2.toNatClampNeg))), σ) : Rs)) else none)) else none))) else none) else (if b6 < σ.1 ∧ kd b6 = 2 then rc (g_r σ b6 6) none (fun b22 => (if (b22 < σ.1 ∧ kd b22 = 10) ∧ inb x2 (ln b22) = true then (some ((.inl (some (.int (g_i σ b22 x2.toNatClampNeg))), σ) : Rs)) else none)) else none))) else none) else (b_G_read_60 σ)) else none)) else none)) else none)) else none)) else none)) else none))))))))))
set_option maxRecDepth 100000 in
set_option maxHeartbeats 4000000 in
theorem k_G_read (l : Launch) (hl : l.stackTraces = false) (σ : Sg) (a0 : Nat) (x1 : Int32) (x2 : Int32) (x3 : Int32) (r : Rs) (h : f_G_read σ a0 x1 x2 x3 = some r) : Con l y_G_read (.code y_G_read prog_1_method_3_code 5 (some .int)) rm_G_read [.ref a0, .int x1, .int x2, .int x3] σ (mkR r) := by
  refine Con.of (mk := mkR) (o := f_G_read σ a0 x1 x2 x3) (z := r) (L0 := [(0, .ref a0), (1, .int x1), (2, .int x2), (3, .int x3)]) (bytes := prog_1_method_3_code) (maxL := 5) (ret := (some .int)) (hh := []) hl (by decide +kernel) (Or.inl ⟨rfl, rfl⟩) (by simp [Value.category]) (Nat.le_of_ble_eq_true rfl) rfl (fun Γ K S T hI => ?_) h rfl
  unfold f_G_read
  refine g_iload_n (pc := 0) (j := 1) K d_G_read_0 rfl ?_
  refine g_callS (pc := 1) (vs := [.int x1]) (st := []) (mkc := mkI σ) K cn_G_isClient (fun l hl r hr => k_G_isClient l hl _ _ r hr) mw_112 mw_113 ⟨by decide, by decide, by decide, by decide⟩ d_G_read_1 rfl rfl (Nat.le_of_ble_eq_true rfl) (fun v1 _ => ?_)
  change G Γ mkR 0 0 4 [(0, .ref a0), (1, .int x1), (2, .int x2), (3, .int x3)] [.int v1] σ _
  refine g_if_eq (pc := 4) (tgt := 21) K d_G_read_4 (by decide) (fun _ => ?_) (fun _ => ?_)
  · refine g_sub (L' := []) [] rfl ?_
    exact gb_G_read_21 K S T hI σ
  · refine g_iload_n (pc := 7) (j := 2) K d_G_read_7 rfl ?_
    refine g_callS (pc := 8) (vs := [.int x2]) (st := []) (mkc := mkI σ) K cn_G_isKey (fun l hl r hr => k_G_isKey l hl _ _ r hr) mw_149 mw_150 ⟨by decide, by decide, by decide, by decide⟩ d_G_read_8 rfl rfl (Nat.le_of_ble_eq_true rfl) (fun v2 _ => ?_)
    change G Γ mkR 0 0 11 [(0, .ref a0), (1, .int x1), (2, .int x2), (3, .int x3)] [.int v2] σ _
    refine g_if_eq (pc := 11) (tgt := 21) K d_G_read_11 (by decide) (fun _ => ?_) (fun _ => ?_)
    · refine g_sub (L' := []) [] rfl ?_
      exact gb_G_read_21 K S T hI σ
    · refine g_iload_n (pc := 14) (j := 3) K d_G_read_14 rfl ?_
      refine g_callS (pc := 15) (vs := [.int x3]) (st := []) (mkc := mkI σ) K cn_G_isReplica (fun l hl r hr => k_G_isReplica l hl _ _ r hr) mw_146 mw_147 ⟨by decide, by decide, by decide, by decide⟩ d_G_read_15 rfl rfl (Nat.le_of_ble_eq_true rfl) (fun v3 _ => ?_)
      change G Γ mkR 0 0 18 [(0, .ref a0), (1, .int x1), (2, .int x2), (3, .int x3)] [.int v3] σ _
      refine g_if_ne (pc := 18) (tgt := 31) K d_G_read_18 (by decide) (fun _ => ?_) (fun _ => ?_)
      · refine g_aload_n (pc := 31) (j := 0) K d_G_read_31 rfl ?_
        refine g_getR (pc := 32) K fl_G_17 d_G_read_32 (fun _ => ?_) (fun b4 _ => ?_)
        · exact g_none
        · refine g_iload_n (pc := 35) (j := 1) K d_G_read_35 rfl ?_
          refine g_aald (pc := 36) (kq := 14) (t0 := 4) K (by decide) (fun _ => rfl) d_G_read_36 (fun _ => ?_) (fun b5 _ => ?_)
          · exact g_none
          · refine g_getR (pc := 37) K fl_G_44 d_G_read_37 (fun _ => ?_) (fun b6 _ => ?_)
            · refine g_astoreN (pc := 40) (L' := [(4, .null), (0, .ref a0), (1, .int x1), (2, .int x2), (3, .int x3)]) K d_G_read_40 (by decide) rfl ?_
              refine g_aloadN (pc := 42) (j := 0) K d_G_read_42 rfl ?_
              refine g_ifnullN (pc := 44) (tgt := 60) K d_G_read_44 (by decide) ?_
              refine g_sub (L' := []) [] rfl ?_
              exact gb_G_read_60 K S T hI σ
            · refine g_astore (pc := 40) (L' := [(4, .ref b6), (0, .ref a0), (1, .int x1), (2, .int x2), (3, .int x3)]) K d_G_read_40 (by decide) rfl ?_
              refine g_aload (pc := 42) (j := 0) K d_G_read_42 rfl ?_
              refine g_ifnull (pc := 44) K d_G_read_44 ?_
              refine g_aload_n (pc := 47) (j := 1) K d_G_read_47 rfl ?_
              refine g_getR (pc := 48) K fl_G_17 d_G_read_48 (fun _ => ?_) (fun b7 _ => ?_)
              · exact g_none
              · refine g_iload_n (pc := 51) (j := 2) K d_G_read_51 rfl ?_
                refine g_aald (pc := 52) (kq := 14) (t0 := 4) K (by decide) (fun _ => rfl) d_G_read_52 (fun _ => ?_) (fun b8 _ => ?_)
                · exact g_none
                · refine g_getI (pc := 53) K fl_G_68 d_G_read_53 ?_
                  refine g_iconst (pc := 56) (v := 1) K d_G_read_56 (by decide) ?_
                  refine g_icmp_eq (pc := 57) (tgt := 70) K d_G_read_57 (by decide) (fun _ => ?_) (fun _ => ?_)
                  · refine g_aload (pc := 70) (j := 0) K d_G_read_70 rfl ?_
                    refine g_iload_n (pc := 72) (j := 3) K d_G_read_72 rfl ?_
                    refine g_callV (pc := 73) (ci := 2) (a := b6) (vs := [.int x2]) (st := []) (mkc := mkI σ) K rfl (by decide) cn_T_hasWritten (fun l hl r hr => k_T_hasWritten l hl _ _ _ r hr) mw_316 mw_317 mw_318 ⟨by decide, by decide, by decide, by decide⟩ d_G_read_73 rfl rfl (Nat.le_of_ble_eq_true rfl) (fun v9 _ => ?_)
                    change G Γ mkR 0 0 76 [(4, .ref b6), (0, .ref a0), (1, .int x1), (2, .int x2), (3, .int x3)] [.int v9] σ _
                    refine g_if_eq (pc := 76) (tgt := 87) K d_G_read_76 (by decide) (fun _ => ?_) (fun _ => ?_)
                    · refine g_aload (pc := 87) (j := 0) K d_G_read_87 rfl ?_
                      refine g_iload_n (pc := 89) (j := 3) K d_G_read_89 rfl ?_
                      refine g_callV (pc := 90) (ci := 2) (a := b6) (vs := [.int x2]) (st := []) (mkc := mkI σ) K rfl (by decide) cn_T_hasRead (fun l hl r hr => k_T_hasRead l hl _ _ _ r hr) mw_320 mw_321 mw_322 ⟨by decide, by decide, by decide, by decide⟩ d_G_read_90 rfl rfl (Nat.le_of_ble_eq_true rfl) (fun v10 _ => ?_)
                      change G Γ mkR 0 0 93 [(4, .ref b6), (0, .ref a0), (1, .int x1), (2, .int x2), (3, .int x3)] [.int v10] σ _
                      refine g_if_eq (pc := 93) (tgt := 104) K d_G_read_93 (by decide) (fun _ => ?_) (fun _ => ?_)
                      · refine g_aload_n (pc := 104) (j := 1) K d_G_read_104 rfl ?_
                        refine g_iload_n (pc := 105) (j := 4) K d_G_read_105 rfl ?_
                        refine g_callV (pc := 106) (ci := 3) (a := a0) (vs := [.int x3]) (st := []) (mkc := mkI σ) K rfl (by decide) cn_G_serves (fun l hl r hr => k_G_serves l hl _ _ _ r hr) mw_324 mw_326 ms_2 ⟨by decide, by decide, by decide, by decide⟩ d_G_read_106 rfl rfl (Nat.le_of_ble_eq_true rfl) (fun v11 _ => ?_)
                        change G Γ mkR 0 0 109 [(4, .ref b6), (0, .ref a0), (1, .int x1), (2, .int x2), (3, .int x3)] [.int v11] σ _
                        refine g_if_ne (pc := 109) (tgt := 122) K d_G_read_109 (by decide) (fun _ => ?_) (fun _ => ?_)
                        · refine g_aload (pc := 122) (j := 0) K d_G_read_122 rfl ?_
                          refine g_callV (pc := 124) (ci := 2) (a := b6) (vs := []) (st := []) (mkc := mkI σ) K rfl (by decide) cn_T_readCount (fun l hl r hr => k_T_readCount l hl _ _ r hr) mw_115 mw_116 mw_117 ⟨by decide, by decide, by decide, by decide⟩ d_G_read_124 rfl rfl (Nat.le_of_ble_eq_true rfl) (fun v12 _ => ?_)
                          change G Γ mkR 0 0 127 [(4, .ref b6), (0, .ref a0), (1, .int x1), (2, .int x2), (3, .int x3)] [.int v12] σ _
                          refine g_iconst (pc := 127) (v := 4) K d_G_read_127 (by decide) ?_
                          refine g_icmp_lt (pc := 128) (tgt := 141) K d_G_read_128 (by decide) (fun _ => ?_) (fun _ => ?_)
                          · refine g_aload (pc := 141) (j := 0) K d_G_read_141 rfl ?_
                            refine g_iload_n (pc := 143) (j := 3) K d_G_read_143 rfl ?_
                            refine g_aload_n (pc := 144) (j := 1) K d_G_read_144 rfl ?_
                            refine g_getR (pc := 145) K fl_G_11 d_G_read_145 (fun _ => ?_) (fun b13 _ => ?_)
                            · exact g_none
                            · refine g_iload_n (pc := 148) (j := 4) K d_G_read_148 rfl ?_
                              refine g_aald (pc := 149) (kq := 13) (t0 := 3) K (by decide) (fun _ => rfl) d_G_read_149 (fun _ => ?_) (fun b14 _ => ?_)
                              · exact g_none
                              · refine g_getR (pc := 150) K fl_G_103 d_G_read_150 (fun _ => ?_) (fun b15 _ => ?_)
                                · exact g_none
                                · refine g_iload_n (pc := 153) (j := 3) K d_G_read_153 rfl ?_
                                  refine g_iald (pc := 154) K d_G_read_154 ?_
                                  refine g_aload_n (pc := 155) (j := 1) K d_G_read_155 rfl ?_
                                  refine g_getR (pc := 156) K fl_G_11 d_G_read_156 (fun _ => ?_) (fun b16 _ => ?_)
                                  · exact g_none
                                  · refine g_iload_n (pc := 159) (j := 4) K d_G_read_159 rfl ?_
                                    refine g_aald (pc := 160) (kq := 13) (t0 := 3) K (by decide) (fun _ => rfl) d_G_read_160 (fun _ => ?_) (fun b17 _ => ?_)
                                    · exact g_none
                                    · refine g_getR (pc := 161) K fl_G_106 d_G_read_161 (fun _ => ?_) (fun b18 _ => ?_)
                                      · exact g_none
                                      · refine g_iload_n (pc := 164) (j := 3) K d_G_read_164 rfl ?_
                                        refine g_iald (pc := 165) K d_G_read_165 ?_
                                        refine g_callV (pc := 166) (ci := 2) (a := b6) (vs := [.int x2, .int (g_i σ b15 x2.toNatClampNeg), .int (g_i σ b18 x2.toNatClampNeg)]) (st := []) (mkc := mkV) K rfl (by decide) cn_T_see (fun l hl r hr => k_T_see l hl _ _ _ _ _ r hr) mw_360 mw_361 mw_362 ⟨by decide, by decide, by decide, by decide⟩ d_G_read_166 rfl rfl (Nat.le_of_ble_eq_true rfl) (fun s19 _ => ?_)
                                        change G Γ mkR 0 0 169 [(4, .ref b6), (0, .ref a0), (1, .int x1), (2, .int x2), (3, .int x3)] [] s19 _
                                        refine g_aload (pc := 169) (j := 0) K d_G_read_169 rfl ?_
                                        refine g_getR (pc := 171) K fl_G_83 d_G_read_171 (fun _ => ?_) (fun b20 _ => ?_)
                                        · exact g_none
                                        · refine g_iload_n (pc := 174) (j := 3) K d_G_read_174 rfl ?_
                                          refine g_iald (pc := 175) K d_G_read_175 ?_
                                          exact g_iret (pc := 176) K S rfl d_G_read_176 (by decide) (by decide) rfl
                          · exact g_throw (pc := 131) K S T tw_G_98_100_102 (fun _ h => nomatch h) d_G_read_131 d_G_read_134 d_G_read_135 d_G_read_137 d_G_read_140 (by decide) (by decide) (by decide) (by decide) rfl
                        · exact g_throw (pc := 112) K S T tw_G_89_91_93 (fun _ h => nomatch h) d_G_read_112 d_G_read_115 d_G_read_116 d_G_read_118 d_G_read_121 (by decide) (by decide) (by decide) (by decide) rfl
                      · refine g_aload (pc := 96) (j := 0) K d_G_read_96 rfl ?_
                        refine g_getR (pc := 98) K fl_G_83 d_G_read_98 (fun _ => ?_) (fun b21 _ => ?_)
                        · exact g_none
                        · refine g_iload_n (pc := 101) (j := 3) K d_G_read_101 rfl ?_
                          refine g_iald (pc := 102) K d_G_read_102 ?_
                          exact g_iret (pc := 103) K S rfl d_G_read_103 (by decide) (by decide) rfl
                    · refine g_aload (pc := 79) (j := 0) K d_G_read_79 rfl ?_
                      refine g_getR (pc := 81) K fl_G_76 d_G_read_81 (fun _ => ?_) (fun b22 _ => ?_)
                      · exact g_none
                      · refine g_iload_n (pc := 84) (j := 3) K d_G_read_84 rfl ?_
                        refine g_iald (pc := 85) K d_G_read_85 ?_
                        exact g_iret (pc := 86) K S rfl d_G_read_86 (by decide) (by decide) rfl
                  · refine g_sub (L' := []) [] rfl ?_
                    exact gb_G_read_60 K S T hI σ
      · refine g_sub (L' := []) [] rfl ?_
        exact gb_G_read_21 K S T hI σ
-- TapirGroupLaw.read(LTapirGroup;III[J)I
def y_L_read : MethodName := ⟨"TapirGroupLaw", "read", "(LTapirGroup;III[J)I"⟩
abbrev rm_L_read : Room := { frames := 7, cells := 1, slots := 6, locals := 114 }
theorem d_L_read_0 : decode method_4_code 0 = .ok (.aload 4, 2) := by decide +kernel
theorem d_L_read_2 : decode method_4_code 2 = .ok (.iconst 0, 1) := by decide +kernel
theorem d_L_read_3 : decode method_4_code 3 = .ok (.aload_n 0, 1) := by decide +kernel
theorem d_L_read_4 : decode method_4_code 4 = .ok (.iload_n 1, 1) := by decide +kernel
theorem d_L_read_5 : decode method_4_code 5 = .ok (.iload_n 2, 1) := by decide +kernel
theorem d_L_read_6 : decode method_4_code 6 = .ok (.iload_n 3, 1) := by decide +kernel
theorem d_L_read_7 : decode method_4_code 7 = .ok (.invokevirtual 17, 3) := by decide +kernel
theorem d_L_read_10 : decode method_4_code 10 = .ok (.i2l, 1) := by decide +kernel
theorem d_L_read_11 : decode method_4_code 11 = .ok (.lastore, 1) := by decide +kernel
theorem d_L_read_12 : decode method_4_code 12 = .ok (.goto 19, 3) := by decide +kernel
theorem d_L_read_15 : decode method_4_code 15 = .ok (.astore 5, 2) := by decide +kernel
theorem d_L_read_17 : decode method_4_code 17 = .ok (.iconst 1, 1) := by decide +kernel
theorem d_L_read_18 : decode method_4_code 18 = .ok (.ireturn, 1) := by decide +kernel
theorem d_L_read_19 : decode method_4_code 19 = .ok (.astore 5, 2) := by decide +kernel
theorem d_L_read_21 : decode method_4_code 21 = .ok (.iconst 2, 1) := by decide +kernel
theorem d_L_read_22 : decode method_4_code 22 = .ok (.ireturn, 1) := by decide +kernel
theorem d_L_read_23 : decode method_4_code 23 = .ok (.astore 5, 2) := by decide +kernel
theorem d_L_read_25 : decode method_4_code 25 = .ok (.iconst 3, 1) := by decide +kernel
theorem d_L_read_26 : decode method_4_code 26 = .ok (.ireturn, 1) := by decide +kernel
theorem d_L_read_27 : decode method_4_code 27 = .ok (.astore 5, 2) := by decide +kernel
theorem d_L_read_29 : decode method_4_code 29 = .ok (.iconst 4, 1) := by decide +kernel
theorem d_L_read_30 : decode method_4_code 30 = .ok (.ireturn, 1) := by decide +kernel
theorem d_L_read_31 : decode method_4_code 31 = .ok (.iconst 0, 1) := by decide +kernel
theorem d_L_read_32 : decode method_4_code 32 = .ok (.ireturn, 1) := by decide +kernel
theorem cn_L_read : CN y_L_read (.codeWith y_L_read method_4_code 6 (some .int) [(0, 12, 15, 13), (0, 12, 19, 15), (0, 12, 23, 21), (0, 12, 27, 23)]) method_4_code 6 (some .int) [(0, 12, 15, 13), (0, 12, 19, 15), (0, 12, 23, 21), (0, 12, 27, 23)] 5 := ⟨Or.inr rfl, mw_307, mw_0, ⟨by decide +kernel, by decide +kernel⟩, by decide +kernel⟩
def f_L_read (σ : Sg) (a0 : Nat) (x1 : Int32) (x2 : Int32) (x3 : Int32) (a4 : Nat) : Option (Int32 × Sg) := (if a0 < σ.1 ∧ kd a0 = 3 then (f_G_read σ a0 x1 x2 x3).bind (fun w1 => (onI w1.1 (fun x2 => (if (a4 < w1.2.1 ∧ kd a4 = 12) ∧ inb (0 : Int32) (ln a4) = true then (wi (s_l w1.2 a4 (0 : Int32).toNatClampNeg ((x2).toInt64)) (fun s3 => (some ((0 : Int32), s3)))) else none)) (fun E => (if E = "java/lang/IllegalArgumentException" then (some ((1 : Int32), w1.2)) else (if E = "java/lang/IllegalStateException" then (some ((2 : Int32), w1.2)) else (if E = "java/lang/UnsupportedOperationException" then (some ((3 : Int32), w1.2)) else (if E = "java/lang/IndexOutOfBoundsException" then (some ((4 : Int32), w1.2)) else none))))))) else none)
set_option maxRecDepth 100000 in
set_option maxHeartbeats 4000000 in
theorem k_L_read (l : Launch) (hl : l.stackTraces = false) (σ : Sg) (a0 : Nat) (x1 : Int32) (x2 : Int32) (x3 : Int32) (a4 : Nat) (r : (Int32 × Sg)) (h : f_L_read σ a0 x1 x2 x3 a4 = some r) : Con l y_L_read (.codeWith y_L_read method_4_code 6 (some .int) [(0, 12, 15, 13), (0, 12, 19, 15), (0, 12, 23, 21), (0, 12, 27, 23)]) rm_L_read [.ref a0, .int x1, .int x2, .int x3, .ref a4] σ (mkW r) := by
  refine Con.of (mk := mkW) (o := f_L_read σ a0 x1 x2 x3 a4) (z := r) (L0 := [(0, .ref a0), (1, .int x1), (2, .int x2), (3, .int x3), (4, .ref a4)]) (bytes := method_4_code) (maxL := 6) (ret := (some .int)) (hh := [(0, 12, 15, 13), (0, 12, 19, 15), (0, 12, 23, 21), (0, 12, 27, 23)]) hl (by decide +kernel) (Or.inr rfl) (by simp [Value.category]) (Nat.le_of_ble_eq_true rfl) rfl (fun Γ K S T hI => ?_) h rfl
  unfold f_L_read
  refine g_aload (pc := 0) (j := 4) K d_L_read_0 rfl ?_
  refine g_iconst (pc := 2) (v := 0) K d_L_read_2 (by decide) ?_
  refine g_aload_n (pc := 3) (j := 0) K d_L_read_3 rfl ?_
  refine g_iload_n (pc := 4) (j := 1) K d_L_read_4 rfl ?_
  refine g_iload_n (pc := 5) (j := 2) K d_L_read_5 rfl ?_
  refine g_iload_n (pc := 6) (j := 3) K d_L_read_6 rfl ?_
  refine g_callV (pc := 7) (ci := 3) (a := a0) (vs := [.int x1, .int x2, .int x3]) (st := [.int (0 : Int32), .ref a4]) (mkc := mkR) K rfl (by decide) cn_G_read (fun l hl r hr => k_G_read l hl _ _ _ _ _ r hr) mw_310 mw_311 mw_312 ⟨by decide, by decide, by decide, by decide⟩ d_L_read_7 rfl rfl (Nat.le_of_ble_eq_true rfl) (fun w1 _ => ?_)
  refine g_onI (fun x2 => ?_) (fun E => ?_)
  · refine g_i2l (pc := 10) K d_L_read_10 ?_
    refine g_last (pc := 11) K d_L_read_11 ?_
    refine g_wi (fun s3 _ => ?_)
    refine g_goto (pc := 12) (tgt := 31) K d_L_read_12 (by decide) ?_
    refine g_iconst (pc := 31) (v := 0) K d_L_read_31 (by decide) ?_
    exact g_iret (pc := 32) K S rfl d_L_read_32 (by decide) (by decide) rfl
  · refine gt_ite (fun h => ?_) (fun _ => ?_)
    · subst h
      refine g_catch2 (L' := [(0, .ref a0), (1, .int x1), (2, .int x2), (3, .int x3), (4, .ref a4)]) K T [] (0, 12, 15, 13) [(0, 12, 19, 15), (0, 12, 23, 21), (0, 12, 27, 23)] rfl (fun _ h => nomatch h) (by decide) (by decide) mw_170 mw_177 (by decide) d_L_read_15 rfl ?_
      refine g_iconst (pc := 17) (v := 1) K d_L_read_17 (by decide) ?_
      exact g_iret (pc := 18) K S rfl d_L_read_18 (by decide) (by decide) rfl
    refine gt_ite (fun h => ?_) (fun _ => ?_)
    · subst h
      refine g_catch2 (L' := [(0, .ref a0), (1, .int x1), (2, .int x2), (3, .int x3), (4, .ref a4)]) K T [(0, 12, 15, 13)] (0, 12, 19, 15) [(0, 12, 23, 21), (0, 12, 27, 23)] rfl (by intro z hz; rcases List.mem_cons.mp hz with rfl | hz; exact ⟨by decide, by decide, "java/lang/IllegalArgumentException", mw_170, by decide +kernel⟩; cases hz) (by decide) (by decide) mw_171 mw_246 (by decide) d_L_read_19 rfl ?_
      refine g_iconst (pc := 21) (v := 2) K d_L_read_21 (by decide) ?_
      exact g_iret (pc := 22) K S rfl d_L_read_22 (by decide) (by decide) rfl
    refine gt_ite (fun h => ?_) (fun _ => ?_)
    · subst h
      refine g_catch2 (L' := [(0, .ref a0), (1, .int x1), (2, .int x2), (3, .int x3), (4, .ref a4)]) K T [(0, 12, 15, 13), (0, 12, 19, 15)] (0, 12, 23, 21) [(0, 12, 27, 23)] rfl (by intro z hz; rcases List.mem_cons.mp hz with rfl | hz; exact ⟨by decide, by decide, "java/lang/IllegalArgumentException", mw_170, by decide +kernel⟩; rcases List.mem_cons.mp hz with rfl | hz; exact ⟨by decide, by decide, "java/lang/IllegalStateException", mw_171, by decide +kernel⟩; cases hz) (by decide) (by decide) mw_308 mw_329 (by decide) d_L_read_23 rfl ?_
      refine g_iconst (pc := 25) (v := 3) K d_L_read_25 (by decide) ?_
      exact g_iret (pc := 26) K S rfl d_L_read_26 (by decide) (by decide) rfl
    refine gt_ite (fun h => ?_) (fun _ => ?_)
    · subst h
      refine g_catch2 (L' := [(0, .ref a0), (1, .int x1), (2, .int x2), (3, .int x3), (4, .ref a4)]) K T [(0, 12, 15, 13), (0, 12, 19, 15), (0, 12, 23, 21)] (0, 12, 27, 23) [] rfl (by intro z hz; rcases List.mem_cons.mp hz with rfl | hz; exact ⟨by decide, by decide, "java/lang/IllegalArgumentException", mw_170, by decide +kernel⟩; rcases List.mem_cons.mp hz with rfl | hz; exact ⟨by decide, by decide, "java/lang/IllegalStateException", mw_171, by decide +kernel⟩; rcases List.mem_cons.mp hz with rfl | hz; exact ⟨by decide, by decide, "java/lang/UnsupportedOperationException", mw_308, by decide +kernel⟩; cases hz) (by decide) (by decide) mw_309 mw_345 (by decide) d_L_read_27 rfl ?_
      refine g_iconst (pc := 29) (v := 4) K d_L_read_29 (by decide) ?_
      exact g_iret (pc := 30) K S rfl d_L_read_30 (by decide) (by decide) rfl
    exact gt_none
-- TapirGroup$Transaction.put(II)V
def y_T_put : MethodName := ⟨"TapirGroup$Transaction", "put", "(II)V"⟩
abbrev rm_T_put : Room := { frames := 0, cells := 0, slots := 0, locals := 0 }
theorem d_T_put_0 : decode prog_4_method_7_code 0 = .ok (.aload_n 0, 1) := by decide +kernel
theorem d_T_put_1 : decode prog_4_method_7_code 1 = .ok (.dup, 1) := by decide +kernel
theorem d_T_put_2 : decode prog_4_method_7_code 2 = .ok (.getfield 18, 3) := by decide +kernel
theorem d_T_put_5 : decode prog_4_method_7_code 5 = .ok (.iconst 1, 1) := by decide +kernel
theorem d_T_put_6 : decode prog_4_method_7_code 6 = .ok (.iload_n 1, 1) := by decide +kernel
theorem d_T_put_7 : decode prog_4_method_7_code 7 = .ok (.ishl, 1) := by decide +kernel
theorem d_T_put_8 : decode prog_4_method_7_code 8 = .ok (.ior, 1) := by decide +kernel
theorem d_T_put_9 : decode prog_4_method_7_code 9 = .ok (.putfield 18, 3) := by decide +kernel
theorem d_T_put_12 : decode prog_4_method_7_code 12 = .ok (.aload_n 0, 1) := by decide +kernel
theorem d_T_put_13 : decode prog_4_method_7_code 13 = .ok (.getfield 28, 3) := by decide +kernel
theorem d_T_put_16 : decode prog_4_method_7_code 16 = .ok (.iload_n 1, 1) := by decide +kernel
theorem d_T_put_17 : decode prog_4_method_7_code 17 = .ok (.iload_n 2, 1) := by decide +kernel
theorem d_T_put_18 : decode prog_4_method_7_code 18 = .ok (.iastore, 1) := by decide +kernel
theorem d_T_put_19 : decode prog_4_method_7_code 19 = .ok (.return_, 1) := by decide +kernel
theorem cn_T_put : CN y_T_put (.code y_T_put prog_4_method_7_code 3 none) prog_4_method_7_code 3 none [] 2 := ⟨Or.inl ⟨rfl, rfl⟩, mw_376, mw_11, ⟨by decide +kernel, by decide +kernel⟩, by decide +kernel⟩
def f_T_put (σ : Sg) (a0 : Nat) (x1 : Int32) (x2 : Int32) : Option Sg := (if a0 < σ.1 ∧ kd a0 = 2 then (if a0 < σ.1 ∧ kd a0 = 2 then (wi (s_i σ a0 3 ((g_i σ a0 3) ||| ((1 : Int32) <<< (x1 &&& 31)))) (fun s1 => (if a0 < s1.1 ∧ kd a0 = 2 then rc (g_r s1 a0 6) none (fun b2 => (if (b2 < s1.1 ∧ kd b2 = 10) ∧ inb x1 (ln b2) = true then (wi (s_i s1 b2 x1.toNatClampNeg x2) (fun s3 => (some s3))) else none)) else none))) else none) else none)
set_option maxRecDepth 100000 in
set_option maxHeartbeats 4000000 in
theorem k_T_put (l : Launch) (hl : l.stackTraces = false) (σ : Sg) (a0 : Nat) (x1 : Int32) (x2 : Int32) (r : Sg) (h : f_T_put σ a0 x1 x2 = some r) : Con l y_T_put (.code y_T_put prog_4_method_7_code 3 none) rm_T_put [.ref a0, .int x1, .int x2] σ (mkV r) := by
  refine Con.of (mk := mkV) (o := f_T_put σ a0 x1 x2) (z := r) (L0 := [(0, .ref a0), (1, .int x1), (2, .int x2)]) (bytes := prog_4_method_7_code) (maxL := 3) (ret := none) (hh := []) hl (by decide +kernel) (Or.inl ⟨rfl, rfl⟩) (by simp [Value.category]) (Nat.le_of_ble_eq_true rfl) rfl (fun Γ K S T hI => ?_) h rfl
  unfold f_T_put
  refine g_aload_n (pc := 0) (j := 0) K d_T_put_0 rfl ?_
  refine g_dup (pc := 1) K d_T_put_1 rfl ?_
  refine g_getI (pc := 2) K fl_T_18 d_T_put_2 ?_
  refine g_iconst (pc := 5) (v := 1) K d_T_put_5 (by decide) ?_
  refine g_iload_n (pc := 6) (j := 1) K d_T_put_6 rfl ?_
  refine g_ishl (pc := 7) K d_T_put_7 ?_
  refine g_ior (pc := 8) K d_T_put_8 ?_
  refine g_putI (pc := 9) K fl_T_18 d_T_put_9 ?_
  refine g_wi (fun s1 _ => ?_)
  refine g_aload_n (pc := 12) (j := 0) K d_T_put_12 rfl ?_
  refine g_getR (pc := 13) K fl_T_28 d_T_put_13 (fun _ => ?_) (fun b2 _ => ?_)
  · exact g_none
  · refine g_iload_n (pc := 16) (j := 1) K d_T_put_16 rfl ?_
    refine g_iload_n (pc := 17) (j := 2) K d_T_put_17 rfl ?_
    refine g_iast (pc := 18) K d_T_put_18 ?_
    refine g_wi (fun s3 _ => ?_)
    exact g_vret (pc := 19) K S d_T_put_19 (by decide) (by decide) rfl
