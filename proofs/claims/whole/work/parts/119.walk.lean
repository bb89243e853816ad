-- TapirGroupModel.decide(I)I
def y_M_decide : MethodName := ⟨"TapirGroupModel", "decide", "(I)I"⟩
abbrev rm_M_decide : Room := { frames := 3, cells := 0, slots := 0, locals := 63 }
theorem d_M_decide_0 : decode prog_6_method_24_code 0 = .ok (.aload_n 0, 1) := by decide +kernel
theorem d_M_decide_1 : decode prog_6_method_24_code 1 = .ok (.iload_n 1, 1) := by decide +kernel
theorem d_M_decide_2 : decode prog_6_method_24_code 2 = .ok (.invokestatic 88, 3) := by decide +kernel
theorem d_M_decide_5 : decode prog_6_method_24_code 5 = .ok (.ifCond .ne 7, 3) := by decide +kernel
theorem d_M_decide_8 : decode prog_6_method_24_code 8 = .ok (.iconst 1, 1) := by decide +kernel
theorem d_M_decide_9 : decode prog_6_method_24_code 9 = .ok (.goto 27, 3) := by decide +kernel
theorem d_M_decide_12 : decode prog_6_method_24_code 12 = .ok (.aload_n 0, 1) := by decide +kernel
theorem d_M_decide_13 : decode prog_6_method_24_code 13 = .ok (.iload_n 1, 1) := by decide +kernel
theorem d_M_decide_14 : decode prog_6_method_24_code 14 = .ok (.invokevirtual 112, 3) := by decide +kernel
theorem d_M_decide_17 : decode prog_6_method_24_code 17 = .ok (.iconst 2, 1) := by decide +kernel
theorem d_M_decide_18 : decode prog_6_method_24_code 18 = .ok (.if_icmp .ne 13, 3) := by decide +kernel
theorem d_M_decide_21 : decode prog_6_method_24_code 21 = .ok (.aload_n 0, 1) := by decide +kernel
theorem d_M_decide_22 : decode prog_6_method_24_code 22 = .ok (.iload_n 1, 1) := by decide +kernel
theorem d_M_decide_23 : decode prog_6_method_24_code 23 = .ok (.iconst (-1), 1) := by decide +kernel
theorem d_M_decide_24 : decode prog_6_method_24_code 24 = .ok (.invokevirtual 138, 3) := by decide +kernel
theorem d_M_decide_27 : decode prog_6_method_24_code 27 = .ok (.iconst 2, 1) := by decide +kernel
theorem d_M_decide_28 : decode prog_6_method_24_code 28 = .ok (.if_icmp .ge 7, 3) := by decide +kernel
theorem d_M_decide_31 : decode prog_6_method_24_code 31 = .ok (.iconst 2, 1) := by decide +kernel
theorem d_M_decide_32 : decode prog_6_method_24_code 32 = .ok (.goto 4, 3) := by decide +kernel
theorem d_M_decide_35 : decode prog_6_method_24_code 35 = .ok (.iconst 0, 1) := by decide +kernel
theorem d_M_decide_36 : decode prog_6_method_24_code 36 = .ok (.invokevirtual 99, 3) := by decide +kernel
theorem d_M_decide_39 : decode prog_6_method_24_code 39 = .ok (.ifCond .ne 5, 3) := by decide +kernel
theorem d_M_decide_42 : decode prog_6_method_24_code 42 = .ok (.iconst 0, 1) := by decide +kernel
theorem d_M_decide_43 : decode prog_6_method_24_code 43 = .ok (.ireturn, 1) := by decide +kernel
theorem d_M_decide_44 : decode prog_6_method_24_code 44 = .ok (.aload_n 0, 1) := by decide +kernel
theorem d_M_decide_45 : decode prog_6_method_24_code 45 = .ok (.iload_n 1, 1) := by decide +kernel
theorem d_M_decide_46 : decode prog_6_method_24_code 46 = .ok (.invokevirtual 141, 3) := by decide +kernel
theorem d_M_decide_49 : decode prog_6_method_24_code 49 = .ok (.istore_n 2, 1) := by decide +kernel
theorem d_M_decide_50 : decode prog_6_method_24_code 50 = .ok (.iload_n 2, 1) := by decide +kernel
theorem d_M_decide_51 : decode prog_6_method_24_code 51 = .ok (.iconst 3, 1) := by decide +kernel
theorem d_M_decide_52 : decode prog_6_method_24_code 52 = .ok (.if_icmp .ne 5, 3) := by decide +kernel
theorem d_M_decide_55 : decode prog_6_method_24_code 55 = .ok (.iconst 3, 1) := by decide +kernel
theorem d_M_decide_56 : decode prog_6_method_24_code 56 = .ok (.ireturn, 1) := by decide +kernel
theorem d_M_decide_57 : decode prog_6_method_24_code 57 = .ok (.aload_n 0, 1) := by decide +kernel
theorem d_M_decide_58 : decode prog_6_method_24_code 58 = .ok (.iload_n 1, 1) := by decide +kernel
theorem d_M_decide_59 : decode prog_6_method_24_code 59 = .ok (.iconst 0, 1) := by decide +kernel
theorem d_M_decide_60 : decode prog_6_method_24_code 60 = .ok (.invokevirtual 138, 3) := by decide +kernel
theorem d_M_decide_63 : decode prog_6_method_24_code 63 = .ok (.iconst 3, 1) := by decide +kernel
theorem d_M_decide_64 : decode prog_6_method_24_code 64 = .ok (.if_icmp .eq 23, 3) := by decide +kernel
theorem d_M_decide_67 : decode prog_6_method_24_code 67 = .ok (.aload_n 0, 1) := by decide +kernel
theorem d_M_decide_68 : decode prog_6_method_24_code 68 = .ok (.iload_n 1, 1) := by decide +kernel
theorem d_M_decide_69 : decode prog_6_method_24_code 69 = .ok (.iconst 2, 1) := by decide +kernel
theorem d_M_decide_70 : decode prog_6_method_24_code 70 = .ok (.invokevirtual 138, 3) := by decide +kernel
theorem d_M_decide_73 : decode prog_6_method_24_code 73 = .ok (.iconst 3, 1) := by decide +kernel
theorem d_M_decide_74 : decode prog_6_method_24_code 74 = .ok (.if_icmp .eq 13, 3) := by decide +kernel
theorem d_M_decide_77 : decode prog_6_method_24_code 77 = .ok (.aload_n 0, 1) := by decide +kernel
theorem d_M_decide_78 : decode prog_6_method_24_code 78 = .ok (.iload_n 1, 1) := by decide +kernel
theorem d_M_decide_79 : decode prog_6_method_24_code 79 = .ok (.iconst 1, 1) := by decide +kernel
theorem d_M_decide_80 : decode prog_6_method_24_code 80 = .ok (.invokevirtual 138, 3) := by decide +kernel
theorem d_M_decide_83 : decode prog_6_method_24_code 83 = .ok (.iconst 3, 1) := by decide +kernel
theorem d_M_decide_84 : decode prog_6_method_24_code 84 = .ok (.if_icmp .ne 7, 3) := by decide +kernel
theorem d_M_decide_87 : decode prog_6_method_24_code 87 = .ok (.iconst 1, 1) := by decide +kernel
theorem d_M_decide_88 : decode prog_6_method_24_code 88 = .ok (.goto 4, 3) := by decide +kernel
theorem d_M_decide_91 : decode prog_6_method_24_code 91 = .ok (.iconst 0, 1) := by decide +kernel
theorem d_M_decide_92 : decode prog_6_method_24_code 92 = .ok (.istore_n 3, 1) := by decide +kernel
theorem d_M_decide_93 : decode prog_6_method_24_code 93 = .ok (.aload_n 0, 1) := by decide +kernel
theorem d_M_decide_94 : decode prog_6_method_24_code 94 = .ok (.getfield 40, 3) := by decide +kernel
theorem d_M_decide_97 : decode prog_6_method_24_code 97 = .ok (.iload_n 1, 1) := by decide +kernel
theorem d_M_decide_98 : decode prog_6_method_24_code 98 = .ok (.iload_n 2, 1) := by decide +kernel
theorem d_M_decide_99 : decode prog_6_method_24_code 99 = .ok (.iastore, 1) := by decide +kernel
theorem d_M_decide_100 : decode prog_6_method_24_code 100 = .ok (.aload_n 0, 1) := by decide +kernel
theorem d_M_decide_101 : decode prog_6_method_24_code 101 = .ok (.getfield 34, 3) := by decide +kernel
theorem d_M_decide_104 : decode prog_6_method_24_code 104 = .ok (.iload_n 1, 1) := by decide +kernel
theorem d_M_decide_105 : decode prog_6_method_24_code 105 = .ok (.iload_n 3, 1) := by decide +kernel
theorem d_M_decide_106 : decode prog_6_method_24_code 106 = .ok (.ifCond .ne 7, 3) := by decide +kernel
theorem d_M_decide_109 : decode prog_6_method_24_code 109 = .ok (.iconst 3, 1) := by decide +kernel
theorem d_M_decide_110 : decode prog_6_method_24_code 110 = .ok (.goto 12, 3) := by decide +kernel
theorem d_M_decide_113 : decode prog_6_method_24_code 113 = .ok (.iload_n 2, 1) := by decide +kernel
theorem d_M_decide_114 : decode prog_6_method_24_code 114 = .ok (.ifCond .ne 7, 3) := by decide +kernel
theorem d_M_decide_117 : decode prog_6_method_24_code 117 = .ok (.iconst 4, 1) := by decide +kernel
theorem d_M_decide_118 : decode prog_6_method_24_code 118 = .ok (.goto 4, 3) := by decide +kernel
theorem d_M_decide_121 : decode prog_6_method_24_code 121 = .ok (.iconst 5, 1) := by decide +kernel
theorem d_M_decide_122 : decode prog_6_method_24_code 122 = .ok (.iastore, 1) := by decide +kernel
theorem d_M_decide_123 : decode prog_6_method_24_code 123 = .ok (.iload_n 2, 1) := by decide +kernel
theorem d_M_decide_124 : decode prog_6_method_24_code 124 = .ok (.ireturn, 1) := by decide +kernel
theorem cn_M_decide : CN y_M_decide (.code y_M_decide prog_6_method_24_code 4 (some .int)) prog_6_method_24_code 4 (some .int) [] 1 := ⟨Or.inl ⟨rfl, rfl⟩, mw_732, mw_5, ⟨by decide +kernel, by decide +kernel⟩, by decide +kernel⟩
def b_M_decide_122  (σ : Sg) (x2 : Int32) (t0 : Nat) (t1 : Int32) (t2 : Int32) : Option (Int32 × Sg) := (if (t0 < σ.1 ∧ kd t0 = 10) ∧ inb t1 (ln t0) = true then (wi (s_i σ t0 t1.toNatClampNeg t2) (fun s12 => (some (x2, s12)))) else none)
set_option maxRecDepth 100000 in
set_option maxHeartbeats 4000000 in
theorem gb_M_decide_122 {Γ : GX} (K : Cx Γ "TapirGroupModel" prog_6_method_24_code 4 rm_M_decide) (S : Std Γ (some .int)) (T : Tb Γ []) (hI : y_M_decide.name = "<init>" → Ini Γ) (σ : Sg) (x2 : Int32) (t0 : Nat) (t1 : Int32) (t2 : Int32) : G Γ mkW 0 0 122 [(2, .int x2)] [.int t2, .int t1, .ref t0] σ (b_M_decide_122 σ x2 t0 t1 t2) := by
  unfold b_M_decide_122
  refine g_iast (pc := 122) K d_M_decide_122 ?_
  refine g_wi (fun s12 _ => ?_)
  refine g_iload_n (pc := 123) (j := 0) K d_M_decide_123 rfl ?_
  exact g_iret (pc := 124) K S rfl d_M_decide_124 (by decide) (by decide) rfl
def b_M_decide_92  (σ : Sg) (a0 : Nat) (x1 : Int32) (x2 : Int32) (t0 : Int32) : Option (Int32 × Sg) := (if a0 < σ.1 ∧ kd a0 = 4 then rc (g_r σ a0 12) none (fun b9 => (if (b9 < σ.1 ∧ kd b9 = 10) ∧ inb x1 (ln b9) = true then (wi (s_i σ b9 x1.toNatClampNeg x2) (fun s10 => (if a0 < s10.1 ∧ kd a0 = 4 then rc (g_r s10 a0 10) none (fun b11 => (if t0 = 0 then (b_M_decide_122 s10 x2 b11 x1 (3 : Int32)) else (if x2 = 0 then (b_M_decide_122 s10 x2 b11 x1 (4 : Int32)) else (b_M_decide_122 s10 x2 b11 x1 (5 : Int32))))) else none))) else none)) else none)
set_option maxRecDepth 100000 in
set_option maxHeartbeats 4000000 in
theorem gb_M_decide_92 {Γ : GX} (K : Cx Γ "TapirGroupModel" prog_6_method_24_code 4 rm_M_decide) (S : Std Γ (some .int)) (T : Tb Γ []) (hI : y_M_decide.name = "<init>" → Ini Γ) (σ : Sg) (a0 : Nat) (x1 : Int32) (x2 : Int32) (t0 : Int32) : G Γ mkW 0 0 92 [(0, .ref a0), (1, .int x1), (2, .int x2)] [.int t0] σ (b_M_decide_92 σ a0 x1 x2 t0) := by
  unfold b_M_decide_92
  refine g_istore_n (pc := 92) (L' := [(3, .int t0), (0, .ref a0), (1, .int x1), (2, .int x2)]) K d_M_decide_92 (by decide) rfl ?_
  refine g_aload_n (pc := 93) (j := 1) K d_M_decide_93 rfl ?_
  refine g_getR (pc := 94) K fl_M_40 d_M_decide_94 (fun _ => ?_) (fun b9 _ => ?_)
  · exact g_none
  · refine g_iload_n (pc := 97) (j := 2) K d_M_decide_97 rfl ?_
    refine g_iload_n (pc := 98) (j := 3) K d_M_decide_98 rfl ?_
    refine g_iast (pc := 99) K d_M_decide_99 ?_
    refine g_wi (fun s10 _ => ?_)
    refine g_aload_n (pc := 100) (j := 1) K d_M_decide_100 rfl ?_
    refine g_getR (pc := 101) K fl_M_34 d_M_decide_101 (fun _ => ?_) (fun b11 _ => ?_)
    · exact g_none
    · refine g_iload_n (pc := 104) (j := 2) K d_M_decide_104 rfl ?_
      refine g_iload_n (pc := 105) (j := 0) K d_M_decide_105 rfl ?_
      refine g_if_ne (pc := 106) (tgt := 113) K d_M_decide_106 (by decide) (fun _ => ?_) (fun _ => ?_)
      · refine g_iload_n (pc := 113) (j := 3) K d_M_decide_113 rfl ?_
        refine g_if_ne (pc := 114) (tgt := 121) K d_M_decide_114 (by decide) (fun _ => ?_) (fun _ => ?_)
        · refine g_iconst (pc := 121) (v := 5) K d_M_decide_121 (by decide) ?_
          refine g_sub (L' := [(2, .int x2)]) [3] rfl ?_
          exact gb_M_decide_122 K S T hI s10 x2 b11 x1 (5 : Int32)
        · refine g_iconst (pc := 117) (v := 4) K d_M_decide_117 (by decide) ?_
          refine g_goto (pc := 118) (tgt := 122) K d_M_decide_118 (by decide) ?_
          refine g_sub (L' := [(2, .int x2)]) [3] rfl ?_
          exact gb_M_decide_122 K S T hI s10 x2 b11 x1 (4 : Int32)
      · refine g_iconst (pc := 109) (v := 3) K d_M_decide_109 (by decide) ?_
        refine g_goto (pc := 110) (tgt := 122) K d_M_decide_110 (by decide) ?_
        refine g_sub (L' := [(2, .int x2)]) [3] rfl ?_
        exact gb_M_decide_122 K S T hI s10 x2 b11 x1 (3 : Int32)
def b_M_decide_87  (σ : Sg) (a0 : Nat) (x1 : Int32) (x2 : Int32) : Option (Int32 × Sg) := (b_M_decide_92 σ a0 x1 x2 (1 : Int32))
set_option maxRecDepth 100000 in
set_option maxHeartbeats 4000000 in
theorem gb_M_decide_87 {Γ : GX} (K : Cx Γ "TapirGroupModel" prog_6_method_24_code 4 rm_M_decide) (S : Std Γ (some .int)) (T : Tb Γ []) (hI : y_M_decide.name = "<init>" → Ini Γ) (σ : Sg) (a0 : Nat) (x1 : Int32) (x2 : Int32) : G Γ mkW 0 0 87 [(0, .ref a0), (1, .int x1), (2, .int x2)] [] σ (b_M_decide_87 σ a0 x1 x2) := by
  unfold b_M_decide_87
  refine g_iconst (pc := 87) (v := 1) K d_M_decide_87 (by decide) ?_
  refine g_goto (pc := 88) (tgt := 92) K d_M_decide_88 (by decide) ?_
  exact gb_M_decide_92 K S T hI σ a0 x1 x2 (1 : Int32)
def b_M_decide_36  (σ : Sg) (a0 : Nat) (x1 : Int32) (t0 : Nat) (t1 : Int32) : Option (Int32 × Sg) := (if t0 < σ.1 ∧ kd t0 = 4 then (f_M_says σ t0 t1).bind (fun w4 => (if w4.1 = 0 then (some ((0 : Int32), w4.2)) else (if a0 < w4.2.1 ∧ kd a0 = 4 then (f_M_byRule w4.2 a0 x1).bind (fun v5 => (if v5 = (3 : Int32) then (some ((3 : Int32), w4.2)) else (if a0 < w4.2.1 ∧ kd a0 = 4 then (f_M_count w4.2 a0 x1 (0 : Int32)).bind (fun v6 => (if v6 = (3 : Int32) then (b_M_decide_87 w4.2 a0 x1 v5) else (if a0 < w4.2.1 ∧ kd a0 = 4 then (f_M_count w4.2 a0 x1 (2 : Int32)).bind (fun v7 => (if v7 = (3 : Int32) then (b_M_decide_87 w4.2 a0 x1 v5) else (if a0 < w4.2.1 ∧ kd a0 = 4 then (f_M_count w4.2 a0 x1 (1 : Int32)).bind (fun v8 => (if v8 = (3 : Int32) then (b_M_decide_87 w4.2 a0 x1 v5) else (b_M_decide_92 w4.2 a0 x1 v5 (0 : Int32)))) else none))) else none))) else none))) else none))) else none)
set_option maxRecDepth 100000 in
set_option maxHeartbeats 4000000 in
theorem gb_M_decide_36 {Γ : GX} (K : Cx Γ "TapirGroupModel" prog_6_method_24_code 4 rm_M_decide) (S : Std Γ (some .int)) (T : Tb Γ []) (hI : y_M_decide.name = "<init>" → Ini Γ) (σ : Sg) (a0 : Nat) (x1 : Int32) (t0 : Nat) (t1 : Int32) : G Γ mkW 0 0 36 [(0, .ref a0), (1, .int x1)] [.int t1, .ref t0] σ (b_M_decide_36 σ a0 x1 t0 t1) := by
  unfold b_M_decide_36
  refine g_callV (pc := 36) (ci := 4) (a := t0) (vs := [.int t1]) (st := []) (mkc := mkW) K rfl (by decide) cn_M_says (fun l hl r hr => k_M_says l hl _ _ _ r hr) mw_666 mw_668 ms_15 ⟨by decide, by decide, by decide, by decide⟩ d_M_decide_36 rfl rfl (Nat.le_of_ble_eq_true rfl) (fun w4 _ => ?_)
  change G Γ mkW 0 0 39 [(0, .ref a0), (1, .int x1)] [.int w4.1] w4.2 _
  refine g_if_ne (pc := 39) (tgt := 44) K d_M_decide_39 (by decide) (fun _ => ?_) (fun _ => ?_)
  · refine g_aload_n (pc := 44) (j := 0) K d_M_decide_44 rfl ?_
    refine g_iload_n (pc := 45) (j := 1) K d_M_decide_45 rfl ?_
    refine g_callV (pc := 46) (ci := 4) (a := a0) (vs := [.int x1]) (st := []) (mkc := mkI w4.2) K rfl (by decide) cn_M_byRule (fun l hl r hr => k_M_byRule l hl _ _ _ r hr) mw_737 mw_739 ms_26 ⟨by decide, by decide, by decide, by decide⟩ d_M_decide_46 rfl rfl (Nat.le_of_ble_eq_true rfl) (fun v5 _ => ?_)
    change G Γ mkW 0 0 49 [(0, .ref a0), (1, .int x1)] [.int v5] w4.2 _
    refine g_istore_n (pc := 49) (L' := [(2, .int v5), (0, .ref a0), (1, .int x1)]) K d_M_decide_49 (by decide) rfl ?_
    refine g_iload_n (pc := 50) (j := 0) K d_M_decide_50 rfl ?_
    refine g_iconst (pc := 51) (v := 3) K d_M_decide_51 (by decide) ?_
    refine g_icmp_ne (pc := 52) (tgt := 57) K d_M_decide_52 (by decide) (fun _ => ?_) (fun _ => ?_)
    · refine g_aload_n (pc := 57) (j := 1) K d_M_decide_57 rfl ?_
      refine g_iload_n (pc := 58) (j := 2) K d_M_decide_58 rfl ?_
      refine g_iconst (pc := 59) (v := 0) K d_M_decide_59 (by decide) ?_
      refine g_callV (pc := 60) (ci := 4) (a := a0) (vs := [.int x1, .int (0 : Int32)]) (st := []) (mkc := mkI w4.2) K rfl (by decide) cn_M_count (fun l hl r hr => k_M_count l hl _ _ _ _ r hr) mw_733 mw_735 ms_25 ⟨by decide, by decide, by decide, by decide⟩ d_M_decide_60 rfl rfl (Nat.le_of_ble_eq_true rfl) (fun v6 _ => ?_)
      change G Γ mkW 0 0 63 [(2, .int v5), (0, .ref a0), (1, .int x1)] [.int v6] w4.2 _
      refine g_iconst (pc := 63) (v := 3) K d_M_decide_63 (by decide) ?_
      refine g_icmp_eq (pc := 64) (tgt := 87) K d_M_decide_64 (by decide) (fun _ => ?_) (fun _ => ?_)
      · refine g_sub (L' := [(0, .ref a0), (1, .int x1), (2, .int v5)]) [1, 2, 0] rfl ?_
        exact gb_M_decide_87 K S T hI w4.2 a0 x1 v5
      · refine g_aload_n (pc := 67) (j := 1) K d_M_decide_67 rfl ?_
        refine g_iload_n (pc := 68) (j := 2) K d_M_decide_68 rfl ?_
        refine g_iconst (pc := 69) (v := 2) K d_M_decide_69 (by decide) ?_
        refine g_callV (pc := 70) (ci := 4) (a := a0) (vs := [.int x1, .int (2 : Int32)]) (st := []) (mkc := mkI w4.2) K rfl (by decide) cn_M_count (fun l hl r hr => k_M_count l hl _ _ _ _ r hr) mw_733 mw_735 ms_25 ⟨by decide, by decide, by decide, by decide⟩ d_M_decide_70 rfl rfl (Nat.le_of_ble_eq_true rfl) (fun v7 _ => ?_)
        change G Γ mkW 0 0 73 [(2, .int v5), (0, .ref a0), (1, .int x1)] [.int v7] w4.2 _
        refine g_iconst (pc := 73) (v := 3) K d_M_decide_73 (by decide) ?_
        refine g_icmp_eq (pc := 74) (tgt := 87) K d_M_decide_74 (by decide) (fun _ => ?_) (fun _ => ?_)
        · refine g_sub (L' := [(0, .ref a0), (1, .int x1), (2, .int v5)]) [1, 2, 0] rfl ?_
          exact gb_M_decide_87 K S T hI w4.2 a0 x1 v5
        · refine g_aload_n (pc := 77) (j := 1) K d_M_decide_77 rfl ?_
          refine g_iload_n (pc := 78) (j := 2) K d_M_decide_78 rfl ?_
          refine g_iconst (pc := 79) (v := 1) K d_M_decide_79 (by decide) ?_
          refine g_callV (pc := 80) (ci := 4) (a := a0) (vs := [.int x1, .int (1 : Int32)]) (st := []) (mkc := mkI w4.2) K rfl (by decide) cn_M_count (fun l hl r hr => k_M_count l hl _ _ _ _ r hr) mw_733 mw_735 ms_25 ⟨by decide, by decide, by decide, by decide⟩ d_M_decide_80 rfl rfl (Nat.le_of_ble_eq_true rfl) (fun v8 _ => ?_)
          change G Γ mkW 0 0 83 [(2, .int v5), (0, .ref a0), (1, .int x1)] [.int v8] w4.2 _
          refine g_iconst (pc := 83) (v := 3) K d_M_decide_83 (by decide) ?_
          refine g_icmp_ne (pc := 84) (tgt := 91) K d_M_decide_84 (by decide) (fun _ => ?_) (fun _ => ?_)
          · refine g_iconst (pc := 91) (v := 0) K d_M_decide_91 (by decide) ?_
            refine g_sub (L' := [(0, .ref a0), (1, .int x1), (2, .int v5)]) [1, 2, 0] rfl ?_
            exact gb_M_decide_92 K S T hI w4.2 a0 x1 v5 (0 : Int32)
          · refine g_sub (L' := [(0, .ref a0), (1, .int x1), (2, .int v5)]) [1, 2, 0] rfl ?_
            exact gb_M_decide_87 K S T hI w4.2 a0 x1 v5
    · refine g_iconst (pc := 55) (v := 3) K d_M_decide_55 (by decide) ?_
      exact g_iret (pc := 56) K S rfl d_M_decide_56 (by decide) (by decide) rfl
  · refine g_iconst (pc := 42) (v := 0) K d_M_decide_42 (by decide) ?_
    exact g_iret (pc := 43) K S rfl d_M_decide_43 (by decide) (by decide) rfl
def b_M_decide_31  (σ : Sg) (a0 : Nat) (x1 : Int32) (t0 : Nat) : Option (Int32 × Sg) := (b_M_decide_36 σ a0 x1 t0 (2 : Int32))
set_option maxRecDepth 100000 in
set_option maxHeartbeats 4000000 in
theorem gb_M_decide_31 {Γ : GX} (K : Cx Γ "TapirGroupModel" prog_6_method_24_code 4 rm_M_decide) (S : Std Γ (some .int)) (T : Tb Γ []) (hI : y_M_decide.name = "<init>" → Ini Γ) (σ : Sg) (a0 : Nat) (x1 : Int32) (t0 : Nat) : G Γ mkW 0 0 31 [(0, .ref a0), (1, .int x1)] [.ref t0] σ (b_M_decide_31 σ a0 x1 t0) := by
  unfold b_M_decide_31
  refine g_iconst (pc := 31) (v := 2) K d_M_decide_31 (by decide) ?_
  refine g_goto (pc := 32) (tgt := 36) K d_M_decide_32 (by decide) ?_
  exact gb_M_decide_36 K S T hI σ a0 x1 t0 (2 : Int32)
def f_M_decide (σ : Sg) (a0 : Nat) (x1 : Int32) : Option (Int32 × Sg) := ((f_M_isClient σ x1).bind (fun v1 => (if v1 = 0 then (b_M_decide_36 σ a0 x1 a0 (1 : Int32)) else (if a0 < σ.1 ∧ kd a0 = 4 then (f_M_stateOf σ a0 x1).bind (fun v2 => (if v2 = (2 : Int32) then (if a0 < σ.1 ∧ kd a0 = 4 then (f_M_count σ a0 x1 (-1 : Int32)).bind (fun v3 => (if (2 : Int32) ≤ v3 then (b_M_decide_36 σ a0 x1 a0 (0 : Int32)) else (b_M_decide_31 σ a0 x1 a0))) else none) else (b_M_decide_31 σ a0 x1 a0))) else none))))
set_option maxRecDepth 100000 in
set_option maxHeartbeats 4000000 in
theorem k_M_decide (l : Launch) (hl : l.stackTraces = false) (σ : Sg) (a0 : Nat) (x1 : Int32) (r : (Int32 × Sg)) (h : f_M_decide σ a0 x1 = some r) : Con l y_M_decide (.code y_M_decide prog_6_method_24_code 4 (some .int)) rm_M_decide [.ref a0, .int x1] σ (mkW r) := by
  refine Con.of (mk := mkW) (o := f_M_decide σ a0 x1) (z := r) (L0 := [(0, .ref a0), (1, .int x1)]) (bytes := prog_6_method_24_code) (maxL := 4) (ret := (some .int)) (hh := []) hl (by decide +kernel) (Or.inl ⟨rfl, rfl⟩) (by simp [Value.category]) (Nat.le_of_ble_eq_true rfl) rfl (fun Γ K S T hI => ?_) h rfl
  unfold f_M_decide
  refine g_aload_n (pc := 0) (j := 0) K d_M_decide_0 rfl ?_
  refine g_iload_n (pc := 1) (j := 1) K d_M_decide_1 rfl ?_
  refine g_callS (pc := 2) (vs := [.int x1]) (st := [.ref a0]) (mkc := mkI σ) K cn_M_isClient (fun l hl r hr => k_M_isClient l hl _ _ r hr) mw_660 mw_661 ⟨by decide, by decide, by decide, by decide⟩ d_M_decide_2 rfl rfl (Nat.le_of_ble_eq_true rfl) (fun v1 _ => ?_)
  change G Γ mkW 0 0 5 [(0, .ref a0), (1, .int x1)] [.int v1, .ref a0] σ _
  refine g_if_ne (pc := 5) (tgt := 12) K d_M_decide_5 (by decide) (fun _ => ?_) (fun _ => ?_)
  · refine g_aload_n (pc := 12) (j := 0) K d_M_decide_12 rfl ?_
    refine g_iload_n (pc := 13) (j := 1) K d_M_decide_13 rfl ?_
    refine g_callV (pc := 14) (ci := 4) (a := a0) (vs := [.int x1]) (st := [.ref a0]) (mkc := mkI σ) K rfl (by decide) cn_M_stateOf (fun l hl r hr => k_M_stateOf l hl _ _ _ r hr) mw_684 mw_686 ms_17 ⟨by decide, by decide, by decide, by decide⟩ d_M_decide_14 rfl rfl (Nat.le_of_ble_eq_true rfl) (fun v2 _ => ?_)
    change G Γ mkW 0 0 17 [(0, .ref a0), (1, .int x1)] [.int v2, .ref a0] σ _
    refine g_iconst (pc := 17) (v := 2) K d_M_decide_17 (by decide) ?_
    refine g_icmp_ne (pc := 18) (tgt := 31) K d_M_decide_18 (by decide) (fun _ => ?_) (fun _ => ?_)
    · exact gb_M_decide_31 K S T hI σ a0 x1 a0
    · refine g_aload_n (pc := 21) (j := 0) K d_M_decide_21 rfl ?_
      refine g_iload_n (pc := 22) (j := 1) K d_M_decide_22 rfl ?_
      refine g_iconst (pc := 23) (v := -1) K d_M_decide_23 (by decide) ?_
      refine g_callV (pc := 24) (ci := 4) (a := a0) (vs := [.int x1, .int (-1 : Int32)]) (st := [.ref a0]) (mkc := mkI σ) K rfl (by decide) cn_M_count (fun l hl r hr => k_M_count l hl _ _ _ _ r hr) mw_733 mw_735 ms_25 ⟨by decide, by decide, by decide, by decide⟩ d_M_decide_24 rfl rfl (Nat.le_of_ble_eq_true rfl) (fun v3 _ => ?_)
      change G Γ mkW 0 0 27 [(0, .ref a0), (1, .int x1)] [.int v3, .ref a0] σ _
      refine g_iconst (pc := 27) (v := 2) K d_M_decide_27 (by decide) ?_
      refine g_icmp_ge (pc := 28) (tgt := 35) K d_M_decide_28 (by decide) (fun _ => ?_) (fun _ => ?_)
      · refine g_iconst (pc := 35) (v := 0) K d_M_decide_35 (by decide) ?_
        exact gb_M_decide_36 K S T hI σ a0 x1 a0 (0 : Int32)
      · exact gb_M_decide_31 K S T hI σ a0 x1 a0
  · refine g_iconst (pc := 8) (v := 1) K d_M_decide_8 (by decide) ?_
    refine g_goto (pc := 9) (tgt := 36) K d_M_decide_9 (by decide) ?_
    exact gb_M_decide_36 K S T hI σ a0 x1 a0 (1 : Int32)
-- TapirGroupModel.confirmations(I)I
def y_M_confirmations : MethodName := ⟨"TapirGroupModel", "confirmations", "(I)I"⟩
abbrev rm_M_confirmations : Room := { frames := 0, cells := 0, slots := 0, locals := 0 }
theorem d_M_confirmations_0 : decode prog_6_method_25_code 0 = .ok (.iconst 0, 1) := by decide +kernel
theorem d_M_confirmations_1 : decode prog_6_method_25_code 1 = .ok (.istore_n 2, 1) := by decide +kernel
theorem d_M_confirmations_2 : decode prog_6_method_25_code 2 = .ok (.iconst 3, 1) := by decide +kernel
theorem d_M_confirmations_3 : decode prog_6_method_25_code 3 = .ok (.iload_n 1, 1) := by decide +kernel
theorem d_M_confirmations_4 : decode prog_6_method_25_code 4 = .ok (.imul, 1) := by decide +kernel
theorem d_M_confirmations_5 : decode prog_6_method_25_code 5 = .ok (.istore_n 3, 1) := by decide +kernel
theorem d_M_confirmations_6 : decode prog_6_method_25_code 6 = .ok (.iload_n 3, 1) := by decide +kernel
theorem d_M_confirmations_7 : decode prog_6_method_25_code 7 = .ok (.iconst 3, 1) := by decide +kernel
theorem d_M_confirmations_8 : decode prog_6_method_25_code 8 = .ok (.iload_n 1, 1) := by decide +kernel
theorem d_M_confirmations_9 : decode prog_6_method_25_code 9 = .ok (.iconst 1, 1) := by decide +kernel
theorem d_M_confirmations_10 : decode prog_6_method_25_code 10 = .ok (.iadd, 1) := by decide +kernel
theorem d_M_confirmations_11 : decode prog_6_method_25_code 11 = .ok (.imul, 1) := by decide +kernel
theorem d_M_confirmations_12 : decode prog_6_method_25_code 12 = .ok (.if_icmp .ge 26, 3) := by decide +kernel
theorem d_M_confirmations_15 : decode prog_6_method_25_code 15 = .ok (.iload_n 2, 1) := by decide +kernel
theorem d_M_confirmations_16 : decode prog_6_method_25_code 16 = .ok (.aload_n 0, 1) := by decide +kernel
theorem d_M_confirmations_17 : decode prog_6_method_25_code 17 = .ok (.getfield 49, 3) := by decide +kernel
theorem d_M_confirmations_20 : decode prog_6_method_25_code 20 = .ok (.iload_n 3, 1) := by decide +kernel
theorem d_M_confirmations_21 : decode prog_6_method_25_code 21 = .ok (.baload, 1) := by decide +kernel
theorem d_M_confirmations_22 : decode prog_6_method_25_code 22 = .ok (.ifCond .eq 7, 3) := by decide +kernel
theorem d_M_confirmations_25 : decode prog_6_method_25_code 25 = .ok (.iconst 1, 1) := by decide +kernel
theorem d_M_confirmations_26 : decode prog_6_method_25_code 26 = .ok (.goto 4, 3) := by decide +kernel
theorem d_M_confirmations_29 : decode prog_6_method_25_code 29 = .ok (.iconst 0, 1) := by decide +kernel
theorem d_M_confirmations_30 : decode prog_6_method_25_code 30 = .ok (.iadd, 1) := by decide +kernel
theorem d_M_confirmations_31 : decode prog_6_method_25_code 31 = .ok (.istore_n 2, 1) := by decide +kernel
theorem d_M_confirmations_32 : decode prog_6_method_25_code 32 = .ok (.iinc 3 1, 3) := by decide +kernel
theorem d_M_confirmations_35 : decode prog_6_method_25_code 35 = .ok (.goto (-29), 3) := by decide +kernel
theorem d_M_confirmations_38 : decode prog_6_method_25_code 38 = .ok (.iload_n 2, 1) := by decide +kernel
theorem d_M_confirmations_39 : decode prog_6_method_25_code 39 = .ok (.ireturn, 1) := by decide +kernel
theorem cn_M_confirmations : CN y_M_confirmations (.code y_M_confirmations prog_6_method_25_code 4 (some .int)) prog_6_method_25_code 4 (some .int) [] 1 := ⟨Or.inl ⟨rfl, rfl⟩, mw_748, mw_5, ⟨by decide +kernel, by decide +kernel⟩, by decide +kernel⟩
def b_M_confirmations_30 (σ : Sg) (k : Nat → Int32 → Int32 → Int32 → Option Int32) (a0 : Nat) (x1 : Int32) (x3 : Int32) (t0 : Int32) (t1 : Int32) : Option Int32 := (wn (t0 + t1) (fun y3 => (k a0 x1 y3 (x3 + 1))))
set_option maxRecDepth 100000 in
set_option maxHeartbeats 4000000 in
theorem gb_M_confirmations_30 {Γ : GX} (K : Cx Γ "TapirGroupModel" prog_6_method_25_code 4 rm_M_confirmations) (S : Std Γ (some .int)) (T : Tb Γ []) (hI : y_M_confirmations.name = "<init>" → Ini Γ) (σ : Sg) (k : Nat → Int32 → Int32 → Int32 → Option Int32) (hk : ∀ (a0 : Nat) (x1 : Int32) (x2 : Int32) (x3 : Int32), G Γ (mkI σ) 0 0 6 [(0, .ref a0), (1, .int x1), (2, .int x2), (3, .int x3)] [] σ (k a0 x1 x2 x3)) (a0 : Nat) (x1 : Int32) (x3 : Int32) (t0 : Int32) (t1 : Int32) : G Γ (mkI σ) 0 0 30 [(0, .ref a0), (1, .int x1), (3, .int x3)] [.int t1, .int t0] σ (b_M_confirmations_30 σ k a0 x1 x3 t0 t1) := by
  unfold b_M_confirmations_30
  refine g_iadd (pc := 30) K d_M_confirmations_30 ?_
  refine g_wn (fun y3 _ => ?_)
  refine g_istore_n (pc := 31) (L' := [(2, .int y3), (0, .ref a0), (1, .int x1), (3, .int x3)]) K d_M_confirmations_31 (by decide) rfl ?_
  refine g_iinc (pc := 32) (j := 3) (v := (x3 + 1)) (L' := [(3, .int (x3 + 1)), (2, .int y3), (0, .ref a0), (1, .int x1)]) K d_M_confirmations_32 rfl (by rfl) (by decide) rfl ?_
  refine g_goto (pc := 35) (tgt := 6) K d_M_confirmations_35 (by decide) ?_
  refine g_sub (L' := [(0, .ref a0), (1, .int x1), (2, .int y3), (3, .int (x3 + 1))]) [2, 3, 1, 0] rfl ?_
  exact hk a0 x1 y3 (x3 + 1)
def b_M_confirmations_6 (σ : Sg) : Nat → Nat → Int32 → Int32 → Int32 → Option Int32
  | 0 => fun _ _ _ _ => none
  | n + 1 => fun a0 x1 x2 x3 => (if ((3 : Int32) * (x1 + (1 : Int32))) ≤ x3 then (some x2) else (if a0 < σ.1 ∧ kd a0 = 4 then rc (g_r σ a0 15) none (fun b2 => (if (b2 < σ.1 ∧ kd b2 = 11) ∧ inb x3 (ln b2) = true then (if (g_i σ b2 x3.toNatClampNeg) = 0 then (b_M_confirmations_30 σ (b_M_confirmations_6 σ n) a0 x1 x3 x2 (0 : Int32)) else (b_M_confirmations_30 σ (b_M_confirmations_6 σ n) a0 x1 x3 x2 (1 : Int32))) else none)) else none))
set_option maxRecDepth 100000 in
set_option maxHeartbeats 4000000 in
theorem gb_M_confirmations_6 {Γ : GX} (K : Cx Γ "TapirGroupModel" prog_6_method_25_code 4 rm_M_confirmations) (S : Std Γ (some .int)) (T : Tb Γ []) (hI : y_M_confirmations.name = "<init>" → Ini Γ) (σ : Sg) (n : Nat) : ∀ (a0 : Nat) (x1 : Int32) (x2 : Int32) (x3 : Int32), G Γ (mkI σ) 0 0 6 [(0, .ref a0), (1, .int x1), (2, .int x2), (3, .int x3)] [] σ (b_M_confirmations_6 σ n a0 x1 x2 x3) := by
  induction n with
  | zero =>
    intro a0 x1 x2 x3
    exact g_none
  | succ n ih =>
    intro a0 x1 x2 x3
    rw [b_M_confirmations_6]
    refine g_iload_n (pc := 6) (j := 3) K d_M_confirmations_6 rfl ?_
    refine g_iconst (pc := 7) (v := 3) K d_M_confirmations_7 (by decide) ?_
    refine g_iload_n (pc := 8) (j := 1) K d_M_confirmations_8 rfl ?_
    refine g_iconst (pc := 9) (v := 1) K d_M_confirmations_9 (by decide) ?_
    refine g_iadd (pc := 10) K d_M_confirmations_10 ?_
    refine g_imul (pc := 11) K d_M_confirmations_11 ?_
    refine g_icmp_ge (pc := 12) (tgt := 38) K d_M_confirmations_12 (by decide) (fun _ => ?_) (fun _ => ?_)
    · refine g_iload_n (pc := 38) (j := 2) K d_M_confirmations_38 rfl ?_
      exact g_iret (pc := 39) K S rfl d_M_confirmations_39 (by decide) (by decide) rfl
    · refine g_iload_n (pc := 15) (j := 2) K d_M_confirmations_15 rfl ?_
      refine g_aload_n (pc := 16) (j := 0) K d_M_confirmations_16 rfl ?_
      refine g_getR (pc := 17) K fl_M_49 d_M_confirmations_17 (fun _ => ?_) (fun b2 _ => ?_)
      · exact g_none
      · refine g_iload_n (pc := 20) (j := 3) K d_M_confirmations_20 rfl ?_
        refine g_zald (pc := 21) K d_M_confirmations_21 ?_
        refine g_if_eq (pc := 22) (tgt := 29) K d_M_confirmations_22 (by decide) (fun _ => ?_) (fun _ => ?_)
        · refine g_iconst (pc := 29) (v := 0) K d_M_confirmations_29 (by decide) ?_
          refine g_sub (L' := [(0, .ref a0), (1, .int x1), (3, .int x3)]) [0, 1, 3] rfl ?_
          exact gb_M_confirmations_30 K S T hI σ (b_M_confirmations_6 σ n) ih a0 x1 x3 x2 (0 : Int32)
        · refine g_iconst (pc := 25) (v := 1) K d_M_confirmations_25 (by decide) ?_
          refine g_goto (pc := 26) (tgt := 30) K d_M_confirmations_26 (by decide) ?_
          refine g_sub (L' := [(0, .ref a0), (1, .int x1), (3, .int x3)]) [0, 1, 3] rfl ?_
          exact gb_M_confirmations_30 K S T hI σ (b_M_confirmations_6 σ n) ih a0 x1 x3 x2 (1 : Int32)
def f_M_confirmations (σ : Sg) (a0 : Nat) (x1 : Int32) : Option Int32 := (wn ((3 : Int32) * x1) (fun y1 => (b_M_confirmations_6 σ 1000 a0 x1 (0 : Int32) y1)))
set_option maxRecDepth 100000 in
set_option maxHeartbeats 4000000 in
theorem k_M_confirmations (l : Launch) (hl : l.stackTraces = false) (σ : Sg) (a0 : Nat) (x1 : Int32) (r : Int32) (h : f_M_confirmations σ a0 x1 = some r) : Con l y_M_confirmations (.code y_M_confirmations prog_6_method_25_code 4 (some .int)) rm_M_confirmations [.ref a0, .int x1] σ ((mkI σ) r) := by
  refine Con.of (mk := (mkI σ)) (o := f_M_confirmations σ a0 x1) (z := r) (L0 := [(0, .ref a0), (1, .int x1)]) (bytes := prog_6_method_25_code) (maxL := 4) (ret := (some .int)) (hh := []) hl (by decide +kernel) (Or.inl ⟨rfl, rfl⟩) (by simp [Value.category]) (Nat.le_of_ble_eq_true rfl) rfl (fun Γ K S T hI => ?_) h rfl
  unfold f_M_confirmations
  refine g_iconst (pc := 0) (v := 0) K d_M_confirmations_0 (by decide) ?_
  refine g_istore_n (pc := 1) (L' := [(2, .int (0 : Int32)), (0, .ref a0), (1, .int x1)]) K d_M_confirmations_1 (by decide) rfl ?_
  refine g_iconst (pc := 2) (v := 3) K d_M_confirmations_2 (by decide) ?_
  refine g_iload_n (pc := 3) (j := 2) K d_M_confirmations_3 rfl ?_
  refine g_imul (pc := 4) K d_M_confirmations_4 ?_
  refine g_wn (fun y1 _ => ?_)
  refine g_istore_n (pc := 5) (L' := [(3, .int y1), (2, .int (0 : Int32)), (0, .ref a0), (1, .int x1)]) K d_M_confirmations_5 (by decide) rfl ?_
  refine g_sub (L' := [(0, .ref a0), (1, .int x1), (2, .int (0 : Int32)), (3, .int y1)]) [2, 3, 1, 0] rfl ?_
  exact gb_M_confirmations_6 K S T hI σ 1000 a0 x1 (0 : Int32) y1
