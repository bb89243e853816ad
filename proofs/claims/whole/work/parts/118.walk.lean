-- TapirGroupModel.prepare(II)I
def y_M_prepare : MethodName := ⟨"TapirGroupModel", "prepare", "(II)I"⟩
abbrev rm_M_prepare : Room := { frames := 3, cells := 0, slots := 0, locals := 75 }
theorem d_M_prepare_0 : decode prog_6_method_21_code 0 = .ok (.iload_n 1, 1) := by decide +kernel
theorem d_M_prepare_1 : decode prog_6_method_21_code 1 = .ok (.invokestatic 88, 3) := by decide +kernel
theorem d_M_prepare_4 : decode prog_6_method_21_code 4 = .ok (.ifCond .eq 14, 3) := by decide +kernel
theorem d_M_prepare_7 : decode prog_6_method_21_code 7 = .ok (.iload_n 2, 1) := by decide +kernel
theorem d_M_prepare_8 : decode prog_6_method_21_code 8 = .ok (.invokestatic 109, 3) := by decide +kernel
theorem d_M_prepare_11 : decode prog_6_method_21_code 11 = .ok (.ifCond .eq 7, 3) := by decide +kernel
theorem d_M_prepare_14 : decode prog_6_method_21_code 14 = .ok (.iconst 1, 1) := by decide +kernel
theorem d_M_prepare_15 : decode prog_6_method_21_code 15 = .ok (.goto 4, 3) := by decide +kernel
theorem d_M_prepare_18 : decode prog_6_method_21_code 18 = .ok (.iconst 0, 1) := by decide +kernel
theorem d_M_prepare_19 : decode prog_6_method_21_code 19 = .ok (.istore_n 3, 1) := by decide +kernel
theorem d_M_prepare_20 : decode prog_6_method_21_code 20 = .ok (.aload_n 0, 1) := by decide +kernel
theorem d_M_prepare_21 : decode prog_6_method_21_code 21 = .ok (.iload_n 3, 1) := by decide +kernel
theorem d_M_prepare_22 : decode prog_6_method_21_code 22 = .ok (.ifCond .ne 7, 3) := by decide +kernel
theorem d_M_prepare_25 : decode prog_6_method_21_code 25 = .ok (.iconst 1, 1) := by decide +kernel
theorem d_M_prepare_26 : decode prog_6_method_21_code 26 = .ok (.goto 29, 3) := by decide +kernel
theorem d_M_prepare_29 : decode prog_6_method_21_code 29 = .ok (.aload_n 0, 1) := by decide +kernel
theorem d_M_prepare_30 : decode prog_6_method_21_code 30 = .ok (.iload_n 1, 1) := by decide +kernel
theorem d_M_prepare_31 : decode prog_6_method_21_code 31 = .ok (.invokevirtual 112, 3) := by decide +kernel
theorem d_M_prepare_34 : decode prog_6_method_21_code 34 = .ok (.iconst 2, 1) := by decide +kernel
theorem d_M_prepare_35 : decode prog_6_method_21_code 35 = .ok (.if_icmp .eq 7, 3) := by decide +kernel
theorem d_M_prepare_38 : decode prog_6_method_21_code 38 = .ok (.iconst 2, 1) := by decide +kernel
theorem d_M_prepare_39 : decode prog_6_method_21_code 39 = .ok (.goto 16, 3) := by decide +kernel
theorem d_M_prepare_42 : decode prog_6_method_21_code 42 = .ok (.aload_n 0, 1) := by decide +kernel
theorem d_M_prepare_43 : decode prog_6_method_21_code 43 = .ok (.iload_n 2, 1) := by decide +kernel
theorem d_M_prepare_44 : decode prog_6_method_21_code 44 = .ok (.invokevirtual 120, 3) := by decide +kernel
theorem d_M_prepare_47 : decode prog_6_method_21_code 47 = .ok (.ifCond .ne 7, 3) := by decide +kernel
theorem d_M_prepare_50 : decode prog_6_method_21_code 50 = .ok (.iconst 3, 1) := by decide +kernel
theorem d_M_prepare_51 : decode prog_6_method_21_code 51 = .ok (.goto 4, 3) := by decide +kernel
theorem d_M_prepare_54 : decode prog_6_method_21_code 54 = .ok (.iconst 0, 1) := by decide +kernel
theorem d_M_prepare_55 : decode prog_6_method_21_code 55 = .ok (.invokevirtual 99, 3) := by decide +kernel
theorem d_M_prepare_58 : decode prog_6_method_21_code 58 = .ok (.ifCond .ne 5, 3) := by decide +kernel
theorem d_M_prepare_61 : decode prog_6_method_21_code 61 = .ok (.iconst 0, 1) := by decide +kernel
theorem d_M_prepare_62 : decode prog_6_method_21_code 62 = .ok (.ireturn, 1) := by decide +kernel
theorem d_M_prepare_63 : decode prog_6_method_21_code 63 = .ok (.bipush 61, 2) := by decide +kernel
theorem d_M_prepare_65 : decode prog_6_method_21_code 65 = .ok (.iload_n 2, 1) := by decide +kernel
theorem d_M_prepare_66 : decode prog_6_method_21_code 66 = .ok (.imul, 1) := by decide +kernel
theorem d_M_prepare_67 : decode prog_6_method_21_code 67 = .ok (.aload_n 0, 1) := by decide +kernel
theorem d_M_prepare_68 : decode prog_6_method_21_code 68 = .ok (.getfield 37, 3) := by decide +kernel
theorem d_M_prepare_71 : decode prog_6_method_21_code 71 = .ok (.iload_n 1, 1) := by decide +kernel
theorem d_M_prepare_72 : decode prog_6_method_21_code 72 = .ok (.iaload, 1) := by decide +kernel
theorem d_M_prepare_73 : decode prog_6_method_21_code 73 = .ok (.iadd, 1) := by decide +kernel
theorem d_M_prepare_74 : decode prog_6_method_21_code 74 = .ok (.istore 4, 2) := by decide +kernel
theorem d_M_prepare_76 : decode prog_6_method_21_code 76 = .ok (.aload_n 0, 1) := by decide +kernel
theorem d_M_prepare_77 : decode prog_6_method_21_code 77 = .ok (.getfield 68, 3) := by decide +kernel
theorem d_M_prepare_80 : decode prog_6_method_21_code 80 = .ok (.iload 4, 2) := by decide +kernel
theorem d_M_prepare_82 : decode prog_6_method_21_code 82 = .ok (.iaload, 1) := by decide +kernel
theorem d_M_prepare_83 : decode prog_6_method_21_code 83 = .ok (.ifCond .ge 21, 3) := by decide +kernel
theorem d_M_prepare_86 : decode prog_6_method_21_code 86 = .ok (.aload_n 0, 1) := by decide +kernel
theorem d_M_prepare_87 : decode prog_6_method_21_code 87 = .ok (.getfield 68, 3) := by decide +kernel
theorem d_M_prepare_90 : decode prog_6_method_21_code 90 = .ok (.iload 4, 2) := by decide +kernel
theorem d_M_prepare_92 : decode prog_6_method_21_code 92 = .ok (.aload_n 0, 1) := by decide +kernel
theorem d_M_prepare_93 : decode prog_6_method_21_code 93 = .ok (.aload_n 0, 1) := by decide +kernel
theorem d_M_prepare_94 : decode prog_6_method_21_code 94 = .ok (.getfield 37, 3) := by decide +kernel
theorem d_M_prepare_97 : decode prog_6_method_21_code 97 = .ok (.iload_n 1, 1) := by decide +kernel
theorem d_M_prepare_98 : decode prog_6_method_21_code 98 = .ok (.iaload, 1) := by decide +kernel
theorem d_M_prepare_99 : decode prog_6_method_21_code 99 = .ok (.iload_n 2, 1) := by decide +kernel
theorem d_M_prepare_100 : decode prog_6_method_21_code 100 = .ok (.invokevirtual 134, 3) := by decide +kernel
theorem d_M_prepare_103 : decode prog_6_method_21_code 103 = .ok (.iastore, 1) := by decide +kernel
theorem d_M_prepare_104 : decode prog_6_method_21_code 104 = .ok (.aload_n 0, 1) := by decide +kernel
theorem d_M_prepare_105 : decode prog_6_method_21_code 105 = .ok (.getfield 46, 3) := by decide +kernel
theorem d_M_prepare_108 : decode prog_6_method_21_code 108 = .ok (.iconst 3, 1) := by decide +kernel
theorem d_M_prepare_109 : decode prog_6_method_21_code 109 = .ok (.iload_n 1, 1) := by decide +kernel
theorem d_M_prepare_110 : decode prog_6_method_21_code 110 = .ok (.imul, 1) := by decide +kernel
theorem d_M_prepare_111 : decode prog_6_method_21_code 111 = .ok (.iload_n 2, 1) := by decide +kernel
theorem d_M_prepare_112 : decode prog_6_method_21_code 112 = .ok (.iadd, 1) := by decide +kernel
theorem d_M_prepare_113 : decode prog_6_method_21_code 113 = .ok (.aload_n 0, 1) := by decide +kernel
theorem d_M_prepare_114 : decode prog_6_method_21_code 114 = .ok (.getfield 68, 3) := by decide +kernel
theorem d_M_prepare_117 : decode prog_6_method_21_code 117 = .ok (.iload 4, 2) := by decide +kernel
theorem d_M_prepare_119 : decode prog_6_method_21_code 119 = .ok (.iaload, 1) := by decide +kernel
theorem d_M_prepare_120 : decode prog_6_method_21_code 120 = .ok (.iastore, 1) := by decide +kernel
theorem d_M_prepare_121 : decode prog_6_method_21_code 121 = .ok (.aload_n 0, 1) := by decide +kernel
theorem d_M_prepare_122 : decode prog_6_method_21_code 122 = .ok (.getfield 68, 3) := by decide +kernel
theorem d_M_prepare_125 : decode prog_6_method_21_code 125 = .ok (.iload 4, 2) := by decide +kernel
theorem d_M_prepare_127 : decode prog_6_method_21_code 127 = .ok (.iaload, 1) := by decide +kernel
theorem d_M_prepare_128 : decode prog_6_method_21_code 128 = .ok (.ireturn, 1) := by decide +kernel
theorem cn_M_prepare : CN y_M_prepare (.code y_M_prepare prog_6_method_21_code 5 (some .int)) prog_6_method_21_code 5 (some .int) [] 2 := ⟨Or.inl ⟨rfl, rfl⟩, mw_712, mw_5, ⟨by decide +kernel, by decide +kernel⟩, by decide +kernel⟩
def b_M_prepare_104  (σ : Sg) (a0 : Nat) (x1 : Int32) (x2 : Int32) (x4 : Int32) : Option (Int32 × Sg) := (if a0 < σ.1 ∧ kd a0 = 4 then rc (g_r σ a0 14) none (fun b13 => (if a0 < σ.1 ∧ kd a0 = 4 then rc (g_r σ a0 21) none (fun b14 => (if (b14 < σ.1 ∧ kd b14 = 10) ∧ inb x4 (ln b14) = true then (if (b13 < σ.1 ∧ kd b13 = 10) ∧ inb (((3 : Int32) * x1) + x2) (ln b13) = true then (wi (s_i σ b13 (((3 : Int32) * x1) + x2).toNatClampNeg (g_i σ b14 x4.toNatClampNeg)) (fun s15 => (if a0 < s15.1 ∧ kd a0 = 4 then rc (g_r s15 a0 21) none (fun b16 => (if (b16 < s15.1 ∧ kd b16 = 10) ∧ inb x4 (ln b16) = true then (some ((g_i s15 b16 x4.toNatClampNeg), s15)) else none)) else none))) else none) else none)) else none)) else none)
set_option maxRecDepth 100000 in
set_option maxHeartbeats 4000000 in
theorem gb_M_prepare_104 {Γ : GX} (K : Cx Γ "TapirGroupModel" prog_6_method_21_code 5 rm_M_prepare) (S : Std Γ (some .int)) (T : Tb Γ []) (hI : y_M_prepare.name = "<init>" → Ini Γ) (σ : Sg) (a0 : Nat) (x1 : Int32) (x2 : Int32) (x4 : Int32) : G Γ mkW 0 0 104 [(0, .ref a0), (1, .int x1), (2, .int x2), (4, .int x4)] [] σ (b_M_prepare_104 σ a0 x1 x2 x4) := by
  unfold b_M_prepare_104
  refine g_aload_n (pc := 104) (j := 0) K d_M_prepare_104 rfl ?_
  refine g_getR (pc := 105) K fl_M_46 d_M_prepare_105 (fun _ => ?_) (fun b13 _ => ?_)
  · exact g_none
  · refine g_iconst (pc := 108) (v := 3) K d_M_prepare_108 (by decide) ?_
    refine g_iload_n (pc := 109) (j := 1) K d_M_prepare_109 rfl ?_
    refine g_imul (pc := 110) K d_M_prepare_110 ?_
    refine g_iload_n (pc := 111) (j := 2) K d_M_prepare_111 rfl ?_
    refine g_iadd (pc := 112) K d_M_prepare_112 ?_
    refine g_aload_n (pc := 113) (j := 0) K d_M_prepare_113 rfl ?_
    refine g_getR (pc := 114) K fl_M_68 d_M_prepare_114 (fun _ => ?_) (fun b14 _ => ?_)
    · exact g_none
    · refine g_iload (pc := 117) (j := 3) K d_M_prepare_117 rfl ?_
      refine g_iald (pc := 119) K d_M_prepare_119 ?_
      refine g_iast (pc := 120) K d_M_prepare_120 ?_
      refine g_wi (fun s15 _ => ?_)
      refine g_aload_n (pc := 121) (j := 0) K d_M_prepare_121 rfl ?_
      refine g_getR (pc := 122) K fl_M_68 d_M_prepare_122 (fun _ => ?_) (fun b16 _ => ?_)
      · exact g_none
      · refine g_iload (pc := 125) (j := 3) K d_M_prepare_125 rfl ?_
        refine g_iald (pc := 127) K d_M_prepare_127 ?_
        exact g_iret (pc := 128) K S rfl d_M_prepare_128 (by decide) (by decide) rfl
def b_M_prepare_55  (σ : Sg) (a0 : Nat) (x1 : Int32) (x2 : Int32) (t0 : Nat) (t1 : Int32) : Option (Int32 × Sg) := (if t0 < σ.1 ∧ kd t0 = 4 then (f_M_says σ t0 t1).bind (fun w5 => (if w5.1 = 0 then (some ((0 : Int32), w5.2)) else (if a0 < w5.2.1 ∧ kd a0 = 4 then rc (g_r w5.2 a0 11) none (fun b6 => (if (b6 < w5.2.1 ∧ kd b6 = 10) ∧ inb x1 (ln b6) = true then (wn (((61 : Int32) * x2) + (g_i w5.2 b6 x1.toNatClampNeg)) (fun y7 => (if a0 < w5.2.1 ∧ kd a0 = 4 then rc (g_r w5.2 a0 21) none (fun b8 => (if (b8 < w5.2.1 ∧ kd b8 = 10) ∧ inb y7 (ln b8) = true then (if 0 ≤ (g_i w5.2 b8 y7.toNatClampNeg) then (b_M_prepare_104 w5.2 a0 x1 x2 y7) else (if a0 < w5.2.1 ∧ kd a0 = 4 then rc (g_r w5.2 a0 21) none (fun b9 => (if a0 < w5.2.1 ∧ kd a0 = 4 then rc (g_r w5.2 a0 11) none (fun b10 => (if (b10 < w5.2.1 ∧ kd b10 = 10) ∧ inb x1 (ln b10) = true then (if a0 < w5.2.1 ∧ kd a0 = 4 then (f_M_check w5.2 a0 (g_i w5.2 b10 x1.toNatClampNeg) x2).bind (fun v11 => (if (b9 < w5.2.1 ∧ kd b9 = 10) ∧ inb y7 (ln b9) = true then (wi (s_i w5.2 b9 y7.toNatClampNeg v11) (fun s12 => (b_M_prepare_104 s12 a0 x1 x2 y7))) else none)) else none) else none)) else none)) else none)) else none)) else none))) else none)) else none))) else none)
set_option maxRecDepth 100000 in
set_option maxHeartbeats 4000000 in
theorem gb_M_prepare_55 {Γ : GX} (K : Cx Γ "TapirGroupModel" prog_6_method_21_code 5 rm_M_prepare) (S : Std Γ (some .int)) (T : Tb Γ []) (hI : y_M_prepare.name = "<init>" → Ini Γ) (σ : Sg) (a0 : Nat) (x1 : Int32) (x2 : Int32) (t0 : Nat) (t1 : Int32) : G Γ mkW 0 0 55 [(0, .ref a0), (1, .int x1), (2, .int x2)] [.int t1, .ref t0] σ (b_M_prepare_55 σ a0 x1 x2 t0 t1) := by
  unfold b_M_prepare_55
  refine g_callV (pc := 55) (ci := 4) (a := t0) (vs := [.int t1]) (st := []) (mkc := mkW) K rfl (by decide) cn_M_says (fun l hl r hr => k_M_says l hl _ _ _ r hr) mw_666 mw_668 ms_15 ⟨by decide, by decide, by decide, by decide⟩ d_M_prepare_55 rfl rfl (Nat.le_of_ble_eq_true rfl) (fun w5 _ => ?_)
  change G Γ mkW 0 0 58 [(0, .ref a0), (1, .int x1), (2, .int x2)] [.int w5.1] w5.2 _
  refine g_if_ne (pc := 58) (tgt := 63) K d_M_prepare_58 (by decide) (fun _ => ?_) (fun _ => ?_)
  · refine g_bipush (pc := 63) (v := 61) K d_M_prepare_63 (by decide) ?_
    refine g_iload_n (pc := 65) (j := 2) K d_M_prepare_65 rfl ?_
    refine g_imul (pc := 66) K d_M_prepare_66 ?_
    refine g_aload_n (pc := 67) (j := 0) K d_M_prepare_67 rfl ?_
    refine g_getR (pc := 68) K fl_M_37 d_M_prepare_68 (fun _ => ?_) (fun b6 _ => ?_)
    · exact g_none
    · refine g_iload_n (pc := 71) (j := 1) K d_M_prepare_71 rfl ?_
      refine g_iald (pc := 72) K d_M_prepare_72 ?_
      refine g_iadd (pc := 73) K d_M_prepare_73 ?_
      refine g_wn (fun y7 _ => ?_)
      refine g_istore (pc := 74) (L' := [(4, .int y7), (0, .ref a0), (1, .int x1), (2, .int x2)]) K d_M_prepare_74 (by decide) rfl ?_
      refine g_aload_n (pc := 76) (j := 1) K d_M_prepare_76 rfl ?_
      refine g_getR (pc := 77) K fl_M_68 d_M_prepare_77 (fun _ => ?_) (fun b8 _ => ?_)
      · exact g_none
      · refine g_iload (pc := 80) (j := 0) K d_M_prepare_80 rfl ?_
        refine g_iald (pc := 82) K d_M_prepare_82 ?_
        refine g_if_ge (pc := 83) (tgt := 104) K d_M_prepare_83 (by decide) (fun _ => ?_) (fun _ => ?_)
        · refine g_sub (L' := [(0, .ref a0), (1, .int x1), (2, .int x2), (4, .int y7)]) [1, 2, 3, 0] rfl ?_
          exact gb_M_prepare_104 K S T hI w5.2 a0 x1 x2 y7
        · refine g_aload_n (pc := 86) (j := 1) K d_M_prepare_86 rfl ?_
          refine g_getR (pc := 87) K fl_M_68 d_M_prepare_87 (fun _ => ?_) (fun b9 _ => ?_)
          · exact g_none
          · refine g_iload (pc := 90) (j := 0) K d_M_prepare_90 rfl ?_
            refine g_aload_n (pc := 92) (j := 1) K d_M_prepare_92 rfl ?_
            refine g_aload_n (pc := 93) (j := 1) K d_M_prepare_93 rfl ?_
            refine g_getR (pc := 94) K fl_M_37 d_M_prepare_94 (fun _ => ?_) (fun b10 _ => ?_)
            · exact g_none
            · refine g_iload_n (pc := 97) (j := 2) K d_M_prepare_97 rfl ?_
              refine g_iald (pc := 98) K d_M_prepare_98 ?_
              refine g_iload_n (pc := 99) (j := 3) K d_M_prepare_99 rfl ?_
              refine g_callV (pc := 100) (ci := 4) (a := a0) (vs := [.int (g_i w5.2 b10 x1.toNatClampNeg), .int x2]) (st := [.int y7, .ref b9]) (mkc := mkI w5.2) K rfl (by decide) cn_M_check (fun l hl r hr => k_M_check l hl _ _ _ _ r hr) mw_713 mw_715 ms_21 ⟨by decide, by decide, by decide, by decide⟩ d_M_prepare_100 rfl rfl (Nat.le_of_ble_eq_true rfl) (fun v11 _ => ?_)
              change G Γ mkW 0 0 103 [(4, .int y7), (0, .ref a0), (1, .int x1), (2, .int x2)] [.int v11, .int y7, .ref b9] w5.2 _
              refine g_iast (pc := 103) K d_M_prepare_103 ?_
              refine g_wi (fun s12 _ => ?_)
              refine g_sub (L' := [(0, .ref a0), (1, .int x1), (2, .int x2), (4, .int y7)]) [1, 2, 3, 0] rfl ?_
              exact gb_M_prepare_104 K S T hI s12 a0 x1 x2 y7
  · refine g_iconst (pc := 61) (v := 0) K d_M_prepare_61 (by decide) ?_
    exact g_iret (pc := 62) K S rfl d_M_prepare_62 (by decide) (by decide) rfl
def b_M_prepare_19  (σ : Sg) (a0 : Nat) (x1 : Int32) (x2 : Int32) (t0 : Int32) : Option (Int32 × Sg) := (if t0 = 0 then (b_M_prepare_55 σ a0 x1 x2 a0 (1 : Int32)) else (if a0 < σ.1 ∧ kd a0 = 4 then (f_M_stateOf σ a0 x1).bind (fun v3 => (if v3 = (2 : Int32) then (if a0 < σ.1 ∧ kd a0 = 4 then (f_M_serves σ a0 x2).bind (fun v4 => (if v4 = 0 then (b_M_prepare_55 σ a0 x1 x2 a0 (3 : Int32)) else (b_M_prepare_55 σ a0 x1 x2 a0 (0 : Int32)))) else none) else (b_M_prepare_55 σ a0 x1 x2 a0 (2 : Int32)))) else none))
set_option maxRecDepth 100000 in
set_option maxHeartbeats 4000000 in
theorem gb_M_prepare_19 {Γ : GX} (K : Cx Γ "TapirGroupModel" prog_6_method_21_code 5 rm_M_prepare) (S : Std Γ (some .int)) (T : Tb Γ []) (hI : y_M_prepare.name = "<init>" → Ini Γ) (σ : Sg) (a0 : Nat) (x1 : Int32) (x2 : Int32) (t0 : Int32) : G Γ mkW 0 0 19 [(0, .ref a0), (1, .int x1), (2, .int x2)] [.int t0] σ (b_M_prepare_19 σ a0 x1 x2 t0) := by
  unfold b_M_prepare_19
  refine g_istore_n (pc := 19) (L' := [(3, .int t0), (0, .ref a0), (1, .int x1), (2, .int x2)]) K d_M_prepare_19 (by decide) rfl ?_
  refine g_aload_n (pc := 20) (j := 1) K d_M_prepare_20 rfl ?_
  refine g_iload_n (pc := 21) (j := 0) K d_M_prepare_21 rfl ?_
  refine g_if_ne (pc := 22) (tgt := 29) K d_M_prepare_22 (by decide) (fun _ => ?_) (fun _ => ?_)
  · refine g_aload_n (pc := 29) (j := 1) K d_M_prepare_29 rfl ?_
    refine g_iload_n (pc := 30) (j := 2) K d_M_prepare_30 rfl ?_
    refine g_callV (pc := 31) (ci := 4) (a := a0) (vs := [.int x1]) (st := [.ref a0]) (mkc := mkI σ) K rfl (by decide) cn_M_stateOf (fun l hl r hr => k_M_stateOf l hl _ _ _ r hr) mw_684 mw_686 ms_17 ⟨by decide, by decide, by decide, by decide⟩ d_M_prepare_31 rfl rfl (Nat.le_of_ble_eq_true rfl) (fun v3 _ => ?_)
    change G Γ mkW 0 0 34 [(3, .int t0), (0, .ref a0), (1, .int x1), (2, .int x2)] [.int v3, .ref a0] σ _
    refine g_iconst (pc := 34) (v := 2) K d_M_prepare_34 (by decide) ?_
    refine g_icmp_eq (pc := 35) (tgt := 42) K d_M_prepare_35 (by decide) (fun _ => ?_) (fun _ => ?_)
    · refine g_aload_n (pc := 42) (j := 1) K d_M_prepare_42 rfl ?_
      refine g_iload_n (pc := 43) (j := 3) K d_M_prepare_43 rfl ?_
      refine g_callV (pc := 44) (ci := 4) (a := a0) (vs := [.int x2]) (st := [.ref a0]) (mkc := mkI σ) K rfl (by decide) cn_M_serves (fun l hl r hr => k_M_serves l hl _ _ _ r hr) mw_692 mw_694 ms_19 ⟨by decide, by decide, by decide, by decide⟩ d_M_prepare_44 rfl rfl (Nat.le_of_ble_eq_true rfl) (fun v4 _ => ?_)
      change G Γ mkW 0 0 47 [(3, .int t0), (0, .ref a0), (1, .int x1), (2, .int x2)] [.int v4, .ref a0] σ _
      refine g_if_ne (pc := 47) (tgt := 54) K d_M_prepare_47 (by decide) (fun _ => ?_) (fun _ => ?_)
      · refine g_iconst (pc := 54) (v := 0) K d_M_prepare_54 (by decide) ?_
        refine g_sub (L' := [(0, .ref a0), (1, .int x1), (2, .int x2)]) [1, 2, 3] rfl ?_
        exact gb_M_prepare_55 K S T hI σ a0 x1 x2 a0 (0 : Int32)
      · refine g_iconst (pc := 50) (v := 3) K d_M_prepare_50 (by decide) ?_
        refine g_goto (pc := 51) (tgt := 55) K d_M_prepare_51 (by decide) ?_
        refine g_sub (L' := [(0, .ref a0), (1, .int x1), (2, .int x2)]) [1, 2, 3] rfl ?_
        exact gb_M_prepare_55 K S T hI σ a0 x1 x2 a0 (3 : Int32)
    · refine g_iconst (pc := 38) (v := 2) K d_M_prepare_38 (by decide) ?_
      refine g_goto (pc := 39) (tgt := 55) K d_M_prepare_39 (by decide) ?_
      refine g_sub (L' := [(0, .ref a0), (1, .int x1), (2, .int x2)]) [1, 2, 3] rfl ?_
      exact gb_M_prepare_55 K S T hI σ a0 x1 x2 a0 (2 : Int32)
  · refine g_iconst (pc := 25) (v := 1) K d_M_prepare_25 (by decide) ?_
    refine g_goto (pc := 26) (tgt := 55) K d_M_prepare_26 (by decide) ?_
    refine g_sub (L' := [(0, .ref a0), (1, .int x1), (2, .int x2)]) [1, 2, 3] rfl ?_
    exact gb_M_prepare_55 K S T hI σ a0 x1 x2 a0 (1 : Int32)
def b_M_prepare_18  (σ : Sg) (a0 : Nat) (x1 : Int32) (x2 : Int32) : Option (Int32 × Sg) := (b_M_prepare_19 σ a0 x1 x2 (0 : Int32))
set_option maxRecDepth 100000 in
set_option maxHeartbeats 4000000 in
theorem gb_M_prepare_18 {Γ : GX} (K : Cx Γ "TapirGroupModel" prog_6_method_21_code 5 rm_M_prepare) (S : Std Γ (some .int)) (T : Tb Γ []) (hI : y_M_prepare.name = "<init>" → Ini Γ) (σ : Sg) (a0 : Nat) (x1 : Int32) (x2 : Int32) : G Γ mkW 0 0 18 [(0, .ref a0), (1, .int x1), (2, .int x2)] [] σ (b_M_prepare_18 σ a0 x1 x2) := by
  unfold b_M_prepare_18
  refine g_iconst (pc := 18) (v := 0) K d_M_prepare_18 (by decide) ?_
  exact gb_M_prepare_19 K S T hI σ a0 x1 x2 (0 : Int32)
def f_M_prepare (σ : Sg) (a0 : Nat) (x1 : Int32) (x2 : Int32) : Option (Int32 × Sg) := ((f_M_isClient σ x1).bind (fun v1 => (if v1 = 0 then (b_M_prepare_18 σ a0 x1 x2) else ((f_M_isReplica σ x2).bind (fun v2 => (if v2 = 0 then (b_M_prepare_18 σ a0 x1 x2) else (b_M_prepare_19 σ a0 x1 x2 (1 : Int32))))))))
set_option maxRecDepth 100000 in
set_option maxHeartbeats 4000000 in
theorem k_M_prepare (l : Launch) (hl : l.stackTraces = false) (σ : Sg) (a0 : Nat) (x1 : Int32) (x2 : Int32) (r : (Int32 × Sg)) (h : f_M_prepare σ a0 x1 x2 = some r) : Con l y_M_prepare (.code y_M_prepare prog_6_method_21_code 5 (some .int)) rm_M_prepare [.ref a0, .int x1, .int x2] σ (mkW r) := by
  refine Con.of (mk := mkW) (o := f_M_prepare σ a0 x1 x2) (z := r) (L0 := [(0, .ref a0), (1, .int x1), (2, .int x2)]) (bytes := prog_6_method_21_code) (maxL := 5) (ret := (some .int)) (hh := []) hl (by decide +kernel) (Or.inl ⟨rfl, rfl⟩) (by simp [Value.category]) (Nat.le_of_ble_eq_true rfl) rfl (fun Γ K S T hI => ?_) h rfl
  unfold f_M_prepare
  refine g_iload_n (pc := 0) (j := 1) K d_M_prepare_0 rfl ?_
  refine g_callS (pc := 1) (vs := [.int x1]) (st := []) (mkc := mkI σ) K cn_M_isClient (fun l hl r hr => k_M_isClient l hl _ _ r hr) mw_660 mw_661 ⟨by decide, by decide, by decide, by decide⟩ d_M_prepare_1 rfl rfl (Nat.le_of_ble_eq_true rfl) (fun v1 _ => ?_)
  change G Γ mkW 0 0 4 [(0, .ref a0), (1, .int x1), (2, .int x2)] [.int v1] σ _
  refine g_if_eq (pc := 4) (tgt := 18) K d_M_prepare_4 (by decide) (fun _ => ?_) (fun _ => ?_)
  · exact gb_M_prepare_18 K S T hI σ a0 x1 x2
  · refine g_iload_n (pc := 7) (j := 2) K d_M_prepare_7 rfl ?_
    refine g_callS (pc := 8) (vs := [.int x2]) (st := []) (mkc := mkI σ) K cn_M_isReplica (fun l hl r hr => k_M_isReplica l hl _ _ r hr) mw_681 mw_682 ⟨by decide, by decide, by decide, by decide⟩ d_M_prepare_8 rfl rfl (Nat.le_of_ble_eq_true rfl) (fun v2 _ => ?_)
    change G Γ mkW 0 0 11 [(0, .ref a0), (1, .int x1), (2, .int x2)] [.int v2] σ _
    refine g_if_eq (pc := 11) (tgt := 18) K d_M_prepare_11 (by decide) (fun _ => ?_) (fun _ => ?_)
    · exact gb_M_prepare_18 K S T hI σ a0 x1 x2
    · refine g_iconst (pc := 14) (v := 1) K d_M_prepare_14 (by decide) ?_
      refine g_goto (pc := 15) (tgt := 19) K d_M_prepare_15 (by decide) ?_
      exact gb_M_prepare_19 K S T hI σ a0 x1 x2 (1 : Int32)
-- TapirGroupModel.count(II)I
def y_M_count : MethodName := ⟨"TapirGroupModel", "count", "(II)I"⟩
abbrev rm_M_count : Room := { frames := 0, cells := 0, slots := 0, locals := 0 }
theorem d_M_count_0 : decode prog_6_method_22_code 0 = .ok (.iconst 0, 1) := by decide +kernel
theorem d_M_count_1 : decode prog_6_method_22_code 1 = .ok (.istore_n 3, 1) := by decide +kernel
theorem d_M_count_2 : decode prog_6_method_22_code 2 = .ok (.iconst 3, 1) := by decide +kernel
theorem d_M_count_3 : decode prog_6_method_22_code 3 = .ok (.iload_n 1, 1) := by decide +kernel
theorem d_M_count_4 : decode prog_6_method_22_code 4 = .ok (.imul, 1) := by decide +kernel
theorem d_M_count_5 : decode prog_6_method_22_code 5 = .ok (.istore 4, 2) := by decide +kernel
theorem d_M_count_7 : decode prog_6_method_22_code 7 = .ok (.iload 4, 2) := by decide +kernel
theorem d_M_count_9 : decode prog_6_method_22_code 9 = .ok (.iconst 3, 1) := by decide +kernel
theorem d_M_count_10 : decode prog_6_method_22_code 10 = .ok (.iload_n 1, 1) := by decide +kernel
theorem d_M_count_11 : decode prog_6_method_22_code 11 = .ok (.iconst 1, 1) := by decide +kernel
theorem d_M_count_12 : decode prog_6_method_22_code 12 = .ok (.iadd, 1) := by decide +kernel
theorem d_M_count_13 : decode prog_6_method_22_code 13 = .ok (.imul, 1) := by decide +kernel
theorem d_M_count_14 : decode prog_6_method_22_code 14 = .ok (.if_icmp .ge 42, 3) := by decide +kernel
theorem d_M_count_17 : decode prog_6_method_22_code 17 = .ok (.iload_n 3, 1) := by decide +kernel
theorem d_M_count_18 : decode prog_6_method_22_code 18 = .ok (.aload_n 0, 1) := by decide +kernel
theorem d_M_count_19 : decode prog_6_method_22_code 19 = .ok (.getfield 46, 3) := by decide +kernel
theorem d_M_count_22 : decode prog_6_method_22_code 22 = .ok (.iload 4, 2) := by decide +kernel
theorem d_M_count_24 : decode prog_6_method_22_code 24 = .ok (.iaload, 1) := by decide +kernel
theorem d_M_count_25 : decode prog_6_method_22_code 25 = .ok (.ifCond .lt 22, 3) := by decide +kernel
theorem d_M_count_28 : decode prog_6_method_22_code 28 = .ok (.iload_n 2, 1) := by decide +kernel
theorem d_M_count_29 : decode prog_6_method_22_code 29 = .ok (.ifCond .lt 14, 3) := by decide +kernel
theorem d_M_count_32 : decode prog_6_method_22_code 32 = .ok (.aload_n 0, 1) := by decide +kernel
theorem d_M_count_33 : decode prog_6_method_22_code 33 = .ok (.getfield 46, 3) := by decide +kernel
theorem d_M_count_36 : decode prog_6_method_22_code 36 = .ok (.iload 4, 2) := by decide +kernel
theorem d_M_count_38 : decode prog_6_method_22_code 38 = .ok (.iaload, 1) := by decide +kernel
theorem d_M_count_39 : decode prog_6_method_22_code 39 = .ok (.iload_n 2, 1) := by decide +kernel
theorem d_M_count_40 : decode prog_6_method_22_code 40 = .ok (.if_icmp .ne 7, 3) := by decide +kernel
theorem d_M_count_43 : decode prog_6_method_22_code 43 = .ok (.iconst 1, 1) := by decide +kernel
theorem d_M_count_44 : decode prog_6_method_22_code 44 = .ok (.goto 4, 3) := by decide +kernel
theorem d_M_count_47 : decode prog_6_method_22_code 47 = .ok (.iconst 0, 1) := by decide +kernel
theorem d_M_count_48 : decode prog_6_method_22_code 48 = .ok (.iadd, 1) := by decide +kernel
theorem d_M_count_49 : decode prog_6_method_22_code 49 = .ok (.istore_n 3, 1) := by decide +kernel
theorem d_M_count_50 : decode prog_6_method_22_code 50 = .ok (.iinc 4 1, 3) := by decide +kernel
theorem d_M_count_53 : decode prog_6_method_22_code 53 = .ok (.goto (-46), 3) := by decide +kernel
theorem d_M_count_56 : decode prog_6_method_22_code 56 = .ok (.iload_n 3, 1) := by decide +kernel
theorem d_M_count_57 : decode prog_6_method_22_code 57 = .ok (.ireturn, 1) := by decide +kernel
theorem cn_M_count : CN y_M_count (.code y_M_count prog_6_method_22_code 5 (some .int)) prog_6_method_22_code 5 (some .int) [] 2 := ⟨Or.inl ⟨rfl, rfl⟩, mw_736, mw_5, ⟨by decide +kernel, by decide +kernel⟩, by decide +kernel⟩
def b_M_count_48 (σ : Sg) (k : Nat → Int32 → Int32 → Int32 → Int32 → Option Int32) (a0 : Nat) (x1 : Int32) (x2 : Int32) (x4 : Int32) (t0 : Int32) (t1 : Int32) : Option Int32 := (wn (t0 + t1) (fun y4 => (k a0 x1 x2 y4 (x4 + 1))))
set_option maxRecDepth 100000 in
set_option maxHeartbeats 4000000 in
theorem gb_M_count_48 {Γ : GX} (K : Cx Γ "TapirGroupModel" prog_6_method_22_code 5 rm_M_count) (S : Std Γ (some .int)) (T : Tb Γ []) (hI : y_M_count.name = "<init>" → Ini Γ) (σ : Sg) (k : Nat → Int32 → Int32 → Int32 → Int32 → Option Int32) (hk : ∀ (a0 : Nat) (x1 : Int32) (x2 : Int32) (x3 : Int32) (x4 : Int32), G Γ (mkI σ) 0 0 7 [(0, .ref a0), (1, .int x1), (2, .int x2), (3, .int x3), (4, .int x4)] [] σ (k a0 x1 x2 x3 x4)) (a0 : Nat) (x1 : Int32) (x2 : Int32) (x4 : Int32) (t0 : Int32) (t1 : Int32) : G Γ (mkI σ) 0 0 48 [(0, .ref a0), (1, .int x1), (2, .int x2), (4, .int x4)] [.int t1, .int t0] σ (b_M_count_48 σ k a0 x1 x2 x4 t0 t1) := by
  unfold b_M_count_48
  refine g_iadd (pc := 48) K d_M_count_48 ?_
  refine g_wn (fun y4 _ => ?_)
  refine g_istore_n (pc := 49) (L' := [(3, .int y4), (0, .ref a0), (1, .int x1), (2, .int x2), (4, .int x4)]) K d_M_count_49 (by decide) rfl ?_
  refine g_iinc (pc := 50) (j := 4) (v := (x4 + 1)) (L' := [(4, .int (x4 + 1)), (3, .int y4), (0, .ref a0), (1, .int x1), (2, .int x2)]) K d_M_count_50 rfl (by rfl) (by decide) rfl ?_
  refine g_goto (pc := 53) (tgt := 7) K d_M_count_53 (by decide) ?_
  refine g_sub (L' := [(0, .ref a0), (1, .int x1), (2, .int x2), (3, .int y4), (4, .int (x4 + 1))]) [2, 3, 4, 1, 0] rfl ?_
  exact hk a0 x1 x2 y4 (x4 + 1)
def b_M_count_47 (σ : Sg) (k : Nat → Int32 → Int32 → Int32 → Int32 → Option Int32) (a0 : Nat) (x1 : Int32) (x2 : Int32) (x4 : Int32) (t0 : Int32) : Option Int32 := (b_M_count_48 σ k a0 x1 x2 x4 t0 (0 : Int32))
set_option maxRecDepth 100000 in
set_option maxHeartbeats 4000000 in
theorem gb_M_count_47 {Γ : GX} (K : Cx Γ "TapirGroupModel" prog_6_method_22_code 5 rm_M_count) (S : Std Γ (some .int)) (T : Tb Γ []) (hI : y_M_count.name = "<init>" → Ini Γ) (σ : Sg) (k : Nat → Int32 → Int32 → Int32 → Int32 → Option Int32) (hk : ∀ (a0 : Nat) (x1 : Int32) (x2 : Int32) (x3 : Int32) (x4 : Int32), G Γ (mkI σ) 0 0 7 [(0, .ref a0), (1, .int x1), (2, .int x2), (3, .int x3), (4, .int x4)] [] σ (k a0 x1 x2 x3 x4)) (a0 : Nat) (x1 : Int32) (x2 : Int32) (x4 : Int32) (t0 : Int32) : G Γ (mkI σ) 0 0 47 [(0, .ref a0), (1, .int x1), (2, .int x2), (4, .int x4)] [.int t0] σ (b_M_count_47 σ k a0 x1 x2 x4 t0) := by
  unfold b_M_count_47
  refine g_iconst (pc := 47) (v := 0) K d_M_count_47 (by decide) ?_
  exact gb_M_count_48 K S T hI σ k hk a0 x1 x2 x4 t0 (0 : Int32)
def b_M_count_43 (σ : Sg) (k : Nat → Int32 → Int32 → Int32 → Int32 → Option Int32) (a0 : Nat) (x1 : Int32) (x2 : Int32) (x4 : Int32) (t0 : Int32) : Option Int32 := (b_M_count_48 σ k a0 x1 x2 x4 t0 (1 : Int32))
set_option maxRecDepth 100000 in
set_option maxHeartbeats 4000000 in
theorem gb_M_count_43 {Γ : GX} (K : Cx Γ "TapirGroupModel" prog_6_method_22_code 5 rm_M_count) (S : Std Γ (some .int)) (T : Tb Γ []) (hI : y_M_count.name = "<init>" → Ini Γ) (σ : Sg) (k : Nat → Int32 → Int32 → Int32 → Int32 → Option Int32) (hk : ∀ (a0 : Nat) (x1 : Int32) (x2 : Int32) (x3 : Int32) (x4 : Int32), G Γ (mkI σ) 0 0 7 [(0, .ref a0), (1, .int x1), (2, .int x2), (3, .int x3), (4, .int x4)] [] σ (k a0 x1 x2 x3 x4)) (a0 : Nat) (x1 : Int32) (x2 : Int32) (x4 : Int32) (t0 : Int32) : G Γ (mkI σ) 0 0 43 [(0, .ref a0), (1, .int x1), (2, .int x2), (4, .int x4)] [.int t0] σ (b_M_count_43 σ k a0 x1 x2 x4 t0) := by
  unfold b_M_count_43
  refine g_iconst (pc := 43) (v := 1) K d_M_count_43 (by decide) ?_
  refine g_goto (pc := 44) (tgt := 48) K d_M_count_44 (by decide) ?_
  exact gb_M_count_48 K S T hI σ k hk a0 x1 x2 x4 t0 (1 : Int32)
def b_M_count_7 (σ : Sg) : Nat → Nat → Int32 → Int32 → Int32 → Int32 → Option Int32
  | 0 => fun _ _ _ _ _ => none
  | n + 1 => fun a0 x1 x2 x3 x4 => (if ((3 : Int32) * (x1 + (1 : Int32))) ≤ x4 then (some x3) else (if a0 < σ.1 ∧ kd a0 = 4 then rc (g_r σ a0 14) none (fun b2 => (if (b2 < σ.1 ∧ kd b2 = 10) ∧ inb x4 (ln b2) = true then (if (g_i σ b2 x4.toNatClampNeg) < 0 then (b_M_count_47 σ (b_M_count_7 σ n) a0 x1 x2 x4 x3) else (if x2 < 0 then (b_M_count_43 σ (b_M_count_7 σ n) a0 x1 x2 x4 x3) else (if a0 < σ.1 ∧ kd a0 = 4 then rc (g_r σ a0 14) none (fun b3 => (if (b3 < σ.1 ∧ kd b3 = 10) ∧ inb x4 (ln b3) = true then (if (g_i σ b3 x4.toNatClampNeg) = x2 then (b_M_count_43 σ (b_M_count_7 σ n) a0 x1 x2 x4 x3) else (b_M_count_47 σ (b_M_count_7 σ n) a0 x1 x2 x4 x3)) else none)) else none))) else none)) else none))
set_option maxRecDepth 100000 in
set_option maxHeartbeats 4000000 in
theorem gb_M_count_7 {Γ : GX} (K : Cx Γ "TapirGroupModel" prog_6_method_22_code 5 rm_M_count) (S : Std Γ (some .int)) (T : Tb Γ []) (hI : y_M_count.name = "<init>" → Ini Γ) (σ : Sg) (n : Nat) : ∀ (a0 : Nat) (x1 : Int32) (x2 : Int32) (x3 : Int32) (x4 : Int32), G Γ (mkI σ) 0 0 7 [(0, .ref a0), (1, .int x1), (2, .int x2), (3, .int x3), (4, .int x4)] [] σ (b_M_count_7 σ n a0 x1 x2 x3 x4) := by
  induction n with
  | zero =>
    intro a0 x1 x2 x3 x4
    exact g_none
  | succ n ih =>
    intro a0 x1 x2 x3 x4
    rw [b_M_count_7]
    refine g_iload (pc := 7) (j := 4) K d_M_count_7 rfl ?_
    refine g_iconst (pc := 9) (v := 3) K d_M_count_9 (by decide) ?_
    refine g_iload_n (pc := 10) (j := 1) K d_M_count_10 rfl ?_
    refine g_iconst (pc := 11) (v := 1) K d_M_count_11 (by decide) ?_
    refine g_iadd (pc := 12) K d_M_count_12 ?_
    refine g_imul (pc := 13) K d_M_count_13 ?_
    refine g_icmp_ge (pc := 14) (tgt := 56) K d_M_count_14 (by decide) (fun _ => ?_) (fun _ => ?_)
    · refine g_iload_n (pc := 56) (j := 3) K d_M_count_56 rfl ?_
      exact g_iret (pc := 57) K S rfl d_M_count_57 (by decide) (by decide) rfl
    · refine g_iload_n (pc := 17) (j := 3) K d_M_count_17 rfl ?_
      refine g_aload_n (pc := 18) (j := 0) K d_M_count_18 rfl ?_
      refine g_getR (pc := 19) K fl_M_46 d_M_count_19 (fun _ => ?_) (fun b2 _ => ?_)
      · exact g_none
      · refine g_iload (pc := 22) (j := 4) K d_M_count_22 rfl ?_
        refine g_iald (pc := 24) K d_M_count_24 ?_
        refine g_if_lt (pc := 25) (tgt := 47) K d_M_count_25 (by decide) (fun _ => ?_) (fun _ => ?_)
        · refine g_sub (L' := [(0, .ref a0), (1, .int x1), (2, .int x2), (4, .int x4)]) [0, 1, 2, 4] rfl ?_
          exact gb_M_count_47 K S T hI σ (b_M_count_7 σ n) ih a0 x1 x2 x4 x3
        · refine g_iload_n (pc := 28) (j := 2) K d_M_count_28 rfl ?_
          refine g_if_lt (pc := 29) (tgt := 43) K d_M_count_29 (by decide) (fun _ => ?_) (fun _ => ?_)
          · refine g_sub (L' := [(0, .ref a0), (1, .int x1), (2, .int x2), (4, .int x4)]) [0, 1, 2, 4] rfl ?_
            exact gb_M_count_43 K S T hI σ (b_M_count_7 σ n) ih a0 x1 x2 x4 x3
          · refine g_aload_n (pc := 32) (j := 0) K d_M_count_32 rfl ?_
            refine g_getR (pc := 33) K fl_M_46 d_M_count_33 (fun _ => ?_) (fun b3 _ => ?_)
            · exact g_none
            · refine g_iload (pc := 36) (j := 4) K d_M_count_36 rfl ?_
              refine g_iald (pc := 38) K d_M_count_38 ?_
              refine g_iload_n (pc := 39) (j := 2) K d_M_count_39 rfl ?_
              refine g_icmp_ne (pc := 40) (tgt := 47) K d_M_count_40 (by decide) (fun _ => ?_) (fun _ => ?_)
              · refine g_sub (L' := [(0, .ref a0), (1, .int x1), (2, .int x2), (4, .int x4)]) [0, 1, 2, 4] rfl ?_
                exact gb_M_count_47 K S T hI σ (b_M_count_7 σ n) ih a0 x1 x2 x4 x3
              · refine g_sub (L' := [(0, .ref a0), (1, .int x1), (2, .int x2), (4, .int x4)]) [0, 1, 2, 4] rfl ?_
                exact gb_M_count_43 K S T hI σ (b_M_count_7 σ n) ih a0 x1 x2 x4 x3
def f_M_count (σ : Sg) (a0 : Nat) (x1 : Int32) (x2 : Int32) : Option Int32 := (wn ((3 : Int32) * x1) (fun y1 => (b_M_count_7 σ 1000 a0 x1 x2 (0 : Int32) y1)))
set_option maxRecDepth 100000 in
set_option maxHeartbeats 4000000 in
theorem k_M_count (l : Launch) (hl : l.stackTraces = false) (σ : Sg) (a0 : Nat) (x1 : Int32) (x2 : Int32) (r : Int32) (h : f_M_count σ a0 x1 x2 = some r) : Con l y_M_count (.code y_M_count prog_6_method_22_code 5 (some .int)) rm_M_count [.ref a0, .int x1, .int x2] σ ((mkI σ) r) := by
  refine Con.of (mk := (mkI σ)) (o := f_M_count σ a0 x1 x2) (z := r) (L0 := [(0, .ref a0), (1, .int x1), (2, .int x2)]) (bytes := prog_6_method_22_code) (maxL := 5) (ret := (some .int)) (hh := []) hl (by decide +kernel) (Or.inl ⟨rfl, rfl⟩) (by simp [Value.category]) (Nat.le_of_ble_eq_true rfl) rfl (fun Γ K S T hI => ?_) h rfl
  unfold f_M_count
  refine g_iconst (pc := 0) (v := 0) K d_M_count_0 (by decide) ?_
  refine g_istore_n (pc := 1) (L' := [(3, .int (0 : Int32)), (0, .ref a0), (1, .int x1), (2, .int x2)]) K d_M_count_1 (by decide) rfl ?_
  refine g_iconst (pc := 2) (v := 3) K d_M_count_2 (by decide) ?_
  refine g_iload_n (pc := 3) (j := 2) K d_M_count_3 rfl ?_
  refine g_imul (pc := 4) K d_M_count_4 ?_
  refine g_wn (fun y1 _ => ?_)
  refine g_istore (pc := 5) (L' := [(4, .int y1), (3, .int (0 : Int32)), (0, .ref a0), (1, .int x1), (2, .int x2)]) K d_M_count_5 (by decide) rfl ?_
  refine g_sub (L' := [(0, .ref a0), (1, .int x1), (2, .int x2), (3, .int (0 : Int32)), (4, .int y1)]) [2, 3, 4, 1, 0] rfl ?_
  exact gb_M_count_7 K S T hI σ 1000 a0 x1 x2 (0 : Int32) y1
-- TapirGroupModel.byRule(I)I
def y_M_byRule : MethodName := ⟨"TapirGroupModel", "byRule", "(I)I"⟩
abbrev rm_M_byRule : Room := { frames := 1, cells := 0, slots := 0, locals := 24 }
theorem d_M_byRule_0 : decode prog_6_method_23_code 0 = .ok (.aload_n 0, 1) := by decide +kernel
theorem d_M_byRule_1 : decode prog_6_method_23_code 1 = .ok (.iload_n 1, 1) := by decide +kernel
theorem d_M_byRule_2 : decode prog_6_method_23_code 2 = .ok (.iconst 2, 1) := by decide +kernel
theorem d_M_byRule_3 : decode prog_6_method_23_code 3 = .ok (.invokevirtual 138, 3) := by decide +kernel
theorem d_M_byRule_6 : decode prog_6_method_23_code 6 = .ok (.ifCond .le 5, 3) := by decide +kernel
theorem d_M_byRule_9 : decode prog_6_method_23_code 9 = .ok (.iconst 2, 1) := by decide +kernel
theorem d_M_byRule_10 : decode prog_6_method_23_code 10 = .ok (.ireturn, 1) := by decide +kernel
theorem d_M_byRule_11 : decode prog_6_method_23_code 11 = .ok (.aload_n 0, 1) := by decide +kernel
theorem d_M_byRule_12 : decode prog_6_method_23_code 12 = .ok (.iload_n 1, 1) := by decide +kernel
theorem d_M_byRule_13 : decode prog_6_method_23_code 13 = .ok (.iconst 0, 1) := by decide +kernel
theorem d_M_byRule_14 : decode prog_6_method_23_code 14 = .ok (.invokevirtual 138, 3) := by decide +kernel
theorem d_M_byRule_17 : decode prog_6_method_23_code 17 = .ok (.iconst 1, 1) := by decide +kernel
theorem d_M_byRule_18 : decode prog_6_method_23_code 18 = .ok (.if_icmp .le 5, 3) := by decide +kernel
theorem d_M_byRule_21 : decode prog_6_method_23_code 21 = .ok (.iconst 0, 1) := by decide +kernel
theorem d_M_byRule_22 : decode prog_6_method_23_code 22 = .ok (.ireturn, 1) := by decide +kernel
theorem d_M_byRule_23 : decode prog_6_method_23_code 23 = .ok (.aload_n 0, 1) := by decide +kernel
theorem d_M_byRule_24 : decode prog_6_method_23_code 24 = .ok (.iload_n 1, 1) := by decide +kernel
theorem d_M_byRule_25 : decode prog_6_method_23_code 25 = .ok (.iconst 1, 1) := by decide +kernel
theorem d_M_byRule_26 : decode prog_6_method_23_code 26 = .ok (.invokevirtual 138, 3) := by decide +kernel
theorem d_M_byRule_29 : decode prog_6_method_23_code 29 = .ok (.iconst 1, 1) := by decide +kernel
theorem d_M_byRule_30 : decode prog_6_method_23_code 30 = .ok (.if_icmp .le 5, 3) := by decide +kernel
theorem d_M_byRule_33 : decode prog_6_method_23_code 33 = .ok (.iconst 2, 1) := by decide +kernel
theorem d_M_byRule_34 : decode prog_6_method_23_code 34 = .ok (.ireturn, 1) := by decide +kernel
theorem d_M_byRule_35 : decode prog_6_method_23_code 35 = .ok (.aload_n 0, 1) := by decide +kernel
theorem d_M_byRule_36 : decode prog_6_method_23_code 36 = .ok (.iload_n 1, 1) := by decide +kernel
theorem d_M_byRule_37 : decode prog_6_method_23_code 37 = .ok (.iconst 3, 1) := by decide +kernel
theorem d_M_byRule_38 : decode prog_6_method_23_code 38 = .ok (.invokevirtual 138, 3) := by decide +kernel
theorem d_M_byRule_41 : decode prog_6_method_23_code 41 = .ok (.ifCond .le 7, 3) := by decide +kernel
theorem d_M_byRule_44 : decode prog_6_method_23_code 44 = .ok (.iconst 3, 1) := by decide +kernel
theorem d_M_byRule_45 : decode prog_6_method_23_code 45 = .ok (.goto 4, 3) := by decide +kernel
theorem d_M_byRule_48 : decode prog_6_method_23_code 48 = .ok (.iconst 2, 1) := by decide +kernel
theorem d_M_byRule_49 : decode prog_6_method_23_code 49 = .ok (.ireturn, 1) := by decide +kernel
theorem cn_M_byRule : CN y_M_byRule (.code y_M_byRule prog_6_method_23_code 2 (some .int)) prog_6_method_23_code 2 (some .int) [] 1 := ⟨Or.inl ⟨rfl, rfl⟩, mw_740, mw_5, ⟨by decide +kernel, by decide +kernel⟩, by decide +kernel⟩
def b_M_byRule_49 (σ : Sg)  (t0 : Int32) : Option Int32 := (some t0)
set_option maxRecDepth 100000 in
set_option maxHeartbeats 4000000 in
theorem gb_M_byRule_49 {Γ : GX} (K : Cx Γ "TapirGroupModel" prog_6_method_23_code 2 rm_M_byRule) (S : Std Γ (some .int)) (T : Tb Γ []) (hI : y_M_byRule.name = "<init>" → Ini Γ) (σ : Sg) (t0 : Int32) : G Γ (mkI σ) 0 0 49 [] [.int t0] σ (b_M_byRule_49 σ t0) := by
  unfold b_M_byRule_49
  exact g_iret (pc := 49) K S rfl d_M_byRule_49 (by decide) (by decide) rfl
def f_M_byRule (σ : Sg) (a0 : Nat) (x1 : Int32) : Option Int32 := (if a0 < σ.1 ∧ kd a0 = 4 then (f_M_count σ a0 x1 (2 : Int32)).bind (fun v1 => (if v1 ≤ 0 then (if a0 < σ.1 ∧ kd a0 = 4 then (f_M_count σ a0 x1 (0 : Int32)).bind (fun v2 => (if v2 ≤ (1 : Int32) then (if a0 < σ.1 ∧ kd a0 = 4 then (f_M_count σ a0 x1 (1 : Int32)).bind (fun v3 => (if v3 ≤ (1 : Int32) then (if a0 < σ.1 ∧ kd a0 = 4 then (f_M_count σ a0 x1 (3 : Int32)).bind (fun v4 => (if v4 ≤ 0 then (b_M_byRule_49 σ (2 : Int32)) else (b_M_byRule_49 σ (3 : Int32)))) else none) else (some (2 : Int32)))) else none) else (some (0 : Int32)))) else none) else (some (2 : Int32)))) else none)
set_option maxRecDepth 100000 in
set_option maxHeartbeats 4000000 in
theorem k_M_byRule (l : Launch) (hl : l.stackTraces = false) (σ : Sg) (a0 : Nat) (x1 : Int32) (r : Int32) (h : f_M_byRule σ a0 x1 = some r) : Con l y_M_byRule (.code y_M_byRule prog_6_method_23_code 2 (some .int)) rm_M_byRule [.ref a0, .int x1] σ ((mkI σ) r) := by
  refine Con.of (mk := (mkI σ)) (o := f_M_byRule σ a0 x1) (z := r) (L0 := [(0, .ref a0), (1, .int x1)]) (bytes := prog_6_method_23_code) (maxL := 2) (ret := (some .int)) (hh := []) hl (by decide +kernel) (Or.inl ⟨rfl, rfl⟩) (by simp [Value.category]) (Nat.le_of_ble_eq_true rfl) rfl (fun Γ K S T hI => ?_) h rfl
  unfold f_M_byRule
  refine g_aload_n (pc := 0) (j := 0) K d_M_byRule_0 rfl ?_
  refine g_iload_n (pc := 1) (j := 1) K d_M_byRule_1 rfl ?_
  refine g_iconst (pc := 2) (v := 2) K d_M_byRule_2 (by decide) ?_
  refine g_callV (pc := 3) (ci := 4) (a := a0) (vs := [.int x1, .int (2 : Int32)]) (st := []) (mkc := mkI σ) K rfl (by decide) cn_M_count (fun l hl r hr => k_M_count l hl _ _ _ _ r hr) mw_733 mw_735 ms_25 ⟨by decide, by decide, by decide, by decide⟩ d_M_byRule_3 rfl rfl (Nat.le_of_ble_eq_true rfl) (fun v1 _ => ?_)
  change G Γ (mkI σ) 0 0 6 [(0, .ref a0), (1, .int x1)] [.int v1] σ _
  refine g_if_le (pc := 6) (tgt := 11) K d_M_byRule_6 (by decide) (fun _ => ?_) (fun _ => ?_)
  · refine g_aload_n (pc := 11) (j := 0) K d_M_byRule_11 rfl ?_
    refine g_iload_n (pc := 12) (j := 1) K d_M_byRule_12 rfl ?_
    refine g_iconst (pc := 13) (v := 0) K d_M_byRule_13 (by decide) ?_
    refine g_callV (pc := 14) (ci := 4) (a := a0) (vs := [.int x1, .int (0 : Int32)]) (st := []) (mkc := mkI σ) K rfl (by decide) cn_M_count (fun l hl r hr => k_M_count l hl _ _ _ _ r hr) mw_733 mw_735 ms_25 ⟨by decide, by decide, by decide, by decide⟩ d_M_byRule_14 rfl rfl (Nat.le_of_ble_eq_true rfl) (fun v2 _ => ?_)
    change G Γ (mkI σ) 0 0 17 [(0, .ref a0), (1, .int x1)] [.int v2] σ _
    refine g_iconst (pc := 17) (v := 1) K d_M_byRule_17 (by decide) ?_
    refine g_icmp_le (pc := 18) (tgt := 23) K d_M_byRule_18 (by decide) (fun _ => ?_) (fun _ => ?_)
    · refine g_aload_n (pc := 23) (j := 0) K d_M_byRule_23 rfl ?_
      refine g_iload_n (pc := 24) (j := 1) K d_M_byRule_24 rfl ?_
      refine g_iconst (pc := 25) (v := 1) K d_M_byRule_25 (by decide) ?_
      refine g_callV (pc := 26) (ci := 4) (a := a0) (vs := [.int x1, .int (1 : Int32)]) (st := []) (mkc := mkI σ) K rfl (by decide) cn_M_count (fun l hl r hr => k_M_count l hl _ _ _ _ r hr) mw_733 mw_735 ms_25 ⟨by decide, by decide, by decide, by decide⟩ d_M_byRule_26 rfl rfl (Nat.le_of_ble_eq_true rfl) (fun v3 _ => ?_)
      change G Γ (mkI σ) 0 0 29 [(0, .ref a0), (1, .int x1)] [.int v3] σ _
      refine g_iconst (pc := 29) (v := 1) K d_M_byRule_29 (by decide) ?_
      refine g_icmp_le (pc := 30) (tgt := 35) K d_M_byRule_30 (by decide) (fun _ => ?_) (fun _ => ?_)
      · refine g_aload_n (pc := 35) (j := 0) K d_M_byRule_35 rfl ?_
        refine g_iload_n (pc := 36) (j := 1) K d_M_byRule_36 rfl ?_
        refine g_iconst (pc := 37) (v := 3) K d_M_byRule_37 (by decide) ?_
        refine g_callV (pc := 38) (ci := 4) (a := a0) (vs := [.int x1, .int (3 : Int32)]) (st := []) (mkc := mkI σ) K rfl (by decide) cn_M_count (fun l hl r hr => k_M_count l hl _ _ _ _ r hr) mw_733 mw_735 ms_25 ⟨by decide, by decide, by decide, by decide⟩ d_M_byRule_38 rfl rfl (Nat.le_of_ble_eq_true rfl) (fun v4 _ => ?_)
        change G Γ (mkI σ) 0 0 41 [(0, .ref a0), (1, .int x1)] [.int v4] σ _
        refine g_if_le (pc := 41) (tgt := 48) K d_M_byRule_41 (by decide) (fun _ => ?_) (fun _ => ?_)
        · refine g_iconst (pc := 48) (v := 2) K d_M_byRule_48 (by decide) ?_
          refine g_sub (L' := []) [] rfl ?_
          exact gb_M_byRule_49 K S T hI σ (2 : Int32)
        · refine g_iconst (pc := 44) (v := 3) K d_M_byRule_44 (by decide) ?_
          refine g_goto (pc := 45) (tgt := 49) K d_M_byRule_45 (by decide) ?_
          refine g_sub (L' := []) [] rfl ?_
          exact gb_M_byRule_49 K S T hI σ (3 : Int32)
      · refine g_iconst (pc := 33) (v := 2) K d_M_byRule_33 (by decide) ?_
        exact g_iret (pc := 34) K S rfl d_M_byRule_34 (by decide) (by decide) rfl
    · refine g_iconst (pc := 21) (v := 0) K d_M_byRule_21 (by decide) ?_
      exact g_iret (pc := 22) K S rfl d_M_byRule_22 (by decide) (by decide) rfl
  · refine g_iconst (pc := 9) (v := 2) K d_M_byRule_9 (by decide) ?_
    exact g_iret (pc := 10) K S rfl d_M_byRule_10 (by decide) (by decide) rfl
