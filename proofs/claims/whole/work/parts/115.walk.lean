-- TapirGroupModel.write(III)V
def y_M_write : MethodName := ⟨"TapirGroupModel", "write", "(III)V"⟩
abbrev rm_M_write : Room := { frames := 3, cells := 0, slots := 0, locals := 63 }
theorem d_M_write_0 : decode prog_6_method_15_code 0 = .ok (.iload_n 1, 1) := by decide +kernel
theorem d_M_write_1 : decode prog_6_method_15_code 1 = .ok (.invokestatic 88, 3) := by decide +kernel
theorem d_M_write_4 : decode prog_6_method_15_code 4 = .ok (.ifCond .eq 14, 3) := by decide +kernel
theorem d_M_write_7 : decode prog_6_method_15_code 7 = .ok (.iload_n 2, 1) := by decide +kernel
theorem d_M_write_8 : decode prog_6_method_15_code 8 = .ok (.invokestatic 106, 3) := by decide +kernel
theorem d_M_write_11 : decode prog_6_method_15_code 11 = .ok (.ifCond .eq 7, 3) := by decide +kernel
theorem d_M_write_14 : decode prog_6_method_15_code 14 = .ok (.iconst 1, 1) := by decide +kernel
theorem d_M_write_15 : decode prog_6_method_15_code 15 = .ok (.goto 4, 3) := by decide +kernel
theorem d_M_write_18 : decode prog_6_method_15_code 18 = .ok (.iconst 0, 1) := by decide +kernel
theorem d_M_write_19 : decode prog_6_method_15_code 19 = .ok (.istore 4, 2) := by decide +kernel
theorem d_M_write_21 : decode prog_6_method_15_code 21 = .ok (.aload_n 0, 1) := by decide +kernel
theorem d_M_write_22 : decode prog_6_method_15_code 22 = .ok (.iload 4, 2) := by decide +kernel
theorem d_M_write_24 : decode prog_6_method_15_code 24 = .ok (.ifCond .ne 7, 3) := by decide +kernel
theorem d_M_write_27 : decode prog_6_method_15_code 27 = .ok (.iconst 1, 1) := by decide +kernel
theorem d_M_write_28 : decode prog_6_method_15_code 28 = .ok (.goto 17, 3) := by decide +kernel
theorem d_M_write_31 : decode prog_6_method_15_code 31 = .ok (.aload_n 0, 1) := by decide +kernel
theorem d_M_write_32 : decode prog_6_method_15_code 32 = .ok (.iload_n 1, 1) := by decide +kernel
theorem d_M_write_33 : decode prog_6_method_15_code 33 = .ok (.invokevirtual 112, 3) := by decide +kernel
theorem d_M_write_36 : decode prog_6_method_15_code 36 = .ok (.iconst 1, 1) := by decide +kernel
theorem d_M_write_37 : decode prog_6_method_15_code 37 = .ok (.if_icmp .eq 7, 3) := by decide +kernel
theorem d_M_write_40 : decode prog_6_method_15_code 40 = .ok (.iconst 2, 1) := by decide +kernel
theorem d_M_write_41 : decode prog_6_method_15_code 41 = .ok (.goto 4, 3) := by decide +kernel
theorem d_M_write_44 : decode prog_6_method_15_code 44 = .ok (.iconst 0, 1) := by decide +kernel
theorem d_M_write_45 : decode prog_6_method_15_code 45 = .ok (.invokevirtual 99, 3) := by decide +kernel
theorem d_M_write_48 : decode prog_6_method_15_code 48 = .ok (.ifCond .ne 4, 3) := by decide +kernel
theorem d_M_write_51 : decode prog_6_method_15_code 51 = .ok (.return_, 1) := by decide +kernel
theorem d_M_write_52 : decode prog_6_method_15_code 52 = .ok (.aload_n 0, 1) := by decide +kernel
theorem d_M_write_53 : decode prog_6_method_15_code 53 = .ok (.getfield 37, 3) := by decide +kernel
theorem d_M_write_56 : decode prog_6_method_15_code 56 = .ok (.iload_n 1, 1) := by decide +kernel
theorem d_M_write_57 : decode prog_6_method_15_code 57 = .ok (.iaload, 1) := by decide +kernel
theorem d_M_write_58 : decode prog_6_method_15_code 58 = .ok (.istore 5, 2) := by decide +kernel
theorem d_M_write_60 : decode prog_6_method_15_code 60 = .ok (.aload_n 0, 1) := by decide +kernel
theorem d_M_write_61 : decode prog_6_method_15_code 61 = .ok (.iload 5, 2) := by decide +kernel
theorem d_M_write_63 : decode prog_6_method_15_code 63 = .ok (.iload_n 2, 1) := by decide +kernel
theorem d_M_write_64 : decode prog_6_method_15_code 64 = .ok (.iconst 0, 1) := by decide +kernel
theorem d_M_write_65 : decode prog_6_method_15_code 65 = .ok (.invokevirtual 116, 3) := by decide +kernel
theorem d_M_write_68 : decode prog_6_method_15_code 68 = .ok (.istore 6, 2) := by decide +kernel
theorem d_M_write_70 : decode prog_6_method_15_code 70 = .ok (.aload_n 0, 1) := by decide +kernel
theorem d_M_write_71 : decode prog_6_method_15_code 71 = .ok (.iload 6, 2) := by decide +kernel
theorem d_M_write_73 : decode prog_6_method_15_code 73 = .ok (.ifCond .ge 18, 3) := by decide +kernel
theorem d_M_write_76 : decode prog_6_method_15_code 76 = .ok (.aload_n 0, 1) := by decide +kernel
theorem d_M_write_77 : decode prog_6_method_15_code 77 = .ok (.getfield 25, 3) := by decide +kernel
theorem d_M_write_80 : decode prog_6_method_15_code 80 = .ok (.iload 5, 2) := by decide +kernel
theorem d_M_write_82 : decode prog_6_method_15_code 82 = .ok (.iaload, 1) := by decide +kernel
theorem d_M_write_83 : decode prog_6_method_15_code 83 = .ok (.iconst 4, 1) := by decide +kernel
theorem d_M_write_84 : decode prog_6_method_15_code 84 = .ok (.if_icmp .ne 7, 3) := by decide +kernel
theorem d_M_write_87 : decode prog_6_method_15_code 87 = .ok (.iconst 3, 1) := by decide +kernel
theorem d_M_write_88 : decode prog_6_method_15_code 88 = .ok (.goto 4, 3) := by decide +kernel
theorem d_M_write_91 : decode prog_6_method_15_code 91 = .ok (.iconst 0, 1) := by decide +kernel
theorem d_M_write_92 : decode prog_6_method_15_code 92 = .ok (.invokevirtual 99, 3) := by decide +kernel
theorem d_M_write_95 : decode prog_6_method_15_code 95 = .ok (.ifCond .ne 4, 3) := by decide +kernel
theorem d_M_write_98 : decode prog_6_method_15_code 98 = .ok (.return_, 1) := by decide +kernel
theorem d_M_write_99 : decode prog_6_method_15_code 99 = .ok (.iload 6, 2) := by decide +kernel
theorem d_M_write_101 : decode prog_6_method_15_code 101 = .ok (.ifCond .ge 28, 3) := by decide +kernel
theorem d_M_write_104 : decode prog_6_method_15_code 104 = .ok (.iconst 4, 1) := by decide +kernel
theorem d_M_write_105 : decode prog_6_method_15_code 105 = .ok (.iload 5, 2) := by decide +kernel
theorem d_M_write_107 : decode prog_6_method_15_code 107 = .ok (.imul, 1) := by decide +kernel
theorem d_M_write_108 : decode prog_6_method_15_code 108 = .ok (.aload_n 0, 1) := by decide +kernel
theorem d_M_write_109 : decode prog_6_method_15_code 109 = .ok (.getfield 25, 3) := by decide +kernel
theorem d_M_write_112 : decode prog_6_method_15_code 112 = .ok (.iload 5, 2) := by decide +kernel
theorem d_M_write_114 : decode prog_6_method_15_code 114 = .ok (.iaload, 1) := by decide +kernel
theorem d_M_write_115 : decode prog_6_method_15_code 115 = .ok (.iadd, 1) := by decide +kernel
theorem d_M_write_116 : decode prog_6_method_15_code 116 = .ok (.istore 6, 2) := by decide +kernel
theorem d_M_write_118 : decode prog_6_method_15_code 118 = .ok (.aload_n 0, 1) := by decide +kernel
theorem d_M_write_119 : decode prog_6_method_15_code 119 = .ok (.getfield 25, 3) := by decide +kernel
theorem d_M_write_122 : decode prog_6_method_15_code 122 = .ok (.iload 5, 2) := by decide +kernel
theorem d_M_write_124 : decode prog_6_method_15_code 124 = .ok (.dup2, 1) := by decide +kernel
theorem d_M_write_125 : decode prog_6_method_15_code 125 = .ok (.iaload, 1) := by decide +kernel
theorem d_M_write_126 : decode prog_6_method_15_code 126 = .ok (.iconst 1, 1) := by decide +kernel
theorem d_M_write_127 : decode prog_6_method_15_code 127 = .ok (.iadd, 1) := by decide +kernel
theorem d_M_write_128 : decode prog_6_method_15_code 128 = .ok (.iastore, 1) := by decide +kernel
theorem d_M_write_129 : decode prog_6_method_15_code 129 = .ok (.aload_n 0, 1) := by decide +kernel
theorem d_M_write_130 : decode prog_6_method_15_code 130 = .ok (.getfield 28, 3) := by decide +kernel
theorem d_M_write_133 : decode prog_6_method_15_code 133 = .ok (.iload 6, 2) := by decide +kernel
theorem d_M_write_135 : decode prog_6_method_15_code 135 = .ok (.iload_n 2, 1) := by decide +kernel
theorem d_M_write_136 : decode prog_6_method_15_code 136 = .ok (.iastore, 1) := by decide +kernel
theorem d_M_write_137 : decode prog_6_method_15_code 137 = .ok (.aload_n 0, 1) := by decide +kernel
theorem d_M_write_138 : decode prog_6_method_15_code 138 = .ok (.getfield 31, 3) := by decide +kernel
theorem d_M_write_141 : decode prog_6_method_15_code 141 = .ok (.iload 6, 2) := by decide +kernel
theorem d_M_write_143 : decode prog_6_method_15_code 143 = .ok (.iload_n 3, 1) := by decide +kernel
theorem d_M_write_144 : decode prog_6_method_15_code 144 = .ok (.iastore, 1) := by decide +kernel
theorem d_M_write_145 : decode prog_6_method_15_code 145 = .ok (.return_, 1) := by decide +kernel
theorem cn_M_write : CN y_M_write (.code y_M_write prog_6_method_15_code 7 none) prog_6_method_15_code 7 none [] 3 := ⟨Or.inl ⟨rfl, rfl⟩, mw_703, mw_5, ⟨by decide +kernel, by decide +kernel⟩, by decide +kernel⟩
def b_M_write_129  (σ : Sg) (a0 : Nat) (x2 : Int32) (x3 : Int32) (x6 : Int32) : Option Sg := (if a0 < σ.1 ∧ kd a0 = 4 then rc (g_r σ a0 8) none (fun b14 => (if (b14 < σ.1 ∧ kd b14 = 10) ∧ inb x6 (ln b14) = true then (wi (s_i σ b14 x6.toNatClampNeg x2) (fun s15 => (if a0 < s15.1 ∧ kd a0 = 4 then rc (g_r s15 a0 9) none (fun b16 => (if (b16 < s15.1 ∧ kd b16 = 10) ∧ inb x6 (ln b16) = true then (wi (s_i s15 b16 x6.toNatClampNeg x3) (fun s17 => (some s17))) else none)) else none))) else none)) else none)
set_option maxRecDepth 100000 in
set_option maxHeartbeats 4000000 in
theorem gb_M_write_129 {Γ : GX} (K : Cx Γ "TapirGroupModel" prog_6_method_15_code 7 rm_M_write) (S : Std Γ none) (T : Tb Γ []) (hI : y_M_write.name = "<init>" → Ini Γ) (σ : Sg) (a0 : Nat) (x2 : Int32) (x3 : Int32) (x6 : Int32) : G Γ mkV 0 0 129 [(0, .ref a0), (2, .int x2), (3, .int x3), (6, .int x6)] [] σ (b_M_write_129 σ a0 x2 x3 x6) := by
  unfold b_M_write_129
  refine g_aload_n (pc := 129) (j := 0) K d_M_write_129 rfl ?_
  refine g_getR (pc := 130) K fl_M_28 d_M_write_130 (fun _ => ?_) (fun b14 _ => ?_)
  · exact g_none
  · refine g_iload (pc := 133) (j := 3) K d_M_write_133 rfl ?_
    refine g_iload_n (pc := 135) (j := 1) K d_M_write_135 rfl ?_
    refine g_iast (pc := 136) K d_M_write_136 ?_
    refine g_wi (fun s15 _ => ?_)
    refine g_aload_n (pc := 137) (j := 0) K d_M_write_137 rfl ?_
    refine g_getR (pc := 138) K fl_M_31 d_M_write_138 (fun _ => ?_) (fun b16 _ => ?_)
    · exact g_none
    · refine g_iload (pc := 141) (j := 3) K d_M_write_141 rfl ?_
      refine g_iload_n (pc := 143) (j := 2) K d_M_write_143 rfl ?_
      refine g_iast (pc := 144) K d_M_write_144 ?_
      refine g_wi (fun s17 _ => ?_)
      exact g_vret (pc := 145) K S d_M_write_145 (by decide) (by decide) rfl
def b_M_write_92  (σ : Sg) (a0 : Nat) (x2 : Int32) (x3 : Int32) (x5 : Int32) (x6 : Int32) (t0 : Nat) (t1 : Int32) : Option Sg := (if t0 < σ.1 ∧ kd t0 = 4 then (f_M_says σ t0 t1).bind (fun w9 => (if w9.1 = 0 then (some w9.2) else (if 0 ≤ x6 then (b_M_write_129 w9.2 a0 x2 x3 x6) else (if a0 < w9.2.1 ∧ kd a0 = 4 then rc (g_r w9.2 a0 7) none (fun b10 => (if (b10 < w9.2.1 ∧ kd b10 = 10) ∧ inb x5 (ln b10) = true then (wn (((4 : Int32) * x5) + (g_i w9.2 b10 x5.toNatClampNeg)) (fun y11 => (if a0 < w9.2.1 ∧ kd a0 = 4 then rc (g_r w9.2 a0 7) none (fun b12 => (if (b12 < w9.2.1 ∧ kd b12 = 10) ∧ inb x5 (ln b12) = true then (if (b12 < w9.2.1 ∧ kd b12 = 10) ∧ inb x5 (ln b12) = true then (wi (s_i w9.2 b12 x5.toNatClampNeg ((g_i w9.2 b12 x5.toNatClampNeg) + (1 : Int32))) (fun s13 => (b_M_write_129 s13 a0 x2 x3 y11))) else none) else none)) else none))) else none)) else none)))) else none)
set_option maxRecDepth 100000 in
set_option maxHeartbeats 4000000 in
theorem gb_M_write_92 {Γ : GX} (K : Cx Γ "TapirGroupModel" prog_6_method_15_code 7 rm_M_write) (S : Std Γ none) (T : Tb Γ []) (hI : y_M_write.name = "<init>" → Ini Γ) (σ : Sg) (a0 : Nat) (x2 : Int32) (x3 : Int32) (x5 : Int32) (x6 : Int32) (t0 : Nat) (t1 : Int32) : G Γ mkV 0 0 92 [(0, .ref a0), (2, .int x2), (3, .int x3), (5, .int x5), (6, .int x6)] [.int t1, .ref t0] σ (b_M_write_92 σ a0 x2 x3 x5 x6 t0 t1) := by
  unfold b_M_write_92
  refine g_callV (pc := 92) (ci := 4) (a := t0) (vs := [.int t1]) (st := []) (mkc := mkW) K rfl (by decide) cn_M_says (fun l hl r hr => k_M_says l hl _ _ _ r hr) mw_666 mw_668 ms_15 ⟨by decide, by decide, by decide, by decide⟩ d_M_write_92 rfl rfl (Nat.le_of_ble_eq_true rfl) (fun w9 _ => ?_)
  change G Γ mkV 0 0 95 [(0, .ref a0), (2, .int x2), (3, .int x3), (5, .int x5), (6, .int x6)] [.int w9.1] w9.2 _
  refine g_if_ne (pc := 95) (tgt := 99) K d_M_write_95 (by decide) (fun _ => ?_) (fun _ => ?_)
  · refine g_iload (pc := 99) (j := 4) K d_M_write_99 rfl ?_
    refine g_if_ge (pc := 101) (tgt := 129) K d_M_write_101 (by decide) (fun _ => ?_) (fun _ => ?_)
    · refine g_sub (L' := [(0, .ref a0), (2, .int x2), (3, .int x3), (6, .int x6)]) [0, 1, 2, 4] rfl ?_
      exact gb_M_write_129 K S T hI w9.2 a0 x2 x3 x6
    · refine g_iconst (pc := 104) (v := 4) K d_M_write_104 (by decide) ?_
      refine g_iload (pc := 105) (j := 3) K d_M_write_105 rfl ?_
      refine g_imul (pc := 107) K d_M_write_107 ?_
      refine g_aload_n (pc := 108) (j := 0) K d_M_write_108 rfl ?_
      refine g_getR (pc := 109) K fl_M_25 d_M_write_109 (fun _ => ?_) (fun b10 _ => ?_)
      · exact g_none
      · refine g_iload (pc := 112) (j := 3) K d_M_write_112 rfl ?_
        refine g_iald (pc := 114) K d_M_write_114 ?_
        refine g_iadd (pc := 115) K d_M_write_115 ?_
        refine g_wn (fun y11 _ => ?_)
        refine g_istore (pc := 116) (L' := [(6, .int y11), (0, .ref a0), (2, .int x2), (3, .int x3), (5, .int x5)]) K d_M_write_116 (by decide) rfl ?_
        refine g_aload_n (pc := 118) (j := 1) K d_M_write_118 rfl ?_
        refine g_getR (pc := 119) K fl_M_25 d_M_write_119 (fun _ => ?_) (fun b12 _ => ?_)
        · exact g_none
        · refine g_iload (pc := 122) (j := 4) K d_M_write_122 rfl ?_
          refine g_dup2 (pc := 124) K d_M_write_124 rfl rfl ?_
          refine g_iald (pc := 125) K d_M_write_125 ?_
          refine g_iconst (pc := 126) (v := 1) K d_M_write_126 (by decide) ?_
          refine g_iadd (pc := 127) K d_M_write_127 ?_
          refine g_iast (pc := 128) K d_M_write_128 ?_
          refine g_wi (fun s13 _ => ?_)
          refine g_sub (L' := [(0, .ref a0), (2, .int x2), (3, .int x3), (6, .int y11)]) [1, 2, 3, 0] rfl ?_
          exact gb_M_write_129 K S T hI s13 a0 x2 x3 y11
  · exact g_vret (pc := 98) K S d_M_write_98 (by decide) (by decide) rfl
def b_M_write_91  (σ : Sg) (a0 : Nat) (x2 : Int32) (x3 : Int32) (x5 : Int32) (x6 : Int32) (t0 : Nat) : Option Sg := (b_M_write_92 σ a0 x2 x3 x5 x6 t0 (0 : Int32))
set_option maxRecDepth 100000 in
set_option maxHeartbeats 4000000 in
theorem gb_M_write_91 {Γ : GX} (K : Cx Γ "TapirGroupModel" prog_6_method_15_code 7 rm_M_write) (S : Std Γ none) (T : Tb Γ []) (hI : y_M_write.name = "<init>" → Ini Γ) (σ : Sg) (a0 : Nat) (x2 : Int32) (x3 : Int32) (x5 : Int32) (x6 : Int32) (t0 : Nat) : G Γ mkV 0 0 91 [(0, .ref a0), (2, .int x2), (3, .int x3), (5, .int x5), (6, .int x6)] [.ref t0] σ (b_M_write_91 σ a0 x2 x3 x5 x6 t0) := by
  unfold b_M_write_91
  refine g_iconst (pc := 91) (v := 0) K d_M_write_91 (by decide) ?_
  exact gb_M_write_92 K S T hI σ a0 x2 x3 x5 x6 t0 (0 : Int32)
def b_M_write_45  (σ : Sg) (a0 : Nat) (x1 : Int32) (x2 : Int32) (x3 : Int32) (t0 : Nat) (t1 : Int32) : Option Sg := (if t0 < σ.1 ∧ kd t0 = 4 then (f_M_says σ t0 t1).bind (fun w4 => (if w4.1 = 0 then (some w4.2) else (if a0 < w4.2.1 ∧ kd a0 = 4 then rc (g_r w4.2 a0 11) none (fun b5 => (if (b5 < w4.2.1 ∧ kd b5 = 10) ∧ inb x1 (ln b5) = true then (wn (g_i w4.2 b5 x1.toNatClampNeg) (fun y6 => (if a0 < w4.2.1 ∧ kd a0 = 4 then (f_M_placeOf w4.2 a0 y6 x2 (0 : Int32)).bind (fun v7 => (if 0 ≤ v7 then (b_M_write_91 w4.2 a0 x2 x3 y6 v7 a0) else (if a0 < w4.2.1 ∧ kd a0 = 4 then rc (g_r w4.2 a0 7) none (fun b8 => (if (b8 < w4.2.1 ∧ kd b8 = 10) ∧ inb y6 (ln b8) = true then (if (g_i w4.2 b8 y6.toNatClampNeg) = (4 : Int32) then (b_M_write_92 w4.2 a0 x2 x3 y6 v7 a0 (3 : Int32)) else (b_M_write_91 w4.2 a0 x2 x3 y6 v7 a0)) else none)) else none))) else none))) else none)) else none))) else none)
set_option maxRecDepth 100000 in
set_option maxHeartbeats 4000000 in
theorem gb_M_write_45 {Γ : GX} (K : Cx Γ "TapirGroupModel" prog_6_method_15_code 7 rm_M_write) (S : Std Γ none) (T : Tb Γ []) (hI : y_M_write.name = "<init>" → Ini Γ) (σ : Sg) (a0 : Nat) (x1 : Int32) (x2 : Int32) (x3 : Int32) (t0 : Nat) (t1 : Int32) : G Γ mkV 0 0 45 [(0, .ref a0), (1, .int x1), (2, .int x2), (3, .int x3)] [.int t1, .ref t0] σ (b_M_write_45 σ a0 x1 x2 x3 t0 t1) := by
  unfold b_M_write_45
  refine g_callV (pc := 45) (ci := 4) (a := t0) (vs := [.int t1]) (st := []) (mkc := mkW) K rfl (by decide) cn_M_says (fun l hl r hr => k_M_says l hl _ _ _ r hr) mw_666 mw_668 ms_15 ⟨by decide, by decide, by decide, by decide⟩ d_M_write_45 rfl rfl (Nat.le_of_ble_eq_true rfl) (fun w4 _ => ?_)
  change G Γ mkV 0 0 48 [(0, .ref a0), (1, .int x1), (2, .int x2), (3, .int x3)] [.int w4.1] w4.2 _
  refine g_if_ne (pc := 48) (tgt := 52) K d_M_write_48 (by decide) (fun _ => ?_) (fun _ => ?_)
  · refine g_aload_n (pc := 52) (j := 0) K d_M_write_52 rfl ?_
    refine g_getR (pc := 53) K fl_M_37 d_M_write_53 (fun _ => ?_) (fun b5 _ => ?_)
    · exact g_none
    · refine g_iload_n (pc := 56) (j := 1) K d_M_write_56 rfl ?_
      refine g_iald (pc := 57) K d_M_write_57 ?_
      refine g_wn (fun y6 _ => ?_)
      refine g_istore (pc := 58) (L' := [(5, .int y6), (0, .ref a0), (1, .int x1), (2, .int x2), (3, .int x3)]) K d_M_write_58 (by decide) rfl ?_
      refine g_aload_n (pc := 60) (j := 1) K d_M_write_60 rfl ?_
      refine g_iload (pc := 61) (j := 0) K d_M_write_61 rfl ?_
      refine g_iload_n (pc := 63) (j := 3) K d_M_write_63 rfl ?_
      refine g_iconst (pc := 64) (v := 0) K d_M_write_64 (by decide) ?_
      refine g_callV (pc := 65) (ci := 4) (a := a0) (vs := [.int y6, .int x2, .int (0 : Int32)]) (st := []) (mkc := mkI w4.2) K rfl (by decide) cn_M_placeOf (fun l hl r hr => k_M_placeOf l hl _ _ _ _ _ r hr) mw_688 mw_690 ms_18 ⟨by decide, by decide, by decide, by decide⟩ d_M_write_65 rfl rfl (Nat.le_of_ble_eq_true rfl) (fun v7 _ => ?_)
      change G Γ mkV 0 0 68 [(5, .int y6), (0, .ref a0), (1, .int x1), (2, .int x2), (3, .int x3)] [.int v7] w4.2 _
      refine g_istore (pc := 68) (L' := [(6, .int v7), (5, .int y6), (0, .ref a0), (1, .int x1), (2, .int x2), (3, .int x3)]) K d_M_write_68 (by decide) rfl ?_
      refine g_aload_n (pc := 70) (j := 2) K d_M_write_70 rfl ?_
      refine g_iload (pc := 71) (j := 0) K d_M_write_71 rfl ?_
      refine g_if_ge (pc := 73) (tgt := 91) K d_M_write_73 (by decide) (fun _ => ?_) (fun _ => ?_)
      · refine g_sub (L' := [(0, .ref a0), (2, .int x2), (3, .int x3), (5, .int y6), (6, .int v7)]) [2, 4, 5, 1, 0] rfl ?_
        exact gb_M_write_91 K S T hI w4.2 a0 x2 x3 y6 v7 a0
      · refine g_aload_n (pc := 76) (j := 2) K d_M_write_76 rfl ?_
        refine g_getR (pc := 77) K fl_M_25 d_M_write_77 (fun _ => ?_) (fun b8 _ => ?_)
        · exact g_none
        · refine g_iload (pc := 80) (j := 1) K d_M_write_80 rfl ?_
          refine g_iald (pc := 82) K d_M_write_82 ?_
          refine g_iconst (pc := 83) (v := 4) K d_M_write_83 (by decide) ?_
          refine g_icmp_ne (pc := 84) (tgt := 91) K d_M_write_84 (by decide) (fun _ => ?_) (fun _ => ?_)
          · refine g_sub (L' := [(0, .ref a0), (2, .int x2), (3, .int x3), (5, .int y6), (6, .int v7)]) [2, 4, 5, 1, 0] rfl ?_
            exact gb_M_write_91 K S T hI w4.2 a0 x2 x3 y6 v7 a0
          · refine g_iconst (pc := 87) (v := 3) K d_M_write_87 (by decide) ?_
            refine g_goto (pc := 88) (tgt := 92) K d_M_write_88 (by decide) ?_
            refine g_sub (L' := [(0, .ref a0), (2, .int x2), (3, .int x3), (5, .int y6), (6, .int v7)]) [2, 4, 5, 1, 0] rfl ?_
            exact gb_M_write_92 K S T hI w4.2 a0 x2 x3 y6 v7 a0 (3 : Int32)
  · exact g_vret (pc := 51) K S d_M_write_51 (by decide) (by decide) rfl
def b_M_write_19  (σ : Sg) (a0 : Nat) (x1 : Int32) (x2 : Int32) (x3 : Int32) (t0 : Int32) : Option Sg := (if t0 = 0 then (b_M_write_45 σ a0 x1 x2 x3 a0 (1 : Int32)) else (if a0 < σ.1 ∧ kd a0 = 4 then (f_M_stateOf σ a0 x1).bind (fun v3 => (if v3 = (1 : Int32) then (b_M_write_45 σ a0 x1 x2 x3 a0 (0 : Int32)) else (b_M_write_45 σ a0 x1 x2 x3 a0 (2 : Int32)))) else none))
set_option maxRecDepth 100000 in
set_option maxHeartbeats 4000000 in
theorem gb_M_write_19 {Γ : GX} (K : Cx Γ "TapirGroupModel" prog_6_method_15_code 7 rm_M_write) (S : Std Γ none) (T : Tb Γ []) (hI : y_M_write.name = "<init>" → Ini Γ) (σ : Sg) (a0 : Nat) (x1 : Int32) (x2 : Int32) (x3 : Int32) (t0 : Int32) : G Γ mkV 0 0 19 [(0, .ref a0), (1, .int x1), (2, .int x2), (3, .int x3)] [.int t0] σ (b_M_write_19 σ a0 x1 x2 x3 t0) := by
  unfold b_M_write_19
  refine g_istore (pc := 19) (L' := [(4, .int t0), (0, .ref a0), (1, .int x1), (2, .int x2), (3, .int x3)]) K d_M_write_19 (by decide) rfl ?_
  refine g_aload_n (pc := 21) (j := 1) K d_M_write_21 rfl ?_
  refine g_iload (pc := 22) (j := 0) K d_M_write_22 rfl ?_
  refine g_if_ne (pc := 24) (tgt := 31) K d_M_write_24 (by decide) (fun _ => ?_) (fun _ => ?_)
  · refine g_aload_n (pc := 31) (j := 1) K d_M_write_31 rfl ?_
    refine g_iload_n (pc := 32) (j := 2) K d_M_write_32 rfl ?_
    refine g_callV (pc := 33) (ci := 4) (a := a0) (vs := [.int x1]) (st := [.ref a0]) (mkc := mkI σ) K rfl (by decide) cn_M_stateOf (fun l hl r hr => k_M_stateOf l hl _ _ _ r hr) mw_684 mw_686 ms_17 ⟨by decide, by decide, by decide, by decide⟩ d_M_write_33 rfl rfl (Nat.le_of_ble_eq_true rfl) (fun v3 _ => ?_)
    change G Γ mkV 0 0 36 [(4, .int t0), (0, .ref a0), (1, .int x1), (2, .int x2), (3, .int x3)] [.int v3, .ref a0] σ _
    refine g_iconst (pc := 36) (v := 1) K d_M_write_36 (by decide) ?_
    refine g_icmp_eq (pc := 37) (tgt := 44) K d_M_write_37 (by decide) (fun _ => ?_) (fun _ => ?_)
    · refine g_iconst (pc := 44) (v := 0) K d_M_write_44 (by decide) ?_
      refine g_sub (L' := [(0, .ref a0), (1, .int x1), (2, .int x2), (3, .int x3)]) [1, 2, 3, 4] rfl ?_
      exact gb_M_write_45 K S T hI σ a0 x1 x2 x3 a0 (0 : Int32)
    · refine g_iconst (pc := 40) (v := 2) K d_M_write_40 (by decide) ?_
      refine g_goto (pc := 41) (tgt := 45) K d_M_write_41 (by decide) ?_
      refine g_sub (L' := [(0, .ref a0), (1, .int x1), (2, .int x2), (3, .int x3)]) [1, 2, 3, 4] rfl ?_
      exact gb_M_write_45 K S T hI σ a0 x1 x2 x3 a0 (2 : Int32)
  · refine g_iconst (pc := 27) (v := 1) K d_M_write_27 (by decide) ?_
    refine g_goto (pc := 28) (tgt := 45) K d_M_write_28 (by decide) ?_
    refine g_sub (L' := [(0, .ref a0), (1, .int x1), (2, .int x2), (3, .int x3)]) [1, 2, 3, 4] rfl ?_
    exact gb_M_write_45 K S T hI σ a0 x1 x2 x3 a0 (1 : Int32)
def b_M_write_18  (σ : Sg) (a0 : Nat) (x1 : Int32) (x2 : Int32) (x3 : Int32) : Option Sg := (b_M_write_19 σ a0 x1 x2 x3 (0 : Int32))
set_option maxRecDepth 100000 in
set_option maxHeartbeats 4000000 in
theorem gb_M_write_18 {Γ : GX} (K : Cx Γ "TapirGroupModel" prog_6_method_15_code 7 rm_M_write) (S : Std Γ none) (T : Tb Γ []) (hI : y_M_write.name = "<init>" → Ini Γ) (σ : Sg) (a0 : Nat) (x1 : Int32) (x2 : Int32) (x3 : Int32) : G Γ mkV 0 0 18 [(0, .ref a0), (1, .int x1), (2, .int x2), (3, .int x3)] [] σ (b_M_write_18 σ a0 x1 x2 x3) := by
  unfold b_M_write_18
  refine g_iconst (pc := 18) (v := 0) K d_M_write_18 (by decide) ?_
  exact gb_M_write_19 K S T hI σ a0 x1 x2 x3 (0 : Int32)
def f_M_write (σ : Sg) (a0 : Nat) (x1 : Int32) (x2 : Int32) (x3 : Int32) : Option Sg := ((f_M_isClient σ x1).bind (fun v1 => (if v1 = 0 then (b_M_write_18 σ a0 x1 x2 x3) else ((f_M_isKey σ x2).bind (fun v2 => (if v2 = 0 then (b_M_write_18 σ a0 x1 x2 x3) else (b_M_write_19 σ a0 x1 x2 x3 (1 : Int32))))))))
set_option maxRecDepth 100000 in
set_option maxHeartbeats 4000000 in
theorem k_M_write (l : Launch) (hl : l.stackTraces = false) (σ : Sg) (a0 : Nat) (x1 : Int32) (x2 : Int32) (x3 : Int32) (r : Sg) (h : f_M_write σ a0 x1 x2 x3 = some r) : Con l y_M_write (.code y_M_write prog_6_method_15_code 7 none) rm_M_write [.ref a0, .int x1, .int x2, .int x3] σ (mkV r) := by
  refine Con.of (mk := mkV) (o := f_M_write σ a0 x1 x2 x3) (z := r) (L0 := [(0, .ref a0), (1, .int x1), (2, .int x2), (3, .int x3)]) (bytes := prog_6_method_15_code) (maxL := 7) (ret := none) (hh := []) hl (by decide +kernel) (Or.inl ⟨rfl, rfl⟩) (by simp [Value.category]) (Nat.le_of_ble_eq_true rfl) rfl (fun Γ K S T hI => ?_) h rfl
  unfold f_M_write
  refine g_iload_n (pc := 0) (j := 1) K d_M_write_0 rfl ?_
  refine g_callS (pc := 1) (vs := [.int x1]) (st := []) (mkc := mkI σ) K cn_M_isClient (fun l hl r hr => k_M_isClient l hl _ _ r hr) mw_660 mw_661 ⟨by decide, by decide, by decide, by decide⟩ d_M_write_1 rfl rfl (Nat.le_of_ble_eq_true rfl) (fun v1 _ => ?_)
  change G Γ mkV 0 0 4 [(0, .ref a0), (1, .int x1), (2, .int x2), (3, .int x3)] [.int v1] σ _
  refine g_if_eq (pc := 4) (tgt := 18) K d_M_write_4 (by decide) (fun _ => ?_) (fun _ => ?_)
  · exact gb_M_write_18 K S T hI σ a0 x1 x2 x3
  · refine g_iload_n (pc := 7) (j := 2) K d_M_write_7 rfl ?_
    refine g_callS (pc := 8) (vs := [.int x2]) (st := []) (mkc := mkI σ) K cn_M_isKey (fun l hl r hr => k_M_isKey l hl _ _ r hr) mw_678 mw_679 ⟨by decide, by decide, by decide, by decide⟩ d_M_write_8 rfl rfl (Nat.le_of_ble_eq_true rfl) (fun v2 _ => ?_)
    change G Γ mkV 0 0 11 [(0, .ref a0), (1, .int x1), (2, .int x2), (3, .int x3)] [.int v2] σ _
    refine g_if_eq (pc := 11) (tgt := 18) K d_M_write_11 (by decide) (fun _ => ?_) (fun _ => ?_)
    · exact gb_M_write_18 K S T hI σ a0 x1 x2 x3
    · refine g_iconst (pc := 14) (v := 1) K d_M_write_14 (by decide) ?_
      refine g_goto (pc := 15) (tgt := 19) K d_M_write_15 (by decide) ?_
      exact gb_M_write_19 K S T hI σ a0 x1 x2 x3 (1 : Int32)
-- TapirGroupModel.propose(II)V
def y_M_propose : MethodName := ⟨"TapirGroupModel", "propose", "(II)V"⟩
abbrev rm_M_propose : Room := { frames := 3, cells := 0, slots := 0, locals := 63 }
theorem d_M_propose_0 : decode prog_6_method_16_code 0 = .ok (.iload_n 1, 1) := by decide +kernel
theorem d_M_propose_1 : decode prog_6_method_16_code 1 = .ok (.invokestatic 88, 3) := by decide +kernel
theorem d_M_propose_4 : decode prog_6_method_16_code 4 = .ok (.ifCond .eq 17, 3) := by decide +kernel
theorem d_M_propose_7 : decode prog_6_method_16_code 7 = .ok (.iload_n 2, 1) := by decide +kernel
theorem d_M_propose_8 : decode prog_6_method_16_code 8 = .ok (.iconst 1, 1) := by decide +kernel
theorem d_M_propose_9 : decode prog_6_method_16_code 9 = .ok (.ldc 123, 2) := by decide +kernel
theorem d_M_propose_11 : decode prog_6_method_16_code 11 = .ok (.invokestatic 84, 3) := by decide +kernel
theorem d_M_propose_14 : decode prog_6_method_16_code 14 = .ok (.ifCond .eq 7, 3) := by decide +kernel
theorem d_M_propose_17 : decode prog_6_method_16_code 17 = .ok (.iconst 1, 1) := by decide +kernel
theorem d_M_propose_18 : decode prog_6_method_16_code 18 = .ok (.goto 4, 3) := by decide +kernel
theorem d_M_propose_21 : decode prog_6_method_16_code 21 = .ok (.iconst 0, 1) := by decide +kernel
theorem d_M_propose_22 : decode prog_6_method_16_code 22 = .ok (.istore_n 3, 1) := by decide +kernel
theorem d_M_propose_23 : decode prog_6_method_16_code 23 = .ok (.aload_n 0, 1) := by decide +kernel
theorem d_M_propose_24 : decode prog_6_method_16_code 24 = .ok (.iload_n 1, 1) := by decide +kernel
theorem d_M_propose_25 : decode prog_6_method_16_code 25 = .ok (.invokevirtual 112, 3) := by decide +kernel
theorem d_M_propose_28 : decode prog_6_method_16_code 28 = .ok (.iconst 1, 1) := by decide +kernel
theorem d_M_propose_29 : decode prog_6_method_16_code 29 = .ok (.if_icmp .eq 12, 3) := by decide +kernel
theorem d_M_propose_32 : decode prog_6_method_16_code 32 = .ok (.aload_n 0, 1) := by decide +kernel
theorem d_M_propose_33 : decode prog_6_method_16_code 33 = .ok (.iload_n 1, 1) := by decide +kernel
theorem d_M_propose_34 : decode prog_6_method_16_code 34 = .ok (.invokevirtual 112, 3) := by decide +kernel
theorem d_M_propose_37 : decode prog_6_method_16_code 37 = .ok (.iconst 2, 1) := by decide +kernel
theorem d_M_propose_38 : decode prog_6_method_16_code 38 = .ok (.if_icmp .ne 7, 3) := by decide +kernel
theorem d_M_propose_41 : decode prog_6_method_16_code 41 = .ok (.iconst 1, 1) := by decide +kernel
theorem d_M_propose_42 : decode prog_6_method_16_code 42 = .ok (.goto 4, 3) := by decide +kernel
theorem d_M_propose_45 : decode prog_6_method_16_code 45 = .ok (.iconst 0, 1) := by decide +kernel
theorem d_M_propose_46 : decode prog_6_method_16_code 46 = .ok (.istore 4, 2) := by decide +kernel
theorem d_M_propose_48 : decode prog_6_method_16_code 48 = .ok (.aload_n 0, 1) := by decide +kernel
theorem d_M_propose_49 : decode prog_6_method_16_code 49 = .ok (.iload_n 3, 1) := by decide +kernel
theorem d_M_propose_50 : decode prog_6_method_16_code 50 = .ok (.ifCond .ne 7, 3) := by decide +kernel
theorem d_M_propose_53 : decode prog_6_method_16_code 53 = .ok (.iconst 1, 1) := by decide +kernel
theorem d_M_propose_54 : decode prog_6_method_16_code 54 = .ok (.goto 23, 3) := by decide +kernel
theorem d_M_propose_57 : decode prog_6_method_16_code 57 = .ok (.iload 4, 2) := by decide +kernel
theorem d_M_propose_59 : decode prog_6_method_16_code 59 = .ok (.ifCond .eq 13, 3) := by decide +kernel
theorem d_M_propose_62 : decode prog_6_method_16_code 62 = .ok (.aload_n 0, 1) := by decide +kernel
theorem d_M_propose_63 : decode prog_6_method_16_code 63 = .ok (.getfield 43, 3) := by decide +kernel
theorem d_M_propose_66 : decode prog_6_method_16_code 66 = .ok (.iload_n 1, 1) := by decide +kernel
theorem d_M_propose_67 : decode prog_6_method_16_code 67 = .ok (.iaload, 1) := by decide +kernel
theorem d_M_propose_68 : decode prog_6_method_16_code 68 = .ok (.iload_n 2, 1) := by decide +kernel
theorem d_M_propose_69 : decode prog_6_method_16_code 69 = .ok (.if_icmp .lt 7, 3) := by decide +kernel
theorem d_M_propose_72 : decode prog_6_method_16_code 72 = .ok (.iconst 2, 1) := by decide +kernel
theorem d_M_propose_73 : decode prog_6_method_16_code 73 = .ok (.goto 4, 3) := by decide +kernel
theorem d_M_propose_76 : decode prog_6_method_16_code 76 = .ok (.iconst 0, 1) := by decide +kernel
theorem d_M_propose_77 : decode prog_6_method_16_code 77 = .ok (.invokevirtual 99, 3) := by decide +kernel
theorem d_M_propose_80 : decode prog_6_method_16_code 80 = .ok (.ifCond .ne 4, 3) := by decide +kernel
theorem d_M_propose_83 : decode prog_6_method_16_code 83 = .ok (.return_, 1) := by decide +kernel
theorem d_M_propose_84 : decode prog_6_method_16_code 84 = .ok (.aload_n 0, 1) := by decide +kernel
theorem d_M_propose_85 : decode prog_6_method_16_code 85 = .ok (.getfield 37, 3) := by decide +kernel
theorem d_M_propose_88 : decode prog_6_method_16_code 88 = .ok (.iload_n 1, 1) := by decide +kernel
theorem d_M_propose_89 : decode prog_6_method_16_code 89 = .ok (.iaload, 1) := by decide +kernel
theorem d_M_propose_90 : decode prog_6_method_16_code 90 = .ok (.istore 5, 2) := by decide +kernel
theorem d_M_propose_92 : decode prog_6_method_16_code 92 = .ok (.aload_n 0, 1) := by decide +kernel
theorem d_M_propose_93 : decode prog_6_method_16_code 93 = .ok (.getfield 43, 3) := by decide +kernel
theorem d_M_propose_96 : decode prog_6_method_16_code 96 = .ok (.iload_n 1, 1) := by decide +kernel
theorem d_M_propose_97 : decode prog_6_method_16_code 97 = .ok (.iload_n 2, 1) := by decide +kernel
theorem d_M_propose_98 : decode prog_6_method_16_code 98 = .ok (.iastore, 1) := by decide +kernel
theorem d_M_propose_99 : decode prog_6_method_16_code 99 = .ok (.aload_n 0, 1) := by decide +kernel
theorem d_M_propose_100 : decode prog_6_method_16_code 100 = .ok (.getfield 7, 3) := by decide +kernel
theorem d_M_propose_103 : decode prog_6_method_16_code 103 = .ok (.iload 5, 2) := by decide +kernel
theorem d_M_propose_105 : decode prog_6_method_16_code 105 = .ok (.iconst 4, 1) := by decide +kernel
theorem d_M_propose_106 : decode prog_6_method_16_code 106 = .ok (.iload_n 2, 1) := by decide +kernel
theorem d_M_propose_107 : decode prog_6_method_16_code 107 = .ok (.imul, 1) := by decide +kernel
theorem d_M_propose_108 : decode prog_6_method_16_code 108 = .ok (.iload_n 1, 1) := by decide +kernel
theorem d_M_propose_109 : decode prog_6_method_16_code 109 = .ok (.iadd, 1) := by decide +kernel
theorem d_M_propose_110 : decode prog_6_method_16_code 110 = .ok (.iastore, 1) := by decide +kernel
theorem d_M_propose_111 : decode prog_6_method_16_code 111 = .ok (.aload_n 0, 1) := by decide +kernel
theorem d_M_propose_112 : decode prog_6_method_16_code 112 = .ok (.getfield 34, 3) := by decide +kernel
theorem d_M_propose_115 : decode prog_6_method_16_code 115 = .ok (.iload_n 1, 1) := by decide +kernel
theorem d_M_propose_116 : decode prog_6_method_16_code 116 = .ok (.iconst 2, 1) := by decide +kernel
theorem d_M_propose_117 : decode prog_6_method_16_code 117 = .ok (.iastore, 1) := by decide +kernel
theorem d_M_propose_118 : decode prog_6_method_16_code 118 = .ok (.aload_n 0, 1) := by decide +kernel
theorem d_M_propose_119 : decode prog_6_method_16_code 119 = .ok (.iload_n 1, 1) := by decide +kernel
theorem d_M_propose_120 : decode prog_6_method_16_code 120 = .ok (.invokevirtual 102, 3) := by decide +kernel
theorem d_M_propose_123 : decode prog_6_method_16_code 123 = .ok (.iconst 0, 1) := by decide +kernel
theorem d_M_propose_124 : decode prog_6_method_16_code 124 = .ok (.istore 6, 2) := by decide +kernel
theorem d_M_propose_126 : decode prog_6_method_16_code 126 = .ok (.iload 6, 2) := by decide +kernel
theorem d_M_propose_128 : decode prog_6_method_16_code 128 = .ok (.iconst 3, 1) := by decide +kernel
theorem d_M_propose_129 : decode prog_6_method_16_code 129 = .ok (.if_icmp .ge 51, 3) := by decide +kernel
theorem d_M_propose_132 : decode prog_6_method_16_code 132 = .ok (.bipush 61, 2) := by decide +kernel
theorem d_M_propose_134 : decode prog_6_method_16_code 134 = .ok (.iload 6, 2) := by decide +kernel
theorem d_M_propose_136 : decode prog_6_method_16_code 136 = .ok (.imul, 1) := by decide +kernel
theorem d_M_propose_137 : decode prog_6_method_16_code 137 = .ok (.iload 5, 2) := by decide +kernel
theorem d_M_propose_139 : decode prog_6_method_16_code 139 = .ok (.iadd, 1) := by decide +kernel
theorem d_M_propose_140 : decode prog_6_method_16_code 140 = .ok (.istore 7, 2) := by decide +kernel
theorem d_M_propose_142 : decode prog_6_method_16_code 142 = .ok (.aload_n 0, 1) := by decide +kernel
theorem d_M_propose_143 : decode prog_6_method_16_code 143 = .ok (.getfield 68, 3) := by decide +kernel
theorem d_M_propose_146 : decode prog_6_method_16_code 146 = .ok (.iload 7, 2) := by decide +kernel
theorem d_M_propose_148 : decode prog_6_method_16_code 148 = .ok (.iconst (-1), 1) := by decide +kernel
theorem d_M_propose_149 : decode prog_6_method_16_code 149 = .ok (.iastore, 1) := by decide +kernel
theorem d_M_propose_150 : decode prog_6_method_16_code 150 = .ok (.aload_n 0, 1) := by decide +kernel
theorem d_M_propose_151 : decode prog_6_method_16_code 151 = .ok (.getfield 71, 3) := by decide +kernel
theorem d_M_propose_154 : decode prog_6_method_16_code 154 = .ok (.iload 7, 2) := by decide +kernel
theorem d_M_propose_156 : decode prog_6_method_16_code 156 = .ok (.iconst 0, 1) := by decide +kernel
theorem d_M_propose_157 : decode prog_6_method_16_code 157 = .ok (.bastore, 1) := by decide +kernel
theorem d_M_propose_158 : decode prog_6_method_16_code 158 = .ok (.aload_n 0, 1) := by decide +kernel
theorem d_M_propose_159 : decode prog_6_method_16_code 159 = .ok (.getfield 74, 3) := by decide +kernel
theorem d_M_propose_162 : decode prog_6_method_16_code 162 = .ok (.iload 7, 2) := by decide +kernel
theorem d_M_propose_164 : decode prog_6_method_16_code 164 = .ok (.iconst 0, 1) := by decide +kernel
theorem d_M_propose_165 : decode prog_6_method_16_code 165 = .ok (.bastore, 1) := by decide +kernel
theorem d_M_propose_166 : decode prog_6_method_16_code 166 = .ok (.aload_n 0, 1) := by decide +kernel
theorem d_M_propose_167 : decode prog_6_method_16_code 167 = .ok (.getfield 77, 3) := by decide +kernel
theorem d_M_propose_170 : decode prog_6_method_16_code 170 = .ok (.iload 7, 2) := by decide +kernel
theorem d_M_propose_172 : decode prog_6_method_16_code 172 = .ok (.iconst 0, 1) := by decide +kernel
theorem d_M_propose_173 : decode prog_6_method_16_code 173 = .ok (.bastore, 1) := by decide +kernel
theorem d_M_propose_174 : decode prog_6_method_16_code 174 = .ok (.iinc 6 1, 3) := by decide +kernel
theorem d_M_propose_177 : decode prog_6_method_16_code 177 = .ok (.goto (-51), 3) := by decide +kernel
theorem d_M_propose_180 : decode prog_6_method_16_code 180 = .ok (.return_, 1) := by decide +kernel
theorem cn_M_propose : CN y_M_propose (.code y_M_propose prog_6_method_16_code 8 none) prog_6_method_16_code 8 none [] 2 := ⟨Or.inl ⟨rfl, rfl⟩, mw_707, mw_5, ⟨by decide +kernel, by decide +kernel⟩, by decide +kernel⟩
def b_M_propose_126 : Nat → Sg → Nat → Int32 → Int32 → Option Sg
  | 0 => fun _ _ _ _ => none
  | n + 1 => fun σ a0 x5 x6 => (if (3 : Int32) ≤ x6 then (some σ) else (wn (((61 : Int32) * x6) + x5) (fun y16 => (if a0 < σ.1 ∧ kd a0 = 4 then rc (g_r σ a0 21) none (fun b17 => (if (b17 < σ.1 ∧ kd b17 = 10) ∧ inb y16 (ln b17) = true then (wi (s_i σ b17 y16.toNatClampNeg (-1 : Int32)) (fun s18 => (if a0 < s18.1 ∧ kd a0 = 4 then rc (g_r s18 a0 22) none (fun b19 => (if ((b19 < s18.1 ∧ kd b19 = 11) ∧ inb y16 (ln b19) = true) ∧ ((0 : Int32) = 0 ∨ (0 : Int32) = 1) then (wi (s_i s18 b19 y16.toNatClampNeg (0 : Int32)) (fun s20 => (if a0 < s20.1 ∧ kd a0 = 4 then rc (g_r s20 a0 23) none (fun b21 => (if ((b21 < s20.1 ∧ kd b21 = 11) ∧ inb y16 (ln b21) = true) ∧ ((0 : Int32) = 0 ∨ (0 : Int32) = 1) then (wi (s_i s20 b21 y16.toNatClampNeg (0 : Int32)) (fun s22 => (if a0 < s22.1 ∧ kd a0 = 4 then rc (g_r s22 a0 24) none (fun b23 => (if ((b23 < s22.1 ∧ kd b23 = 11) ∧ inb y16 (ln b23) = true) ∧ ((0 : Int32) = 0 ∨ (0 : Int32) = 1) then (wi (s_i s22 b23 y16.toNatClampNeg (0 : Int32)) (fun s24 => (b_M_propose_126 n s24 a0 x5 (x6 + 1)))) else none)) else none))) else none)) else none))) else none)) else none))) else none)) else none))))
set_option maxRecDepth 100000 in
set_option maxHeartbeats 4000000 in
theorem gb_M_propose_126 {Γ : GX} (K : Cx Γ "TapirGroupModel" prog_6_method_16_code 8 rm_M_propose) (S : Std Γ none) (T : Tb Γ []) (hI : y_M_propose.name = "<init>" → Ini Γ) (n : Nat) : ∀ (σ : Sg) (a0 : Nat) (x5 : Int32) (x6 : Int32), G Γ mkV 0 0 126 [(0, .ref a0), (5, .int x5), (6, .int x6)] [] σ (b_M_propose_126 n σ a0 x5 x6) := by
  induction n with
  | zero =>
    intro σ a0 x5 x6
    exact g_none
  | succ n ih =>
    intro σ a0 x5 x6
    rw [b_M_propose_126]
    refine g_iload (pc := 126) (j := 2) K d_M_propose_126 rfl ?_
    refine g_iconst (pc := 128) (v := 3) K d_M_propose_128 (by decide) ?_
    refine g_icmp_ge (pc := 129) (tgt := 180) K d_M_propose_129 (by decide) (fun _ => ?_) (fun _ => ?_)
    · exact g_vret (pc := 180) K S d_M_propose_180 (by decide) (by decide) rfl
    · refine g_bipush (pc := 132) (v := 61) K d_M_propose_132 (by decide) ?_
      refine g_iload (pc := 134) (j := 2) K d_M_propose_134 rfl ?_
      refine g_imul (pc := 136) K d_M_propose_136 ?_
      refine g_iload (pc := 137) (j := 1) K d_M_propose_137 rfl ?_
      refine g_iadd (pc := 139) K d_M_propose_139 ?_
      refine g_wn (fun y16 _ => ?_)
      refine g_istore (pc := 140) (L' := [(7, .int y16), (0, .ref a0), (5, .int x5), (6, .int x6)]) K d_M_propose_140 (by decide) rfl ?_
      refine g_aload_n (pc := 142) (j := 1) K d_M_propose_142 rfl ?_
      refine g_getR (pc := 143) K fl_M_68 d_M_propose_143 (fun _ => ?_) (fun b17 _ => ?_)
      · exact g_none
      · refine g_iload (pc := 146) (j := 0) K d_M_propose_146 rfl ?_
        refine g_iconst (pc := 148) (v := -1) K d_M_propose_148 (by decide) ?_
        refine g_iast (pc := 149) K d_M_propose_149 ?_
        refine g_wi (fun s18 _ => ?_)
        refine g_aload_n (pc := 150) (j := 1) K d_M_propose_150 rfl ?_
        refine g_getR (pc := 151) K fl_M_71 d_M_propose_151 (fun _ => ?_) (fun b19 _ => ?_)
        · exact g_none
        · refine g_iload (pc := 154) (j := 0) K d_M_propose_154 rfl ?_
          refine g_iconst (pc := 156) (v := 0) K d_M_propose_156 (by decide) ?_
          refine g_zast (pc := 157) K d_M_propose_157 ?_
          refine g_wi (fun s20 _ => ?_)
          refine g_aload_n (pc := 158) (j := 1) K d_M_propose_158 rfl ?_
          refine g_getR (pc := 159) K fl_M_74 d_M_propose_159 (fun _ => ?_) (fun b21 _ => ?_)
          · exact g_none
          · refine g_iload (pc := 162) (j := 0) K d_M_propose_162 rfl ?_
            refine g_iconst (pc := 164) (v := 0) K d_M_propose_164 (by decide) ?_
            refine g_zast (pc := 165) K d_M_propose_165 ?_
            refine g_wi (fun s22 _ => ?_)
            refine g_aload_n (pc := 166) (j := 1) K d_M_propose_166 rfl ?_
            refine g_getR (pc := 167) K fl_M_77 d_M_propose_167 (fun _ => ?_) (fun b23 _ => ?_)
            · exact g_none
            · refine g_iload (pc := 170) (j := 0) K d_M_propose_170 rfl ?_
              refine g_iconst (pc := 172) (v := 0) K d_M_propose_172 (by decide) ?_
              refine g_zast (pc := 173) K d_M_propose_173 ?_
              refine g_wi (fun s24 _ => ?_)
              refine g_iinc (pc := 174) (j := 3) (v := (x6 + 1)) (L' := [(6, .int (x6 + 1)), (7, .int y16), (0, .ref a0), (5, .int x5)]) K d_M_propose_174 rfl (by rfl) (by decide) rfl ?_
              refine g_goto (pc := 177) (tgt := 126) K d_M_propose_177 (by decide) ?_
              refine g_sub (L' := [(0, .ref a0), (5, .int x5), (6, .int (x6 + 1))]) [2, 3, 0] rfl ?_
              exact ih s24 a0 x5 (x6 + 1)
def b_M_propose_77  (σ : Sg) (a0 : Nat) (x1 : Int32) (x2 : Int32) (t0 : Nat) (t1 : Int32) : Option Sg := (if t0 < σ.1 ∧ kd t0 = 4 then (f_M_says σ t0 t1).bind (fun w6 => (if w6.1 = 0 then (some w6.2) else (if a0 < w6.2.1 ∧ kd a0 = 4 then rc (g_r w6.2 a0 11) none (fun b7 => (if (b7 < w6.2.1 ∧ kd b7 = 10) ∧ inb x1 (ln b7) = true then (wn (g_i w6.2 b7 x1.toNatClampNeg) (fun y8 => (if a0 < w6.2.1 ∧ kd a0 = 4 then rc (g_r w6.2 a0 13) none (fun b9 => (if (b9 < w6.2.1 ∧ kd b9 = 10) ∧ inb x1 (ln b9) = true then (wi (s_i w6.2 b9 x1.toNatClampNeg x2) (fun s10 => (if a0 < s10.1 ∧ kd a0 = 4 then rc (g_r s10 a0 2) none (fun b11 => (if (b11 < s10.1 ∧ kd b11 = 10) ∧ inb y8 (ln b11) = true then (wi (s_i s10 b11 y8.toNatClampNeg (((4 : Int32) * x2) + x1)) (fun s12 => (if a0 < s12.1 ∧ kd a0 = 4 then rc (g_r s12 a0 10) none (fun b13 => (if (b13 < s12.1 ∧ kd b13 = 10) ∧ inb x1 (ln b13) = true then (wi (s_i s12 b13 x1.toNatClampNeg (2 : Int32)) (fun s14 => (if a0 < s14.1 ∧ kd a0 = 4 then (f_M_forget s14 a0 x1).bind (fun s15 => (b_M_propose_126 1000 s15 a0 y8 (0 : Int32))) else none))) else none)) else none))) else none)) else none))) else none)) else none))) else none)) else none))) else none)
set_option maxRecDepth 100000 in
set_option maxHeartbeats 4000000 in
theorem gb_M_propose_77 {Γ : GX} (K : Cx Γ "TapirGroupModel" prog_6_method_16_code 8 rm_M_propose) (S : Std Γ none) (T : Tb Γ []) (hI : y_M_propose.name = "<init>" → Ini Γ) (σ : Sg) (a0 : Nat) (x1 : Int32) (x2 : Int32) (t0 : Nat) (t1 : Int32) : G Γ mkV 0 0 77 [(0, .ref a0), (1, .int x1), (2, .int x2)] [.int t1, .ref t0] σ (b_M_propose_77 σ a0 x1 x2 t0 t1) := by
  unfold b_M_propose_77
  refine g_callV (pc := 77) (ci := 4) (a := t0) (vs := [.int t1]) (st := []) (mkc := mkW) K rfl (by decide) cn_M_says (fun l hl r hr => k_M_says l hl _ _ _ r hr) mw_666 mw_668 ms_15 ⟨by decide, by decide, by decide, by decide⟩ d_M_propose_77 rfl rfl (Nat.le_of_ble_eq_true rfl) (fun w6 _ => ?_)
  change G Γ mkV 0 0 80 [(0, .ref a0), (1, .int x1), (2, .int x2)] [.int w6.1] w6.2 _
  refine g_if_ne (pc := 80) (tgt := 84) K d_M_propose_80 (by decide) (fun _ => ?_) (fun _ => ?_)
  · refine g_aload_n (pc := 84) (j := 0) K d_M_propose_84 rfl ?_
    refine g_getR (pc := 85) K fl_M_37 d_M_propose_85 (fun _ => ?_) (fun b7 _ => ?_)
    · exact g_none
    · refine g_iload_n (pc := 88) (j := 1) K d_M_propose_88 rfl ?_
      refine g_iald (pc := 89) K d_M_propose_89 ?_
      refine g_wn (fun y8 _ => ?_)
      refine g_istore (pc := 90) (L' := [(5, .int y8), (0, .ref a0), (1, .int x1), (2, .int x2)]) K d_M_propose_90 (by decide) rfl ?_
      refine g_aload_n (pc := 92) (j := 1) K d_M_propose_92 rfl ?_
      refine g_getR (pc := 93) K fl_M_43 d_M_propose_93 (fun _ => ?_) (fun b9 _ => ?_)
      · exact g_none
      · refine g_iload_n (pc := 96) (j := 2) K d_M_propose_96 rfl ?_
        refine g_iload_n (pc := 97) (j := 3) K d_M_propose_97 rfl ?_
        refine g_iast (pc := 98) K d_M_propose_98 ?_
        refine g_wi (fun s10 _ => ?_)
        refine g_aload_n (pc := 99) (j := 1) K d_M_propose_99 rfl ?_
        refine g_getR (pc := 100) K fl_M_7 d_M_propose_100 (fun _ => ?_) (fun b11 _ => ?_)
        · exact g_none
        · refine g_iload (pc := 103) (j := 0) K d_M_propose_103 rfl ?_
          refine g_iconst (pc := 105) (v := 4) K d_M_propose_105 (by decide) ?_
          refine g_iload_n (pc := 106) (j := 3) K d_M_propose_106 rfl ?_
          refine g_imul (pc := 107) K d_M_propose_107 ?_
          refine g_iload_n (pc := 108) (j := 2) K d_M_propose_108 rfl ?_
          refine g_iadd (pc := 109) K d_M_propose_109 ?_
          refine g_iast (pc := 110) K d_M_propose_110 ?_
          refine g_wi (fun s12 _ => ?_)
          refine g_aload_n (pc := 111) (j := 1) K d_M_propose_111 rfl ?_
          refine g_getR (pc := 112) K fl_M_34 d_M_propose_112 (fun _ => ?_) (fun b13 _ => ?_)
          · exact g_none
          · refine g_iload_n (pc := 115) (j := 2) K d_M_propose_115 rfl ?_
            refine g_iconst (pc := 116) (v := 2) K d_M_propose_116 (by decide) ?_
            refine g_iast (pc := 117) K d_M_propose_117 ?_
            refine g_wi (fun s14 _ => ?_)
            refine g_aload_n (pc := 118) (j := 1) K d_M_propose_118 rfl ?_
            refine g_iload_n (pc := 119) (j := 2) K d_M_propose_119 rfl ?_
            refine g_callV (pc := 120) (ci := 4) (a := a0) (vs := [.int x1]) (st := []) (mkc := mkV) K rfl (by decide) cn_M_forget (fun l hl r hr => k_M_forget l hl _ _ _ r hr) mw_670 mw_672 ms_16 ⟨by decide, by decide, by decide, by decide⟩ d_M_propose_120 rfl rfl (Nat.le_of_ble_eq_true rfl) (fun s15 _ => ?_)
            change G Γ mkV 0 0 123 [(5, .int y8), (0, .ref a0), (1, .int x1), (2, .int x2)] [] s15 _
            refine g_iconst (pc := 123) (v := 0) K d_M_propose_123 (by decide) ?_
            refine g_istore (pc := 124) (L' := [(6, .int (0 : Int32)), (5, .int y8), (0, .ref a0), (1, .int x1), (2, .int x2)]) K d_M_propose_124 (by decide) rfl ?_
            refine g_sub (L' := [(0, .ref a0), (5, .int y8), (6, .int (0 : Int32))]) [2, 1, 0] rfl ?_
            exact gb_M_propose_126 K S T hI 1000 s15 a0 y8 (0 : Int32)
  · exact g_vret (pc := 83) K S d_M_propose_83 (by decide) (by decide) rfl
def b_M_propose_72  (σ : Sg) (a0 : Nat) (x1 : Int32) (x2 : Int32) (t0 : Nat) : Option Sg := (b_M_propose_77 σ a0 x1 x2 t0 (2 : Int32))
set_option maxRecDepth 100000 in
set_option maxHeartbeats 4000000 in
theorem gb_M_propose_72 {Γ : GX} (K : Cx Γ "TapirGroupModel" prog_6_method_16_code 8 rm_M_propose) (S : Std Γ none) (T : Tb Γ []) (hI : y_M_propose.name = "<init>" → Ini Γ) (σ : Sg) (a0 : Nat) (x1 : Int32) (x2 : Int32) (t0 : Nat) : G Γ mkV 0 0 72 [(0, .ref a0), (1, .int x1), (2, .int x2)] [.ref t0] σ (b_M_propose_72 σ a0 x1 x2 t0) := by
  unfold b_M_propose_72
  refine g_iconst (pc := 72) (v := 2) K d_M_propose_72 (by decide) ?_
  refine g_goto (pc := 73) (tgt := 77) K d_M_propose_73 (by decide) ?_
  exact gb_M_propose_77 K S T hI σ a0 x1 x2 t0 (2 : Int32)
def b_M_propose_46  (σ : Sg) (a0 : Nat) (x1 : Int32) (x2 : Int32) (x3 : Int32) (t0 : Int32) : Option Sg := (if x3 = 0 then (b_M_propose_77 σ a0 x1 x2 a0 (1 : Int32)) else (if t0 = 0 then (b_M_propose_72 σ a0 x1 x2 a0) else (if a0 < σ.1 ∧ kd a0 = 4 then rc (g_r σ a0 13) none (fun b5 => (if (b5 < σ.1 ∧ kd b5 = 10) ∧ inb x1 (ln b5) = true then (if (g_i σ b5 x1.toNatClampNeg) < x2 then (b_M_propose_77 σ a0 x1 x2 a0 (0 : Int32)) else (b_M_propose_72 σ a0 x1 x2 a0)) else none)) else none)))
set_option maxRecDepth 100000 in
set_option maxHeartbeats 4000000 in
theorem gb_M_propose_46 {Γ : GX} (K : Cx Γ "TapirGroupModel" prog_6_method_16_code 8 rm_M_propose) (S : Std Γ none) (T : Tb Γ []) (hI : y_M_propose.name = "<init>" → Ini Γ) (σ : Sg) (a0 : Nat) (x1 : Int32) (x2 : Int32) (x3 : Int32) (t0 : Int32) : G Γ mkV 0 0 46 [(0, .ref a0), (1, .int x1), (2, .int x2), (3, .int x3)] [.int t0] σ (b_M_propose_46 σ a0 x1 x2 x3 t0) := by
  unfold b_M_propose_46
  refine g_istore (pc := 46) (L' := [(4, .int t0), (0, .ref a0), (1, .int x1), (2, .int x2), (3, .int x3)]) K d_M_propose_46 (by decide) rfl ?_
  refine g_aload_n (pc := 48) (j := 1) K d_M_propose_48 rfl ?_
  refine g_iload_n (pc := 49) (j := 4) K d_M_propose_49 rfl ?_
  refine g_if_ne (pc := 50) (tgt := 57) K d_M_propose_50 (by decide) (fun _ => ?_) (fun _ => ?_)
  · refine g_iload (pc := 57) (j := 0) K d_M_propose_57 rfl ?_
    refine g_if_eq (pc := 59) (tgt := 72) K d_M_propose_59 (by decide) (fun _ => ?_) (fun _ => ?_)
    · refine g_sub (L' := [(0, .ref a0), (1, .int x1), (2, .int x2)]) [1, 2, 3] rfl ?_
      exact gb_M_propose_72 K S T hI σ a0 x1 x2 a0
    · refine g_aload_n (pc := 62) (j := 1) K d_M_propose_62 rfl ?_
      refine g_getR (pc := 63) K fl_M_43 d_M_propose_63 (fun _ => ?_) (fun b5 _ => ?_)
      · exact g_none
      · refine g_iload_n (pc := 66) (j := 2) K d_M_propose_66 rfl ?_
        refine g_iald (pc := 67) K d_M_propose_67 ?_
        refine g_iload_n (pc := 68) (j := 3) K d_M_propose_68 rfl ?_
        refine g_icmp_lt (pc := 69) (tgt := 76) K d_M_propose_69 (by decide) (fun _ => ?_) (fun _ => ?_)
        · refine g_iconst (pc := 76) (v := 0) K d_M_propose_76 (by decide) ?_
          refine g_sub (L' := [(0, .ref a0), (1, .int x1), (2, .int x2)]) [1, 2, 3] rfl ?_
          exact gb_M_propose_77 K S T hI σ a0 x1 x2 a0 (0 : Int32)
        · refine g_sub (L' := [(0, .ref a0), (1, .int x1), (2, .int x2)]) [1, 2, 3] rfl ?_
          exact gb_M_propose_72 K S T hI σ a0 x1 x2 a0
  · refine g_iconst (pc := 53) (v := 1) K d_M_propose_53 (by decide) ?_
    refine g_goto (pc := 54) (tgt := 77) K d_M_propose_54 (by decide) ?_
    refine g_sub (L' := [(0, .ref a0), (1, .int x1), (2, .int x2)]) [1, 2, 3] rfl ?_
    exact gb_M_propose_77 K S T hI σ a0 x1 x2 a0 (1 : Int32)
def b_M_propose_41  (σ : Sg) (a0 : Nat) (x1 : Int32) (x2 : Int32) (x3 : Int32) : Option Sg := (b_M_propose_46 σ a0 x1 x2 x3 (1 : Int32))
set_option maxRecDepth 100000 in
set_option maxHeartbeats 4000000 in
theorem gb_M_propose_41 {Γ : GX} (K : Cx Γ "TapirGroupModel" prog_6_method_16_code 8 rm_M_propose) (S : Std Γ none) (T : Tb Γ []) (hI : y_M_propose.name = "<init>" → Ini Γ) (σ : Sg) (a0 : Nat) (x1 : Int32) (x2 : Int32) (x3 : Int32) : G Γ mkV 0 0 41 [(0, .ref a0), (1, .int x1), (2, .int x2), (3, .int x3)] [] σ (b_M_propose_41 σ a0 x1 x2 x3) := by
  unfold b_M_propose_41
  refine g_iconst (pc := 41) (v := 1) K d_M_propose_41 (by decide) ?_
  refine g_goto (pc := 42) (tgt := 46) K d_M_propose_42 (by decide) ?_
  exact gb_M_propose_46 K S T hI σ a0 x1 x2 x3 (1 : Int32)
def b_M_propose_22  (σ : Sg) (a0 : Nat) (x1 : Int32) (x2 : Int32) (t0 : Int32) : Option Sg := (if a0 < σ.1 ∧ kd a0 = 4 then (f_M_stateOf σ a0 x1).bind (fun v3 => (if v3 = (1 : Int32) then (b_M_propose_41 σ a0 x1 x2 t0) else (if a0 < σ.1 ∧ kd a0 = 4 then (f_M_stateOf σ a0 x1).bind (fun v4 => (if v4 = (2 : Int32) then (b_M_propose_41 σ a0 x1 x2 t0) else (b_M_propose_46 σ a0 x1 x2 t0 (0 : Int32)))) else none))) else none)
set_option maxRecDepth 100000 in
set_option maxHeartbeats 4000000 in
theorem gb_M_propose_22 {Γ : GX} (K : Cx Γ "TapirGroupModel" prog_6_method_16_code 8 rm_M_propose) (S : Std Γ none) (T : Tb Γ []) (hI : y_M_propose.name = "<init>" → Ini Γ) (σ : Sg) (a0 : Nat) (x1 : Int32) (x2 : Int32) (t0 : Int32) : G Γ mkV 0 0 22 [(0, .ref a0), (1, .int x1), (2, .int x2)] [.int t0] σ (b_M_propose_22 σ a0 x1 x2 t0) := by
  unfold b_M_propose_22
  refine g_istore_n (pc := 22) (L' := [(3, .int t0), (0, .ref a0), (1, .int x1), (2, .int x2)]) K d_M_propose_22 (by decide) rfl ?_
  refine g_aload_n (pc := 23) (j := 1) K d_M_propose_23 rfl ?_
  refine g_iload_n (pc := 24) (j := 2) K d_M_propose_24 rfl ?_
  refine g_callV (pc := 25) (ci := 4) (a := a0) (vs := [.int x1]) (st := []) (mkc := mkI σ) K rfl (by decide) cn_M_stateOf (fun l hl r hr => k_M_stateOf l hl _ _ _ r hr) mw_684 mw_686 ms_17 ⟨by decide, by decide, by decide, by decide⟩ d_M_propose_25 rfl rfl (Nat.le_of_ble_eq_true rfl) (fun v3 _ => ?_)
  change G Γ mkV 0 0 28 [(3, .int t0), (0, .ref a0), (1, .int x1), (2, .int x2)] [.int v3] σ _
  refine g_iconst (pc := 28) (v := 1) K d_M_propose_28 (by decide) ?_
  refine g_icmp_eq (pc := 29) (tgt := 41) K d_M_propose_29 (by decide) (fun _ => ?_) (fun _ => ?_)
  · refine g_sub (L' := [(0, .ref a0), (1, .int x1), (2, .int x2), (3, .int t0)]) [1, 2, 3, 0] rfl ?_
    exact gb_M_propose_41 K S T hI σ a0 x1 x2 t0
  · refine g_aload_n (pc := 32) (j := 1) K d_M_propose_32 rfl ?_
    refine g_iload_n (pc := 33) (j := 2) K d_M_propose_33 rfl ?_
    refine g_callV (pc := 34) (ci := 4) (a := a0) (vs := [.int x1]) (st := []) (mkc := mkI σ) K rfl (by decide) cn_M_stateOf (fun l hl r hr => k_M_stateOf l hl _ _ _ r hr) mw_684 mw_686 ms_17 ⟨by decide, by decide, by decide, by decide⟩ d_M_propose_34 rfl rfl (Nat.le_of_ble_eq_true rfl) (fun v4 _ => ?_)
    change G Γ mkV 0 0 37 [(3, .int t0), (0, .ref a0), (1, .int x1), (2, .int x2)] [.int v4] σ _
    refine g_iconst (pc := 37) (v := 2) K d_M_propose_37 (by decide) ?_
    refine g_icmp_ne (pc := 38) (tgt := 45) K d_M_propose_38 (by decide) (fun _ => ?_) (fun _ => ?_)
    · refine g_iconst (pc := 45) (v := 0) K d_M_propose_45 (by decide) ?_
      refine g_sub (L' := [(0, .ref a0), (1, .int x1), (2, .int x2), (3, .int t0)]) [1, 2, 3, 0] rfl ?_
      exact gb_M_propose_46 K S T hI σ a0 x1 x2 t0 (0 : Int32)
    · refine g_sub (L' := [(0, .ref a0), (1, .int x1), (2, .int x2), (3, .int t0)]) [1, 2, 3, 0] rfl ?_
      exact gb_M_propose_41 K S T hI σ a0 x1 x2 t0
def b_M_propose_21  (σ : Sg) (a0 : Nat) (x1 : Int32) (x2 : Int32) : Option Sg := (b_M_propose_22 σ a0 x1 x2 (0 : Int32))
set_option maxRecDepth 100000 in
set_option maxHeartbeats 4000000 in
theorem gb_M_propose_21 {Γ : GX} (K : Cx Γ "TapirGroupModel" prog_6_method_16_code 8 rm_M_propose) (S : Std Γ none) (T : Tb Γ []) (hI : y_M_propose.name = "<init>" → Ini Γ) (σ : Sg) (a0 : Nat) (x1 : Int32) (x2 : Int32) : G Γ mkV 0 0 21 [(0, .ref a0), (1, .int x1), (2, .int x2)] [] σ (b_M_propose_21 σ a0 x1 x2) := by
  unfold b_M_propose_21
  refine g_iconst (pc := 21) (v := 0) K d_M_propose_21 (by decide) ?_
  exact gb_M_propose_22 K S T hI σ a0 x1 x2 (0 : Int32)
def f_M_propose (σ : Sg) (a0 : Nat) (x1 : Int32) (x2 : Int32) : Option Sg := ((f_M_isClient σ x1).bind (fun v1 => (if v1 = 0 then (b_M_propose_21 σ a0 x1 x2) else ((f_M_in σ x2 (1 : Int32) (1000000 : Int32)).bind (fun v2 => (if v2 = 0 then (b_M_propose_21 σ a0 x1 x2) else (b_M_propose_22 σ a0 x1 x2 (1 : Int32))))))))
set_option maxRecDepth 100000 in
set_option maxHeartbeats 4000000 in
theorem k_M_propose (l : Launch) (hl : l.stackTraces = false) (σ : Sg) (a0 : Nat) (x1 : Int32) (x2 : Int32) (r : Sg) (h : f_M_propose σ a0 x1 x2 = some r) : Con l y_M_propose (.code y_M_propose prog_6_method_16_code 8 none) rm_M_propose [.ref a0, .int x1, .int x2] σ (mkV r) := by
  refine Con.of (mk := mkV) (o := f_M_propose σ a0 x1 x2) (z := r) (L0 := [(0, .ref a0), (1, .int x1), (2, .int x2)]) (bytes := prog_6_method_16_code) (maxL := 8) (ret := none) (hh := []) hl (by decide +kernel) (Or.inl ⟨rfl, rfl⟩) (by simp [Value.category]) (Nat.le_of_ble_eq_true rfl) rfl (fun Γ K S T hI => ?_) h rfl
  unfold f_M_propose
  refine g_iload_n (pc := 0) (j := 1) K d_M_propose_0 rfl ?_
  refine g_callS (pc := 1) (vs := [.int x1]) (st := []) (mkc := mkI σ) K cn_M_isClient (fun l hl r hr => k_M_isClient l hl _ _ r hr) mw_660 mw_661 ⟨by decide, by decide, by decide, by decide⟩ d_M_propose_1 rfl rfl (Nat.le_of_ble_eq_true rfl) (fun v1 _ => ?_)
  change G Γ mkV 0 0 4 [(0, .ref a0), (1, .int x1), (2, .int x2)] [.int v1] σ _
  refine g_if_eq (pc := 4) (tgt := 21) K d_M_propose_4 (by decide) (fun _ => ?_) (fun _ => ?_)
  · exact gb_M_propose_21 K S T hI σ a0 x1 x2
  · refine g_iload_n (pc := 7) (j := 2) K d_M_propose_7 rfl ?_
    refine g_iconst (pc := 8) (v := 1) K d_M_propose_8 (by decide) ?_
    refine g_ldc (pc := 9) (v := 1000000) K mw_708 d_M_propose_9 ?_
    refine g_callS (pc := 11) (vs := [.int x2, .int (1 : Int32), .int (1000000 : Int32)]) (st := []) (mkc := mkI σ) K cn_M_in (fun l hl r hr => k_M_in l hl _ _ _ _ r hr) mw_663 mw_664 ⟨by decide, by decide, by decide, by decide⟩ d_M_propose_11 rfl rfl (Nat.le_of_ble_eq_true rfl) (fun v2 _ => ?_)
    change G Γ mkV 0 0 14 [(0, .ref a0), (1, .int x1), (2, .int x2)] [.int v2] σ _
    refine g_if_eq (pc := 14) (tgt := 21) K d_M_propose_14 (by decide) (fun _ => ?_) (fun _ => ?_)
    · exact gb_M_propose_21 K S T hI σ a0 x1 x2
    · refine g_iconst (pc := 17) (v := 1) K d_M_propose_17 (by decide) ?_
      refine g_goto (pc := 18) (tgt := 22) K d_M_propose_18 (by decide) ?_
      exact gb_M_propose_22 K S T hI σ a0 x1 x2 (1 : Int32)
