-- TapirGroupModel.confirm(II)I
def y_M_confirm : MethodName := ⟨"TapirGroupModel", "confirm", "(II)I"⟩
abbrev rm_M_confirm : Room := { frames := 3, cells := 0, slots := 0, locals := 63 }
theorem d_M_confirm_0 : decode prog_6_method_26_code 0 = .ok (.iload_n 1, 1) := by decide +kernel
theorem d_M_confirm_1 : decode prog_6_method_26_code 1 = .ok (.invokestatic 88, 3) := by decide +kernel
theorem d_M_confirm_4 : decode prog_6_method_26_code 4 = .ok (.ifCond .eq 14, 3) := by decide +kernel
theorem d_M_confirm_7 : decode prog_6_method_26_code 7 = .ok (.iload_n 2, 1) := by decide +kernel
theorem d_M_confirm_8 : decode prog_6_method_26_code 8 = .ok (.invokestatic 109, 3) := by decide +kernel
theorem d_M_confirm_11 : decode prog_6_method_26_code 11 = .ok (.ifCond .eq 7, 3) := by decide +kernel
theorem d_M_confirm_14 : decode prog_6_method_26_code 14 = .ok (.iconst 1, 1) := by decide +kernel
theorem d_M_confirm_15 : decode prog_6_method_26_code 15 = .ok (.goto 4, 3) := by decide +kernel
theorem d_M_confirm_18 : decode prog_6_method_26_code 18 = .ok (.iconst 0, 1) := by decide +kernel
theorem d_M_confirm_19 : decode prog_6_method_26_code 19 = .ok (.istore_n 3, 1) := by decide +kernel
theorem d_M_confirm_20 : decode prog_6_method_26_code 20 = .ok (.aload_n 0, 1) := by decide +kernel
theorem d_M_confirm_21 : decode prog_6_method_26_code 21 = .ok (.iload_n 3, 1) := by decide +kernel
theorem d_M_confirm_22 : decode prog_6_method_26_code 22 = .ok (.ifCond .ne 7, 3) := by decide +kernel
theorem d_M_confirm_25 : decode prog_6_method_26_code 25 = .ok (.iconst 1, 1) := by decide +kernel
theorem d_M_confirm_26 : decode prog_6_method_26_code 26 = .ok (.goto 29, 3) := by decide +kernel
theorem d_M_confirm_29 : decode prog_6_method_26_code 29 = .ok (.aload_n 0, 1) := by decide +kernel
theorem d_M_confirm_30 : decode prog_6_method_26_code 30 = .ok (.iload_n 1, 1) := by decide +kernel
theorem d_M_confirm_31 : decode prog_6_method_26_code 31 = .ok (.invokevirtual 112, 3) := by decide +kernel
theorem d_M_confirm_34 : decode prog_6_method_26_code 34 = .ok (.iconst 3, 1) := by decide +kernel
theorem d_M_confirm_35 : decode prog_6_method_26_code 35 = .ok (.if_icmp .eq 7, 3) := by decide +kernel
theorem d_M_confirm_38 : decode prog_6_method_26_code 38 = .ok (.iconst 2, 1) := by decide +kernel
theorem d_M_confirm_39 : decode prog_6_method_26_code 39 = .ok (.goto 16, 3) := by decide +kernel
theorem d_M_confirm_42 : decode prog_6_method_26_code 42 = .ok (.aload_n 0, 1) := by decide +kernel
theorem d_M_confirm_43 : decode prog_6_method_26_code 43 = .ok (.iload_n 2, 1) := by decide +kernel
theorem d_M_confirm_44 : decode prog_6_method_26_code 44 = .ok (.invokevirtual 120, 3) := by decide +kernel
theorem d_M_confirm_47 : decode prog_6_method_26_code 47 = .ok (.ifCond .ne 7, 3) := by decide +kernel
theorem d_M_confirm_50 : decode prog_6_method_26_code 50 = .ok (.iconst 3, 1) := by decide +kernel
theorem d_M_confirm_51 : decode prog_6_method_26_code 51 = .ok (.goto 4, 3) := by decide +kernel
theorem d_M_confirm_54 : decode prog_6_method_26_code 54 = .ok (.iconst 0, 1) := by decide +kernel
theorem d_M_confirm_55 : decode prog_6_method_26_code 55 = .ok (.invokevirtual 99, 3) := by decide +kernel
theorem d_M_confirm_58 : decode prog_6_method_26_code 58 = .ok (.ifCond .ne 5, 3) := by decide +kernel
theorem d_M_confirm_61 : decode prog_6_method_26_code 61 = .ok (.iconst 0, 1) := by decide +kernel
theorem d_M_confirm_62 : decode prog_6_method_26_code 62 = .ok (.ireturn, 1) := by decide +kernel
theorem d_M_confirm_63 : decode prog_6_method_26_code 63 = .ok (.bipush 61, 2) := by decide +kernel
theorem d_M_confirm_65 : decode prog_6_method_26_code 65 = .ok (.iload_n 2, 1) := by decide +kernel
theorem d_M_confirm_66 : decode prog_6_method_26_code 66 = .ok (.imul, 1) := by decide +kernel
theorem d_M_confirm_67 : decode prog_6_method_26_code 67 = .ok (.aload_n 0, 1) := by decide +kernel
theorem d_M_confirm_68 : decode prog_6_method_26_code 68 = .ok (.getfield 37, 3) := by decide +kernel
theorem d_M_confirm_71 : decode prog_6_method_26_code 71 = .ok (.iload_n 1, 1) := by decide +kernel
theorem d_M_confirm_72 : decode prog_6_method_26_code 72 = .ok (.iaload, 1) := by decide +kernel
theorem d_M_confirm_73 : decode prog_6_method_26_code 73 = .ok (.iadd, 1) := by decide +kernel
theorem d_M_confirm_74 : decode prog_6_method_26_code 74 = .ok (.istore 4, 2) := by decide +kernel
theorem d_M_confirm_76 : decode prog_6_method_26_code 76 = .ok (.aload_n 0, 1) := by decide +kernel
theorem d_M_confirm_77 : decode prog_6_method_26_code 77 = .ok (.getfield 71, 3) := by decide +kernel
theorem d_M_confirm_80 : decode prog_6_method_26_code 80 = .ok (.iload 4, 2) := by decide +kernel
theorem d_M_confirm_82 : decode prog_6_method_26_code 82 = .ok (.baload, 1) := by decide +kernel
theorem d_M_confirm_83 : decode prog_6_method_26_code 83 = .ok (.ifCond .ne 16, 3) := by decide +kernel
theorem d_M_confirm_86 : decode prog_6_method_26_code 86 = .ok (.aload_n 0, 1) := by decide +kernel
theorem d_M_confirm_87 : decode prog_6_method_26_code 87 = .ok (.getfield 68, 3) := by decide +kernel
theorem d_M_confirm_90 : decode prog_6_method_26_code 90 = .ok (.iload 4, 2) := by decide +kernel
theorem d_M_confirm_92 : decode prog_6_method_26_code 92 = .ok (.aload_n 0, 1) := by decide +kernel
theorem d_M_confirm_93 : decode prog_6_method_26_code 93 = .ok (.getfield 40, 3) := by decide +kernel
theorem d_M_confirm_96 : decode prog_6_method_26_code 96 = .ok (.iload_n 1, 1) := by decide +kernel
theorem d_M_confirm_97 : decode prog_6_method_26_code 97 = .ok (.iaload, 1) := by decide +kernel
theorem d_M_confirm_98 : decode prog_6_method_26_code 98 = .ok (.iastore, 1) := by decide +kernel
theorem d_M_confirm_99 : decode prog_6_method_26_code 99 = .ok (.aload_n 0, 1) := by decide +kernel
theorem d_M_confirm_100 : decode prog_6_method_26_code 100 = .ok (.getfield 71, 3) := by decide +kernel
theorem d_M_confirm_103 : decode prog_6_method_26_code 103 = .ok (.iload 4, 2) := by decide +kernel
theorem d_M_confirm_105 : decode prog_6_method_26_code 105 = .ok (.iconst 1, 1) := by decide +kernel
theorem d_M_confirm_106 : decode prog_6_method_26_code 106 = .ok (.bastore, 1) := by decide +kernel
theorem d_M_confirm_107 : decode prog_6_method_26_code 107 = .ok (.aload_n 0, 1) := by decide +kernel
theorem d_M_confirm_108 : decode prog_6_method_26_code 108 = .ok (.getfield 68, 3) := by decide +kernel
theorem d_M_confirm_111 : decode prog_6_method_26_code 111 = .ok (.iload 4, 2) := by decide +kernel
theorem d_M_confirm_113 : decode prog_6_method_26_code 113 = .ok (.iaload, 1) := by decide +kernel
theorem d_M_confirm_114 : decode prog_6_method_26_code 114 = .ok (.aload_n 0, 1) := by decide +kernel
theorem d_M_confirm_115 : decode prog_6_method_26_code 115 = .ok (.getfield 40, 3) := by decide +kernel
theorem d_M_confirm_118 : decode prog_6_method_26_code 118 = .ok (.iload_n 1, 1) := by decide +kernel
theorem d_M_confirm_119 : decode prog_6_method_26_code 119 = .ok (.iaload, 1) := by decide +kernel
theorem d_M_confirm_120 : decode prog_6_method_26_code 120 = .ok (.if_icmp .ne 14, 3) := by decide +kernel
theorem d_M_confirm_123 : decode prog_6_method_26_code 123 = .ok (.aload_n 0, 1) := by decide +kernel
theorem d_M_confirm_124 : decode prog_6_method_26_code 124 = .ok (.getfield 49, 3) := by decide +kernel
theorem d_M_confirm_127 : decode prog_6_method_26_code 127 = .ok (.iconst 3, 1) := by decide +kernel
theorem d_M_confirm_128 : decode prog_6_method_26_code 128 = .ok (.iload_n 1, 1) := by decide +kernel
theorem d_M_confirm_129 : decode prog_6_method_26_code 129 = .ok (.imul, 1) := by decide +kernel
theorem d_M_confirm_130 : decode prog_6_method_26_code 130 = .ok (.iload_n 2, 1) := by decide +kernel
theorem d_M_confirm_131 : decode prog_6_method_26_code 131 = .ok (.iadd, 1) := by decide +kernel
theorem d_M_confirm_132 : decode prog_6_method_26_code 132 = .ok (.iconst 1, 1) := by decide +kernel
theorem d_M_confirm_133 : decode prog_6_method_26_code 133 = .ok (.bastore, 1) := by decide +kernel
theorem d_M_confirm_134 : decode prog_6_method_26_code 134 = .ok (.aload_n 0, 1) := by decide +kernel
theorem d_M_confirm_135 : decode prog_6_method_26_code 135 = .ok (.iload_n 1, 1) := by decide +kernel
theorem d_M_confirm_136 : decode prog_6_method_26_code 136 = .ok (.invokevirtual 144, 3) := by decide +kernel
theorem d_M_confirm_139 : decode prog_6_method_26_code 139 = .ok (.istore 5, 2) := by decide +kernel
theorem d_M_confirm_141 : decode prog_6_method_26_code 141 = .ok (.iload 5, 2) := by decide +kernel
theorem d_M_confirm_143 : decode prog_6_method_26_code 143 = .ok (.iconst 1, 1) := by decide +kernel
theorem d_M_confirm_144 : decode prog_6_method_26_code 144 = .ok (.if_icmp .le 23, 3) := by decide +kernel
theorem d_M_confirm_147 : decode prog_6_method_26_code 147 = .ok (.aload_n 0, 1) := by decide +kernel
theorem d_M_confirm_148 : decode prog_6_method_26_code 148 = .ok (.getfield 34, 3) := by decide +kernel
theorem d_M_confirm_151 : decode prog_6_method_26_code 151 = .ok (.iload_n 1, 1) := by decide +kernel
theorem d_M_confirm_152 : decode prog_6_method_26_code 152 = .ok (.aload_n 0, 1) := by decide +kernel
theorem d_M_confirm_153 : decode prog_6_method_26_code 153 = .ok (.getfield 40, 3) := by decide +kernel
theorem d_M_confirm_156 : decode prog_6_method_26_code 156 = .ok (.iload_n 1, 1) := by decide +kernel
theorem d_M_confirm_157 : decode prog_6_method_26_code 157 = .ok (.iaload, 1) := by decide +kernel
theorem d_M_confirm_158 : decode prog_6_method_26_code 158 = .ok (.ifCond .ne 7, 3) := by decide +kernel
theorem d_M_confirm_161 : decode prog_6_method_26_code 161 = .ok (.iconst 4, 1) := by decide +kernel
theorem d_M_confirm_162 : decode prog_6_method_26_code 162 = .ok (.goto 4, 3) := by decide +kernel
theorem d_M_confirm_165 : decode prog_6_method_26_code 165 = .ok (.iconst 5, 1) := by decide +kernel
theorem d_M_confirm_166 : decode prog_6_method_26_code 166 = .ok (.iastore, 1) := by decide +kernel
theorem d_M_confirm_167 : decode prog_6_method_26_code 167 = .ok (.iload 5, 2) := by decide +kernel
theorem d_M_confirm_169 : decode prog_6_method_26_code 169 = .ok (.ireturn, 1) := by decide +kernel
theorem cn_M_confirm : CN y_M_confirm (.code y_M_confirm prog_6_method_26_code 6 (some .int)) prog_6_method_26_code 6 (some .int) [] 2 := ⟨Or.inl ⟨rfl, rfl⟩, mw_744, mw_5, ⟨by decide +kernel, by decide +kernel⟩, by decide +kernel⟩
def b_M_confirm_167  (σ : Sg) (x5 : Int32) : Option (Int32 × Sg) := (some (x5, σ))
set_option maxRecDepth 100000 in
set_option maxHeartbeats 4000000 in
theorem gb_M_confirm_167 {Γ : GX} (K : Cx Γ "TapirGroupModel" prog_6_method_26_code 6 rm_M_confirm) (S : Std Γ (some .int)) (T : Tb Γ []) (hI : y_M_confirm.name = "<init>" → Ini Γ) (σ : Sg) (x5 : Int32) : G Γ mkW 0 0 167 [(5, .int x5)] [] σ (b_M_confirm_167 σ x5) := by
  unfold b_M_confirm_167
  refine g_iload (pc := 167) (j := 0) K d_M_confirm_167 rfl ?_
  exact g_iret (pc := 169) K S rfl d_M_confirm_169 (by decide) (by decide) rfl
def b_M_confirm_166  (σ : Sg) (x5 : Int32) (t0 : Nat) (t1 : Int32) (t2 : Int32) : Option (Int32 × Sg) := (if (t0 < σ.1 ∧ kd t0 = 10) ∧ inb t1 (ln t0) = true then (wi (s_i σ t0 t1.toNatClampNeg t2) (fun s21 => (b_M_confirm_167 s21 x5))) else none)
set_option maxRecDepth 100000 in
set_option maxHeartbeats 4000000 in
theorem gb_M_confirm_166 {Γ : GX} (K : Cx Γ "TapirGroupModel" prog_6_method_26_code 6 rm_M_confirm) (S : Std Γ (some .int)) (T : Tb Γ []) (hI : y_M_confirm.name = "<init>" → Ini Γ) (σ : Sg) (x5 : Int32) (t0 : Nat) (t1 : Int32) (t2 : Int32) : G Γ mkW 0 0 166 [(5, .int x5)] [.int t2, .int t1, .ref t0] σ (b_M_confirm_166 σ x5 t0 t1 t2) := by
  unfold b_M_confirm_166
  refine g_iast (pc := 166) K d_M_confirm_166 ?_
  refine g_wi (fun s21 _ => ?_)
  exact gb_M_confirm_167 K S T hI s21 x5
def b_M_confirm_134  (σ : Sg) (a0 : Nat) (x1 : Int32) : Option (Int32 × Sg) := (if a0 < σ.1 ∧ kd a0 = 4 then (f_M_confirmations σ a0 x1).bind (fun v18 => (if v18 ≤ (1 : Int32) then (b_M_confirm_167 σ v18) else (if a0 < σ.1 ∧ kd a0 = 4 then rc (g_r σ a0 10) none (fun b19 => (if a0 < σ.1 ∧ kd a0 = 4 then rc (g_r σ a0 12) none (fun b20 => (if (b20 < σ.1 ∧ kd b20 = 10) ∧ inb x1 (ln b20) = true then (if (g_i σ b20 x1.toNatClampNeg) = 0 then (b_M_confirm_166 σ v18 b19 x1 (4 : Int32)) else (b_M_confirm_166 σ v18 b19 x1 (5 : Int32))) else none)) else none)) else none))) else none)
set_option maxRecDepth 100000 in
set_option maxHeartbeats 4000000 in
theorem gb_M_confirm_134 {Γ : GX} (K : Cx Γ "TapirGroupModel" prog_6_method_26_code 6 rm_M_confirm) (S : Std Γ (some .int)) (T : Tb Γ []) (hI : y_M_confirm.name = "<init>" → Ini Γ) (σ : Sg) (a0 : Nat) (x1 : Int32) : G Γ mkW 0 0 134 [(0, .ref a0), (1, .int x1)] [] σ (b_M_confirm_134 σ a0 x1) := by
  unfold b_M_confirm_134
  refine g_aload_n (pc := 134) (j := 0) K d_M_confirm_134 rfl ?_
  refine g_iload_n (pc := 135) (j := 1) K d_M_confirm_135 rfl ?_
  refine g_callV (pc := 136) (ci := 4) (a := a0) (vs := [.int x1]) (st := []) (mkc := mkI σ) K rfl (by decide) cn_M_confirmations (fun l hl r hr => k_M_confirmations l hl _ _ _ r hr) mw_745 mw_747 ms_27 ⟨by decide, by decide, by decide, by decide⟩ d_M_confirm_136 rfl rfl (Nat.le_of_ble_eq_true rfl) (fun v18 _ => ?_)
  change G Γ mkW 0 0 139 [(0, .ref a0), (1, .int x1)] [.int v18] σ _
  refine g_istore (pc := 139) (L' := [(5, .int v18), (0, .ref a0), (1, .int x1)]) K d_M_confirm_139 (by decide) rfl ?_
  refine g_iload (pc := 141) (j := 0) K d_M_confirm_141 rfl ?_
  refine g_iconst (pc := 143) (v := 1) K d_M_confirm_143 (by decide) ?_
  refine g_icmp_le (pc := 144) (tgt := 167) K d_M_confirm_144 (by decide) (fun _ => ?_) (fun _ => ?_)
  · refine g_sub (L' := [(5, .int v18)]) [0] rfl ?_
    exact gb_M_confirm_167 K S T hI σ v18
  · refine g_aload_n (pc := 147) (j := 1) K d_M_confirm_147 rfl ?_
    refine g_getR (pc := 148) K fl_M_34 d_M_confirm_148 (fun _ => ?_) (fun b19 _ => ?_)
    · exact g_none
    · refine g_iload_n (pc := 151) (j := 2) K d_M_confirm_151 rfl ?_
      refine g_aload_n (pc := 152) (j := 1) K d_M_confirm_152 rfl ?_
      refine g_getR (pc := 153) K fl_M_40 d_M_confirm_153 (fun _ => ?_) (fun b20 _ => ?_)
      · exact g_none
      · refine g_iload_n (pc := 156) (j := 2) K d_M_confirm_156 rfl ?_
        refine g_iald (pc := 157) K d_M_confirm_157 ?_
        refine g_if_ne (pc := 158) (tgt := 165) K d_M_confirm_158 (by decide) (fun _ => ?_) (fun _ => ?_)
        · refine g_iconst (pc := 165) (v := 5) K d_M_confirm_165 (by decide) ?_
          refine g_sub (L' := [(5, .int v18)]) [0] rfl ?_
          exact gb_M_confirm_166 K S T hI σ v18 b19 x1 (5 : Int32)
        · refine g_iconst (pc := 161) (v := 4) K d_M_confirm_161 (by decide) ?_
          refine g_goto (pc := 162) (tgt := 166) K d_M_confirm_162 (by decide) ?_
          refine g_sub (L' := [(5, .int v18)]) [0] rfl ?_
          exact gb_M_confirm_166 K S T hI σ v18 b19 x1 (4 : Int32)
def b_M_confirm_99  (σ : Sg) (a0 : Nat) (x1 : Int32) (x2 : Int32) (x4 : Int32) : Option (Int32 × Sg) := (if a0 < σ.1 ∧ kd a0 = 4 then rc (g_r σ a0 22) none (fun b12 => (if ((b12 < σ.1 ∧ kd b12 = 11) ∧ inb x4 (ln b12) = true) ∧ ((1 : Int32) = 0 ∨ (1 : Int32) = 1) then (wi (s_i σ b12 x4.toNatClampNeg (1 : Int32)) (fun s13 => (if a0 < s13.1 ∧ kd a0 = 4 then rc (g_r s13 a0 21) none (fun b14 => (if (b14 < s13.1 ∧ kd b14 = 10) ∧ inb x4 (ln b14) = true then (if a0 < s13.1 ∧ kd a0 = 4 then rc (g_r s13 a0 12) none (fun b15 => (if (b15 < s13.1 ∧ kd b15 = 10) ∧ inb x1 (ln b15) = true then (if (g_i s13 b14 x4.toNatClampNeg) = (g_i s13 b15 x1.toNatClampNeg) then (if a0 < s13.1 ∧ kd a0 = 4 then rc (g_r s13 a0 15) none (fun b16 => (if ((b16 < s13.1 ∧ kd b16 = 11) ∧ inb (((3 : Int32) * x1) + x2) (ln b16) = true) ∧ ((1 : Int32) = 0 ∨ (1 : Int32) = 1) then (wi (s_i s13 b16 (((3 : Int32) * x1) + x2).toNatClampNeg (1 : Int32)) (fun s17 => (b_M_confirm_134 s17 a0 x1))) else none)) else none) else (b_M_confirm_134 s13 a0 x1)) else none)) else none) else none)) else none))) else none)) else none)
set_option maxRecDepth 100000 in
set_option maxHeartbeats 4000000 in
theorem gb_M_confirm_99 {Γ : GX} (K : Cx Γ "TapirGroupModel" prog_6_method_26_code 6 rm_M_confirm) (S : Std Γ (some .int)) (T : Tb Γ []) (hI : y_M_confirm.name = "<init>" → Ini Γ) (σ : Sg) (a0 : Nat) (x1 : Int32) (x2 : Int32) (x4 : Int32) : G Γ mkW 0 0 99 [(0, .ref a0), (1, .int x1), (2, .int x2), (4, .int x4)] [] σ (b_M_confirm_99 σ a0 x1 x2 x4) := by
  unfold b_M_confirm_99
  refine g_aload_n (pc := 99) (j := 0) K d_M_confirm_99 rfl ?_
  refine g_getR (pc := 100) K fl_M_71 d_M_confirm_100 (fun _ => ?_) (fun b12 _ => ?_)
  · exact g_none
  · refine g_iload (pc := 103) (j := 3) K d_M_confirm_103 rfl ?_
    refine g_iconst (pc := 105) (v := 1) K d_M_confirm_105 (by decide) ?_
    refine g_zast (pc := 106) K d_M_confirm_106 ?_
    refine g_wi (fun s13 _ => ?_)
    refine g_aload_n (pc := 107) (j := 0) K d_M_confirm_107 rfl ?_
    refine g_getR (pc := 108) K fl_M_68 d_M_confirm_108 (fun _ => ?_) (fun b14 _ => ?_)
    · exact g_none
    · refine g_iload (pc := 111) (j := 3) K d_M_confirm_111 rfl ?_
      refine g_iald (pc := 113) K d_M_confirm_113 ?_
      refine g_aload_n (pc := 114) (j := 0) K d_M_confirm_114 rfl ?_
      refine g_getR (pc := 115) K fl_M_40 d_M_confirm_115 (fun _ => ?_) (fun b15 _ => ?_)
      · exact g_none
      · refine g_iload_n (pc := 118) (j := 1) K d_M_confirm_118 rfl ?_
        refine g_iald (pc := 119) K d_M_confirm_119 ?_
        refine g_icmp_ne (pc := 120) (tgt := 134) K d_M_confirm_120 (by decide) (fun _ => ?_) (fun _ => ?_)
        · refine g_sub (L' := [(0, .ref a0), (1, .int x1)]) [0, 1] rfl ?_
          exact gb_M_confirm_134 K S T hI s13 a0 x1
        · refine g_aload_n (pc := 123) (j := 0) K d_M_confirm_123 rfl ?_
          refine g_getR (pc := 124) K fl_M_49 d_M_confirm_124 (fun _ => ?_) (fun b16 _ => ?_)
          · exact g_none
          · refine g_iconst (pc := 127) (v := 3) K d_M_confirm_127 (by decide) ?_
            refine g_iload_n (pc := 128) (j := 1) K d_M_confirm_128 rfl ?_
            refine g_imul (pc := 129) K d_M_confirm_129 ?_
            refine g_iload_n (pc := 130) (j := 2) K d_M_confirm_130 rfl ?_
            refine g_iadd (pc := 131) K d_M_confirm_131 ?_
            refine g_iconst (pc := 132) (v := 1) K d_M_confirm_132 (by decide) ?_
            refine g_zast (pc := 133) K d_M_confirm_133 ?_
            refine g_wi (fun s17 _ => ?_)
            refine g_sub (L' := [(0, .ref a0), (1, .int x1)]) [0, 1] rfl ?_
            exact gb_M_confirm_134 K S T hI s17 a0 x1
def b_M_confirm_55  (σ : Sg) (a0 : Nat) (x1 : Int32) (x2 : Int32) (t0 : Nat) (t1 : Int32) : Option (Int32 × Sg) := (if t0 < σ.1 ∧ kd t0 = 4 then (f_M_says σ t0 t1).bind (fun w5 => (if w5.1 = 0 then (some ((0 : Int32), w5.2)) else (if a0 < w5.2.1 ∧ kd a0 = 4 then rc (g_r w5.2 a0 11) none (fun b6 => (if (b6 < w5.2.1 ∧ kd b6 = 10) ∧ inb x1 (ln b6) = true then (wn (((61 : Int32) * x2) + (g_i w5.2 b6 x1.toNatClampNeg)) (fun y7 => (if a0 < w5.2.1 ∧ kd a0 = 4 then rc (g_r w5.2 a0 22) none (fun b8 => (if (b8 < w5.2.1 ∧ kd b8 = 11) ∧ inb y7 (ln b8) = true then (if (g_i w5.2 b8 y7.toNatClampNeg) = 0 then (if a0 < w5.2.1 ∧ kd a0 = 4 then rc (g_r w5.2 a0 21) none (fun b9 => (if a0 < w5.2.1 ∧ kd a0 = 4 then rc (g_r w5.2 a0 12) none (fun b10 => (if (b10 < w5.2.1 ∧ kd b10 = 10) ∧ inb x1 (ln b10) = true then (if (b9 < w5.2.1 ∧ kd b9 = 10) ∧ inb y7 (ln b9) = true then (wi (s_i w5.2 b9 y7.toNatClampNeg (g_i w5.2 b10 x1.toNatClampNeg)) (fun s11 => (b_M_confirm_99 s11 a0 x1 x2 y7))) else none) else none)) else none)) else none) else (b_M_confirm_99 w5.2 a0 x1 x2 y7)) else none)) else none))) else none)) else none))) else none)
set_option maxRecDepth 100000 in
set_option maxHeartbeats 4000000 in
theorem gb_M_confirm_55 {Γ : GX} (K : Cx Γ "TapirGroupModel" prog_6_method_26_code 6 rm_M_confirm) (S : Std Γ (some .int)) (T : Tb Γ []) (hI : y_M_confirm.name = "<init>" → Ini Γ) (σ : Sg) (a0 : Nat) (x1 : Int32) (x2 : Int32) (t0 : Nat) (t1 : Int32) : G Γ mkW 0 0 55 [(0, .ref a0), (1, .int x1), (2, .int x2)] [.int t1, .ref t0] σ (b_M_confirm_55 σ a0 x1 x2 t0 t1) := by
  unfold b_M_confirm_55
  refine g_callV (pc := 55) (ci := 4) (a := t0) (vs := [.int t1]) (st := []) (mkc := mkW) K rfl (by decide) cn_M_says (fun l hl r hr => k_M_says l hl _ _ _ r hr) mw_666 mw_668 ms_15 ⟨by decide, by decide, by decide, by decide⟩ d_M_confirm_55 rfl rfl (Nat.le_of_ble_eq_true rfl) (fun w5 _ => ?_)
  change G Γ mkW 0 0 58 [(0, .ref a0), (1, .int x1), (2, .int x2)] [.int w5.1] w5.2 _
  refine g_if_ne (pc := 58) (tgt := 63) K d_M_confirm_58 (by decide) (fun _ => ?_) (fun _ => ?_)
  · refine g_bipush (pc := 63) (v := 61) K d_M_confirm_63 (by decide) ?_
    refine g_iload_n (pc := 65) (j := 2) K d_M_confirm_65 rfl ?_
    refine g_imul (pc := 66) K d_M_confirm_66 ?_
    refine g_aload_n (pc := 67) (j := 0) K d_M_confirm_67 rfl ?_
    refine g_getR (pc := 68) K fl_M_37 d_M_confirm_68 (fun _ => ?_) (fun b6 _ => ?_)
    · exact g_none
    · refine g_iload_n (pc := 71) (j := 1) K d_M_confirm_71 rfl ?_
      refine g_iald (pc := 72) K d_M_confirm_72 ?_
      refine g_iadd (pc := 73) K d_M_confirm_73 ?_
      refine g_wn (fun y7 _ => ?_)
      refine g_istore (pc := 74) (L' := [(4, .int y7), (0, .ref a0), (1, .int x1), (2, .int x2)]) K d_M_confirm_74 (by decide) rfl ?_
      refine g_aload_n (pc := 76) (j := 1) K d_M_confirm_76 rfl ?_
      refine g_getR (pc := 77) K fl_M_71 d_M_confirm_77 (fun _ => ?_) (fun b8 _ => ?_)
      · exact g_none
      · refine g_iload (pc := 80) (j := 0) K d_M_confirm_80 rfl ?_
        refine g_zald (pc := 82) K d_M_confirm_82 ?_
        refine g_if_ne (pc := 83) (tgt := 99) K d_M_confirm_83 (by decide) (fun _ => ?_) (fun _ => ?_)
        · refine g_sub (L' := [(0, .ref a0), (1, .int x1), (2, .int x2), (4, .int y7)]) [1, 2, 3, 0] rfl ?_
          exact gb_M_confirm_99 K S T hI w5.2 a0 x1 x2 y7
        · refine g_aload_n (pc := 86) (j := 1) K d_M_confirm_86 rfl ?_
          refine g_getR (pc := 87) K fl_M_68 d_M_confirm_87 (fun _ => ?_) (fun b9 _ => ?_)
          · exact g_none
          · refine g_iload (pc := 90) (j := 0) K d_M_confirm_90 rfl ?_
            refine g_aload_n (pc := 92) (j := 1) K d_M_confirm_92 rfl ?_
            refine g_getR (pc := 93) K fl_M_40 d_M_confirm_93 (fun _ => ?_) (fun b10 _ => ?_)
            · exact g_none
            · refine g_iload_n (pc := 96) (j := 2) K d_M_confirm_96 rfl ?_
              refine g_iald (pc := 97) K d_M_confirm_97 ?_
              refine g_iast (pc := 98) K d_M_confirm_98 ?_
              refine g_wi (fun s11 _ => ?_)
              refine g_sub (L' := [(0, .ref a0), (1, .int x1), (2, .int x2), (4, .int y7)]) [1, 2, 3, 0] rfl ?_
              exact gb_M_confirm_99 K S T hI s11 a0 x1 x2 y7
  · refine g_iconst (pc := 61) (v := 0) K d_M_confirm_61 (by decide) ?_
    exact g_iret (pc := 62) K S rfl d_M_confirm_62 (by decide) (by decide) rfl
def b_M_confirm_19  (σ : Sg) (a0 : Nat) (x1 : Int32) (x2 : Int32) (t0 : Int32) : Option (Int32 × Sg) := (if t0 = 0 then (b_M_confirm_55 σ a0 x1 x2 a0 (1 : Int32)) else (if a0 < σ.1 ∧ kd a0 = 4 then (f_M_stateOf σ a0 x1).bind (fun v3 => (if v3 = (3 : Int32) then (if a0 < σ.1 ∧ kd a0 = 4 then (f_M_serves σ a0 x2).bind (fun v4 => (if v4 = 0 then (b_M_confirm_55 σ a0 x1 x2 a0 (3 : Int32)) else (b_M_confirm_55 σ a0 x1 x2 a0 (0 : Int32)))) else none) else (b_M_confirm_55 σ a0 x1 x2 a0 (2 : Int32)))) else none))
set_option maxRecDepth 100000 in
set_option maxHeartbeats 4000000 in
theorem gb_M_confirm_19 {Γ : GX} (K : Cx Γ "TapirGroupModel" prog_6_method_26_code 6 rm_M_confirm) (S : Std Γ (some .int)) (T : Tb Γ []) (hI : y_M_confirm.name = "<init>" → Ini Γ) (σ : Sg) (a0 : Nat) (x1 : Int32) (x2 : Int32) (t0 : Int32) : G Γ mkW 0 0 19 [(0, .ref a0), (1, .int x1), (2, .int x2)] [.int t0] σ (b_M_confirm_19 σ a0 x1 x2 t0) := by
  unfold b_M_confirm_19
  refine g_istore_n (pc := 19) (L' := [(3, .int t0), (0, .ref a0), (1, .int x1), (2, .int x2)]) K d_M_confirm_19 (by decide) rfl ?_
  refine g_aload_n (pc := 20) (j := 1) K d_M_confirm_20 rfl ?_
  refine g_iload_n (pc := 21) (j := 0) K d_M_confirm_21 rfl ?_
  refine g_if_ne (pc := 22) (tgt := 29) K d_M_confirm_22 (by decide) (fun _ => ?_) (fun _ => ?_)
  · refine g_aload_n (pc := 29) (j := 1) K d_M_confirm_29 rfl ?_
    refine g_iload_n (pc := 30) (j := 2) K d_M_confirm_30 rfl ?_
    refine g_callV (pc := 31) (ci := 4) (a := a0) (vs := [.int x1]) (st := [.ref a0]) (mkc := mkI σ) K rfl (by decide) cn_M_stateOf (fun l hl r hr => k_M_stateOf l hl _ _ _ r hr) mw_684 mw_686 ms_17 ⟨by decide, by decide, by decide, by decide⟩ d_M_confirm_31 rfl rfl (Nat.le_of_ble_eq_true rfl) (fun v3 _ => ?_)
    change G Γ mkW 0 0 34 [(3, .int t0), (0, .ref a0), (1, .int x1), (2, .int x2)] [.int v3, .ref a0] σ _
    refine g_iconst (pc := 34) (v := 3) K d_M_confirm_34 (by decide) ?_
    refine g_icmp_eq (pc := 35) (tgt := 42) K d_M_confirm_35 (by decide) (fun _ => ?_) (fun _ => ?_)
    · refine g_aload_n (pc := 42) (j := 1) K d_M_confirm_42 rfl ?_
      refine g_iload_n (pc := 43) (j := 3) K d_M_confirm_43 rfl ?_
      refine g_callV (pc := 44) (ci := 4) (a := a0) (vs := [.int x2]) (st := [.ref a0]) (mkc := mkI σ) K rfl (by decide) cn_M_serves (fun l hl r hr => k_M_serves l hl _ _ _ r hr) mw_692 mw_694 ms_19 ⟨by decide, by decide, by decide, by decide⟩ d_M_confirm_44 rfl rfl (Nat.le_of_ble_eq_true rfl) (fun v4 _ => ?_)
      change G Γ mkW 0 0 47 [(3, .int t0), (0, .ref a0), (1, .int x1), (2, .int x2)] [.int v4, .ref a0] σ _
      refine g_if_ne (pc := 47) (tgt := 54) K d_M_confirm_47 (by decide) (fun _ => ?_) (fun _ => ?_)
      · refine g_iconst (pc := 54) (v := 0) K d_M_confirm_54 (by decide) ?_
        refine g_sub (L' := [(0, .ref a0), (1, .int x1), (2, .int x2)]) [1, 2, 3] rfl ?_
        exact gb_M_confirm_55 K S T hI σ a0 x1 x2 a0 (0 : Int32)
      · refine g_iconst (pc := 50) (v := 3) K d_M_confirm_50 (by decide) ?_
        refine g_goto (pc := 51) (tgt := 55) K d_M_confirm_51 (by decide) ?_
        refine g_sub (L' := [(0, .ref a0), (1, .int x1), (2, .int x2)]) [1, 2, 3] rfl ?_
        exact gb_M_confirm_55 K S T hI σ a0 x1 x2 a0 (3 : Int32)
    · refine g_iconst (pc := 38) (v := 2) K d_M_confirm_38 (by decide) ?_
      refine g_goto (pc := 39) (tgt := 55) K d_M_confirm_39 (by decide) ?_
      refine g_sub (L' := [(0, .ref a0), (1, .int x1), (2, .int x2)]) [1, 2, 3] rfl ?_
      exact gb_M_confirm_55 K S T hI σ a0 x1 x2 a0 (2 : Int32)
  · refine g_iconst (pc := 25) (v := 1) K d_M_confirm_25 (by decide) ?_
    refine g_goto (pc := 26) (tgt := 55) K d_M_confirm_26 (by decide) ?_
    refine g_sub (L' := [(0, .ref a0), (1, .int x1), (2, .int x2)]) [1, 2, 3] rfl ?_
    exact gb_M_confirm_55 K S T hI σ a0 x1 x2 a0 (1 : Int32)
def b_M_confirm_18  (σ : Sg) (a0 : Nat) (x1 : Int32) (x2 : Int32) : Option (Int32 × Sg) := (b_M_confirm_19 σ a0 x1 x2 (0 : Int32))
set_option maxRecDepth 100000 in
set_option maxHeartbeats 4000000 in
theorem gb_M_confirm_18 {Γ : GX} (K : Cx Γ "TapirGroupModel" prog_6_method_26_code 6 rm_M_confirm) (S : Std Γ (some .int)) (T : Tb Γ []) (hI : y_M_confirm.name = "<init>" → Ini Γ) (σ : Sg) (a0 : Nat) (x1 : Int32) (x2 : Int32) : G Γ mkW 0 0 18 [(0, .ref a0), (1, .int x1), (2, .int x2)] [] σ (b_M_confirm_18 σ a0 x1 x2) := by
  unfold b_M_confirm_18
  refine g_iconst (pc := 18) (v := 0) K d_M_confirm_18 (by decide) ?_
  exact gb_M_confirm_19 K S T hI σ a0 x1 x2 (0 : Int32)
def f_M_confirm (σ : Sg) (a0 : Nat) (x1 : Int32) (x2 : Int32) : Option (Int32 × Sg) := ((f_M_isClient σ x1).bind (fun v1 => (if v1 = 0 then (b_M_confirm_18 σ a0 x1 x2) else ((f_M_isReplica σ x2).bind (fun v2 => (if v2 = 0 then (b_M_confirm_18 σ a0 x1 x2) else (b_M_confirm_19 σ a0 x1 x2 (1 : Int32))))))))
set_option maxRecDepth 100000 in
set_option maxHeartbeats 4000000 in
theorem k_M_confirm (l : Launch) (hl : l.stackTraces = false) (σ : Sg) (a0 : Nat) (x1 : Int32) (x2 : Int32) (r : (Int32 × Sg)) (h : f_M_confirm σ a0 x1 x2 = some r) : Con l y_M_confirm (.code y_M_confirm prog_6_method_26_code 6 (some .int)) rm_M_confirm [.ref a0, .int x1, .int x2] σ (mkW r) := by
  refine Con.of (mk := mkW) (o := f_M_confirm σ a0 x1 x2) (z := r) (L0 := [(0, .ref a0), (1, .int x1), (2, .int x2)]) (bytes := prog_6_method_26_code) (maxL := 6) (ret := (some .int)) (hh := []) hl (by decide +kernel) (Or.inl ⟨rfl, rfl⟩) (by simp [Value.category]) (Nat.le_of_ble_eq_true rfl) rfl (fun Γ K S T hI => ?_) h rfl
  unfold f_M_confirm
  refine g_iload_n (pc := 0) (j := 1) K d_M_confirm_0 rfl ?_
  refine g_callS (pc := 1) (vs := [.int x1]) (st := []) (mkc := mkI σ) K cn_M_isClient (fun l hl r hr => k_M_isClient l hl _ _ r hr) mw_660 mw_661 ⟨by decide, by decide, by decide, by decide⟩ d_M_confirm_1 rfl rfl (Nat.le_of_ble_eq_true rfl) (fun v1 _ => ?_)
  change G Γ mkW 0 0 4 [(0, .ref a0), (1, .int x1), (2, .int x2)] [.int v1] σ _
  refine g_if_eq (pc := 4) (tgt := 18) K d_M_confirm_4 (by decide) (fun _ => ?_) (fun _ => ?_)
  · exact gb_M_confirm_18 K S T hI σ a0 x1 x2
  · refine g_iload_n (pc := 7) (j := 2) K d_M_confirm_7 rfl ?_
    refine g_callS (pc := 8) (vs := [.int x2]) (st := []) (mkc := mkI σ) K cn_M_isReplica (fun l hl r hr => k_M_isReplica l hl _ _ r hr) mw_681 mw_682 ⟨by decide, by decide, by decide, by decide⟩ d_M_confirm_8 rfl rfl (Nat.le_of_ble_eq_true rfl) (fun v2 _ => ?_)
    change G Γ mkW 0 0 11 [(0, .ref a0), (1, .int x1), (2, .int x2)] [.int v2] σ _
    refine g_if_eq (pc := 11) (tgt := 18) K d_M_confirm_11 (by decide) (fun _ => ?_) (fun _ => ?_)
    · exact gb_M_confirm_18 K S T hI σ a0 x1 x2
    · refine g_iconst (pc := 14) (v := 1) K d_M_confirm_14 (by decide) ?_
      refine g_goto (pc := 15) (tgt := 19) K d_M_confirm_15 (by decide) ?_
      exact gb_M_confirm_19 K S T hI σ a0 x1 x2 (1 : Int32)
-- TapirGroupModel.make(III)V
def y_M_make : MethodName := ⟨"TapirGroupModel", "make", "(III)V"⟩
abbrev rm_M_make : Room := { frames := 0, cells := 0, slots := 0, locals := 0 }
theorem d_M_make_0 : decode prog_6_method_28_code 0 = .ok (.aload_n 0, 1) := by decide +kernel
theorem d_M_make_1 : decode prog_6_method_28_code 1 = .ok (.getfield 68, 3) := by decide +kernel
theorem d_M_make_4 : decode prog_6_method_28_code 4 = .ok (.bipush 61, 2) := by decide +kernel
theorem d_M_make_6 : decode prog_6_method_28_code 6 = .ok (.iload_n 2, 1) := by decide +kernel
theorem d_M_make_7 : decode prog_6_method_28_code 7 = .ok (.imul, 1) := by decide +kernel
theorem d_M_make_8 : decode prog_6_method_28_code 8 = .ok (.iload_n 1, 1) := by decide +kernel
theorem d_M_make_9 : decode prog_6_method_28_code 9 = .ok (.iadd, 1) := by decide +kernel
theorem d_M_make_10 : decode prog_6_method_28_code 10 = .ok (.iaload, 1) := by decide +kernel
theorem d_M_make_11 : decode prog_6_method_28_code 11 = .ok (.ifCond .ge 15, 3) := by decide +kernel
theorem d_M_make_14 : decode prog_6_method_28_code 14 = .ok (.aload_n 0, 1) := by decide +kernel
theorem d_M_make_15 : decode prog_6_method_28_code 15 = .ok (.getfield 68, 3) := by decide +kernel
theorem d_M_make_18 : decode prog_6_method_28_code 18 = .ok (.bipush 61, 2) := by decide +kernel
theorem d_M_make_20 : decode prog_6_method_28_code 20 = .ok (.iload_n 2, 1) := by decide +kernel
theorem d_M_make_21 : decode prog_6_method_28_code 21 = .ok (.imul, 1) := by decide +kernel
theorem d_M_make_22 : decode prog_6_method_28_code 22 = .ok (.iload_n 1, 1) := by decide +kernel
theorem d_M_make_23 : decode prog_6_method_28_code 23 = .ok (.iadd, 1) := by decide +kernel
theorem d_M_make_24 : decode prog_6_method_28_code 24 = .ok (.iload_n 3, 1) := by decide +kernel
theorem d_M_make_25 : decode prog_6_method_28_code 25 = .ok (.iastore, 1) := by decide +kernel
theorem d_M_make_26 : decode prog_6_method_28_code 26 = .ok (.return_, 1) := by decide +kernel
theorem cn_M_make : CN y_M_make (.code y_M_make prog_6_method_28_code 4 none) prog_6_method_28_code 4 none [] 3 := ⟨Or.inl ⟨rfl, rfl⟩, mw_756, mw_5, ⟨by decide +kernel, by decide +kernel⟩, by decide +kernel⟩
def b_M_make_26  (σ : Sg)  : Option Sg := (some σ)
set_option maxRecDepth 100000 in
set_option maxHeartbeats 4000000 in
theorem gb_M_make_26 {Γ : GX} (K : Cx Γ "TapirGroupModel" prog_6_method_28_code 4 rm_M_make) (S : Std Γ none) (T : Tb Γ []) (hI : y_M_make.name = "<init>" → Ini Γ) (σ : Sg)  : G Γ mkV 0 0 26 [] [] σ (b_M_make_26 σ ) := by
  unfold b_M_make_26
  exact g_vret (pc := 26) K S d_M_make_26 (by decide) (by decide) rfl
def f_M_make (σ : Sg) (a0 : Nat) (x1 : Int32) (x2 : Int32) (x3 : Int32) : Option Sg := (if a0 < σ.1 ∧ kd a0 = 4 then rc (g_r σ a0 21) none (fun b1 => (if (b1 < σ.1 ∧ kd b1 = 10) ∧ inb (((61 : Int32) * x2) + x1) (ln b1) = true then (if 0 ≤ (g_i σ b1 (((61 : Int32) * x2) + x1).toNatClampNeg) then (b_M_make_26 σ) else (if a0 < σ.1 ∧ kd a0 = 4 then rc (g_r σ a0 21) none (fun b2 => (if (b2 < σ.1 ∧ kd b2 = 10) ∧ inb (((61 : Int32) * x2) + x1) (ln b2) = true then (wi (s_i σ b2 (((61 : Int32) * x2) + x1).toNatClampNeg x3) (fun s3 => (b_M_make_26 s3))) else none)) else none)) else none)) else none)
set_option maxRecDepth 100000 in
set_option maxHeartbeats 4000000 in
theorem k_M_make (l : Launch) (hl : l.stackTraces = false) (σ : Sg) (a0 : Nat) (x1 : Int32) (x2 : Int32) (x3 : Int32) (r : Sg) (h : f_M_make σ a0 x1 x2 x3 = some r) : Con l y_M_make (.code y_M_make prog_6_method_28_code 4 none) rm_M_make [.ref a0, .int x1, .int x2, .int x3] σ (mkV r) := by
  refine Con.of (mk := mkV) (o := f_M_make σ a0 x1 x2 x3) (z := r) (L0 := [(0, .ref a0), (1, .int x1), (2, .int x2), (3, .int x3)]) (bytes := prog_6_method_28_code) (maxL := 4) (ret := none) (hh := []) hl (by decide +kernel) (Or.inl ⟨rfl, rfl⟩) (by simp [Value.category]) (Nat.le_of_ble_eq_true rfl) rfl (fun Γ K S T hI => ?_) h rfl
  unfold f_M_make
  refine g_aload_n (pc := 0) (j := 0) K d_M_make_0 rfl ?_
  refine g_getR (pc := 1) K fl_M_68 d_M_make_1 (fun _ => ?_) (fun b1 _ => ?_)
  · exact g_none
  · refine g_bipush (pc := 4) (v := 61) K d_M_make_4 (by decide) ?_
    refine g_iload_n (pc := 6) (j := 2) K d_M_make_6 rfl ?_
    refine g_imul (pc := 7) K d_M_make_7 ?_
    refine g_iload_n (pc := 8) (j := 1) K d_M_make_8 rfl ?_
    refine g_iadd (pc := 9) K d_M_make_9 ?_
    refine g_iald (pc := 10) K d_M_make_10 ?_
    refine g_if_ge (pc := 11) (tgt := 26) K d_M_make_11 (by decide) (fun _ => ?_) (fun _ => ?_)
    · refine g_sub (L' := []) [] rfl ?_
      exact gb_M_make_26 K S T hI σ
    · refine g_aload_n (pc := 14) (j := 0) K d_M_make_14 rfl ?_
      refine g_getR (pc := 15) K fl_M_68 d_M_make_15 (fun _ => ?_) (fun b2 _ => ?_)
      · exact g_none
      · refine g_bipush (pc := 18) (v := 61) K d_M_make_18 (by decide) ?_
        refine g_iload_n (pc := 20) (j := 2) K d_M_make_20 rfl ?_
        refine g_imul (pc := 21) K d_M_make_21 ?_
        refine g_iload_n (pc := 22) (j := 1) K d_M_make_22 rfl ?_
        refine g_iadd (pc := 23) K d_M_make_23 ?_
        refine g_iload_n (pc := 24) (j := 3) K d_M_make_24 rfl ?_
        refine g_iast (pc := 25) K d_M_make_25 ?_
        refine g_wi (fun s3 _ => ?_)
        refine g_sub (L' := []) [] rfl ?_
        exact gb_M_make_26 K S T hI s3
