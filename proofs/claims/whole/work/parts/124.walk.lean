-- TapirGroupModel.mergeKey(I)V
def y_M_mergeKey : MethodName := ⟨"TapirGroupModel", "mergeKey", "(I)V"⟩
abbrev rm_M_mergeKey : Room := { frames := 1, cells := 0, slots := 0, locals := 20 }
theorem d_M_mergeKey_0 : decode prog_6_method_40_code 0 = .ok (.aload_n 0, 1) := by decide +kernel
theorem d_M_mergeKey_1 : decode prog_6_method_40_code 1 = .ok (.invokevirtual 173, 3) := by decide +kernel
theorem d_M_mergeKey_4 : decode prog_6_method_40_code 4 = .ok (.istore_n 2, 1) := by decide +kernel
theorem d_M_mergeKey_5 : decode prog_6_method_40_code 5 = .ok (.iconst 0, 1) := by decide +kernel
theorem d_M_mergeKey_6 : decode prog_6_method_40_code 6 = .ok (.istore_n 3, 1) := by decide +kernel
theorem d_M_mergeKey_7 : decode prog_6_method_40_code 7 = .ok (.iconst 0, 1) := by decide +kernel
theorem d_M_mergeKey_8 : decode prog_6_method_40_code 8 = .ok (.istore 4, 2) := by decide +kernel
theorem d_M_mergeKey_10 : decode prog_6_method_40_code 10 = .ok (.iload 4, 2) := by decide +kernel
theorem d_M_mergeKey_12 : decode prog_6_method_40_code 12 = .ok (.iconst 3, 1) := by decide +kernel
theorem d_M_mergeKey_13 : decode prog_6_method_40_code 13 = .ok (.if_icmp .ge 80, 3) := by decide +kernel
theorem d_M_mergeKey_16 : decode prog_6_method_40_code 16 = .ok (.aload_n 0, 1) := by decide +kernel
theorem d_M_mergeKey_17 : decode prog_6_method_40_code 17 = .ok (.getfield 53, 3) := by decide +kernel
theorem d_M_mergeKey_20 : decode prog_6_method_40_code 20 = .ok (.iload 4, 2) := by decide +kernel
theorem d_M_mergeKey_22 : decode prog_6_method_40_code 22 = .ok (.baload, 1) := by decide +kernel
theorem d_M_mergeKey_23 : decode prog_6_method_40_code 23 = .ok (.ifCond .ne 6, 3) := by decide +kernel
theorem d_M_mergeKey_26 : decode prog_6_method_40_code 26 = .ok (.goto 61, 3) := by decide +kernel
theorem d_M_mergeKey_29 : decode prog_6_method_40_code 29 = .ok (.aload_n 0, 1) := by decide +kernel
theorem d_M_mergeKey_30 : decode prog_6_method_40_code 30 = .ok (.getfield 59, 3) := by decide +kernel
theorem d_M_mergeKey_33 : decode prog_6_method_40_code 33 = .ok (.bipush 6, 2) := by decide +kernel
theorem d_M_mergeKey_35 : decode prog_6_method_40_code 35 = .ok (.iload 4, 2) := by decide +kernel
theorem d_M_mergeKey_37 : decode prog_6_method_40_code 37 = .ok (.imul, 1) := by decide +kernel
theorem d_M_mergeKey_38 : decode prog_6_method_40_code 38 = .ok (.iload_n 1, 1) := by decide +kernel
theorem d_M_mergeKey_39 : decode prog_6_method_40_code 39 = .ok (.iadd, 1) := by decide +kernel
theorem d_M_mergeKey_40 : decode prog_6_method_40_code 40 = .ok (.iaload, 1) := by decide +kernel
theorem d_M_mergeKey_41 : decode prog_6_method_40_code 41 = .ok (.aload_n 0, 1) := by decide +kernel
theorem d_M_mergeKey_42 : decode prog_6_method_40_code 42 = .ok (.getfield 59, 3) := by decide +kernel
theorem d_M_mergeKey_45 : decode prog_6_method_40_code 45 = .ok (.bipush 6, 2) := by decide +kernel
theorem d_M_mergeKey_47 : decode prog_6_method_40_code 47 = .ok (.iload_n 2, 1) := by decide +kernel
theorem d_M_mergeKey_48 : decode prog_6_method_40_code 48 = .ok (.imul, 1) := by decide +kernel
theorem d_M_mergeKey_49 : decode prog_6_method_40_code 49 = .ok (.iload_n 1, 1) := by decide +kernel
theorem d_M_mergeKey_50 : decode prog_6_method_40_code 50 = .ok (.iadd, 1) := by decide +kernel
theorem d_M_mergeKey_51 : decode prog_6_method_40_code 51 = .ok (.iaload, 1) := by decide +kernel
theorem d_M_mergeKey_52 : decode prog_6_method_40_code 52 = .ok (.if_icmp .le 6, 3) := by decide +kernel
theorem d_M_mergeKey_55 : decode prog_6_method_40_code 55 = .ok (.iload 4, 2) := by decide +kernel
theorem d_M_mergeKey_57 : decode prog_6_method_40_code 57 = .ok (.istore_n 2, 1) := by decide +kernel
theorem d_M_mergeKey_58 : decode prog_6_method_40_code 58 = .ok (.aload_n 0, 1) := by decide +kernel
theorem d_M_mergeKey_59 : decode prog_6_method_40_code 59 = .ok (.getfield 65, 3) := by decide +kernel
theorem d_M_mergeKey_62 : decode prog_6_method_40_code 62 = .ok (.bipush 6, 2) := by decide +kernel
theorem d_M_mergeKey_64 : decode prog_6_method_40_code 64 = .ok (.iload 4, 2) := by decide +kernel
theorem d_M_mergeKey_66 : decode prog_6_method_40_code 66 = .ok (.imul, 1) := by decide +kernel
theorem d_M_mergeKey_67 : decode prog_6_method_40_code 67 = .ok (.iload_n 1, 1) := by decide +kernel
theorem d_M_mergeKey_68 : decode prog_6_method_40_code 68 = .ok (.iadd, 1) := by decide +kernel
theorem d_M_mergeKey_69 : decode prog_6_method_40_code 69 = .ok (.iaload, 1) := by decide +kernel
theorem d_M_mergeKey_70 : decode prog_6_method_40_code 70 = .ok (.iload_n 3, 1) := by decide +kernel
theorem d_M_mergeKey_71 : decode prog_6_method_40_code 71 = .ok (.if_icmp .le 16, 3) := by decide +kernel
theorem d_M_mergeKey_74 : decode prog_6_method_40_code 74 = .ok (.aload_n 0, 1) := by decide +kernel
theorem d_M_mergeKey_75 : decode prog_6_method_40_code 75 = .ok (.getfield 65, 3) := by decide +kernel
theorem d_M_mergeKey_78 : decode prog_6_method_40_code 78 = .ok (.bipush 6, 2) := by decide +kernel
theorem d_M_mergeKey_80 : decode prog_6_method_40_code 80 = .ok (.iload 4, 2) := by decide +kernel
theorem d_M_mergeKey_82 : decode prog_6_method_40_code 82 = .ok (.imul, 1) := by decide +kernel
theorem d_M_mergeKey_83 : decode prog_6_method_40_code 83 = .ok (.iload_n 1, 1) := by decide +kernel
theorem d_M_mergeKey_84 : decode prog_6_method_40_code 84 = .ok (.iadd, 1) := by decide +kernel
theorem d_M_mergeKey_85 : decode prog_6_method_40_code 85 = .ok (.iaload, 1) := by decide +kernel
theorem d_M_mergeKey_86 : decode prog_6_method_40_code 86 = .ok (.istore_n 3, 1) := by decide +kernel
theorem d_M_mergeKey_87 : decode prog_6_method_40_code 87 = .ok (.iinc 4 1, 3) := by decide +kernel
theorem d_M_mergeKey_90 : decode prog_6_method_40_code 90 = .ok (.goto (-80), 3) := by decide +kernel
theorem d_M_mergeKey_93 : decode prog_6_method_40_code 93 = .ok (.iconst 0, 1) := by decide +kernel
theorem d_M_mergeKey_94 : decode prog_6_method_40_code 94 = .ok (.istore 4, 2) := by decide +kernel
theorem d_M_mergeKey_96 : decode prog_6_method_40_code 96 = .ok (.iload 4, 2) := by decide +kernel
theorem d_M_mergeKey_98 : decode prog_6_method_40_code 98 = .ok (.iconst 3, 1) := by decide +kernel
theorem d_M_mergeKey_99 : decode prog_6_method_40_code 99 = .ok (.if_icmp .ge 81, 3) := by decide +kernel
theorem d_M_mergeKey_102 : decode prog_6_method_40_code 102 = .ok (.aload_n 0, 1) := by decide +kernel
theorem d_M_mergeKey_103 : decode prog_6_method_40_code 103 = .ok (.getfield 53, 3) := by decide +kernel
theorem d_M_mergeKey_106 : decode prog_6_method_40_code 106 = .ok (.iload 4, 2) := by decide +kernel
theorem d_M_mergeKey_108 : decode prog_6_method_40_code 108 = .ok (.baload, 1) := by decide +kernel
theorem d_M_mergeKey_109 : decode prog_6_method_40_code 109 = .ok (.ifCond .ne 6, 3) := by decide +kernel
theorem d_M_mergeKey_112 : decode prog_6_method_40_code 112 = .ok (.goto 62, 3) := by decide +kernel
theorem d_M_mergeKey_115 : decode prog_6_method_40_code 115 = .ok (.aload_n 0, 1) := by decide +kernel
theorem d_M_mergeKey_116 : decode prog_6_method_40_code 116 = .ok (.getfield 59, 3) := by decide +kernel
theorem d_M_mergeKey_119 : decode prog_6_method_40_code 119 = .ok (.bipush 6, 2) := by decide +kernel
theorem d_M_mergeKey_121 : decode prog_6_method_40_code 121 = .ok (.iload 4, 2) := by decide +kernel
theorem d_M_mergeKey_123 : decode prog_6_method_40_code 123 = .ok (.imul, 1) := by decide +kernel
theorem d_M_mergeKey_124 : decode prog_6_method_40_code 124 = .ok (.iload_n 1, 1) := by decide +kernel
theorem d_M_mergeKey_125 : decode prog_6_method_40_code 125 = .ok (.iadd, 1) := by decide +kernel
theorem d_M_mergeKey_126 : decode prog_6_method_40_code 126 = .ok (.aload_n 0, 1) := by decide +kernel
theorem d_M_mergeKey_127 : decode prog_6_method_40_code 127 = .ok (.getfield 59, 3) := by decide +kernel
theorem d_M_mergeKey_130 : decode prog_6_method_40_code 130 = .ok (.bipush 6, 2) := by decide +kernel
theorem d_M_mergeKey_132 : decode prog_6_method_40_code 132 = .ok (.iload_n 2, 1) := by decide +kernel
theorem d_M_mergeKey_133 : decode prog_6_method_40_code 133 = .ok (.imul, 1) := by decide +kernel
theorem d_M_mergeKey_134 : decode prog_6_method_40_code 134 = .ok (.iload_n 1, 1) := by decide +kernel
theorem d_M_mergeKey_135 : decode prog_6_method_40_code 135 = .ok (.iadd, 1) := by decide +kernel
theorem d_M_mergeKey_136 : decode prog_6_method_40_code 136 = .ok (.iaload, 1) := by decide +kernel
theorem d_M_mergeKey_137 : decode prog_6_method_40_code 137 = .ok (.iastore, 1) := by decide +kernel
theorem d_M_mergeKey_138 : decode prog_6_method_40_code 138 = .ok (.aload_n 0, 1) := by decide +kernel
theorem d_M_mergeKey_139 : decode prog_6_method_40_code 139 = .ok (.getfield 62, 3) := by decide +kernel
theorem d_M_mergeKey_142 : decode prog_6_method_40_code 142 = .ok (.bipush 6, 2) := by decide +kernel
theorem d_M_mergeKey_144 : decode prog_6_method_40_code 144 = .ok (.iload 4, 2) := by decide +kernel
theorem d_M_mergeKey_146 : decode prog_6_method_40_code 146 = .ok (.imul, 1) := by decide +kernel
theorem d_M_mergeKey_147 : decode prog_6_method_40_code 147 = .ok (.iload_n 1, 1) := by decide +kernel
theorem d_M_mergeKey_148 : decode prog_6_method_40_code 148 = .ok (.iadd, 1) := by decide +kernel
theorem d_M_mergeKey_149 : decode prog_6_method_40_code 149 = .ok (.aload_n 0, 1) := by decide +kernel
theorem d_M_mergeKey_150 : decode prog_6_method_40_code 150 = .ok (.getfield 62, 3) := by decide +kernel
theorem d_M_mergeKey_153 : decode prog_6_method_40_code 153 = .ok (.bipush 6, 2) := by decide +kernel
theorem d_M_mergeKey_155 : decode prog_6_method_40_code 155 = .ok (.iload_n 2, 1) := by decide +kernel
theorem d_M_mergeKey_156 : decode prog_6_method_40_code 156 = .ok (.imul, 1) := by decide +kernel
theorem d_M_mergeKey_157 : decode prog_6_method_40_code 157 = .ok (.iload_n 1, 1) := by decide +kernel
theorem d_M_mergeKey_158 : decode prog_6_method_40_code 158 = .ok (.iadd, 1) := by decide +kernel
theorem d_M_mergeKey_159 : decode prog_6_method_40_code 159 = .ok (.iaload, 1) := by decide +kernel
theorem d_M_mergeKey_160 : decode prog_6_method_40_code 160 = .ok (.iastore, 1) := by decide +kernel
theorem d_M_mergeKey_161 : decode prog_6_method_40_code 161 = .ok (.aload_n 0, 1) := by decide +kernel
theorem d_M_mergeKey_162 : decode prog_6_method_40_code 162 = .ok (.getfield 65, 3) := by decide +kernel
theorem d_M_mergeKey_165 : decode prog_6_method_40_code 165 = .ok (.bipush 6, 2) := by decide +kernel
theorem d_M_mergeKey_167 : decode prog_6_method_40_code 167 = .ok (.iload 4, 2) := by decide +kernel
theorem d_M_mergeKey_169 : decode prog_6_method_40_code 169 = .ok (.imul, 1) := by decide +kernel
theorem d_M_mergeKey_170 : decode prog_6_method_40_code 170 = .ok (.iload_n 1, 1) := by decide +kernel
theorem d_M_mergeKey_171 : decode prog_6_method_40_code 171 = .ok (.iadd, 1) := by decide +kernel
theorem d_M_mergeKey_172 : decode prog_6_method_40_code 172 = .ok (.iload_n 3, 1) := by decide +kernel
theorem d_M_mergeKey_173 : decode prog_6_method_40_code 173 = .ok (.iastore, 1) := by decide +kernel
theorem d_M_mergeKey_174 : decode prog_6_method_40_code 174 = .ok (.iinc 4 1, 3) := by decide +kernel
theorem d_M_mergeKey_177 : decode prog_6_method_40_code 177 = .ok (.goto (-81), 3) := by decide +kernel
theorem d_M_mergeKey_180 : decode prog_6_method_40_code 180 = .ok (.return_, 1) := by decide +kernel
theorem cn_M_mergeKey : CN y_M_mergeKey (.code y_M_mergeKey prog_6_method_40_code 5 none) prog_6_method_40_code 5 none [] 1 := ⟨Or.inl ⟨rfl, rfl⟩, mw_804, mw_5, ⟨by decide +kernel, by decide +kernel⟩, by decide +kernel⟩
def b_M_mergeKey_174 (k : Sg → Nat → Int32 → Int32 → Int32 → Int32 → Option Sg) (σ : Sg) (a0 : Nat) (x1 : Int32) (x2 : Int32) (x3 : Int32) (x4 : Int32) : Option Sg := (k σ a0 x1 x2 x3 (x4 + 1))
set_option maxRecDepth 100000 in
set_option maxHeartbeats 4000000 in
theorem gb_M_mergeKey_174 {Γ : GX} (K : Cx Γ "TapirGroupModel" prog_6_method_40_code 5 rm_M_mergeKey) (S : Std Γ none) (T : Tb Γ []) (hI : y_M_mergeKey.name = "<init>" → Ini Γ) (k : Sg → Nat → Int32 → Int32 → Int32 → Int32 → Option Sg) (hk : ∀ (σ : Sg) (a0 : Nat) (x1 : Int32) (x2 : Int32) (x3 : Int32) (x4 : Int32), G Γ mkV 0 0 96 [(0, .ref a0), (1, .int x1), (2, .int x2), (3, .int x3), (4, .int x4)] [] σ (k σ a0 x1 x2 x3 x4)) (σ : Sg) (a0 : Nat) (x1 : Int32) (x2 : Int32) (x3 : Int32) (x4 : Int32) : G Γ mkV 0 0 174 [(0, .ref a0), (1, .int x1), (2, .int x2), (3, .int x3), (4, .int x4)] [] σ (b_M_mergeKey_174 k σ a0 x1 x2 x3 x4) := by
  unfold b_M_mergeKey_174
  refine g_iinc (pc := 174) (j := 4) (v := (x4 + 1)) (L' := [(4, .int (x4 + 1)), (0, .ref a0), (1, .int x1), (2, .int x2), (3, .int x3)]) K d_M_mergeKey_174 rfl (by rfl) (by decide) rfl ?_
  refine g_goto (pc := 177) (tgt := 96) K d_M_mergeKey_177 (by decide) ?_
  refine g_sub (L' := [(0, .ref a0), (1, .int x1), (2, .int x2), (3, .int x3), (4, .int (x4 + 1))]) [1, 2, 3, 4, 0] rfl ?_
  exact hk σ a0 x1 x2 x3 (x4 + 1)
def b_M_mergeKey_96 : Nat → Sg → Nat → Int32 → Int32 → Int32 → Int32 → Option Sg
  | 0 => fun _ _ _ _ _ _ => none
  | n + 1 => fun σ a0 x1 x2 x3 x4 => (if (3 : Int32) ≤ x4 then (some σ) else (if a0 < σ.1 ∧ kd a0 = 4 then rc (g_r σ a0 16) none (fun b5 => (if (b5 < σ.1 ∧ kd b5 = 11) ∧ inb x4 (ln b5) = true then (if (g_i σ b5 x4.toNatClampNeg) = 0 then (b_M_mergeKey_174 (b_M_mergeKey_96 n) σ a0 x1 x2 x3 x4) else (if a0 < σ.1 ∧ kd a0 = 4 then rc (g_r σ a0 18) none (fun b6 => (if a0 < σ.1 ∧ kd a0 = 4 then rc (g_r σ a0 18) none (fun b7 => (if (b7 < σ.1 ∧ kd b7 = 10) ∧ inb (((6 : Int32) * x2) + x1) (ln b7) = true then (if (b6 < σ.1 ∧ kd b6 = 10) ∧ inb (((6 : Int32) * x4) + x1) (ln b6) = true then (wi (s_i σ b6 (((6 : Int32) * x4) + x1).toNatClampNeg (g_i σ b7 (((6 : Int32) * x2) + x1).toNatClampNeg)) (fun s8 => (if a0 < s8.1 ∧ kd a0 = 4 then rc (g_r s8 a0 19) none (fun b9 => (if a0 < s8.1 ∧ kd a0 = 4 then rc (g_r s8 a0 19) none (fun b10 => (if (b10 < s8.1 ∧ kd b10 = 10) ∧ inb (((6 : Int32) * x2) + x1) (ln b10) = true then (if (b9 < s8.1 ∧ kd b9 = 10) ∧ inb (((6 : Int32) * x4) + x1) (ln b9) = true then (wi (s_i s8 b9 (((6 : Int32) * x4) + x1).toNatClampNeg (g_i s8 b10 (((6 : Int32) * x2) + x1).toNatClampNeg)) (fun s11 => (if a0 < s11.1 ∧ kd a0 = 4 then rc (g_r s11 a0 20) none (fun b12 => (if (b12 < s11.1 ∧ kd b12 = 10) ∧ inb (((6 : Int32) * x4) + x1) (ln b12) = true then (wi (s_i s11 b12 (((6 : Int32) * x4) + x1).toNatClampNeg x3) (fun s13 => (b_M_mergeKey_174 (b_M_mergeKey_96 n) s13 a0 x1 x2 x3 x4))) else none)) else none))) else none) else none)) else none)) else none))) else none) else none)) else none)) else none)) else none)) else none))
set_option maxRecDepth 100000 in
set_option maxHeartbeats 4000000 in
theorem gb_M_mergeKey_96 {Γ : GX} (K : Cx Γ "TapirGroupModel" prog_6_method_40_code 5 rm_M_mergeKey) (S : Std Γ none) (T : Tb Γ []) (hI : y_M_mergeKey.name = "<init>" → Ini Γ) (n : Nat) : ∀ (σ : Sg) (a0 : Nat) (x1 : Int32) (x2 : Int32) (x3 : Int32) (x4 : Int32), G Γ mkV 0 0 96 [(0, .ref a0), (1, .int x1), (2, .int x2), (3, .int x3), (4, .int x4)] [] σ (b_M_mergeKey_96 n σ a0 x1 x2 x3 x4) := by
  induction n with
  | zero =>
    intro σ a0 x1 x2 x3 x4
    exact g_none
  | succ n ih =>
    intro σ a0 x1 x2 x3 x4
    rw [b_M_mergeKey_96]
    refine g_iload (pc := 96) (j := 4) K d_M_mergeKey_96 rfl ?_
    refine g_iconst (pc := 98) (v := 3) K d_M_mergeKey_98 (by decide) ?_
    refine g_icmp_ge (pc := 99) (tgt := 180) K d_M_mergeKey_99 (by decide) (fun _ => ?_) (fun _ => ?_)
    · exact g_vret (pc := 180) K S d_M_mergeKey_180 (by decide) (by decide) rfl
    · refine g_aload_n (pc := 102) (j := 0) K d_M_mergeKey_102 rfl ?_
      refine g_getR (pc := 103) K fl_M_53 d_M_mergeKey_103 (fun _ => ?_) (fun b5 _ => ?_)
      · exact g_none
      · refine g_iload (pc := 106) (j := 4) K d_M_mergeKey_106 rfl ?_
        refine g_zald (pc := 108) K d_M_mergeKey_108 ?_
        refine g_if_ne (pc := 109) (tgt := 115) K d_M_mergeKey_109 (by decide) (fun _ => ?_) (fun _ => ?_)
        · refine g_aload_n (pc := 115) (j := 0) K d_M_mergeKey_115 rfl ?_
          refine g_getR (pc := 116) K fl_M_59 d_M_mergeKey_116 (fun _ => ?_) (fun b6 _ => ?_)
          · exact g_none
          · refine g_bipush (pc := 119) (v := 6) K d_M_mergeKey_119 (by decide) ?_
            refine g_iload (pc := 121) (j := 4) K d_M_mergeKey_121 rfl ?_
            refine g_imul (pc := 123) K d_M_mergeKey_123 ?_
            refine g_iload_n (pc := 124) (j := 1) K d_M_mergeKey_124 rfl ?_
            refine g_iadd (pc := 125) K d_M_mergeKey_125 ?_
            refine g_aload_n (pc := 126) (j := 0) K d_M_mergeKey_126 rfl ?_
            refine g_getR (pc := 127) K fl_M_59 d_M_mergeKey_127 (fun _ => ?_) (fun b7 _ => ?_)
            · exact g_none
            · refine g_bipush (pc := 130) (v := 6) K d_M_mergeKey_130 (by decide) ?_
              refine g_iload_n (pc := 132) (j := 2) K d_M_mergeKey_132 rfl ?_
              refine g_imul (pc := 133) K d_M_mergeKey_133 ?_
              refine g_iload_n (pc := 134) (j := 1) K d_M_mergeKey_134 rfl ?_
              refine g_iadd (pc := 135) K d_M_mergeKey_135 ?_
              refine g_iald (pc := 136) K d_M_mergeKey_136 ?_
              refine g_iast (pc := 137) K d_M_mergeKey_137 ?_
              refine g_wi (fun s8 _ => ?_)
              refine g_aload_n (pc := 138) (j := 0) K d_M_mergeKey_138 rfl ?_
              refine g_getR (pc := 139) K fl_M_62 d_M_mergeKey_139 (fun _ => ?_) (fun b9 _ => ?_)
              · exact g_none
              · refine g_bipush (pc := 142) (v := 6) K d_M_mergeKey_142 (by decide) ?_
                refine g_iload (pc := 144) (j := 4) K d_M_mergeKey_144 rfl ?_
                refine g_imul (pc := 146) K d_M_mergeKey_146 ?_
                refine g_iload_n (pc := 147) (j := 1) K d_M_mergeKey_147 rfl ?_
                refine g_iadd (pc := 148) K d_M_mergeKey_148 ?_
                refine g_aload_n (pc := 149) (j := 0) K d_M_mergeKey_149 rfl ?_
                refine g_getR (pc := 150) K fl_M_62 d_M_mergeKey_150 (fun _ => ?_) (fun b10 _ => ?_)
                · exact g_none
                · refine g_bipush (pc := 153) (v := 6) K d_M_mergeKey_153 (by decide) ?_
                  refine g_iload_n (pc := 155) (j := 2) K d_M_mergeKey_155 rfl ?_
                  refine g_imul (pc := 156) K d_M_mergeKey_156 ?_
                  refine g_iload_n (pc := 157) (j := 1) K d_M_mergeKey_157 rfl ?_
                  refine g_iadd (pc := 158) K d_M_mergeKey_158 ?_
                  refine g_iald (pc := 159) K d_M_mergeKey_159 ?_
                  refine g_iast (pc := 160) K d_M_mergeKey_160 ?_
                  refine g_wi (fun s11 _ => ?_)
                  refine g_aload_n (pc := 161) (j := 0) K d_M_mergeKey_161 rfl ?_
                  refine g_getR (pc := 162) K fl_M_65 d_M_mergeKey_162 (fun _ => ?_) (fun b12 _ => ?_)
                  · exact g_none
                  · refine g_bipush (pc := 165) (v := 6) K d_M_mergeKey_165 (by decide) ?_
                    refine g_iload (pc := 167) (j := 4) K d_M_mergeKey_167 rfl ?_
                    refine g_imul (pc := 169) K d_M_mergeKey_169 ?_
                    refine g_iload_n (pc := 170) (j := 1) K d_M_mergeKey_170 rfl ?_
                    refine g_iadd (pc := 171) K d_M_mergeKey_171 ?_
                    refine g_iload_n (pc := 172) (j := 3) K d_M_mergeKey_172 rfl ?_
                    refine g_iast (pc := 173) K d_M_mergeKey_173 ?_
                    refine g_wi (fun s13 _ => ?_)
                    exact gb_M_mergeKey_174 K S T hI (b_M_mergeKey_96 n) ih s13 a0 x1 x2 x3 x4
        · refine g_goto (pc := 112) (tgt := 174) K d_M_mergeKey_112 (by decide) ?_
          exact gb_M_mergeKey_174 K S T hI (b_M_mergeKey_96 n) ih σ a0 x1 x2 x3 x4
def b_M_mergeKey_87 (k : Sg → Nat → Int32 → Int32 → Int32 → Int32 → Option Sg) (σ : Sg) (a0 : Nat) (x1 : Int32) (x2 : Int32) (x3 : Int32) (x4 : Int32) : Option Sg := (k σ a0 x1 x2 x3 (x4 + 1))
set_option maxRecDepth 100000 in
set_option maxHeartbeats 4000000 in
theorem gb_M_mergeKey_87 {Γ : GX} (K : Cx Γ "TapirGroupModel" prog_6_method_40_code 5 rm_M_mergeKey) (S : Std Γ none) (T : Tb Γ []) (hI : y_M_mergeKey.name = "<init>" → Ini Γ) (k : Sg → Nat → Int32 → Int32 → Int32 → Int32 → Option Sg) (hk : ∀ (σ : Sg) (a0 : Nat) (x1 : Int32) (x2 : Int32) (x3 : Int32) (x4 : Int32), G Γ mkV 0 0 10 [(0, .ref a0), (1, .int x1), (2, .int x2), (3, .int x3), (4, .int x4)] [] σ (k σ a0 x1 x2 x3 x4)) (σ : Sg) (a0 : Nat) (x1 : Int32) (x2 : Int32) (x3 : Int32) (x4 : Int32) : G Γ mkV 0 0 87 [(0, .ref a0), (1, .int x1), (2, .int x2), (3, .int x3), (4, .int x4)] [] σ (b_M_mergeKey_87 k σ a0 x1 x2 x3 x4) := by
  unfold b_M_mergeKey_87
  refine g_iinc (pc := 87) (j := 4) (v := (x4 + 1)) (L' := [(4, .int (x4 + 1)), (0, .ref a0), (1, .int x1), (2, .int x2), (3, .int x3)]) K d_M_mergeKey_87 rfl (by rfl) (by decide) rfl ?_
  refine g_goto (pc := 90) (tgt := 10) K d_M_mergeKey_90 (by decide) ?_
  refine g_sub (L' := [(0, .ref a0), (1, .int x1), (2, .int x2), (3, .int x3), (4, .int (x4 + 1))]) [1, 2, 3, 4, 0] rfl ?_
  exact hk σ a0 x1 x2 x3 (x4 + 1)
def b_M_mergeKey_58 (k : Sg → Nat → Int32 → Int32 → Int32 → Int32 → Option Sg) (σ : Sg) (a0 : Nat) (x1 : Int32) (x2 : Int32) (x3 : Int32) (x4 : Int32) : Option Sg := (if a0 < σ.1 ∧ kd a0 = 4 then rc (g_r σ a0 20) none (fun b14 => (if (b14 < σ.1 ∧ kd b14 = 10) ∧ inb (((6 : Int32) * x4) + x1) (ln b14) = true then (if (g_i σ b14 (((6 : Int32) * x4) + x1).toNatClampNeg) ≤ x3 then (b_M_mergeKey_87 k σ a0 x1 x2 x3 x4) else (if a0 < σ.1 ∧ kd a0 = 4 then rc (g_r σ a0 20) none (fun b15 => (if (b15 < σ.1 ∧ kd b15 = 10) ∧ inb (((6 : Int32) * x4) + x1) (ln b15) = true then (wn (g_i σ b15 (((6 : Int32) * x4) + x1).toNatClampNeg) (fun y16 => (b_M_mergeKey_87 k σ a0 x1 x2 y16 x4))) else none)) else none)) else none)) else none)
set_option maxRecDepth 100000 in
set_option maxHeartbeats 4000000 in
theorem gb_M_mergeKey_58 {Γ : GX} (K : Cx Γ "TapirGroupModel" prog_6_method_40_code 5 rm_M_mergeKey) (S : Std Γ none) (T : Tb Γ []) (hI : y_M_mergeKey.name = "<init>" → Ini Γ) (k : Sg → Nat → Int32 → Int32 → Int32 → Int32 → Option Sg) (hk : ∀ (σ : Sg) (a0 : Nat) (x1 : Int32) (x2 : Int32) (x3 : Int32) (x4 : Int32), G Γ mkV 0 0 10 [(0, .ref a0), (1, .int x1), (2, .int x2), (3, .int x3), (4, .int x4)] [] σ (k σ a0 x1 x2 x3 x4)) (σ : Sg) (a0 : Nat) (x1 : Int32) (x2 : Int32) (x3 : Int32) (x4 : Int32) : G Γ mkV 0 0 58 [(0, .ref a0), (1, .int x1), (2, .int x2), (3, .int x3), (4, .int x4)] [] σ (b_M_mergeKey_58 k σ a0 x1 x2 x3 x4) := by
  unfold b_M_mergeKey_58
  refine g_aload_n (pc := 58) (j := 0) K d_M_mergeKey_58 rfl ?_
  refine g_getR (pc := 59) K fl_M_65 d_M_mergeKey_59 (fun _ => ?_) (fun b14 _ => ?_)
  · exact g_none
  · refine g_bipush (pc := 62) (v := 6) K d_M_mergeKey_62 (by decide) ?_
    refine g_iload (pc := 64) (j := 4) K d_M_mergeKey_64 rfl ?_
    refine g_imul (pc := 66) K d_M_mergeKey_66 ?_
    refine g_iload_n (pc := 67) (j := 1) K d_M_mergeKey_67 rfl ?_
    refine g_iadd (pc := 68) K d_M_mergeKey_68 ?_
    refine g_iald (pc := 69) K d_M_mergeKey_69 ?_
    refine g_iload_n (pc := 70) (j := 3) K d_M_mergeKey_70 rfl ?_
    refine g_icmp_le (pc := 71) (tgt := 87) K d_M_mergeKey_71 (by decide) (fun _ => ?_) (fun _ => ?_)
    · exact gb_M_mergeKey_87 K S T hI k hk σ a0 x1 x2 x3 x4
    · refine g_aload_n (pc := 74) (j := 0) K d_M_mergeKey_74 rfl ?_
      refine g_getR (pc := 75) K fl_M_65 d_M_mergeKey_75 (fun _ => ?_) (fun b15 _ => ?_)
      · exact g_none
      · refine g_bipush (pc := 78) (v := 6) K d_M_mergeKey_78 (by decide) ?_
        refine g_iload (pc := 80) (j := 4) K d_M_mergeKey_80 rfl ?_
        refine g_imul (pc := 82) K d_M_mergeKey_82 ?_
        refine g_iload_n (pc := 83) (j := 1) K d_M_mergeKey_83 rfl ?_
        refine g_iadd (pc := 84) K d_M_mergeKey_84 ?_
        refine g_iald (pc := 85) K d_M_mergeKey_85 ?_
        refine g_wn (fun y16 _ => ?_)
        refine g_istore_n (pc := 86) (L' := [(3, .int y16), (0, .ref a0), (1, .int x1), (2, .int x2), (4, .int x4)]) K d_M_mergeKey_86 (by decide) rfl ?_
        refine g_sub (L' := [(0, .ref a0), (1, .int x1), (2, .int x2), (3, .int y16), (4, .int x4)]) [1, 2, 3, 0, 4] rfl ?_
        exact gb_M_mergeKey_87 K S T hI k hk σ a0 x1 x2 y16 x4
def b_M_mergeKey_10 : Nat → Sg → Nat → Int32 → Int32 → Int32 → Int32 → Option Sg
  | 0 => fun _ _ _ _ _ _ => none
  | n + 1 => fun σ a0 x1 x2 x3 x4 => (if (3 : Int32) ≤ x4 then (b_M_mergeKey_96 1000 σ a0 x1 x2 x3 (0 : Int32)) else (if a0 < σ.1 ∧ kd a0 = 4 then rc (g_r σ a0 16) none (fun b2 => (if (b2 < σ.1 ∧ kd b2 = 11) ∧ inb x4 (ln b2) = true then (if (g_i σ b2 x4.toNatClampNeg) = 0 then (b_M_mergeKey_87 (b_M_mergeKey_10 n) σ a0 x1 x2 x3 x4) else (if a0 < σ.1 ∧ kd a0 = 4 then rc (g_r σ a0 18) none (fun b3 => (if (b3 < σ.1 ∧ kd b3 = 10) ∧ inb (((6 : Int32) * x4) + x1) (ln b3) = true then (if a0 < σ.1 ∧ kd a0 = 4 then rc (g_r σ a0 18) none (fun b4 => (if (b4 < σ.1 ∧ kd b4 = 10) ∧ inb (((6 : Int32) * x2) + x1) (ln b4) = true then (if (g_i σ b3 (((6 : Int32) * x4) + x1).toNatClampNeg) ≤ (g_i σ b4 (((6 : Int32) * x2) + x1).toNatClampNeg) then (b_M_mergeKey_58 (b_M_mergeKey_10 n) σ a0 x1 x2 x3 x4) else (b_M_mergeKey_58 (b_M_mergeKey_10 n) σ a0 x1 x4 x3 x4)) else none)) else none) else none)) else none)) else none)) else none))
set_option maxRecDepth 100000 in
set_option maxHeartbeats 4000000 in
theorem gb_M_mergeKey_10 {Γ : GX} (K : Cx Γ "TapirGroupModel" prog_6_method_40_code 5 rm_M_mergeKey) (S : Std Γ none) (T : Tb Γ []) (hI : y_M_mergeKey.name = "<init>" → Ini Γ) (n : Nat) : ∀ (σ : Sg) (a0 : Nat) (x1 : Int32) (x2 : Int32) (x3 : Int32) (x4 : Int32), G Γ mkV 0 0 10 [(0, .ref a0), (1, .int x1), (2, .int x2), (3, .int x3), (4, .int x4)] [] σ (b_M_mergeKey_10 n σ a0 x1 x2 x3 x4) := by
  induction n with
  | zero =>
    intro σ a0 x1 x2 x3 x4
    exact g_none
  | succ n ih =>
    intro σ a0 x1 x2 x3 x4
    rw [b_M_mergeKey_10]
    refine g_iload (pc := 10) (j := 4) K d_M_mergeKey_10 rfl ?_
    refine g_iconst (pc := 12) (v := 3) K d_M_mergeKey_12 (by decide) ?_
    refine g_icmp_ge (pc := 13) (tgt := 93) K d_M_mergeKey_13 (by decide) (fun _ => ?_) (fun _ => ?_)
    · refine g_iconst (pc := 93) (v := 0) K d_M_mergeKey_93 (by decide) ?_
      refine g_istore (pc := 94) (L' := [(4, .int (0 : Int32)), (0, .ref a0), (1, .int x1), (2, .int x2), (3, .int x3)]) K d_M_mergeKey_94 (by decide) rfl ?_
      refine g_sub (L' := [(0, .ref a0), (1, .int x1), (2, .int x2), (3, .int x3), (4, .int (0 : Int32))]) [1, 2, 3, 4, 0] rfl ?_
      exact gb_M_mergeKey_96 K S T hI 1000 σ a0 x1 x2 x3 (0 : Int32)
    · refine g_aload_n (pc := 16) (j := 0) K d_M_mergeKey_16 rfl ?_
      refine g_getR (pc := 17) K fl_M_53 d_M_mergeKey_17 (fun _ => ?_) (fun b2 _ => ?_)
      · exact g_none
      · refine g_iload (pc := 20) (j := 4) K d_M_mergeKey_20 rfl ?_
        refine g_zald (pc := 22) K d_M_mergeKey_22 ?_
        refine g_if_ne (pc := 23) (tgt := 29) K d_M_mergeKey_23 (by decide) (fun _ => ?_) (fun _ => ?_)
        · refine g_aload_n (pc := 29) (j := 0) K d_M_mergeKey_29 rfl ?_
          refine g_getR (pc := 30) K fl_M_59 d_M_mergeKey_30 (fun _ => ?_) (fun b3 _ => ?_)
          · exact g_none
          · refine g_bipush (pc := 33) (v := 6) K d_M_mergeKey_33 (by decide) ?_
            refine g_iload (pc := 35) (j := 4) K d_M_mergeKey_35 rfl ?_
            refine g_imul (pc := 37) K d_M_mergeKey_37 ?_
            refine g_iload_n (pc := 38) (j := 1) K d_M_mergeKey_38 rfl ?_
            refine g_iadd (pc := 39) K d_M_mergeKey_39 ?_
            refine g_iald (pc := 40) K d_M_mergeKey_40 ?_
            refine g_aload_n (pc := 41) (j := 0) K d_M_mergeKey_41 rfl ?_
            refine g_getR (pc := 42) K fl_M_59 d_M_mergeKey_42 (fun _ => ?_) (fun b4 _ => ?_)
            · exact g_none
            · refine g_bipush (pc := 45) (v := 6) K d_M_mergeKey_45 (by decide) ?_
              refine g_iload_n (pc := 47) (j := 2) K d_M_mergeKey_47 rfl ?_
              refine g_imul (pc := 48) K d_M_mergeKey_48 ?_
              refine g_iload_n (pc := 49) (j := 1) K d_M_mergeKey_49 rfl ?_
              refine g_iadd (pc := 50) K d_M_mergeKey_50 ?_
              refine g_iald (pc := 51) K d_M_mergeKey_51 ?_
              refine g_icmp_le (pc := 52) (tgt := 58) K d_M_mergeKey_52 (by decide) (fun _ => ?_) (fun _ => ?_)
              · exact gb_M_mergeKey_58 K S T hI (b_M_mergeKey_10 n) ih σ a0 x1 x2 x3 x4
              · refine g_iload (pc := 55) (j := 4) K d_M_mergeKey_55 rfl ?_
                refine g_istore_n (pc := 57) (L' := [(2, .int x4), (0, .ref a0), (1, .int x1), (3, .int x3), (4, .int x4)]) K d_M_mergeKey_57 (by decide) rfl ?_
                refine g_sub (L' := [(0, .ref a0), (1, .int x1), (2, .int x4), (3, .int x3), (4, .int x4)]) [1, 2, 0, 3, 4] rfl ?_
                exact gb_M_mergeKey_58 K S T hI (b_M_mergeKey_10 n) ih σ a0 x1 x4 x3 x4
        · refine g_goto (pc := 26) (tgt := 87) K d_M_mergeKey_26 (by decide) ?_
          exact gb_M_mergeKey_87 K S T hI (b_M_mergeKey_10 n) ih σ a0 x1 x2 x3 x4
def f_M_mergeKey (σ : Sg) (a0 : Nat) (x1 : Int32) : Option Sg := (if a0 < σ.1 ∧ kd a0 = 4 then (f_M_firstUp σ a0).bind (fun v1 => (b_M_mergeKey_10 1000 σ a0 x1 v1 (0 : Int32) (0 : Int32))) else none)
set_option maxRecDepth 100000 in
set_option maxHeartbeats 4000000 in
theorem k_M_mergeKey (l : Launch) (hl : l.stackTraces = false) (σ : Sg) (a0 : Nat) (x1 : Int32) (r : Sg) (h : f_M_mergeKey σ a0 x1 = some r) : Con l y_M_mergeKey (.code y_M_mergeKey prog_6_method_40_code 5 none) rm_M_mergeKey [.ref a0, .int x1] σ (mkV r) := by
  refine Con.of (mk := mkV) (o := f_M_mergeKey σ a0 x1) (z := r) (L0 := [(0, .ref a0), (1, .int x1)]) (bytes := prog_6_method_40_code) (maxL := 5) (ret := none) (hh := []) hl (by decide +kernel) (Or.inl ⟨rfl, rfl⟩) (by simp [Value.category]) (Nat.le_of_ble_eq_true rfl) rfl (fun Γ K S T hI => ?_) h rfl
  unfold f_M_mergeKey
  refine g_aload_n (pc := 0) (j := 0) K d_M_mergeKey_0 rfl ?_
  refine g_callV (pc := 1) (ci := 4) (a := a0) (vs := []) (st := []) (mkc := mkI σ) K rfl (by decide) cn_M_firstUp (fun l hl r hr => k_M_firstUp l hl _ _ r hr) mw_805 mw_807 ms_38 ⟨by decide, by decide, by decide, by decide⟩ d_M_mergeKey_1 rfl rfl (Nat.le_of_ble_eq_true rfl) (fun v1 _ => ?_)
  change G Γ mkV 0 0 4 [(0, .ref a0), (1, .int x1)] [.int v1] σ _
  refine g_istore_n (pc := 4) (L' := [(2, .int v1), (0, .ref a0), (1, .int x1)]) K d_M_mergeKey_4 (by decide) rfl ?_
  refine g_iconst (pc := 5) (v := 0) K d_M_mergeKey_5 (by decide) ?_
  refine g_istore_n (pc := 6) (L' := [(3, .int (0 : Int32)), (2, .int v1), (0, .ref a0), (1, .int x1)]) K d_M_mergeKey_6 (by decide) rfl ?_
  refine g_iconst (pc := 7) (v := 0) K d_M_mergeKey_7 (by decide) ?_
  refine g_istore (pc := 8) (L' := [(4, .int (0 : Int32)), (3, .int (0 : Int32)), (2, .int v1), (0, .ref a0), (1, .int x1)]) K d_M_mergeKey_8 (by decide) rfl ?_
  refine g_sub (L' := [(0, .ref a0), (1, .int x1), (2, .int v1), (3, .int (0 : Int32)), (4, .int (0 : Int32))]) [3, 4, 2, 1, 0] rfl ?_
  exact gb_M_mergeKey_10 K S T hI 1000 σ a0 x1 v1 (0 : Int32) (0 : Int32)
-- TapirGroupModel.change()I
def y_M_change : MethodName := ⟨"TapirGroupModel", "change", "()I"⟩
abbrev rm_M_change : Room := { frames := 3, cells := 0, slots := 0, locals := 69 }
theorem d_M_change_0 : decode prog_6_method_41_code 0 = .ok (.iconst 0, 1) := by decide +kernel
theorem d_M_change_1 : decode prog_6_method_41_code 1 = .ok (.istore_n 1, 1) := by decide +kernel
theorem d_M_change_2 : decode prog_6_method_41_code 2 = .ok (.iconst 0, 1) := by decide +kernel
theorem d_M_change_3 : decode prog_6_method_41_code 3 = .ok (.istore_n 2, 1) := by decide +kernel
theorem d_M_change_4 : decode prog_6_method_41_code 4 = .ok (.iload_n 2, 1) := by decide +kernel
theorem d_M_change_5 : decode prog_6_method_41_code 5 = .ok (.iconst 3, 1) := by decide +kernel
theorem d_M_change_6 : decode prog_6_method_41_code 6 = .ok (.if_icmp .ge 26, 3) := by decide +kernel
theorem d_M_change_9 : decode prog_6_method_41_code 9 = .ok (.iload_n 1, 1) := by decide +kernel
theorem d_M_change_10 : decode prog_6_method_41_code 10 = .ok (.aload_n 0, 1) := by decide +kernel
theorem d_M_change_11 : decode prog_6_method_41_code 11 = .ok (.getfield 53, 3) := by decide +kernel
theorem d_M_change_14 : decode prog_6_method_41_code 14 = .ok (.iload_n 2, 1) := by decide +kernel
theorem d_M_change_15 : decode prog_6_method_41_code 15 = .ok (.baload, 1) := by decide +kernel
theorem d_M_change_16 : decode prog_6_method_41_code 16 = .ok (.ifCond .eq 7, 3) := by decide +kernel
theorem d_M_change_19 : decode prog_6_method_41_code 19 = .ok (.iconst 1, 1) := by decide +kernel
theorem d_M_change_20 : decode prog_6_method_41_code 20 = .ok (.goto 4, 3) := by decide +kernel
theorem d_M_change_23 : decode prog_6_method_41_code 23 = .ok (.iconst 0, 1) := by decide +kernel
theorem d_M_change_24 : decode prog_6_method_41_code 24 = .ok (.iadd, 1) := by decide +kernel
theorem d_M_change_25 : decode prog_6_method_41_code 25 = .ok (.istore_n 1, 1) := by decide +kernel
theorem d_M_change_26 : decode prog_6_method_41_code 26 = .ok (.iinc 2 1, 3) := by decide +kernel
theorem d_M_change_29 : decode prog_6_method_41_code 29 = .ok (.goto (-25), 3) := by decide +kernel
theorem d_M_change_32 : decode prog_6_method_41_code 32 = .ok (.aload_n 0, 1) := by decide +kernel
theorem d_M_change_33 : decode prog_6_method_41_code 33 = .ok (.iload_n 1, 1) := by decide +kernel
theorem d_M_change_34 : decode prog_6_method_41_code 34 = .ok (.iconst 2, 1) := by decide +kernel
theorem d_M_change_35 : decode prog_6_method_41_code 35 = .ok (.if_icmp .ge 7, 3) := by decide +kernel
theorem d_M_change_38 : decode prog_6_method_41_code 38 = .ok (.iconst 1, 1) := by decide +kernel
theorem d_M_change_39 : decode prog_6_method_41_code 39 = .ok (.goto 4, 3) := by decide +kernel
theorem d_M_change_42 : decode prog_6_method_41_code 42 = .ok (.iconst 0, 1) := by decide +kernel
theorem d_M_change_43 : decode prog_6_method_41_code 43 = .ok (.invokevirtual 99, 3) := by decide +kernel
theorem d_M_change_46 : decode prog_6_method_41_code 46 = .ok (.ifCond .ne 5, 3) := by decide +kernel
theorem d_M_change_49 : decode prog_6_method_41_code 49 = .ok (.iconst 0, 1) := by decide +kernel
theorem d_M_change_50 : decode prog_6_method_41_code 50 = .ok (.ireturn, 1) := by decide +kernel
theorem d_M_change_51 : decode prog_6_method_41_code 51 = .ok (.aload_n 0, 1) := by decide +kernel
theorem d_M_change_52 : decode prog_6_method_41_code 52 = .ok (.invokevirtual 92, 3) := by decide +kernel
theorem d_M_change_55 : decode prog_6_method_41_code 55 = .ok (.iconst 1, 1) := by decide +kernel
theorem d_M_change_56 : decode prog_6_method_41_code 56 = .ok (.iadd, 1) := by decide +kernel
theorem d_M_change_57 : decode prog_6_method_41_code 57 = .ok (.istore_n 2, 1) := by decide +kernel
theorem d_M_change_58 : decode prog_6_method_41_code 58 = .ok (.iconst 1, 1) := by decide +kernel
theorem d_M_change_59 : decode prog_6_method_41_code 59 = .ok (.istore_n 3, 1) := by decide +kernel
theorem d_M_change_60 : decode prog_6_method_41_code 60 = .ok (.iload_n 3, 1) := by decide +kernel
theorem d_M_change_61 : decode prog_6_method_41_code 61 = .ok (.aload_n 0, 1) := by decide +kernel
theorem d_M_change_62 : decode prog_6_method_41_code 62 = .ok (.getfield 96, 3) := by decide +kernel
theorem d_M_change_65 : decode prog_6_method_41_code 65 = .ok (.if_icmp .gt 24, 3) := by decide +kernel
theorem d_M_change_68 : decode prog_6_method_41_code 68 = .ok (.aload_n 0, 1) := by decide +kernel
theorem d_M_change_69 : decode prog_6_method_41_code 69 = .ok (.iload_n 3, 1) := by decide +kernel
theorem d_M_change_70 : decode prog_6_method_41_code 70 = .ok (.iconst (-1), 1) := by decide +kernel
theorem d_M_change_71 : decode prog_6_method_41_code 71 = .ok (.invokevirtual 167, 3) := by decide +kernel
theorem d_M_change_74 : decode prog_6_method_41_code 74 = .ok (.ifCond .le 9, 3) := by decide +kernel
theorem d_M_change_77 : decode prog_6_method_41_code 77 = .ok (.aload_n 0, 1) := by decide +kernel
theorem d_M_change_78 : decode prog_6_method_41_code 78 = .ok (.iload_n 3, 1) := by decide +kernel
theorem d_M_change_79 : decode prog_6_method_41_code 79 = .ok (.iload_n 1, 1) := by decide +kernel
theorem d_M_change_80 : decode prog_6_method_41_code 80 = .ok (.invokevirtual 176, 3) := by decide +kernel
theorem d_M_change_83 : decode prog_6_method_41_code 83 = .ok (.iinc 3 1, 3) := by decide +kernel
theorem d_M_change_86 : decode prog_6_method_41_code 86 = .ok (.goto (-26), 3) := by decide +kernel
theorem d_M_change_89 : decode prog_6_method_41_code 89 = .ok (.iconst 0, 1) := by decide +kernel
theorem d_M_change_90 : decode prog_6_method_41_code 90 = .ok (.istore_n 3, 1) := by decide +kernel
theorem d_M_change_91 : decode prog_6_method_41_code 91 = .ok (.iload_n 3, 1) := by decide +kernel
theorem d_M_change_92 : decode prog_6_method_41_code 92 = .ok (.bipush 6, 2) := by decide +kernel
theorem d_M_change_94 : decode prog_6_method_41_code 94 = .ok (.if_icmp .ge 14, 3) := by decide +kernel
theorem d_M_change_97 : decode prog_6_method_41_code 97 = .ok (.aload_n 0, 1) := by decide +kernel
theorem d_M_change_98 : decode prog_6_method_41_code 98 = .ok (.iload_n 3, 1) := by decide +kernel
theorem d_M_change_99 : decode prog_6_method_41_code 99 = .ok (.invokevirtual 179, 3) := by decide +kernel
theorem d_M_change_102 : decode prog_6_method_41_code 102 = .ok (.iinc 3 1, 3) := by decide +kernel
theorem d_M_change_105 : decode prog_6_method_41_code 105 = .ok (.goto (-14), 3) := by decide +kernel
theorem d_M_change_108 : decode prog_6_method_41_code 108 = .ok (.iconst 0, 1) := by decide +kernel
theorem d_M_change_109 : decode prog_6_method_41_code 109 = .ok (.istore_n 3, 1) := by decide +kernel
theorem d_M_change_110 : decode prog_6_method_41_code 110 = .ok (.iload_n 3, 1) := by decide +kernel
theorem d_M_change_111 : decode prog_6_method_41_code 111 = .ok (.iconst 3, 1) := by decide +kernel
theorem d_M_change_112 : decode prog_6_method_41_code 112 = .ok (.if_icmp .ge 34, 3) := by decide +kernel
theorem d_M_change_115 : decode prog_6_method_41_code 115 = .ok (.aload_n 0, 1) := by decide +kernel
theorem d_M_change_116 : decode prog_6_method_41_code 116 = .ok (.getfield 56, 3) := by decide +kernel
theorem d_M_change_119 : decode prog_6_method_41_code 119 = .ok (.iload_n 3, 1) := by decide +kernel
theorem d_M_change_120 : decode prog_6_method_41_code 120 = .ok (.aload_n 0, 1) := by decide +kernel
theorem d_M_change_121 : decode prog_6_method_41_code 121 = .ok (.getfield 53, 3) := by decide +kernel
theorem d_M_change_124 : decode prog_6_method_41_code 124 = .ok (.iload_n 3, 1) := by decide +kernel
theorem d_M_change_125 : decode prog_6_method_41_code 125 = .ok (.baload, 1) := by decide +kernel
theorem d_M_change_126 : decode prog_6_method_41_code 126 = .ok (.ifCond .eq 7, 3) := by decide +kernel
theorem d_M_change_129 : decode prog_6_method_41_code 129 = .ok (.iload_n 2, 1) := by decide +kernel
theorem d_M_change_130 : decode prog_6_method_41_code 130 = .ok (.goto 9, 3) := by decide +kernel
theorem d_M_change_133 : decode prog_6_method_41_code 133 = .ok (.aload_n 0, 1) := by decide +kernel
theorem d_M_change_134 : decode prog_6_method_41_code 134 = .ok (.getfield 56, 3) := by decide +kernel
theorem d_M_change_137 : decode prog_6_method_41_code 137 = .ok (.iload_n 3, 1) := by decide +kernel
theorem d_M_change_138 : decode prog_6_method_41_code 138 = .ok (.iaload, 1) := by decide +kernel
theorem d_M_change_139 : decode prog_6_method_41_code 139 = .ok (.iastore, 1) := by decide +kernel
theorem d_M_change_140 : decode prog_6_method_41_code 140 = .ok (.iinc 3 1, 3) := by decide +kernel
theorem d_M_change_143 : decode prog_6_method_41_code 143 = .ok (.goto (-33), 3) := by decide +kernel
theorem d_M_change_146 : decode prog_6_method_41_code 146 = .ok (.iload_n 2, 1) := by decide +kernel
theorem d_M_change_147 : decode prog_6_method_41_code 147 = .ok (.ireturn, 1) := by decide +kernel
theorem cn_M_change : CN y_M_change (.code y_M_change prog_6_method_41_code 4 (some .int)) prog_6_method_41_code 4 (some .int) [] 0 := ⟨Or.inl ⟨rfl, rfl⟩, mw_772, mw_5, ⟨by decide +kernel, by decide +kernel⟩, by decide +kernel⟩
def b_M_change_139 (k : Sg → Nat → Int32 → Int32 → Option (Int32 × Sg)) (σ : Sg) (a0 : Nat) (x2 : Int32) (x3 : Int32) (t0 : Nat) (t1 : Int32) (t2 : Int32) : Option (Int32 × Sg) := (if (t0 < σ.1 ∧ kd t0 = 10) ∧ inb t1 (ln t0) = true then (wi (s_i σ t0 t1.toNatClampNeg t2) (fun s12 => (k s12 a0 x2 (x3 + 1)))) else none)
set_option maxRecDepth 100000 in
set_option maxHeartbeats 4000000 in
theorem gb_M_change_139 {Γ : GX} (K : Cx Γ "TapirGroupModel" prog_6_method_41_code 4 rm_M_change) (S : Std Γ (some .int)) (T : Tb Γ []) (hI : y_M_change.name = "<init>" → Ini Γ) (k : Sg → Nat → Int32 → Int32 → Option (Int32 × Sg)) (hk : ∀ (σ : Sg) (a0 : Nat) (x2 : Int32) (x3 : Int32), G Γ mkW 0 0 110 [(0, .ref a0), (2, .int x2), (3, .int x3)] [] σ (k σ a0 x2 x3)) (σ : Sg) (a0 : Nat) (x2 : Int32) (x3 : Int32) (t0 : Nat) (t1 : Int32) (t2 : Int32) : G Γ mkW 0 0 139 [(0, .ref a0), (2, .int x2), (3, .int x3)] [.int t2, .int t1, .ref t0] σ (b_M_change_139 k σ a0 x2 x3 t0 t1 t2) := by
  unfold b_M_change_139
  refine g_iast (pc := 139) K d_M_change_139 ?_
  refine g_wi (fun s12 _ => ?_)
  refine g_iinc (pc := 140) (j := 2) (v := (x3 + 1)) (L' := [(3, .int (x3 + 1)), (0, .ref a0), (2, .int x2)]) K d_M_change_140 rfl (by rfl) (by decide) rfl ?_
  refine g_goto (pc := 143) (tgt := 110) K d_M_change_143 (by decide) ?_
  refine g_sub (L' := [(0, .ref a0), (2, .int x2), (3, .int (x3 + 1))]) [1, 2, 0] rfl ?_
  exact hk s12 a0 x2 (x3 + 1)
def b_M_change_110 : Nat → Sg → Nat → Int32 → Int32 → Option (Int32 × Sg)
  | 0 => fun _ _ _ _ => none
  | n + 1 => fun σ a0 x2 x3 => (if (3 : Int32) ≤ x3 then (some (x2, σ)) else (if a0 < σ.1 ∧ kd a0 = 4 then rc (g_r σ a0 17) none (fun b9 => (if a0 < σ.1 ∧ kd a0 = 4 then rc (g_r σ a0 16) none (fun b10 => (if (b10 < σ.1 ∧ kd b10 = 11) ∧ inb x3 (ln b10) = true then (if (g_i σ b10 x3.toNatClampNeg) = 0 then (if a0 < σ.1 ∧ kd a0 = 4 then rc (g_r σ a0 17) none (fun b11 => (if (b11 < σ.1 ∧ kd b11 = 10) ∧ inb x3 (ln b11) = true then (b_M_change_139 (b_M_change_110 n) σ a0 x2 x3 b9 x3 (g_i σ b11 x3.toNatClampNeg)) else none)) else none) else (b_M_change_139 (b_M_change_110 n) σ a0 x2 x3 b9 x3 x2)) else none)) else none)) else none))
set_option maxRecDepth 100000 in
set_option maxHeartbeats 4000000 in
theorem gb_M_change_110 {Γ : GX} (K : Cx Γ "TapirGroupModel" prog_6_method_41_code 4 rm_M_change) (S : Std Γ (some .int)) (T : Tb Γ []) (hI : y_M_change.name = "<init>" → Ini Γ) (n : Nat) : ∀ (σ : Sg) (a0 : Nat) (x2 : Int32) (x3 : Int32), G Γ mkW 0 0 110 [(0, .ref a0), (2, .int x2), (3, .int x3)] [] σ (b_M_change_110 n σ a0 x2 x3) := by
  induction n with
  | zero =>
    intro σ a0 x2 x3
    exact g_none
  | succ n ih =>
    intro σ a0 x2 x3
    rw [b_M_change_110]
    refine g_iload_n (pc := 110) (j := 2) K d_M_change_110 rfl ?_
    refine g_iconst (pc := 111) (v := 3) K d_M_change_111 (by decide) ?_
    refine g_icmp_ge (pc := 112) (tgt := 146) K d_M_change_112 (by decide) (fun _ => ?_) (fun _ => ?_)
    · refine g_iload_n (pc := 146) (j := 1) K d_M_change_146 rfl ?_
      exact g_iret (pc := 147) K S rfl d_M_change_147 (by decide) (by decide) rfl
    · refine g_aload_n (pc := 115) (j := 0) K d_M_change_115 rfl ?_
      refine g_getR (pc := 116) K fl_M_56 d_M_change_116 (fun _ => ?_) (fun b9 _ => ?_)
      · exact g_none
      · refine g_iload_n (pc := 119) (j := 2) K d_M_change_119 rfl ?_
        refine g_aload_n (pc := 120) (j := 0) K d_M_change_120 rfl ?_
        refine g_getR (pc := 121) K fl_M_53 d_M_change_121 (fun _ => ?_) (fun b10 _ => ?_)
        · exact g_none
        · refine g_iload_n (pc := 124) (j := 2) K d_M_change_124 rfl ?_
          refine g_zald (pc := 125) K d_M_change_125 ?_
          refine g_if_eq (pc := 126) (tgt := 133) K d_M_change_126 (by decide) (fun _ => ?_) (fun _ => ?_)
          · refine g_aload_n (pc := 133) (j := 0) K d_M_change_133 rfl ?_
            refine g_getR (pc := 134) K fl_M_56 d_M_change_134 (fun _ => ?_) (fun b11 _ => ?_)
            · exact g_none
            · refine g_iload_n (pc := 137) (j := 2) K d_M_change_137 rfl ?_
              refine g_iald (pc := 138) K d_M_change_138 ?_
              exact gb_M_change_139 K S T hI (b_M_change_110 n) ih σ a0 x2 x3 b9 x3 (g_i σ b11 x3.toNatClampNeg)
          · refine g_iload_n (pc := 129) (j := 1) K d_M_change_129 rfl ?_
            refine g_goto (pc := 130) (tgt := 139) K d_M_change_130 (by decide) ?_
            exact gb_M_change_139 K S T hI (b_M_change_110 n) ih σ a0 x2 x3 b9 x3 x2
def b_M_change_91 : Nat → Sg → Nat → Int32 → Int32 → Option (Int32 × Sg)
  | 0 => fun _ _ _ _ => none
  | n + 1 => fun σ a0 x2 x3 => (if (6 : Int32) ≤ x3 then (b_M_change_110 1000 σ a0 x2 (0 : Int32)) else (if a0 < σ.1 ∧ kd a0 = 4 then (f_M_mergeKey σ a0 x3).bind (fun s8 => (b_M_change_91 n s8 a0 x2 (x3 + 1))) else none))
set_option maxRecDepth 100000 in
set_option maxHeartbeats 4000000 in
theorem gb_M_change_91 {Γ : GX} (K : Cx Γ "TapirGroupModel" prog_6_method_41_code 4 rm_M_change) (S : Std Γ (some .int)) (T : Tb Γ []) (hI : y_M_change.name = "<init>" → Ini Γ) (n : Nat) : ∀ (σ : Sg) (a0 : Nat) (x2 : Int32) (x3 : Int32), G Γ mkW 0 0 91 [(0, .ref a0), (2, .int x2), (3, .int x3)] [] σ (b_M_change_91 n σ a0 x2 x3) := by
  induction n with
  | zero =>
    intro σ a0 x2 x3
    exact g_none
  | succ n ih =>
    intro σ a0 x2 x3
    rw [b_M_change_91]
    refine g_iload_n (pc := 91) (j := 2) K d_M_change_91 rfl ?_
    refine g_bipush (pc := 92) (v := 6) K d_M_change_92 (by decide) ?_
    refine g_icmp_ge (pc := 94) (tgt := 108) K d_M_change_94 (by decide) (fun _ => ?_) (fun _ => ?_)
    · refine g_iconst (pc := 108) (v := 0) K d_M_change_108 (by decide) ?_
      refine g_istore_n (pc := 109) (L' := [(3, .int (0 : Int32)), (0, .ref a0), (2, .int x2)]) K d_M_change_109 (by decide) rfl ?_
      refine g_sub (L' := [(0, .ref a0), (2, .int x2), (3, .int (0 : Int32))]) [1, 2, 0] rfl ?_
      exact gb_M_change_110 K S T hI 1000 σ a0 x2 (0 : Int32)
    · refine g_aload_n (pc := 97) (j := 0) K d_M_change_97 rfl ?_
      refine g_iload_n (pc := 98) (j := 2) K d_M_change_98 rfl ?_
      refine g_callV (pc := 99) (ci := 4) (a := a0) (vs := [.int x3]) (st := []) (mkc := mkV) K rfl (by decide) cn_M_mergeKey (fun l hl r hr => k_M_mergeKey l hl _ _ _ r hr) mw_801 mw_803 ms_37 ⟨by decide, by decide, by decide, by decide⟩ d_M_change_99 rfl rfl (Nat.le_of_ble_eq_true rfl) (fun s8 _ => ?_)
      change G Γ mkW 0 0 102 [(0, .ref a0), (2, .int x2), (3, .int x3)] [] s8 _
      refine g_iinc (pc := 102) (j := 2) (v := (x3 + 1)) (L' := [(3, .int (x3 + 1)), (0, .ref a0), (2, .int x2)]) K d_M_change_102 rfl (by rfl) (by decide) rfl ?_
      refine g_goto (pc := 105) (tgt := 91) K d_M_change_105 (by decide) ?_
      refine g_sub (L' := [(0, .ref a0), (2, .int x2), (3, .int (x3 + 1))]) [1, 2, 0] rfl ?_
      exact ih s8 a0 x2 (x3 + 1)
def b_M_change_83 (k : Sg → Nat → Int32 → Int32 → Int32 → Option (Int32 × Sg)) (σ : Sg) (a0 : Nat) (x1 : Int32) (x2 : Int32) (x3 : Int32) : Option (Int32 × Sg) := (k σ a0 x1 x2 (x3 + 1))
set_option maxRecDepth 100000 in
set_option maxHeartbeats 4000000 in
theorem gb_M_change_83 {Γ : GX} (K : Cx Γ "TapirGroupModel" prog_6_method_41_code 4 rm_M_change) (S : Std Γ (some .int)) (T : Tb Γ []) (hI : y_M_change.name = "<init>" → Ini Γ) (k : Sg → Nat → Int32 → Int32 → Int32 → Option (Int32 × Sg)) (hk : ∀ (σ : Sg) (a0 : Nat) (x1 : Int32) (x2 : Int32) (x3 : Int32), G Γ mkW 0 0 60 [(0, .ref a0), (1, .int x1), (2, .int x2), (3, .int x3)] [] σ (k σ a0 x1 x2 x3)) (σ : Sg) (a0 : Nat) (x1 : Int32) (x2 : Int32) (x3 : Int32) : G Γ mkW 0 0 83 [(0, .ref a0), (1, .int x1), (2, .int x2), (3, .int x3)] [] σ (b_M_change_83 k σ a0 x1 x2 x3) := by
  unfold b_M_change_83
  refine g_iinc (pc := 83) (j := 3) (v := (x3 + 1)) (L' := [(3, .int (x3 + 1)), (0, .ref a0), (1, .int x1), (2, .int x2)]) K d_M_change_83 rfl (by rfl) (by decide) rfl ?_
  refine g_goto (pc := 86) (tgt := 60) K d_M_change_86 (by decide) ?_
  refine g_sub (L' := [(0, .ref a0), (1, .int x1), (2, .int x2), (3, .int (x3 + 1))]) [1, 2, 3, 0] rfl ?_
  exact hk σ a0 x1 x2 (x3 + 1)
def b_M_change_60 : Nat → Sg → Nat → Int32 → Int32 → Int32 → Option (Int32 × Sg)
  | 0 => fun _ _ _ _ _ => none
  | n + 1 => fun σ a0 x1 x2 x3 => (if a0 < σ.1 ∧ kd a0 = 4 then (if (g_i σ a0 1) < x3 then (b_M_change_91 1000 σ a0 x2 (0 : Int32)) else (if a0 < σ.1 ∧ kd a0 = 4 then (f_M_recordsOf σ a0 x3 (-1 : Int32)).bind (fun v6 => (if v6 ≤ 0 then (b_M_change_83 (b_M_change_60 n) σ a0 x1 x2 x3) else (if a0 < σ.1 ∧ kd a0 = 4 then (f_M_merge σ a0 x3 x1).bind (fun s7 => (b_M_change_83 (b_M_change_60 n) s7 a0 x1 x2 x3)) else none))) else none)) else none)
set_option maxRecDepth 100000 in
set_option maxHeartbeats 4000000 in
theorem gb_M_change_60 {Γ : GX} (K : Cx Γ "TapirGroupModel" prog_6_method_41_code 4 rm_M_change) (S : Std Γ (some .int)) (T : Tb Γ []) (hI : y_M_change.name = "<init>" → Ini Γ) (n : Nat) : ∀ (σ : Sg) (a0 : Nat) (x1 : Int32) (x2 : Int32) (x3 : Int32), G Γ mkW 0 0 60 [(0, .ref a0), (1, .int x1), (2, .int x2), (3, .int x3)] [] σ (b_M_change_60 n σ a0 x1 x2 x3) := by
  induction n with
  | zero =>
    intro σ a0 x1 x2 x3
    exact g_none
  | succ n ih =>
    intro σ a0 x1 x2 x3
    rw [b_M_change_60]
    refine g_iload_n (pc := 60) (j := 3) K d_M_change_60 rfl ?_
    refine g_aload_n (pc := 61) (j := 0) K d_M_change_61 rfl ?_
    refine g_getI (pc := 62) K fl_M_96 d_M_change_62 ?_
    refine g_icmp_gt (pc := 65) (tgt := 89) K d_M_change_65 (by decide) (fun _ => ?_) (fun _ => ?_)
    · refine g_iconst (pc := 89) (v := 0) K d_M_change_89 (by decide) ?_
      refine g_istore_n (pc := 90) (L' := [(3, .int (0 : Int32)), (0, .ref a0), (1, .int x1), (2, .int x2)]) K d_M_change_90 (by decide) rfl ?_
      refine g_sub (L' := [(0, .ref a0), (2, .int x2), (3, .int (0 : Int32))]) [1, 3, 0] rfl ?_
      exact gb_M_change_91 K S T hI 1000 σ a0 x2 (0 : Int32)
    · refine g_aload_n (pc := 68) (j := 0) K d_M_change_68 rfl ?_
      refine g_iload_n (pc := 69) (j := 3) K d_M_change_69 rfl ?_
      refine g_iconst (pc := 70) (v := -1) K d_M_change_70 (by decide) ?_
      refine g_callV (pc := 71) (ci := 4) (a := a0) (vs := [.int x3, .int (-1 : Int32)]) (st := []) (mkc := mkI σ) K rfl (by decide) cn_M_recordsOf (fun l hl r hr => k_M_recordsOf l hl _ _ _ _ r hr) mw_773 mw_775 ms_30 ⟨by decide, by decide, by decide, by decide⟩ d_M_change_71 rfl rfl (Nat.le_of_ble_eq_true rfl) (fun v6 _ => ?_)
      change G Γ mkW 0 0 74 [(0, .ref a0), (1, .int x1), (2, .int x2), (3, .int x3)] [.int v6] σ _
      refine g_if_le (pc := 74) (tgt := 83) K d_M_change_74 (by decide) (fun _ => ?_) (fun _ => ?_)
      · exact gb_M_change_83 K S T hI (b_M_change_60 n) ih σ a0 x1 x2 x3
      · refine g_aload_n (pc := 77) (j := 0) K d_M_change_77 rfl ?_
        refine g_iload_n (pc := 78) (j := 3) K d_M_change_78 rfl ?_
        refine g_iload_n (pc := 79) (j := 1) K d_M_change_79 rfl ?_
        refine g_callV (pc := 80) (ci := 4) (a := a0) (vs := [.int x3, .int x1]) (st := []) (mkc := mkV) K rfl (by decide) cn_M_merge (fun l hl r hr => k_M_merge l hl _ _ _ _ r hr) mw_777 mw_779 ms_31 ⟨by decide, by decide, by decide, by decide⟩ d_M_change_80 rfl rfl (Nat.le_of_ble_eq_true rfl) (fun s7 _ => ?_)
        change G Γ mkW 0 0 83 [(0, .ref a0), (1, .int x1), (2, .int x2), (3, .int x3)] [] s7 _
        exact gb_M_change_83 K S T hI (b_M_change_60 n) ih s7 a0 x1 x2 x3
def b_M_change_43  (σ : Sg) (a0 : Nat) (x1 : Int32) (t0 : Nat) (t1 : Int32) : Option (Int32 × Sg) := (if t0 < σ.1 ∧ kd t0 = 4 then (f_M_says σ t0 t1).bind (fun w2 => (if w2.1 = 0 then (some ((0 : Int32), w2.2)) else (if a0 < w2.2.1 ∧ kd a0 = 4 then (f_M_groupView w2.2 a0).bind (fun v3 => (wn (v3 + (1 : Int32)) (fun y4 => (b_M_change_60 1000 w2.2 a0 x1 y4 (1 : Int32))))) else none))) else none)
set_option maxRecDepth 100000 in
set_option maxHeartbeats 4000000 in
theorem gb_M_change_43 {Γ : GX} (K : Cx Γ "TapirGroupModel" prog_6_method_41_code 4 rm_M_change) (S : Std Γ (some .int)) (T : Tb Γ []) (hI : y_M_change.name = "<init>" → Ini Γ) (σ : Sg) (a0 : Nat) (x1 : Int32) (t0 : Nat) (t1 : Int32) : G Γ mkW 0 0 43 [(0, .ref a0), (1, .int x1)] [.int t1, .ref t0] σ (b_M_change_43 σ a0 x1 t0 t1) := by
  unfold b_M_change_43
  refine g_callV (pc := 43) (ci := 4) (a := t0) (vs := [.int t1]) (st := []) (mkc := mkW) K rfl (by decide) cn_M_says (fun l hl r hr => k_M_says l hl _ _ _ r hr) mw_666 mw_668 ms_15 ⟨by decide, by decide, by decide, by decide⟩ d_M_change_43 rfl rfl (Nat.le_of_ble_eq_true rfl) (fun w2 _ => ?_)
  change G Γ mkW 0 0 46 [(0, .ref a0), (1, .int x1)] [.int w2.1] w2.2 _
  refine g_if_ne (pc := 46) (tgt := 51) K d_M_change_46 (by decide) (fun _ => ?_) (fun _ => ?_)
  · refine g_aload_n (pc := 51) (j := 0) K d_M_change_51 rfl ?_
    refine g_callV (pc := 52) (ci := 4) (a := a0) (vs := []) (st := []) (mkc := mkI w2.2) K rfl (by decide) cn_M_groupView (fun l hl r hr => k_M_groupView l hl _ _ r hr) mw_696 mw_698 ms_20 ⟨by decide, by decide, by decide, by decide⟩ d_M_change_52 rfl rfl (Nat.le_of_ble_eq_true rfl) (fun v3 _ => ?_)
    change G Γ mkW 0 0 55 [(0, .ref a0), (1, .int x1)] [.int v3] w2.2 _
    refine g_iconst (pc := 55) (v := 1) K d_M_change_55 (by decide) ?_
    refine g_iadd (pc := 56) K d_M_change_56 ?_
    refine g_wn (fun y4 _ => ?_)
    refine g_istore_n (pc := 57) (L' := [(2, .int y4), (0, .ref a0), (1, .int x1)]) K d_M_change_57 (by decide) rfl ?_
    refine g_iconst (pc := 58) (v := 1) K d_M_change_58 (by decide) ?_
    refine g_istore_n (pc := 59) (L' := [(3, .int (1 : Int32)), (2, .int y4), (0, .ref a0), (1, .int x1)]) K d_M_change_59 (by decide) rfl ?_
    refine g_sub (L' := [(0, .ref a0), (1, .int x1), (2, .int y4), (3, .int (1 : Int32))]) [2, 3, 1, 0] rfl ?_
    exact gb_M_change_60 K S T hI 1000 w2.2 a0 x1 y4 (1 : Int32)
  · refine g_iconst (pc := 49) (v := 0) K d_M_change_49 (by decide) ?_
    exact g_iret (pc := 50) K S rfl d_M_change_50 (by decide) (by decide) rfl
def b_M_change_24 (k : Sg → Nat → Int32 → Int32 → Option (Int32 × Sg)) (σ : Sg) (a0 : Nat) (x2 : Int32) (t0 : Int32) (t1 : Int32) : Option (Int32 × Sg) := (wn (t0 + t1) (fun y5 => (k σ a0 y5 (x2 + 1))))
set_option maxRecDepth 100000 in
set_option maxHeartbeats 4000000 in
theorem gb_M_change_24 {Γ : GX} (K : Cx Γ "TapirGroupModel" prog_6_method_41_code 4 rm_M_change) (S : Std Γ (some .int)) (T : Tb Γ []) (hI : y_M_change.name = "<init>" → Ini Γ) (k : Sg → Nat → Int32 → Int32 → Option (Int32 × Sg)) (hk : ∀ (σ : Sg) (a0 : Nat) (x1 : Int32) (x2 : Int32), G Γ mkW 0 0 4 [(0, .ref a0), (1, .int x1), (2, .int x2)] [] σ (k σ a0 x1 x2)) (σ : Sg) (a0 : Nat) (x2 : Int32) (t0 : Int32) (t1 : Int32) : G Γ mkW 0 0 24 [(0, .ref a0), (2, .int x2)] [.int t1, .int t0] σ (b_M_change_24 k σ a0 x2 t0 t1) := by
  unfold b_M_change_24
  refine g_iadd (pc := 24) K d_M_change_24 ?_
  refine g_wn (fun y5 _ => ?_)
  refine g_istore_n (pc := 25) (L' := [(1, .int y5), (0, .ref a0), (2, .int x2)]) K d_M_change_25 (by decide) rfl ?_
  refine g_iinc (pc := 26) (j := 2) (v := (x2 + 1)) (L' := [(2, .int (x2 + 1)), (1, .int y5), (0, .ref a0)]) K d_M_change_26 rfl (by rfl) (by decide) rfl ?_
  refine g_goto (pc := 29) (tgt := 4) K d_M_change_29 (by decide) ?_
  refine g_sub (L' := [(0, .ref a0), (1, .int y5), (2, .int (x2 + 1))]) [2, 1, 0] rfl ?_
  exact hk σ a0 y5 (x2 + 1)
def b_M_change_4 : Nat → Sg → Nat → Int32 → Int32 → Option (Int32 × Sg)
  | 0 => fun _ _ _ _ => none
  | n + 1 => fun σ a0 x1 x2 => (if (3 : Int32) ≤ x2 then (if (2 : Int32) ≤ x1 then (b_M_change_43 σ a0 x1 a0 (0 : Int32)) else (b_M_change_43 σ a0 x1 a0 (1 : Int32))) else (if a0 < σ.1 ∧ kd a0 = 4 then rc (g_r σ a0 16) none (fun b1 => (if (b1 < σ.1 ∧ kd b1 = 11) ∧ inb x2 (ln b1) = true then (if (g_i σ b1 x2.toNatClampNeg) = 0 then (b_M_change_24 (b_M_change_4 n) σ a0 x2 x1 (0 : Int32)) else (b_M_change_24 (b_M_change_4 n) σ a0 x2 x1 (1 : Int32))) else none)) else none))
set_option maxRecDepth 100000 in
set_option maxHeartbeats 4000000 in
theorem gb_M_change_4 {Γ : GX} (K : Cx Γ "TapirGroupModel" prog_6_method_41_code 4 rm_M_change) (S : Std Γ (some .int)) (T : Tb Γ []) (hI : y_M_change.name = "<init>" → Ini Γ) (n : Nat) : ∀ (σ : Sg) (a0 : Nat) (x1 : Int32) (x2 : Int32), G Γ mkW 0 0 4 [(0, .ref a0), (1, .int x1), (2, .int x2)] [] σ (b_M_change_4 n σ a0 x1 x2) := by
  induction n with
  | zero =>
    intro σ a0 x1 x2
    exact g_none
  | succ n ih =>
    intro σ a0 x1 x2
    rw [b_M_change_4]
    refine g_iload_n (pc := 4) (j := 2) K d_M_change_4 rfl ?_
    refine g_iconst (pc := 5) (v := 3) K d_M_change_5 (by decide) ?_
    refine g_icmp_ge (pc := 6) (tgt := 32) K d_M_change_6 (by decide) (fun _ => ?_) (fun _ => ?_)
    · refine g_aload_n (pc := 32) (j := 0) K d_M_change_32 rfl ?_
      refine g_iload_n (pc := 33) (j := 1) K d_M_change_33 rfl ?_
      refine g_iconst (pc := 34) (v := 2) K d_M_change_34 (by decide) ?_
      refine g_icmp_ge (pc := 35) (tgt := 42) K d_M_change_35 (by decide) (fun _ => ?_) (fun _ => ?_)
      · refine g_iconst (pc := 42) (v := 0) K d_M_change_42 (by decide) ?_
        refine g_sub (L' := [(0, .ref a0), (1, .int x1)]) [0, 1] rfl ?_
        exact gb_M_change_43 K S T hI σ a0 x1 a0 (0 : Int32)
      · refine g_iconst (pc := 38) (v := 1) K d_M_change_38 (by decide) ?_
        refine g_goto (pc := 39) (tgt := 43) K d_M_change_39 (by decide) ?_
        refine g_sub (L' := [(0, .ref a0), (1, .int x1)]) [0, 1] rfl ?_
        exact gb_M_change_43 K S T hI σ a0 x1 a0 (1 : Int32)
    · refine g_iload_n (pc := 9) (j := 1) K d_M_change_9 rfl ?_
      refine g_aload_n (pc := 10) (j := 0) K d_M_change_10 rfl ?_
      refine g_getR (pc := 11) K fl_M_53 d_M_change_11 (fun _ => ?_) (fun b1 _ => ?_)
      · exact g_none
      · refine g_iload_n (pc := 14) (j := 2) K d_M_change_14 rfl ?_
        refine g_zald (pc := 15) K d_M_change_15 ?_
        refine g_if_eq (pc := 16) (tgt := 23) K d_M_change_16 (by decide) (fun _ => ?_) (fun _ => ?_)
        · refine g_iconst (pc := 23) (v := 0) K d_M_change_23 (by decide) ?_
          refine g_sub (L' := [(0, .ref a0), (2, .int x2)]) [0, 2] rfl ?_
          exact gb_M_change_24 K S T hI (b_M_change_4 n) ih σ a0 x2 x1 (0 : Int32)
        · refine g_iconst (pc := 19) (v := 1) K d_M_change_19 (by decide) ?_
          refine g_goto (pc := 20) (tgt := 24) K d_M_change_20 (by decide) ?_
          refine g_sub (L' := [(0, .ref a0), (2, .int x2)]) [0, 2] rfl ?_
          exact gb_M_change_24 K S T hI (b_M_change_4 n) ih σ a0 x2 x1 (1 : Int32)
def f_M_change (σ : Sg) (a0 : Nat) : Option (Int32 × Sg) := (b_M_change_4 1000 σ a0 (0 : Int32) (0 : Int32))
set_option maxRecDepth 100000 in
set_option maxHeartbeats 4000000 in
theorem k_M_change (l : Launch) (hl : l.stackTraces = false) (σ : Sg) (a0 : Nat) (r : (Int32 × Sg)) (h : f_M_change σ a0 = some r) : Con l y_M_change (.code y_M_change prog_6_method_41_code 4 (some .int)) rm_M_change [.ref a0] σ (mkW r) := by
  refine Con.of (mk := mkW) (o := f_M_change σ a0) (z := r) (L0 := [(0, .ref a0)]) (bytes := prog_6_method_41_code) (maxL := 4) (ret := (some .int)) (hh := []) hl (by decide +kernel) (Or.inl ⟨rfl, rfl⟩) (by simp [Value.category]) (Nat.le_of_ble_eq_true rfl) rfl (fun Γ K S T hI => ?_) h rfl
  unfold f_M_change
  refine g_iconst (pc := 0) (v := 0) K d_M_change_0 (by decide) ?_
  refine g_istore_n (pc := 1) (L' := [(1, .int (0 : Int32)), (0, .ref a0)]) K d_M_change_1 (by decide) rfl ?_
  refine g_iconst (pc := 2) (v := 0) K d_M_change_2 (by decide) ?_
  refine g_istore_n (pc := 3) (L' := [(2, .int (0 : Int32)), (1, .int (0 : Int32)), (0, .ref a0)]) K d_M_change_3 (by decide) rfl ?_
  refine g_sub (L' := [(0, .ref a0), (1, .int (0 : Int32)), (2, .int (0 : Int32))]) [2, 1, 0] rfl ?_
  exact gb_M_change_4 K S T hI 1000 σ a0 (0 : Int32) (0 : Int32)
