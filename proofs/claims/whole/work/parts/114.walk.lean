-- TapirGroupModel.read(III)I
def y_M_read : MethodName := ⟨"TapirGroupModel", "read", "(III)I"⟩
abbrev rm_M_read : Room := { frames := 3, cells := 0, slots := 0, locals := 63 }
theorem d_M_read_0 : decode prog_6_method_14_code 0 = .ok (.iload_n 1, 1) := by decide +kernel
theorem d_M_read_1 : decode prog_6_method_14_code 1 = .ok (.invokestatic 88, 3) := by decide +kernel
theorem d_M_read_4 : decode prog_6_method_14_code 4 = .ok (.ifCond .eq 21, 3) := by decide +kernel
theorem d_M_read_7 : decode prog_6_method_14_code 7 = .ok (.iload_n 2, 1) := by decide +kernel
theorem d_M_read_8 : decode prog_6_method_14_code 8 = .ok (.invokestatic 106, 3) := by decide +kernel
theorem d_M_read_11 : decode prog_6_method_14_code 11 = .ok (.ifCond .eq 14, 3) := by decide +kernel
theorem d_M_read_14 : decode prog_6_method_14_code 14 = .ok (.iload_n 3, 1) := by decide +kernel
theorem d_M_read_15 : decode prog_6_method_14_code 15 = .ok (.invokestatic 109, 3) := by decide +kernel
theorem d_M_read_18 : decode prog_6_method_14_code 18 = .ok (.ifCond .eq 7, 3) := by decide +kernel
theorem d_M_read_21 : decode prog_6_method_14_code 21 = .ok (.iconst 1, 1) := by decide +kernel
theorem d_M_read_22 : decode prog_6_method_14_code 22 = .ok (.goto 4, 3) := by decide +kernel
theorem d_M_read_25 : decode prog_6_method_14_code 25 = .ok (.iconst 0, 1) := by decide +kernel
theorem d_M_read_26 : decode prog_6_method_14_code 26 = .ok (.istore 4, 2) := by decide +kernel
theorem d_M_read_28 : decode prog_6_method_14_code 28 = .ok (.aload_n 0, 1) := by decide +kernel
theorem d_M_read_29 : decode prog_6_method_14_code 29 = .ok (.iload 4, 2) := by decide +kernel
theorem d_M_read_31 : decode prog_6_method_14_code 31 = .ok (.ifCond .ne 7, 3) := by decide +kernel
theorem d_M_read_34 : decode prog_6_method_14_code 34 = .ok (.iconst 1, 1) := by decide +kernel
theorem d_M_read_35 : decode prog_6_method_14_code 35 = .ok (.goto 17, 3) := by decide +kernel
theorem d_M_read_38 : decode prog_6_method_14_code 38 = .ok (.aload_n 0, 1) := by decide +kernel
theorem d_M_read_39 : decode prog_6_method_14_code 39 = .ok (.iload_n 1, 1) := by decide +kernel
theorem d_M_read_40 : decode prog_6_method_14_code 40 = .ok (.invokevirtual 112, 3) := by decide +kernel
theorem d_M_read_43 : decode prog_6_method_14_code 43 = .ok (.iconst 1, 1) := by decide +kernel
theorem d_M_read_44 : decode prog_6_method_14_code 44 = .ok (.if_icmp .eq 7, 3) := by decide +kernel
theorem d_M_read_47 : decode prog_6_method_14_code 47 = .ok (.iconst 2, 1) := by decide +kernel
theorem d_M_read_48 : decode prog_6_method_14_code 48 = .ok (.goto 4, 3) := by decide +kernel
theorem d_M_read_51 : decode prog_6_method_14_code 51 = .ok (.iconst 0, 1) := by decide +kernel
theorem d_M_read_52 : decode prog_6_method_14_code 52 = .ok (.invokevirtual 99, 3) := by decide +kernel
theorem d_M_read_55 : decode prog_6_method_14_code 55 = .ok (.ifCond .ne 5, 3) := by decide +kernel
theorem d_M_read_58 : decode prog_6_method_14_code 58 = .ok (.iconst 0, 1) := by decide +kernel
theorem d_M_read_59 : decode prog_6_method_14_code 59 = .ok (.ireturn, 1) := by decide +kernel
theorem d_M_read_60 : decode prog_6_method_14_code 60 = .ok (.aload_n 0, 1) := by decide +kernel
theorem d_M_read_61 : decode prog_6_method_14_code 61 = .ok (.getfield 37, 3) := by decide +kernel
theorem d_M_read_64 : decode prog_6_method_14_code 64 = .ok (.iload_n 1, 1) := by decide +kernel
theorem d_M_read_65 : decode prog_6_method_14_code 65 = .ok (.iaload, 1) := by decide +kernel
theorem d_M_read_66 : decode prog_6_method_14_code 66 = .ok (.istore 5, 2) := by decide +kernel
theorem d_M_read_68 : decode prog_6_method_14_code 68 = .ok (.aload_n 0, 1) := by decide +kernel
theorem d_M_read_69 : decode prog_6_method_14_code 69 = .ok (.iload 5, 2) := by decide +kernel
theorem d_M_read_71 : decode prog_6_method_14_code 71 = .ok (.iload_n 2, 1) := by decide +kernel
theorem d_M_read_72 : decode prog_6_method_14_code 72 = .ok (.iconst 0, 1) := by decide +kernel
theorem d_M_read_73 : decode prog_6_method_14_code 73 = .ok (.invokevirtual 116, 3) := by decide +kernel
theorem d_M_read_76 : decode prog_6_method_14_code 76 = .ok (.ifCond .lt 17, 3) := by decide +kernel
theorem d_M_read_79 : decode prog_6_method_14_code 79 = .ok (.aload_n 0, 1) := by decide +kernel
theorem d_M_read_80 : decode prog_6_method_14_code 80 = .ok (.getfield 31, 3) := by decide +kernel
theorem d_M_read_83 : decode prog_6_method_14_code 83 = .ok (.aload_n 0, 1) := by decide +kernel
theorem d_M_read_84 : decode prog_6_method_14_code 84 = .ok (.iload 5, 2) := by decide +kernel
theorem d_M_read_86 : decode prog_6_method_14_code 86 = .ok (.iload_n 2, 1) := by decide +kernel
theorem d_M_read_87 : decode prog_6_method_14_code 87 = .ok (.iconst 0, 1) := by decide +kernel
theorem d_M_read_88 : decode prog_6_method_14_code 88 = .ok (.invokevirtual 116, 3) := by decide +kernel
theorem d_M_read_91 : decode prog_6_method_14_code 91 = .ok (.iaload, 1) := by decide +kernel
theorem d_M_read_92 : decode prog_6_method_14_code 92 = .ok (.ireturn, 1) := by decide +kernel
theorem d_M_read_93 : decode prog_6_method_14_code 93 = .ok (.aload_n 0, 1) := by decide +kernel
theorem d_M_read_94 : decode prog_6_method_14_code 94 = .ok (.iload 5, 2) := by decide +kernel
theorem d_M_read_96 : decode prog_6_method_14_code 96 = .ok (.iload_n 2, 1) := by decide +kernel
theorem d_M_read_97 : decode prog_6_method_14_code 97 = .ok (.iconst 1, 1) := by decide +kernel
theorem d_M_read_98 : decode prog_6_method_14_code 98 = .ok (.invokevirtual 116, 3) := by decide +kernel
theorem d_M_read_101 : decode prog_6_method_14_code 101 = .ok (.ifCond .lt 17, 3) := by decide +kernel
theorem d_M_read_104 : decode prog_6_method_14_code 104 = .ok (.aload_n 0, 1) := by decide +kernel
theorem d_M_read_105 : decode prog_6_method_14_code 105 = .ok (.getfield 22, 3) := by decide +kernel
theorem d_M_read_108 : decode prog_6_method_14_code 108 = .ok (.aload_n 0, 1) := by decide +kernel
theorem d_M_read_109 : decode prog_6_method_14_code 109 = .ok (.iload 5, 2) := by decide +kernel
theorem d_M_read_111 : decode prog_6_method_14_code 111 = .ok (.iload_n 2, 1) := by decide +kernel
theorem d_M_read_112 : decode prog_6_method_14_code 112 = .ok (.iconst 1, 1) := by decide +kernel
theorem d_M_read_113 : decode prog_6_method_14_code 113 = .ok (.invokevirtual 116, 3) := by decide +kernel
theorem d_M_read_116 : decode prog_6_method_14_code 116 = .ok (.iaload, 1) := by decide +kernel
theorem d_M_read_117 : decode prog_6_method_14_code 117 = .ok (.ireturn, 1) := by decide +kernel
theorem d_M_read_118 : decode prog_6_method_14_code 118 = .ok (.aload_n 0, 1) := by decide +kernel
theorem d_M_read_119 : decode prog_6_method_14_code 119 = .ok (.aload_n 0, 1) := by decide +kernel
theorem d_M_read_120 : decode prog_6_method_14_code 120 = .ok (.iload_n 3, 1) := by decide +kernel
theorem d_M_read_121 : decode prog_6_method_14_code 121 = .ok (.invokevirtual 120, 3) := by decide +kernel
theorem d_M_read_124 : decode prog_6_method_14_code 124 = .ok (.ifCond .ne 7, 3) := by decide +kernel
theorem d_M_read_127 : decode prog_6_method_14_code 127 = .ok (.iconst 3, 1) := by decide +kernel
theorem d_M_read_128 : decode prog_6_method_14_code 128 = .ok (.goto 19, 3) := by decide +kernel
theorem d_M_read_131 : decode prog_6_method_14_code 131 = .ok (.aload_n 0, 1) := by decide +kernel
theorem d_M_read_132 : decode prog_6_method_14_code 132 = .ok (.getfield 13, 3) := by decide +kernel
theorem d_M_read_135 : decode prog_6_method_14_code 135 = .ok (.iload 5, 2) := by decide +kernel
theorem d_M_read_137 : decode prog_6_method_14_code 137 = .ok (.iaload, 1) := by decide +kernel
theorem d_M_read_138 : decode prog_6_method_14_code 138 = .ok (.iconst 4, 1) := by decide +kernel
theorem d_M_read_139 : decode prog_6_method_14_code 139 = .ok (.if_icmp .ne 7, 3) := by decide +kernel
theorem d_M_read_142 : decode prog_6_method_14_code 142 = .ok (.iconst 4, 1) := by decide +kernel
theorem d_M_read_143 : decode prog_6_method_14_code 143 = .ok (.goto 4, 3) := by decide +kernel
theorem d_M_read_146 : decode prog_6_method_14_code 146 = .ok (.iconst 0, 1) := by decide +kernel
theorem d_M_read_147 : decode prog_6_method_14_code 147 = .ok (.invokevirtual 99, 3) := by decide +kernel
theorem d_M_read_150 : decode prog_6_method_14_code 150 = .ok (.ifCond .ne 5, 3) := by decide +kernel
theorem d_M_read_153 : decode prog_6_method_14_code 153 = .ok (.iconst 0, 1) := by decide +kernel
theorem d_M_read_154 : decode prog_6_method_14_code 154 = .ok (.ireturn, 1) := by decide +kernel
theorem d_M_read_155 : decode prog_6_method_14_code 155 = .ok (.iconst 4, 1) := by decide +kernel
theorem d_M_read_156 : decode prog_6_method_14_code 156 = .ok (.iload 5, 2) := by decide +kernel
theorem d_M_read_158 : decode prog_6_method_14_code 158 = .ok (.imul, 1) := by decide +kernel
theorem d_M_read_159 : decode prog_6_method_14_code 159 = .ok (.aload_n 0, 1) := by decide +kernel
theorem d_M_read_160 : decode prog_6_method_14_code 160 = .ok (.getfield 13, 3) := by decide +kernel
theorem d_M_read_163 : decode prog_6_method_14_code 163 = .ok (.iload 5, 2) := by decide +kernel
theorem d_M_read_165 : decode prog_6_method_14_code 165 = .ok (.iaload, 1) := by decide +kernel
theorem d_M_read_166 : decode prog_6_method_14_code 166 = .ok (.iadd, 1) := by decide +kernel
theorem d_M_read_167 : decode prog_6_method_14_code 167 = .ok (.istore 6, 2) := by decide +kernel
theorem d_M_read_169 : decode prog_6_method_14_code 169 = .ok (.aload_n 0, 1) := by decide +kernel
theorem d_M_read_170 : decode prog_6_method_14_code 170 = .ok (.getfield 16, 3) := by decide +kernel
theorem d_M_read_173 : decode prog_6_method_14_code 173 = .ok (.iload 6, 2) := by decide +kernel
theorem d_M_read_175 : decode prog_6_method_14_code 175 = .ok (.iload_n 2, 1) := by decide +kernel
theorem d_M_read_176 : decode prog_6_method_14_code 176 = .ok (.iastore, 1) := by decide +kernel
theorem d_M_read_177 : decode prog_6_method_14_code 177 = .ok (.aload_n 0, 1) := by decide +kernel
theorem d_M_read_178 : decode prog_6_method_14_code 178 = .ok (.getfield 19, 3) := by decide +kernel
theorem d_M_read_181 : decode prog_6_method_14_code 181 = .ok (.iload 6, 2) := by decide +kernel
theorem d_M_read_183 : decode prog_6_method_14_code 183 = .ok (.aload_n 0, 1) := by decide +kernel
theorem d_M_read_184 : decode prog_6_method_14_code 184 = .ok (.getfield 59, 3) := by decide +kernel
theorem d_M_read_187 : decode prog_6_method_14_code 187 = .ok (.bipush 6, 2) := by decide +kernel
theorem d_M_read_189 : decode prog_6_method_14_code 189 = .ok (.iload_n 3, 1) := by decide +kernel
theorem d_M_read_190 : decode prog_6_method_14_code 190 = .ok (.imul, 1) := by decide +kernel
theorem d_M_read_191 : decode prog_6_method_14_code 191 = .ok (.iload_n 2, 1) := by decide +kernel
theorem d_M_read_192 : decode prog_6_method_14_code 192 = .ok (.iadd, 1) := by decide +kernel
theorem d_M_read_193 : decode prog_6_method_14_code 193 = .ok (.iaload, 1) := by decide +kernel
theorem d_M_read_194 : decode prog_6_method_14_code 194 = .ok (.iastore, 1) := by decide +kernel
theorem d_M_read_195 : decode prog_6_method_14_code 195 = .ok (.aload_n 0, 1) := by decide +kernel
theorem d_M_read_196 : decode prog_6_method_14_code 196 = .ok (.getfield 22, 3) := by decide +kernel
theorem d_M_read_199 : decode prog_6_method_14_code 199 = .ok (.iload 6, 2) := by decide +kernel
theorem d_M_read_201 : decode prog_6_method_14_code 201 = .ok (.aload_n 0, 1) := by decide +kernel
theorem d_M_read_202 : decode prog_6_method_14_code 202 = .ok (.getfield 62, 3) := by decide +kernel
theorem d_M_read_205 : decode prog_6_method_14_code 205 = .ok (.bipush 6, 2) := by decide +kernel
theorem d_M_read_207 : decode prog_6_method_14_code 207 = .ok (.iload_n 3, 1) := by decide +kernel
theorem d_M_read_208 : decode prog_6_method_14_code 208 = .ok (.imul, 1) := by decide +kernel
theorem d_M_read_209 : decode prog_6_method_14_code 209 = .ok (.iload_n 2, 1) := by decide +kernel
theorem d_M_read_210 : decode prog_6_method_14_code 210 = .ok (.iadd, 1) := by decide +kernel
theorem d_M_read_211 : decode prog_6_method_14_code 211 = .ok (.iaload, 1) := by decide +kernel
theorem d_M_read_212 : decode prog_6_method_14_code 212 = .ok (.iastore, 1) := by decide +kernel
theorem d_M_read_213 : decode prog_6_method_14_code 213 = .ok (.aload_n 0, 1) := by decide +kernel
theorem d_M_read_214 : decode prog_6_method_14_code 214 = .ok (.getfield 13, 3) := by decide +kernel
theorem d_M_read_217 : decode prog_6_method_14_code 217 = .ok (.iload 5, 2) := by decide +kernel
theorem d_M_read_219 : decode prog_6_method_14_code 219 = .ok (.dup2, 1) := by decide +kernel
theorem d_M_read_220 : decode prog_6_method_14_code 220 = .ok (.iaload, 1) := by decide +kernel
theorem d_M_read_221 : decode prog_6_method_14_code 221 = .ok (.iconst 1, 1) := by decide +kernel
theorem d_M_read_222 : decode prog_6_method_14_code 222 = .ok (.iadd, 1) := by decide +kernel
theorem d_M_read_223 : decode prog_6_method_14_code 223 = .ok (.iastore, 1) := by decide +kernel
theorem d_M_read_224 : decode prog_6_method_14_code 224 = .ok (.aload_n 0, 1) := by decide +kernel
theorem d_M_read_225 : decode prog_6_method_14_code 225 = .ok (.getfield 22, 3) := by decide +kernel
theorem d_M_read_228 : decode prog_6_method_14_code 228 = .ok (.iload 6, 2) := by decide +kernel
theorem d_M_read_230 : decode prog_6_method_14_code 230 = .ok (.iaload, 1) := by decide +kernel
theorem d_M_read_231 : decode prog_6_method_14_code 231 = .ok (.ireturn, 1) := by decide +kernel
theorem cn_M_read : CN y_M_read (.code y_M_read prog_6_method_14_code 7 (some .int)) prog_6_method_14_code 7 (some .int) [] 3 := ⟨Or.inl ⟨rfl, rfl⟩, mw_677, mw_5, ⟨by decide +kernel, by decide +kernel⟩, by decide +kernel⟩
def b_M_read_147  (σ : Sg) (a0 : Nat) (x2 : Int32) (x3 : Int32) (x5 : Int32) (t0 : Nat) (t1 : Int32) : Option (Int32 × Sg) := (if t0 < σ.1 ∧ kd t0 = 4 then (f_M_says σ t0 t1).bind (fun w16 => (if w16.1 = 0 then (some ((0 : Int32), w16.2)) else (if a0 < w16.2.1 ∧ kd a0 = 4 then rc (g_r w16.2 a0 3) none (fun b17 => (if (b17 < w16.2.1 ∧ kd b17 = 10) ∧ inb x5 (ln b17) = true then (wn (((4 : Int32) * x5) + (g_i w16.2 b17 x5.toNatClampNeg)) (fun y18 => (if a0 < w16.2.1 ∧ kd a0 = 4 then rc (g_r w16.2 a0 4) none (fun b19 => (if (b19 < w16.2.1 ∧ kd b19 = 10) ∧ inb y18 (ln b19) = true then (wi (s_i w16.2 b19 y18.toNatClampNeg x2) (fun s20 => (if a0 < s20.1 ∧ kd a0 = 4 then rc (g_r s20 a0 5) none (fun b21 => (if a0 < s20.1 ∧ kd a0 = 4 then rc (g_r s20 a0 18) none (fun b22 => (if (b22 < s20.1 ∧ kd b22 = 10) ∧ inb (((6 : Int32) * x3) + x2) (ln b22) = true then (if (b21 < s20.1 ∧ kd b21 = 10) ∧ inb y18 (ln b21) = true then (wi (s_i s20 b21 y18.toNatClampNeg (g_i s20 b22 (((6 : Int32) * x3) + x2).toNatClampNeg)) (fun s23 => (if a0 < s23.1 ∧ kd a0 = 4 then rc (g_r s23 a0 6) none (fun b24 => (if a0 < s23.1 ∧ kd a0 = 4 then rc (g_r s23 a0 19) none (fun b25 => (if (b25 < s23.1 ∧ kd b25 = 10) ∧ inb (((6 : Int32) * x3) + x2) (ln b25) = true then (if (b24 < s23.1 ∧ kd b24 = 10) ∧ inb y18 (ln b24) = true then (wi (s_i s23 b24 y18.toNatClampNeg (g_i s23 b25 (((6 : Int32) * x3) + x2).toNatClampNeg)) (fun s26 => (if a0 < s26.1 ∧ kd a0 = 4 then rc (g_r s26 a0 3) none (fun b27 => (if (b27 < s26.1 ∧ kd b27 = 10) ∧ inb x5 (ln b27) = true then (if (b27 < s26.1 ∧ kd b27 = 10) ∧ inb x5 (ln b27) = true then (wi (s_i s26 b27 x5.toNatClampNeg ((g_i s26 b27 x5.toNatClampNeg) + (1 : Int32))) (fun s28 => (if a0 < s28.1 ∧ kd a0 = 4 then rc (g_r s28 a0 6) none (fun b29 => (if (b29 < s28.1 ∧ kd b29 = 10) ∧ inb y18 (ln b29) = true then (some ((g_i s28 b29 y18.toNatClampNeg), s28)) else none)) else none))) else none) else none)) else none))) else none) else none)) else none)) else none))) else none) else none)) else none)) else none))) else none)) else none))) else none)) else none))) else none)
set_option maxRecDepth 100000 in
set_option maxHeartbeats 4000000 in
theorem gb_M_read_147 {Γ : GX} (K : Cx Γ "TapirGroupModel" prog_6_method_14_code 7 rm_M_read) (S : Std Γ (some .int)) (T : Tb Γ []) (hI : y_M_read.name = "<init>" → Ini Γ) (σ : Sg) (a0 : Nat) (x2 : Int32) (x3 : Int32) (x5 : Int32) (t0 : Nat) (t1 : Int32) : G Γ mkW 0 0 147 [(0, .ref a0), (2, .int x2), (3, .int x3), (5, .int x5)] [.int t1, .ref t0] σ (b_M_read_147 σ a0 x2 x3 x5 t0 t1) := by
  unfold b_M_read_147
  refine g_callV (pc := 147) (ci := 4) (a := t0) (vs := [.int t1]) (st := []) (mkc := mkW) K rfl (by decide) cn_M_says (fun l hl r hr => k_M_says l hl _ _ _ r hr) mw_666 mw_668 ms_15 ⟨by decide, by decide, by decide, by decide⟩ d_M_read_147 rfl rfl (Nat.le_of_ble_eq_true rfl) (fun w16 _ => ?_)
  change G Γ mkW 0 0 150 [(0, .ref a0), (2, .int x2), (3, .int x3), (5, .int x5)] [.int w16.1] w16.2 _
  refine g_if_ne (pc := 150) (tgt := 155) K d_M_read_150 (by decide) (fun _ => ?_) (fun _ => ?_)
  · refine g_iconst (pc := 155) (v := 4) K d_M_read_155 (by decide) ?_
    refine g_iload (pc := 156) (j := 3) K d_M_read_156 rfl ?_
    refine g_imul (pc := 158) K d_M_read_158 ?_
    refine g_aload_n (pc := 159) (j := 0) K d_M_read_159 rfl ?_
    refine g_getR (pc := 160) K fl_M_13 d_M_read_160 (fun _ => ?_) (fun b17 _ => ?_)
    · exact g_none
    · refine g_iload (pc := 163) (j := 3) K d_M_read_163 rfl ?_
      refine g_iald (pc := 165) K d_M_read_165 ?_
      refine g_iadd (pc := 166) K d_M_read_166 ?_
      refine g_wn (fun y18 _ => ?_)
      refine g_istore (pc := 167) (L' := [(6, .int y18), (0, .ref a0), (2, .int x2), (3, .int x3), (5, .int x5)]) K d_M_read_167 (by decide) rfl ?_
      refine g_aload_n (pc := 169) (j := 1) K d_M_read_169 rfl ?_
      refine g_getR (pc := 170) K fl_M_16 d_M_read_170 (fun _ => ?_) (fun b19 _ => ?_)
      · exact g_none
      · refine g_iload (pc := 173) (j := 0) K d_M_read_173 rfl ?_
        refine g_iload_n (pc := 175) (j := 2) K d_M_read_175 rfl ?_
        refine g_iast (pc := 176) K d_M_read_176 ?_
        refine g_wi (fun s20 _ => ?_)
        refine g_aload_n (pc := 177) (j := 1) K d_M_read_177 rfl ?_
        refine g_getR (pc := 178) K fl_M_19 d_M_read_178 (fun _ => ?_) (fun b21 _ => ?_)
        · exact g_none
        · refine g_iload (pc := 181) (j := 0) K d_M_read_181 rfl ?_
          refine g_aload_n (pc := 183) (j := 1) K d_M_read_183 rfl ?_
          refine g_getR (pc := 184) K fl_M_59 d_M_read_184 (fun _ => ?_) (fun b22 _ => ?_)
          · exact g_none
          · refine g_bipush (pc := 187) (v := 6) K d_M_read_187 (by decide) ?_
            refine g_iload_n (pc := 189) (j := 3) K d_M_read_189 rfl ?_
            refine g_imul (pc := 190) K d_M_read_190 ?_
            refine g_iload_n (pc := 191) (j := 2) K d_M_read_191 rfl ?_
            refine g_iadd (pc := 192) K d_M_read_192 ?_
            refine g_iald (pc := 193) K d_M_read_193 ?_
            refine g_iast (pc := 194) K d_M_read_194 ?_
            refine g_wi (fun s23 _ => ?_)
            refine g_aload_n (pc := 195) (j := 1) K d_M_read_195 rfl ?_
            refine g_getR (pc := 196) K fl_M_22 d_M_read_196 (fun _ => ?_) (fun b24 _ => ?_)
            · exact g_none
            · refine g_iload (pc := 199) (j := 0) K d_M_read_199 rfl ?_
              refine g_aload_n (pc := 201) (j := 1) K d_M_read_201 rfl ?_
              refine g_getR (pc := 202) K fl_M_62 d_M_read_202 (fun _ => ?_) (fun b25 _ => ?_)
              · exact g_none
              · refine g_bipush (pc := 205) (v := 6) K d_M_read_205 (by decide) ?_
                refine g_iload_n (pc := 207) (j := 3) K d_M_read_207 rfl ?_
                refine g_imul (pc := 208) K d_M_read_208 ?_
                refine g_iload_n (pc := 209) (j := 2) K d_M_read_209 rfl ?_
                refine g_iadd (pc := 210) K d_M_read_210 ?_
                refine g_iald (pc := 211) K d_M_read_211 ?_
                refine g_iast (pc := 212) K d_M_read_212 ?_
                refine g_wi (fun s26 _ => ?_)
                refine g_aload_n (pc := 213) (j := 1) K d_M_read_213 rfl ?_
                refine g_getR (pc := 214) K fl_M_13 d_M_read_214 (fun _ => ?_) (fun b27 _ => ?_)
                · exact g_none
                · refine g_iload (pc := 217) (j := 4) K d_M_read_217 rfl ?_
                  refine g_dup2 (pc := 219) K d_M_read_219 rfl rfl ?_
                  refine g_iald (pc := 220) K d_M_read_220 ?_
                  refine g_iconst (pc := 221) (v := 1) K d_M_read_221 (by decide) ?_
                  refine g_iadd (pc := 222) K d_M_read_222 ?_
                  refine g_iast (pc := 223) K d_M_read_223 ?_
                  refine g_wi (fun s28 _ => ?_)
                  refine g_aload_n (pc := 224) (j := 1) K d_M_read_224 rfl ?_
                  refine g_getR (pc := 225) K fl_M_22 d_M_read_225 (fun _ => ?_) (fun b29 _ => ?_)
                  · exact g_none
                  · refine g_iload (pc := 228) (j := 0) K d_M_read_228 rfl ?_
                    refine g_iald (pc := 230) K d_M_read_230 ?_
                    exact g_iret (pc := 231) K S rfl d_M_read_231 (by decide) (by decide) rfl
  · refine g_iconst (pc := 153) (v := 0) K d_M_read_153 (by decide) ?_
    exact g_iret (pc := 154) K S rfl d_M_read_154 (by decide) (by decide) rfl
def b_M_read_52  (σ : Sg) (a0 : Nat) (x1 : Int32) (x2 : Int32) (x3 : Int32) (t0 : Nat) (t1 : Int32) : Option (Int32 × Sg) := (if t0 < σ.1 ∧ kd t0 = 4 then (f_M_says σ t0 t1).bind (fun w5 => (if w5.1 = 0 then (some ((0 : Int32), w5.2)) else (if a0 < w5.2.1 ∧ kd a0 = 4 then rc (g_r w5.2 a0 11) none (fun b6 => (if (b6 < w5.2.1 ∧ kd b6 = 10) ∧ inb x1 (ln b6) = true then (wn (g_i w5.2 b6 x1.toNatClampNeg) (fun y7 => (if a0 < w5.2.1 ∧ kd a0 = 4 then (f_M_placeOf w5.2 a0 y7 x2 (0 : Int32)).bind (fun v8 => (if v8 < 0 then (if a0 < w5.2.1 ∧ kd a0 = 4 then (f_M_placeOf w5.2 a0 y7 x2 (1 : Int32)).bind (fun v9 => (if v9 < 0 then (if a0 < w5.2.1 ∧ kd a0 = 4 then (f_M_serves w5.2 a0 x3).bind (fun v10 => (if v10 = 0 then (b_M_read_147 w5.2 a0 x2 x3 y7 a0 (3 : Int32)) else (if a0 < w5.2.1 ∧ kd a0 = 4 then rc (g_r w5.2 a0 3) none (fun b11 => (if (b11 < w5.2.1 ∧ kd b11 = 10) ∧ inb y7 (ln b11) = true then (if (g_i w5.2 b11 y7.toNatClampNeg) = (4 : Int32) then (b_M_read_147 w5.2 a0 x2 x3 y7 a0 (4 : Int32)) else (b_M_read_147 w5.2 a0 x2 x3 y7 a0 (0 : Int32))) else none)) else none))) else none) else (if a0 < w5.2.1 ∧ kd a0 = 4 then rc (g_r w5.2 a0 6) none (fun b12 => (if a0 < w5.2.1 ∧ kd a0 = 4 then (f_M_placeOf w5.2 a0 y7 x2 (1 : Int32)).bind (fun v13 => (if (b12 < w5.2.1 ∧ kd b12 = 10) ∧ inb v13 (ln b12) = true then (some ((g_i w5.2 b12 v13.toNatClampNeg), w5.2)) else none)) else none)) else none))) else none) else (if a0 < w5.2.1 ∧ kd a0 = 4 then rc (g_r w5.2 a0 9) none (fun b14 => (if a0 < w5.2.1 ∧ kd a0 = 4 then (f_M_placeOf w5.2 a0 y7 x2 (0 : Int32)).bind (fun v15 => (if (b14 < w5.2.1 ∧ kd b14 = 10) ∧ inb v15 (ln b14) = true then (some ((g_i w5.2 b14 v15.toNatClampNeg), w5.2)) else none)) else none)) else none))) else none))) else none)) else none))) else none)
set_option maxRecDepth 100000 in
set_option maxHeartbeats 4000000 in
theorem gb_M_read_52 {Γ : GX} (K : Cx Γ "TapirGroupModel" prog_6_method_14_code 7 rm_M_read) (S : Std Γ (some .int)) (T : Tb Γ []) (hI : y_M_read.name = "<init>" → Ini Γ) (σ : Sg) (a0 : Nat) (x1 : Int32) (x2 : Int32) (x3 : Int32) (t0 : Nat) (t1 : Int32) : G Γ mkW 0 0 52 [(0, .ref a0), (1, .int x1), (2, .int x2), (3, .int x3)] [.int t1, .ref t0] σ (b_M_read_52 σ a0 x1 x2 x3 t0 t1) := by
  unfold b_M_read_52
  refine g_callV (pc := 52) (ci := 4) (a := t0) (vs := [.int t1]) (st := []) (mkc := mkW) K rfl (by decide) cn_M_says (fun l hl r hr => k_M_says l hl _ _ _ r hr) mw_666 mw_668 ms_15 ⟨by decide, by decide, by decide, by decide⟩ d_M_read_52 rfl rfl (Nat.le_of_ble_eq_true rfl) (fun w5 _ => ?_)
  change G Γ mkW 0 0 55 [(0, .ref a0), (1, .int x1), (2, .int x2), (3, .int x3)] [.int w5.1] w5.2 _
  refine g_if_ne (pc := 55) (tgt := 60) K d_M_read_55 (by decide) (fun _ => ?_) (fun _ => ?_)
  · refine g_aload_n (pc := 60) (j := 0) K d_M_read_60 rfl ?_
    refine g_getR (pc := 61) K fl_M_37 d_M_read_61 (fun _ => ?_) (fun b6 _ => ?_)
    · exact g_none
    · refine g_iload_n (pc := 64) (j := 1) K d_M_read_64 rfl ?_
      refine g_iald (pc := 65) K d_M_read_65 ?_
      refine g_wn (fun y7 _ => ?_)
      refine g_istore (pc := 66) (L' := [(5, .int y7), (0, .ref a0), (1, .int x1), (2, .int x2), (3, .int x3)]) K d_M_read_66 (by decide) rfl ?_
      refine g_aload_n (pc := 68) (j := 1) K d_M_read_68 rfl ?_
      refine g_iload (pc := 69) (j := 0) K d_M_read_69 rfl ?_
      refine g_iload_n (pc := 71) (j := 3) K d_M_read_71 rfl ?_
      refine g_iconst (pc := 72) (v := 0) K d_M_read_72 (by decide) ?_
      refine g_callV (pc := 73) (ci := 4) (a := a0) (vs := [.int y7, .int x2, .int (0 : Int32)]) (st := []) (mkc := mkI w5.2) K rfl (by decide) cn_M_placeOf (fun l hl r hr => k_M_placeOf l hl _ _ _ _ _ r hr) mw_688 mw_690 ms_18 ⟨by decide, by decide, by decide, by decide⟩ d_M_read_73 rfl rfl (Nat.le_of_ble_eq_true rfl) (fun v8 _ => ?_)
      change G Γ mkW 0 0 76 [(5, .int y7), (0, .ref a0), (1, .int x1), (2, .int x2), (3, .int x3)] [.int v8] w5.2 _
      refine g_if_lt (pc := 76) (tgt := 93) K d_M_read_76 (by decide) (fun _ => ?_) (fun _ => ?_)
      · refine g_aload_n (pc := 93) (j := 1) K d_M_read_93 rfl ?_
        refine g_iload (pc := 94) (j := 0) K d_M_read_94 rfl ?_
        refine g_iload_n (pc := 96) (j := 3) K d_M_read_96 rfl ?_
        refine g_iconst (pc := 97) (v := 1) K d_M_read_97 (by decide) ?_
        refine g_callV (pc := 98) (ci := 4) (a := a0) (vs := [.int y7, .int x2, .int (1 : Int32)]) (st := []) (mkc := mkI w5.2) K rfl (by decide) cn_M_placeOf (fun l hl r hr => k_M_placeOf l hl _ _ _ _ _ r hr) mw_688 mw_690 ms_18 ⟨by decide, by decide, by decide, by decide⟩ d_M_read_98 rfl rfl (Nat.le_of_ble_eq_true rfl) (fun v9 _ => ?_)
        change G Γ mkW 0 0 101 [(5, .int y7), (0, .ref a0), (1, .int x1), (2, .int x2), (3, .int x3)] [.int v9] w5.2 _
        refine g_if_lt (pc := 101) (tgt := 118) K d_M_read_101 (by decide) (fun _ => ?_) (fun _ => ?_)
        · refine g_aload_n (pc := 118) (j := 1) K d_M_read_118 rfl ?_
          refine g_aload_n (pc := 119) (j := 1) K d_M_read_119 rfl ?_
          refine g_iload_n (pc := 120) (j := 4) K d_M_read_120 rfl ?_
          refine g_callV (pc := 121) (ci := 4) (a := a0) (vs := [.int x3]) (st := [.ref a0]) (mkc := mkI w5.2) K rfl (by decide) cn_M_serves (fun l hl r hr => k_M_serves l hl _ _ _ r hr) mw_692 mw_694 ms_19 ⟨by decide, by decide, by decide, by decide⟩ d_M_read_121 rfl rfl (Nat.le_of_ble_eq_true rfl) (fun v10 _ => ?_)
          change G Γ mkW 0 0 124 [(5, .int y7), (0, .ref a0), (1, .int x1), (2, .int x2), (3, .int x3)] [.int v10, .ref a0] w5.2 _
          refine g_if_ne (pc := 124) (tgt := 131) K d_M_read_124 (by decide) (fun _ => ?_) (fun _ => ?_)
          · refine g_aload_n (pc := 131) (j := 1) K d_M_read_131 rfl ?_
            refine g_getR (pc := 132) K fl_M_13 d_M_read_132 (fun _ => ?_) (fun b11 _ => ?_)
            · exact g_none
            · refine g_iload (pc := 135) (j := 0) K d_M_read_135 rfl ?_
              refine g_iald (pc := 137) K d_M_read_137 ?_
              refine g_iconst (pc := 138) (v := 4) K d_M_read_138 (by decide) ?_
              refine g_icmp_ne (pc := 139) (tgt := 146) K d_M_read_139 (by decide) (fun _ => ?_) (fun _ => ?_)
              · refine g_iconst (pc := 146) (v := 0) K d_M_read_146 (by decide) ?_
                refine g_sub (L' := [(0, .ref a0), (2, .int x2), (3, .int x3), (5, .int y7)]) [1, 3, 4, 0] rfl ?_
                exact gb_M_read_147 K S T hI w5.2 a0 x2 x3 y7 a0 (0 : Int32)
              · refine g_iconst (pc := 142) (v := 4) K d_M_read_142 (by decide) ?_
                refine g_goto (pc := 143) (tgt := 147) K d_M_read_143 (by decide) ?_
                refine g_sub (L' := [(0, .ref a0), (2, .int x2), (3, .int x3), (5, .int y7)]) [1, 3, 4, 0] rfl ?_
                exact gb_M_read_147 K S T hI w5.2 a0 x2 x3 y7 a0 (4 : Int32)
          · refine g_iconst (pc := 127) (v := 3) K d_M_read_127 (by decide) ?_
            refine g_goto (pc := 128) (tgt := 147) K d_M_read_128 (by decide) ?_
            refine g_sub (L' := [(0, .ref a0), (2, .int x2), (3, .int x3), (5, .int y7)]) [1, 3, 4, 0] rfl ?_
            exact gb_M_read_147 K S T hI w5.2 a0 x2 x3 y7 a0 (3 : Int32)
        · refine g_aload_n (pc := 104) (j := 1) K d_M_read_104 rfl ?_
          refine g_getR (pc := 105) K fl_M_22 d_M_read_105 (fun _ => ?_) (fun b12 _ => ?_)
          · exact g_none
          · refine g_aload_n (pc := 108) (j := 1) K d_M_read_108 rfl ?_
            refine g_iload (pc := 109) (j := 0) K d_M_read_109 rfl ?_
            refine g_iload_n (pc := 111) (j := 3) K d_M_read_111 rfl ?_
            refine g_iconst (pc := 112) (v := 1) K d_M_read_112 (by decide) ?_
            refine g_callV (pc := 113) (ci := 4) (a := a0) (vs := [.int y7, .int x2, .int (1 : Int32)]) (st := [.ref b12]) (mkc := mkI w5.2) K rfl (by decide) cn_M_placeOf (fun l hl r hr => k_M_placeOf l hl _ _ _ _ _ r hr) mw_688 mw_690 ms_18 ⟨by decide, by decide, by decide, by decide⟩ d_M_read_113 rfl rfl (Nat.le_of_ble_eq_true rfl) (fun v13 _ => ?_)
            change G Γ mkW 0 0 116 [(5, .int y7), (0, .ref a0), (1, .int x1), (2, .int x2), (3, .int x3)] [.int v13, .ref b12] w5.2 _
            refine g_iald (pc := 116) K d_M_read_116 ?_
            exact g_iret (pc := 117) K S rfl d_M_read_117 (by decide) (by decide) rfl
      · refine g_aload_n (pc := 79) (j := 1) K d_M_read_79 rfl ?_
        refine g_getR (pc := 80) K fl_M_31 d_M_read_80 (fun _ => ?_) (fun b14 _ => ?_)
        · exact g_none
        · refine g_aload_n (pc := 83) (j := 1) K d_M_read_83 rfl ?_
          refine g_iload (pc := 84) (j := 0) K d_M_read_84 rfl ?_
          refine g_iload_n (pc := 86) (j := 3) K d_M_read_86 rfl ?_
          refine g_iconst (pc := 87) (v := 0) K d_M_read_87 (by decide) ?_
          refine g_callV (pc := 88) (ci := 4) (a := a0) (vs := [.int y7, .int x2, .int (0 : Int32)]) (st := [.ref b14]) (mkc := mkI w5.2) K rfl (by decide) cn_M_placeOf (fun l hl r hr => k_M_placeOf l hl _ _ _ _ _ r hr) mw_688 mw_690 ms_18 ⟨by decide, by decide, by decide, by decide⟩ d_M_read_88 rfl rfl (Nat.le_of_ble_eq_true rfl) (fun v15 _ => ?_)
          change G Γ mkW 0 0 91 [(5, .int y7), (0, .ref a0), (1, .int x1), (2, .int x2), (3, .int x3)] [.int v15, .ref b14] w5.2 _
          refine g_iald (pc := 91) K d_M_read_91 ?_
          exact g_iret (pc := 92) K S rfl d_M_read_92 (by decide) (by decide) rfl
  · refine g_iconst (pc := 58) (v := 0) K d_M_read_58 (by decide) ?_
    exact g_iret (pc := 59) K S rfl d_M_read_59 (by decide) (by decide) rfl
def b_M_read_26  (σ : Sg) (a0 : Nat) (x1 : Int32) (x2 : Int32) (x3 : Int32) (t0 : Int32) : Option (Int32 × Sg) := (if t0 = 0 then (b_M_read_52 σ a0 x1 x2 x3 a0 (1 : Int32)) else (if a0 < σ.1 ∧ kd a0 = 4 then (f_M_stateOf σ a0 x1).bind (fun v4 => (if v4 = (1 : Int32) then (b_M_read_52 σ a0 x1 x2 x3 a0 (0 : Int32)) else (b_M_read_52 σ a0 x1 x2 x3 a0 (2 : Int32)))) else none))
set_option maxRecDepth 100000 in
set_option maxHeartbeats 4000000 in
theorem gb_M_read_26 {Γ : GX} (K : Cx Γ "TapirGroupModel" prog_6_method_14_code 7 rm_M_read) (S : Std Γ (some .int)) (T : Tb Γ []) (hI : y_M_read.name = "<init>" → Ini Γ) (σ : Sg) (a0 : Nat) (x1 : Int32) (x2 : Int32) (x3 : Int32) (t0 : Int32) : G Γ mkW 0 0 26 [(0, .ref a0), (1, .int x1), (2, .int x2), (3, .int x3)] [.int t0] σ (b_M_read_26 σ a0 x1 x2 x3 t0) := by
  unfold b_M_read_26
  refine g_istore (pc := 26) (L' := [(4, .int t0), (0, .ref a0), (1, .int x1), (2, .int x2), (3, .int x3)]) K d_M_read_26 (by decide) rfl ?_
  refine g_aload_n (pc := 28) (j := 1) K d_M_read_28 rfl ?_
  refine g_iload (pc := 29) (j := 0) K d_M_read_29 rfl ?_
  refine g_if_ne (pc := 31) (tgt := 38) K d_M_read_31 (by decide) (fun _ => ?_) (fun _ => ?_)
  · refine g_aload_n (pc := 38) (j := 1) K d_M_read_38 rfl ?_
    refine g_iload_n (pc := 39) (j := 2) K d_M_read_39 rfl ?_
    refine g_callV (pc := 40) (ci := 4) (a := a0) (vs := [.int x1]) (st := [.ref a0]) (mkc := mkI σ) K rfl (by decide) cn_M_stateOf (fun l hl r hr => k_M_stateOf l hl _ _ _ r hr) mw_684 mw_686 ms_17 ⟨by decide, by decide, by decide, by decide⟩ d_M_read_40 rfl rfl (Nat.le_of_ble_eq_true rfl) (fun v4 _ => ?_)
    change G Γ mkW 0 0 43 [(4, .int t0), (0, .ref a0), (1, .int x1), (2, .int x2), (3, .int x3)] [.int v4, .ref a0] σ _
    refine g_iconst (pc := 43) (v := 1) K d_M_read_43 (by decide) ?_
    refine g_icmp_eq (pc := 44) (tgt := 51) K d_M_read_44 (by decide) (fun _ => ?_) (fun _ => ?_)
    · refine g_iconst (pc := 51) (v := 0) K d_M_read_51 (by decide) ?_
      refine g_sub (L' := [(0, .ref a0), (1, .int x1), (2, .int x2), (3, .int x3)]) [1, 2, 3, 4] rfl ?_
      exact gb_M_read_52 K S T hI σ a0 x1 x2 x3 a0 (0 : Int32)
    · refine g_iconst (pc := 47) (v := 2) K d_M_read_47 (by decide) ?_
      refine g_goto (pc := 48) (tgt := 52) K d_M_read_48 (by decide) ?_
      refine g_sub (L' := [(0, .ref a0), (1, .int x1), (2, .int x2), (3, .int x3)]) [1, 2, 3, 4] rfl ?_
      exact gb_M_read_52 K S T hI σ a0 x1 x2 x3 a0 (2 : Int32)
  · refine g_iconst (pc := 34) (v := 1) K d_M_read_34 (by decide) ?_
    refine g_goto (pc := 35) (tgt := 52) K d_M_read_35 (by decide) ?_
    refine g_sub (L' := [(0, .ref a0), (1, .int x1), (2, .int x2), (3, .int x3)]) [1, 2, 3, 4] rfl ?_
    exact gb_M_read_52 K S T hI σ a0 x1 x2 x3 a0 (1 : Int32)
def b_M_read_25  (σ : Sg) (a0 : Nat) (x1 : Int32) (x2 : Int32) (x3 : Int32) : Option (Int32 × Sg) := (b_M_read_26 σ a0 x1 x2 x3 (0 : Int32))
set_option maxRecDepth 100000 in
set_option maxHeartbeats 4000000 in
theorem gb_M_read_25 {Γ : GX} (K : Cx Γ "TapirGroupModel" prog_6_method_14_code 7 rm_M_read) (S : Std Γ (some .int)) (T : Tb Γ []) (hI : y_M_read.name = "<init>" → Ini Γ) (σ : Sg) (a0 : Nat) (x1 : Int32) (x2 : Int32) (x3 : Int32) : G Γ mkW 0 0 25 [(0, .ref a0), (1, .int x1), (2, .int x2), (3, .int x3)] [] σ (b_M_read_25 σ a0 x1 x2 x3) := by
  unfold b_M_read_25
  refine g_iconst (pc := 25) (v := 0) K d_M_read_25 (by decide) ?_
  exact gb_M_read_26 K S T hI σ a0 x1 x2 x3 (0 : Int32)
def f_M_read (σ : Sg) (a0 : Nat) (x1 : Int32) (x2 : Int32) (x3 : Int32) : Option (Int32 × Sg) := ((f_M_isClient σ x1).bind (fun v1 => (if v1 = 0 then (b_M_read_25 σ a0 x1 x2 x3) else ((f_M_isKey σ x2).bind (fun v2 => (if v2 = 0 then (b_M_read_25 σ a0 x1 x2 x3) else ((f_M_isReplica σ x3).bind (fun v3 => (if v3 = 0 then (b_M_read_25 σ a0 x1 x2 x3) else (b_M_read_26 σ a0 x1 x2 x3 (1 : Int32)))))))))))
set_option maxRecDepth 100000 in
set_option maxHeartbeats 4000000 in
theorem k_M_read (l : Launch) (hl : l.stackTraces = false) (σ : Sg) (a0 : Nat) (x1 : Int32) (x2 : Int32) (x3 : Int32) (r : (Int32 × Sg)) (h : f_M_read σ a0 x1 x2 x3 = some r) : Con l y_M_read (.code y_M_read prog_6_method_14_code 7 (some .int)) rm_M_read [.ref a0, .int x1, .int x2, .int x3] σ (mkW r) := by
  refine Con.of (mk := mkW) (o := f_M_read σ a0 x1 x2 x3) (z := r) (L0 := [(0, .ref a0), (1, .int x1), (2, .int x2), (3, .int x3)]) (bytes := prog_6_method_14_code) (maxL := 7) (ret := (some .int)) (hh := []) hl (by decide +kernel) (Or.inl ⟨rfl, rfl⟩) (by simp [Value.category]) (Nat.le_of_ble_eq_true rfl) rfl (fun Γ K S T hI => ?_) h rfl
  unfold f_M_read
  refine g_iload_n (pc := 0) (j := 1) K d_M_read_0 rfl ?_
  refine g_callS (pc := 1) (vs := [.int x1]) (st := []) (mkc := mkI σ) K cn_M_isClient (fun l hl r hr => k_M_isClient l hl _ _ r hr) mw_660 mw_661 ⟨by decide, by decide, by decide, by decide⟩ d_M_read_1 rfl rfl (Nat.le_of_ble_eq_true rfl) (fun v1 _ => ?_)
  change G Γ mkW 0 0 4 [(0, .ref a0), (1, .int x1), (2, .int x2), (3, .int x3)] [.int v1] σ _
  refine g_if_eq (pc := 4) (tgt := 25) K d_M_read_4 (by decide) (fun _ => ?_) (fun _ => ?_)
  · exact gb_M_read_25 K S T hI σ a0 x1 x2 x3
  · refine g_iload_n (pc := 7) (j := 2) K d_M_read_7 rfl ?_
    refine g_callS (pc := 8) (vs := [.int x2]) (st := []) (mkc := mkI σ) K cn_M_isKey (fun l hl r hr => k_M_isKey l hl _ _ r hr) mw_678 mw_679 ⟨by decide, by decide, by decide, by decide⟩ d_M_read_8 rfl rfl (Nat.le_of_ble_eq_true rfl) (fun v2 _ => ?_)
    change G Γ mkW 0 0 11 [(0, .ref a0), (1, .int x1), (2, .int x2), (3, .int x3)] [.int v2] σ _
    refine g_if_eq (pc := 11) (tgt := 25) K d_M_read_11 (by decide) (fun _ => ?_) (fun _ => ?_)
    · exact gb_M_read_25 K S T hI σ a0 x1 x2 x3
    · refine g_iload_n (pc := 14) (j := 3) K d_M_read_14 rfl ?_
      refine g_callS (pc := 15) (vs := [.int x3]) (st := []) (mkc := mkI σ) K cn_M_isReplica (fun l hl r hr => k_M_isReplica l hl _ _ r hr) mw_681 mw_682 ⟨by decide, by decide, by decide, by decide⟩ d_M_read_15 rfl rfl (Nat.le_of_ble_eq_true rfl) (fun v3 _ => ?_)
      change G Γ mkW 0 0 18 [(0, .ref a0), (1, .int x1), (2, .int x2), (3, .int x3)] [.int v3] σ _
      refine g_if_eq (pc := 18) (tgt := 25) K d_M_read_18 (by decide) (fun _ => ?_) (fun _ => ?_)
      · exact gb_M_read_25 K S T hI σ a0 x1 x2 x3
      · refine g_iconst (pc := 21) (v := 1) K d_M_read_21 (by decide) ?_
        refine g_goto (pc := 22) (tgt := 26) K d_M_read_22 (by decide) ?_
        exact gb_M_read_26 K S T hI σ a0 x1 x2 x3 (1 : Int32)
