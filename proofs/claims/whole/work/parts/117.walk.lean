-- TapirGroupModel.check(II)I
def y_M_check : MethodName := ⟨"TapirGroupModel", "check", "(II)I"⟩
abbrev rm_M_check : Room := { frames := 2, cells := 0, slots := 0, locals := 49 }
theorem d_M_check_0 : decode prog_6_method_20_code 0 = .ok (.iconst 0, 1) := by decide +kernel
theorem d_M_check_1 : decode prog_6_method_20_code 1 = .ok (.istore_n 3, 1) := by decide +kernel
theorem d_M_check_2 : decode prog_6_method_20_code 2 = .ok (.iconst 0, 1) := by decide +kernel
theorem d_M_check_3 : decode prog_6_method_20_code 3 = .ok (.istore 4, 2) := by decide +kernel
theorem d_M_check_5 : decode prog_6_method_20_code 5 = .ok (.iconst 0, 1) := by decide +kernel
theorem d_M_check_6 : decode prog_6_method_20_code 6 = .ok (.istore 5, 2) := by decide +kernel
theorem d_M_check_8 : decode prog_6_method_20_code 8 = .ok (.iconst 4, 1) := by decide +kernel
theorem d_M_check_9 : decode prog_6_method_20_code 9 = .ok (.iload_n 1, 1) := by decide +kernel
theorem d_M_check_10 : decode prog_6_method_20_code 10 = .ok (.imul, 1) := by decide +kernel
theorem d_M_check_11 : decode prog_6_method_20_code 11 = .ok (.istore 6, 2) := by decide +kernel
theorem d_M_check_13 : decode prog_6_method_20_code 13 = .ok (.iload 6, 2) := by decide +kernel
theorem d_M_check_15 : decode prog_6_method_20_code 15 = .ok (.iconst 4, 1) := by decide +kernel
theorem d_M_check_16 : decode prog_6_method_20_code 16 = .ok (.iload_n 1, 1) := by decide +kernel
theorem d_M_check_17 : decode prog_6_method_20_code 17 = .ok (.imul, 1) := by decide +kernel
theorem d_M_check_18 : decode prog_6_method_20_code 18 = .ok (.aload_n 0, 1) := by decide +kernel
theorem d_M_check_19 : decode prog_6_method_20_code 19 = .ok (.getfield 13, 3) := by decide +kernel
theorem d_M_check_22 : decode prog_6_method_20_code 22 = .ok (.iload_n 1, 1) := by decide +kernel
theorem d_M_check_23 : decode prog_6_method_20_code 23 = .ok (.iaload, 1) := by decide +kernel
theorem d_M_check_24 : decode prog_6_method_20_code 24 = .ok (.iadd, 1) := by decide +kernel
theorem d_M_check_25 : decode prog_6_method_20_code 25 = .ok (.if_icmp .ge 90, 3) := by decide +kernel
theorem d_M_check_28 : decode prog_6_method_20_code 28 = .ok (.iload_n 3, 1) := by decide +kernel
theorem d_M_check_29 : decode prog_6_method_20_code 29 = .ok (.ifCond .ne 46, 3) := by decide +kernel
theorem d_M_check_32 : decode prog_6_method_20_code 32 = .ok (.aload_n 0, 1) := by decide +kernel
theorem d_M_check_33 : decode prog_6_method_20_code 33 = .ok (.getfield 59, 3) := by decide +kernel
theorem d_M_check_36 : decode prog_6_method_20_code 36 = .ok (.bipush 6, 2) := by decide +kernel
theorem d_M_check_38 : decode prog_6_method_20_code 38 = .ok (.iload_n 2, 1) := by decide +kernel
theorem d_M_check_39 : decode prog_6_method_20_code 39 = .ok (.imul, 1) := by decide +kernel
theorem d_M_check_40 : decode prog_6_method_20_code 40 = .ok (.aload_n 0, 1) := by decide +kernel
theorem d_M_check_41 : decode prog_6_method_20_code 41 = .ok (.getfield 16, 3) := by decide +kernel
theorem d_M_check_44 : decode prog_6_method_20_code 44 = .ok (.iload 6, 2) := by decide +kernel
theorem d_M_check_46 : decode prog_6_method_20_code 46 = .ok (.iaload, 1) := by decide +kernel
theorem d_M_check_47 : decode prog_6_method_20_code 47 = .ok (.iadd, 1) := by decide +kernel
theorem d_M_check_48 : decode prog_6_method_20_code 48 = .ok (.iaload, 1) := by decide +kernel
theorem d_M_check_49 : decode prog_6_method_20_code 49 = .ok (.aload_n 0, 1) := by decide +kernel
theorem d_M_check_50 : decode prog_6_method_20_code 50 = .ok (.getfield 19, 3) := by decide +kernel
theorem d_M_check_53 : decode prog_6_method_20_code 53 = .ok (.iload 6, 2) := by decide +kernel
theorem d_M_check_55 : decode prog_6_method_20_code 55 = .ok (.iaload, 1) := by decide +kernel
theorem d_M_check_56 : decode prog_6_method_20_code 56 = .ok (.if_icmp .gt 19, 3) := by decide +kernel
theorem d_M_check_59 : decode prog_6_method_20_code 59 = .ok (.aload_n 0, 1) := by decide +kernel
theorem d_M_check_60 : decode prog_6_method_20_code 60 = .ok (.getfield 19, 3) := by decide +kernel
theorem d_M_check_63 : decode prog_6_method_20_code 63 = .ok (.iload 6, 2) := by decide +kernel
theorem d_M_check_65 : decode prog_6_method_20_code 65 = .ok (.iaload, 1) := by decide +kernel
theorem d_M_check_66 : decode prog_6_method_20_code 66 = .ok (.aload_n 0, 1) := by decide +kernel
theorem d_M_check_67 : decode prog_6_method_20_code 67 = .ok (.getfield 7, 3) := by decide +kernel
theorem d_M_check_70 : decode prog_6_method_20_code 70 = .ok (.iload_n 1, 1) := by decide +kernel
theorem d_M_check_71 : decode prog_6_method_20_code 71 = .ok (.iaload, 1) := by decide +kernel
theorem d_M_check_72 : decode prog_6_method_20_code 72 = .ok (.if_icmp .lt 7, 3) := by decide +kernel
theorem d_M_check_75 : decode prog_6_method_20_code 75 = .ok (.iconst 1, 1) := by decide +kernel
theorem d_M_check_76 : decode prog_6_method_20_code 76 = .ok (.goto 4, 3) := by decide +kernel
theorem d_M_check_79 : decode prog_6_method_20_code 79 = .ok (.iconst 0, 1) := by decide +kernel
theorem d_M_check_80 : decode prog_6_method_20_code 80 = .ok (.istore_n 3, 1) := by decide +kernel
theorem d_M_check_81 : decode prog_6_method_20_code 81 = .ok (.iload 4, 2) := by decide +kernel
theorem d_M_check_83 : decode prog_6_method_20_code 83 = .ok (.ifCond .ne 19, 3) := by decide +kernel
theorem d_M_check_86 : decode prog_6_method_20_code 86 = .ok (.aload_n 0, 1) := by decide +kernel
theorem d_M_check_87 : decode prog_6_method_20_code 87 = .ok (.iload_n 1, 1) := by decide +kernel
theorem d_M_check_88 : decode prog_6_method_20_code 88 = .ok (.aload_n 0, 1) := by decide +kernel
theorem d_M_check_89 : decode prog_6_method_20_code 89 = .ok (.getfield 16, 3) := by decide +kernel
theorem d_M_check_92 : decode prog_6_method_20_code 92 = .ok (.iload 6, 2) := by decide +kernel
theorem d_M_check_94 : decode prog_6_method_20_code 94 = .ok (.iaload, 1) := by decide +kernel
theorem d_M_check_95 : decode prog_6_method_20_code 95 = .ok (.iload_n 2, 1) := by decide +kernel
theorem d_M_check_96 : decode prog_6_method_20_code 96 = .ok (.invokevirtual 128, 3) := by decide +kernel
theorem d_M_check_99 : decode prog_6_method_20_code 99 = .ok (.ifCond .eq 7, 3) := by decide +kernel
theorem d_M_check_102 : decode prog_6_method_20_code 102 = .ok (.iconst 1, 1) := by decide +kernel
theorem d_M_check_103 : decode prog_6_method_20_code 103 = .ok (.goto 4, 3) := by decide +kernel
theorem d_M_check_106 : decode prog_6_method_20_code 106 = .ok (.iconst 0, 1) := by decide +kernel
theorem d_M_check_107 : decode prog_6_method_20_code 107 = .ok (.istore 4, 2) := by decide +kernel
theorem d_M_check_109 : decode prog_6_method_20_code 109 = .ok (.iinc 6 1, 3) := by decide +kernel
theorem d_M_check_112 : decode prog_6_method_20_code 112 = .ok (.goto (-99), 3) := by decide +kernel
theorem d_M_check_115 : decode prog_6_method_20_code 115 = .ok (.iconst 4, 1) := by decide +kernel
theorem d_M_check_116 : decode prog_6_method_20_code 116 = .ok (.iload_n 1, 1) := by decide +kernel
theorem d_M_check_117 : decode prog_6_method_20_code 117 = .ok (.imul, 1) := by decide +kernel
theorem d_M_check_118 : decode prog_6_method_20_code 118 = .ok (.istore 6, 2) := by decide +kernel
theorem d_M_check_120 : decode prog_6_method_20_code 120 = .ok (.iload 6, 2) := by decide +kernel
theorem d_M_check_122 : decode prog_6_method_20_code 122 = .ok (.iconst 4, 1) := by decide +kernel
theorem d_M_check_123 : decode prog_6_method_20_code 123 = .ok (.iload_n 1, 1) := by decide +kernel
theorem d_M_check_124 : decode prog_6_method_20_code 124 = .ok (.imul, 1) := by decide +kernel
theorem d_M_check_125 : decode prog_6_method_20_code 125 = .ok (.aload_n 0, 1) := by decide +kernel
theorem d_M_check_126 : decode prog_6_method_20_code 126 = .ok (.getfield 25, 3) := by decide +kernel
theorem d_M_check_129 : decode prog_6_method_20_code 129 = .ok (.iload_n 1, 1) := by decide +kernel
theorem d_M_check_130 : decode prog_6_method_20_code 130 = .ok (.iaload, 1) := by decide +kernel
theorem d_M_check_131 : decode prog_6_method_20_code 131 = .ok (.iadd, 1) := by decide +kernel
theorem d_M_check_132 : decode prog_6_method_20_code 132 = .ok (.if_icmp .ge 63, 3) := by decide +kernel
theorem d_M_check_135 : decode prog_6_method_20_code 135 = .ok (.iload 5, 2) := by decide +kernel
theorem d_M_check_137 : decode prog_6_method_20_code 137 = .ok (.ifCond .ne 45, 3) := by decide +kernel
theorem d_M_check_140 : decode prog_6_method_20_code 140 = .ok (.aload_n 0, 1) := by decide +kernel
theorem d_M_check_141 : decode prog_6_method_20_code 141 = .ok (.iload_n 1, 1) := by decide +kernel
theorem d_M_check_142 : decode prog_6_method_20_code 142 = .ok (.aload_n 0, 1) := by decide +kernel
theorem d_M_check_143 : decode prog_6_method_20_code 143 = .ok (.getfield 28, 3) := by decide +kernel
theorem d_M_check_146 : decode prog_6_method_20_code 146 = .ok (.iload 6, 2) := by decide +kernel
theorem d_M_check_148 : decode prog_6_method_20_code 148 = .ok (.iaload, 1) := by decide +kernel
theorem d_M_check_149 : decode prog_6_method_20_code 149 = .ok (.iload_n 2, 1) := by decide +kernel
theorem d_M_check_150 : decode prog_6_method_20_code 150 = .ok (.invokevirtual 131, 3) := by decide +kernel
theorem d_M_check_153 : decode prog_6_method_20_code 153 = .ok (.ifCond .ne 29, 3) := by decide +kernel
theorem d_M_check_156 : decode prog_6_method_20_code 156 = .ok (.aload_n 0, 1) := by decide +kernel
theorem d_M_check_157 : decode prog_6_method_20_code 157 = .ok (.getfield 59, 3) := by decide +kernel
theorem d_M_check_160 : decode prog_6_method_20_code 160 = .ok (.bipush 6, 2) := by decide +kernel
theorem d_M_check_162 : decode prog_6_method_20_code 162 = .ok (.iload_n 2, 1) := by decide +kernel
theorem d_M_check_163 : decode prog_6_method_20_code 163 = .ok (.imul, 1) := by decide +kernel
theorem d_M_check_164 : decode prog_6_method_20_code 164 = .ok (.aload_n 0, 1) := by decide +kernel
theorem d_M_check_165 : decode prog_6_method_20_code 165 = .ok (.getfield 28, 3) := by decide +kernel
theorem d_M_check_168 : decode prog_6_method_20_code 168 = .ok (.iload 6, 2) := by decide +kernel
theorem d_M_check_170 : decode prog_6_method_20_code 170 = .ok (.iaload, 1) := by decide +kernel
theorem d_M_check_171 : decode prog_6_method_20_code 171 = .ok (.iadd, 1) := by decide +kernel
theorem d_M_check_172 : decode prog_6_method_20_code 172 = .ok (.iaload, 1) := by decide +kernel
theorem d_M_check_173 : decode prog_6_method_20_code 173 = .ok (.aload_n 0, 1) := by decide +kernel
theorem d_M_check_174 : decode prog_6_method_20_code 174 = .ok (.getfield 7, 3) := by decide +kernel
theorem d_M_check_177 : decode prog_6_method_20_code 177 = .ok (.iload_n 1, 1) := by decide +kernel
theorem d_M_check_178 : decode prog_6_method_20_code 178 = .ok (.iaload, 1) := by decide +kernel
theorem d_M_check_179 : decode prog_6_method_20_code 179 = .ok (.if_icmp .le 7, 3) := by decide +kernel
theorem d_M_check_182 : decode prog_6_method_20_code 182 = .ok (.iconst 1, 1) := by decide +kernel
theorem d_M_check_183 : decode prog_6_method_20_code 183 = .ok (.goto 4, 3) := by decide +kernel
theorem d_M_check_186 : decode prog_6_method_20_code 186 = .ok (.iconst 0, 1) := by decide +kernel
theorem d_M_check_187 : decode prog_6_method_20_code 187 = .ok (.istore 5, 2) := by decide +kernel
theorem d_M_check_189 : decode prog_6_method_20_code 189 = .ok (.iinc 6 1, 3) := by decide +kernel
theorem d_M_check_192 : decode prog_6_method_20_code 192 = .ok (.goto (-72), 3) := by decide +kernel
theorem d_M_check_195 : decode prog_6_method_20_code 195 = .ok (.iload_n 3, 1) := by decide +kernel
theorem d_M_check_196 : decode prog_6_method_20_code 196 = .ok (.ifCond .eq 7, 3) := by decide +kernel
theorem d_M_check_199 : decode prog_6_method_20_code 199 = .ok (.iconst 2, 1) := by decide +kernel
theorem d_M_check_200 : decode prog_6_method_20_code 200 = .ok (.goto 22, 3) := by decide +kernel
theorem d_M_check_203 : decode prog_6_method_20_code 203 = .ok (.iload 4, 2) := by decide +kernel
theorem d_M_check_205 : decode prog_6_method_20_code 205 = .ok (.ifCond .eq 7, 3) := by decide +kernel
theorem d_M_check_208 : decode prog_6_method_20_code 208 = .ok (.iconst 1, 1) := by decide +kernel
theorem d_M_check_209 : decode prog_6_method_20_code 209 = .ok (.goto 13, 3) := by decide +kernel
theorem d_M_check_212 : decode prog_6_method_20_code 212 = .ok (.iload 5, 2) := by decide +kernel
theorem d_M_check_214 : decode prog_6_method_20_code 214 = .ok (.ifCond .eq 7, 3) := by decide +kernel
theorem d_M_check_217 : decode prog_6_method_20_code 217 = .ok (.iconst 3, 1) := by decide +kernel
theorem d_M_check_218 : decode prog_6_method_20_code 218 = .ok (.goto 4, 3) := by decide +kernel
theorem d_M_check_221 : decode prog_6_method_20_code 221 = .ok (.iconst 0, 1) := by decide +kernel
theorem d_M_check_222 : decode prog_6_method_20_code 222 = .ok (.ireturn, 1) := by decide +kernel
theorem cn_M_check : CN y_M_check (.code y_M_check prog_6_method_20_code 7 (some .int)) prog_6_method_20_code 7 (some .int) [] 2 := ⟨Or.inl ⟨rfl, rfl⟩, mw_716, mw_5, ⟨by decide +kernel, by decide +kernel⟩, by decide +kernel⟩
def b_M_check_222 (σ : Sg)  (t0 : Int32) : Option Int32 := (some t0)
set_option maxRecDepth 100000 in
set_option maxHeartbeats 4000000 in
theorem gb_M_check_222 {Γ : GX} (K : Cx Γ "TapirGroupModel" prog_6_method_20_code 7 rm_M_check) (S : Std Γ (some .int)) (T : Tb Γ []) (hI : y_M_check.name = "<init>" → Ini Γ) (σ : Sg) (t0 : Int32) : G Γ (mkI σ) 0 0 222 [] [.int t0] σ (b_M_check_222 σ t0) := by
  unfold b_M_check_222
  exact g_iret (pc := 222) K S rfl d_M_check_222 (by decide) (by decide) rfl
def b_M_check_187 (σ : Sg) (k : Nat → Int32 → Int32 → Int32 → Int32 → Int32 → Int32 → Option Int32) (a0 : Nat) (x1 : Int32) (x2 : Int32) (x3 : Int32) (x4 : Int32) (x6 : Int32) (t0 : Int32) : Option Int32 := (k a0 x1 x2 x3 x4 t0 (x6 + 1))
set_option maxRecDepth 100000 in
set_option maxHeartbeats 4000000 in
theorem gb_M_check_187 {Γ : GX} (K : Cx Γ "TapirGroupModel" prog_6_method_20_code 7 rm_M_check) (S : Std Γ (some .int)) (T : Tb Γ []) (hI : y_M_check.name = "<init>" → Ini Γ) (σ : Sg) (k : Nat → Int32 → Int32 → Int32 → Int32 → Int32 → Int32 → Option Int32) (hk : ∀ (a0 : Nat) (x1 : Int32) (x2 : Int32) (x3 : Int32) (x4 : Int32) (x5 : Int32) (x6 : Int32), G Γ (mkI σ) 0 0 120 [(0, .ref a0), (1, .int x1), (2, .int x2), (3, .int x3), (4, .int x4), (5, .int x5), (6, .int x6)] [] σ (k a0 x1 x2 x3 x4 x5 x6)) (a0 : Nat) (x1 : Int32) (x2 : Int32) (x3 : Int32) (x4 : Int32) (x6 : Int32) (t0 : Int32) : G Γ (mkI σ) 0 0 187 [(0, .ref a0), (1, .int x1), (2, .int x2), (3, .int x3), (4, .int x4), (6, .int x6)] [.int t0] σ (b_M_check_187 σ k a0 x1 x2 x3 x4 x6 t0) := by
  unfold b_M_check_187
  refine g_istore (pc := 187) (L' := [(5, .int t0), (0, .ref a0), (1, .int x1), (2, .int x2), (3, .int x3), (4, .int x4), (6, .int x6)]) K d_M_check_187 (by decide) rfl ?_
  refine g_iinc (pc := 189) (j := 6) (v := (x6 + 1)) (L' := [(6, .int (x6 + 1)), (5, .int t0), (0, .ref a0), (1, .int x1), (2, .int x2), (3, .int x3), (4, .int x4)]) K d_M_check_189 rfl (by rfl) (by decide) rfl ?_
  refine g_goto (pc := 192) (tgt := 120) K d_M_check_192 (by decide) ?_
  refine g_sub (L' := [(0, .ref a0), (1, .int x1), (2, .int x2), (3, .int x3), (4, .int x4), (5, .int t0), (6, .int (x6 + 1))]) [2, 3, 4, 5, 6, 1, 0] rfl ?_
  exact hk a0 x1 x2 x3 x4 t0 (x6 + 1)
def b_M_check_182 (σ : Sg) (k : Nat → Int32 → Int32 → Int32 → Int32 → Int32 → Int32 → Option Int32) (a0 : Nat) (x1 : Int32) (x2 : Int32) (x3 : Int32) (x4 : Int32) (x6 : Int32) : Option Int32 := (b_M_check_187 σ k a0 x1 x2 x3 x4 x6 (1 : Int32))
set_option maxRecDepth 100000 in
set_option maxHeartbeats 4000000 in
theorem gb_M_check_182 {Γ : GX} (K : Cx Γ "TapirGroupModel" prog_6_method_20_code 7 rm_M_check) (S : Std Γ (some .int)) (T : Tb Γ []) (hI : y_M_check.name = "<init>" → Ini Γ) (σ : Sg) (k : Nat → Int32 → Int32 → Int32 → Int32 → Int32 → Int32 → Option Int32) (hk : ∀ (a0 : Nat) (x1 : Int32) (x2 : Int32) (x3 : Int32) (x4 : Int32) (x5 : Int32) (x6 : Int32), G Γ (mkI σ) 0 0 120 [(0, .ref a0), (1, .int x1), (2, .int x2), (3, .int x3), (4, .int x4), (5, .int x5), (6, .int x6)] [] σ (k a0 x1 x2 x3 x4 x5 x6)) (a0 : Nat) (x1 : Int32) (x2 : Int32) (x3 : Int32) (x4 : Int32) (x6 : Int32) : G Γ (mkI σ) 0 0 182 [(0, .ref a0), (1, .int x1), (2, .int x2), (3, .int x3), (4, .int x4), (6, .int x6)] [] σ (b_M_check_182 σ k a0 x1 x2 x3 x4 x6) := by
  unfold b_M_check_182
  refine g_iconst (pc := 182) (v := 1) K d_M_check_182 (by decide) ?_
  refine g_goto (pc := 183) (tgt := 187) K d_M_check_183 (by decide) ?_
  exact gb_M_check_187 K S T hI σ k hk a0 x1 x2 x3 x4 x6 (1 : Int32)
def b_M_check_120 (σ : Sg) : Nat → Nat → Int32 → Int32 → Int32 → Int32 → Int32 → Int32 → Option Int32
  | 0 => fun _ _ _ _ _ _ _ => none
  | n + 1 => fun a0 x1 x2 x3 x4 x5 x6 => (if a0 < σ.1 ∧ kd a0 = 4 then rc (g_r σ a0 7) none (fun b9 => (if (b9 < σ.1 ∧ kd b9 = 10) ∧ inb x1 (ln b9) = true then (if (((4 : Int32) * x1) + (g_i σ b9 x1.toNatClampNeg)) ≤ x6 then (if x3 = 0 then (if x4 = 0 then (if x5 = 0 then (b_M_check_222 σ (0 : Int32)) else (b_M_check_222 σ (3 : Int32))) else (b_M_check_222 σ (1 : Int32))) else (b_M_check_222 σ (2 : Int32))) else (if x5 = 0 then (if a0 < σ.1 ∧ kd a0 = 4 then rc (g_r σ a0 8) none (fun b10 => (if (b10 < σ.1 ∧ kd b10 = 10) ∧ inb x6 (ln b10) = true then (if a0 < σ.1 ∧ kd a0 = 4 then (f_M_isReadByLater σ a0 x1 (g_i σ b10 x6.toNatClampNeg) x2).bind (fun v11 => (if v11 = 0 then (if a0 < σ.1 ∧ kd a0 = 4 then rc (g_r σ a0 18) none (fun b12 => (if a0 < σ.1 ∧ kd a0 = 4 then rc (g_r σ a0 8) none (fun b13 => (if (b13 < σ.1 ∧ kd b13 = 10) ∧ inb x6 (ln b13) = true then (if (b12 < σ.1 ∧ kd b12 = 10) ∧ inb (((6 : Int32) * x2) + (g_i σ b13 x6.toNatClampNeg)) (ln b12) = true then (if a0 < σ.1 ∧ kd a0 = 4 then rc (g_r σ a0 2) none (fun b14 => (if (b14 < σ.1 ∧ kd b14 = 10) ∧ inb x1 (ln b14) = true then (if (g_i σ b12 (((6 : Int32) * x2) + (g_i σ b13 x6.toNatClampNeg)).toNatClampNeg) ≤ (g_i σ b14 x1.toNatClampNeg) then (b_M_check_187 σ (b_M_check_120 σ n) a0 x1 x2 x3 x4 x6 (0 : Int32)) else (b_M_check_182 σ (b_M_check_120 σ n) a0 x1 x2 x3 x4 x6)) else none)) else none) else none) else none)) else none)) else none) else (b_M_check_182 σ (b_M_check_120 σ n) a0 x1 x2 x3 x4 x6))) else none) else none)) else none) else (b_M_check_182 σ (b_M_check_120 σ n) a0 x1 x2 x3 x4 x6))) else none)) else none)
set_option maxRecDepth 100000 in
set_option maxHeartbeats 4000000 in
theorem gb_M_check_120 {Γ : GX} (K : Cx Γ "TapirGroupModel" prog_6_method_20_code 7 rm_M_check) (S : Std Γ (some .int)) (T : Tb Γ []) (hI : y_M_check.name = "<init>" → Ini Γ) (σ : Sg) (n : Nat) : ∀ (a0 : Nat) (x1 : Int32) (x2 : Int32) (x3 : Int32) (x4 : Int32) (x5 : Int32) (x6 : Int32), G Γ (mkI σ) 0 0 120 [(0, .ref a0), (1, .int x1), (2, .int x2), (3, .int x3), (4, .int x4), (5, .int x5), (6, .int x6)] [] σ (b_M_check_120 σ n a0 x1 x2 x3 x4 x5 x6) := by
  induction n with
  | zero =>
    intro a0 x1 x2 x3 x4 x5 x6
    exact g_none
  | succ n ih =>
    intro a0 x1 x2 x3 x4 x5 x6
    rw [b_M_check_120]
    refine g_iload (pc := 120) (j := 6) K d_M_check_120 rfl ?_
    refine g_iconst (pc := 122) (v := 4) K d_M_check_122 (by decide) ?_
    refine g_iload_n (pc := 123) (j := 1) K d_M_check_123 rfl ?_
    refine g_imul (pc := 124) K d_M_check_124 ?_
    refine g_aload_n (pc := 125) (j := 0) K d_M_check_125 rfl ?_
    refine g_getR (pc := 126) K fl_M_25 d_M_check_126 (fun _ => ?_) (fun b9 _ => ?_)
    · exact g_none
    · refine g_iload_n (pc := 129) (j := 1) K d_M_check_129 rfl ?_
      refine g_iald (pc := 130) K d_M_check_130 ?_
      refine g_iadd (pc := 131) K d_M_check_131 ?_
      refine g_icmp_ge (pc := 132) (tgt := 195) K d_M_check_132 (by decide) (fun _ => ?_) (fun _ => ?_)
      · refine g_iload_n (pc := 195) (j := 3) K d_M_check_195 rfl ?_
        refine g_if_eq (pc := 196) (tgt := 203) K d_M_check_196 (by decide) (fun _ => ?_) (fun _ => ?_)
        · refine g_iload (pc := 203) (j := 4) K d_M_check_203 rfl ?_
          refine g_if_eq (pc := 205) (tgt := 212) K d_M_check_205 (by decide) (fun _ => ?_) (fun _ => ?_)
          · refine g_iload (pc := 212) (j := 5) K d_M_check_212 rfl ?_
            refine g_if_eq (pc := 214) (tgt := 221) K d_M_check_214 (by decide) (fun _ => ?_) (fun _ => ?_)
            · refine g_iconst (pc := 221) (v := 0) K d_M_check_221 (by decide) ?_
              refine g_sub (L' := []) [] rfl ?_
              exact gb_M_check_222 K S T hI σ (0 : Int32)
            · refine g_iconst (pc := 217) (v := 3) K d_M_check_217 (by decide) ?_
              refine g_goto (pc := 218) (tgt := 222) K d_M_check_218 (by decide) ?_
              refine g_sub (L' := []) [] rfl ?_
              exact gb_M_check_222 K S T hI σ (3 : Int32)
          · refine g_iconst (pc := 208) (v := 1) K d_M_check_208 (by decide) ?_
            refine g_goto (pc := 209) (tgt := 222) K d_M_check_209 (by decide) ?_
            refine g_sub (L' := []) [] rfl ?_
            exact gb_M_check_222 K S T hI σ (1 : Int32)
        · refine g_iconst (pc := 199) (v := 2) K d_M_check_199 (by decide) ?_
          refine g_goto (pc := 200) (tgt := 222) K d_M_check_200 (by decide) ?_
          refine g_sub (L' := []) [] rfl ?_
          exact gb_M_check_222 K S T hI σ (2 : Int32)
      · refine g_iload (pc := 135) (j := 5) K d_M_check_135 rfl ?_
        refine g_if_ne (pc := 137) (tgt := 182) K d_M_check_137 (by decide) (fun _ => ?_) (fun _ => ?_)
        · refine g_sub (L' := [(0, .ref a0), (1, .int x1), (2, .int x2), (3, .int x3), (4, .int x4), (6, .int x6)]) [0, 1, 2, 3, 4, 6] rfl ?_
          exact gb_M_check_182 K S T hI σ (b_M_check_120 σ n) ih a0 x1 x2 x3 x4 x6
        · refine g_aload_n (pc := 140) (j := 0) K d_M_check_140 rfl ?_
          refine g_iload_n (pc := 141) (j := 1) K d_M_check_141 rfl ?_
          refine g_aload_n (pc := 142) (j := 0) K d_M_check_142 rfl ?_
          refine g_getR (pc := 143) K fl_M_28 d_M_check_143 (fun _ => ?_) (fun b10 _ => ?_)
          · exact g_none
          · refine g_iload (pc := 146) (j := 6) K d_M_check_146 rfl ?_
            refine g_iald (pc := 148) K d_M_check_148 ?_
            refine g_iload_n (pc := 149) (j := 2) K d_M_check_149 rfl ?_
            refine g_callV (pc := 150) (ci := 4) (a := a0) (vs := [.int x1, .int (g_i σ b10 x6.toNatClampNeg), .int x2]) (st := []) (mkc := mkI σ) K rfl (by decide) cn_M_isReadByLater (fun l hl r hr => k_M_isReadByLater l hl _ _ _ _ _ r hr) mw_725 mw_727 ms_24 ⟨by decide, by decide, by decide, by decide⟩ d_M_check_150 rfl rfl (Nat.le_of_ble_eq_true rfl) (fun v11 _ => ?_)
            change G Γ (mkI σ) 0 0 153 [(0, .ref a0), (1, .int x1), (2, .int x2), (3, .int x3), (4, .int x4), (5, .int x5), (6, .int x6)] [.int v11] σ _
            refine g_if_ne (pc := 153) (tgt := 182) K d_M_check_153 (by decide) (fun _ => ?_) (fun _ => ?_)
            · refine g_sub (L' := [(0, .ref a0), (1, .int x1), (2, .int x2), (3, .int x3), (4, .int x4), (6, .int x6)]) [0, 1, 2, 3, 4, 6] rfl ?_
              exact gb_M_check_182 K S T hI σ (b_M_check_120 σ n) ih a0 x1 x2 x3 x4 x6
            · refine g_aload_n (pc := 156) (j := 0) K d_M_check_156 rfl ?_
              refine g_getR (pc := 157) K fl_M_59 d_M_check_157 (fun _ => ?_) (fun b12 _ => ?_)
              · exact g_none
              · refine g_bipush (pc := 160) (v := 6) K d_M_check_160 (by decide) ?_
                refine g_iload_n (pc := 162) (j := 2) K d_M_check_162 rfl ?_
                refine g_imul (pc := 163) K d_M_check_163 ?_
                refine g_aload_n (pc := 164) (j := 0) K d_M_check_164 rfl ?_
                refine g_getR (pc := 165) K fl_M_28 d_M_check_165 (fun _ => ?_) (fun b13 _ => ?_)
                · exact g_none
                · refine g_iload (pc := 168) (j := 6) K d_M_check_168 rfl ?_
                  refine g_iald (pc := 170) K d_M_check_170 ?_
                  refine g_iadd (pc := 171) K d_M_check_171 ?_
                  refine g_iald (pc := 172) K d_M_check_172 ?_
                  refine g_aload_n (pc := 173) (j := 0) K d_M_check_173 rfl ?_
                  refine g_getR (pc := 174) K fl_M_7 d_M_check_174 (fun _ => ?_) (fun b14 _ => ?_)
                  · exact g_none
                  · refine g_iload_n (pc := 177) (j := 1) K d_M_check_177 rfl ?_
                    refine g_iald (pc := 178) K d_M_check_178 ?_
                    refine g_icmp_le (pc := 179) (tgt := 186) K d_M_check_179 (by decide) (fun _ => ?_) (fun _ => ?_)
                    · refine g_iconst (pc := 186) (v := 0) K d_M_check_186 (by decide) ?_
                      refine g_sub (L' := [(0, .ref a0), (1, .int x1), (2, .int x2), (3, .int x3), (4, .int x4), (6, .int x6)]) [0, 1, 2, 3, 4, 6] rfl ?_
                      exact gb_M_check_187 K S T hI σ (b_M_check_120 σ n) ih a0 x1 x2 x3 x4 x6 (0 : Int32)
                    · refine g_sub (L' := [(0, .ref a0), (1, .int x1), (2, .int x2), (3, .int x3), (4, .int x4), (6, .int x6)]) [0, 1, 2, 3, 4, 6] rfl ?_
                      exact gb_M_check_182 K S T hI σ (b_M_check_120 σ n) ih a0 x1 x2 x3 x4 x6
def b_M_check_107 (σ : Sg) (k : Nat → Int32 → Int32 → Int32 → Int32 → Int32 → Int32 → Option Int32) (a0 : Nat) (x1 : Int32) (x2 : Int32) (x3 : Int32) (x5 : Int32) (x6 : Int32) (t0 : Int32) : Option Int32 := (k a0 x1 x2 x3 t0 x5 (x6 + 1))
set_option maxRecDepth 100000 in
set_option maxHeartbeats 4000000 in
theorem gb_M_check_107 {Γ : GX} (K : Cx Γ "TapirGroupModel" prog_6_method_20_code 7 rm_M_check) (S : Std Γ (some .int)) (T : Tb Γ []) (hI : y_M_check.name = "<init>" → Ini Γ) (σ : Sg) (k : Nat → Int32 → Int32 → Int32 → Int32 → Int32 → Int32 → Option Int32) (hk : ∀ (a0 : Nat) (x1 : Int32) (x2 : Int32) (x3 : Int32) (x4 : Int32) (x5 : Int32) (x6 : Int32), G Γ (mkI σ) 0 0 13 [(0, .ref a0), (1, .int x1), (2, .int x2), (3, .int x3), (4, .int x4), (5, .int x5), (6, .int x6)] [] σ (k a0 x1 x2 x3 x4 x5 x6)) (a0 : Nat) (x1 : Int32) (x2 : Int32) (x3 : Int32) (x5 : Int32) (x6 : Int32) (t0 : Int32) : G Γ (mkI σ) 0 0 107 [(0, .ref a0), (1, .int x1), (2, .int x2), (3, .int x3), (5, .int x5), (6, .int x6)] [.int t0] σ (b_M_check_107 σ k a0 x1 x2 x3 x5 x6 t0) := by
  unfold b_M_check_107
  refine g_istore (pc := 107) (L' := [(4, .int t0), (0, .ref a0), (1, .int x1), (2, .int x2), (3, .int x3), (5, .int x5), (6, .int x6)]) K d_M_check_107 (by decide) rfl ?_
  refine g_iinc (pc := 109) (j := 6) (v := (x6 + 1)) (L' := [(6, .int (x6 + 1)), (4, .int t0), (0, .ref a0), (1, .int x1), (2, .int x2), (3, .int x3), (5, .int x5)]) K d_M_check_109 rfl (by rfl) (by decide) rfl ?_
  refine g_goto (pc := 112) (tgt := 13) K d_M_check_112 (by decide) ?_
  refine g_sub (L' := [(0, .ref a0), (1, .int x1), (2, .int x2), (3, .int x3), (4, .int t0), (5, .int x5), (6, .int (x6 + 1))]) [2, 3, 4, 5, 1, 6, 0] rfl ?_
  exact hk a0 x1 x2 x3 t0 x5 (x6 + 1)
def b_M_check_102 (σ : Sg) (k : Nat → Int32 → Int32 → Int32 → Int32 → Int32 → Int32 → Option Int32) (a0 : Nat) (x1 : Int32) (x2 : Int32) (x3 : Int32) (x5 : Int32) (x6 : Int32) : Option Int32 := (b_M_check_107 σ k a0 x1 x2 x3 x5 x6 (1 : Int32))
set_option maxRecDepth 100000 in
set_option maxHeartbeats 4000000 in
theorem gb_M_check_102 {Γ : GX} (K : Cx Γ "TapirGroupModel" prog_6_method_20_code 7 rm_M_check) (S : Std Γ (some .int)) (T : Tb Γ []) (hI : y_M_check.name = "<init>" → Ini Γ) (σ : Sg) (k : Nat → Int32 → Int32 → Int32 → Int32 → Int32 → Int32 → Option Int32) (hk : ∀ (a0 : Nat) (x1 : Int32) (x2 : Int32) (x3 : Int32) (x4 : Int32) (x5 : Int32) (x6 : Int32), G Γ (mkI σ) 0 0 13 [(0, .ref a0), (1, .int x1), (2, .int x2), (3, .int x3), (4, .int x4), (5, .int x5), (6, .int x6)] [] σ (k a0 x1 x2 x3 x4 x5 x6)) (a0 : Nat) (x1 : Int32) (x2 : Int32) (x3 : Int32) (x5 : Int32) (x6 : Int32) : G Γ (mkI σ) 0 0 102 [(0, .ref a0), (1, .int x1), (2, .int x2), (3, .int x3), (5, .int x5), (6, .int x6)] [] σ (b_M_check_102 σ k a0 x1 x2 x3 x5 x6) := by
  unfold b_M_check_102
  refine g_iconst (pc := 102) (v := 1) K d_M_check_102 (by decide) ?_
  refine g_goto (pc := 103) (tgt := 107) K d_M_check_103 (by decide) ?_
  exact gb_M_check_107 K S T hI σ k hk a0 x1 x2 x3 x5 x6 (1 : Int32)
def b_M_check_80 (σ : Sg) (k : Nat → Int32 → Int32 → Int32 → Int32 → Int32 → Int32 → Option Int32) (a0 : Nat) (x1 : Int32) (x2 : Int32) (x4 : Int32) (x5 : Int32) (x6 : Int32) (t0 : Int32) : Option Int32 := (if x4 = 0 then (if a0 < σ.1 ∧ kd a0 = 4 then rc (g_r σ a0 4) none (fun b15 => (if (b15 < σ.1 ∧ kd b15 = 10) ∧ inb x6 (ln b15) = true then (if a0 < σ.1 ∧ kd a0 = 4 then (f_M_isWrittenByAnother σ a0 x1 (g_i σ b15 x6.toNatClampNeg) x2).bind (fun v16 => (if v16 = 0 then (b_M_check_107 σ k a0 x1 x2 t0 x5 x6 (0 : Int32)) else (b_M_check_102 σ k a0 x1 x2 t0 x5 x6))) else none) else none)) else none) else (b_M_check_102 σ k a0 x1 x2 t0 x5 x6))
set_option maxRecDepth 100000 in
set_option maxHeartbeats 4000000 in
theorem gb_M_check_80 {Γ : GX} (K : Cx Γ "TapirGroupModel" prog_6_method_20_code 7 rm_M_check) (S : Std Γ (some .int)) (T : Tb Γ []) (hI : y_M_check.name = "<init>" → Ini Γ) (σ : Sg) (k : Nat → Int32 → Int32 → Int32 → Int32 → Int32 → Int32 → Option Int32) (hk : ∀ (a0 : Nat) (x1 : Int32) (x2 : Int32) (x3 : Int32) (x4 : Int32) (x5 : Int32) (x6 : Int32), G Γ (mkI σ) 0 0 13 [(0, .ref a0), (1, .int x1), (2, .int x2), (3, .int x3), (4, .int x4), (5, .int x5), (6, .int x6)] [] σ (k a0 x1 x2 x3 x4 x5 x6)) (a0 : Nat) (x1 : Int32) (x2 : Int32) (x4 : Int32) (x5 : Int32) (x6 : Int32) (t0 : Int32) : G Γ (mkI σ) 0 0 80 [(0, .ref a0), (1, .int x1), (2, .int x2), (4, .int x4), (5, .int x5), (6, .int x6)] [.int t0] σ (b_M_check_80 σ k a0 x1 x2 x4 x5 x6 t0) := by
  unfold b_M_check_80
  refine g_istore_n (pc := 80) (L' := [(3, .int t0), (0, .ref a0), (1, .int x1), (2, .int x2), (4, .int x4), (5, .int x5), (6, .int x6)]) K d_M_check_80 (by decide) rfl ?_
  refine g_iload (pc := 81) (j := 4) K d_M_check_81 rfl ?_
  refine g_if_ne (pc := 83) (tgt := 102) K d_M_check_83 (by decide) (fun _ => ?_) (fun _ => ?_)
  · refine g_sub (L' := [(0, .ref a0), (1, .int x1), (2, .int x2), (3, .int t0), (5, .int x5), (6, .int x6)]) [1, 2, 3, 0, 5, 6] rfl ?_
    exact gb_M_check_102 K S T hI σ k hk a0 x1 x2 t0 x5 x6
  · refine g_aload_n (pc := 86) (j := 1) K d_M_check_86 rfl ?_
    refine g_iload_n (pc := 87) (j := 2) K d_M_check_87 rfl ?_
    refine g_aload_n (pc := 88) (j := 1) K d_M_check_88 rfl ?_
    refine g_getR (pc := 89) K fl_M_16 d_M_check_89 (fun _ => ?_) (fun b15 _ => ?_)
    · exact g_none
    · refine g_iload (pc := 92) (j := 6) K d_M_check_92 rfl ?_
      refine g_iald (pc := 94) K d_M_check_94 ?_
      refine g_iload_n (pc := 95) (j := 3) K d_M_check_95 rfl ?_
      refine g_callV (pc := 96) (ci := 4) (a := a0) (vs := [.int x1, .int (g_i σ b15 x6.toNatClampNeg), .int x2]) (st := []) (mkc := mkI σ) K rfl (by decide) cn_M_isWrittenByAnother (fun l hl r hr => k_M_isWrittenByAnother l hl _ _ _ _ _ r hr) mw_717 mw_719 ms_22 ⟨by decide, by decide, by decide, by decide⟩ d_M_check_96 rfl rfl (Nat.le_of_ble_eq_true rfl) (fun v16 _ => ?_)
      change G Γ (mkI σ) 0 0 99 [(3, .int t0), (0, .ref a0), (1, .int x1), (2, .int x2), (4, .int x4), (5, .int x5), (6, .int x6)] [.int v16] σ _
      refine g_if_eq (pc := 99) (tgt := 106) K d_M_check_99 (by decide) (fun _ => ?_) (fun _ => ?_)
      · refine g_iconst (pc := 106) (v := 0) K d_M_check_106 (by decide) ?_
        refine g_sub (L' := [(0, .ref a0), (1, .int x1), (2, .int x2), (3, .int t0), (5, .int x5), (6, .int x6)]) [1, 2, 3, 0, 5, 6] rfl ?_
        exact gb_M_check_107 K S T hI σ k hk a0 x1 x2 t0 x5 x6 (0 : Int32)
      · refine g_sub (L' := [(0, .ref a0), (1, .int x1), (2, .int x2), (3, .int t0), (5, .int x5), (6, .int x6)]) [1, 2, 3, 0, 5, 6] rfl ?_
        exact gb_M_check_102 K S T hI σ k hk a0 x1 x2 t0 x5 x6
def b_M_check_75 (σ : Sg) (k : Nat → Int32 → Int32 → Int32 → Int32 → Int32 → Int32 → Option Int32) (a0 : Nat) (x1 : Int32) (x2 : Int32) (x4 : Int32) (x5 : Int32) (x6 : Int32) : Option Int32 := (b_M_check_80 σ k a0 x1 x2 x4 x5 x6 (1 : Int32))
set_option maxRecDepth 100000 in
set_option maxHeartbeats 4000000 in
theorem gb_M_check_75 {Γ : GX} (K : Cx Γ "TapirGroupModel" prog_6_method_20_code 7 rm_M_check) (S : Std Γ (some .int)) (T : Tb Γ []) (hI : y_M_check.name = "<init>" → Ini Γ) (σ : Sg) (k : Nat → Int32 → Int32 → Int32 → Int32 → Int32 → Int32 → Option Int32) (hk : ∀ (a0 : Nat) (x1 : Int32) (x2 : Int32) (x3 : Int32) (x4 : Int32) (x5 : Int32) (x6 : Int32), G Γ (mkI σ) 0 0 13 [(0, .ref a0), (1, .int x1), (2, .int x2), (3, .int x3), (4, .int x4), (5, .int x5), (6, .int x6)] [] σ (k a0 x1 x2 x3 x4 x5 x6)) (a0 : Nat) (x1 : Int32) (x2 : Int32) (x4 : Int32) (x5 : Int32) (x6 : Int32) : G Γ (mkI σ) 0 0 75 [(0, .ref a0), (1, .int x1), (2, .int x2), (4, .int x4), (5, .int x5), (6, .int x6)] [] σ (b_M_check_75 σ k a0 x1 x2 x4 x5 x6) := by
  unfold b_M_check_75
  refine g_iconst (pc := 75) (v := 1) K d_M_check_75 (by decide) ?_
  refine g_goto (pc := 76) (tgt := 80) K d_M_check_76 (by decide) ?_
  exact gb_M_check_80 K S T hI σ k hk a0 x1 x2 x4 x5 x6 (1 : Int32)
def b_M_check_13 (σ : Sg) : Nat → Nat → Int32 → Int32 → Int32 → Int32 → Int32 → Int32 → Option Int32
  | 0 => fun _ _ _ _ _ _ _ => none
  | n + 1 => fun a0 x1 x2 x3 x4 x5 x6 => (if a0 < σ.1 ∧ kd a0 = 4 then rc (g_r σ a0 3) none (fun b2 => (if (b2 < σ.1 ∧ kd b2 = 10) ∧ inb x1 (ln b2) = true then (if (((4 : Int32) * x1) + (g_i σ b2 x1.toNatClampNeg)) ≤ x6 then (wn ((4 : Int32) * x1) (fun y3 => (b_M_check_120 σ 1000 a0 x1 x2 x3 x4 x5 y3))) else (if x3 = 0 then (if a0 < σ.1 ∧ kd a0 = 4 then rc (g_r σ a0 18) none (fun b4 => (if a0 < σ.1 ∧ kd a0 = 4 then rc (g_r σ a0 4) none (fun b5 => (if (b5 < σ.1 ∧ kd b5 = 10) ∧ inb x6 (ln b5) = true then (if (b4 < σ.1 ∧ kd b4 = 10) ∧ inb (((6 : Int32) * x2) + (g_i σ b5 x6.toNatClampNeg)) (ln b4) = true then (if a0 < σ.1 ∧ kd a0 = 4 then rc (g_r σ a0 5) none (fun b6 => (if (b6 < σ.1 ∧ kd b6 = 10) ∧ inb x6 (ln b6) = true then (if (g_i σ b6 x6.toNatClampNeg) < (g_i σ b4 (((6 : Int32) * x2) + (g_i σ b5 x6.toNatClampNeg)).toNatClampNeg) then (b_M_check_75 σ (b_M_check_13 σ n) a0 x1 x2 x4 x5 x6) else (if a0 < σ.1 ∧ kd a0 = 4 then rc (g_r σ a0 5) none (fun b7 => (if (b7 < σ.1 ∧ kd b7 = 10) ∧ inb x6 (ln b7) = true then (if a0 < σ.1 ∧ kd a0 = 4 then rc (g_r σ a0 2) none (fun b8 => (if (b8 < σ.1 ∧ kd b8 = 10) ∧ inb x1 (ln b8) = true then (if (g_i σ b7 x6.toNatClampNeg) < (g_i σ b8 x1.toNatClampNeg) then (b_M_check_80 σ (b_M_check_13 σ n) a0 x1 x2 x4 x5 x6 (0 : Int32)) else (b_M_check_75 σ (b_M_check_13 σ n) a0 x1 x2 x4 x5 x6)) else none)) else none) else none)) else none)) else none)) else none) else none) else none)) else none)) else none) else (b_M_check_75 σ (b_M_check_13 σ n) a0 x1 x2 x4 x5 x6))) else none)) else none)
set_option maxRecDepth 100000 in
set_option maxHeartbeats 4000000 in
theorem gb_M_check_13 {Γ : GX} (K : Cx Γ "TapirGroupModel" prog_6_method_20_code 7 rm_M_check) (S : Std Γ (some .int)) (T : Tb Γ []) (hI : y_M_check.name = "<init>" → Ini Γ) (σ : Sg) (n : Nat) : ∀ (a0 : Nat) (x1 : Int32) (x2 : Int32) (x3 : Int32) (x4 : Int32) (x5 : Int32) (x6 : Int32), G Γ (mkI σ) 0 0 13 [(0, .ref a0), (1, .int x1), (2, .int x2), (3, .int x3), (4, .int x4), (5, .int x5), (6, .int x6)] [] σ (b_M_check_13 σ n a0 x1 x2 x3 x4 x5 x6) := by
  induction n with
  | zero =>
    intro a0 x1 x2 x3 x4 x5 x6
    exact g_none
  | succ n ih =>
    intro a0 x1 x2 x3 x4 x5 x6
    rw [b_M_check_13]
    refine g_iload (pc := 13) (j := 6) K d_M_check_13 rfl ?_
    refine g_iconst (pc := 15) (v := 4) K d_M_check_15 (by decide) ?_
    refine g_iload_n (pc := 16) (j := 1) K d_M_check_16 rfl ?_
    refine g_imul (pc := 17) K d_M_check_17 ?_
    refine g_aload_n (pc := 18) (j := 0) K d_M_check_18 rfl ?_
    refine g_getR (pc := 19) K fl_M_13 d_M_check_19 (fun _ => ?_) (fun b2 _ => ?_)
    · exact g_none
    · refine g_iload_n (pc := 22) (j := 1) K d_M_check_22 rfl ?_
      refine g_iald (pc := 23) K d_M_check_23 ?_
      refine g_iadd (pc := 24) K d_M_check_24 ?_
      refine g_icmp_ge (pc := 25) (tgt := 115) K d_M_check_25 (by decide) (fun _ => ?_) (fun _ => ?_)
      · refine g_iconst (pc := 115) (v := 4) K d_M_check_115 (by decide) ?_
        refine g_iload_n (pc := 116) (j := 1) K d_M_check_116 rfl ?_
        refine g_imul (pc := 117) K d_M_check_117 ?_
        refine g_wn (fun y3 _ => ?_)
        refine g_istore (pc := 118) (L' := [(6, .int y3), (0, .ref a0), (1, .int x1), (2, .int x2), (3, .int x3), (4, .int x4), (5, .int x5)]) K d_M_check_118 (by decide) rfl ?_
        refine g_sub (L' := [(0, .ref a0), (1, .int x1), (2, .int x2), (3, .int x3), (4, .int x4), (5, .int x5), (6, .int y3)]) [1, 2, 3, 4, 5, 6, 0] rfl ?_
        exact gb_M_check_120 K S T hI σ 1000 a0 x1 x2 x3 x4 x5 y3
      · refine g_iload_n (pc := 28) (j := 3) K d_M_check_28 rfl ?_
        refine g_if_ne (pc := 29) (tgt := 75) K d_M_check_29 (by decide) (fun _ => ?_) (fun _ => ?_)
        · refine g_sub (L' := [(0, .ref a0), (1, .int x1), (2, .int x2), (4, .int x4), (5, .int x5), (6, .int x6)]) [0, 1, 2, 4, 5, 6] rfl ?_
          exact gb_M_check_75 K S T hI σ (b_M_check_13 σ n) ih a0 x1 x2 x4 x5 x6
        · refine g_aload_n (pc := 32) (j := 0) K d_M_check_32 rfl ?_
          refine g_getR (pc := 33) K fl_M_59 d_M_check_33 (fun _ => ?_) (fun b4 _ => ?_)
          · exact g_none
          · refine g_bipush (pc := 36) (v := 6) K d_M_check_36 (by decide) ?_
            refine g_iload_n (pc := 38) (j := 2) K d_M_check_38 rfl ?_
            refine g_imul (pc := 39) K d_M_check_39 ?_
            refine g_aload_n (pc := 40) (j := 0) K d_M_check_40 rfl ?_
            refine g_getR (pc := 41) K fl_M_16 d_M_check_41 (fun _ => ?_) (fun b5 _ => ?_)
            · exact g_none
            · refine g_iload (pc := 44) (j := 6) K d_M_check_44 rfl ?_
              refine g_iald (pc := 46) K d_M_check_46 ?_
              refine g_iadd (pc := 47) K d_M_check_47 ?_
              refine g_iald (pc := 48) K d_M_check_48 ?_
              refine g_aload_n (pc := 49) (j := 0) K d_M_check_49 rfl ?_
              refine g_getR (pc := 50) K fl_M_19 d_M_check_50 (fun _ => ?_) (fun b6 _ => ?_)
              · exact g_none
              · refine g_iload (pc := 53) (j := 6) K d_M_check_53 rfl ?_
                refine g_iald (pc := 55) K d_M_check_55 ?_
                refine g_icmp_gt (pc := 56) (tgt := 75) K d_M_check_56 (by decide) (fun _ => ?_) (fun _ => ?_)
                · refine g_sub (L' := [(0, .ref a0), (1, .int x1), (2, .int x2), (4, .int x4), (5, .int x5), (6, .int x6)]) [0, 1, 2, 4, 5, 6] rfl ?_
                  exact gb_M_check_75 K S T hI σ (b_M_check_13 σ n) ih a0 x1 x2 x4 x5 x6
                · refine g_aload_n (pc := 59) (j := 0) K d_M_check_59 rfl ?_
                  refine g_getR (pc := 60) K fl_M_19 d_M_check_60 (fun _ => ?_) (fun b7 _ => ?_)
                  · exact g_none
                  · refine g_iload (pc := 63) (j := 6) K d_M_check_63 rfl ?_
                    refine g_iald (pc := 65) K d_M_check_65 ?_
                    refine g_aload_n (pc := 66) (j := 0) K d_M_check_66 rfl ?_
                    refine g_getR (pc := 67) K fl_M_7 d_M_check_67 (fun _ => ?_) (fun b8 _ => ?_)
                    · exact g_none
                    · refine g_iload_n (pc := 70) (j := 1) K d_M_check_70 rfl ?_
                      refine g_iald (pc := 71) K d_M_check_71 ?_
                      refine g_icmp_lt (pc := 72) (tgt := 79) K d_M_check_72 (by decide) (fun _ => ?_) (fun _ => ?_)
                      · refine g_iconst (pc := 79) (v := 0) K d_M_check_79 (by decide) ?_
                        refine g_sub (L' := [(0, .ref a0), (1, .int x1), (2, .int x2), (4, .int x4), (5, .int x5), (6, .int x6)]) [0, 1, 2, 4, 5, 6] rfl ?_
                        exact gb_M_check_80 K S T hI σ (b_M_check_13 σ n) ih a0 x1 x2 x4 x5 x6 (0 : Int32)
                      · refine g_sub (L' := [(0, .ref a0), (1, .int x1), (2, .int x2), (4, .int x4), (5, .int x5), (6, .int x6)]) [0, 1, 2, 4, 5, 6] rfl ?_
                        exact gb_M_check_75 K S T hI σ (b_M_check_13 σ n) ih a0 x1 x2 x4 x5 x6
def f_M_check (σ : Sg) (a0 : Nat) (x1 : Int32) (x2 : Int32) : Option Int32 := (wn ((4 : Int32) * x1) (fun y1 => (b_M_check_13 σ 1000 a0 x1 x2 (0 : Int32) (0 : Int32) (0 : Int32) y1)))
set_option maxRecDepth 100000 in
set_option maxHeartbeats 4000000 in
theorem k_M_check (l : Launch) (hl : l.stackTraces = false) (σ : Sg) (a0 : Nat) (x1 : Int32) (x2 : Int32) (r : Int32) (h : f_M_check σ a0 x1 x2 = some r) : Con l y_M_check (.code y_M_check prog_6_method_20_code 7 (some .int)) rm_M_check [.ref a0, .int x1, .int x2] σ ((mkI σ) r) := by
  refine Con.of (mk := (mkI σ)) (o := f_M_check σ a0 x1 x2) (z := r) (L0 := [(0, .ref a0), (1, .int x1), (2, .int x2)]) (bytes := prog_6_method_20_code) (maxL := 7) (ret := (some .int)) (hh := []) hl (by decide +kernel) (Or.inl ⟨rfl, rfl⟩) (by simp [Value.category]) (Nat.le_of_ble_eq_true rfl) rfl (fun Γ K S T hI => ?_) h rfl
  unfold f_M_check
  refine g_iconst (pc := 0) (v := 0) K d_M_check_0 (by decide) ?_
  refine g_istore_n (pc := 1) (L' := [(3, .int (0 : Int32)), (0, .ref a0), (1, .int x1), (2, .int x2)]) K d_M_check_1 (by decide) rfl ?_
  refine g_iconst (pc := 2) (v := 0) K d_M_check_2 (by decide) ?_
  refine g_istore (pc := 3) (L' := [(4, .int (0 : Int32)), (3, .int (0 : Int32)), (0, .ref a0), (1, .int x1), (2, .int x2)]) K d_M_check_3 (by decide) rfl ?_
  refine g_iconst (pc := 5) (v := 0) K d_M_check_5 (by decide) ?_
  refine g_istore (pc := 6) (L' := [(5, .int (0 : Int32)), (4, .int (0 : Int32)), (3, .int (0 : Int32)), (0, .ref a0), (1, .int x1), (2, .int x2)]) K d_M_check_6 (by decide) rfl ?_
  refine g_iconst (pc := 8) (v := 4) K d_M_check_8 (by decide) ?_
  refine g_iload_n (pc := 9) (j := 4) K d_M_check_9 rfl ?_
  refine g_imul (pc := 10) K d_M_check_10 ?_
  refine g_wn (fun y1 _ => ?_)
  refine g_istore (pc := 11) (L' := [(6, .int y1), (5, .int (0 : Int32)), (4, .int (0 : Int32)), (3, .int (0 : Int32)), (0, .ref a0), (1, .int x1), (2, .int x2)]) K d_M_check_11 (by decide) rfl ?_
  refine g_sub (L' := [(0, .ref a0), (1, .int x1), (2, .int x2), (3, .int (0 : Int32)), (4, .int (0 : Int32)), (5, .int (0 : Int32)), (6, .int y1)]) [4, 5, 6, 3, 2, 1, 0] rfl ?_
  exact gb_M_check_13 K S T hI σ 1000 a0 x1 x2 (0 : Int32) (0 : Int32) (0 : Int32) y1
