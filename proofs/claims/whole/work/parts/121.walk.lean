-- TapirGroupModel.apply(II)V
def y_M_apply : MethodName := ⟨"TapirGroupModel", "apply", "(II)V"⟩
abbrev rm_M_apply : Room := { frames := 0, cells := 0, slots := 0, locals := 0 }
theorem d_M_apply_0 : decode prog_6_method_27_code 0 = .ok (.aload_n 0, 1) := by decide +kernel
theorem d_M_apply_1 : decode prog_6_method_27_code 1 = .ok (.getfield 74, 3) := by decide +kernel
theorem d_M_apply_4 : decode prog_6_method_27_code 4 = .ok (.bipush 61, 2) := by decide +kernel
theorem d_M_apply_6 : decode prog_6_method_27_code 6 = .ok (.iload_n 2, 1) := by decide +kernel
theorem d_M_apply_7 : decode prog_6_method_27_code 7 = .ok (.imul, 1) := by decide +kernel
theorem d_M_apply_8 : decode prog_6_method_27_code 8 = .ok (.iload_n 1, 1) := by decide +kernel
theorem d_M_apply_9 : decode prog_6_method_27_code 9 = .ok (.iadd, 1) := by decide +kernel
theorem d_M_apply_10 : decode prog_6_method_27_code 10 = .ok (.iconst 1, 1) := by decide +kernel
theorem d_M_apply_11 : decode prog_6_method_27_code 11 = .ok (.bastore, 1) := by decide +kernel
theorem d_M_apply_12 : decode prog_6_method_27_code 12 = .ok (.iconst 4, 1) := by decide +kernel
theorem d_M_apply_13 : decode prog_6_method_27_code 13 = .ok (.iload_n 1, 1) := by decide +kernel
theorem d_M_apply_14 : decode prog_6_method_27_code 14 = .ok (.imul, 1) := by decide +kernel
theorem d_M_apply_15 : decode prog_6_method_27_code 15 = .ok (.istore_n 3, 1) := by decide +kernel
theorem d_M_apply_16 : decode prog_6_method_27_code 16 = .ok (.iload_n 3, 1) := by decide +kernel
theorem d_M_apply_17 : decode prog_6_method_27_code 17 = .ok (.iconst 4, 1) := by decide +kernel
theorem d_M_apply_18 : decode prog_6_method_27_code 18 = .ok (.iload_n 1, 1) := by decide +kernel
theorem d_M_apply_19 : decode prog_6_method_27_code 19 = .ok (.imul, 1) := by decide +kernel
theorem d_M_apply_20 : decode prog_6_method_27_code 20 = .ok (.aload_n 0, 1) := by decide +kernel
theorem d_M_apply_21 : decode prog_6_method_27_code 21 = .ok (.getfield 25, 3) := by decide +kernel
theorem d_M_apply_24 : decode prog_6_method_27_code 24 = .ok (.iload_n 1, 1) := by decide +kernel
theorem d_M_apply_25 : decode prog_6_method_27_code 25 = .ok (.iaload, 1) := by decide +kernel
theorem d_M_apply_26 : decode prog_6_method_27_code 26 = .ok (.iadd, 1) := by decide +kernel
theorem d_M_apply_27 : decode prog_6_method_27_code 27 = .ok (.if_icmp .ge 67, 3) := by decide +kernel
theorem d_M_apply_30 : decode prog_6_method_27_code 30 = .ok (.bipush 6, 2) := by decide +kernel
theorem d_M_apply_32 : decode prog_6_method_27_code 32 = .ok (.iload_n 2, 1) := by decide +kernel
theorem d_M_apply_33 : decode prog_6_method_27_code 33 = .ok (.imul, 1) := by decide +kernel
theorem d_M_apply_34 : decode prog_6_method_27_code 34 = .ok (.aload_n 0, 1) := by decide +kernel
theorem d_M_apply_35 : decode prog_6_method_27_code 35 = .ok (.getfield 28, 3) := by decide +kernel
theorem d_M_apply_38 : decode prog_6_method_27_code 38 = .ok (.iload_n 3, 1) := by decide +kernel
theorem d_M_apply_39 : decode prog_6_method_27_code 39 = .ok (.iaload, 1) := by decide +kernel
theorem d_M_apply_40 : decode prog_6_method_27_code 40 = .ok (.iadd, 1) := by decide +kernel
theorem d_M_apply_41 : decode prog_6_method_27_code 41 = .ok (.istore 4, 2) := by decide +kernel
theorem d_M_apply_43 : decode prog_6_method_27_code 43 = .ok (.aload_n 0, 1) := by decide +kernel
theorem d_M_apply_44 : decode prog_6_method_27_code 44 = .ok (.getfield 59, 3) := by decide +kernel
theorem d_M_apply_47 : decode prog_6_method_27_code 47 = .ok (.iload 4, 2) := by decide +kernel
theorem d_M_apply_49 : decode prog_6_method_27_code 49 = .ok (.iaload, 1) := by decide +kernel
theorem d_M_apply_50 : decode prog_6_method_27_code 50 = .ok (.aload_n 0, 1) := by decide +kernel
theorem d_M_apply_51 : decode prog_6_method_27_code 51 = .ok (.getfield 7, 3) := by decide +kernel
theorem d_M_apply_54 : decode prog_6_method_27_code 54 = .ok (.iload_n 1, 1) := by decide +kernel
theorem d_M_apply_55 : decode prog_6_method_27_code 55 = .ok (.iaload, 1) := by decide +kernel
theorem d_M_apply_56 : decode prog_6_method_27_code 56 = .ok (.if_icmp .lt 6, 3) := by decide +kernel
theorem d_M_apply_59 : decode prog_6_method_27_code 59 = .ok (.goto 29, 3) := by decide +kernel
theorem d_M_apply_62 : decode prog_6_method_27_code 62 = .ok (.aload_n 0, 1) := by decide +kernel
theorem d_M_apply_63 : decode prog_6_method_27_code 63 = .ok (.getfield 59, 3) := by decide +kernel
theorem d_M_apply_66 : decode prog_6_method_27_code 66 = .ok (.iload 4, 2) := by decide +kernel
theorem d_M_apply_68 : decode prog_6_method_27_code 68 = .ok (.aload_n 0, 1) := by decide +kernel
theorem d_M_apply_69 : decode prog_6_method_27_code 69 = .ok (.getfield 7, 3) := by decide +kernel
theorem d_M_apply_72 : decode prog_6_method_27_code 72 = .ok (.iload_n 1, 1) := by decide +kernel
theorem d_M_apply_73 : decode prog_6_method_27_code 73 = .ok (.iaload, 1) := by decide +kernel
theorem d_M_apply_74 : decode prog_6_method_27_code 74 = .ok (.iastore, 1) := by decide +kernel
theorem d_M_apply_75 : decode prog_6_method_27_code 75 = .ok (.aload_n 0, 1) := by decide +kernel
theorem d_M_apply_76 : decode prog_6_method_27_code 76 = .ok (.getfield 62, 3) := by decide +kernel
theorem d_M_apply_79 : decode prog_6_method_27_code 79 = .ok (.iload 4, 2) := by decide +kernel
theorem d_M_apply_81 : decode prog_6_method_27_code 81 = .ok (.aload_n 0, 1) := by decide +kernel
theorem d_M_apply_82 : decode prog_6_method_27_code 82 = .ok (.getfield 31, 3) := by decide +kernel
theorem d_M_apply_85 : decode prog_6_method_27_code 85 = .ok (.iload_n 3, 1) := by decide +kernel
theorem d_M_apply_86 : decode prog_6_method_27_code 86 = .ok (.iaload, 1) := by decide +kernel
theorem d_M_apply_87 : decode prog_6_method_27_code 87 = .ok (.iastore, 1) := by decide +kernel
theorem d_M_apply_88 : decode prog_6_method_27_code 88 = .ok (.iinc 3 1, 3) := by decide +kernel
theorem d_M_apply_91 : decode prog_6_method_27_code 91 = .ok (.goto (-75), 3) := by decide +kernel
theorem d_M_apply_94 : decode prog_6_method_27_code 94 = .ok (.iconst 4, 1) := by decide +kernel
theorem d_M_apply_95 : decode prog_6_method_27_code 95 = .ok (.iload_n 1, 1) := by decide +kernel
theorem d_M_apply_96 : decode prog_6_method_27_code 96 = .ok (.imul, 1) := by decide +kernel
theorem d_M_apply_97 : decode prog_6_method_27_code 97 = .ok (.istore_n 3, 1) := by decide +kernel
theorem d_M_apply_98 : decode prog_6_method_27_code 98 = .ok (.iload_n 3, 1) := by decide +kernel
theorem d_M_apply_99 : decode prog_6_method_27_code 99 = .ok (.iconst 4, 1) := by decide +kernel
theorem d_M_apply_100 : decode prog_6_method_27_code 100 = .ok (.iload_n 1, 1) := by decide +kernel
theorem d_M_apply_101 : decode prog_6_method_27_code 101 = .ok (.imul, 1) := by decide +kernel
theorem d_M_apply_102 : decode prog_6_method_27_code 102 = .ok (.aload_n 0, 1) := by decide +kernel
theorem d_M_apply_103 : decode prog_6_method_27_code 103 = .ok (.getfield 13, 3) := by decide +kernel
theorem d_M_apply_106 : decode prog_6_method_27_code 106 = .ok (.iload_n 1, 1) := by decide +kernel
theorem d_M_apply_107 : decode prog_6_method_27_code 107 = .ok (.iaload, 1) := by decide +kernel
theorem d_M_apply_108 : decode prog_6_method_27_code 108 = .ok (.iadd, 1) := by decide +kernel
theorem d_M_apply_109 : decode prog_6_method_27_code 109 = .ok (.if_icmp .ge 56, 3) := by decide +kernel
theorem d_M_apply_112 : decode prog_6_method_27_code 112 = .ok (.aload_n 0, 1) := by decide +kernel
theorem d_M_apply_113 : decode prog_6_method_27_code 113 = .ok (.getfield 65, 3) := by decide +kernel
theorem d_M_apply_116 : decode prog_6_method_27_code 116 = .ok (.bipush 6, 2) := by decide +kernel
theorem d_M_apply_118 : decode prog_6_method_27_code 118 = .ok (.iload_n 2, 1) := by decide +kernel
theorem d_M_apply_119 : decode prog_6_method_27_code 119 = .ok (.imul, 1) := by decide +kernel
theorem d_M_apply_120 : decode prog_6_method_27_code 120 = .ok (.aload_n 0, 1) := by decide +kernel
theorem d_M_apply_121 : decode prog_6_method_27_code 121 = .ok (.getfield 16, 3) := by decide +kernel
theorem d_M_apply_124 : decode prog_6_method_27_code 124 = .ok (.iload_n 3, 1) := by decide +kernel
theorem d_M_apply_125 : decode prog_6_method_27_code 125 = .ok (.iaload, 1) := by decide +kernel
theorem d_M_apply_126 : decode prog_6_method_27_code 126 = .ok (.iadd, 1) := by decide +kernel
theorem d_M_apply_127 : decode prog_6_method_27_code 127 = .ok (.iaload, 1) := by decide +kernel
theorem d_M_apply_128 : decode prog_6_method_27_code 128 = .ok (.aload_n 0, 1) := by decide +kernel
theorem d_M_apply_129 : decode prog_6_method_27_code 129 = .ok (.getfield 7, 3) := by decide +kernel
theorem d_M_apply_132 : decode prog_6_method_27_code 132 = .ok (.iload_n 1, 1) := by decide +kernel
theorem d_M_apply_133 : decode prog_6_method_27_code 133 = .ok (.iaload, 1) := by decide +kernel
theorem d_M_apply_134 : decode prog_6_method_27_code 134 = .ok (.if_icmp .ge 25, 3) := by decide +kernel
theorem d_M_apply_137 : decode prog_6_method_27_code 137 = .ok (.aload_n 0, 1) := by decide +kernel
theorem d_M_apply_138 : decode prog_6_method_27_code 138 = .ok (.getfield 65, 3) := by decide +kernel
theorem d_M_apply_141 : decode prog_6_method_27_code 141 = .ok (.bipush 6, 2) := by decide +kernel
theorem d_M_apply_143 : decode prog_6_method_27_code 143 = .ok (.iload_n 2, 1) := by decide +kernel
theorem d_M_apply_144 : decode prog_6_method_27_code 144 = .ok (.imul, 1) := by decide +kernel
theorem d_M_apply_145 : decode prog_6_method_27_code 145 = .ok (.aload_n 0, 1) := by decide +kernel
theorem d_M_apply_146 : decode prog_6_method_27_code 146 = .ok (.getfield 16, 3) := by decide +kernel
theorem d_M_apply_149 : decode prog_6_method_27_code 149 = .ok (.iload_n 3, 1) := by decide +kernel
theorem d_M_apply_150 : decode prog_6_method_27_code 150 = .ok (.iaload, 1) := by decide +kernel
theorem d_M_apply_151 : decode prog_6_method_27_code 151 = .ok (.iadd, 1) := by decide +kernel
theorem d_M_apply_152 : decode prog_6_method_27_code 152 = .ok (.aload_n 0, 1) := by decide +kernel
theorem d_M_apply_153 : decode prog_6_method_27_code 153 = .ok (.getfield 7, 3) := by decide +kernel
theorem d_M_apply_156 : decode prog_6_method_27_code 156 = .ok (.iload_n 1, 1) := by decide +kernel
theorem d_M_apply_157 : decode prog_6_method_27_code 157 = .ok (.iaload, 1) := by decide +kernel
theorem d_M_apply_158 : decode prog_6_method_27_code 158 = .ok (.iastore, 1) := by decide +kernel
theorem d_M_apply_159 : decode prog_6_method_27_code 159 = .ok (.iinc 3 1, 3) := by decide +kernel
theorem d_M_apply_162 : decode prog_6_method_27_code 162 = .ok (.goto (-64), 3) := by decide +kernel
theorem d_M_apply_165 : decode prog_6_method_27_code 165 = .ok (.return_, 1) := by decide +kernel
theorem cn_M_apply : CN y_M_apply (.code y_M_apply prog_6_method_27_code 5 none) prog_6_method_27_code 5 none [] 2 := ⟨Or.inl ⟨rfl, rfl⟩, mw_760, mw_5, ⟨by decide +kernel, by decide +kernel⟩, by decide +kernel⟩
def b_M_apply_159 (k : Sg → Nat → Int32 → Int32 → Int32 → Option Sg) (σ : Sg) (a0 : Nat) (x1 : Int32) (x2 : Int32) (x3 : Int32) : Option Sg := (k σ a0 x1 x2 (x3 + 1))
set_option maxRecDepth 100000 in
set_option maxHeartbeats 4000000 in
theorem gb_M_apply_159 {Γ : GX} (K : Cx Γ "TapirGroupModel" prog_6_method_27_code 5 rm_M_apply) (S : Std Γ none) (T : Tb Γ []) (hI : y_M_apply.name = "<init>" → Ini Γ) (k : Sg → Nat → Int32 → Int32 → Int32 → Option Sg) (hk : ∀ (σ : Sg) (a0 : Nat) (x1 : Int32) (x2 : Int32) (x3 : Int32), G Γ mkV 0 0 98 [(0, .ref a0), (1, .int x1), (2, .int x2), (3, .int x3)] [] σ (k σ a0 x1 x2 x3)) (σ : Sg) (a0 : Nat) (x1 : Int32) (x2 : Int32) (x3 : Int32) : G Γ mkV 0 0 159 [(0, .ref a0), (1, .int x1), (2, .int x2), (3, .int x3)] [] σ (b_M_apply_159 k σ a0 x1 x2 x3) := by
  unfold b_M_apply_159
  refine g_iinc (pc := 159) (j := 3) (v := (x3 + 1)) (L' := [(3, .int (x3 + 1)), (0, .ref a0), (1, .int x1), (2, .int x2)]) K d_M_apply_159 rfl (by rfl) (by decide) rfl ?_
  refine g_goto (pc := 162) (tgt := 98) K d_M_apply_162 (by decide) ?_
  refine g_sub (L' := [(0, .ref a0), (1, .int x1), (2, .int x2), (3, .int (x3 + 1))]) [1, 2, 3, 0] rfl ?_
  exact hk σ a0 x1 x2 (x3 + 1)
def b_M_apply_98 : Nat → Sg → Nat → Int32 → Int32 → Int32 → Option Sg
  | 0 => fun _ _ _ _ _ => none
  | n + 1 => fun σ a0 x1 x2 x3 => (if a0 < σ.1 ∧ kd a0 = 4 then rc (g_r σ a0 3) none (fun b16 => (if (b16 < σ.1 ∧ kd b16 = 10) ∧ inb x1 (ln b16) = true then (if (((4 : Int32) * x1) + (g_i σ b16 x1.toNatClampNeg)) ≤ x3 then (some σ) else (if a0 < σ.1 ∧ kd a0 = 4 then rc (g_r σ a0 20) none (fun b17 => (if a0 < σ.1 ∧ kd a0 = 4 then rc (g_r σ a0 4) none (fun b18 => (if (b18 < σ.1 ∧ kd b18 = 10) ∧ inb x3 (ln b18) = true then (if (b17 < σ.1 ∧ kd b17 = 10) ∧ inb (((6 : Int32) * x2) + (g_i σ b18 x3.toNatClampNeg)) (ln b17) = true then (if a0 < σ.1 ∧ kd a0 = 4 then rc (g_r σ a0 2) none (fun b19 => (if (b19 < σ.1 ∧ kd b19 = 10) ∧ inb x1 (ln b19) = true then (if (g_i σ b19 x1.toNatClampNeg) ≤ (g_i σ b17 (((6 : Int32) * x2) + (g_i σ b18 x3.toNatClampNeg)).toNatClampNeg) then (b_M_apply_159 (b_M_apply_98 n) σ a0 x1 x2 x3) else (if a0 < σ.1 ∧ kd a0 = 4 then rc (g_r σ a0 20) none (fun b20 => (if a0 < σ.1 ∧ kd a0 = 4 then rc (g_r σ a0 4) none (fun b21 => (if (b21 < σ.1 ∧ kd b21 = 10) ∧ inb x3 (ln b21) = true then (if a0 < σ.1 ∧ kd a0 = 4 then rc (g_r σ a0 2) none (fun b22 => (if (b22 < σ.1 ∧ kd b22 = 10) ∧ inb x1 (ln b22) = true then (if (b20 < σ.1 ∧ kd b20 = 10) ∧ inb (((6 : Int32) * x2) + (g_i σ b21 x3.toNatClampNeg)) (ln b20) = true then (wi (s_i σ b20 (((6 : Int32) * x2) + (g_i σ b21 x3.toNatClampNeg)).toNatClampNeg (g_i σ b22 x1.toNatClampNeg)) (fun s23 => (b_M_apply_159 (b_M_apply_98 n) s23 a0 x1 x2 x3))) else none) else none)) else none) else none)) else none)) else none)) else none)) else none) else none) else none)) else none)) else none)) else none)) else none)
set_option maxRecDepth 100000 in
set_option maxHeartbeats 4000000 in
theorem gb_M_apply_98 {Γ : GX} (K : Cx Γ "TapirGroupModel" prog_6_method_27_code 5 rm_M_apply) (S : Std Γ none) (T : Tb Γ []) (hI : y_M_apply.name = "<init>" → Ini Γ) (n : Nat) : ∀ (σ : Sg) (a0 : Nat) (x1 : Int32) (x2 : Int32) (x3 : Int32), G Γ mkV 0 0 98 [(0, .ref a0), (1, .int x1), (2, .int x2), (3, .int x3)] [] σ (b_M_apply_98 n σ a0 x1 x2 x3) := by
  induction n with
  | zero =>
    intro σ a0 x1 x2 x3
    exact g_none
  | succ n ih =>
    intro σ a0 x1 x2 x3
    rw [b_M_apply_98]
    refine g_iload_n (pc := 98) (j := 3) K d_M_apply_98 rfl ?_
    refine g_iconst (pc := 99) (v := 4) K d_M_apply_99 (by decide) ?_
    refine g_iload_n (pc := 100) (j := 1) K d_M_apply_100 rfl ?_
    refine g_imul (pc := 101) K d_M_apply_101 ?_
    refine g_aload_n (pc := 102) (j := 0) K d_M_apply_102 rfl ?_
    refine g_getR (pc := 103) K fl_M_13 d_M_apply_103 (fun _ => ?_) (fun b16 _ => ?_)
    · exact g_none
    · refine g_iload_n (pc := 106) (j := 1) K d_M_apply_106 rfl ?_
      refine g_iald (pc := 107) K d_M_apply_107 ?_
      refine g_iadd (pc := 108) K d_M_apply_108 ?_
      refine g_icmp_ge (pc := 109) (tgt := 165) K d_M_apply_109 (by decide) (fun _ => ?_) (fun _ => ?_)
      · exact g_vret (pc := 165) K S d_M_apply_165 (by decide) (by decide) rfl
      · refine g_aload_n (pc := 112) (j := 0) K d_M_apply_112 rfl ?_
        refine g_getR (pc := 113) K fl_M_65 d_M_apply_113 (fun _ => ?_) (fun b17 _ => ?_)
        · exact g_none
        · refine g_bipush (pc := 116) (v := 6) K d_M_apply_116 (by decide) ?_
          refine g_iload_n (pc := 118) (j := 2) K d_M_apply_118 rfl ?_
          refine g_imul (pc := 119) K d_M_apply_119 ?_
          refine g_aload_n (pc := 120) (j := 0) K d_M_apply_120 rfl ?_
          refine g_getR (pc := 121) K fl_M_16 d_M_apply_121 (fun _ => ?_) (fun b18 _ => ?_)
          · exact g_none
          · refine g_iload_n (pc := 124) (j := 3) K d_M_apply_124 rfl ?_
            refine g_iald (pc := 125) K d_M_apply_125 ?_
            refine g_iadd (pc := 126) K d_M_apply_126 ?_
            refine g_iald (pc := 127) K d_M_apply_127 ?_
            refine g_aload_n (pc := 128) (j := 0) K d_M_apply_128 rfl ?_
            refine g_getR (pc := 129) K fl_M_7 d_M_apply_129 (fun _ => ?_) (fun b19 _ => ?_)
            · exact g_none
            · refine g_iload_n (pc := 132) (j := 1) K d_M_apply_132 rfl ?_
              refine g_iald (pc := 133) K d_M_apply_133 ?_
              refine g_icmp_ge (pc := 134) (tgt := 159) K d_M_apply_134 (by decide) (fun _ => ?_) (fun _ => ?_)
              · exact gb_M_apply_159 K S T hI (b_M_apply_98 n) ih σ a0 x1 x2 x3
              · refine g_aload_n (pc := 137) (j := 0) K d_M_apply_137 rfl ?_
                refine g_getR (pc := 138) K fl_M_65 d_M_apply_138 (fun _ => ?_) (fun b20 _ => ?_)
                · exact g_none
                · refine g_bipush (pc := 141) (v := 6) K d_M_apply_141 (by decide) ?_
                  refine g_iload_n (pc := 143) (j := 2) K d_M_apply_143 rfl ?_
                  refine g_imul (pc := 144) K d_M_apply_144 ?_
                  refine g_aload_n (pc := 145) (j := 0) K d_M_apply_145 rfl ?_
                  refine g_getR (pc := 146) K fl_M_16 d_M_apply_146 (fun _ => ?_) (fun b21 _ => ?_)
                  · exact g_none
                  · refine g_iload_n (pc := 149) (j := 3) K d_M_apply_149 rfl ?_
                    refine g_iald (pc := 150) K d_M_apply_150 ?_
                    refine g_iadd (pc := 151) K d_M_apply_151 ?_
                    refine g_aload_n (pc := 152) (j := 0) K d_M_apply_152 rfl ?_
                    refine g_getR (pc := 153) K fl_M_7 d_M_apply_153 (fun _ => ?_) (fun b22 _ => ?_)
                    · exact g_none
                    · refine g_iload_n (pc := 156) (j := 1) K d_M_apply_156 rfl ?_
                      refine g_iald (pc := 157) K d_M_apply_157 ?_
                      refine g_iast (pc := 158) K d_M_apply_158 ?_
                      refine g_wi (fun s23 _ => ?_)
                      exact gb_M_apply_159 K S T hI (b_M_apply_98 n) ih s23 a0 x1 x2 x3
def b_M_apply_88 (k : Sg → Nat → Int32 → Int32 → Int32 → Option Sg) (σ : Sg) (a0 : Nat) (x1 : Int32) (x2 : Int32) (x3 : Int32) : Option Sg := (k σ a0 x1 x2 (x3 + 1))
set_option maxRecDepth 100000 in
set_option maxHeartbeats 4000000 in
theorem gb_M_apply_88 {Γ : GX} (K : Cx Γ "TapirGroupModel" prog_6_method_27_code 5 rm_M_apply) (S : Std Γ none) (T : Tb Γ []) (hI : y_M_apply.name = "<init>" → Ini Γ) (k : Sg → Nat → Int32 → Int32 → Int32 → Option Sg) (hk : ∀ (σ : Sg) (a0 : Nat) (x1 : Int32) (x2 : Int32) (x3 : Int32), G Γ mkV 0 0 16 [(0, .ref a0), (1, .int x1), (2, .int x2), (3, .int x3)] [] σ (k σ a0 x1 x2 x3)) (σ : Sg) (a0 : Nat) (x1 : Int32) (x2 : Int32) (x3 : Int32) : G Γ mkV 0 0 88 [(0, .ref a0), (1, .int x1), (2, .int x2), (3, .int x3)] [] σ (b_M_apply_88 k σ a0 x1 x2 x3) := by
  unfold b_M_apply_88
  refine g_iinc (pc := 88) (j := 3) (v := (x3 + 1)) (L' := [(3, .int (x3 + 1)), (0, .ref a0), (1, .int x1), (2, .int x2)]) K d_M_apply_88 rfl (by rfl) (by decide) rfl ?_
  refine g_goto (pc := 91) (tgt := 16) K d_M_apply_91 (by decide) ?_
  refine g_sub (L' := [(0, .ref a0), (1, .int x1), (2, .int x2), (3, .int (x3 + 1))]) [1, 2, 3, 0] rfl ?_
  exact hk σ a0 x1 x2 (x3 + 1)
def b_M_apply_16 : Nat → Sg → Nat → Int32 → Int32 → Int32 → Option Sg
  | 0 => fun _ _ _ _ _ => none
  | n + 1 => fun σ a0 x1 x2 x3 => (if a0 < σ.1 ∧ kd a0 = 4 then rc (g_r σ a0 7) none (fun b4 => (if (b4 < σ.1 ∧ kd b4 = 10) ∧ inb x1 (ln b4) = true then (if (((4 : Int32) * x1) + (g_i σ b4 x1.toNatClampNeg)) ≤ x3 then (wn ((4 : Int32) * x1) (fun y5 => (b_M_apply_98 1000 σ a0 x1 x2 y5))) else (if a0 < σ.1 ∧ kd a0 = 4 then rc (g_r σ a0 8) none (fun b6 => (if (b6 < σ.1 ∧ kd b6 = 10) ∧ inb x3 (ln b6) = true then (wn (((6 : Int32) * x2) + (g_i σ b6 x3.toNatClampNeg)) (fun y7 => (if a0 < σ.1 ∧ kd a0 = 4 then rc (g_r σ a0 18) none (fun b8 => (if (b8 < σ.1 ∧ kd b8 = 10) ∧ inb y7 (ln b8) = true then (if a0 < σ.1 ∧ kd a0 = 4 then rc (g_r σ a0 2) none (fun b9 => (if (b9 < σ.1 ∧ kd b9 = 10) ∧ inb x1 (ln b9) = true then (if (g_i σ b8 y7.toNatClampNeg) < (g_i σ b9 x1.toNatClampNeg) then (if a0 < σ.1 ∧ kd a0 = 4 then rc (g_r σ a0 18) none (fun b10 => (if a0 < σ.1 ∧ kd a0 = 4 then rc (g_r σ a0 2) none (fun b11 => (if (b11 < σ.1 ∧ kd b11 = 10) ∧ inb x1 (ln b11) = true then (if (b10 < σ.1 ∧ kd b10 = 10) ∧ inb y7 (ln b10) = true then (wi (s_i σ b10 y7.toNatClampNeg (g_i σ b11 x1.toNatClampNeg)) (fun s12 => (if a0 < s12.1 ∧ kd a0 = 4 then rc (g_r s12 a0 19) none (fun b13 => (if a0 < s12.1 ∧ kd a0 = 4 then rc (g_r s12 a0 9) none (fun b14 => (if (b14 < s12.1 ∧ kd b14 = 10) ∧ inb x3 (ln b14) = true then (if (b13 < s12.1 ∧ kd b13 = 10) ∧ inb y7 (ln b13) = true then (wi (s_i s12 b13 y7.toNatClampNeg (g_i s12 b14 x3.toNatClampNeg)) (fun s15 => (b_M_apply_88 (b_M_apply_16 n) s15 a0 x1 x2 x3))) else none) else none)) else none)) else none))) else none) else none)) else none)) else none) else (b_M_apply_88 (b_M_apply_16 n) σ a0 x1 x2 x3)) else none)) else none) else none)) else none))) else none)) else none)) else none)) else none)
set_option maxRecDepth 100000 in
set_option maxHeartbeats 4000000 in
theorem gb_M_apply_16 {Γ : GX} (K : Cx Γ "TapirGroupModel" prog_6_method_27_code 5 rm_M_apply) (S : Std Γ none) (T : Tb Γ []) (hI : y_M_apply.name = "<init>" → Ini Γ) (n : Nat) : ∀ (σ : Sg) (a0 : Nat) (x1 : Int32) (x2 : Int32) (x3 : Int32), G Γ mkV 0 0 16 [(0, .ref a0), (1, .int x1), (2, .int x2), (3, .int x3)] [] σ (b_M_apply_16 n σ a0 x1 x2 x3) := by
  induction n with
  | zero =>
    intro σ a0 x1 x2 x3
    exact g_none
  | succ n ih =>
    intro σ a0 x1 x2 x3
    rw [b_M_apply_16]
    refine g_iload_n (pc := 16) (j := 3) K d_M_apply_16 rfl ?_
    refine g_iconst (pc := 17) (v := 4) K d_M_apply_17 (by decide) ?_
    refine g_iload_n (pc := 18) (j := 1) K d_M_apply_18 rfl ?_
    refine g_imul (pc := 19) K d_M_apply_19 ?_
    refine g_aload_n (pc := 20) (j := 0) K d_M_apply_20 rfl ?_
    refine g_getR (pc := 21) K fl_M_25 d_M_apply_21 (fun _ => ?_) (fun b4 _ => ?_)
    · exact g_none
    · refine g_iload_n (pc := 24) (j := 1) K d_M_apply_24 rfl ?_
      refine g_iald (pc := 25) K d_M_apply_25 ?_
      refine g_iadd (pc := 26) K d_M_apply_26 ?_
      refine g_icmp_ge (pc := 27) (tgt := 94) K d_M_apply_27 (by decide) (fun _ => ?_) (fun _ => ?_)
      · refine g_iconst (pc := 94) (v := 4) K d_M_apply_94 (by decide) ?_
        refine g_iload_n (pc := 95) (j := 1) K d_M_apply_95 rfl ?_
        refine g_imul (pc := 96) K d_M_apply_96 ?_
        refine g_wn (fun y5 _ => ?_)
        refine g_istore_n (pc := 97) (L' := [(3, .int y5), (0, .ref a0), (1, .int x1), (2, .int x2)]) K d_M_apply_97 (by decide) rfl ?_
        refine g_sub (L' := [(0, .ref a0), (1, .int x1), (2, .int x2), (3, .int y5)]) [1, 2, 3, 0] rfl ?_
        exact gb_M_apply_98 K S T hI 1000 σ a0 x1 x2 y5
      · refine g_bipush (pc := 30) (v := 6) K d_M_apply_30 (by decide) ?_
        refine g_iload_n (pc := 32) (j := 2) K d_M_apply_32 rfl ?_
        refine g_imul (pc := 33) K d_M_apply_33 ?_
        refine g_aload_n (pc := 34) (j := 0) K d_M_apply_34 rfl ?_
        refine g_getR (pc := 35) K fl_M_28 d_M_apply_35 (fun _ => ?_) (fun b6 _ => ?_)
        · exact g_none
        · refine g_iload_n (pc := 38) (j := 3) K d_M_apply_38 rfl ?_
          refine g_iald (pc := 39) K d_M_apply_39 ?_
          refine g_iadd (pc := 40) K d_M_apply_40 ?_
          refine g_wn (fun y7 _ => ?_)
          refine g_istore (pc := 41) (L' := [(4, .int y7), (0, .ref a0), (1, .int x1), (2, .int x2), (3, .int x3)]) K d_M_apply_41 (by decide) rfl ?_
          refine g_aload_n (pc := 43) (j := 1) K d_M_apply_43 rfl ?_
          refine g_getR (pc := 44) K fl_M_59 d_M_apply_44 (fun _ => ?_) (fun b8 _ => ?_)
          · exact g_none
          · refine g_iload (pc := 47) (j := 0) K d_M_apply_47 rfl ?_
            refine g_iald (pc := 49) K d_M_apply_49 ?_
            refine g_aload_n (pc := 50) (j := 1) K d_M_apply_50 rfl ?_
            refine g_getR (pc := 51) K fl_M_7 d_M_apply_51 (fun _ => ?_) (fun b9 _ => ?_)
            · exact g_none
            · refine g_iload_n (pc := 54) (j := 2) K d_M_apply_54 rfl ?_
              refine g_iald (pc := 55) K d_M_apply_55 ?_
              refine g_icmp_lt (pc := 56) (tgt := 62) K d_M_apply_56 (by decide) (fun _ => ?_) (fun _ => ?_)
              · refine g_aload_n (pc := 62) (j := 1) K d_M_apply_62 rfl ?_
                refine g_getR (pc := 63) K fl_M_59 d_M_apply_63 (fun _ => ?_) (fun b10 _ => ?_)
                · exact g_none
                · refine g_iload (pc := 66) (j := 0) K d_M_apply_66 rfl ?_
                  refine g_aload_n (pc := 68) (j := 1) K d_M_apply_68 rfl ?_
                  refine g_getR (pc := 69) K fl_M_7 d_M_apply_69 (fun _ => ?_) (fun b11 _ => ?_)
                  · exact g_none
                  · refine g_iload_n (pc := 72) (j := 2) K d_M_apply_72 rfl ?_
                    refine g_iald (pc := 73) K d_M_apply_73 ?_
                    refine g_iast (pc := 74) K d_M_apply_74 ?_
                    refine g_wi (fun s12 _ => ?_)
                    refine g_aload_n (pc := 75) (j := 1) K d_M_apply_75 rfl ?_
                    refine g_getR (pc := 76) K fl_M_62 d_M_apply_76 (fun _ => ?_) (fun b13 _ => ?_)
                    · exact g_none
                    · refine g_iload (pc := 79) (j := 0) K d_M_apply_79 rfl ?_
                      refine g_aload_n (pc := 81) (j := 1) K d_M_apply_81 rfl ?_
                      refine g_getR (pc := 82) K fl_M_31 d_M_apply_82 (fun _ => ?_) (fun b14 _ => ?_)
                      · exact g_none
                      · refine g_iload_n (pc := 85) (j := 4) K d_M_apply_85 rfl ?_
                        refine g_iald (pc := 86) K d_M_apply_86 ?_
                        refine g_iast (pc := 87) K d_M_apply_87 ?_
                        refine g_wi (fun s15 _ => ?_)
                        refine g_sub (L' := [(0, .ref a0), (1, .int x1), (2, .int x2), (3, .int x3)]) [1, 2, 3, 4] rfl ?_
                        exact gb_M_apply_88 K S T hI (b_M_apply_16 n) ih s15 a0 x1 x2 x3
              · refine g_goto (pc := 59) (tgt := 88) K d_M_apply_59 (by decide) ?_
                refine g_sub (L' := [(0, .ref a0), (1, .int x1), (2, .int x2), (3, .int x3)]) [1, 2, 3, 4] rfl ?_
                exact gb_M_apply_88 K S T hI (b_M_apply_16 n) ih σ a0 x1 x2 x3
def f_M_apply (σ : Sg) (a0 : Nat) (x1 : Int32) (x2 : Int32) : Option Sg := (if a0 < σ.1 ∧ kd a0 = 4 then rc (g_r σ a0 23) none (fun b1 => (if ((b1 < σ.1 ∧ kd b1 = 11) ∧ inb (((61 : Int32) * x2) + x1) (ln b1) = true) ∧ ((1 : Int32) = 0 ∨ (1 : Int32) = 1) then (wi (s_i σ b1 (((61 : Int32) * x2) + x1).toNatClampNeg (1 : Int32)) (fun s2 => (wn ((4 : Int32) * x1) (fun y3 => (b_M_apply_16 1000 s2 a0 x1 x2 y3))))) else none)) else none)
set_option maxRecDepth 100000 in
set_option maxHeartbeats 4000000 in
theorem k_M_apply (l : Launch) (hl : l.stackTraces = false) (σ : Sg) (a0 : Nat) (x1 : Int32) (x2 : Int32) (r : Sg) (h : f_M_apply σ a0 x1 x2 = some r) : Con l y_M_apply (.code y_M_apply prog_6_method_27_code 5 none) rm_M_apply [.ref a0, .int x1, .int x2] σ (mkV r) := by
  refine Con.of (mk := mkV) (o := f_M_apply σ a0 x1 x2) (z := r) (L0 := [(0, .ref a0), (1, .int x1), (2, .int x2)]) (bytes := prog_6_method_27_code) (maxL := 5) (ret := none) (hh := []) hl (by decide +kernel) (Or.inl ⟨rfl, rfl⟩) (by simp [Value.category]) (Nat.le_of_ble_eq_true rfl) rfl (fun Γ K S T hI => ?_) h rfl
  unfold f_M_apply
  refine g_aload_n (pc := 0) (j := 0) K d_M_apply_0 rfl ?_
  refine g_getR (pc := 1) K fl_M_74 d_M_apply_1 (fun _ => ?_) (fun b1 _ => ?_)
  · exact g_none
  · refine g_bipush (pc := 4) (v := 61) K d_M_apply_4 (by decide) ?_
    refine g_iload_n (pc := 6) (j := 2) K d_M_apply_6 rfl ?_
    refine g_imul (pc := 7) K d_M_apply_7 ?_
    refine g_iload_n (pc := 8) (j := 1) K d_M_apply_8 rfl ?_
    refine g_iadd (pc := 9) K d_M_apply_9 ?_
    refine g_iconst (pc := 10) (v := 1) K d_M_apply_10 (by decide) ?_
    refine g_zast (pc := 11) K d_M_apply_11 ?_
    refine g_wi (fun s2 _ => ?_)
    refine g_iconst (pc := 12) (v := 4) K d_M_apply_12 (by decide) ?_
    refine g_iload_n (pc := 13) (j := 1) K d_M_apply_13 rfl ?_
    refine g_imul (pc := 14) K d_M_apply_14 ?_
    refine g_wn (fun y3 _ => ?_)
    refine g_istore_n (pc := 15) (L' := [(3, .int y3), (0, .ref a0), (1, .int x1), (2, .int x2)]) K d_M_apply_15 (by decide) rfl ?_
    refine g_sub (L' := [(0, .ref a0), (1, .int x1), (2, .int x2), (3, .int y3)]) [1, 2, 3, 0] rfl ?_
    exact gb_M_apply_16 K S T hI 1000 s2 a0 x1 x2 y3
-- TapirGroupModel.finish(II)Z
def y_M_finish : MethodName := ⟨"TapirGroupModel", "finish", "(II)Z"⟩
abbrev rm_M_finish : Room := { frames := 3, cells := 0, slots := 0, locals := 63 }
theorem d_M_finish_0 : decode prog_6_method_29_code 0 = .ok (.iload_n 1, 1) := by decide +kernel
theorem d_M_finish_1 : decode prog_6_method_29_code 1 = .ok (.invokestatic 88, 3) := by decide +kernel
theorem d_M_finish_4 : decode prog_6_method_29_code 4 = .ok (.ifCond .eq 14, 3) := by decide +kernel
theorem d_M_finish_7 : decode prog_6_method_29_code 7 = .ok (.iload_n 2, 1) := by decide +kernel
theorem d_M_finish_8 : decode prog_6_method_29_code 8 = .ok (.invokestatic 109, 3) := by decide +kernel
theorem d_M_finish_11 : decode prog_6_method_29_code 11 = .ok (.ifCond .eq 7, 3) := by decide +kernel
theorem d_M_finish_14 : decode prog_6_method_29_code 14 = .ok (.iconst 1, 1) := by decide +kernel
theorem d_M_finish_15 : decode prog_6_method_29_code 15 = .ok (.goto 4, 3) := by decide +kernel
theorem d_M_finish_18 : decode prog_6_method_29_code 18 = .ok (.iconst 0, 1) := by decide +kernel
theorem d_M_finish_19 : decode prog_6_method_29_code 19 = .ok (.istore_n 3, 1) := by decide +kernel
theorem d_M_finish_20 : decode prog_6_method_29_code 20 = .ok (.aload_n 0, 1) := by decide +kernel
theorem d_M_finish_21 : decode prog_6_method_29_code 21 = .ok (.iload_n 1, 1) := by decide +kernel
theorem d_M_finish_22 : decode prog_6_method_29_code 22 = .ok (.invokevirtual 112, 3) := by decide +kernel
theorem d_M_finish_25 : decode prog_6_method_29_code 25 = .ok (.iconst 4, 1) := by decide +kernel
theorem d_M_finish_26 : decode prog_6_method_29_code 26 = .ok (.if_icmp .eq 12, 3) := by decide +kernel
theorem d_M_finish_29 : decode prog_6_method_29_code 29 = .ok (.aload_n 0, 1) := by decide +kernel
theorem d_M_finish_30 : decode prog_6_method_29_code 30 = .ok (.iload_n 1, 1) := by decide +kernel
theorem d_M_finish_31 : decode prog_6_method_29_code 31 = .ok (.invokevirtual 112, 3) := by decide +kernel
theorem d_M_finish_34 : decode prog_6_method_29_code 34 = .ok (.iconst 5, 1) := by decide +kernel
theorem d_M_finish_35 : decode prog_6_method_29_code 35 = .ok (.if_icmp .ne 7, 3) := by decide +kernel
theorem d_M_finish_38 : decode prog_6_method_29_code 38 = .ok (.iconst 1, 1) := by decide +kernel
theorem d_M_finish_39 : decode prog_6_method_29_code 39 = .ok (.goto 4, 3) := by decide +kernel
theorem d_M_finish_42 : decode prog_6_method_29_code 42 = .ok (.iconst 0, 1) := by decide +kernel
theorem d_M_finish_43 : decode prog_6_method_29_code 43 = .ok (.istore 4, 2) := by decide +kernel
theorem d_M_finish_45 : decode prog_6_method_29_code 45 = .ok (.aload_n 0, 1) := by decide +kernel
theorem d_M_finish_46 : decode prog_6_method_29_code 46 = .ok (.iload_n 3, 1) := by decide +kernel
theorem d_M_finish_47 : decode prog_6_method_29_code 47 = .ok (.ifCond .ne 7, 3) := by decide +kernel
theorem d_M_finish_50 : decode prog_6_method_29_code 50 = .ok (.iconst 1, 1) := by decide +kernel
theorem d_M_finish_51 : decode prog_6_method_29_code 51 = .ok (.goto 25, 3) := by decide +kernel
theorem d_M_finish_54 : decode prog_6_method_29_code 54 = .ok (.iload 4, 2) := by decide +kernel
theorem d_M_finish_56 : decode prog_6_method_29_code 56 = .ok (.ifCond .ne 7, 3) := by decide +kernel
theorem d_M_finish_59 : decode prog_6_method_29_code 59 = .ok (.iconst 2, 1) := by decide +kernel
theorem d_M_finish_60 : decode prog_6_method_29_code 60 = .ok (.goto 16, 3) := by decide +kernel
theorem d_M_finish_63 : decode prog_6_method_29_code 63 = .ok (.aload_n 0, 1) := by decide +kernel
theorem d_M_finish_64 : decode prog_6_method_29_code 64 = .ok (.iload_n 2, 1) := by decide +kernel
theorem d_M_finish_65 : decode prog_6_method_29_code 65 = .ok (.invokevirtual 120, 3) := by decide +kernel
theorem d_M_finish_68 : decode prog_6_method_29_code 68 = .ok (.ifCond .ne 7, 3) := by decide +kernel
theorem d_M_finish_71 : decode prog_6_method_29_code 71 = .ok (.iconst 3, 1) := by decide +kernel
theorem d_M_finish_72 : decode prog_6_method_29_code 72 = .ok (.goto 4, 3) := by decide +kernel
theorem d_M_finish_75 : decode prog_6_method_29_code 75 = .ok (.iconst 0, 1) := by decide +kernel
theorem d_M_finish_76 : decode prog_6_method_29_code 76 = .ok (.invokevirtual 99, 3) := by decide +kernel
theorem d_M_finish_79 : decode prog_6_method_29_code 79 = .ok (.ifCond .ne 5, 3) := by decide +kernel
theorem d_M_finish_82 : decode prog_6_method_29_code 82 = .ok (.iconst 0, 1) := by decide +kernel
theorem d_M_finish_83 : decode prog_6_method_29_code 83 = .ok (.ireturn, 1) := by decide +kernel
theorem d_M_finish_84 : decode prog_6_method_29_code 84 = .ok (.aload_n 0, 1) := by decide +kernel
theorem d_M_finish_85 : decode prog_6_method_29_code 85 = .ok (.getfield 37, 3) := by decide +kernel
theorem d_M_finish_88 : decode prog_6_method_29_code 88 = .ok (.iload_n 1, 1) := by decide +kernel
theorem d_M_finish_89 : decode prog_6_method_29_code 89 = .ok (.iaload, 1) := by decide +kernel
theorem d_M_finish_90 : decode prog_6_method_29_code 90 = .ok (.istore 5, 2) := by decide +kernel
theorem d_M_finish_92 : decode prog_6_method_29_code 92 = .ok (.bipush 61, 2) := by decide +kernel
theorem d_M_finish_94 : decode prog_6_method_29_code 94 = .ok (.iload_n 2, 1) := by decide +kernel
theorem d_M_finish_95 : decode prog_6_method_29_code 95 = .ok (.imul, 1) := by decide +kernel
theorem d_M_finish_96 : decode prog_6_method_29_code 96 = .ok (.iload 5, 2) := by decide +kernel
theorem d_M_finish_98 : decode prog_6_method_29_code 98 = .ok (.iadd, 1) := by decide +kernel
theorem d_M_finish_99 : decode prog_6_method_29_code 99 = .ok (.istore 6, 2) := by decide +kernel
theorem d_M_finish_101 : decode prog_6_method_29_code 101 = .ok (.aload_n 0, 1) := by decide +kernel
theorem d_M_finish_102 : decode prog_6_method_29_code 102 = .ok (.getfield 74, 3) := by decide +kernel
theorem d_M_finish_105 : decode prog_6_method_29_code 105 = .ok (.iload 6, 2) := by decide +kernel
theorem d_M_finish_107 : decode prog_6_method_29_code 107 = .ok (.baload, 1) := by decide +kernel
theorem d_M_finish_108 : decode prog_6_method_29_code 108 = .ok (.ifCond .ne 13, 3) := by decide +kernel
theorem d_M_finish_111 : decode prog_6_method_29_code 111 = .ok (.aload_n 0, 1) := by decide +kernel
theorem d_M_finish_112 : decode prog_6_method_29_code 112 = .ok (.getfield 77, 3) := by decide +kernel
theorem d_M_finish_115 : decode prog_6_method_29_code 115 = .ok (.iload 6, 2) := by decide +kernel
theorem d_M_finish_117 : decode prog_6_method_29_code 117 = .ok (.baload, 1) := by decide +kernel
theorem d_M_finish_118 : decode prog_6_method_29_code 118 = .ok (.ifCond .eq 5, 3) := by decide +kernel
theorem d_M_finish_121 : decode prog_6_method_29_code 121 = .ok (.iconst 0, 1) := by decide +kernel
theorem d_M_finish_122 : decode prog_6_method_29_code 122 = .ok (.ireturn, 1) := by decide +kernel
theorem d_M_finish_123 : decode prog_6_method_29_code 123 = .ok (.aload_n 0, 1) := by decide +kernel
theorem d_M_finish_124 : decode prog_6_method_29_code 124 = .ok (.iload 5, 2) := by decide +kernel
theorem d_M_finish_126 : decode prog_6_method_29_code 126 = .ok (.iload_n 2, 1) := by decide +kernel
theorem d_M_finish_127 : decode prog_6_method_29_code 127 = .ok (.aload_n 0, 1) := by decide +kernel
theorem d_M_finish_128 : decode prog_6_method_29_code 128 = .ok (.getfield 34, 3) := by decide +kernel
theorem d_M_finish_131 : decode prog_6_method_29_code 131 = .ok (.iload_n 1, 1) := by decide +kernel
theorem d_M_finish_132 : decode prog_6_method_29_code 132 = .ok (.iaload, 1) := by decide +kernel
theorem d_M_finish_133 : decode prog_6_method_29_code 133 = .ok (.iconst 4, 1) := by decide +kernel
theorem d_M_finish_134 : decode prog_6_method_29_code 134 = .ok (.if_icmp .ne 7, 3) := by decide +kernel
theorem d_M_finish_137 : decode prog_6_method_29_code 137 = .ok (.iconst 0, 1) := by decide +kernel
theorem d_M_finish_138 : decode prog_6_method_29_code 138 = .ok (.goto 4, 3) := by decide +kernel
theorem d_M_finish_141 : decode prog_6_method_29_code 141 = .ok (.iconst 2, 1) := by decide +kernel
theorem d_M_finish_142 : decode prog_6_method_29_code 142 = .ok (.invokevirtual 147, 3) := by decide +kernel
theorem d_M_finish_145 : decode prog_6_method_29_code 145 = .ok (.aload_n 0, 1) := by decide +kernel
theorem d_M_finish_146 : decode prog_6_method_29_code 146 = .ok (.getfield 34, 3) := by decide +kernel
theorem d_M_finish_149 : decode prog_6_method_29_code 149 = .ok (.iload_n 1, 1) := by decide +kernel
theorem d_M_finish_150 : decode prog_6_method_29_code 150 = .ok (.iaload, 1) := by decide +kernel
theorem d_M_finish_151 : decode prog_6_method_29_code 151 = .ok (.iconst 4, 1) := by decide +kernel
theorem d_M_finish_152 : decode prog_6_method_29_code 152 = .ok (.if_icmp .ne 13, 3) := by decide +kernel
theorem d_M_finish_155 : decode prog_6_method_29_code 155 = .ok (.aload_n 0, 1) := by decide +kernel
theorem d_M_finish_156 : decode prog_6_method_29_code 156 = .ok (.iload 5, 2) := by decide +kernel
theorem d_M_finish_158 : decode prog_6_method_29_code 158 = .ok (.iload_n 2, 1) := by decide +kernel
theorem d_M_finish_159 : decode prog_6_method_29_code 159 = .ok (.invokevirtual 151, 3) := by decide +kernel
theorem d_M_finish_162 : decode prog_6_method_29_code 162 = .ok (.goto 11, 3) := by decide +kernel
theorem d_M_finish_165 : decode prog_6_method_29_code 165 = .ok (.aload_n 0, 1) := by decide +kernel
theorem d_M_finish_166 : decode prog_6_method_29_code 166 = .ok (.getfield 77, 3) := by decide +kernel
theorem d_M_finish_169 : decode prog_6_method_29_code 169 = .ok (.iload 6, 2) := by decide +kernel
theorem d_M_finish_171 : decode prog_6_method_29_code 171 = .ok (.iconst 1, 1) := by decide +kernel
theorem d_M_finish_172 : decode prog_6_method_29_code 172 = .ok (.bastore, 1) := by decide +kernel
theorem d_M_finish_173 : decode prog_6_method_29_code 173 = .ok (.iconst 1, 1) := by decide +kernel
theorem d_M_finish_174 : decode prog_6_method_29_code 174 = .ok (.ireturn, 1) := by decide +kernel
theorem cn_M_finish : CN y_M_finish (.code y_M_finish prog_6_method_29_code 7 (some .boolean)) prog_6_method_29_code 7 (some .boolean) [] 2 := ⟨Or.inl ⟨rfl, rfl⟩, mw_752, mw_5, ⟨by decide +kernel, by decide +kernel⟩, by decide +kernel⟩
def b_M_finish_121  (σ : Sg)  : Option (Int32 × Sg) := (some ((0 : Int32), σ))
set_option maxRecDepth 100000 in
set_option maxHeartbeats 4000000 in
theorem gb_M_finish_121 {Γ : GX} (K : Cx Γ "TapirGroupModel" prog_6_method_29_code 7 rm_M_finish) (S : Std Γ (some .boolean)) (T : Tb Γ []) (hI : y_M_finish.name = "<init>" → Ini Γ) (σ : Sg)  : G Γ mkW 0 0 121 [] [] σ (b_M_finish_121 σ ) := by
  unfold b_M_finish_121
  refine g_iconst (pc := 121) (v := 0) K d_M_finish_121 (by decide) ?_
  exact g_iret (pc := 122) K S rfl d_M_finish_122 (by decide) (by decide) rfl
def b_M_finish_173  (σ : Sg)  : Option (Int32 × Sg) := (some ((1 : Int32), σ))
set_option maxRecDepth 100000 in
set_option maxHeartbeats 4000000 in
theorem gb_M_finish_173 {Γ : GX} (K : Cx Γ "TapirGroupModel" prog_6_method_29_code 7 rm_M_finish) (S : Std Γ (some .boolean)) (T : Tb Γ []) (hI : y_M_finish.name = "<init>" → Ini Γ) (σ : Sg)  : G Γ mkW 0 0 173 [] [] σ (b_M_finish_173 σ ) := by
  unfold b_M_finish_173
  refine g_iconst (pc := 173) (v := 1) K d_M_finish_173 (by decide) ?_
  exact g_iret (pc := 174) K S rfl d_M_finish_174 (by decide) (by decide) rfl
def b_M_finish_142  (σ : Sg) (a0 : Nat) (x1 : Int32) (x2 : Int32) (x5 : Int32) (x6 : Int32) (t0 : Nat) (t1 : Int32) (t2 : Int32) (t3 : Int32) : Option (Int32 × Sg) := (if t0 < σ.1 ∧ kd t0 = 4 then (f_M_make σ t0 t1 t2 t3).bind (fun s13 => (if a0 < s13.1 ∧ kd a0 = 4 then rc (g_r s13 a0 10) none (fun b14 => (if (b14 < s13.1 ∧ kd b14 = 10) ∧ inb x1 (ln b14) = true then (if (g_i s13 b14 x1.toNatClampNeg) = (4 : Int32) then (if a0 < s13.1 ∧ kd a0 = 4 then (f_M_apply s13 a0 x5 x2).bind (fun s17 => (b_M_finish_173 s17)) else none) else (if a0 < s13.1 ∧ kd a0 = 4 then rc (g_r s13 a0 24) none (fun b15 => (if ((b15 < s13.1 ∧ kd b15 = 11) ∧ inb x6 (ln b15) = true) ∧ ((1 : Int32) = 0 ∨ (1 : Int32) = 1) then (wi (s_i s13 b15 x6.toNatClampNeg (1 : Int32)) (fun s16 => (b_M_finish_173 s16))) else none)) else none)) else none)) else none)) else none)
set_option maxRecDepth 100000 in
set_option maxHeartbeats 4000000 in
theorem gb_M_finish_142 {Γ : GX} (K : Cx Γ "TapirGroupModel" prog_6_method_29_code 7 rm_M_finish) (S : Std Γ (some .boolean)) (T : Tb Γ []) (hI : y_M_finish.name = "<init>" → Ini Γ) (σ : Sg) (a0 : Nat) (x1 : Int32) (x2 : Int32) (x5 : Int32) (x6 : Int32) (t0 : Nat) (t1 : Int32) (t2 : Int32) (t3 : Int32) : G Γ mkW 0 0 142 [(0, .ref a0), (1, .int x1), (2, .int x2), (5, .int x5), (6, .int x6)] [.int t3, .int t2, .int t1, .ref t0] σ (b_M_finish_142 σ a0 x1 x2 x5 x6 t0 t1 t2 t3) := by
  unfold b_M_finish_142
  refine g_callV (pc := 142) (ci := 4) (a := t0) (vs := [.int t1, .int t2, .int t3]) (st := []) (mkc := mkV) K rfl (by decide) cn_M_make (fun l hl r hr => k_M_make l hl _ _ _ _ _ r hr) mw_753 mw_755 ms_28 ⟨by decide, by decide, by decide, by decide⟩ d_M_finish_142 rfl rfl (Nat.le_of_ble_eq_true rfl) (fun s13 _ => ?_)
  change G Γ mkW 0 0 145 [(0, .ref a0), (1, .int x1), (2, .int x2), (5, .int x5), (6, .int x6)] [] s13 _
  refine g_aload_n (pc := 145) (j := 0) K d_M_finish_145 rfl ?_
  refine g_getR (pc := 146) K fl_M_34 d_M_finish_146 (fun _ => ?_) (fun b14 _ => ?_)
  · exact g_none
  · refine g_iload_n (pc := 149) (j := 1) K d_M_finish_149 rfl ?_
    refine g_iald (pc := 150) K d_M_finish_150 ?_
    refine g_iconst (pc := 151) (v := 4) K d_M_finish_151 (by decide) ?_
    refine g_icmp_ne (pc := 152) (tgt := 165) K d_M_finish_152 (by decide) (fun _ => ?_) (fun _ => ?_)
    · refine g_aload_n (pc := 165) (j := 0) K d_M_finish_165 rfl ?_
      refine g_getR (pc := 166) K fl_M_77 d_M_finish_166 (fun _ => ?_) (fun b15 _ => ?_)
      · exact g_none
      · refine g_iload (pc := 169) (j := 4) K d_M_finish_169 rfl ?_
        refine g_iconst (pc := 171) (v := 1) K d_M_finish_171 (by decide) ?_
        refine g_zast (pc := 172) K d_M_finish_172 ?_
        refine g_wi (fun s16 _ => ?_)
        refine g_sub (L' := []) [] rfl ?_
        exact gb_M_finish_173 K S T hI s16
    · refine g_aload_n (pc := 155) (j := 0) K d_M_finish_155 rfl ?_
      refine g_iload (pc := 156) (j := 3) K d_M_finish_156 rfl ?_
      refine g_iload_n (pc := 158) (j := 2) K d_M_finish_158 rfl ?_
      refine g_callV (pc := 159) (ci := 4) (a := a0) (vs := [.int x5, .int x2]) (st := []) (mkc := mkV) K rfl (by decide) cn_M_apply (fun l hl r hr => k_M_apply l hl _ _ _ _ r hr) mw_757 mw_759 ms_29 ⟨by decide, by decide, by decide, by decide⟩ d_M_finish_159 rfl rfl (Nat.le_of_ble_eq_true rfl) (fun s17 _ => ?_)
      change G Γ mkW 0 0 162 [(0, .ref a0), (1, .int x1), (2, .int x2), (5, .int x5), (6, .int x6)] [] s17 _
      refine g_goto (pc := 162) (tgt := 173) K d_M_finish_162 (by decide) ?_
      refine g_sub (L' := []) [] rfl ?_
      exact gb_M_finish_173 K S T hI s17
def b_M_finish_76  (σ : Sg) (a0 : Nat) (x1 : Int32) (x2 : Int32) (t0 : Nat) (t1 : Int32) : Option (Int32 × Sg) := (if t0 < σ.1 ∧ kd t0 = 4 then (f_M_says σ t0 t1).bind (fun w6 => (if w6.1 = 0 then (some ((0 : Int32), w6.2)) else (if a0 < w6.2.1 ∧ kd a0 = 4 then rc (g_r w6.2 a0 11) none (fun b7 => (if (b7 < w6.2.1 ∧ kd b7 = 10) ∧ inb x1 (ln b7) = true then (wn (g_i w6.2 b7 x1.toNatClampNeg) (fun y8 => (wn (((61 : Int32) * x2) + y8) (fun y9 => (if a0 < w6.2.1 ∧ kd a0 = 4 then rc (g_r w6.2 a0 23) none (fun b10 => (if (b10 < w6.2.1 ∧ kd b10 = 11) ∧ inb y9 (ln b10) = true then (if (g_i w6.2 b10 y9.toNatClampNeg) = 0 then (if a0 < w6.2.1 ∧ kd a0 = 4 then rc (g_r w6.2 a0 24) none (fun b11 => (if (b11 < w6.2.1 ∧ kd b11 = 11) ∧ inb y9 (ln b11) = true then (if (g_i w6.2 b11 y9.toNatClampNeg) = 0 then (if a0 < w6.2.1 ∧ kd a0 = 4 then rc (g_r w6.2 a0 10) none (fun b12 => (if (b12 < w6.2.1 ∧ kd b12 = 10) ∧ inb x1 (ln b12) = true then (if (g_i w6.2 b12 x1.toNatClampNeg) = (4 : Int32) then (b_M_finish_142 w6.2 a0 x1 x2 y8 y9 a0 y8 x2 (0 : Int32)) else (b_M_finish_142 w6.2 a0 x1 x2 y8 y9 a0 y8 x2 (2 : Int32))) else none)) else none) else (b_M_finish_121 w6.2)) else none)) else none) else (b_M_finish_121 w6.2)) else none)) else none))))) else none)) else none))) else none)
set_option maxRecDepth 100000 in
set_option maxHeartbeats 4000000 in
theorem gb_M_finish_76 {Γ : GX} (K : Cx Γ "TapirGroupModel" prog_6_method_29_code 7 rm_M_finish) (S : Std Γ (some .boolean)) (T : Tb Γ []) (hI : y_M_finish.name = "<init>" → Ini Γ) (σ : Sg) (a0 : Nat) (x1 : Int32) (x2 : Int32) (t0 : Nat) (t1 : Int32) : G Γ mkW 0 0 76 [(0, .ref a0), (1, .int x1), (2, .int x2)] [.int t1, .ref t0] σ (b_M_finish_76 σ a0 x1 x2 t0 t1) := by
  unfold b_M_finish_76
  refine g_callV (pc := 76) (ci := 4) (a := t0) (vs := [.int t1]) (st := []) (mkc := mkW) K rfl (by decide) cn_M_says (fun l hl r hr => k_M_says l hl _ _ _ r hr) mw_666 mw_668 ms_15 ⟨by decide, by decide, by decide, by decide⟩ d_M_finish_76 rfl rfl (Nat.le_of_ble_eq_true rfl) (fun w6 _ => ?_)
  change G Γ mkW 0 0 79 [(0, .ref a0), (1, .int x1), (2, .int x2)] [.int w6.1] w6.2 _
  refine g_if_ne (pc := 79) (tgt := 84) K d_M_finish_79 (by decide) (fun _ => ?_) (fun _ => ?_)
  · refine g_aload_n (pc := 84) (j := 0) K d_M_finish_84 rfl ?_
    refine g_getR (pc := 85) K fl_M_37 d_M_finish_85 (fun _ => ?_) (fun b7 _ => ?_)
    · exact g_none
    · refine g_iload_n (pc := 88) (j := 1) K d_M_finish_88 rfl ?_
      refine g_iald (pc := 89) K d_M_finish_89 ?_
      refine g_wn (fun y8 _ => ?_)
      refine g_istore (pc := 90) (L' := [(5, .int y8), (0, .ref a0), (1, .int x1), (2, .int x2)]) K d_M_finish_90 (by decide) rfl ?_
      refine g_bipush (pc := 92) (v := 61) K d_M_finish_92 (by decide) ?_
      refine g_iload_n (pc := 94) (j := 3) K d_M_finish_94 rfl ?_
      refine g_imul (pc := 95) K d_M_finish_95 ?_
      refine g_iload (pc := 96) (j := 0) K d_M_finish_96 rfl ?_
      refine g_iadd (pc := 98) K d_M_finish_98 ?_
      refine g_wn (fun y9 _ => ?_)
      refine g_istore (pc := 99) (L' := [(6, .int y9), (5, .int y8), (0, .ref a0), (1, .int x1), (2, .int x2)]) K d_M_finish_99 (by decide) rfl ?_
      refine g_aload_n (pc := 101) (j := 2) K d_M_finish_101 rfl ?_
      refine g_getR (pc := 102) K fl_M_74 d_M_finish_102 (fun _ => ?_) (fun b10 _ => ?_)
      · exact g_none
      · refine g_iload (pc := 105) (j := 0) K d_M_finish_105 rfl ?_
        refine g_zald (pc := 107) K d_M_finish_107 ?_
        refine g_if_ne (pc := 108) (tgt := 121) K d_M_finish_108 (by decide) (fun _ => ?_) (fun _ => ?_)
        · refine g_sub (L' := []) [] rfl ?_
          exact gb_M_finish_121 K S T hI w6.2
        · refine g_aload_n (pc := 111) (j := 2) K d_M_finish_111 rfl ?_
          refine g_getR (pc := 112) K fl_M_77 d_M_finish_112 (fun _ => ?_) (fun b11 _ => ?_)
          · exact g_none
          · refine g_iload (pc := 115) (j := 0) K d_M_finish_115 rfl ?_
            refine g_zald (pc := 117) K d_M_finish_117 ?_
            refine g_if_eq (pc := 118) (tgt := 123) K d_M_finish_118 (by decide) (fun _ => ?_) (fun _ => ?_)
            · refine g_aload_n (pc := 123) (j := 2) K d_M_finish_123 rfl ?_
              refine g_iload (pc := 124) (j := 1) K d_M_finish_124 rfl ?_
              refine g_iload_n (pc := 126) (j := 4) K d_M_finish_126 rfl ?_
              refine g_aload_n (pc := 127) (j := 2) K d_M_finish_127 rfl ?_
              refine g_getR (pc := 128) K fl_M_34 d_M_finish_128 (fun _ => ?_) (fun b12 _ => ?_)
              · exact g_none
              · refine g_iload_n (pc := 131) (j := 3) K d_M_finish_131 rfl ?_
                refine g_iald (pc := 132) K d_M_finish_132 ?_
                refine g_iconst (pc := 133) (v := 4) K d_M_finish_133 (by decide) ?_
                refine g_icmp_ne (pc := 134) (tgt := 141) K d_M_finish_134 (by decide) (fun _ => ?_) (fun _ => ?_)
                · refine g_iconst (pc := 141) (v := 2) K d_M_finish_141 (by decide) ?_
                  refine g_sub (L' := [(0, .ref a0), (1, .int x1), (2, .int x2), (5, .int y8), (6, .int y9)]) [2, 3, 4, 1, 0] rfl ?_
                  exact gb_M_finish_142 K S T hI w6.2 a0 x1 x2 y8 y9 a0 y8 x2 (2 : Int32)
                · refine g_iconst (pc := 137) (v := 0) K d_M_finish_137 (by decide) ?_
                  refine g_goto (pc := 138) (tgt := 142) K d_M_finish_138 (by decide) ?_
                  refine g_sub (L' := [(0, .ref a0), (1, .int x1), (2, .int x2), (5, .int y8), (6, .int y9)]) [2, 3, 4, 1, 0] rfl ?_
                  exact gb_M_finish_142 K S T hI w6.2 a0 x1 x2 y8 y9 a0 y8 x2 (0 : Int32)
            · refine g_sub (L' := []) [] rfl ?_
              exact gb_M_finish_121 K S T hI w6.2
  · refine g_iconst (pc := 82) (v := 0) K d_M_finish_82 (by decide) ?_
    exact g_iret (pc := 83) K S rfl d_M_finish_83 (by decide) (by decide) rfl
def b_M_finish_43  (σ : Sg) (a0 : Nat) (x1 : Int32) (x2 : Int32) (x3 : Int32) (t0 : Int32) : Option (Int32 × Sg) := (if x3 = 0 then (b_M_finish_76 σ a0 x1 x2 a0 (1 : Int32)) else (if t0 = 0 then (b_M_finish_76 σ a0 x1 x2 a0 (2 : Int32)) else (if a0 < σ.1 ∧ kd a0 = 4 then (f_M_serves σ a0 x2).bind (fun v5 => (if v5 = 0 then (b_M_finish_76 σ a0 x1 x2 a0 (3 : Int32)) else (b_M_finish_76 σ a0 x1 x2 a0 (0 : Int32)))) else none)))
set_option maxRecDepth 100000 in
set_option maxHeartbeats 4000000 in
theorem gb_M_finish_43 {Γ : GX} (K : Cx Γ "TapirGroupModel" prog_6_method_29_code 7 rm_M_finish) (S : Std Γ (some .boolean)) (T : Tb Γ []) (hI : y_M_finish.name = "<init>" → Ini Γ) (σ : Sg) (a0 : Nat) (x1 : Int32) (x2 : Int32) (x3 : Int32) (t0 : Int32) : G Γ mkW 0 0 43 [(0, .ref a0), (1, .int x1), (2, .int x2), (3, .int x3)] [.int t0] σ (b_M_finish_43 σ a0 x1 x2 x3 t0) := by
  unfold b_M_finish_43
  refine g_istore (pc := 43) (L' := [(4, .int t0), (0, .ref a0), (1, .int x1), (2, .int x2), (3, .int x3)]) K d_M_finish_43 (by decide) rfl ?_
  refine g_aload_n (pc := 45) (j := 1) K d_M_finish_45 rfl ?_
  refine g_iload_n (pc := 46) (j := 4) K d_M_finish_46 rfl ?_
  refine g_if_ne (pc := 47) (tgt := 54) K d_M_finish_47 (by decide) (fun _ => ?_) (fun _ => ?_)
  · refine g_iload (pc := 54) (j := 0) K d_M_finish_54 rfl ?_
    refine g_if_ne (pc := 56) (tgt := 63) K d_M_finish_56 (by decide) (fun _ => ?_) (fun _ => ?_)
    · refine g_aload_n (pc := 63) (j := 1) K d_M_finish_63 rfl ?_
      refine g_iload_n (pc := 64) (j := 3) K d_M_finish_64 rfl ?_
      refine g_callV (pc := 65) (ci := 4) (a := a0) (vs := [.int x2]) (st := [.ref a0]) (mkc := mkI σ) K rfl (by decide) cn_M_serves (fun l hl r hr => k_M_serves l hl _ _ _ r hr) mw_692 mw_694 ms_19 ⟨by decide, by decide, by decide, by decide⟩ d_M_finish_65 rfl rfl (Nat.le_of_ble_eq_true rfl) (fun v5 _ => ?_)
      change G Γ mkW 0 0 68 [(4, .int t0), (0, .ref a0), (1, .int x1), (2, .int x2), (3, .int x3)] [.int v5, .ref a0] σ _
      refine g_if_ne (pc := 68) (tgt := 75) K d_M_finish_68 (by decide) (fun _ => ?_) (fun _ => ?_)
      · refine g_iconst (pc := 75) (v := 0) K d_M_finish_75 (by decide) ?_
        refine g_sub (L' := [(0, .ref a0), (1, .int x1), (2, .int x2)]) [1, 2, 3] rfl ?_
        exact gb_M_finish_76 K S T hI σ a0 x1 x2 a0 (0 : Int32)
      · refine g_iconst (pc := 71) (v := 3) K d_M_finish_71 (by decide) ?_
        refine g_goto (pc := 72) (tgt := 76) K d_M_finish_72 (by decide) ?_
        refine g_sub (L' := [(0, .ref a0), (1, .int x1), (2, .int x2)]) [1, 2, 3] rfl ?_
        exact gb_M_finish_76 K S T hI σ a0 x1 x2 a0 (3 : Int32)
    · refine g_iconst (pc := 59) (v := 2) K d_M_finish_59 (by decide) ?_
      refine g_goto (pc := 60) (tgt := 76) K d_M_finish_60 (by decide) ?_
      refine g_sub (L' := [(0, .ref a0), (1, .int x1), (2, .int x2)]) [1, 2, 3] rfl ?_
      exact gb_M_finish_76 K S T hI σ a0 x1 x2 a0 (2 : Int32)
  · refine g_iconst (pc := 50) (v := 1) K d_M_finish_50 (by decide) ?_
    refine g_goto (pc := 51) (tgt := 76) K d_M_finish_51 (by decide) ?_
    refine g_sub (L' := [(0, .ref a0), (1, .int x1), (2, .int x2)]) [1, 2, 3] rfl ?_
    exact gb_M_finish_76 K S T hI σ a0 x1 x2 a0 (1 : Int32)
def b_M_finish_38  (σ : Sg) (a0 : Nat) (x1 : Int32) (x2 : Int32) (x3 : Int32) : Option (Int32 × Sg) := (b_M_finish_43 σ a0 x1 x2 x3 (1 : Int32))
set_option maxRecDepth 100000 in
set_option maxHeartbeats 4000000 in
theorem gb_M_finish_38 {Γ : GX} (K : Cx Γ "TapirGroupModel" prog_6_method_29_code 7 rm_M_finish) (S : Std Γ (some .boolean)) (T : Tb Γ []) (hI : y_M_finish.name = "<init>" → Ini Γ) (σ : Sg) (a0 : Nat) (x1 : Int32) (x2 : Int32) (x3 : Int32) : G Γ mkW 0 0 38 [(0, .ref a0), (1, .int x1), (2, .int x2), (3, .int x3)] [] σ (b_M_finish_38 σ a0 x1 x2 x3) := by
  unfold b_M_finish_38
  refine g_iconst (pc := 38) (v := 1) K d_M_finish_38 (by decide) ?_
  refine g_goto (pc := 39) (tgt := 43) K d_M_finish_39 (by decide) ?_
  exact gb_M_finish_43 K S T hI σ a0 x1 x2 x3 (1 : Int32)
def b_M_finish_19  (σ : Sg) (a0 : Nat) (x1 : Int32) (x2 : Int32) (t0 : Int32) : Option (Int32 × Sg) := (if a0 < σ.1 ∧ kd a0 = 4 then (f_M_stateOf σ a0 x1).bind (fun v3 => (if v3 = (4 : Int32) then (b_M_finish_38 σ a0 x1 x2 t0) else (if a0 < σ.1 ∧ kd a0 = 4 then (f_M_stateOf σ a0 x1).bind (fun v4 => (if v4 = (5 : Int32) then (b_M_finish_38 σ a0 x1 x2 t0) else (b_M_finish_43 σ a0 x1 x2 t0 (0 : Int32)))) else none))) else none)
set_option maxRecDepth 100000 in
set_option maxHeartbeats 4000000 in
theorem gb_M_finish_19 {Γ : GX} (K : Cx Γ "TapirGroupModel" prog_6_method_29_code 7 rm_M_finish) (S : Std Γ (some .boolean)) (T : Tb Γ []) (hI : y_M_finish.name = "<init>" → Ini Γ) (σ : Sg) (a0 : Nat) (x1 : Int32) (x2 : Int32) (t0 : Int32) : G Γ mkW 0 0 19 [(0, .ref a0), (1, .int x1), (2, .int x2)] [.int t0] σ (b_M_finish_19 σ a0 x1 x2 t0) := by
  unfold b_M_finish_19
  refine g_istore_n (pc := 19) (L' := [(3, .int t0), (0, .ref a0), (1, .int x1), (2, .int x2)]) K d_M_finish_19 (by decide) rfl ?_
  refine g_aload_n (pc := 20) (j := 1) K d_M_finish_20 rfl ?_
  refine g_iload_n (pc := 21) (j := 2) K d_M_finish_21 rfl ?_
  refine g_callV (pc := 22) (ci := 4) (a := a0) (vs := [.int x1]) (st := []) (mkc := mkI σ) K rfl (by decide) cn_M_stateOf (fun l hl r hr => k_M_stateOf l hl _ _ _ r hr) mw_684 mw_686 ms_17 ⟨by decide, by decide, by decide, by decide⟩ d_M_finish_22 rfl rfl (Nat.le_of_ble_eq_true rfl) (fun v3 _ => ?_)
  change G Γ mkW 0 0 25 [(3, .int t0), (0, .ref a0), (1, .int x1), (2, .int x2)] [.int v3] σ _
  refine g_iconst (pc := 25) (v := 4) K d_M_finish_25 (by decide) ?_
  refine g_icmp_eq (pc := 26) (tgt := 38) K d_M_finish_26 (by decide) (fun _ => ?_) (fun _ => ?_)
  · refine g_sub (L' := [(0, .ref a0), (1, .int x1), (2, .int x2), (3, .int t0)]) [1, 2, 3, 0] rfl ?_
    exact gb_M_finish_38 K S T hI σ a0 x1 x2 t0
  · refine g_aload_n (pc := 29) (j := 1) K d_M_finish_29 rfl ?_
    refine g_iload_n (pc := 30) (j := 2) K d_M_finish_30 rfl ?_
    refine g_callV (pc := 31) (ci := 4) (a := a0) (vs := [.int x1]) (st := []) (mkc := mkI σ) K rfl (by decide) cn_M_stateOf (fun l hl r hr => k_M_stateOf l hl _ _ _ r hr) mw_684 mw_686 ms_17 ⟨by decide, by decide, by decide, by decide⟩ d_M_finish_31 rfl rfl (Nat.le_of_ble_eq_true rfl) (fun v4 _ => ?_)
    change G Γ mkW 0 0 34 [(3, .int t0), (0, .ref a0), (1, .int x1), (2, .int x2)] [.int v4] σ _
    refine g_iconst (pc := 34) (v := 5) K d_M_finish_34 (by decide) ?_
    refine g_icmp_ne (pc := 35) (tgt := 42) K d_M_finish_35 (by decide) (fun _ => ?_) (fun _ => ?_)
    · refine g_iconst (pc := 42) (v := 0) K d_M_finish_42 (by decide) ?_
      refine g_sub (L' := [(0, .ref a0), (1, .int x1), (2, .int x2), (3, .int t0)]) [1, 2, 3, 0] rfl ?_
      exact gb_M_finish_43 K S T hI σ a0 x1 x2 t0 (0 : Int32)
    · refine g_sub (L' := [(0, .ref a0), (1, .int x1), (2, .int x2), (3, .int t0)]) [1, 2, 3, 0] rfl ?_
      exact gb_M_finish_38 K S T hI σ a0 x1 x2 t0
def b_M_finish_18  (σ : Sg) (a0 : Nat) (x1 : Int32) (x2 : Int32) : Option (Int32 × Sg) := (b_M_finish_19 σ a0 x1 x2 (0 : Int32))
set_option maxRecDepth 100000 in
set_option maxHeartbeats 4000000 in
theorem gb_M_finish_18 {Γ : GX} (K : Cx Γ "TapirGroupModel" prog_6_method_29_code 7 rm_M_finish) (S : Std Γ (some .boolean)) (T : Tb Γ []) (hI : y_M_finish.name = "<init>" → Ini Γ) (σ : Sg) (a0 : Nat) (x1 : Int32) (x2 : Int32) : G Γ mkW 0 0 18 [(0, .ref a0), (1, .int x1), (2, .int x2)] [] σ (b_M_finish_18 σ a0 x1 x2) := by
  unfold b_M_finish_18
  refine g_iconst (pc := 18) (v := 0) K d_M_finish_18 (by decide) ?_
  exact gb_M_finish_19 K S T hI σ a0 x1 x2 (0 : Int32)
def f_M_finish (σ : Sg) (a0 : Nat) (x1 : Int32) (x2 : Int32) : Option (Int32 × Sg) := ((f_M_isClient σ x1).bind (fun v1 => (if v1 = 0 then (b_M_finish_18 σ a0 x1 x2) else ((f_M_isReplica σ x2).bind (fun v2 => (if v2 = 0 then (b_M_finish_18 σ a0 x1 x2) else (b_M_finish_19 σ a0 x1 x2 (1 : Int32))))))))
set_option maxRecDepth 100000 in
set_option maxHeartbeats 4000000 in
theorem k_M_finish (l : Launch) (hl : l.stackTraces = false) (σ : Sg) (a0 : Nat) (x1 : Int32) (x2 : Int32) (r : (Int32 × Sg)) (h : f_M_finish σ a0 x1 x2 = some r) : Con l y_M_finish (.code y_M_finish prog_6_method_29_code 7 (some .boolean)) rm_M_finish [.ref a0, .int x1, .int x2] σ (mkW r) := by
  refine Con.of (mk := mkW) (o := f_M_finish σ a0 x1 x2) (z := r) (L0 := [(0, .ref a0), (1, .int x1), (2, .int x2)]) (bytes := prog_6_method_29_code) (maxL := 7) (ret := (some .boolean)) (hh := []) hl (by decide +kernel) (Or.inl ⟨rfl, rfl⟩) (by simp [Value.category]) (Nat.le_of_ble_eq_true rfl) rfl (fun Γ K S T hI => ?_) h rfl
  unfold f_M_finish
  refine g_iload_n (pc := 0) (j := 1) K d_M_finish_0 rfl ?_
  refine g_callS (pc := 1) (vs := [.int x1]) (st := []) (mkc := mkI σ) K cn_M_isClient (fun l hl r hr => k_M_isClient l hl _ _ r hr) mw_660 mw_661 ⟨by decide, by decide, by decide, by decide⟩ d_M_finish_1 rfl rfl (Nat.le_of_ble_eq_true rfl) (fun v1 _ => ?_)
  change G Γ mkW 0 0 4 [(0, .ref a0), (1, .int x1), (2, .int x2)] [.int v1] σ _
  refine g_if_eq (pc := 4) (tgt := 18) K d_M_finish_4 (by decide) (fun _ => ?_) (fun _ => ?_)
  · exact gb_M_finish_18 K S T hI σ a0 x1 x2
  · refine g_iload_n (pc := 7) (j := 2) K d_M_finish_7 rfl ?_
    refine g_callS (pc := 8) (vs := [.int x2]) (st := []) (mkc := mkI σ) K cn_M_isReplica (fun l hl r hr => k_M_isReplica l hl _ _ r hr) mw_681 mw_682 ⟨by decide, by decide, by decide, by decide⟩ d_M_finish_8 rfl rfl (Nat.le_of_ble_eq_true rfl) (fun v2 _ => ?_)
    change G Γ mkW 0 0 11 [(0, .ref a0), (1, .int x1), (2, .int x2)] [.int v2] σ _
    refine g_if_eq (pc := 11) (tgt := 18) K d_M_finish_11 (by decide) (fun _ => ?_) (fun _ => ?_)
    · exact gb_M_finish_18 K S T hI σ a0 x1 x2
    · refine g_iconst (pc := 14) (v := 1) K d_M_finish_14 (by decide) ?_
      refine g_goto (pc := 15) (tgt := 19) K d_M_finish_15 (by decide) ?_
      exact gb_M_finish_19 K S T hI σ a0 x1 x2 (1 : Int32)
