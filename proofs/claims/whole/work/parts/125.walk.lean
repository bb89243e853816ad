-- TapirGroupModel.client(II)I
def y_M_client : MethodName := ⟨"TapirGroupModel", "client", "(II)I"⟩
abbrev rm_M_client : Room := { frames := 2, cells := 0, slots := 0, locals := 42 }
theorem d_M_client_0 : decode prog_6_method_42_code 0 = .ok (.aload_n 0, 1) := by decide +kernel
theorem d_M_client_1 : decode prog_6_method_42_code 1 = .ok (.iconst 0, 1) := by decide +kernel
theorem d_M_client_2 : decode prog_6_method_42_code 2 = .ok (.putfield 80, 3) := by decide +kernel
theorem d_M_client_5 : decode prog_6_method_42_code 5 = .ok (.iload_n 1, 1) := by decide +kernel
theorem d_M_client_6 : decode prog_6_method_42_code 6 = .ok (.invokestatic 88, 3) := by decide +kernel
theorem d_M_client_9 : decode prog_6_method_42_code 9 = .ok (.ifCond .eq 13, 3) := by decide +kernel
theorem d_M_client_12 : decode prog_6_method_42_code 12 = .ok (.iload_n 2, 1) := by decide +kernel
theorem d_M_client_13 : decode prog_6_method_42_code 13 = .ok (.iconst 0, 1) := by decide +kernel
theorem d_M_client_14 : decode prog_6_method_42_code 14 = .ok (.bipush 7, 2) := by decide +kernel
theorem d_M_client_16 : decode prog_6_method_42_code 16 = .ok (.invokestatic 84, 3) := by decide +kernel
theorem d_M_client_19 : decode prog_6_method_42_code 19 = .ok (.ifCond .ne 5, 3) := by decide +kernel
theorem d_M_client_22 : decode prog_6_method_42_code 22 = .ok (.iconst (-1), 1) := by decide +kernel
theorem d_M_client_23 : decode prog_6_method_42_code 23 = .ok (.ireturn, 1) := by decide +kernel
theorem d_M_client_24 : decode prog_6_method_42_code 24 = .ok (.aload_n 0, 1) := by decide +kernel
theorem d_M_client_25 : decode prog_6_method_42_code 25 = .ok (.getfield 37, 3) := by decide +kernel
theorem d_M_client_28 : decode prog_6_method_42_code 28 = .ok (.iload_n 1, 1) := by decide +kernel
theorem d_M_client_29 : decode prog_6_method_42_code 29 = .ok (.iaload, 1) := by decide +kernel
theorem d_M_client_30 : decode prog_6_method_42_code 30 = .ok (.istore_n 3, 1) := by decide +kernel
theorem d_M_client_31 : decode prog_6_method_42_code 31 = .ok (.aload_n 0, 1) := by decide +kernel
theorem d_M_client_32 : decode prog_6_method_42_code 32 = .ok (.getfield 34, 3) := by decide +kernel
theorem d_M_client_35 : decode prog_6_method_42_code 35 = .ok (.iload_n 1, 1) := by decide +kernel
theorem d_M_client_36 : decode prog_6_method_42_code 36 = .ok (.iaload, 1) := by decide +kernel
theorem d_M_client_37 : decode prog_6_method_42_code 37 = .ok (.ifCond .ne 15, 3) := by decide +kernel
theorem d_M_client_40 : decode prog_6_method_42_code 40 = .ok (.iload_n 2, 1) := by decide +kernel
theorem d_M_client_41 : decode prog_6_method_42_code 41 = .ok (.bipush 7, 2) := by decide +kernel
theorem d_M_client_43 : decode prog_6_method_42_code 43 = .ok (.if_icmp .ne 7, 3) := by decide +kernel
theorem d_M_client_46 : decode prog_6_method_42_code 46 = .ok (.iconst (-1), 1) := by decide +kernel
theorem d_M_client_47 : decode prog_6_method_42_code 47 = .ok (.goto 4, 3) := by decide +kernel
theorem d_M_client_50 : decode prog_6_method_42_code 50 = .ok (.iconst 0, 1) := by decide +kernel
theorem d_M_client_51 : decode prog_6_method_42_code 51 = .ok (.ireturn, 1) := by decide +kernel
theorem d_M_client_52 : decode prog_6_method_42_code 52 = .ok (.iload_n 2, 1) := by decide +kernel
theorem d_M_client_53 : decode prog_6_method_42_code 53 = .ok (.tableswitch 86 0 6 #[43, 50, 52, 59, 66, 73, 80], 43) := by decide +kernel
theorem d_M_client_96 : decode prog_6_method_42_code 96 = .ok (.aload_n 0, 1) := by decide +kernel
theorem d_M_client_97 : decode prog_6_method_42_code 97 = .ok (.getfield 34, 3) := by decide +kernel
theorem d_M_client_100 : decode prog_6_method_42_code 100 = .ok (.iload_n 1, 1) := by decide +kernel
theorem d_M_client_101 : decode prog_6_method_42_code 101 = .ok (.iaload, 1) := by decide +kernel
theorem d_M_client_102 : decode prog_6_method_42_code 102 = .ok (.ireturn, 1) := by decide +kernel
theorem d_M_client_103 : decode prog_6_method_42_code 103 = .ok (.iload_n 3, 1) := by decide +kernel
theorem d_M_client_104 : decode prog_6_method_42_code 104 = .ok (.ireturn, 1) := by decide +kernel
theorem d_M_client_105 : decode prog_6_method_42_code 105 = .ok (.aload_n 0, 1) := by decide +kernel
theorem d_M_client_106 : decode prog_6_method_42_code 106 = .ok (.getfield 7, 3) := by decide +kernel
theorem d_M_client_109 : decode prog_6_method_42_code 109 = .ok (.iload_n 3, 1) := by decide +kernel
theorem d_M_client_110 : decode prog_6_method_42_code 110 = .ok (.iaload, 1) := by decide +kernel
theorem d_M_client_111 : decode prog_6_method_42_code 111 = .ok (.ireturn, 1) := by decide +kernel
theorem d_M_client_112 : decode prog_6_method_42_code 112 = .ok (.aload_n 0, 1) := by decide +kernel
theorem d_M_client_113 : decode prog_6_method_42_code 113 = .ok (.getfield 13, 3) := by decide +kernel
theorem d_M_client_116 : decode prog_6_method_42_code 116 = .ok (.iload_n 3, 1) := by decide +kernel
theorem d_M_client_117 : decode prog_6_method_42_code 117 = .ok (.iaload, 1) := by decide +kernel
theorem d_M_client_118 : decode prog_6_method_42_code 118 = .ok (.ireturn, 1) := by decide +kernel
theorem d_M_client_119 : decode prog_6_method_42_code 119 = .ok (.aload_n 0, 1) := by decide +kernel
theorem d_M_client_120 : decode prog_6_method_42_code 120 = .ok (.getfield 25, 3) := by decide +kernel
theorem d_M_client_123 : decode prog_6_method_42_code 123 = .ok (.iload_n 3, 1) := by decide +kernel
theorem d_M_client_124 : decode prog_6_method_42_code 124 = .ok (.iaload, 1) := by decide +kernel
theorem d_M_client_125 : decode prog_6_method_42_code 125 = .ok (.ireturn, 1) := by decide +kernel
theorem d_M_client_126 : decode prog_6_method_42_code 126 = .ok (.aload_n 0, 1) := by decide +kernel
theorem d_M_client_127 : decode prog_6_method_42_code 127 = .ok (.iload_n 1, 1) := by decide +kernel
theorem d_M_client_128 : decode prog_6_method_42_code 128 = .ok (.iconst (-1), 1) := by decide +kernel
theorem d_M_client_129 : decode prog_6_method_42_code 129 = .ok (.invokevirtual 138, 3) := by decide +kernel
theorem d_M_client_132 : decode prog_6_method_42_code 132 = .ok (.ireturn, 1) := by decide +kernel
theorem d_M_client_133 : decode prog_6_method_42_code 133 = .ok (.aload_n 0, 1) := by decide +kernel
theorem d_M_client_134 : decode prog_6_method_42_code 134 = .ok (.iload_n 1, 1) := by decide +kernel
theorem d_M_client_135 : decode prog_6_method_42_code 135 = .ok (.invokevirtual 144, 3) := by decide +kernel
theorem d_M_client_138 : decode prog_6_method_42_code 138 = .ok (.ireturn, 1) := by decide +kernel
theorem d_M_client_139 : decode prog_6_method_42_code 139 = .ok (.aload_n 0, 1) := by decide +kernel
theorem d_M_client_140 : decode prog_6_method_42_code 140 = .ok (.getfield 34, 3) := by decide +kernel
theorem d_M_client_143 : decode prog_6_method_42_code 143 = .ok (.iload_n 1, 1) := by decide +kernel
theorem d_M_client_144 : decode prog_6_method_42_code 144 = .ok (.iaload, 1) := by decide +kernel
theorem d_M_client_145 : decode prog_6_method_42_code 145 = .ok (.iconst 3, 1) := by decide +kernel
theorem d_M_client_146 : decode prog_6_method_42_code 146 = .ok (.if_icmp .ne 12, 3) := by decide +kernel
theorem d_M_client_149 : decode prog_6_method_42_code 149 = .ok (.aload_n 0, 1) := by decide +kernel
theorem d_M_client_150 : decode prog_6_method_42_code 150 = .ok (.getfield 40, 3) := by decide +kernel
theorem d_M_client_153 : decode prog_6_method_42_code 153 = .ok (.iload_n 1, 1) := by decide +kernel
theorem d_M_client_154 : decode prog_6_method_42_code 154 = .ok (.iaload, 1) := by decide +kernel
theorem d_M_client_155 : decode prog_6_method_42_code 155 = .ok (.goto 4, 3) := by decide +kernel
theorem d_M_client_158 : decode prog_6_method_42_code 158 = .ok (.iconst (-1), 1) := by decide +kernel
theorem d_M_client_159 : decode prog_6_method_42_code 159 = .ok (.ireturn, 1) := by decide +kernel
theorem cn_M_client : CN y_M_client (.code y_M_client prog_6_method_42_code 4 (some .int)) prog_6_method_42_code 4 (some .int) [] 2 := ⟨Or.inl ⟨rfl, rfl⟩, mw_812, mw_5, ⟨by decide +kernel, by decide +kernel⟩, by decide +kernel⟩
def b_M_client_22  (σ : Sg)  : Option (Int32 × Sg) := (some ((-1 : Int32), σ))
set_option maxRecDepth 100000 in
set_option maxHeartbeats 4000000 in
theorem gb_M_client_22 {Γ : GX} (K : Cx Γ "TapirGroupModel" prog_6_method_42_code 4 rm_M_client) (S : Std Γ (some .int)) (T : Tb Γ []) (hI : y_M_client.name = "<init>" → Ini Γ) (σ : Sg)  : G Γ mkW 0 0 22 [] [] σ (b_M_client_22 σ ) := by
  unfold b_M_client_22
  refine g_iconst (pc := 22) (v := -1) K d_M_client_22 (by decide) ?_
  exact g_iret (pc := 23) K S rfl d_M_client_23 (by decide) (by decide) rfl
def b_M_client_159  (σ : Sg) (t0 : Int32) : Option (Int32 × Sg) := (some (t0, σ))
set_option maxRecDepth 100000 in
set_option maxHeartbeats 4000000 in
theorem gb_M_client_159 {Γ : GX} (K : Cx Γ "TapirGroupModel" prog_6_method_42_code 4 rm_M_client) (S : Std Γ (some .int)) (T : Tb Γ []) (hI : y_M_client.name = "<init>" → Ini Γ) (σ : Sg) (t0 : Int32) : G Γ mkW 0 0 159 [] [.int t0] σ (b_M_client_159 σ t0) := by
  unfold b_M_client_159
  exact g_iret (pc := 159) K S rfl d_M_client_159 (by decide) (by decide) rfl
def b_M_client_51  (σ : Sg) (t0 : Int32) : Option (Int32 × Sg) := (some (t0, σ))
set_option maxRecDepth 100000 in
set_option maxHeartbeats 4000000 in
theorem gb_M_client_51 {Γ : GX} (K : Cx Γ "TapirGroupModel" prog_6_method_42_code 4 rm_M_client) (S : Std Γ (some .int)) (T : Tb Γ []) (hI : y_M_client.name = "<init>" → Ini Γ) (σ : Sg) (t0 : Int32) : G Γ mkW 0 0 51 [] [.int t0] σ (b_M_client_51 σ t0) := by
  unfold b_M_client_51
  exact g_iret (pc := 51) K S rfl d_M_client_51 (by decide) (by decide) rfl
def f_M_client (σ : Sg) (a0 : Nat) (x1 : Int32) (x2 : Int32) : Option (Int32 × Sg) := (if a0 < σ.1 ∧ kd a0 = 4 then (wi (s_i σ a0 0 (0 : Int32)) (fun s1 => ((f_M_isClient s1 x1).bind (fun v2 => (if v2 = 0 then (b_M_client_22 s1) else ((f_M_in s1 x2 (0 : Int32) (7 : Int32)).bind (fun v3 => (if v3 = 0 then (b_M_client_22 s1) else (if a0 < s1.1 ∧ kd a0 = 4 then rc (g_r s1 a0 11) none (fun b4 => (if (b4 < s1.1 ∧ kd b4 = 10) ∧ inb x1 (ln b4) = true then (wn (g_i s1 b4 x1.toNatClampNeg) (fun y5 => (if a0 < s1.1 ∧ kd a0 = 4 then rc (g_r s1 a0 10) none (fun b6 => (if (b6 < s1.1 ∧ kd b6 = 10) ∧ inb x1 (ln b6) = true then (if (g_i s1 b6 x1.toNatClampNeg) = 0 then (if x2 = (7 : Int32) then (b_M_client_51 s1 (-1 : Int32)) else (b_M_client_51 s1 (0 : Int32))) else (if x2 = (0 : Int32) then (if a0 < s1.1 ∧ kd a0 = 4 then rc (g_r s1 a0 10) none (fun b7 => (if (b7 < s1.1 ∧ kd b7 = 10) ∧ inb x1 (ln b7) = true then (some ((g_i s1 b7 x1.toNatClampNeg), s1)) else none)) else none) else (if x2 = (1 : Int32) then (some (y5, s1)) else (if x2 = (2 : Int32) then (if a0 < s1.1 ∧ kd a0 = 4 then rc (g_r s1 a0 2) none (fun b8 => (if (b8 < s1.1 ∧ kd b8 = 10) ∧ inb y5 (ln b8) = true then (some ((g_i s1 b8 y5.toNatClampNeg), s1)) else none)) else none) else (if x2 = (3 : Int32) then (if a0 < s1.1 ∧ kd a0 = 4 then rc (g_r s1 a0 3) none (fun b9 => (if (b9 < s1.1 ∧ kd b9 = 10) ∧ inb y5 (ln b9) = true then (some ((g_i s1 b9 y5.toNatClampNeg), s1)) else none)) else none) else (if x2 = (4 : Int32) then (if a0 < s1.1 ∧ kd a0 = 4 then rc (g_r s1 a0 7) none (fun b10 => (if (b10 < s1.1 ∧ kd b10 = 10) ∧ inb y5 (ln b10) = true then (some ((g_i s1 b10 y5.toNatClampNeg), s1)) else none)) else none) else (if x2 = (5 : Int32) then (if a0 < s1.1 ∧ kd a0 = 4 then (f_M_count s1 a0 x1 (-1 : Int32)).bind (fun v11 => (some (v11, s1))) else none) else (if x2 = (6 : Int32) then (if a0 < s1.1 ∧ kd a0 = 4 then (f_M_confirmations s1 a0 x1).bind (fun v12 => (some (v12, s1))) else none) else (if a0 < s1.1 ∧ kd a0 = 4 then rc (g_r s1 a0 10) none (fun b13 => (if (b13 < s1.1 ∧ kd b13 = 10) ∧ inb x1 (ln b13) = true then (if (g_i s1 b13 x1.toNatClampNeg) = (3 : Int32) then (if a0 < s1.1 ∧ kd a0 = 4 then rc (g_r s1 a0 12) none (fun b14 => (if (b14 < s1.1 ∧ kd b14 = 10) ∧ inb x1 (ln b14) = true then (b_M_client_159 s1 (g_i s1 b14 x1.toNatClampNeg)) else none)) else none) else (b_M_client_159 s1 (-1 : Int32))) else none)) else none))))))))) else none)) else none))) else none)) else none))))))))) else none)
set_option maxRecDepth 100000 in
set_option maxHeartbeats 4000000 in
theorem k_M_client (l : Launch) (hl : l.stackTraces = false) (σ : Sg) (a0 : Nat) (x1 : Int32) (x2 : Int32) (r : (Int32 × Sg)) (h : f_M_client σ a0 x1 x2 = some r) : Con l y_M_client (.code y_M_client prog_6_method_42_code 4 (some .int)) rm_M_client [.ref a0, .int x1, .int x2] σ (mkW r) := by
  refine Con.of (mk := mkW) (o := f_M_client σ a0 x1 x2) (z := r) (L0 := [(0, .ref a0), (1, .int x1), (2, .int x2)]) (bytes := prog_6_method_42_code) (maxL := 4) (ret := (some .int)) (hh := []) hl (by decide +kernel) (Or.inl ⟨rfl, rfl⟩) (by simp [Value.category]) (Nat.le_of_ble_eq_true rfl) rfl (fun Γ K S T hI => ?_) h rfl
  unfold f_M_client
  refine g_aload_n (pc := 0) (j := 0) K d_M_client_0 rfl ?_
  refine g_iconst (pc := 1) (v := 0) K d_M_client_1 (by decide) ?_
  refine g_putI (pc := 2) K fl_M_80 d_M_client_2 ?_
  refine g_wi (fun s1 _ => ?_)
  refine g_iload_n (pc := 5) (j := 1) K d_M_client_5 rfl ?_
  refine g_callS (pc := 6) (vs := [.int x1]) (st := []) (mkc := mkI s1) K cn_M_isClient (fun l hl r hr => k_M_isClient l hl _ _ r hr) mw_660 mw_661 ⟨by decide, by decide, by decide, by decide⟩ d_M_client_6 rfl rfl (Nat.le_of_ble_eq_true rfl) (fun v2 _ => ?_)
  change G Γ mkW 0 0 9 [(0, .ref a0), (1, .int x1), (2, .int x2)] [.int v2] s1 _
  refine g_if_eq (pc := 9) (tgt := 22) K d_M_client_9 (by decide) (fun _ => ?_) (fun _ => ?_)
  · refine g_sub (L' := []) [] rfl ?_
    exact gb_M_client_22 K S T hI s1
  · refine g_iload_n (pc := 12) (j := 2) K d_M_client_12 rfl ?_
    refine g_iconst (pc := 13) (v := 0) K d_M_client_13 (by decide) ?_
    refine g_bipush (pc := 14) (v := 7) K d_M_client_14 (by decide) ?_
    refine g_callS (pc := 16) (vs := [.int x2, .int (0 : Int32), .int (7 : Int32)]) (st := []) (mkc := mkI s1) K cn_M_in (fun l hl r hr => k_M_in l hl _ _ _ _ r hr) mw_663 mw_664 ⟨by decide, by decide, by decide, by decide⟩ d_M_client_16 rfl rfl (Nat.le_of_ble_eq_true rfl) (fun v3 _ => ?_)
    change G Γ mkW 0 0 19 [(0, .ref a0), (1, .int x1), (2, .int x2)] [.int v3] s1 _
    refine g_if_ne (pc := 19) (tgt := 24) K d_M_client_19 (by decide) (fun _ => ?_) (fun _ => ?_)
    · refine g_aload_n (pc := 24) (j := 0) K d_M_client_24 rfl ?_
      refine g_getR (pc := 25) K fl_M_37 d_M_client_25 (fun _ => ?_) (fun b4 _ => ?_)
      · exact g_none
      · refine g_iload_n (pc := 28) (j := 1) K d_M_client_28 rfl ?_
        refine g_iald (pc := 29) K d_M_client_29 ?_
        refine g_wn (fun y5 _ => ?_)
        refine g_istore_n (pc := 30) (L' := [(3, .int y5), (0, .ref a0), (1, .int x1), (2, .int x2)]) K d_M_client_30 (by decide) rfl ?_
        refine g_aload_n (pc := 31) (j := 1) K d_M_client_31 rfl ?_
        refine g_getR (pc := 32) K fl_M_34 d_M_client_32 (fun _ => ?_) (fun b6 _ => ?_)
        · exact g_none
        · refine g_iload_n (pc := 35) (j := 2) K d_M_client_35 rfl ?_
          refine g_iald (pc := 36) K d_M_client_36 ?_
          refine g_if_ne (pc := 37) (tgt := 52) K d_M_client_37 (by decide) (fun _ => ?_) (fun _ => ?_)
          · refine g_iload_n (pc := 52) (j := 3) K d_M_client_52 rfl ?_
            refine g_ite (fun h => ?_) (fun h0 => ?_)
            · refine g_tableIn (pc := 53) (off := 43) (tgt := 96) K d_M_client_53 (by rw [h]; decide) (by rw [h]; decide) (by rw [h]; decide) (by decide) ?_
              refine g_aload_n (pc := 96) (j := 1) K d_M_client_96 rfl ?_
              refine g_getR (pc := 97) K fl_M_34 d_M_client_97 (fun _ => ?_) (fun b7 _ => ?_)
              · exact g_none
              · refine g_iload_n (pc := 100) (j := 2) K d_M_client_100 rfl ?_
                refine g_iald (pc := 101) K d_M_client_101 ?_
                exact g_iret (pc := 102) K S rfl d_M_client_102 (by decide) (by decide) rfl
            · refine g_ite (fun h => ?_) (fun h1 => ?_)
              · refine g_tableIn (pc := 53) (off := 50) (tgt := 103) K d_M_client_53 (by rw [h]; decide) (by rw [h]; decide) (by rw [h]; decide) (by decide) ?_
                refine g_iload_n (pc := 103) (j := 0) K d_M_client_103 rfl ?_
                exact g_iret (pc := 104) K S rfl d_M_client_104 (by decide) (by decide) rfl
              · refine g_ite (fun h => ?_) (fun h2 => ?_)
                · refine g_tableIn (pc := 53) (off := 52) (tgt := 105) K d_M_client_53 (by rw [h]; decide) (by rw [h]; decide) (by rw [h]; decide) (by decide) ?_
                  refine g_aload_n (pc := 105) (j := 1) K d_M_client_105 rfl ?_
                  refine g_getR (pc := 106) K fl_M_7 d_M_client_106 (fun _ => ?_) (fun b8 _ => ?_)
                  · exact g_none
                  · refine g_iload_n (pc := 109) (j := 0) K d_M_client_109 rfl ?_
                    refine g_iald (pc := 110) K d_M_client_110 ?_
                    exact g_iret (pc := 111) K S rfl d_M_client_111 (by decide) (by decide) rfl
                · refine g_ite (fun h => ?_) (fun h3 => ?_)
                  · refine g_tableIn (pc := 53) (off := 59) (tgt := 112) K d_M_client_53 (by rw [h]; decide) (by rw [h]; decide) (by rw [h]; decide) (by decide) ?_
                    refine g_aload_n (pc := 112) (j := 1) K d_M_client_112 rfl ?_
                    refine g_getR (pc := 113) K fl_M_13 d_M_client_113 (fun _ => ?_) (fun b9 _ => ?_)
                    · exact g_none
                    · refine g_iload_n (pc := 116) (j := 0) K d_M_client_116 rfl ?_
                      refine g_iald (pc := 117) K d_M_client_117 ?_
                      exact g_iret (pc := 118) K S rfl d_M_client_118 (by decide) (by decide) rfl
                  · refine g_ite (fun h => ?_) (fun h4 => ?_)
                    · refine g_tableIn (pc := 53) (off := 66) (tgt := 119) K d_M_client_53 (by rw [h]; decide) (by rw [h]; decide) (by rw [h]; decide) (by decide) ?_
                      refine g_aload_n (pc := 119) (j := 1) K d_M_client_119 rfl ?_
                      refine g_getR (pc := 120) K fl_M_25 d_M_client_120 (fun _ => ?_) (fun b10 _ => ?_)
                      · exact g_none
                      · refine g_iload_n (pc := 123) (j := 0) K d_M_client_123 rfl ?_
                        refine g_iald (pc := 124) K d_M_client_124 ?_
                        exact g_iret (pc := 125) K S rfl d_M_client_125 (by decide) (by decide) rfl
                    · refine g_ite (fun h => ?_) (fun h5 => ?_)
                      · refine g_tableIn (pc := 53) (off := 73) (tgt := 126) K d_M_client_53 (by rw [h]; decide) (by rw [h]; decide) (by rw [h]; decide) (by decide) ?_
                        refine g_aload_n (pc := 126) (j := 1) K d_M_client_126 rfl ?_
                        refine g_iload_n (pc := 127) (j := 2) K d_M_client_127 rfl ?_
                        refine g_iconst (pc := 128) (v := -1) K d_M_client_128 (by decide) ?_
                        refine g_callV (pc := 129) (ci := 4) (a := a0) (vs := [.int x1, .int (-1 : Int32)]) (st := []) (mkc := mkI s1) K rfl (by decide) cn_M_count (fun l hl r hr => k_M_count l hl _ _ _ _ r hr) mw_733 mw_735 ms_25 ⟨by decide, by decide, by decide, by decide⟩ d_M_client_129 rfl rfl (Nat.le_of_ble_eq_true rfl) (fun v11 _ => ?_)
                        change G Γ mkW 0 0 132 [(3, .int y5), (0, .ref a0), (1, .int x1), (2, .int x2)] [.int v11] s1 _
                        exact g_iret (pc := 132) K S rfl d_M_client_132 (by decide) (by decide) rfl
                      · refine g_ite (fun h => ?_) (fun h6 => ?_)
                        · refine g_tableIn (pc := 53) (off := 80) (tgt := 133) K d_M_client_53 (by rw [h]; decide) (by rw [h]; decide) (by rw [h]; decide) (by decide) ?_
                          refine g_aload_n (pc := 133) (j := 1) K d_M_client_133 rfl ?_
                          refine g_iload_n (pc := 134) (j := 2) K d_M_client_134 rfl ?_
                          refine g_callV (pc := 135) (ci := 4) (a := a0) (vs := [.int x1]) (st := []) (mkc := mkI s1) K rfl (by decide) cn_M_confirmations (fun l hl r hr => k_M_confirmations l hl _ _ _ r hr) mw_745 mw_747 ms_27 ⟨by decide, by decide, by decide, by decide⟩ d_M_client_135 rfl rfl (Nat.le_of_ble_eq_true rfl) (fun v12 _ => ?_)
                          change G Γ mkW 0 0 138 [(3, .int y5), (0, .ref a0), (1, .int x1), (2, .int x2)] [.int v12] s1 _
                          exact g_iret (pc := 138) K S rfl d_M_client_138 (by decide) (by decide) rfl
                        · have n0 := lv_neT h0 (show (0 : Int32).toInt = 0 from by decide)
                          have n1 := lv_neT h1 (show (1 : Int32).toInt = 1 from by decide)
                          have n2 := lv_neT h2 (show (2 : Int32).toInt = 2 from by decide)
                          have n3 := lv_neT h3 (show (3 : Int32).toInt = 3 from by decide)
                          have n4 := lv_neT h4 (show (4 : Int32).toInt = 4 from by decide)
                          have n5 := lv_neT h5 (show (5 : Int32).toInt = 5 from by decide)
                          have n6 := lv_neT h6 (show (6 : Int32).toInt = 6 from by decide)
                          refine g_tableOut (pc := 53) (tgt := 139) K d_M_client_53 (by omega) (by decide) ?_
                          refine g_aload_n (pc := 139) (j := 1) K d_M_client_139 rfl ?_
                          refine g_getR (pc := 140) K fl_M_34 d_M_client_140 (fun _ => ?_) (fun b13 _ => ?_)
                          · exact g_none
                          · refine g_iload_n (pc := 143) (j := 2) K d_M_client_143 rfl ?_
                            refine g_iald (pc := 144) K d_M_client_144 ?_
                            refine g_iconst (pc := 145) (v := 3) K d_M_client_145 (by decide) ?_
                            refine g_icmp_ne (pc := 146) (tgt := 158) K d_M_client_146 (by decide) (fun _ => ?_) (fun _ => ?_)
                            · refine g_iconst (pc := 158) (v := -1) K d_M_client_158 (by decide) ?_
                              refine g_sub (L' := []) [] rfl ?_
                              exact gb_M_client_159 K S T hI s1 (-1 : Int32)
                            · refine g_aload_n (pc := 149) (j := 1) K d_M_client_149 rfl ?_
                              refine g_getR (pc := 150) K fl_M_40 d_M_client_150 (fun _ => ?_) (fun b14 _ => ?_)
                              · exact g_none
                              · refine g_iload_n (pc := 153) (j := 2) K d_M_client_153 rfl ?_
                                refine g_iald (pc := 154) K d_M_client_154 ?_
                                refine g_goto (pc := 155) (tgt := 159) K d_M_client_155 (by decide) ?_
                                refine g_sub (L' := []) [] rfl ?_
                                exact gb_M_client_159 K S T hI s1 (g_i s1 b14 x1.toNatClampNeg)
          · refine g_iload_n (pc := 40) (j := 3) K d_M_client_40 rfl ?_
            refine g_bipush (pc := 41) (v := 7) K d_M_client_41 (by decide) ?_
            refine g_icmp_ne (pc := 43) (tgt := 50) K d_M_client_43 (by decide) (fun _ => ?_) (fun _ => ?_)
            · refine g_iconst (pc := 50) (v := 0) K d_M_client_50 (by decide) ?_
              refine g_sub (L' := []) [] rfl ?_
              exact gb_M_client_51 K S T hI s1 (0 : Int32)
            · refine g_iconst (pc := 46) (v := -1) K d_M_client_46 (by decide) ?_
              refine g_goto (pc := 47) (tgt := 51) K d_M_client_47 (by decide) ?_
              refine g_sub (L' := []) [] rfl ?_
              exact gb_M_client_51 K S T hI s1 (-1 : Int32)
    · refine g_sub (L' := []) [] rfl ?_
      exact gb_M_client_22 K S T hI s1
-- TapirGroupModel.at(III)I
def y_M_at : MethodName := ⟨"TapirGroupModel", "at", "(III)I"⟩
abbrev rm_M_at : Room := { frames := 2, cells := 0, slots := 0, locals := 42 }
theorem d_M_at_0 : decode prog_6_method_43_code 0 = .ok (.aload_n 0, 1) := by decide +kernel
theorem d_M_at_1 : decode prog_6_method_43_code 1 = .ok (.iconst 0, 1) := by decide +kernel
theorem d_M_at_2 : decode prog_6_method_43_code 2 = .ok (.putfield 80, 3) := by decide +kernel
theorem d_M_at_5 : decode prog_6_method_43_code 5 = .ok (.iload_n 1, 1) := by decide +kernel
theorem d_M_at_6 : decode prog_6_method_43_code 6 = .ok (.invokestatic 109, 3) := by decide +kernel
theorem d_M_at_9 : decode prog_6_method_43_code 9 = .ok (.ifCond .eq 10, 3) := by decide +kernel
theorem d_M_at_12 : decode prog_6_method_43_code 12 = .ok (.iload_n 2, 1) := by decide +kernel
theorem d_M_at_13 : decode prog_6_method_43_code 13 = .ok (.invokestatic 106, 3) := by decide +kernel
theorem d_M_at_16 : decode prog_6_method_43_code 16 = .ok (.ifCond .ne 5, 3) := by decide +kernel
theorem d_M_at_19 : decode prog_6_method_43_code 19 = .ok (.iconst (-1), 1) := by decide +kernel
theorem d_M_at_20 : decode prog_6_method_43_code 20 = .ok (.ireturn, 1) := by decide +kernel
theorem d_M_at_21 : decode prog_6_method_43_code 21 = .ok (.bipush 6, 2) := by decide +kernel
theorem d_M_at_23 : decode prog_6_method_43_code 23 = .ok (.iload_n 1, 1) := by decide +kernel
theorem d_M_at_24 : decode prog_6_method_43_code 24 = .ok (.imul, 1) := by decide +kernel
theorem d_M_at_25 : decode prog_6_method_43_code 25 = .ok (.iload_n 2, 1) := by decide +kernel
theorem d_M_at_26 : decode prog_6_method_43_code 26 = .ok (.iadd, 1) := by decide +kernel
theorem d_M_at_27 : decode prog_6_method_43_code 27 = .ok (.istore 4, 2) := by decide +kernel
theorem d_M_at_29 : decode prog_6_method_43_code 29 = .ok (.iload_n 3, 1) := by decide +kernel
theorem d_M_at_30 : decode prog_6_method_43_code 30 = .ok (.ifCond .ne 13, 3) := by decide +kernel
theorem d_M_at_33 : decode prog_6_method_43_code 33 = .ok (.aload_n 0, 1) := by decide +kernel
theorem d_M_at_34 : decode prog_6_method_43_code 34 = .ok (.getfield 59, 3) := by decide +kernel
theorem d_M_at_37 : decode prog_6_method_43_code 37 = .ok (.iload 4, 2) := by decide +kernel
theorem d_M_at_39 : decode prog_6_method_43_code 39 = .ok (.iaload, 1) := by decide +kernel
theorem d_M_at_40 : decode prog_6_method_43_code 40 = .ok (.goto 34, 3) := by decide +kernel
theorem d_M_at_43 : decode prog_6_method_43_code 43 = .ok (.iload_n 3, 1) := by decide +kernel
theorem d_M_at_44 : decode prog_6_method_43_code 44 = .ok (.iconst 1, 1) := by decide +kernel
theorem d_M_at_45 : decode prog_6_method_43_code 45 = .ok (.if_icmp .ne 13, 3) := by decide +kernel
theorem d_M_at_48 : decode prog_6_method_43_code 48 = .ok (.aload_n 0, 1) := by decide +kernel
theorem d_M_at_49 : decode prog_6_method_43_code 49 = .ok (.getfield 62, 3) := by decide +kernel
theorem d_M_at_52 : decode prog_6_method_43_code 52 = .ok (.iload 4, 2) := by decide +kernel
theorem d_M_at_54 : decode prog_6_method_43_code 54 = .ok (.iaload, 1) := by decide +kernel
theorem d_M_at_55 : decode prog_6_method_43_code 55 = .ok (.goto 19, 3) := by decide +kernel
theorem d_M_at_58 : decode prog_6_method_43_code 58 = .ok (.iload_n 3, 1) := by decide +kernel
theorem d_M_at_59 : decode prog_6_method_43_code 59 = .ok (.iconst 2, 1) := by decide +kernel
theorem d_M_at_60 : decode prog_6_method_43_code 60 = .ok (.if_icmp .ne 13, 3) := by decide +kernel
theorem d_M_at_63 : decode prog_6_method_43_code 63 = .ok (.aload_n 0, 1) := by decide +kernel
theorem d_M_at_64 : decode prog_6_method_43_code 64 = .ok (.getfield 65, 3) := by decide +kernel
theorem d_M_at_67 : decode prog_6_method_43_code 67 = .ok (.iload 4, 2) := by decide +kernel
theorem d_M_at_69 : decode prog_6_method_43_code 69 = .ok (.iaload, 1) := by decide +kernel
theorem d_M_at_70 : decode prog_6_method_43_code 70 = .ok (.goto 4, 3) := by decide +kernel
theorem d_M_at_73 : decode prog_6_method_43_code 73 = .ok (.iconst (-1), 1) := by decide +kernel
theorem d_M_at_74 : decode prog_6_method_43_code 74 = .ok (.ireturn, 1) := by decide +kernel
theorem cn_M_at : CN y_M_at (.code y_M_at prog_6_method_43_code 5 (some .int)) prog_6_method_43_code 5 (some .int) [] 3 := ⟨Or.inl ⟨rfl, rfl⟩, mw_816, mw_5, ⟨by decide +kernel, by decide +kernel⟩, by decide +kernel⟩
def b_M_at_19  (σ : Sg)  : Option (Int32 × Sg) := (some ((-1 : Int32), σ))
set_option maxRecDepth 100000 in
set_option maxHeartbeats 4000000 in
theorem gb_M_at_19 {Γ : GX} (K : Cx Γ "TapirGroupModel" prog_6_method_43_code 5 rm_M_at) (S : Std Γ (some .int)) (T : Tb Γ []) (hI : y_M_at.name = "<init>" → Ini Γ) (σ : Sg)  : G Γ mkW 0 0 19 [] [] σ (b_M_at_19 σ ) := by
  unfold b_M_at_19
  refine g_iconst (pc := 19) (v := -1) K d_M_at_19 (by decide) ?_
  exact g_iret (pc := 20) K S rfl d_M_at_20 (by decide) (by decide) rfl
def b_M_at_74  (σ : Sg) (t0 : Int32) : Option (Int32 × Sg) := (some (t0, σ))
set_option maxRecDepth 100000 in
set_option maxHeartbeats 4000000 in
theorem gb_M_at_74 {Γ : GX} (K : Cx Γ "TapirGroupModel" prog_6_method_43_code 5 rm_M_at) (S : Std Γ (some .int)) (T : Tb Γ []) (hI : y_M_at.name = "<init>" → Ini Γ) (σ : Sg) (t0 : Int32) : G Γ mkW 0 0 74 [] [.int t0] σ (b_M_at_74 σ t0) := by
  unfold b_M_at_74
  exact g_iret (pc := 74) K S rfl d_M_at_74 (by decide) (by decide) rfl
def f_M_at (σ : Sg) (a0 : Nat) (x1 : Int32) (x2 : Int32) (x3 : Int32) : Option (Int32 × Sg) := (if a0 < σ.1 ∧ kd a0 = 4 then (wi (s_i σ a0 0 (0 : Int32)) (fun s1 => ((f_M_isReplica s1 x1).bind (fun v2 => (if v2 = 0 then (b_M_at_19 s1) else ((f_M_isKey s1 x2).bind (fun v3 => (if v3 = 0 then (b_M_at_19 s1) else (wn (((6 : Int32) * x1) + x2) (fun y4 => (if x3 = 0 then (if a0 < s1.1 ∧ kd a0 = 4 then rc (g_r s1 a0 18) none (fun b7 => (if (b7 < s1.1 ∧ kd b7 = 10) ∧ inb y4 (ln b7) = true then (b_M_at_74 s1 (g_i s1 b7 y4.toNatClampNeg)) else none)) else none) else (if x3 = (1 : Int32) then (if a0 < s1.1 ∧ kd a0 = 4 then rc (g_r s1 a0 19) none (fun b6 => (if (b6 < s1.1 ∧ kd b6 = 10) ∧ inb y4 (ln b6) = true then (b_M_at_74 s1 (g_i s1 b6 y4.toNatClampNeg)) else none)) else none) else (if x3 = (2 : Int32) then (if a0 < s1.1 ∧ kd a0 = 4 then rc (g_r s1 a0 20) none (fun b5 => (if (b5 < s1.1 ∧ kd b5 = 10) ∧ inb y4 (ln b5) = true then (b_M_at_74 s1 (g_i s1 b5 y4.toNatClampNeg)) else none)) else none) else (b_M_at_74 s1 (-1 : Int32))))))))))))))) else none)
set_option maxRecDepth 100000 in
set_option maxHeartbeats 4000000 in
theorem k_M_at (l : Launch) (hl : l.stackTraces = false) (σ : Sg) (a0 : Nat) (x1 : Int32) (x2 : Int32) (x3 : Int32) (r : (Int32 × Sg)) (h : f_M_at σ a0 x1 x2 x3 = some r) : Con l y_M_at (.code y_M_at prog_6_method_43_code 5 (some .int)) rm_M_at [.ref a0, .int x1, .int x2, .int x3] σ (mkW r) := by
  refine Con.of (mk := mkW) (o := f_M_at σ a0 x1 x2 x3) (z := r) (L0 := [(0, .ref a0), (1, .int x1), (2, .int x2), (3, .int x3)]) (bytes := prog_6_method_43_code) (maxL := 5) (ret := (some .int)) (hh := []) hl (by decide +kernel) (Or.inl ⟨rfl, rfl⟩) (by simp [Value.category]) (Nat.le_of_ble_eq_true rfl) rfl (fun Γ K S T hI => ?_) h rfl
  unfold f_M_at
  refine g_aload_n (pc := 0) (j := 0) K d_M_at_0 rfl ?_
  refine g_iconst (pc := 1) (v := 0) K d_M_at_1 (by decide) ?_
  refine g_putI (pc := 2) K fl_M_80 d_M_at_2 ?_
  refine g_wi (fun s1 _ => ?_)
  refine g_iload_n (pc := 5) (j := 1) K d_M_at_5 rfl ?_
  refine g_callS (pc := 6) (vs := [.int x1]) (st := []) (mkc := mkI s1) K cn_M_isReplica (fun l hl r hr => k_M_isReplica l hl _ _ r hr) mw_681 mw_682 ⟨by decide, by decide, by decide, by decide⟩ d_M_at_6 rfl rfl (Nat.le_of_ble_eq_true rfl) (fun v2 _ => ?_)
  change G Γ mkW 0 0 9 [(0, .ref a0), (1, .int x1), (2, .int x2), (3, .int x3)] [.int v2] s1 _
  refine g_if_eq (pc := 9) (tgt := 19) K d_M_at_9 (by decide) (fun _ => ?_) (fun _ => ?_)
  · refine g_sub (L' := []) [] rfl ?_
    exact gb_M_at_19 K S T hI s1
  · refine g_iload_n (pc := 12) (j := 2) K d_M_at_12 rfl ?_
    refine g_callS (pc := 13) (vs := [.int x2]) (st := []) (mkc := mkI s1) K cn_M_isKey (fun l hl r hr => k_M_isKey l hl _ _ r hr) mw_678 mw_679 ⟨by decide, by decide, by decide, by decide⟩ d_M_at_13 rfl rfl (Nat.le_of_ble_eq_true rfl) (fun v3 _ => ?_)
    change G Γ mkW 0 0 16 [(0, .ref a0), (1, .int x1), (2, .int x2), (3, .int x3)] [.int v3] s1 _
    refine g_if_ne (pc := 16) (tgt := 21) K d_M_at_16 (by decide) (fun _ => ?_) (fun _ => ?_)
    · refine g_bipush (pc := 21) (v := 6) K d_M_at_21 (by decide) ?_
      refine g_iload_n (pc := 23) (j := 1) K d_M_at_23 rfl ?_
      refine g_imul (pc := 24) K d_M_at_24 ?_
      refine g_iload_n (pc := 25) (j := 2) K d_M_at_25 rfl ?_
      refine g_iadd (pc := 26) K d_M_at_26 ?_
      refine g_wn (fun y4 _ => ?_)
      refine g_istore (pc := 27) (L' := [(4, .int y4), (0, .ref a0), (1, .int x1), (2, .int x2), (3, .int x3)]) K d_M_at_27 (by decide) rfl ?_
      refine g_iload_n (pc := 29) (j := 4) K d_M_at_29 rfl ?_
      refine g_if_ne (pc := 30) (tgt := 43) K d_M_at_30 (by decide) (fun _ => ?_) (fun _ => ?_)
      · refine g_iload_n (pc := 43) (j := 4) K d_M_at_43 rfl ?_
        refine g_iconst (pc := 44) (v := 1) K d_M_at_44 (by decide) ?_
        refine g_icmp_ne (pc := 45) (tgt := 58) K d_M_at_45 (by decide) (fun _ => ?_) (fun _ => ?_)
        · refine g_iload_n (pc := 58) (j := 4) K d_M_at_58 rfl ?_
          refine g_iconst (pc := 59) (v := 2) K d_M_at_59 (by decide) ?_
          refine g_icmp_ne (pc := 60) (tgt := 73) K d_M_at_60 (by decide) (fun _ => ?_) (fun _ => ?_)
          · refine g_iconst (pc := 73) (v := -1) K d_M_at_73 (by decide) ?_
            refine g_sub (L' := []) [] rfl ?_
            exact gb_M_at_74 K S T hI s1 (-1 : Int32)
          · refine g_aload_n (pc := 63) (j := 1) K d_M_at_63 rfl ?_
            refine g_getR (pc := 64) K fl_M_65 d_M_at_64 (fun _ => ?_) (fun b5 _ => ?_)
            · exact g_none
            · refine g_iload (pc := 67) (j := 0) K d_M_at_67 rfl ?_
              refine g_iald (pc := 69) K d_M_at_69 ?_
              refine g_goto (pc := 70) (tgt := 74) K d_M_at_70 (by decide) ?_
              refine g_sub (L' := []) [] rfl ?_
              exact gb_M_at_74 K S T hI s1 (g_i s1 b5 y4.toNatClampNeg)
        · refine g_aload_n (pc := 48) (j := 1) K d_M_at_48 rfl ?_
          refine g_getR (pc := 49) K fl_M_62 d_M_at_49 (fun _ => ?_) (fun b6 _ => ?_)
          · exact g_none
          · refine g_iload (pc := 52) (j := 0) K d_M_at_52 rfl ?_
            refine g_iald (pc := 54) K d_M_at_54 ?_
            refine g_goto (pc := 55) (tgt := 74) K d_M_at_55 (by decide) ?_
            refine g_sub (L' := []) [] rfl ?_
            exact gb_M_at_74 K S T hI s1 (g_i s1 b6 y4.toNatClampNeg)
      · refine g_aload_n (pc := 33) (j := 1) K d_M_at_33 rfl ?_
        refine g_getR (pc := 34) K fl_M_59 d_M_at_34 (fun _ => ?_) (fun b7 _ => ?_)
        · exact g_none
        · refine g_iload (pc := 37) (j := 0) K d_M_at_37 rfl ?_
          refine g_iald (pc := 39) K d_M_at_39 ?_
          refine g_goto (pc := 40) (tgt := 74) K d_M_at_40 (by decide) ?_
          refine g_sub (L' := []) [] rfl ?_
          exact gb_M_at_74 K S T hI s1 (g_i s1 b7 y4.toNatClampNeg)
    · refine g_sub (L' := []) [] rfl ?_
      exact gb_M_at_19 K S T hI s1
-- TapirGroupModel.record(II)I
def y_M_record : MethodName := ⟨"TapirGroupModel", "record", "(II)I"⟩
abbrev rm_M_record : Room := { frames := 2, cells := 0, slots := 0, locals := 42 }
theorem d_M_record_0 : decode prog_6_method_44_code 0 = .ok (.aload_n 0, 1) := by decide +kernel
theorem d_M_record_1 : decode prog_6_method_44_code 1 = .ok (.iconst 0, 1) := by decide +kernel
theorem d_M_record_2 : decode prog_6_method_44_code 2 = .ok (.putfield 80, 3) := by decide +kernel
theorem d_M_record_5 : decode prog_6_method_44_code 5 = .ok (.iload_n 1, 1) := by decide +kernel
theorem d_M_record_6 : decode prog_6_method_44_code 6 = .ok (.invokestatic 109, 3) := by decide +kernel
theorem d_M_record_9 : decode prog_6_method_44_code 9 = .ok (.ifCond .eq 15, 3) := by decide +kernel
theorem d_M_record_12 : decode prog_6_method_44_code 12 = .ok (.iload_n 2, 1) := by decide +kernel
theorem d_M_record_13 : decode prog_6_method_44_code 13 = .ok (.iconst 1, 1) := by decide +kernel
theorem d_M_record_14 : decode prog_6_method_44_code 14 = .ok (.aload_n 0, 1) := by decide +kernel
theorem d_M_record_15 : decode prog_6_method_44_code 15 = .ok (.getfield 96, 3) := by decide +kernel
theorem d_M_record_18 : decode prog_6_method_44_code 18 = .ok (.invokestatic 84, 3) := by decide +kernel
theorem d_M_record_21 : decode prog_6_method_44_code 21 = .ok (.ifCond .ne 5, 3) := by decide +kernel
theorem d_M_record_24 : decode prog_6_method_44_code 24 = .ok (.iconst (-1), 1) := by decide +kernel
theorem d_M_record_25 : decode prog_6_method_44_code 25 = .ok (.ireturn, 1) := by decide +kernel
theorem d_M_record_26 : decode prog_6_method_44_code 26 = .ok (.bipush 61, 2) := by decide +kernel
theorem d_M_record_28 : decode prog_6_method_44_code 28 = .ok (.iload_n 1, 1) := by decide +kernel
theorem d_M_record_29 : decode prog_6_method_44_code 29 = .ok (.imul, 1) := by decide +kernel
theorem d_M_record_30 : decode prog_6_method_44_code 30 = .ok (.iload_n 2, 1) := by decide +kernel
theorem d_M_record_31 : decode prog_6_method_44_code 31 = .ok (.iadd, 1) := by decide +kernel
theorem d_M_record_32 : decode prog_6_method_44_code 32 = .ok (.istore_n 3, 1) := by decide +kernel
theorem d_M_record_33 : decode prog_6_method_44_code 33 = .ok (.aload_n 0, 1) := by decide +kernel
theorem d_M_record_34 : decode prog_6_method_44_code 34 = .ok (.getfield 68, 3) := by decide +kernel
theorem d_M_record_37 : decode prog_6_method_44_code 37 = .ok (.iload_n 3, 1) := by decide +kernel
theorem d_M_record_38 : decode prog_6_method_44_code 38 = .ok (.iaload, 1) := by decide +kernel
theorem d_M_record_39 : decode prog_6_method_44_code 39 = .ok (.ifCond .ge 7, 3) := by decide +kernel
theorem d_M_record_42 : decode prog_6_method_44_code 42 = .ok (.iconst (-1), 1) := by decide +kernel
theorem d_M_record_43 : decode prog_6_method_44_code 43 = .ok (.goto 56, 3) := by decide +kernel
theorem d_M_record_46 : decode prog_6_method_44_code 46 = .ok (.aload_n 0, 1) := by decide +kernel
theorem d_M_record_47 : decode prog_6_method_44_code 47 = .ok (.getfield 68, 3) := by decide +kernel
theorem d_M_record_50 : decode prog_6_method_44_code 50 = .ok (.iload_n 3, 1) := by decide +kernel
theorem d_M_record_51 : decode prog_6_method_44_code 51 = .ok (.iaload, 1) := by decide +kernel
theorem d_M_record_52 : decode prog_6_method_44_code 52 = .ok (.aload_n 0, 1) := by decide +kernel
theorem d_M_record_53 : decode prog_6_method_44_code 53 = .ok (.getfield 71, 3) := by decide +kernel
theorem d_M_record_56 : decode prog_6_method_44_code 56 = .ok (.iload_n 3, 1) := by decide +kernel
theorem d_M_record_57 : decode prog_6_method_44_code 57 = .ok (.baload, 1) := by decide +kernel
theorem d_M_record_58 : decode prog_6_method_44_code 58 = .ok (.ifCond .eq 7, 3) := by decide +kernel
theorem d_M_record_61 : decode prog_6_method_44_code 61 = .ok (.iconst 4, 1) := by decide +kernel
theorem d_M_record_62 : decode prog_6_method_44_code 62 = .ok (.goto 4, 3) := by decide +kernel
theorem d_M_record_65 : decode prog_6_method_44_code 65 = .ok (.iconst 0, 1) := by decide +kernel
theorem d_M_record_66 : decode prog_6_method_44_code 66 = .ok (.iadd, 1) := by decide +kernel
theorem d_M_record_67 : decode prog_6_method_44_code 67 = .ok (.aload_n 0, 1) := by decide +kernel
theorem d_M_record_68 : decode prog_6_method_44_code 68 = .ok (.getfield 74, 3) := by decide +kernel
theorem d_M_record_71 : decode prog_6_method_44_code 71 = .ok (.iload_n 3, 1) := by decide +kernel
theorem d_M_record_72 : decode prog_6_method_44_code 72 = .ok (.baload, 1) := by decide +kernel
theorem d_M_record_73 : decode prog_6_method_44_code 73 = .ok (.ifCond .eq 8, 3) := by decide +kernel
theorem d_M_record_76 : decode prog_6_method_44_code 76 = .ok (.bipush 8, 2) := by decide +kernel
theorem d_M_record_78 : decode prog_6_method_44_code 78 = .ok (.goto 4, 3) := by decide +kernel
theorem d_M_record_81 : decode prog_6_method_44_code 81 = .ok (.iconst 0, 1) := by decide +kernel
theorem d_M_record_82 : decode prog_6_method_44_code 82 = .ok (.iadd, 1) := by decide +kernel
theorem d_M_record_83 : decode prog_6_method_44_code 83 = .ok (.aload_n 0, 1) := by decide +kernel
theorem d_M_record_84 : decode prog_6_method_44_code 84 = .ok (.getfield 77, 3) := by decide +kernel
theorem d_M_record_87 : decode prog_6_method_44_code 87 = .ok (.iload_n 3, 1) := by decide +kernel
theorem d_M_record_88 : decode prog_6_method_44_code 88 = .ok (.baload, 1) := by decide +kernel
theorem d_M_record_89 : decode prog_6_method_44_code 89 = .ok (.ifCond .eq 8, 3) := by decide +kernel
theorem d_M_record_92 : decode prog_6_method_44_code 92 = .ok (.bipush 16, 2) := by decide +kernel
theorem d_M_record_94 : decode prog_6_method_44_code 94 = .ok (.goto 4, 3) := by decide +kernel
theorem d_M_record_97 : decode prog_6_method_44_code 97 = .ok (.iconst 0, 1) := by decide +kernel
theorem d_M_record_98 : decode prog_6_method_44_code 98 = .ok (.iadd, 1) := by decide +kernel
theorem d_M_record_99 : decode prog_6_method_44_code 99 = .ok (.ireturn, 1) := by decide +kernel
theorem cn_M_record : CN y_M_record (.code y_M_record prog_6_method_44_code 4 (some .int)) prog_6_method_44_code 4 (some .int) [] 2 := ⟨Or.inl ⟨rfl, rfl⟩, mw_820, mw_5, ⟨by decide +kernel, by decide +kernel⟩, by decide +kernel⟩
def b_M_record_24  (σ : Sg)  : Option (Int32 × Sg) := (some ((-1 : Int32), σ))
set_option maxRecDepth 100000 in
set_option maxHeartbeats 4000000 in
theorem gb_M_record_24 {Γ : GX} (K : Cx Γ "TapirGroupModel" prog_6_method_44_code 4 rm_M_record) (S : Std Γ (some .int)) (T : Tb Γ []) (hI : y_M_record.name = "<init>" → Ini Γ) (σ : Sg)  : G Γ mkW 0 0 24 [] [] σ (b_M_record_24 σ ) := by
  unfold b_M_record_24
  refine g_iconst (pc := 24) (v := -1) K d_M_record_24 (by decide) ?_
  exact g_iret (pc := 25) K S rfl d_M_record_25 (by decide) (by decide) rfl
def b_M_record_99  (σ : Sg) (t0 : Int32) : Option (Int32 × Sg) := (some (t0, σ))
set_option maxRecDepth 100000 in
set_option maxHeartbeats 4000000 in
theorem gb_M_record_99 {Γ : GX} (K : Cx Γ "TapirGroupModel" prog_6_method_44_code 4 rm_M_record) (S : Std Γ (some .int)) (T : Tb Γ []) (hI : y_M_record.name = "<init>" → Ini Γ) (σ : Sg) (t0 : Int32) : G Γ mkW 0 0 99 [] [.int t0] σ (b_M_record_99 σ t0) := by
  unfold b_M_record_99
  exact g_iret (pc := 99) K S rfl d_M_record_99 (by decide) (by decide) rfl
def b_M_record_98  (σ : Sg) (t0 : Int32) (t1 : Int32) : Option (Int32 × Sg) := (b_M_record_99 σ (t0 + t1))
set_option maxRecDepth 100000 in
set_option maxHeartbeats 4000000 in
theorem gb_M_record_98 {Γ : GX} (K : Cx Γ "TapirGroupModel" prog_6_method_44_code 4 rm_M_record) (S : Std Γ (some .int)) (T : Tb Γ []) (hI : y_M_record.name = "<init>" → Ini Γ) (σ : Sg) (t0 : Int32) (t1 : Int32) : G Γ mkW 0 0 98 [] [.int t1, .int t0] σ (b_M_record_98 σ t0 t1) := by
  unfold b_M_record_98
  refine g_iadd (pc := 98) K d_M_record_98 ?_
  exact gb_M_record_99 K S T hI σ (t0 + t1)
def b_M_record_82  (σ : Sg) (a0 : Nat) (x3 : Int32) (t0 : Int32) (t1 : Int32) : Option (Int32 × Sg) := (if a0 < σ.1 ∧ kd a0 = 4 then rc (g_r σ a0 24) none (fun b9 => (if (b9 < σ.1 ∧ kd b9 = 11) ∧ inb x3 (ln b9) = true then (if (g_i σ b9 x3.toNatClampNeg) = 0 then (b_M_record_98 σ (t0 + t1) (0 : Int32)) else (b_M_record_98 σ (t0 + t1) (16 : Int32))) else none)) else none)
set_option maxRecDepth 100000 in
set_option maxHeartbeats 4000000 in
theorem gb_M_record_82 {Γ : GX} (K : Cx Γ "TapirGroupModel" prog_6_method_44_code 4 rm_M_record) (S : Std Γ (some .int)) (T : Tb Γ []) (hI : y_M_record.name = "<init>" → Ini Γ) (σ : Sg) (a0 : Nat) (x3 : Int32) (t0 : Int32) (t1 : Int32) : G Γ mkW 0 0 82 [(0, .ref a0), (3, .int x3)] [.int t1, .int t0] σ (b_M_record_82 σ a0 x3 t0 t1) := by
  unfold b_M_record_82
  refine g_iadd (pc := 82) K d_M_record_82 ?_
  refine g_aload_n (pc := 83) (j := 0) K d_M_record_83 rfl ?_
  refine g_getR (pc := 84) K fl_M_77 d_M_record_84 (fun _ => ?_) (fun b9 _ => ?_)
  · exact g_none
  · refine g_iload_n (pc := 87) (j := 1) K d_M_record_87 rfl ?_
    refine g_zald (pc := 88) K d_M_record_88 ?_
    refine g_if_eq (pc := 89) (tgt := 97) K d_M_record_89 (by decide) (fun _ => ?_) (fun _ => ?_)
    · refine g_iconst (pc := 97) (v := 0) K d_M_record_97 (by decide) ?_
      refine g_sub (L' := []) [] rfl ?_
      exact gb_M_record_98 K S T hI σ (t0 + t1) (0 : Int32)
    · refine g_bipush (pc := 92) (v := 16) K d_M_record_92 (by decide) ?_
      refine g_goto (pc := 94) (tgt := 98) K d_M_record_94 (by decide) ?_
      refine g_sub (L' := []) [] rfl ?_
      exact gb_M_record_98 K S T hI σ (t0 + t1) (16 : Int32)
def b_M_record_66  (σ : Sg) (a0 : Nat) (x3 : Int32) (t0 : Int32) (t1 : Int32) : Option (Int32 × Sg) := (if a0 < σ.1 ∧ kd a0 = 4 then rc (g_r σ a0 23) none (fun b8 => (if (b8 < σ.1 ∧ kd b8 = 11) ∧ inb x3 (ln b8) = true then (if (g_i σ b8 x3.toNatClampNeg) = 0 then (b_M_record_82 σ a0 x3 (t0 + t1) (0 : Int32)) else (b_M_record_82 σ a0 x3 (t0 + t1) (8 : Int32))) else none)) else none)
set_option maxRecDepth 100000 in
set_option maxHeartbeats 4000000 in
theorem gb_M_record_66 {Γ : GX} (K : Cx Γ "TapirGroupModel" prog_6_method_44_code 4 rm_M_record) (S : Std Γ (some .int)) (T : Tb Γ []) (hI : y_M_record.name = "<init>" → Ini Γ) (σ : Sg) (a0 : Nat) (x3 : Int32) (t0 : Int32) (t1 : Int32) : G Γ mkW 0 0 66 [(0, .ref a0), (3, .int x3)] [.int t1, .int t0] σ (b_M_record_66 σ a0 x3 t0 t1) := by
  unfold b_M_record_66
  refine g_iadd (pc := 66) K d_M_record_66 ?_
  refine g_aload_n (pc := 67) (j := 0) K d_M_record_67 rfl ?_
  refine g_getR (pc := 68) K fl_M_74 d_M_record_68 (fun _ => ?_) (fun b8 _ => ?_)
  · exact g_none
  · refine g_iload_n (pc := 71) (j := 1) K d_M_record_71 rfl ?_
    refine g_zald (pc := 72) K d_M_record_72 ?_
    refine g_if_eq (pc := 73) (tgt := 81) K d_M_record_73 (by decide) (fun _ => ?_) (fun _ => ?_)
    · refine g_iconst (pc := 81) (v := 0) K d_M_record_81 (by decide) ?_
      exact gb_M_record_82 K S T hI σ a0 x3 (t0 + t1) (0 : Int32)
    · refine g_bipush (pc := 76) (v := 8) K d_M_record_76 (by decide) ?_
      refine g_goto (pc := 78) (tgt := 82) K d_M_record_78 (by decide) ?_
      exact gb_M_record_82 K S T hI σ a0 x3 (t0 + t1) (8 : Int32)
def f_M_record (σ : Sg) (a0 : Nat) (x1 : Int32) (x2 : Int32) : Option (Int32 × Sg) := (if a0 < σ.1 ∧ kd a0 = 4 then (wi (s_i σ a0 0 (0 : Int32)) (fun s1 => ((f_M_isReplica s1 x1).bind (fun v2 => (if v2 = 0 then (b_M_record_24 s1) else (if a0 < s1.1 ∧ kd a0 = 4 then ((f_M_in s1 x2 (1 : Int32) (g_i s1 a0 1)).bind (fun v3 => (if v3 = 0 then (b_M_record_24 s1) else (wn (((61 : Int32) * x1) + x2) (fun y4 => (if a0 < s1.1 ∧ kd a0 = 4 then rc (g_r s1 a0 21) none (fun b5 => (if (b5 < s1.1 ∧ kd b5 = 10) ∧ inb y4 (ln b5) = true then (if 0 ≤ (g_i s1 b5 y4.toNatClampNeg) then (if a0 < s1.1 ∧ kd a0 = 4 then rc (g_r s1 a0 21) none (fun b6 => (if (b6 < s1.1 ∧ kd b6 = 10) ∧ inb y4 (ln b6) = true then (if a0 < s1.1 ∧ kd a0 = 4 then rc (g_r s1 a0 22) none (fun b7 => (if (b7 < s1.1 ∧ kd b7 = 11) ∧ inb y4 (ln b7) = true then (if (g_i s1 b7 y4.toNatClampNeg) = 0 then (b_M_record_66 s1 a0 y4 (g_i s1 b6 y4.toNatClampNeg) (0 : Int32)) else (b_M_record_66 s1 a0 y4 (g_i s1 b6 y4.toNatClampNeg) (4 : Int32))) else none)) else none) else none)) else none) else (b_M_record_99 s1 (-1 : Int32))) else none)) else none)))))) else none)))))) else none)
set_option maxRecDepth 100000 in
set_option maxHeartbeats 4000000 in
theorem k_M_record (l : Launch) (hl : l.stackTraces = false) (σ : Sg) (a0 : Nat) (x1 : Int32) (x2 : Int32) (r : (Int32 × Sg)) (h : f_M_record σ a0 x1 x2 = some r) : Con l y_M_record (.code y_M_record prog_6_method_44_code 4 (some .int)) rm_M_record [.ref a0, .int x1, .int x2] σ (mkW r) := by
  refine Con.of (mk := mkW) (o := f_M_record σ a0 x1 x2) (z := r) (L0 := [(0, .ref a0), (1, .int x1), (2, .int x2)]) (bytes := prog_6_method_44_code) (maxL := 4) (ret := (some .int)) (hh := []) hl (by decide +kernel) (Or.inl ⟨rfl, rfl⟩) (by simp [Value.category]) (Nat.le_of_ble_eq_true rfl) rfl (fun Γ K S T hI => ?_) h rfl
  unfold f_M_record
  refine g_aload_n (pc := 0) (j := 0) K d_M_record_0 rfl ?_
  refine g_iconst (pc := 1) (v := 0) K d_M_record_1 (by decide) ?_
  refine g_putI (pc := 2) K fl_M_80 d_M_record_2 ?_
  refine g_wi (fun s1 _ => ?_)
  refine g_iload_n (pc := 5) (j := 1) K d_M_record_5 rfl ?_
  refine g_callS (pc := 6) (vs := [.int x1]) (st := []) (mkc := mkI s1) K cn_M_isReplica (fun l hl r hr => k_M_isReplica l hl _ _ r hr) mw_681 mw_682 ⟨by decide, by decide, by decide, by decide⟩ d_M_record_6 rfl rfl (Nat.le_of_ble_eq_true rfl) (fun v2 _ => ?_)
  change G Γ mkW 0 0 9 [(0, .ref a0), (1, .int x1), (2, .int x2)] [.int v2] s1 _
  refine g_if_eq (pc := 9) (tgt := 24) K d_M_record_9 (by decide) (fun _ => ?_) (fun _ => ?_)
  · refine g_sub (L' := []) [] rfl ?_
    exact gb_M_record_24 K S T hI s1
  · refine g_iload_n (pc := 12) (j := 2) K d_M_record_12 rfl ?_
    refine g_iconst (pc := 13) (v := 1) K d_M_record_13 (by decide) ?_
    refine g_aload_n (pc := 14) (j := 0) K d_M_record_14 rfl ?_
    refine g_getI (pc := 15) K fl_M_96 d_M_record_15 ?_
    refine g_callS (pc := 18) (vs := [.int x2, .int (1 : Int32), .int (g_i s1 a0 1)]) (st := []) (mkc := mkI s1) K cn_M_in (fun l hl r hr => k_M_in l hl _ _ _ _ r hr) mw_663 mw_664 ⟨by decide, by decide, by decide, by decide⟩ d_M_record_18 rfl rfl (Nat.le_of_ble_eq_true rfl) (fun v3 _ => ?_)
    change G Γ mkW 0 0 21 [(0, .ref a0), (1, .int x1), (2, .int x2)] [.int v3] s1 _
    refine g_if_ne (pc := 21) (tgt := 26) K d_M_record_21 (by decide) (fun _ => ?_) (fun _ => ?_)
    · refine g_bipush (pc := 26) (v := 61) K d_M_record_26 (by decide) ?_
      refine g_iload_n (pc := 28) (j := 1) K d_M_record_28 rfl ?_
      refine g_imul (pc := 29) K d_M_record_29 ?_
      refine g_iload_n (pc := 30) (j := 2) K d_M_record_30 rfl ?_
      refine g_iadd (pc := 31) K d_M_record_31 ?_
      refine g_wn (fun y4 _ => ?_)
      refine g_istore_n (pc := 32) (L' := [(3, .int y4), (0, .ref a0), (1, .int x1), (2, .int x2)]) K d_M_record_32 (by decide) rfl ?_
      refine g_aload_n (pc := 33) (j := 1) K d_M_record_33 rfl ?_
      refine g_getR (pc := 34) K fl_M_68 d_M_record_34 (fun _ => ?_) (fun b5 _ => ?_)
      · exact g_none
      · refine g_iload_n (pc := 37) (j := 0) K d_M_record_37 rfl ?_
        refine g_iald (pc := 38) K d_M_record_38 ?_
        refine g_if_ge (pc := 39) (tgt := 46) K d_M_record_39 (by decide) (fun _ => ?_) (fun _ => ?_)
        · refine g_aload_n (pc := 46) (j := 1) K d_M_record_46 rfl ?_
          refine g_getR (pc := 47) K fl_M_68 d_M_record_47 (fun _ => ?_) (fun b6 _ => ?_)
          · exact g_none
          · refine g_iload_n (pc := 50) (j := 0) K d_M_record_50 rfl ?_
            refine g_iald (pc := 51) K d_M_record_51 ?_
            refine g_aload_n (pc := 52) (j := 1) K d_M_record_52 rfl ?_
            refine g_getR (pc := 53) K fl_M_71 d_M_record_53 (fun _ => ?_) (fun b7 _ => ?_)
            · exact g_none
            · refine g_iload_n (pc := 56) (j := 0) K d_M_record_56 rfl ?_
              refine g_zald (pc := 57) K d_M_record_57 ?_
              refine g_if_eq (pc := 58) (tgt := 65) K d_M_record_58 (by decide) (fun _ => ?_) (fun _ => ?_)
              · refine g_iconst (pc := 65) (v := 0) K d_M_record_65 (by decide) ?_
                refine g_sub (L' := [(0, .ref a0), (3, .int y4)]) [1, 0] rfl ?_
                exact gb_M_record_66 K S T hI s1 a0 y4 (g_i s1 b6 y4.toNatClampNeg) (0 : Int32)
              · refine g_iconst (pc := 61) (v := 4) K d_M_record_61 (by decide) ?_
                refine g_goto (pc := 62) (tgt := 66) K d_M_record_62 (by decide) ?_
                refine g_sub (L' := [(0, .ref a0), (3, .int y4)]) [1, 0] rfl ?_
                exact gb_M_record_66 K S T hI s1 a0 y4 (g_i s1 b6 y4.toNatClampNeg) (4 : Int32)
        · refine g_iconst (pc := 42) (v := -1) K d_M_record_42 (by decide) ?_
          refine g_goto (pc := 43) (tgt := 99) K d_M_record_43 (by decide) ?_
          refine g_sub (L' := []) [] rfl ?_
          exact gb_M_record_99 K S T hI s1 (-1 : Int32)
    · refine g_sub (L' := []) [] rfl ?_
      exact gb_M_record_24 K S T hI s1
