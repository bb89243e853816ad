-- TapirGroup$Client.answersWith(I)I
def y_C_answersWith : MethodName := ⟨"TapirGroup$Client", "answersWith", "(I)I"⟩
abbrev rm_C_answersWith : Room := { frames := 0, cells := 0, slots := 0, locals := 0 }
theorem d_C_answersWith_0 : decode prog_2_method_12_code 0 = .ok (.iconst 0, 1) := by decide +kernel
theorem d_C_answersWith_1 : decode prog_2_method_12_code 1 = .ok (.istore_n 2, 1) := by decide +kernel
theorem d_C_answersWith_2 : decode prog_2_method_12_code 2 = .ok (.iconst 0, 1) := by decide +kernel
theorem d_C_answersWith_3 : decode prog_2_method_12_code 3 = .ok (.istore_n 3, 1) := by decide +kernel
theorem d_C_answersWith_4 : decode prog_2_method_12_code 4 = .ok (.iload_n 3, 1) := by decide +kernel
theorem d_C_answersWith_5 : decode prog_2_method_12_code 5 = .ok (.iconst 3, 1) := by decide +kernel
theorem d_C_answersWith_6 : decode prog_2_method_12_code 6 = .ok (.if_icmp .ge 22, 3) := by decide +kernel
theorem d_C_answersWith_9 : decode prog_2_method_12_code 9 = .ok (.aload_n 0, 1) := by decide +kernel
theorem d_C_answersWith_10 : decode prog_2_method_12_code 10 = .ok (.getfield 28, 3) := by decide +kernel
theorem d_C_answersWith_13 : decode prog_2_method_12_code 13 = .ok (.iload_n 3, 1) := by decide +kernel
theorem d_C_answersWith_14 : decode prog_2_method_12_code 14 = .ok (.iaload, 1) := by decide +kernel
theorem d_C_answersWith_15 : decode prog_2_method_12_code 15 = .ok (.iload_n 1, 1) := by decide +kernel
theorem d_C_answersWith_16 : decode prog_2_method_12_code 16 = .ok (.if_icmp .ne 6, 3) := by decide +kernel
theorem d_C_answersWith_19 : decode prog_2_method_12_code 19 = .ok (.iinc 2 1, 3) := by decide +kernel
theorem d_C_answersWith_22 : decode prog_2_method_12_code 22 = .ok (.iinc 3 1, 3) := by decide +kernel
theorem d_C_answersWith_25 : decode prog_2_method_12_code 25 = .ok (.goto (-21), 3) := by decide +kernel
theorem d_C_answersWith_28 : decode prog_2_method_12_code 28 = .ok (.iload_n 2, 1) := by decide +kernel
theorem d_C_answersWith_29 : decode prog_2_method_12_code 29 = .ok (.ireturn, 1) := by decide +kernel
theorem cn_C_answersWith : CN y_C_answersWith (.code y_C_answersWith prog_2_method_12_code 4 (some .int)) prog_2_method_12_code 4 (some .int) [] 1 := ⟨Or.inl ⟨rfl, rfl⟩, mw_136, mw_4, ⟨by decide +kernel, by decide +kernel⟩, by decide +kernel⟩
def b_C_answersWith_22 (σ : Sg) (k : Nat → Int32 → Int32 → Int32 → Option Int32) (a0 : Nat) (x1 : Int32) (x2 : Int32) (x3 : Int32) : Option Int32 := (k a0 x1 x2 (x3 + 1))
set_option maxRecDepth 100000 in
set_option maxHeartbeats 4000000 in
theorem gb_C_answersWith_22 {Γ : GX} (K : Cx Γ "TapirGroup$Client" prog_2_method_12_code 4 rm_C_answersWith) (S : Std Γ (some .int)) (T : Tb Γ []) (hI : y_C_answersWith.name = "<init>" → Ini Γ) (σ : Sg) (k : Nat → Int32 → Int32 → Int32 → Option Int32) (hk : ∀ (a0 : Nat) (x1 : Int32) (x2 : Int32) (x3 : Int32), G Γ (mkI σ) 0 0 4 [(0, .ref a0), (1, .int x1), (2, .int x2), (3, .int x3)] [] σ (k a0 x1 x2 x3)) (a0 : Nat) (x1 : Int32) (x2 : Int32) (x3 : Int32) : G Γ (mkI σ) 0 0 22 [(0, .ref a0), (1, .int x1), (2, .int x2), (3, .int x3)] [] σ (b_C_answersWith_22 σ k a0 x1 x2 x3) := by
  unfold b_C_answersWith_22
  refine g_iinc (pc := 22) (j := 3) (v := (x3 + 1)) (L' := [(3, .int (x3 + 1)), (0, .ref a0), (1, .int x1), (2, .int x2)]) K d_C_answersWith_22 rfl (by rfl) (by decide) rfl ?_
  refine g_goto (pc := 25) (tgt := 4) K d_C_answersWith_25 (by decide) ?_
  refine g_sub (L' := [(0, .ref a0), (1, .int x1), (2, .int x2), (3, .int (x3 + 1))]) [1, 2, 3, 0] rfl ?_
  exact hk a0 x1 x2 (x3 + 1)
def b_C_answersWith_4 (σ : Sg) : Nat → Nat → Int32 → Int32 → Int32 → Option Int32
  | 0 => fun _ _ _ _ => none
  | n + 1 => fun a0 x1 x2 x3 => (if (3 : Int32) ≤ x3 then (some x2) else (if a0 < σ.1 ∧ kd a0 = 0 then rc (g_r σ a0 5) none (fun b1 => (if (b1 < σ.1 ∧ kd b1 = 10) ∧ inb x3 (ln b1) = true then (if (g_i σ b1 x3.toNatClampNeg) = x1 then (b_C_answersWith_22 σ (b_C_answersWith_4 σ n) a0 x1 (x2 + 1) x3) else (b_C_answersWith_22 σ (b_C_answersWith_4 σ n) a0 x1 x2 x3)) else none)) else none))
set_option maxRecDepth 100000 in
set_option maxHeartbeats 4000000 in
theorem gb_C_answersWith_4 {Γ : GX} (K : Cx Γ "TapirGroup$Client" prog_2_method_12_code 4 rm_C_answersWith) (S : Std Γ (some .int)) (T : Tb Γ []) (hI : y_C_answersWith.name = "<init>" → Ini Γ) (σ : Sg) (n : Nat) : ∀ (a0 : Nat) (x1 : Int32) (x2 : Int32) (x3 : Int32), G Γ (mkI σ) 0 0 4 [(0, .ref a0), (1, .int x1), (2, .int x2), (3, .int x3)] [] σ (b_C_answersWith_4 σ n a0 x1 x2 x3) := by
  induction n with
  | zero =>
    intro a0 x1 x2 x3
    exact g_none
  | succ n ih =>
    intro a0 x1 x2 x3
    rw [b_C_answersWith_4]
    refine g_iload_n (pc := 4) (j := 3) K d_C_answersWith_4 rfl ?_
    refine g_iconst (pc := 5) (v := 3) K d_C_answersWith_5 (by decide) ?_
    refine g_icmp_ge (pc := 6) (tgt := 28) K d_C_answersWith_6 (by decide) (fun _ => ?_) (fun _ => ?_)
    · refine g_iload_n (pc := 28) (j := 2) K d_C_answersWith_28 rfl ?_
      exact g_iret (pc := 29) K S rfl d_C_answersWith_29 (by decide) (by decide) rfl
    · refine g_aload_n (pc := 9) (j := 0) K d_C_answersWith_9 rfl ?_
      refine g_getR (pc := 10) K fl_C_28 d_C_answersWith_10 (fun _ => ?_) (fun b1 _ => ?_)
      · exact g_none
      · refine g_iload_n (pc := 13) (j := 3) K d_C_answersWith_13 rfl ?_
        refine g_iald (pc := 14) K d_C_answersWith_14 ?_
        refine g_iload_n (pc := 15) (j := 1) K d_C_answersWith_15 rfl ?_
        refine g_icmp_ne (pc := 16) (tgt := 22) K d_C_answersWith_16 (by decide) (fun _ => ?_) (fun _ => ?_)
        · exact gb_C_answersWith_22 K S T hI σ (b_C_answersWith_4 σ n) ih a0 x1 x2 x3
        · refine g_iinc (pc := 19) (j := 2) (v := (x2 + 1)) (L' := [(2, .int (x2 + 1)), (0, .ref a0), (1, .int x1), (3, .int x3)]) K d_C_answersWith_19 rfl (by rfl) (by decide) rfl ?_
          refine g_sub (L' := [(0, .ref a0), (1, .int x1), (2, .int (x2 + 1)), (3, .int x3)]) [1, 2, 0, 3] rfl ?_
          exact gb_C_answersWith_22 K S T hI σ (b_C_answersWith_4 σ n) ih a0 x1 (x2 + 1) x3
def f_C_answersWith (σ : Sg) (a0 : Nat) (x1 : Int32) : Option Int32 := (b_C_answersWith_4 σ 1000 a0 x1 (0 : Int32) (0 : Int32))
set_option maxRecDepth 100000 in
set_option maxHeartbeats 4000000 in
theorem k_C_answersWith (l : Launch) (hl : l.stackTraces = false) (σ : Sg) (a0 : Nat) (x1 : Int32) (r : Int32) (h : f_C_answersWith σ a0 x1 = some r) : Con l y_C_answersWith (.code y_C_answersWith prog_2_method_12_code 4 (some .int)) rm_C_answersWith [.ref a0, .int x1] σ ((mkI σ) r) := by
  refine Con.of (mk := (mkI σ)) (o := f_C_answersWith σ a0 x1) (z := r) (L0 := [(0, .ref a0), (1, .int x1)]) (bytes := prog_2_method_12_code) (maxL := 4) (ret := (some .int)) (hh := []) hl (by decide +kernel) (Or.inl ⟨rfl, rfl⟩) (by simp [Value.category]) (Nat.le_of_ble_eq_true rfl) rfl (fun Γ K S T hI => ?_) h rfl
  unfold f_C_answersWith
  refine g_iconst (pc := 0) (v := 0) K d_C_answersWith_0 (by decide) ?_
  refine g_istore_n (pc := 1) (L' := [(2, .int (0 : Int32)), (0, .ref a0), (1, .int x1)]) K d_C_answersWith_1 (by decide) rfl ?_
  refine g_iconst (pc := 2) (v := 0) K d_C_answersWith_2 (by decide) ?_
  refine g_istore_n (pc := 3) (L' := [(3, .int (0 : Int32)), (2, .int (0 : Int32)), (0, .ref a0), (1, .int x1)]) K d_C_answersWith_3 (by decide) rfl ?_
  refine g_sub (L' := [(0, .ref a0), (1, .int x1), (2, .int (0 : Int32)), (3, .int (0 : Int32))]) [2, 3, 1, 0] rfl ?_
  exact gb_C_answersWith_4 K S T hI σ 1000 a0 x1 (0 : Int32) (0 : Int32)
-- TapirGroup$Client.answerCount()I
def y_C_answerCount : MethodName := ⟨"TapirGroup$Client", "answerCount", "()I"⟩
abbrev rm_C_answerCount : Room := { frames := 1, cells := 0, slots := 0, locals := 23 }
theorem d_C_answerCount_0 : decode prog_2_method_11_code 0 = .ok (.iconst 3, 1) := by decide +kernel
theorem d_C_answerCount_1 : decode prog_2_method_11_code 1 = .ok (.aload_n 0, 1) := by decide +kernel
theorem d_C_answerCount_2 : decode prog_2_method_11_code 2 = .ok (.iconst (-1), 1) := by decide +kernel
theorem d_C_answerCount_3 : decode prog_2_method_11_code 3 = .ok (.invokevirtual 47, 3) := by decide +kernel
theorem d_C_answerCount_6 : decode prog_2_method_11_code 6 = .ok (.isub, 1) := by decide +kernel
theorem d_C_answerCount_7 : decode prog_2_method_11_code 7 = .ok (.ireturn, 1) := by decide +kernel
theorem cn_C_answerCount : CN y_C_answerCount (.code y_C_answerCount prog_2_method_11_code 1 (some .int)) prog_2_method_11_code 1 (some .int) [] 0 := ⟨Or.inl ⟨rfl, rfl⟩, mw_132, mw_4, ⟨by decide +kernel, by decide +kernel⟩, by decide +kernel⟩
def f_C_answerCount (σ : Sg) (a0 : Nat) : Option Int32 := (if a0 < σ.1 ∧ kd a0 = 0 then (f_C_answersWith σ a0 (-1 : Int32)).bind (fun v1 => (some ((3 : Int32) - v1))) else none)
set_option maxRecDepth 100000 in
set_option maxHeartbeats 4000000 in
theorem k_C_answerCount (l : Launch) (hl : l.stackTraces = false) (σ : Sg) (a0 : Nat) (r : Int32) (h : f_C_answerCount σ a0 = some r) : Con l y_C_answerCount (.code y_C_answerCount prog_2_method_11_code 1 (some .int)) rm_C_answerCount [.ref a0] σ ((mkI σ) r) := by
  refine Con.of (mk := (mkI σ)) (o := f_C_answerCount σ a0) (z := r) (L0 := [(0, .ref a0)]) (bytes := prog_2_method_11_code) (maxL := 1) (ret := (some .int)) (hh := []) hl (by decide +kernel) (Or.inl ⟨rfl, rfl⟩) (by simp [Value.category]) (Nat.le_of_ble_eq_true rfl) rfl (fun Γ K S T hI => ?_) h rfl
  unfold f_C_answerCount
  refine g_iconst (pc := 0) (v := 3) K d_C_answerCount_0 (by decide) ?_
  refine g_aload_n (pc := 1) (j := 0) K d_C_answerCount_1 rfl ?_
  refine g_iconst (pc := 2) (v := -1) K d_C_answerCount_2 (by decide) ?_
  refine g_callV (pc := 3) (ci := 0) (a := a0) (vs := [.int (-1 : Int32)]) (st := [.int (3 : Int32)]) (mkc := mkI σ) K rfl (by decide) cn_C_answersWith (fun l hl r hr => k_C_answersWith l hl _ _ _ r hr) mw_133 mw_134 mw_135 ⟨by decide, by decide, by decide, by decide⟩ d_C_answerCount_3 rfl rfl (Nat.le_of_ble_eq_true rfl) (fun v1 _ => ?_)
  change G Γ (mkI σ) 0 0 6 [(0, .ref a0)] [.int v1, .int (3 : Int32)] σ _
  refine g_isub (pc := 6) K d_C_answerCount_6 ?_
  exact g_iret (pc := 7) K S rfl d_C_answerCount_7 (by decide) (by decide) rfl
-- TapirGroup$Client.confirmationCount()I
def y_C_confirmationCount : MethodName := ⟨"TapirGroup$Client", "confirmationCount", "()I"⟩
abbrev rm_C_confirmationCount : Room := { frames := 1, cells := 0, slots := 0, locals := 20 }
theorem d_C_confirmationCount_0 : decode prog_2_method_10_code 0 = .ok (.aload_n 0, 1) := by decide +kernel
theorem d_C_confirmationCount_1 : decode prog_2_method_10_code 1 = .ok (.getfield 25, 3) := by decide +kernel
theorem d_C_confirmationCount_4 : decode prog_2_method_10_code 4 = .ok (.invokestatic 41, 3) := by decide +kernel
theorem d_C_confirmationCount_7 : decode prog_2_method_10_code 7 = .ok (.ireturn, 1) := by decide +kernel
theorem cn_C_confirmationCount : CN y_C_confirmationCount (.code y_C_confirmationCount prog_2_method_10_code 1 (some .int)) prog_2_method_10_code 1 (some .int) [] 0 := ⟨Or.inl ⟨rfl, rfl⟩, mw_140, mw_4, ⟨by decide +kernel, by decide +kernel⟩, by decide +kernel⟩
def f_C_confirmationCount (σ : Sg) (a0 : Nat) : Option Int32 := (if a0 < σ.1 ∧ kd a0 = 0 then ((f_J_bitCount σ (g_i σ a0 4)).bind (fun v1 => (some v1))) else none)
set_option maxRecDepth 100000 in
set_option maxHeartbeats 4000000 in
theorem k_C_confirmationCount (l : Launch) (hl : l.stackTraces = false) (σ : Sg) (a0 : Nat) (r : Int32) (h : f_C_confirmationCount σ a0 = some r) : Con l y_C_confirmationCount (.code y_C_confirmationCount prog_2_method_10_code 1 (some .int)) rm_C_confirmationCount [.ref a0] σ ((mkI σ) r) := by
  refine Con.of (mk := (mkI σ)) (o := f_C_confirmationCount σ a0) (z := r) (L0 := [(0, .ref a0)]) (bytes := prog_2_method_10_code) (maxL := 1) (ret := (some .int)) (hh := []) hl (by decide +kernel) (Or.inl ⟨rfl, rfl⟩) (by simp [Value.category]) (Nat.le_of_ble_eq_true rfl) rfl (fun Γ K S T hI => ?_) h rfl
  unfold f_C_confirmationCount
  refine g_aload_n (pc := 0) (j := 0) K d_C_confirmationCount_0 rfl ?_
  refine g_getI (pc := 1) K fl_C_25 d_C_confirmationCount_1 ?_
  refine g_callS (pc := 4) (vs := [.int (g_i σ a0 4)]) (st := []) (mkc := mkI σ) K cn_J_bitCount (fun l hl r hr => k_J_bitCount l hl _ _ r hr) mw_141 mw_120 ⟨by decide, by decide, by decide, by decide⟩ d_C_confirmationCount_4 rfl rfl (Nat.le_of_ble_eq_true rfl) (fun v1 _ => ?_)
  change G Γ (mkI σ) 0 0 7 [(0, .ref a0)] [.int v1] σ _
  exact g_iret (pc := 7) K S rfl d_C_confirmationCount_7 (by decide) (by decide) rfl
-- TapirGroup.client(II)I
def y_G_client : MethodName := ⟨"TapirGroup", "client", "(II)I"⟩
abbrev rm_G_client : Room := { frames := 2, cells := 0, slots := 0, locals := 43 }
theorem d_G_client_0 : decode prog_1_method_13_code 0 = .ok (.iload_n 1, 1) := by decide +kernel
theorem d_G_client_1 : decode prog_1_method_13_code 1 = .ok (.invokestatic 33, 3) := by decide +kernel
theorem d_G_client_4 : decode prog_1_method_13_code 4 = .ok (.ifCond .eq 13, 3) := by decide +kernel
theorem d_G_client_7 : decode prog_1_method_13_code 7 = .ok (.iload_n 2, 1) := by decide +kernel
theorem d_G_client_8 : decode prog_1_method_13_code 8 = .ok (.ifCond .lt 9, 3) := by decide +kernel
theorem d_G_client_11 : decode prog_1_method_13_code 11 = .ok (.iload_n 2, 1) := by decide +kernel
theorem d_G_client_12 : decode prog_1_method_13_code 12 = .ok (.bipush 7, 2) := by decide +kernel
theorem d_G_client_14 : decode prog_1_method_13_code 14 = .ok (.if_icmp .le 5, 3) := by decide +kernel
theorem d_G_client_17 : decode prog_1_method_13_code 17 = .ok (.iconst (-1), 1) := by decide +kernel
theorem d_G_client_18 : decode prog_1_method_13_code 18 = .ok (.ireturn, 1) := by decide +kernel
theorem d_G_client_19 : decode prog_1_method_13_code 19 = .ok (.aload_n 0, 1) := by decide +kernel
theorem d_G_client_20 : decode prog_1_method_13_code 20 = .ok (.getfield 17, 3) := by decide +kernel
theorem d_G_client_23 : decode prog_1_method_13_code 23 = .ok (.iload_n 1, 1) := by decide +kernel
theorem d_G_client_24 : decode prog_1_method_13_code 24 = .ok (.aaload, 1) := by decide +kernel
theorem d_G_client_25 : decode prog_1_method_13_code 25 = .ok (.astore_n 3, 1) := by decide +kernel
theorem d_G_client_26 : decode prog_1_method_13_code 26 = .ok (.aload_n 3, 1) := by decide +kernel
theorem d_G_client_27 : decode prog_1_method_13_code 27 = .ok (.getfield 44, 3) := by decide +kernel
theorem d_G_client_30 : decode prog_1_method_13_code 30 = .ok (.astore 4, 2) := by decide +kernel
theorem d_G_client_32 : decode prog_1_method_13_code 32 = .ok (.iload_n 2, 1) := by decide +kernel
theorem d_G_client_33 : decode prog_1_method_13_code 33 = .ok (.bipush 7, 2) := by decide +kernel
theorem d_G_client_35 : decode prog_1_method_13_code 35 = .ok (.if_icmp .ne 20, 3) := by decide +kernel
theorem d_G_client_38 : decode prog_1_method_13_code 38 = .ok (.aload_n 3, 1) := by decide +kernel
theorem d_G_client_39 : decode prog_1_method_13_code 39 = .ok (.getfield 68, 3) := by decide +kernel
theorem d_G_client_42 : decode prog_1_method_13_code 42 = .ok (.iconst 3, 1) := by decide +kernel
theorem d_G_client_43 : decode prog_1_method_13_code 43 = .ok (.if_icmp .ne 10, 3) := by decide +kernel
theorem d_G_client_46 : decode prog_1_method_13_code 46 = .ok (.aload_n 3, 1) := by decide +kernel
theorem d_G_client_47 : decode prog_1_method_13_code 47 = .ok (.getfield 192, 3) := by decide +kernel
theorem d_G_client_50 : decode prog_1_method_13_code 50 = .ok (.goto 4, 3) := by decide +kernel
theorem d_G_client_53 : decode prog_1_method_13_code 53 = .ok (.iconst (-1), 1) := by decide +kernel
theorem d_G_client_54 : decode prog_1_method_13_code 54 = .ok (.ireturn, 1) := by decide +kernel
theorem d_G_client_55 : decode prog_1_method_13_code 55 = .ok (.aload 4, 2) := by decide +kernel
theorem d_G_client_57 : decode prog_1_method_13_code 57 = .ok (.ifnonnull 5, 3) := by decide +kernel
theorem d_G_client_60 : decode prog_1_method_13_code 60 = .ok (.iconst 0, 1) := by decide +kernel
theorem d_G_client_61 : decode prog_1_method_13_code 61 = .ok (.ireturn, 1) := by decide +kernel
theorem d_G_client_62 : decode prog_1_method_13_code 62 = .ok (.iload_n 2, 1) := by decide +kernel
theorem d_G_client_63 : decode prog_1_method_13_code 63 = .ok (.tableswitch 71 0 5 #[37, 42, 48, 54, 60, 66], 37) := by decide +kernel
theorem d_G_client_100 : decode prog_1_method_13_code 100 = .ok (.aload_n 3, 1) := by decide +kernel
theorem d_G_client_101 : decode prog_1_method_13_code 101 = .ok (.getfield 68, 3) := by decide +kernel
theorem d_G_client_104 : decode prog_1_method_13_code 104 = .ok (.ireturn, 1) := by decide +kernel
theorem d_G_client_105 : decode prog_1_method_13_code 105 = .ok (.aload 4, 2) := by decide +kernel
theorem d_G_client_107 : decode prog_1_method_13_code 107 = .ok (.getfield 142, 3) := by decide +kernel
theorem d_G_client_110 : decode prog_1_method_13_code 110 = .ok (.ireturn, 1) := by decide +kernel
theorem d_G_client_111 : decode prog_1_method_13_code 111 = .ok (.aload 4, 2) := by decide +kernel
theorem d_G_client_113 : decode prog_1_method_13_code 113 = .ok (.getfield 136, 3) := by decide +kernel
theorem d_G_client_116 : decode prog_1_method_13_code 116 = .ok (.ireturn, 1) := by decide +kernel
theorem d_G_client_117 : decode prog_1_method_13_code 117 = .ok (.aload 4, 2) := by decide +kernel
theorem d_G_client_119 : decode prog_1_method_13_code 119 = .ok (.invokevirtual 94, 3) := by decide +kernel
theorem d_G_client_122 : decode prog_1_method_13_code 122 = .ok (.ireturn, 1) := by decide +kernel
theorem d_G_client_123 : decode prog_1_method_13_code 123 = .ok (.aload 4, 2) := by decide +kernel
theorem d_G_client_125 : decode prog_1_method_13_code 125 = .ok (.invokevirtual 115, 3) := by decide +kernel
theorem d_G_client_128 : decode prog_1_method_13_code 128 = .ok (.ireturn, 1) := by decide +kernel
theorem d_G_client_129 : decode prog_1_method_13_code 129 = .ok (.aload_n 3, 1) := by decide +kernel
theorem d_G_client_130 : decode prog_1_method_13_code 130 = .ok (.invokevirtual 169, 3) := by decide +kernel
theorem d_G_client_133 : decode prog_1_method_13_code 133 = .ok (.ireturn, 1) := by decide +kernel
theorem d_G_client_134 : decode prog_1_method_13_code 134 = .ok (.aload_n 3, 1) := by decide +kernel
theorem d_G_client_135 : decode prog_1_method_13_code 135 = .ok (.invokevirtual 201, 3) := by decide +kernel
theorem d_G_client_138 : decode prog_1_method_13_code 138 = .ok (.ireturn, 1) := by decide +kernel
theorem cn_G_client : CN y_G_client (.code y_G_client prog_1_method_13_code 5 (some .int)) prog_1_method_13_code 5 (some .int) [] 2 := ⟨Or.inl ⟨rfl, rfl⟩, mw_111, mw_1, ⟨by decide +kernel, by decide +kernel⟩, by decide +kernel⟩
def b_G_client_17 (σ : Sg)   : Option Int32 := (some (-1 : Int32))
set_option maxRecDepth 100000 in
set_option maxHeartbeats 4000000 in
theorem gb_G_client_17 {Γ : GX} (K : Cx Γ "TapirGroup" prog_1_method_13_code 5 rm_G_client) (S : Std Γ (some .int)) (T : Tb Γ []) (hI : y_G_client.name = "<init>" → Ini Γ) (σ : Sg)  : G Γ (mkI σ) 0 0 17 [] [] σ (b_G_client_17 σ ) := by
  unfold b_G_client_17
  refine g_iconst (pc := 17) (v := -1) K d_G_client_17 (by decide) ?_
  exact g_iret (pc := 18) K S rfl d_G_client_18 (by decide) (by decide) rfl
def b_G_client_54 (σ : Sg)  (t0 : Int32) : Option Int32 := (some t0)
set_option maxRecDepth 100000 in
set_option maxHeartbeats 4000000 in
theorem gb_G_client_54 {Γ : GX} (K : Cx Γ "TapirGroup" prog_1_method_13_code 5 rm_G_client) (S : Std Γ (some .int)) (T : Tb Γ []) (hI : y_G_client.name = "<init>" → Ini Γ) (σ : Sg) (t0 : Int32) : G Γ (mkI σ) 0 0 54 [] [.int t0] σ (b_G_client_54 σ t0) := by
  unfold b_G_client_54
  exact g_iret (pc := 54) K S rfl d_G_client_54 (by decide) (by decide) rfl
def f_G_client (σ : Sg) (a0 : Nat) (x1 : Int32) (x2 : Int32) : Option Int32 := ((f_G_isClient σ x1).bind (fun v1 => (if v1 = 0 then (b_G_client_17 σ) else (if x2 < 0 then (b_G_client_17 σ) else (if x2 ≤ (7 : Int32) then (if a0 < σ.1 ∧ kd a0 = 3 then rc (g_r σ a0 1) none (fun b2 => (if (b2 < σ.1 ∧ kd b2 = 14) ∧ inb x1 (ln b2) = true then rc (g_r σ b2 x1.toNatClampNeg) none (fun b3 => (if b3 < σ.1 ∧ kd b3 = 0 then rc (g_r σ b3 0) (if x2 = (7 : Int32) then (if b3 < σ.1 ∧ kd b3 = 0 then (if (g_i σ b3 1) = (3 : Int32) then (if b3 < σ.1 ∧ kd b3 = 0 then (b_G_client_54 σ (g_i σ b3 3)) else none) else (b_G_client_54 σ (-1 : Int32))) else none) else (some (0 : Int32))) (fun b4 => (if x2 = (7 : Int32) then (if b3 < σ.1 ∧ kd b3 = 0 then (if (g_i σ b3 1) = (3 : Int32) then (if b3 < σ.1 ∧ kd b3 = 0 then (b_G_client_54 σ (g_i σ b3 3)) else none) else (b_G_client_54 σ (-1 : Int32))) else none) else (if x2 = (0 : Int32) then (if b3 < σ.1 ∧ kd b3 = 0 then (some (g_i σ b3 1)) else none) else (if x2 = (1 : Int32) then (if b4 < σ.1 ∧ kd b4 = 2 then (some (g_i σ b4 0)) else none) else (if x2 = (2 : Int32) then (if b4 < σ.1 ∧ kd b4 = 2 then (some (g_i σ b4 1)) else none) else (if x2 = (3 : Int32) then (if b4 < σ.1 ∧ kd b4 = 2 then (f_T_readCount σ b4).bind (fun v5 => (some v5)) else none) else (if x2 = (4 : Int32) then (if b4 < σ.1 ∧ kd b4 = 2 then (f_T_writeCount σ b4).bind (fun v6 => (some v6)) else none) else (if x2 = (5 : Int32) then (if b3 < σ.1 ∧ kd b3 = 0 then (f_C_answerCount σ b3).bind (fun v7 => (some v7)) else none) else (if b3 < σ.1 ∧ kd b3 = 0 then (f_C_confirmationCount σ b3).bind (fun v8 => (some v8)) else none))))))))) else none)) else none)) else none) else (b_G_client_17 σ))))))
set_option maxRecDepth 100000 in
set_option maxHeartbeats 4000000 in
theorem k_G_client (l : Launch) (hl : l.stackTraces = false) (σ : Sg) (a0 : Nat) (x1 : Int32) (x2 : Int32) (r : Int32) (h : f_G_client σ a0 x1 x2 = some r) : Con l y_G_client (.code y_G_client prog_1_method_13_code 5 (some .int)) rm_G_client [.ref a0, .int x1, .int x2] σ ((mkI σ) r) := by
  refine Con.of (mk := (mkI σ)) (o := f_G_client σ a0 x1 x2) (z := r) (L0 := [(0, .ref a0), (1, .int x1), (2, .int x2)]) (bytes := prog_1_method_13_code) (maxL := 5) (ret := (some .int)) (hh := []) hl (by decide +kernel) (Or.inl ⟨rfl, rfl⟩) (by simp [Value.category]) (Nat.le_of_ble_eq_true rfl) rfl (fun Γ K S T hI => ?_) h rfl
  unfold f_G_client
  refine g_iload_n (pc := 0) (j := 1) K d_G_client_0 rfl ?_
  refine g_callS (pc := 1) (vs := [.int x1]) (st := []) (mkc := mkI σ) K cn_G_isClient (fun l hl r hr => k_G_isClient l hl _ _ r hr) mw_112 mw_113 ⟨by decide, by decide, by decide, by decide⟩ d_G_client_1 rfl rfl (Nat.le_of_ble_eq_true rfl) (fun v1 _ => ?_)
  change G Γ (mkI σ) 0 0 4 [(0, .ref a0), (1, .int x1), (2, .int x2)] [.int v1] σ _
  refine g_if_eq (pc := 4) (tgt := 17) K d_G_client_4 (by decide) (fun _ => ?_) (fun _ => ?_)
  · refine g_sub (L' := []) [] rfl ?_
    exact gb_G_client_17 K S T hI σ
  · refine g_iload_n (pc := 7) (j := 2) K d_G_client_7 rfl ?_
    refine g_if_lt (pc := 8) (tgt := 17) K d_G_client_8 (by decide) (fun _ => ?_) (fun _ => ?_)
    · refine g_sub (L' := []) [] rfl ?_
      exact gb_G_client_17 K S T hI σ
    · refine g_iload_n (pc := 11) (j := 2) K d_G_client_11 rfl ?_
      refine g_bipush (pc := 12) (v := 7) K d_G_client_12 (by decide) ?_
      refine g_icmp_le (pc := 14) (tgt := 19) K d_G_client_14 (by decide) (fun _ => ?_) (fun _ => ?_)
      · refine g_aload_n (pc := 19) (j := 0) K d_G_client_19 rfl ?_
        refine g_getR (pc := 20) K fl_G_17 d_G_client_20 (fun _ => ?_) (fun b2 _ => ?_)
        · exact g_none
        · refine g_iload_n (pc := 23) (j := 1) K d_G_client_23 rfl ?_
          refine g_aald (pc := 24) (kq := 14) (t0 := 4) K (by decide) (fun _ => rfl) d_G_client_24 (fun _ => ?_) (fun b3 _ => ?_)
          · exact g_none
          · refine g_astore_n (pc := 25) (L' := [(3, .ref b3), (0, .ref a0), (1, .int x1), (2, .int x2)]) K d_G_client_25 (by decide) rfl ?_
            refine g_aload_n (pc := 26) (j := 0) K d_G_client_26 rfl ?_
            refine g_getR (pc := 27) K fl_G_44 d_G_client_27 (fun _ => ?_) (fun b4 _ => ?_)
            · refine g_astoreN (pc := 30) (L' := [(4, .null), (3, .ref b3), (0, .ref a0), (1, .int x1), (2, .int x2)]) K d_G_client_30 (by decide) rfl ?_
              refine g_iload_n (pc := 32) (j := 4) K d_G_client_32 rfl ?_
              refine g_bipush (pc := 33) (v := 7) K d_G_client_33 (by decide) ?_
              refine g_icmp_ne (pc := 35) (tgt := 55) K d_G_client_35 (by decide) (fun _ => ?_) (fun _ => ?_)
              · refine g_aloadN (pc := 55) (j := 0) K d_G_client_55 rfl ?_
                refine g_ifnonnullN (pc := 57) K d_G_client_57 ?_
                refine g_iconst (pc := 60) (v := 0) K d_G_client_60 (by decide) ?_
                exact g_iret (pc := 61) K S rfl d_G_client_61 (by decide) (by decide) rfl
              · refine g_aload_n (pc := 38) (j := 1) K d_G_client_38 rfl ?_
                refine g_getI (pc := 39) K fl_G_68 d_G_client_39 ?_
                refine g_iconst (pc := 42) (v := 3) K d_G_client_42 (by decide) ?_
                refine g_icmp_ne (pc := 43) (tgt := 53) K d_G_client_43 (by decide) (fun _ => ?_) (fun _ => ?_)
                · refine g_iconst (pc := 53) (v := -1) K d_G_client_53 (by decide) ?_
                  refine g_sub (L' := []) [] rfl ?_
                  exact gb_G_client_54 K S T hI σ (-1 : Int32)
                · refine g_aload_n (pc := 46) (j := 1) K d_G_client_46 rfl ?_
                  refine g_getI (pc := 47) K fl_G_192 d_G_client_47 ?_
                  refine g_goto (pc := 50) (tgt := 54) K d_G_client_50 (by decide) ?_
                  refine g_sub (L' := []) [] rfl ?_
                  exact gb_G_client_54 K S T hI σ (g_i σ b3 3)
            · refine g_astore (pc := 30) (L' := [(4, .ref b4), (3, .ref b3), (0, .ref a0), (1, .int x1), (2, .int x2)]) K d_G_client_30 (by decide) rfl ?_
              refine g_iload_n (pc := 32) (j := 4) K d_G_client_32 rfl ?_
              refine g_bipush (pc := 33) (v := 7) K d_G_client_33 (by decide) ?_
              refine g_icmp_ne (pc := 35) (tgt := 55) K d_G_client_35 (by decide) (fun _ => ?_) (fun _ => ?_)
              · refine g_aload (pc := 55) (j := 0) K d_G_client_55 rfl ?_
                refine g_ifnonnull (pc := 57) (tgt := 62) K d_G_client_57 (by decide) ?_
                refine g_iload_n (pc := 62) (j := 4) K d_G_client_62 rfl ?_
                refine g_ite (fun h => ?_) (fun h0 => ?_)
                · refine g_tableIn (pc := 63) (off := 37) (tgt := 100) K d_G_client_63 (by rw [h]; decide) (by rw [h]; decide) (by rw [h]; decide) (by decide) ?_
                  refine g_aload_n (pc := 100) (j := 1) K d_G_client_100 rfl ?_
                  refine g_getI (pc := 101) K fl_G_68 d_G_client_101 ?_
                  exact g_iret (pc := 104) K S rfl d_G_client_104 (by decide) (by decide) rfl
                · refine g_ite (fun h => ?_) (fun h1 => ?_)
                  · refine g_tableIn (pc := 63) (off := 42) (tgt := 105) K d_G_client_63 (by rw [h]; decide) (by rw [h]; decide) (by rw [h]; decide) (by decide) ?_
                    refine g_aload (pc := 105) (j := 0) K d_G_client_105 rfl ?_
                    refine g_getI (pc := 107) K fl_G_142 d_G_client_107 ?_
                    exact g_iret (pc := 110) K S rfl d_G_client_110 (by decide) (by decide) rfl
                  · refine g_ite (fun h => ?_) (fun h2 => ?_)
                    · refine g_tableIn (pc := 63) (off := 48) (tgt := 111) K d_G_client_63 (by rw [h]; decide) (by rw [h]; decide) (by rw [h]; decide) (by decide) ?_
                      refine g_aload (pc := 111) (j := 0) K d_G_client_111 rfl ?_
                      refine g_getI (pc := 113) K fl_G_136 d_G_client_113 ?_
                      exact g_iret (pc := 116) K S rfl d_G_client_116 (by decide) (by decide) rfl
                    · refine g_ite (fun h => ?_) (fun h3 => ?_)
                      · refine g_tableIn (pc := 63) (off := 54) (tgt := 117) K d_G_client_63 (by rw [h]; decide) (by rw [h]; decide) (by rw [h]; decide) (by decide) ?_
                        refine g_aload (pc := 117) (j := 0) K d_G_client_117 rfl ?_
                        refine g_callV (pc := 119) (ci := 2) (a := b4) (vs := []) (st := []) (mkc := mkI σ) K rfl (by decide) cn_T_readCount (fun l hl r hr => k_T_readCount l hl _ _ r hr) mw_115 mw_116 mw_117 ⟨by decide, by decide, by decide, by decide⟩ d_G_client_119 rfl rfl (Nat.le_of_ble_eq_true rfl) (fun v5 _ => ?_)
                        change G Γ (mkI σ) 0 0 122 [(4, .ref b4), (3, .ref b3), (0, .ref a0), (1, .int x1), (2, .int x2)] [.int v5] σ _
                        exact g_iret (pc := 122) K S rfl d_G_client_122 (by decide) (by decide) rfl
                      · refine g_ite (fun h => ?_) (fun h4 => ?_)
                        · refine g_tableIn (pc := 63) (off := 60) (tgt := 123) K d_G_client_63 (by rw [h]; decide) (by rw [h]; decide) (by rw [h]; decide) (by decide) ?_
                          refine g_aload (pc := 123) (j := 0) K d_G_client_123 rfl ?_
                          refine g_callV (pc := 125) (ci := 2) (a := b4) (vs := []) (st := []) (mkc := mkI σ) K rfl (by decide) cn_T_writeCount (fun l hl r hr => k_T_writeCount l hl _ _ r hr) mw_125 mw_126 mw_127 ⟨by decide, by decide, by decide, by decide⟩ d_G_client_125 rfl rfl (Nat.le_of_ble_eq_true rfl) (fun v6 _ => ?_)
                          change G Γ (mkI σ) 0 0 128 [(4, .ref b4), (3, .ref b3), (0, .ref a0), (1, .int x1), (2, .int x2)] [.int v6] σ _
                          exact g_iret (pc := 128) K S rfl d_G_client_128 (by decide) (by decide) rfl
                        · refine g_ite (fun h => ?_) (fun h5 => ?_)
                          · refine g_tableIn (pc := 63) (off := 66) (tgt := 129) K d_G_client_63 (by rw [h]; decide) (by rw [h]; decide) (by rw [h]; decide) (by decide) ?_
                            refine g_aload_n (pc := 129) (j := 1) K d_G_client_129 rfl ?_
                            refine g_callV (pc := 130) (ci := 0) (a := b3) (vs := []) (st := []) (mkc := mkI σ) K rfl (by decide) cn_C_answerCount (fun l hl r hr => k_C_answerCount l hl _ _ r hr) mw_129 mw_130 mw_131 ⟨by decide, by decide, by decide, by decide⟩ d_G_client_130 rfl rfl (Nat.le_of_ble_eq_true rfl) (fun v7 _ => ?_)
                            change G Γ (mkI σ) 0 0 133 [(4, .ref b4), (3, .ref b3), (0, .ref a0), (1, .int x1), (2, .int x2)] [.int v7] σ _
                            exact g_iret (pc := 133) K S rfl d_G_client_133 (by decide) (by decide) rfl
                          · have n0 := lv_neT h0 (show (0 : Int32).toInt = 0 from by decide)
                            have n1 := lv_neT h1 (show (1 : Int32).toInt = 1 from by decide)
                            have n2 := lv_neT h2 (show (2 : Int32).toInt = 2 from by decide)
                            have n3 := lv_neT h3 (show (3 : Int32).toInt = 3 from by decide)
                            have n4 := lv_neT h4 (show (4 : Int32).toInt = 4 from by decide)
                            have n5 := lv_neT h5 (show (5 : Int32).toInt = 5 from by decide)
                            refine g_tableOut (pc := 63) (tgt := 134) K d_G_client_63 (by omega) (by decide) ?_
                            refine g_aload_n (pc := 134) (j := 1) K d_G_client_134 rfl ?_
                            refine g_callV (pc := 135) (ci := 0) (a := b3) (vs := []) (st := []) (mkc := mkI σ) K rfl (by decide) cn_C_confirmationCount (fun l hl r hr => k_C_confirmationCount l hl _ _ r hr) mw_137 mw_138 mw_139 ⟨by decide, by decide, by decide, by decide⟩ d_G_client_135 rfl rfl (Nat.le_of_ble_eq_true rfl) (fun v8 _ => ?_)
                            change G Γ (mkI σ) 0 0 138 [(4, .ref b4), (3, .ref b3), (0, .ref a0), (1, .int x1), (2, .int x2)] [.int v8] σ _
                            exact g_iret (pc := 138) K S rfl d_G_client_138 (by decide) (by decide) rfl
              · refine g_aload_n (pc := 38) (j := 1) K d_G_client_38 rfl ?_
                refine g_getI (pc := 39) K fl_G_68 d_G_client_39 ?_
                refine g_iconst (pc := 42) (v := 3) K d_G_client_42 (by decide) ?_
                refine g_icmp_ne (pc := 43) (tgt := 53) K d_G_client_43 (by decide) (fun _ => ?_) (fun _ => ?_)
                · refine g_iconst (pc := 53) (v := -1) K d_G_client_53 (by decide) ?_
                  refine g_sub (L' := []) [] rfl ?_
                  exact gb_G_client_54 K S T hI σ (-1 : Int32)
                · refine g_aload_n (pc := 46) (j := 1) K d_G_client_46 rfl ?_
                  refine g_getI (pc := 47) K fl_G_192 d_G_client_47 ?_
                  refine g_goto (pc := 50) (tgt := 54) K d_G_client_50 (by decide) ?_
                  refine g_sub (L' := []) [] rfl ?_
                  exact gb_G_client_54 K S T hI σ (g_i σ b3 3)
      · refine g_sub (L' := []) [] rfl ?_
        exact gb_G_client_17 K S T hI σ
-- TapirGroup.isReplica(I)Z
def y_G_isReplica : MethodName := ⟨"TapirGroup", "isReplica", "(I)Z"⟩
abbrev rm_G_isReplica : Room := { frames := 0, cells := 0, slots := 0, locals := 0 }
theorem d_G_isReplica_0 : decode prog_1_method_19_code 0 = .ok (.iload_n 0, 1) := by decide +kernel
theorem d_G_isReplica_1 : decode prog_1_method_19_code 1 = .ok (.ifCond .lt 12, 3) := by decide +kernel
theorem d_G_isReplica_4 : decode prog_1_method_19_code 4 = .ok (.iload_n 0, 1) := by decide +kernel
theorem d_G_isReplica_5 : decode prog_1_method_19_code 5 = .ok (.iconst 3, 1) := by decide +kernel
theorem d_G_isReplica_6 : decode prog_1_method_19_code 6 = .ok (.if_icmp .ge 7, 3) := by decide +kernel
theorem d_G_isReplica_9 : decode prog_1_method_19_code 9 = .ok (.iconst 1, 1) := by decide +kernel
theorem d_G_isReplica_10 : decode prog_1_method_19_code 10 = .ok (.goto 4, 3) := by decide +kernel
theorem d_G_isReplica_13 : decode prog_1_method_19_code 13 = .ok (.iconst 0, 1) := by decide +kernel
theorem d_G_isReplica_14 : decode prog_1_method_19_code 14 = .ok (.ireturn, 1) := by decide +kernel
theorem cn_G_isReplica : CN y_G_isReplica (.code y_G_isReplica prog_1_method_19_code 1 (some .boolean)) prog_1_method_19_code 1 (some .boolean) [] 1 := ⟨Or.inl ⟨rfl, rfl⟩, mw_148, mw_1, ⟨by decide +kernel, by decide +kernel⟩, by decide +kernel⟩
def b_G_isReplica_14 (σ : Sg)  (t0 : Int32) : Option Int32 := (if t0 = 0 ∨ t0 = 1 then some t0 else none)
set_option maxRecDepth 100000 in
set_option maxHeartbeats 4000000 in
theorem gb_G_isReplica_14 {Γ : GX} (K : Cx Γ "TapirGroup" prog_1_method_19_code 1 rm_G_isReplica) (S : Std Γ (some .boolean)) (T : Tb Γ []) (hI : y_G_isReplica.name = "<init>" → Ini Γ) (σ : Sg) (t0 : Int32) : G Γ (mkI σ) 0 0 14 [] [.int t0] σ (b_G_isReplica_14 σ t0) := by
  unfold b_G_isReplica_14
  exact g_zret (pc := 14) K S d_G_isReplica_14 (by decide) (by decide) rfl
def b_G_isReplica_13 (σ : Sg)   : Option Int32 := (b_G_isReplica_14 σ (0 : Int32))
set_option maxRecDepth 100000 in
set_option maxHeartbeats 4000000 in
theorem gb_G_isReplica_13 {Γ : GX} (K : Cx Γ "TapirGroup" prog_1_method_19_code 1 rm_G_isReplica) (S : Std Γ (some .boolean)) (T : Tb Γ []) (hI : y_G_isReplica.name = "<init>" → Ini Γ) (σ : Sg)  : G Γ (mkI σ) 0 0 13 [] [] σ (b_G_isReplica_13 σ ) := by
  unfold b_G_isReplica_13
  refine g_iconst (pc := 13) (v := 0) K d_G_isReplica_13 (by decide) ?_
  exact gb_G_isReplica_14 K S T hI σ (0 : Int32)
def f_G_isReplica (σ : Sg) (x0 : Int32) : Option Int32 := (if x0 < 0 then (b_G_isReplica_13 σ) else (if (3 : Int32) ≤ x0 then (b_G_isReplica_13 σ) else (b_G_isReplica_14 σ (1 : Int32))))
set_option maxRecDepth 100000 in
set_option maxHeartbeats 4000000 in
theorem k_G_isReplica (l : Launch) (hl : l.stackTraces = false) (σ : Sg) (x0 : Int32) (r : Int32) (h : f_G_isReplica σ x0 = some r) : Con l y_G_isReplica (.code y_G_isReplica prog_1_method_19_code 1 (some .boolean)) rm_G_isReplica [.int x0] σ ((mkI σ) r) := by
  refine Con.of (mk := (mkI σ)) (o := f_G_isReplica σ x0) (z := r) (L0 := [(0, .int x0)]) (bytes := prog_1_method_19_code) (maxL := 1) (ret := (some .boolean)) (hh := []) hl (by decide +kernel) (Or.inl ⟨rfl, rfl⟩) (by simp [Value.category]) (Nat.le_of_ble_eq_true rfl) rfl (fun Γ K S T hI => ?_) h rfl
  unfold f_G_isReplica
  refine g_iload_n (pc := 0) (j := 0) K d_G_isReplica_0 rfl ?_
  refine g_if_lt (pc := 1) (tgt := 13) K d_G_isReplica_1 (by decide) (fun _ => ?_) (fun _ => ?_)
  · refine g_sub (L' := []) [] rfl ?_
    exact gb_G_isReplica_13 K S T hI σ
  · refine g_iload_n (pc := 4) (j := 0) K d_G_isReplica_4 rfl ?_
    refine g_iconst (pc := 5) (v := 3) K d_G_isReplica_5 (by decide) ?_
    refine g_icmp_ge (pc := 6) (tgt := 13) K d_G_isReplica_6 (by decide) (fun _ => ?_) (fun _ => ?_)
    · refine g_sub (L' := []) [] rfl ?_
      exact gb_G_isReplica_13 K S T hI σ
    · refine g_iconst (pc := 9) (v := 1) K d_G_isReplica_9 (by decide) ?_
      refine g_goto (pc := 10) (tgt := 14) K d_G_isReplica_10 (by decide) ?_
      refine g_sub (L' := []) [] rfl ?_
      exact gb_G_isReplica_14 K S T hI σ (1 : Int32)
-- TapirGroup.isKey(I)Z
def y_G_isKey : MethodName := ⟨"TapirGroup", "isKey", "(I)Z"⟩
abbrev rm_G_isKey : Room := { frames := 0, cells := 0, slots := 0, locals := 0 }
theorem d_G_isKey_0 : decode prog_1_method_18_code 0 = .ok (.iload_n 0, 1) := by decide +kernel
theorem d_G_isKey_1 : decode prog_1_method_18_code 1 = .ok (.ifCond .lt 13, 3) := by decide +kernel
theorem d_G_isKey_4 : decode prog_1_method_18_code 4 = .ok (.iload_n 0, 1) := by decide +kernel
theorem d_G_isKey_5 : decode prog_1_method_18_code 5 = .ok (.bipush 6, 2) := by decide +kernel
theorem d_G_isKey_7 : decode prog_1_method_18_code 7 = .ok (.if_icmp .ge 7, 3) := by decide +kernel
theorem d_G_isKey_10 : decode prog_1_method_18_code 10 = .ok (.iconst 1, 1) := by decide +kernel
theorem d_G_isKey_11 : decode prog_1_method_18_code 11 = .ok (.goto 4, 3) := by decide +kernel
theorem d_G_isKey_14 : decode prog_1_method_18_code 14 = .ok (.iconst 0, 1) := by decide +kernel
theorem d_G_isKey_15 : decode prog_1_method_18_code 15 = .ok (.ireturn, 1) := by decide +kernel
theorem cn_G_isKey : CN y_G_isKey (.code y_G_isKey prog_1_method_18_code 1 (some .boolean)) prog_1_method_18_code 1 (some .boolean) [] 1 := ⟨Or.inl ⟨rfl, rfl⟩, mw_151, mw_1, ⟨by decide +kernel, by decide +kernel⟩, by decide +kernel⟩
def b_G_isKey_15 (σ : Sg)  (t0 : Int32) : Option Int32 := (if t0 = 0 ∨ t0 = 1 then some t0 else none)
set_option maxRecDepth 100000 in
set_option maxHeartbeats 4000000 in
theorem gb_G_isKey_15 {Γ : GX} (K : Cx Γ "TapirGroup" prog_1_method_18_code 1 rm_G_isKey) (S : Std Γ (some .boolean)) (T : Tb Γ []) (hI : y_G_isKey.name = "<init>" → Ini Γ) (σ : Sg) (t0 : Int32) : G Γ (mkI σ) 0 0 15 [] [.int t0] σ (b_G_isKey_15 σ t0) := by
  unfold b_G_isKey_15
  exact g_zret (pc := 15) K S d_G_isKey_15 (by decide) (by decide) rfl
def b_G_isKey_14 (σ : Sg)   : Option Int32 := (b_G_isKey_15 σ (0 : Int32))
set_option maxRecDepth 100000 in
set_option maxHeartbeats 4000000 in
theorem gb_G_isKey_14 {Γ : GX} (K : Cx Γ "TapirGroup" prog_1_method_18_code 1 rm_G_isKey) (S : Std Γ (some .boolean)) (T : Tb Γ []) (hI : y_G_isKey.name = "<init>" → Ini Γ) (σ : Sg)  : G Γ (mkI σ) 0 0 14 [] [] σ (b_G_isKey_14 σ ) := by
  unfold b_G_isKey_14
  refine g_iconst (pc := 14) (v := 0) K d_G_isKey_14 (by decide) ?_
  exact gb_G_isKey_15 K S T hI σ (0 : Int32)
def f_G_isKey (σ : Sg) (x0 : Int32) : Option Int32 := (if x0 < 0 then (b_G_isKey_14 σ) else (if (6 : Int32) ≤ x0 then (b_G_isKey_14 σ) else (b_G_isKey_15 σ (1 : Int32))))
set_option maxRecDepth 100000 in
set_option maxHeartbeats 4000000 in
theorem k_G_isKey (l : Launch) (hl : l.stackTraces = false) (σ : Sg) (x0 : Int32) (r : Int32) (h : f_G_isKey σ x0 = some r) : Con l y_G_isKey (.code y_G_isKey prog_1_method_18_code 1 (some .boolean)) rm_G_isKey [.int x0] σ ((mkI σ) r) := by
  refine Con.of (mk := (mkI σ)) (o := f_G_isKey σ x0) (z := r) (L0 := [(0, .int x0)]) (bytes := prog_1_method_18_code) (maxL := 1) (ret := (some .boolean)) (hh := []) hl (by decide +kernel) (Or.inl ⟨rfl, rfl⟩) (by simp [Value.category]) (Nat.le_of_ble_eq_true rfl) rfl (fun Γ K S T hI => ?_) h rfl
  unfold f_G_isKey
  refine g_iload_n (pc := 0) (j := 0) K d_G_isKey_0 rfl ?_
  refine g_if_lt (pc := 1) (tgt := 14) K d_G_isKey_1 (by decide) (fun _ => ?_) (fun _ => ?_)
  · refine g_sub (L' := []) [] rfl ?_
    exact gb_G_isKey_14 K S T hI σ
  · refine g_iload_n (pc := 4) (j := 0) K d_G_isKey_4 rfl ?_
    refine g_bipush (pc := 5) (v := 6) K d_G_isKey_5 (by decide) ?_
    refine g_icmp_ge (pc := 7) (tgt := 14) K d_G_isKey_7 (by decide) (fun _ => ?_) (fun _ => ?_)
    · refine g_sub (L' := []) [] rfl ?_
      exact gb_G_isKey_14 K S T hI σ
    · refine g_iconst (pc := 10) (v := 1) K d_G_isKey_10 (by decide) ?_
      refine g_goto (pc := 11) (tgt := 15) K d_G_isKey_11 (by decide) ?_
      refine g_sub (L' := []) [] rfl ?_
      exact gb_G_isKey_15 K S T hI σ (1 : Int32)
-- TapirGroup.at(III)I
def y_G_at : MethodName := ⟨"TapirGroup", "at", "(III)I"⟩
abbrev rm_G_at : Room := { frames := 1, cells := 0, slots := 0, locals := 20 }
theorem d_G_at_0 : decode prog_1_method_14_code 0 = .ok (.iload_n 1, 1) := by decide +kernel
theorem d_G_at_1 : decode prog_1_method_14_code 1 = .ok (.invokestatic 63, 3) := by decide +kernel
theorem d_G_at_4 : decode prog_1_method_14_code 4 = .ok (.ifCond .eq 10, 3) := by decide +kernel
theorem d_G_at_7 : decode prog_1_method_14_code 7 = .ok (.iload_n 2, 1) := by decide +kernel
theorem d_G_at_8 : decode prog_1_method_14_code 8 = .ok (.invokestatic 60, 3) := by decide +kernel
theorem d_G_at_11 : decode prog_1_method_14_code 11 = .ok (.ifCond .ne 5, 3) := by decide +kernel
theorem d_G_at_14 : decode prog_1_method_14_code 14 = .ok (.iconst (-1), 1) := by decide +kernel
theorem d_G_at_15 : decode prog_1_method_14_code 15 = .ok (.ireturn, 1) := by decide +kernel
theorem d_G_at_16 : decode prog_1_method_14_code 16 = .ok (.iload_n 3, 1) := by decide +kernel
theorem d_G_at_17 : decode prog_1_method_14_code 17 = .ok (.tableswitch 63 0 2 #[27, 39, 51], 27) := by decide +kernel
theorem d_G_at_44 : decode prog_1_method_14_code 44 = .ok (.aload_n 0, 1) := by decide +kernel
theorem d_G_at_45 : decode prog_1_method_14_code 45 = .ok (.getfield 11, 3) := by decide +kernel
theorem d_G_at_48 : decode prog_1_method_14_code 48 = .ok (.iload_n 1, 1) := by decide +kernel
theorem d_G_at_49 : decode prog_1_method_14_code 49 = .ok (.aaload, 1) := by decide +kernel
theorem d_G_at_50 : decode prog_1_method_14_code 50 = .ok (.getfield 103, 3) := by decide +kernel
theorem d_G_at_53 : decode prog_1_method_14_code 53 = .ok (.iload_n 2, 1) := by decide +kernel
theorem d_G_at_54 : decode prog_1_method_14_code 54 = .ok (.iaload, 1) := by decide +kernel
theorem d_G_at_55 : decode prog_1_method_14_code 55 = .ok (.ireturn, 1) := by decide +kernel
theorem d_G_at_56 : decode prog_1_method_14_code 56 = .ok (.aload_n 0, 1) := by decide +kernel
theorem d_G_at_57 : decode prog_1_method_14_code 57 = .ok (.getfield 11, 3) := by decide +kernel
theorem d_G_at_60 : decode prog_1_method_14_code 60 = .ok (.iload_n 1, 1) := by decide +kernel
theorem d_G_at_61 : decode prog_1_method_14_code 61 = .ok (.aaload, 1) := by decide +kernel
theorem d_G_at_62 : decode prog_1_method_14_code 62 = .ok (.getfield 106, 3) := by decide +kernel
theorem d_G_at_65 : decode prog_1_method_14_code 65 = .ok (.iload_n 2, 1) := by decide +kernel
theorem d_G_at_66 : decode prog_1_method_14_code 66 = .ok (.iaload, 1) := by decide +kernel
theorem d_G_at_67 : decode prog_1_method_14_code 67 = .ok (.ireturn, 1) := by decide +kernel
theorem d_G_at_68 : decode prog_1_method_14_code 68 = .ok (.aload_n 0, 1) := by decide +kernel
theorem d_G_at_69 : decode prog_1_method_14_code 69 = .ok (.getfield 11, 3) := by decide +kernel
theorem d_G_at_72 : decode prog_1_method_14_code 72 = .ok (.iload_n 1, 1) := by decide +kernel
theorem d_G_at_73 : decode prog_1_method_14_code 73 = .ok (.aaload, 1) := by decide +kernel
theorem d_G_at_74 : decode prog_1_method_14_code 74 = .ok (.getfield 244, 3) := by decide +kernel
theorem d_G_at_77 : decode prog_1_method_14_code 77 = .ok (.iload_n 2, 1) := by decide +kernel
theorem d_G_at_78 : decode prog_1_method_14_code 78 = .ok (.iaload, 1) := by decide +kernel
theorem d_G_at_79 : decode prog_1_method_14_code 79 = .ok (.ireturn, 1) := by decide +kernel
theorem d_G_at_80 : decode prog_1_method_14_code 80 = .ok (.iconst (-1), 1) := by decide +kernel
theorem d_G_at_81 : decode prog_1_method_14_code 81 = .ok (.ireturn, 1) := by decide +kernel
theorem cn_G_at : CN y_G_at (.code y_G_at prog_1_method_14_code 4 (some .int)) prog_1_method_14_code 4 (some .int) [] 3 := ⟨Or.inl ⟨rfl, rfl⟩, mw_145, mw_1, ⟨by decide +kernel, by decide +kernel⟩, by decide +kernel⟩
def b_G_at_14 (σ : Sg)   : Option Int32 := (some (-1 : Int32))
set_option maxRecDepth 100000 in
set_option maxHeartbeats 4000000 in
theorem gb_G_at_14 {Γ : GX} (K : Cx Γ "TapirGroup" prog_1_method_14_code 4 rm_G_at) (S : Std Γ (some .int)) (T : Tb Γ []) (hI : y_G_at.name = "<init>" → Ini Γ) (σ : Sg)  : G Γ (mkI σ) 0 0 14 [] [] σ (b_G_at_14 σ ) := by
  unfold b_G_at_14
  refine g_iconst (pc := 14) (v := -1) K d_G_at_14 (by decide) ?_
  exact g_iret (pc := 15) K S rfl d_G_at_15 (by decide) (by decide) rfl
def f_G_at (σ : Sg) (a0 : Nat) (x1 : Int32) (x2 : Int32) (x3 : Int32) : Option Int32 := ((f_G_isReplica σ x1).bind (fun v1 => (if v1 = 0 then (b_G_at_14 σ) else ((f_G_isKey σ x2).bind (fun v2 => (if v2 = 0 then (b_G_at_14 σ) else (if x3 = (0 : Int32) then (if a0 < σ.1 ∧ kd a0 = 3 then rc (g_r σ a0 0) none (fun b3 => (if (b3 < σ.1 ∧ kd b3 = 13) ∧ inb x1 (ln b3) = true then rc (g_r σ b3 x1.toNatClampNeg) none (fun b4 => (if b4 < σ.1 ∧ kd b4 = 1 then rc (g_r σ b4 2) none (fun b5 => (if (b5 < σ.1 ∧ kd b5 = 10) ∧ inb x2 (ln b5) = true then (some (g_i σ b5 x2.toNatClampNeg)) else none)) else none)) else none)) else none) else (if x3 = (1 : Int32) then (if a0 < σ.1 ∧ kd a0 = 3 then rc (g_r σ a0 0) none (fun b6 => (if (b6 < σ.1 ∧ kd b6 = 13) ∧ inb x1 (ln b6) = true then rc (g_r σ b6 x1.toNatClampNeg) none (fun b7 => (if b7 < σ.1 ∧ kd b7 = 1 then rc (g_r σ b7 3) none (fun b8 => (if (b8 < σ.1 ∧ kd b8 = 10) ∧ inb x2 (ln b8) = true then (some (g_i σ b8 x2.toNatClampNeg)) else none)) else none)) else none)) else none) else (if x3 = (2 : Int32) then (if a0 < σ.1 ∧ kd a0 = 3 then rc (g_r σ a0 0) none (fun b9 => (if (b9 < σ.1 ∧ kd b9 = 13) ∧ inb x1 (ln b9) = true then rc (g_r σ b9 x1.toNatClampNeg) none (fun b10 => (if b10 < σ.1 ∧ kd b10 = 1 then rc (g_r σ b10 4) none (fun b11 => (if (b11 < σ.1 ∧ kd b11 = 10) ∧ inb x2 (ln b11) = true then (some (g_i σ b11 x2.toNatClampNeg)) else none)) else none)) else none)) else none) else (some (-1 : Int32)))))))))))
set_option maxRecDepth 100000 in
set_option maxHeartbeats 4000000 in
theorem k_G_at (l : Launch) (hl : l.stackTraces = false) (σ : Sg) (a0 : Nat) (x1 : Int32) (x2 : Int32) (x3 : Int32) (r : Int32) (h : f_G_at σ a0 x1 x2 x3 = some r) : Con l y_G_at (.code y_G_at prog_1_method_14_code 4 (some .int)) rm_G_at [.ref a0, .int x1, .int x2, .int x3] σ ((mkI σ) r) := by
  refine Con.of (mk := (mkI σ)) (o := f_G_at σ a0 x1 x2 x3) (z := r) (L0 := [(0, .ref a0), (1, .int x1), (2, .int x2), (3, .int x3)]) (bytes := prog_1_method_14_code) (maxL := 4) (ret := (some .int)) (hh := []) hl (by decide +kernel) (Or.inl ⟨rfl, rfl⟩) (by simp [Value.category]) (Nat.le_of_ble_eq_true rfl) rfl (fun Γ K S T hI => ?_) h rfl
  unfold f_G_at
  refine g_iload_n (pc := 0) (j := 1) K d_G_at_0 rfl ?_
  refine g_callS (pc := 1) (vs := [.int x1]) (st := []) (mkc := mkI σ) K cn_G_isReplica (fun l hl r hr => k_G_isReplica l hl _ _ r hr) mw_146 mw_147 ⟨by decide, by decide, by decide, by decide⟩ d_G_at_1 rfl rfl (Nat.le_of_ble_eq_true rfl) (fun v1 _ => ?_)
  change G Γ (mkI σ) 0 0 4 [(0, .ref a0), (1, .int x1), (2, .int x2), (3, .int x3)] [.int v1] σ _
  refine g_if_eq (pc := 4) (tgt := 14) K d_G_at_4 (by decide) (fun _ => ?_) (fun _ => ?_)
  · refine g_sub (L' := []) [] rfl ?_
    exact gb_G_at_14 K S T hI σ
  · refine g_iload_n (pc := 7) (j := 2) K d_G_at_7 rfl ?_
    refine g_callS (pc := 8) (vs := [.int x2]) (st := []) (mkc := mkI σ) K cn_G_isKey (fun l hl r hr => k_G_isKey l hl _ _ r hr) mw_149 mw_150 ⟨by decide, by decide, by decide, by decide⟩ d_G_at_8 rfl rfl (Nat.le_of_ble_eq_true rfl) (fun v2 _ => ?_)
    change G Γ (mkI σ) 0 0 11 [(0, .ref a0), (1, .int x1), (2, .int x2), (3, .int x3)] [.int v2] σ _
    refine g_if_ne (pc := 11) (tgt := 16) K d_G_at_11 (by decide) (fun _ => ?_) (fun _ => ?_)
    · refine g_iload_n (pc := 16) (j := 3) K d_G_at_16 rfl ?_
      refine g_ite (fun h => ?_) (fun h0 => ?_)
      · refine g_tableIn (pc := 17) (off := 27) (tgt := 44) K d_G_at_17 (by rw [h]; decide) (by rw [h]; decide) (by rw [h]; decide) (by decide) ?_
        refine g_aload_n (pc := 44) (j := 0) K d_G_at_44 rfl ?_
        refine g_getR (pc := 45) K fl_G_11 d_G_at_45 (fun _ => ?_) (fun b3 _ => ?_)
        · exact g_none
        · refine g_iload_n (pc := 48) (j := 1) K d_G_at_48 rfl ?_
          refine g_aald (pc := 49) (kq := 13) (t0 := 3) K (by decide) (fun _ => rfl) d_G_at_49 (fun _ => ?_) (fun b4 _ => ?_)
          · exact g_none
          · refine g_getR (pc := 50) K fl_G_103 d_G_at_50 (fun _ => ?_) (fun b5 _ => ?_)
            · exact g_none
            · refine g_iload_n (pc := 53) (j := 2) K d_G_at_53 rfl ?_
              refine g_iald (pc := 54) K d_G_at_54 ?_
              exact g_iret (pc := 55) K S rfl d_G_at_55 (by decide) (by decide) rfl
      · refine g_ite (fun h => ?_) (fun h1 => ?_)
        · refine g_tableIn (pc := 17) (off := 39) (tgt := 56) K d_G_at_17 (by rw [h]; decide) (by rw [h]; decide) (by rw [h]; decide) (by decide) ?_
          refine g_aload_n (pc := 56) (j := 0) K d_G_at_56 rfl ?_
          refine g_getR (pc := 57) K fl_G_11 d_G_at_57 (fun _ => ?_) (fun b6 _ => ?_)
          · exact g_none
          · refine g_iload_n (pc := 60) (j := 1) K d_G_at_60 rfl ?_
            refine g_aald (pc := 61) (kq := 13) (t0 := 3) K (by decide) (fun _ => rfl) d_G_at_61 (fun _ => ?_) (fun b7 _ => ?_)
            · exact g_none
            · refine g_getR (pc := 62) K fl_G_106 d_G_at_62 (fun _ => ?_) (fun b8 _ => ?_)
              · exact g_none
              · refine g_iload_n (pc := 65) (j := 2) K d_G_at_65 rfl ?_
                refine g_iald (pc := 66) K d_G_at_66 ?_
                exact g_iret (pc := 67) K S rfl d_G_at_67 (by decide) (by decide) rfl
        · refine g_ite (fun h => ?_) (fun h2 => ?_)
          · refine g_tableIn (pc := 17) (off := 51) (tgt := 68) K d_G_at_17 (by rw [h]; decide) (by rw [h]; decide) (by rw [h]; decide) (by decide) ?_
            refine g_aload_n (pc := 68) (j := 0) K d_G_at_68 rfl ?_
            refine g_getR (pc := 69) K fl_G_11 d_G_at_69 (fun _ => ?_) (fun b9 _ => ?_)
            · exact g_none
            · refine g_iload_n (pc := 72) (j := 1) K d_G_at_72 rfl ?_
              refine g_aald (pc := 73) (kq := 13) (t0 := 3) K (by decide) (fun _ => rfl) d_G_at_73 (fun _ => ?_) (fun b10 _ => ?_)
              · exact g_none
              · refine g_getR (pc := 74) K fl_G_244 d_G_at_74 (fun _ => ?_) (fun b11 _ => ?_)
                · exact g_none
                · refine g_iload_n (pc := 77) (j := 2) K d_G_at_77 rfl ?_
                  refine g_iald (pc := 78) K d_G_at_78 ?_
                  exact g_iret (pc := 79) K S rfl d_G_at_79 (by decide) (by decide) rfl
          · have n0 := lv_neT h0 (show (0 : Int32).toInt = 0 from by decide)
            have n1 := lv_neT h1 (show (1 : Int32).toInt = 1 from by decide)
            have n2 := lv_neT h2 (show (2 : Int32).toInt = 2 from by decide)
            refine g_tableOut (pc := 17) (tgt := 80) K d_G_at_17 (by omega) (by decide) ?_
            refine g_iconst (pc := 80) (v := -1) K d_G_at_80 (by decide) ?_
            exact g_iret (pc := 81) K S rfl d_G_at_81 (by decide) (by decide) rfl
    · refine g_sub (L' := []) [] rfl ?_
      exact gb_G_at_14 K S T hI σ
-- TapirGroup.record(II)I
def y_G_record : MethodName := ⟨"TapirGroup", "record", "(II)I"⟩
abbrev rm_G_record : Room := { frames := 1, cells := 0, slots := 0, locals := 20 }
theorem d_G_record_0 : decode prog_1_method_15_code 0 = .ok (.iload_n 1, 1) := by decide +kernel
theorem d_G_record_1 : decode prog_1_method_15_code 1 = .ok (.invokestatic 63, 3) := by decide +kernel
theorem d_G_record_4 : decode prog_1_method_15_code 4 = .ok (.ifCond .eq 16, 3) := by decide +kernel
theorem d_G_record_7 : decode prog_1_method_15_code 7 = .ok (.iload_n 2, 1) := by decide +kernel
theorem d_G_record_8 : decode prog_1_method_15_code 8 = .ok (.iconst 1, 1) := by decide +kernel
theorem d_G_record_9 : decode prog_1_method_15_code 9 = .ok (.if_icmp .lt 11, 3) := by decide +kernel
theorem d_G_record_12 : decode prog_1_method_15_code 12 = .ok (.iload_n 2, 1) := by decide +kernel
theorem d_G_record_13 : decode prog_1_method_15_code 13 = .ok (.aload_n 0, 1) := by decide +kernel
theorem d_G_record_14 : decode prog_1_method_15_code 14 = .ok (.getfield 27, 3) := by decide +kernel
theorem d_G_record_17 : decode prog_1_method_15_code 17 = .ok (.if_icmp .le 5, 3) := by decide +kernel
theorem d_G_record_20 : decode prog_1_method_15_code 20 = .ok (.iconst (-1), 1) := by decide +kernel
theorem d_G_record_21 : decode prog_1_method_15_code 21 = .ok (.ireturn, 1) := by decide +kernel
theorem d_G_record_22 : decode prog_1_method_15_code 22 = .ok (.aload_n 0, 1) := by decide +kernel
theorem d_G_record_23 : decode prog_1_method_15_code 23 = .ok (.getfield 11, 3) := by decide +kernel
theorem d_G_record_26 : decode prog_1_method_15_code 26 = .ok (.iload_n 1, 1) := by decide +kernel
theorem d_G_record_27 : decode prog_1_method_15_code 27 = .ok (.aaload, 1) := by decide +kernel
theorem d_G_record_28 : decode prog_1_method_15_code 28 = .ok (.getfield 155, 3) := by decide +kernel
theorem d_G_record_31 : decode prog_1_method_15_code 31 = .ok (.iload_n 2, 1) := by decide +kernel
theorem d_G_record_32 : decode prog_1_method_15_code 32 = .ok (.iaload, 1) := by decide +kernel
theorem d_G_record_33 : decode prog_1_method_15_code 33 = .ok (.ireturn, 1) := by decide +kernel
theorem cn_G_record : CN y_G_record (.code y_G_record prog_1_method_15_code 3 (some .int)) prog_1_method_15_code 3 (some .int) [] 2 := ⟨Or.inl ⟨rfl, rfl⟩, mw_155, mw_1, ⟨by decide +kernel, by decide +kernel⟩, by decide +kernel⟩
def b_G_record_20 (σ : Sg)   : Option Int32 := (some (-1 : Int32))
set_option maxRecDepth 100000 in
set_option maxHeartbeats 4000000 in
theorem gb_G_record_20 {Γ : GX} (K : Cx Γ "TapirGroup" prog_1_method_15_code 3 rm_G_record) (S : Std Γ (some .int)) (T : Tb Γ []) (hI : y_G_record.name = "<init>" → Ini Γ) (σ : Sg)  : G Γ (mkI σ) 0 0 20 [] [] σ (b_G_record_20 σ ) := by
  unfold b_G_record_20
  refine g_iconst (pc := 20) (v := -1) K d_G_record_20 (by decide) ?_
  exact g_iret (pc := 21) K S rfl d_G_record_21 (by decide) (by decide) rfl
def f_G_record (σ : Sg) (a0 : Nat) (x1 : Int32) (x2 : Int32) : Option Int32 := ((f_G_isReplica σ x1).bind (fun v1 => (if v1 = 0 then (b_G_record_20 σ) else (if x2 < (1 : Int32) then (b_G_record_20 σ) else (if a0 < σ.1 ∧ kd a0 = 3 then (if x2 ≤ (g_i σ a0 3) then (if a0 < σ.1 ∧ kd a0 = 3 then rc (g_r σ a0 0) none (fun b2 => (if (b2 < σ.1 ∧ kd b2 = 13) ∧ inb x1 (ln b2) = true then rc (g_r σ b2 x1.toNatClampNeg) none (fun b3 => (if b3 < σ.1 ∧ kd b3 = 1 then rc (g_r σ b3 5) none (fun b4 => (if (b4 < σ.1 ∧ kd b4 = 10) ∧ inb x2 (ln b4) = true then (some (g_i σ b4 x2.toNatClampNeg)) else none)) else none)) else none)) else none) else (b_G_record_20 σ)) else none)))))
set_option maxRecDepth 100000 in
set_option maxHeartbeats 4000000 in
theorem k_G_record (l : Launch) (hl : l.stackTraces = false) (σ : Sg) (a0 : Nat) (x1 : Int32) (x2 : Int32) (r : Int32) (h : f_G_record σ a0 x1 x2 = some r) : Con l y_G_record (.code y_G_record prog_1_method_15_code 3 (some .int)) rm_G_record [.ref a0, .int x1, .int x2] σ ((mkI σ) r) := by
  refine Con.of (mk := (mkI σ)) (o := f_G_record σ a0 x1 x2) (z := r) (L0 := [(0, .ref a0), (1, .int x1), (2, .int x2)]) (bytes := prog_1_method_15_code) (maxL := 3) (ret := (some .int)) (hh := []) hl (by decide +kernel) (Or.inl ⟨rfl, rfl⟩) (by simp [Value.category]) (Nat.le_of_ble_eq_true rfl) rfl (fun Γ K S T hI => ?_) h rfl
  unfold f_G_record
  refine g_iload_n (pc := 0) (j := 1) K d_G_record_0 rfl ?_
  refine g_callS (pc := 1) (vs := [.int x1]) (st := []) (mkc := mkI σ) K cn_G_isReplica (fun l hl r hr => k_G_isReplica l hl _ _ r hr) mw_146 mw_147 ⟨by decide, by decide, by decide, by decide⟩ d_G_record_1 rfl rfl (Nat.le_of_ble_eq_true rfl) (fun v1 _ => ?_)
  change G Γ (mkI σ) 0 0 4 [(0, .ref a0), (1, .int x1), (2, .int x2)] [.int v1] σ _
  refine g_if_eq (pc := 4) (tgt := 20) K d_G_record_4 (by decide) (fun _ => ?_) (fun _ => ?_)
  · refine g_sub (L' := []) [] rfl ?_
    exact gb_G_record_20 K S T hI σ
  · refine g_iload_n (pc := 7) (j := 2) K d_G_record_7 rfl ?_
    refine g_iconst (pc := 8) (v := 1) K d_G_record_8 (by decide) ?_
    refine g_icmp_lt (pc := 9) (tgt := 20) K d_G_record_9 (by decide) (fun _ => ?_) (fun _ => ?_)
    · refine g_sub (L' := []) [] rfl ?_
      exact gb_G_record_20 K S T hI σ
    · refine g_iload_n (pc := 12) (j := 2) K d_G_record_12 rfl ?_
      refine g_aload_n (pc := 13) (j := 0) K d_G_record_13 rfl ?_
      refine g_getI (pc := 14) K fl_G_27 d_G_record_14 ?_
      refine g_icmp_le (pc := 17) (tgt := 22) K d_G_record_17 (by decide) (fun _ => ?_) (fun _ => ?_)
      · refine g_aload_n (pc := 22) (j := 0) K d_G_record_22 rfl ?_
        refine g_getR (pc := 23) K fl_G_11 d_G_record_23 (fun _ => ?_) (fun b2 _ => ?_)
        · exact g_none
        · refine g_iload_n (pc := 26) (j := 1) K d_G_record_26 rfl ?_
          refine g_aald (pc := 27) (kq := 13) (t0 := 3) K (by decide) (fun _ => rfl) d_G_record_27 (fun _ => ?_) (fun b3 _ => ?_)
          · exact g_none
          · refine g_getR (pc := 28) K fl_G_155 d_G_record_28 (fun _ => ?_) (fun b4 _ => ?_)
            · exact g_none
            · refine g_iload_n (pc := 31) (j := 2) K d_G_record_31 rfl ?_
              refine g_iald (pc := 32) K d_G_record_32 ?_
              exact g_iret (pc := 33) K S rfl d_G_record_33 (by decide) (by decide) rfl
      · refine g_sub (L' := []) [] rfl ?_
        exact gb_G_record_20 K S T hI σ
-- java/lang/Math.max(II)I
def y_J_max : MethodName := ⟨"java/lang/Math", "max", "(II)I"⟩
abbrev rm_J_max : Room := { frames := 0, cells := 0, slots := 0, locals := 0 }
theorem d_J_max_0 : decode prog_12_method_65_code 0 = .ok (.iload_n 0, 1) := by decide +kernel
theorem d_J_max_1 : decode prog_12_method_65_code 1 = .ok (.iload_n 1, 1) := by decide +kernel
theorem d_J_max_2 : decode prog_12_method_65_code 2 = .ok (.if_icmp .lt 7, 3) := by decide +kernel
theorem d_J_max_5 : decode prog_12_method_65_code 5 = .ok (.iload_n 0, 1) := by decide +kernel
theorem d_J_max_6 : decode prog_12_method_65_code 6 = .ok (.goto 4, 3) := by decide +kernel
theorem d_J_max_9 : decode prog_12_method_65_code 9 = .ok (.iload_n 1, 1) := by decide +kernel
theorem d_J_max_10 : decode prog_12_method_65_code 10 = .ok (.ireturn, 1) := by decide +kernel
theorem cn_J_max : CN y_J_max (.code y_J_max prog_12_method_65_code 2 (some .int)) prog_12_method_65_code 2 (some .int) [] 2 := ⟨Or.inl ⟨rfl, rfl⟩, mw_166, mw_12, ⟨by decide +kernel, by decide +kernel⟩, by decide +kernel⟩
def b_J_max_10 (σ : Sg)  (t0 : Int32) : Option Int32 := (some t0)
set_option maxRecDepth 100000 in
set_option maxHeartbeats 4000000 in
theorem gb_J_max_10 {Γ : GX} (K : Cx Γ "java/lang/Math" prog_12_method_65_code 2 rm_J_max) (S : Std Γ (some .int)) (T : Tb Γ []) (hI : y_J_max.name = "<init>" → Ini Γ) (σ : Sg) (t0 : Int32) : G Γ (mkI σ) 0 0 10 [] [.int t0] σ (b_J_max_10 σ t0) := by
  unfold b_J_max_10
  exact g_iret (pc := 10) K S rfl d_J_max_10 (by decide) (by decide) rfl
def f_J_max (σ : Sg) (x0 : Int32) (x1 : Int32) : Option Int32 := (if x0 < x1 then (b_J_max_10 σ x1) else (b_J_max_10 σ x0))
set_option maxRecDepth 100000 in
set_option maxHeartbeats 4000000 in
theorem k_J_max (l : Launch) (hl : l.stackTraces = false) (σ : Sg) (x0 : Int32) (x1 : Int32) (r : Int32) (h : f_J_max σ x0 x1 = some r) : Con l y_J_max (.code y_J_max prog_12_method_65_code 2 (some .int)) rm_J_max [.int x0, .int x1] σ ((mkI σ) r) := by
  refine Con.of (mk := (mkI σ)) (o := f_J_max σ x0 x1) (z := r) (L0 := [(0, .int x0), (1, .int x1)]) (bytes := prog_12_method_65_code) (maxL := 2) (ret := (some .int)) (hh := []) hl (by decide +kernel) (Or.inl ⟨rfl, rfl⟩) (by simp [Value.category]) (Nat.le_of_ble_eq_true rfl) rfl (fun Γ K S T hI => ?_) h rfl
  unfold f_J_max
  refine g_iload_n (pc := 0) (j := 0) K d_J_max_0 rfl ?_
  refine g_iload_n (pc := 1) (j := 1) K d_J_max_1 rfl ?_
  refine g_icmp_lt (pc := 2) (tgt := 9) K d_J_max_2 (by decide) (fun _ => ?_) (fun _ => ?_)
  · refine g_iload_n (pc := 9) (j := 1) K d_J_max_9 rfl ?_
    refine g_sub (L' := []) [] rfl ?_
    exact gb_J_max_10 K S T hI σ x1
  · refine g_iload_n (pc := 5) (j := 0) K d_J_max_5 rfl ?_
    refine g_goto (pc := 6) (tgt := 10) K d_J_max_6 (by decide) ?_
    refine g_sub (L' := []) [] rfl ?_
    exact gb_J_max_10 K S T hI σ x0
