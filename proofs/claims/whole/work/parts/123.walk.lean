-- TapirGroupModel.finalAtSome(I)I
def y_M_finalAtSome : MethodName := ⟨"TapirGroupModel", "finalAtSome", "(I)I"⟩
abbrev rm_M_finalAtSome : Room := { frames := 1, cells := 0, slots := 0, locals := 22 }
theorem d_M_finalAtSome_0 : decode prog_6_method_36_code 0 = .ok (.iconst 0, 1) := by decide +kernel
theorem d_M_finalAtSome_1 : decode prog_6_method_36_code 1 = .ok (.istore_n 2, 1) := by decide +kernel
theorem d_M_finalAtSome_2 : decode prog_6_method_36_code 2 = .ok (.iload_n 2, 1) := by decide +kernel
theorem d_M_finalAtSome_3 : decode prog_6_method_36_code 3 = .ok (.iconst 3, 1) := by decide +kernel
theorem d_M_finalAtSome_4 : decode prog_6_method_36_code 4 = .ok (.if_icmp .ge 57, 3) := by decide +kernel
theorem d_M_finalAtSome_7 : decode prog_6_method_36_code 7 = .ok (.aload_n 0, 1) := by decide +kernel
theorem d_M_finalAtSome_8 : decode prog_6_method_36_code 8 = .ok (.getfield 53, 3) := by decide +kernel
theorem d_M_finalAtSome_11 : decode prog_6_method_36_code 11 = .ok (.iload_n 2, 1) := by decide +kernel
theorem d_M_finalAtSome_12 : decode prog_6_method_36_code 12 = .ok (.baload, 1) := by decide +kernel
theorem d_M_finalAtSome_13 : decode prog_6_method_36_code 13 = .ok (.ifCond .eq 42, 3) := by decide +kernel
theorem d_M_finalAtSome_16 : decode prog_6_method_36_code 16 = .ok (.aload_n 0, 1) := by decide +kernel
theorem d_M_finalAtSome_17 : decode prog_6_method_36_code 17 = .ok (.getfield 56, 3) := by decide +kernel
theorem d_M_finalAtSome_20 : decode prog_6_method_36_code 20 = .ok (.iload_n 2, 1) := by decide +kernel
theorem d_M_finalAtSome_21 : decode prog_6_method_36_code 21 = .ok (.iaload, 1) := by decide +kernel
theorem d_M_finalAtSome_22 : decode prog_6_method_36_code 22 = .ok (.aload_n 0, 1) := by decide +kernel
theorem d_M_finalAtSome_23 : decode prog_6_method_36_code 23 = .ok (.invokevirtual 155, 3) := by decide +kernel
theorem d_M_finalAtSome_26 : decode prog_6_method_36_code 26 = .ok (.if_icmp .ne 29, 3) := by decide +kernel
theorem d_M_finalAtSome_29 : decode prog_6_method_36_code 29 = .ok (.aload_n 0, 1) := by decide +kernel
theorem d_M_finalAtSome_30 : decode prog_6_method_36_code 30 = .ok (.getfield 71, 3) := by decide +kernel
theorem d_M_finalAtSome_33 : decode prog_6_method_36_code 33 = .ok (.bipush 61, 2) := by decide +kernel
theorem d_M_finalAtSome_35 : decode prog_6_method_36_code 35 = .ok (.iload_n 2, 1) := by decide +kernel
theorem d_M_finalAtSome_36 : decode prog_6_method_36_code 36 = .ok (.imul, 1) := by decide +kernel
theorem d_M_finalAtSome_37 : decode prog_6_method_36_code 37 = .ok (.iload_n 1, 1) := by decide +kernel
theorem d_M_finalAtSome_38 : decode prog_6_method_36_code 38 = .ok (.iadd, 1) := by decide +kernel
theorem d_M_finalAtSome_39 : decode prog_6_method_36_code 39 = .ok (.baload, 1) := by decide +kernel
theorem d_M_finalAtSome_40 : decode prog_6_method_36_code 40 = .ok (.ifCond .eq 15, 3) := by decide +kernel
theorem d_M_finalAtSome_43 : decode prog_6_method_36_code 43 = .ok (.aload_n 0, 1) := by decide +kernel
theorem d_M_finalAtSome_44 : decode prog_6_method_36_code 44 = .ok (.getfield 68, 3) := by decide +kernel
theorem d_M_finalAtSome_47 : decode prog_6_method_36_code 47 = .ok (.bipush 61, 2) := by decide +kernel
theorem d_M_finalAtSome_49 : decode prog_6_method_36_code 49 = .ok (.iload_n 2, 1) := by decide +kernel
theorem d_M_finalAtSome_50 : decode prog_6_method_36_code 50 = .ok (.imul, 1) := by decide +kernel
theorem d_M_finalAtSome_51 : decode prog_6_method_36_code 51 = .ok (.iload_n 1, 1) := by decide +kernel
theorem d_M_finalAtSome_52 : decode prog_6_method_36_code 52 = .ok (.iadd, 1) := by decide +kernel
theorem d_M_finalAtSome_53 : decode prog_6_method_36_code 53 = .ok (.iaload, 1) := by decide +kernel
theorem d_M_finalAtSome_54 : decode prog_6_method_36_code 54 = .ok (.ireturn, 1) := by decide +kernel
theorem d_M_finalAtSome_55 : decode prog_6_method_36_code 55 = .ok (.iinc 2 1, 3) := by decide +kernel
theorem d_M_finalAtSome_58 : decode prog_6_method_36_code 58 = .ok (.goto (-56), 3) := by decide +kernel
theorem d_M_finalAtSome_61 : decode prog_6_method_36_code 61 = .ok (.iconst (-1), 1) := by decide +kernel
theorem d_M_finalAtSome_62 : decode prog_6_method_36_code 62 = .ok (.ireturn, 1) := by decide +kernel
theorem cn_M_finalAtSome : CN y_M_finalAtSome (.code y_M_finalAtSome prog_6_method_36_code 3 (some .int)) prog_6_method_36_code 3 (some .int) [] 1 := ⟨Or.inl ⟨rfl, rfl⟩, mw_792, mw_5, ⟨by decide +kernel, by decide +kernel⟩, by decide +kernel⟩
def b_M_finalAtSome_55 (σ : Sg) (k : Nat → Int32 → Int32 → Option Int32) (a0 : Nat) (x1 : Int32) (x2 : Int32) : Option Int32 := (k a0 x1 (x2 + 1))
set_option maxRecDepth 100000 in
set_option maxHeartbeats 4000000 in
theorem gb_M_finalAtSome_55 {Γ : GX} (K : Cx Γ "TapirGroupModel" prog_6_method_36_code 3 rm_M_finalAtSome) (S : Std Γ (some .int)) (T : Tb Γ []) (hI : y_M_finalAtSome.name = "<init>" → Ini Γ) (σ : Sg) (k : Nat → Int32 → Int32 → Option Int32) (hk : ∀ (a0 : Nat) (x1 : Int32) (x2 : Int32), G Γ (mkI σ) 0 0 2 [(0, .ref a0), (1, .int x1), (2, .int x2)] [] σ (k a0 x1 x2)) (a0 : Nat) (x1 : Int32) (x2 : Int32) : G Γ (mkI σ) 0 0 55 [(0, .ref a0), (1, .int x1), (2, .int x2)] [] σ (b_M_finalAtSome_55 σ k a0 x1 x2) := by
  unfold b_M_finalAtSome_55
  refine g_iinc (pc := 55) (j := 2) (v := (x2 + 1)) (L' := [(2, .int (x2 + 1)), (0, .ref a0), (1, .int x1)]) K d_M_finalAtSome_55 rfl (by rfl) (by decide) rfl ?_
  refine g_goto (pc := 58) (tgt := 2) K d_M_finalAtSome_58 (by decide) ?_
  refine g_sub (L' := [(0, .ref a0), (1, .int x1), (2, .int (x2 + 1))]) [1, 2, 0] rfl ?_
  exact hk a0 x1 (x2 + 1)
def b_M_finalAtSome_2 (σ : Sg) : Nat → Nat → Int32 → Int32 → Option Int32
  | 0 => fun _ _ _ => none
  | n + 1 => fun a0 x1 x2 => (if (3 : Int32) ≤ x2 then (some (-1 : Int32)) else (if a0 < σ.1 ∧ kd a0 = 4 then rc (g_r σ a0 16) none (fun b1 => (if (b1 < σ.1 ∧ kd b1 = 11) ∧ inb x2 (ln b1) = true then (if (g_i σ b1 x2.toNatClampNeg) = 0 then (b_M_finalAtSome_55 σ (b_M_finalAtSome_2 σ n) a0 x1 x2) else (if a0 < σ.1 ∧ kd a0 = 4 then rc (g_r σ a0 17) none (fun b2 => (if (b2 < σ.1 ∧ kd b2 = 10) ∧ inb x2 (ln b2) = true then (if a0 < σ.1 ∧ kd a0 = 4 then (f_M_viewUp σ a0).bind (fun v3 => (if (g_i σ b2 x2.toNatClampNeg) = v3 then (if a0 < σ.1 ∧ kd a0 = 4 then rc (g_r σ a0 22) none (fun b4 => (if (b4 < σ.1 ∧ kd b4 = 11) ∧ inb (((61 : Int32) * x2) + x1) (ln b4) = true then (if (g_i σ b4 (((61 : Int32) * x2) + x1).toNatClampNeg) = 0 then (b_M_finalAtSome_55 σ (b_M_finalAtSome_2 σ n) a0 x1 x2) else (if a0 < σ.1 ∧ kd a0 = 4 then rc (g_r σ a0 21) none (fun b5 => (if (b5 < σ.1 ∧ kd b5 = 10) ∧ inb (((61 : Int32) * x2) + x1) (ln b5) = true then (some (g_i σ b5 (((61 : Int32) * x2) + x1).toNatClampNeg)) else none)) else none)) else none)) else none) else (b_M_finalAtSome_55 σ (b_M_finalAtSome_2 σ n) a0 x1 x2))) else none) else none)) else none)) else none)) else none))
set_option maxRecDepth 100000 in
set_option maxHeartbeats 4000000 in
theorem gb_M_finalAtSome_2 {Γ : GX} (K : Cx Γ "TapirGroupModel" prog_6_method_36_code 3 rm_M_finalAtSome) (S : Std Γ (some .int)) (T : Tb Γ []) (hI : y_M_finalAtSome.name = "<init>" → Ini Γ) (σ : Sg) (n : Nat) : ∀ (a0 : Nat) (x1 : Int32) (x2 : Int32), G Γ (mkI σ) 0 0 2 [(0, .ref a0), (1, .int x1), (2, .int x2)] [] σ (b_M_finalAtSome_2 σ n a0 x1 x2) := by
  induction n with
  | zero =>
    intro a0 x1 x2
    exact g_none
  | succ n ih =>
    intro a0 x1 x2
    rw [b_M_finalAtSome_2]
    refine g_iload_n (pc := 2) (j := 2) K d_M_finalAtSome_2 rfl ?_
    refine g_iconst (pc := 3) (v := 3) K d_M_finalAtSome_3 (by decide) ?_
    refine g_icmp_ge (pc := 4) (tgt := 61) K d_M_finalAtSome_4 (by decide) (fun _ => ?_) (fun _ => ?_)
    · refine g_iconst (pc := 61) (v := -1) K d_M_finalAtSome_61 (by decide) ?_
      exact g_iret (pc := 62) K S rfl d_M_finalAtSome_62 (by decide) (by decide) rfl
    · refine g_aload_n (pc := 7) (j := 0) K d_M_finalAtSome_7 rfl ?_
      refine g_getR (pc := 8) K fl_M_53 d_M_finalAtSome_8 (fun _ => ?_) (fun b1 _ => ?_)
      · exact g_none
      · refine g_iload_n (pc := 11) (j := 2) K d_M_finalAtSome_11 rfl ?_
        refine g_zald (pc := 12) K d_M_finalAtSome_12 ?_
        refine g_if_eq (pc := 13) (tgt := 55) K d_M_finalAtSome_13 (by decide) (fun _ => ?_) (fun _ => ?_)
        · exact gb_M_finalAtSome_55 K S T hI σ (b_M_finalAtSome_2 σ n) ih a0 x1 x2
        · refine g_aload_n (pc := 16) (j := 0) K d_M_finalAtSome_16 rfl ?_
          refine g_getR (pc := 17) K fl_M_56 d_M_finalAtSome_17 (fun _ => ?_) (fun b2 _ => ?_)
          · exact g_none
          · refine g_iload_n (pc := 20) (j := 2) K d_M_finalAtSome_20 rfl ?_
            refine g_iald (pc := 21) K d_M_finalAtSome_21 ?_
            refine g_aload_n (pc := 22) (j := 0) K d_M_finalAtSome_22 rfl ?_
            refine g_callV (pc := 23) (ci := 4) (a := a0) (vs := []) (st := [.int (g_i σ b2 x2.toNatClampNeg)]) (mkc := mkI σ) K rfl (by decide) cn_M_viewUp (fun l hl r hr => k_M_viewUp l hl _ _ r hr) mw_793 mw_795 ms_35 ⟨by decide, by decide, by decide, by decide⟩ d_M_finalAtSome_23 rfl rfl (Nat.le_of_ble_eq_true rfl) (fun v3 _ => ?_)
            change G Γ (mkI σ) 0 0 26 [(0, .ref a0), (1, .int x1), (2, .int x2)] [.int v3, .int (g_i σ b2 x2.toNatClampNeg)] σ _
            refine g_icmp_ne (pc := 26) (tgt := 55) K d_M_finalAtSome_26 (by decide) (fun _ => ?_) (fun _ => ?_)
            · exact gb_M_finalAtSome_55 K S T hI σ (b_M_finalAtSome_2 σ n) ih a0 x1 x2
            · refine g_aload_n (pc := 29) (j := 0) K d_M_finalAtSome_29 rfl ?_
              refine g_getR (pc := 30) K fl_M_71 d_M_finalAtSome_30 (fun _ => ?_) (fun b4 _ => ?_)
              · exact g_none
              · refine g_bipush (pc := 33) (v := 61) K d_M_finalAtSome_33 (by decide) ?_
                refine g_iload_n (pc := 35) (j := 2) K d_M_finalAtSome_35 rfl ?_
                refine g_imul (pc := 36) K d_M_finalAtSome_36 ?_
                refine g_iload_n (pc := 37) (j := 1) K d_M_finalAtSome_37 rfl ?_
                refine g_iadd (pc := 38) K d_M_finalAtSome_38 ?_
                refine g_zald (pc := 39) K d_M_finalAtSome_39 ?_
                refine g_if_eq (pc := 40) (tgt := 55) K d_M_finalAtSome_40 (by decide) (fun _ => ?_) (fun _ => ?_)
                · exact gb_M_finalAtSome_55 K S T hI σ (b_M_finalAtSome_2 σ n) ih a0 x1 x2
                · refine g_aload_n (pc := 43) (j := 0) K d_M_finalAtSome_43 rfl ?_
                  refine g_getR (pc := 44) K fl_M_68 d_M_finalAtSome_44 (fun _ => ?_) (fun b5 _ => ?_)
                  · exact g_none
                  · refine g_bipush (pc := 47) (v := 61) K d_M_finalAtSome_47 (by decide) ?_
                    refine g_iload_n (pc := 49) (j := 2) K d_M_finalAtSome_49 rfl ?_
                    refine g_imul (pc := 50) K d_M_finalAtSome_50 ?_
                    refine g_iload_n (pc := 51) (j := 1) K d_M_finalAtSome_51 rfl ?_
                    refine g_iadd (pc := 52) K d_M_finalAtSome_52 ?_
                    refine g_iald (pc := 53) K d_M_finalAtSome_53 ?_
                    exact g_iret (pc := 54) K S rfl d_M_finalAtSome_54 (by decide) (by decide) rfl
def f_M_finalAtSome (σ : Sg) (a0 : Nat) (x1 : Int32) : Option Int32 := (b_M_finalAtSome_2 σ 1000 a0 x1 (0 : Int32))
set_option maxRecDepth 100000 in
set_option maxHeartbeats 4000000 in
theorem k_M_finalAtSome (l : Launch) (hl : l.stackTraces = false) (σ : Sg) (a0 : Nat) (x1 : Int32) (r : Int32) (h : f_M_finalAtSome σ a0 x1 = some r) : Con l y_M_finalAtSome (.code y_M_finalAtSome prog_6_method_36_code 3 (some .int)) rm_M_finalAtSome [.ref a0, .int x1] σ ((mkI σ) r) := by
  refine Con.of (mk := (mkI σ)) (o := f_M_finalAtSome σ a0 x1) (z := r) (L0 := [(0, .ref a0), (1, .int x1)]) (bytes := prog_6_method_36_code) (maxL := 3) (ret := (some .int)) (hh := []) hl (by decide +kernel) (Or.inl ⟨rfl, rfl⟩) (by simp [Value.category]) (Nat.le_of_ble_eq_true rfl) rfl (fun Γ K S T hI => ?_) h rfl
  unfold f_M_finalAtSome
  refine g_iconst (pc := 0) (v := 0) K d_M_finalAtSome_0 (by decide) ?_
  refine g_istore_n (pc := 1) (L' := [(2, .int (0 : Int32)), (0, .ref a0), (1, .int x1)]) K d_M_finalAtSome_1 (by decide) rfl ?_
  refine g_sub (L' := [(0, .ref a0), (1, .int x1), (2, .int (0 : Int32))]) [1, 2, 0] rfl ?_
  exact gb_M_finalAtSome_2 K S T hI σ 1000 a0 x1 (0 : Int32)
-- TapirGroupModel.settle(II)V
def y_M_settle : MethodName := ⟨"TapirGroupModel", "settle", "(II)V"⟩
abbrev rm_M_settle : Room := { frames := 0, cells := 0, slots := 0, locals := 0 }
theorem d_M_settle_0 : decode prog_6_method_38_code 0 = .ok (.iconst 0, 1) := by decide +kernel
theorem d_M_settle_1 : decode prog_6_method_38_code 1 = .ok (.istore_n 3, 1) := by decide +kernel
theorem d_M_settle_2 : decode prog_6_method_38_code 2 = .ok (.iload_n 3, 1) := by decide +kernel
theorem d_M_settle_3 : decode prog_6_method_38_code 3 = .ok (.iconst 3, 1) := by decide +kernel
theorem d_M_settle_4 : decode prog_6_method_38_code 4 = .ok (.if_icmp .ge 45, 3) := by decide +kernel
theorem d_M_settle_7 : decode prog_6_method_38_code 7 = .ok (.aload_n 0, 1) := by decide +kernel
theorem d_M_settle_8 : decode prog_6_method_38_code 8 = .ok (.getfield 53, 3) := by decide +kernel
theorem d_M_settle_11 : decode prog_6_method_38_code 11 = .ok (.iload_n 3, 1) := by decide +kernel
theorem d_M_settle_12 : decode prog_6_method_38_code 12 = .ok (.baload, 1) := by decide +kernel
theorem d_M_settle_13 : decode prog_6_method_38_code 13 = .ok (.ifCond .ne 6, 3) := by decide +kernel
theorem d_M_settle_16 : decode prog_6_method_38_code 16 = .ok (.goto 27, 3) := by decide +kernel
theorem d_M_settle_19 : decode prog_6_method_38_code 19 = .ok (.aload_n 0, 1) := by decide +kernel
theorem d_M_settle_20 : decode prog_6_method_38_code 20 = .ok (.getfield 68, 3) := by decide +kernel
theorem d_M_settle_23 : decode prog_6_method_38_code 23 = .ok (.bipush 61, 2) := by decide +kernel
theorem d_M_settle_25 : decode prog_6_method_38_code 25 = .ok (.iload_n 3, 1) := by decide +kernel
theorem d_M_settle_26 : decode prog_6_method_38_code 26 = .ok (.imul, 1) := by decide +kernel
theorem d_M_settle_27 : decode prog_6_method_38_code 27 = .ok (.iload_n 1, 1) := by decide +kernel
theorem d_M_settle_28 : decode prog_6_method_38_code 28 = .ok (.iadd, 1) := by decide +kernel
theorem d_M_settle_29 : decode prog_6_method_38_code 29 = .ok (.iload_n 2, 1) := by decide +kernel
theorem d_M_settle_30 : decode prog_6_method_38_code 30 = .ok (.iastore, 1) := by decide +kernel
theorem d_M_settle_31 : decode prog_6_method_38_code 31 = .ok (.aload_n 0, 1) := by decide +kernel
theorem d_M_settle_32 : decode prog_6_method_38_code 32 = .ok (.getfield 71, 3) := by decide +kernel
theorem d_M_settle_35 : decode prog_6_method_38_code 35 = .ok (.bipush 61, 2) := by decide +kernel
theorem d_M_settle_37 : decode prog_6_method_38_code 37 = .ok (.iload_n 3, 1) := by decide +kernel
theorem d_M_settle_38 : decode prog_6_method_38_code 38 = .ok (.imul, 1) := by decide +kernel
theorem d_M_settle_39 : decode prog_6_method_38_code 39 = .ok (.iload_n 1, 1) := by decide +kernel
theorem d_M_settle_40 : decode prog_6_method_38_code 40 = .ok (.iadd, 1) := by decide +kernel
theorem d_M_settle_41 : decode prog_6_method_38_code 41 = .ok (.iconst 1, 1) := by decide +kernel
theorem d_M_settle_42 : decode prog_6_method_38_code 42 = .ok (.bastore, 1) := by decide +kernel
theorem d_M_settle_43 : decode prog_6_method_38_code 43 = .ok (.iinc 3 1, 3) := by decide +kernel
theorem d_M_settle_46 : decode prog_6_method_38_code 46 = .ok (.goto (-44), 3) := by decide +kernel
theorem d_M_settle_49 : decode prog_6_method_38_code 49 = .ok (.return_, 1) := by decide +kernel
theorem cn_M_settle : CN y_M_settle (.code y_M_settle prog_6_method_38_code 4 none) prog_6_method_38_code 4 none [] 2 := ⟨Or.inl ⟨rfl, rfl⟩, mw_800, mw_5, ⟨by decide +kernel, by decide +kernel⟩, by decide +kernel⟩
def b_M_settle_43 (k : Sg → Nat → Int32 → Int32 → Int32 → Option Sg) (σ : Sg) (a0 : Nat) (x1 : Int32) (x2 : Int32) (x3 : Int32) : Option Sg := (k σ a0 x1 x2 (x3 + 1))
set_option maxRecDepth 100000 in
set_option maxHeartbeats 4000000 in
theorem gb_M_settle_43 {Γ : GX} (K : Cx Γ "TapirGroupModel" prog_6_method_38_code 4 rm_M_settle) (S : Std Γ none) (T : Tb Γ []) (hI : y_M_settle.name = "<init>" → Ini Γ) (k : Sg → Nat → Int32 → Int32 → Int32 → Option Sg) (hk : ∀ (σ : Sg) (a0 : Nat) (x1 : Int32) (x2 : Int32) (x3 : Int32), G Γ mkV 0 0 2 [(0, .ref a0), (1, .int x1), (2, .int x2), (3, .int x3)] [] σ (k σ a0 x1 x2 x3)) (σ : Sg) (a0 : Nat) (x1 : Int32) (x2 : Int32) (x3 : Int32) : G Γ mkV 0 0 43 [(0, .ref a0), (1, .int x1), (2, .int x2), (3, .int x3)] [] σ (b_M_settle_43 k σ a0 x1 x2 x3) := by
  unfold b_M_settle_43
  refine g_iinc (pc := 43) (j := 3) (v := (x3 + 1)) (L' := [(3, .int (x3 + 1)), (0, .ref a0), (1, .int x1), (2, .int x2)]) K d_M_settle_43 rfl (by rfl) (by decide) rfl ?_
  refine g_goto (pc := 46) (tgt := 2) K d_M_settle_46 (by decide) ?_
  refine g_sub (L' := [(0, .ref a0), (1, .int x1), (2, .int x2), (3, .int (x3 + 1))]) [1, 2, 3, 0] rfl ?_
  exact hk σ a0 x1 x2 (x3 + 1)
def b_M_settle_2 : Nat → Sg → Nat → Int32 → Int32 → Int32 → Option Sg
  | 0 => fun _ _ _ _ _ => none
  | n + 1 => fun σ a0 x1 x2 x3 => (if (3 : Int32) ≤ x3 then (some σ) else (if a0 < σ.1 ∧ kd a0 = 4 then rc (g_r σ a0 16) none (fun b1 => (if (b1 < σ.1 ∧ kd b1 = 11) ∧ inb x3 (ln b1) = true then (if (g_i σ b1 x3.toNatClampNeg) = 0 then (b_M_settle_43 (b_M_settle_2 n) σ a0 x1 x2 x3) else (if a0 < σ.1 ∧ kd a0 = 4 then rc (g_r σ a0 21) none (fun b2 => (if (b2 < σ.1 ∧ kd b2 = 10) ∧ inb (((61 : Int32) * x3) + x1) (ln b2) = true then (wi (s_i σ b2 (((61 : Int32) * x3) + x1).toNatClampNeg x2) (fun s3 => (if a0 < s3.1 ∧ kd a0 = 4 then rc (g_r s3 a0 22) none (fun b4 => (if ((b4 < s3.1 ∧ kd b4 = 11) ∧ inb (((61 : Int32) * x3) + x1) (ln b4) = true) ∧ ((1 : Int32) = 0 ∨ (1 : Int32) = 1) then (wi (s_i s3 b4 (((61 : Int32) * x3) + x1).toNatClampNeg (1 : Int32)) (fun s5 => (b_M_settle_43 (b_M_settle_2 n) s5 a0 x1 x2 x3))) else none)) else none))) else none)) else none)) else none)) else none))
set_option maxRecDepth 100000 in
set_option maxHeartbeats 4000000 in
theorem gb_M_settle_2 {Γ : GX} (K : Cx Γ "TapirGroupModel" prog_6_method_38_code 4 rm_M_settle) (S : Std Γ none) (T : Tb Γ []) (hI : y_M_settle.name = "<init>" → Ini Γ) (n : Nat) : ∀ (σ : Sg) (a0 : Nat) (x1 : Int32) (x2 : Int32) (x3 : Int32), G Γ mkV 0 0 2 [(0, .ref a0), (1, .int x1), (2, .int x2), (3, .int x3)] [] σ (b_M_settle_2 n σ a0 x1 x2 x3) := by
  induction n with
  | zero =>
    intro σ a0 x1 x2 x3
    exact g_none
  | succ n ih =>
    intro σ a0 x1 x2 x3
    rw [b_M_settle_2]
    refine g_iload_n (pc := 2) (j := 3) K d_M_settle_2 rfl ?_
    refine g_iconst (pc := 3) (v := 3) K d_M_settle_3 (by decide) ?_
    refine g_icmp_ge (pc := 4) (tgt := 49) K d_M_settle_4 (by decide) (fun _ => ?_) (fun _ => ?_)
    · exact g_vret (pc := 49) K S d_M_settle_49 (by decide) (by decide) rfl
    · refine g_aload_n (pc := 7) (j := 0) K d_M_settle_7 rfl ?_
      refine g_getR (pc := 8) K fl_M_53 d_M_settle_8 (fun _ => ?_) (fun b1 _ => ?_)
      · exact g_none
      · refine g_iload_n (pc := 11) (j := 3) K d_M_settle_11 rfl ?_
        refine g_zald (pc := 12) K d_M_settle_12 ?_
        refine g_if_ne (pc := 13) (tgt := 19) K d_M_settle_13 (by decide) (fun _ => ?_) (fun _ => ?_)
        · refine g_aload_n (pc := 19) (j := 0) K d_M_settle_19 rfl ?_
          refine g_getR (pc := 20) K fl_M_68 d_M_settle_20 (fun _ => ?_) (fun b2 _ => ?_)
          · exact g_none
          · refine g_bipush (pc := 23) (v := 61) K d_M_settle_23 (by decide) ?_
            refine g_iload_n (pc := 25) (j := 3) K d_M_settle_25 rfl ?_
            refine g_imul (pc := 26) K d_M_settle_26 ?_
            refine g_iload_n (pc := 27) (j := 1) K d_M_settle_27 rfl ?_
            refine g_iadd (pc := 28) K d_M_settle_28 ?_
            refine g_iload_n (pc := 29) (j := 2) K d_M_settle_29 rfl ?_
            refine g_iast (pc := 30) K d_M_settle_30 ?_
            refine g_wi (fun s3 _ => ?_)
            refine g_aload_n (pc := 31) (j := 0) K d_M_settle_31 rfl ?_
            refine g_getR (pc := 32) K fl_M_71 d_M_settle_32 (fun _ => ?_) (fun b4 _ => ?_)
            · exact g_none
            · refine g_bipush (pc := 35) (v := 61) K d_M_settle_35 (by decide) ?_
              refine g_iload_n (pc := 37) (j := 3) K d_M_settle_37 rfl ?_
              refine g_imul (pc := 38) K d_M_settle_38 ?_
              refine g_iload_n (pc := 39) (j := 1) K d_M_settle_39 rfl ?_
              refine g_iadd (pc := 40) K d_M_settle_40 ?_
              refine g_iconst (pc := 41) (v := 1) K d_M_settle_41 (by decide) ?_
              refine g_zast (pc := 42) K d_M_settle_42 ?_
              refine g_wi (fun s5 _ => ?_)
              exact gb_M_settle_43 K S T hI (b_M_settle_2 n) ih s5 a0 x1 x2 x3
        · refine g_goto (pc := 16) (tgt := 43) K d_M_settle_16 (by decide) ?_
          exact gb_M_settle_43 K S T hI (b_M_settle_2 n) ih σ a0 x1 x2 x3
def f_M_settle (σ : Sg) (a0 : Nat) (x1 : Int32) (x2 : Int32) : Option Sg := (b_M_settle_2 1000 σ a0 x1 x2 (0 : Int32))
set_option maxRecDepth 100000 in
set_option maxHeartbeats 4000000 in
theorem k_M_settle (l : Launch) (hl : l.stackTraces = false) (σ : Sg) (a0 : Nat) (x1 : Int32) (x2 : Int32) (r : Sg) (h : f_M_settle σ a0 x1 x2 = some r) : Con l y_M_settle (.code y_M_settle prog_6_method_38_code 4 none) rm_M_settle [.ref a0, .int x1, .int x2] σ (mkV r) := by
  refine Con.of (mk := mkV) (o := f_M_settle σ a0 x1 x2) (z := r) (L0 := [(0, .ref a0), (1, .int x1), (2, .int x2)]) (bytes := prog_6_method_38_code) (maxL := 4) (ret := none) (hh := []) hl (by decide +kernel) (Or.inl ⟨rfl, rfl⟩) (by simp [Value.category]) (Nat.le_of_ble_eq_true rfl) rfl (fun Γ K S T hI => ?_) h rfl
  unfold f_M_settle
  refine g_iconst (pc := 0) (v := 0) K d_M_settle_0 (by decide) ?_
  refine g_istore_n (pc := 1) (L' := [(3, .int (0 : Int32)), (0, .ref a0), (1, .int x1), (2, .int x2)]) K d_M_settle_1 (by decide) rfl ?_
  refine g_sub (L' := [(0, .ref a0), (1, .int x1), (2, .int x2), (3, .int (0 : Int32))]) [1, 2, 3, 0] rfl ?_
  exact gb_M_settle_2 K S T hI 1000 σ a0 x1 x2 (0 : Int32)
-- TapirGroupModel.merge(II)V
def y_M_merge : MethodName := ⟨"TapirGroupModel", "merge", "(II)V"⟩
abbrev rm_M_merge : Room := { frames := 2, cells := 0, slots := 0, locals := 44 }
theorem d_M_merge_0 : decode prog_6_method_39_code 0 = .ok (.aload_n 0, 1) := by decide +kernel
theorem d_M_merge_1 : decode prog_6_method_39_code 1 = .ok (.iload_n 1, 1) := by decide +kernel
theorem d_M_merge_2 : decode prog_6_method_39_code 2 = .ok (.invokevirtual 158, 3) := by decide +kernel
theorem d_M_merge_5 : decode prog_6_method_39_code 5 = .ok (.istore_n 3, 1) := by decide +kernel
theorem d_M_merge_6 : decode prog_6_method_39_code 6 = .ok (.iload_n 3, 1) := by decide +kernel
theorem d_M_merge_7 : decode prog_6_method_39_code 7 = .ok (.ifCond .ne 11, 3) := by decide +kernel
theorem d_M_merge_10 : decode prog_6_method_39_code 10 = .ok (.aload_n 0, 1) := by decide +kernel
theorem d_M_merge_11 : decode prog_6_method_39_code 11 = .ok (.iload_n 1, 1) := by decide +kernel
theorem d_M_merge_12 : decode prog_6_method_39_code 12 = .ok (.invokevirtual 161, 3) := by decide +kernel
theorem d_M_merge_15 : decode prog_6_method_39_code 15 = .ok (.ifCond .eq 91, 3) := by decide +kernel
theorem d_M_merge_18 : decode prog_6_method_39_code 18 = .ok (.iconst 0, 1) := by decide +kernel
theorem d_M_merge_19 : decode prog_6_method_39_code 19 = .ok (.istore 4, 2) := by decide +kernel
theorem d_M_merge_21 : decode prog_6_method_39_code 21 = .ok (.iload 4, 2) := by decide +kernel
theorem d_M_merge_23 : decode prog_6_method_39_code 23 = .ok (.iconst 3, 1) := by decide +kernel
theorem d_M_merge_24 : decode prog_6_method_39_code 24 = .ok (.if_icmp .ge 81, 3) := by decide +kernel
theorem d_M_merge_27 : decode prog_6_method_39_code 27 = .ok (.aload_n 0, 1) := by decide +kernel
theorem d_M_merge_28 : decode prog_6_method_39_code 28 = .ok (.getfield 53, 3) := by decide +kernel
theorem d_M_merge_31 : decode prog_6_method_39_code 31 = .ok (.iload 4, 2) := by decide +kernel
theorem d_M_merge_33 : decode prog_6_method_39_code 33 = .ok (.baload, 1) := by decide +kernel
theorem d_M_merge_34 : decode prog_6_method_39_code 34 = .ok (.ifCond .ne 6, 3) := by decide +kernel
theorem d_M_merge_37 : decode prog_6_method_39_code 37 = .ok (.goto 62, 3) := by decide +kernel
theorem d_M_merge_40 : decode prog_6_method_39_code 40 = .ok (.aload_n 0, 1) := by decide +kernel
theorem d_M_merge_41 : decode prog_6_method_39_code 41 = .ok (.iload_n 1, 1) := by decide +kernel
theorem d_M_merge_42 : decode prog_6_method_39_code 42 = .ok (.iload 4, 2) := by decide +kernel
theorem d_M_merge_44 : decode prog_6_method_39_code 44 = .ok (.iload_n 3, 1) := by decide +kernel
theorem d_M_merge_45 : decode prog_6_method_39_code 45 = .ok (.ifCond .eq 7, 3) := by decide +kernel
theorem d_M_merge_48 : decode prog_6_method_39_code 48 = .ok (.iconst 0, 1) := by decide +kernel
theorem d_M_merge_49 : decode prog_6_method_39_code 49 = .ok (.goto 4, 3) := by decide +kernel
theorem d_M_merge_52 : decode prog_6_method_39_code 52 = .ok (.iconst 2, 1) := by decide +kernel
theorem d_M_merge_53 : decode prog_6_method_39_code 53 = .ok (.invokevirtual 147, 3) := by decide +kernel
theorem d_M_merge_56 : decode prog_6_method_39_code 56 = .ok (.iload_n 3, 1) := by decide +kernel
theorem d_M_merge_57 : decode prog_6_method_39_code 57 = .ok (.ifCond .eq 25, 3) := by decide +kernel
theorem d_M_merge_60 : decode prog_6_method_39_code 60 = .ok (.aload_n 0, 1) := by decide +kernel
theorem d_M_merge_61 : decode prog_6_method_39_code 61 = .ok (.getfield 74, 3) := by decide +kernel
theorem d_M_merge_64 : decode prog_6_method_39_code 64 = .ok (.bipush 61, 2) := by decide +kernel
theorem d_M_merge_66 : decode prog_6_method_39_code 66 = .ok (.iload 4, 2) := by decide +kernel
theorem d_M_merge_68 : decode prog_6_method_39_code 68 = .ok (.imul, 1) := by decide +kernel
theorem d_M_merge_69 : decode prog_6_method_39_code 69 = .ok (.iload_n 1, 1) := by decide +kernel
theorem d_M_merge_70 : decode prog_6_method_39_code 70 = .ok (.iadd, 1) := by decide +kernel
theorem d_M_merge_71 : decode prog_6_method_39_code 71 = .ok (.baload, 1) := by decide +kernel
theorem d_M_merge_72 : decode prog_6_method_39_code 72 = .ok (.ifCond .ne 10, 3) := by decide +kernel
theorem d_M_merge_75 : decode prog_6_method_39_code 75 = .ok (.aload_n 0, 1) := by decide +kernel
theorem d_M_merge_76 : decode prog_6_method_39_code 76 = .ok (.iload_n 1, 1) := by decide +kernel
theorem d_M_merge_77 : decode prog_6_method_39_code 77 = .ok (.iload 4, 2) := by decide +kernel
theorem d_M_merge_79 : decode prog_6_method_39_code 79 = .ok (.invokevirtual 151, 3) := by decide +kernel
theorem d_M_merge_82 : decode prog_6_method_39_code 82 = .ok (.iload_n 3, 1) := by decide +kernel
theorem d_M_merge_83 : decode prog_6_method_39_code 83 = .ok (.ifCond .ne 16, 3) := by decide +kernel
theorem d_M_merge_86 : decode prog_6_method_39_code 86 = .ok (.aload_n 0, 1) := by decide +kernel
theorem d_M_merge_87 : decode prog_6_method_39_code 87 = .ok (.getfield 77, 3) := by decide +kernel
theorem d_M_merge_90 : decode prog_6_method_39_code 90 = .ok (.bipush 61, 2) := by decide +kernel
theorem d_M_merge_92 : decode prog_6_method_39_code 92 = .ok (.iload 4, 2) := by decide +kernel
theorem d_M_merge_94 : decode prog_6_method_39_code 94 = .ok (.imul, 1) := by decide +kernel
theorem d_M_merge_95 : decode prog_6_method_39_code 95 = .ok (.iload_n 1, 1) := by decide +kernel
theorem d_M_merge_96 : decode prog_6_method_39_code 96 = .ok (.iadd, 1) := by decide +kernel
theorem d_M_merge_97 : decode prog_6_method_39_code 97 = .ok (.iconst 1, 1) := by decide +kernel
theorem d_M_merge_98 : decode prog_6_method_39_code 98 = .ok (.bastore, 1) := by decide +kernel
theorem d_M_merge_99 : decode prog_6_method_39_code 99 = .ok (.iinc 4 1, 3) := by decide +kernel
theorem d_M_merge_102 : decode prog_6_method_39_code 102 = .ok (.goto (-81), 3) := by decide +kernel
theorem d_M_merge_105 : decode prog_6_method_39_code 105 = .ok (.return_, 1) := by decide +kernel
theorem d_M_merge_106 : decode prog_6_method_39_code 106 = .ok (.aload_n 0, 1) := by decide +kernel
theorem d_M_merge_107 : decode prog_6_method_39_code 107 = .ok (.iload_n 1, 1) := by decide +kernel
theorem d_M_merge_108 : decode prog_6_method_39_code 108 = .ok (.invokevirtual 164, 3) := by decide +kernel
theorem d_M_merge_111 : decode prog_6_method_39_code 111 = .ok (.istore 4, 2) := by decide +kernel
theorem d_M_merge_113 : decode prog_6_method_39_code 113 = .ok (.iconst 1, 1) := by decide +kernel
theorem d_M_merge_114 : decode prog_6_method_39_code 114 = .ok (.istore 5, 2) := by decide +kernel
theorem d_M_merge_116 : decode prog_6_method_39_code 116 = .ok (.iload 5, 2) := by decide +kernel
theorem d_M_merge_118 : decode prog_6_method_39_code 118 = .ok (.iconst 3, 1) := by decide +kernel
theorem d_M_merge_119 : decode prog_6_method_39_code 119 = .ok (.if_icmp .gt 33, 3) := by decide +kernel
theorem d_M_merge_122 : decode prog_6_method_39_code 122 = .ok (.iload 4, 2) := by decide +kernel
theorem d_M_merge_124 : decode prog_6_method_39_code 124 = .ok (.ifCond .ge 28, 3) := by decide +kernel
theorem d_M_merge_127 : decode prog_6_method_39_code 127 = .ok (.aload_n 0, 1) := by decide +kernel
theorem d_M_merge_128 : decode prog_6_method_39_code 128 = .ok (.iload_n 1, 1) := by decide +kernel
theorem d_M_merge_129 : decode prog_6_method_39_code 129 = .ok (.iload 5, 2) := by decide +kernel
theorem d_M_merge_131 : decode prog_6_method_39_code 131 = .ok (.invokevirtual 167, 3) := by decide +kernel
theorem d_M_merge_134 : decode prog_6_method_39_code 134 = .ok (.iconst 1, 1) := by decide +kernel
theorem d_M_merge_135 : decode prog_6_method_39_code 135 = .ok (.if_icmp .le 8, 3) := by decide +kernel
theorem d_M_merge_138 : decode prog_6_method_39_code 138 = .ok (.iload 5, 2) := by decide +kernel
theorem d_M_merge_140 : decode prog_6_method_39_code 140 = .ok (.goto 4, 3) := by decide +kernel
theorem d_M_merge_143 : decode prog_6_method_39_code 143 = .ok (.iconst (-1), 1) := by decide +kernel
theorem d_M_merge_144 : decode prog_6_method_39_code 144 = .ok (.istore 4, 2) := by decide +kernel
theorem d_M_merge_146 : decode prog_6_method_39_code 146 = .ok (.iinc 5 1, 3) := by decide +kernel
theorem d_M_merge_149 : decode prog_6_method_39_code 149 = .ok (.goto (-33), 3) := by decide +kernel
theorem d_M_merge_152 : decode prog_6_method_39_code 152 = .ok (.aload_n 0, 1) := by decide +kernel
theorem d_M_merge_153 : decode prog_6_method_39_code 153 = .ok (.iload_n 1, 1) := by decide +kernel
theorem d_M_merge_154 : decode prog_6_method_39_code 154 = .ok (.iload 4, 2) := by decide +kernel
theorem d_M_merge_156 : decode prog_6_method_39_code 156 = .ok (.ifCond .lt 8, 3) := by decide +kernel
theorem d_M_merge_159 : decode prog_6_method_39_code 159 = .ok (.iload 4, 2) := by decide +kernel
theorem d_M_merge_161 : decode prog_6_method_39_code 161 = .ok (.goto 18, 3) := by decide +kernel
theorem d_M_merge_164 : decode prog_6_method_39_code 164 = .ok (.aload_n 0, 1) := by decide +kernel
theorem d_M_merge_165 : decode prog_6_method_39_code 165 = .ok (.iload_n 1, 1) := by decide +kernel
theorem d_M_merge_166 : decode prog_6_method_39_code 166 = .ok (.iconst 0, 1) := by decide +kernel
theorem d_M_merge_167 : decode prog_6_method_39_code 167 = .ok (.invokevirtual 167, 3) := by decide +kernel
theorem d_M_merge_170 : decode prog_6_method_39_code 170 = .ok (.iload_n 2, 1) := by decide +kernel
theorem d_M_merge_171 : decode prog_6_method_39_code 171 = .ok (.if_icmp .ne 7, 3) := by decide +kernel
theorem d_M_merge_174 : decode prog_6_method_39_code 174 = .ok (.iconst 0, 1) := by decide +kernel
theorem d_M_merge_175 : decode prog_6_method_39_code 175 = .ok (.goto 4, 3) := by decide +kernel
theorem d_M_merge_178 : decode prog_6_method_39_code 178 = .ok (.iconst 2, 1) := by decide +kernel
theorem d_M_merge_179 : decode prog_6_method_39_code 179 = .ok (.invokevirtual 170, 3) := by decide +kernel
theorem d_M_merge_182 : decode prog_6_method_39_code 182 = .ok (.return_, 1) := by decide +kernel
theorem cn_M_merge : CN y_M_merge (.code y_M_merge prog_6_method_39_code 6 none) prog_6_method_39_code 6 none [] 2 := ⟨Or.inl ⟨rfl, rfl⟩, mw_780, mw_5, ⟨by decide +kernel, by decide +kernel⟩, by decide +kernel⟩
def b_M_merge_99 (k : Sg → Nat → Int32 → Int32 → Int32 → Option Sg) (σ : Sg) (a0 : Nat) (x1 : Int32) (x3 : Int32) (x4 : Int32) : Option Sg := (k σ a0 x1 x3 (x4 + 1))
set_option maxRecDepth 100000 in
set_option maxHeartbeats 4000000 in
theorem gb_M_merge_99 {Γ : GX} (K : Cx Γ "TapirGroupModel" prog_6_method_39_code 6 rm_M_merge) (S : Std Γ none) (T : Tb Γ []) (hI : y_M_merge.name = "<init>" → Ini Γ) (k : Sg → Nat → Int32 → Int32 → Int32 → Option Sg) (hk : ∀ (σ : Sg) (a0 : Nat) (x1 : Int32) (x3 : Int32) (x4 : Int32), G Γ mkV 0 0 21 [(0, .ref a0), (1, .int x1), (3, .int x3), (4, .int x4)] [] σ (k σ a0 x1 x3 x4)) (σ : Sg) (a0 : Nat) (x1 : Int32) (x3 : Int32) (x4 : Int32) : G Γ mkV 0 0 99 [(0, .ref a0), (1, .int x1), (3, .int x3), (4, .int x4)] [] σ (b_M_merge_99 k σ a0 x1 x3 x4) := by
  unfold b_M_merge_99
  refine g_iinc (pc := 99) (j := 3) (v := (x4 + 1)) (L' := [(4, .int (x4 + 1)), (0, .ref a0), (1, .int x1), (3, .int x3)]) K d_M_merge_99 rfl (by rfl) (by decide) rfl ?_
  refine g_goto (pc := 102) (tgt := 21) K d_M_merge_102 (by decide) ?_
  refine g_sub (L' := [(0, .ref a0), (1, .int x1), (3, .int x3), (4, .int (x4 + 1))]) [1, 2, 3, 0] rfl ?_
  exact hk σ a0 x1 x3 (x4 + 1)
def b_M_merge_82 (k : Sg → Nat → Int32 → Int32 → Int32 → Option Sg) (σ : Sg) (a0 : Nat) (x1 : Int32) (x3 : Int32) (x4 : Int32) : Option Sg := (if x3 = 0 then (if a0 < σ.1 ∧ kd a0 = 4 then rc (g_r σ a0 24) none (fun b11 => (if ((b11 < σ.1 ∧ kd b11 = 11) ∧ inb (((61 : Int32) * x4) + x1) (ln b11) = true) ∧ ((1 : Int32) = 0 ∨ (1 : Int32) = 1) then (wi (s_i σ b11 (((61 : Int32) * x4) + x1).toNatClampNeg (1 : Int32)) (fun s12 => (b_M_merge_99 k s12 a0 x1 x3 x4))) else none)) else none) else (b_M_merge_99 k σ a0 x1 x3 x4))
set_option maxRecDepth 100000 in
set_option maxHeartbeats 4000000 in
theorem gb_M_merge_82 {Γ : GX} (K : Cx Γ "TapirGroupModel" prog_6_method_39_code 6 rm_M_merge) (S : Std Γ none) (T : Tb Γ []) (hI : y_M_merge.name = "<init>" → Ini Γ) (k : Sg → Nat → Int32 → Int32 → Int32 → Option Sg) (hk : ∀ (σ : Sg) (a0 : Nat) (x1 : Int32) (x3 : Int32) (x4 : Int32), G Γ mkV 0 0 21 [(0, .ref a0), (1, .int x1), (3, .int x3), (4, .int x4)] [] σ (k σ a0 x1 x3 x4)) (σ : Sg) (a0 : Nat) (x1 : Int32) (x3 : Int32) (x4 : Int32) : G Γ mkV 0 0 82 [(0, .ref a0), (1, .int x1), (3, .int x3), (4, .int x4)] [] σ (b_M_merge_82 k σ a0 x1 x3 x4) := by
  unfold b_M_merge_82
  refine g_iload_n (pc := 82) (j := 2) K d_M_merge_82 rfl ?_
  refine g_if_ne (pc := 83) (tgt := 99) K d_M_merge_83 (by decide) (fun _ => ?_) (fun _ => ?_)
  · exact gb_M_merge_99 K S T hI k hk σ a0 x1 x3 x4
  · refine g_aload_n (pc := 86) (j := 0) K d_M_merge_86 rfl ?_
    refine g_getR (pc := 87) K fl_M_77 d_M_merge_87 (fun _ => ?_) (fun b11 _ => ?_)
    · exact g_none
    · refine g_bipush (pc := 90) (v := 61) K d_M_merge_90 (by decide) ?_
      refine g_iload (pc := 92) (j := 3) K d_M_merge_92 rfl ?_
      refine g_imul (pc := 94) K d_M_merge_94 ?_
      refine g_iload_n (pc := 95) (j := 1) K d_M_merge_95 rfl ?_
      refine g_iadd (pc := 96) K d_M_merge_96 ?_
      refine g_iconst (pc := 97) (v := 1) K d_M_merge_97 (by decide) ?_
      refine g_zast (pc := 98) K d_M_merge_98 ?_
      refine g_wi (fun s12 _ => ?_)
      exact gb_M_merge_99 K S T hI k hk s12 a0 x1 x3 x4
def b_M_merge_53 (k : Sg → Nat → Int32 → Int32 → Int32 → Option Sg) (σ : Sg) (a0 : Nat) (x1 : Int32) (x3 : Int32) (x4 : Int32) (t0 : Nat) (t1 : Int32) (t2 : Int32) (t3 : Int32) : Option Sg := (if t0 < σ.1 ∧ kd t0 = 4 then (f_M_make σ t0 t1 t2 t3).bind (fun s7 => (if x3 = 0 then (b_M_merge_82 k s7 a0 x1 x3 x4) else (if a0 < s7.1 ∧ kd a0 = 4 then rc (g_r s7 a0 23) none (fun b8 => (if (b8 < s7.1 ∧ kd b8 = 11) ∧ inb (((61 : Int32) * x4) + x1) (ln b8) = true then (if (g_i s7 b8 (((61 : Int32) * x4) + x1).toNatClampNeg) = 0 then (if a0 < s7.1 ∧ kd a0 = 4 then (f_M_apply s7 a0 x1 x4).bind (fun s9 => (b_M_merge_82 k s9 a0 x1 x3 x4)) else none) else (b_M_merge_82 k s7 a0 x1 x3 x4)) else none)) else none))) else none)
set_option maxRecDepth 100000 in
set_option maxHeartbeats 4000000 in
theorem gb_M_merge_53 {Γ : GX} (K : Cx Γ "TapirGroupModel" prog_6_method_39_code 6 rm_M_merge) (S : Std Γ none) (T : Tb Γ []) (hI : y_M_merge.name = "<init>" → Ini Γ) (k : Sg → Nat → Int32 → Int32 → Int32 → Option Sg) (hk : ∀ (σ : Sg) (a0 : Nat) (x1 : Int32) (x3 : Int32) (x4 : Int32), G Γ mkV 0 0 21 [(0, .ref a0), (1, .int x1), (3, .int x3), (4, .int x4)] [] σ (k σ a0 x1 x3 x4)) (σ : Sg) (a0 : Nat) (x1 : Int32) (x3 : Int32) (x4 : Int32) (t0 : Nat) (t1 : Int32) (t2 : Int32) (t3 : Int32) : G Γ mkV 0 0 53 [(0, .ref a0), (1, .int x1), (3, .int x3), (4, .int x4)] [.int t3, .int t2, .int t1, .ref t0] σ (b_M_merge_53 k σ a0 x1 x3 x4 t0 t1 t2 t3) := by
  unfold b_M_merge_53
  refine g_callV (pc := 53) (ci := 4) (a := t0) (vs := [.int t1, .int t2, .int t3]) (st := []) (mkc := mkV) K rfl (by decide) cn_M_make (fun l hl r hr => k_M_make l hl _ _ _ _ _ r hr) mw_753 mw_755 ms_28 ⟨by decide, by decide, by decide, by decide⟩ d_M_merge_53 rfl rfl (Nat.le_of_ble_eq_true rfl) (fun s7 _ => ?_)
  change G Γ mkV 0 0 56 [(0, .ref a0), (1, .int x1), (3, .int x3), (4, .int x4)] [] s7 _
  refine g_iload_n (pc := 56) (j := 2) K d_M_merge_56 rfl ?_
  refine g_if_eq (pc := 57) (tgt := 82) K d_M_merge_57 (by decide) (fun _ => ?_) (fun _ => ?_)
  · exact gb_M_merge_82 K S T hI k hk s7 a0 x1 x3 x4
  · refine g_aload_n (pc := 60) (j := 0) K d_M_merge_60 rfl ?_
    refine g_getR (pc := 61) K fl_M_74 d_M_merge_61 (fun _ => ?_) (fun b8 _ => ?_)
    · exact g_none
    · refine g_bipush (pc := 64) (v := 61) K d_M_merge_64 (by decide) ?_
      refine g_iload (pc := 66) (j := 3) K d_M_merge_66 rfl ?_
      refine g_imul (pc := 68) K d_M_merge_68 ?_
      refine g_iload_n (pc := 69) (j := 1) K d_M_merge_69 rfl ?_
      refine g_iadd (pc := 70) K d_M_merge_70 ?_
      refine g_zald (pc := 71) K d_M_merge_71 ?_
      refine g_if_ne (pc := 72) (tgt := 82) K d_M_merge_72 (by decide) (fun _ => ?_) (fun _ => ?_)
      · exact gb_M_merge_82 K S T hI k hk s7 a0 x1 x3 x4
      · refine g_aload_n (pc := 75) (j := 0) K d_M_merge_75 rfl ?_
        refine g_iload_n (pc := 76) (j := 1) K d_M_merge_76 rfl ?_
        refine g_iload (pc := 77) (j := 3) K d_M_merge_77 rfl ?_
        refine g_callV (pc := 79) (ci := 4) (a := a0) (vs := [.int x1, .int x4]) (st := []) (mkc := mkV) K rfl (by decide) cn_M_apply (fun l hl r hr => k_M_apply l hl _ _ _ _ r hr) mw_757 mw_759 ms_29 ⟨by decide, by decide, by decide, by decide⟩ d_M_merge_79 rfl rfl (Nat.le_of_ble_eq_true rfl) (fun s9 _ => ?_)
        change G Γ mkV 0 0 82 [(0, .ref a0), (1, .int x1), (3, .int x3), (4, .int x4)] [] s9 _
        exact gb_M_merge_82 K S T hI k hk s9 a0 x1 x3 x4
def b_M_merge_21 : Nat → Sg → Nat → Int32 → Int32 → Int32 → Option Sg
  | 0 => fun _ _ _ _ _ => none
  | n + 1 => fun σ a0 x1 x3 x4 => (if (3 : Int32) ≤ x4 then (some σ) else (if a0 < σ.1 ∧ kd a0 = 4 then rc (g_r σ a0 16) none (fun b5 => (if (b5 < σ.1 ∧ kd b5 = 11) ∧ inb x4 (ln b5) = true then (if (g_i σ b5 x4.toNatClampNeg) = 0 then (b_M_merge_99 (b_M_merge_21 n) σ a0 x1 x3 x4) else (if x3 = 0 then (b_M_merge_53 (b_M_merge_21 n) σ a0 x1 x3 x4 a0 x1 x4 (2 : Int32)) else (b_M_merge_53 (b_M_merge_21 n) σ a0 x1 x3 x4 a0 x1 x4 (0 : Int32)))) else none)) else none))
set_option maxRecDepth 100000 in
set_option maxHeartbeats 4000000 in
theorem gb_M_merge_21 {Γ : GX} (K : Cx Γ "TapirGroupModel" prog_6_method_39_code 6 rm_M_merge) (S : Std Γ none) (T : Tb Γ []) (hI : y_M_merge.name = "<init>" → Ini Γ) (n : Nat) : ∀ (σ : Sg) (a0 : Nat) (x1 : Int32) (x3 : Int32) (x4 : Int32), G Γ mkV 0 0 21 [(0, .ref a0), (1, .int x1), (3, .int x3), (4, .int x4)] [] σ (b_M_merge_21 n σ a0 x1 x3 x4) := by
  induction n with
  | zero =>
    intro σ a0 x1 x3 x4
    exact g_none
  | succ n ih =>
    intro σ a0 x1 x3 x4
    rw [b_M_merge_21]
    refine g_iload (pc := 21) (j := 3) K d_M_merge_21 rfl ?_
    refine g_iconst (pc := 23) (v := 3) K d_M_merge_23 (by decide) ?_
    refine g_icmp_ge (pc := 24) (tgt := 105) K d_M_merge_24 (by decide) (fun _ => ?_) (fun _ => ?_)
    · exact g_vret (pc := 105) K S d_M_merge_105 (by decide) (by decide) rfl
    · refine g_aload_n (pc := 27) (j := 0) K d_M_merge_27 rfl ?_
      refine g_getR (pc := 28) K fl_M_53 d_M_merge_28 (fun _ => ?_) (fun b5 _ => ?_)
      · exact g_none
      · refine g_iload (pc := 31) (j := 3) K d_M_merge_31 rfl ?_
        refine g_zald (pc := 33) K d_M_merge_33 ?_
        refine g_if_ne (pc := 34) (tgt := 40) K d_M_merge_34 (by decide) (fun _ => ?_) (fun _ => ?_)
        · refine g_aload_n (pc := 40) (j := 0) K d_M_merge_40 rfl ?_
          refine g_iload_n (pc := 41) (j := 1) K d_M_merge_41 rfl ?_
          refine g_iload (pc := 42) (j := 3) K d_M_merge_42 rfl ?_
          refine g_iload_n (pc := 44) (j := 2) K d_M_merge_44 rfl ?_
          refine g_if_eq (pc := 45) (tgt := 52) K d_M_merge_45 (by decide) (fun _ => ?_) (fun _ => ?_)
          · refine g_iconst (pc := 52) (v := 2) K d_M_merge_52 (by decide) ?_
            exact gb_M_merge_53 K S T hI (b_M_merge_21 n) ih σ a0 x1 x3 x4 a0 x1 x4 (2 : Int32)
          · refine g_iconst (pc := 48) (v := 0) K d_M_merge_48 (by decide) ?_
            refine g_goto (pc := 49) (tgt := 53) K d_M_merge_49 (by decide) ?_
            exact gb_M_merge_53 K S T hI (b_M_merge_21 n) ih σ a0 x1 x3 x4 a0 x1 x4 (0 : Int32)
        · refine g_goto (pc := 37) (tgt := 99) K d_M_merge_37 (by decide) ?_
          exact gb_M_merge_99 K S T hI (b_M_merge_21 n) ih σ a0 x1 x3 x4
def b_M_merge_18  (σ : Sg) (a0 : Nat) (x1 : Int32) (x3 : Int32) : Option Sg := (b_M_merge_21 1000 σ a0 x1 x3 (0 : Int32))
set_option maxRecDepth 100000 in
set_option maxHeartbeats 4000000 in
theorem gb_M_merge_18 {Γ : GX} (K : Cx Γ "TapirGroupModel" prog_6_method_39_code 6 rm_M_merge) (S : Std Γ none) (T : Tb Γ []) (hI : y_M_merge.name = "<init>" → Ini Γ) (σ : Sg) (a0 : Nat) (x1 : Int32) (x3 : Int32) : G Γ mkV 0 0 18 [(0, .ref a0), (1, .int x1), (3, .int x3)] [] σ (b_M_merge_18 σ a0 x1 x3) := by
  unfold b_M_merge_18
  refine g_iconst (pc := 18) (v := 0) K d_M_merge_18 (by decide) ?_
  refine g_istore (pc := 19) (L' := [(4, .int (0 : Int32)), (0, .ref a0), (1, .int x1), (3, .int x3)]) K d_M_merge_19 (by decide) rfl ?_
  refine g_sub (L' := [(0, .ref a0), (1, .int x1), (3, .int x3), (4, .int (0 : Int32))]) [1, 2, 3, 0] rfl ?_
  exact gb_M_merge_21 K S T hI 1000 σ a0 x1 x3 (0 : Int32)
def b_M_merge_179  (σ : Sg) (t0 : Nat) (t1 : Int32) (t2 : Int32) : Option Sg := (if t0 < σ.1 ∧ kd t0 = 4 then (f_M_settle σ t0 t1 t2).bind (fun s10 => (some s10)) else none)
set_option maxRecDepth 100000 in
set_option maxHeartbeats 4000000 in
theorem gb_M_merge_179 {Γ : GX} (K : Cx Γ "TapirGroupModel" prog_6_method_39_code 6 rm_M_merge) (S : Std Γ none) (T : Tb Γ []) (hI : y_M_merge.name = "<init>" → Ini Γ) (σ : Sg) (t0 : Nat) (t1 : Int32) (t2 : Int32) : G Γ mkV 0 0 179 [] [.int t2, .int t1, .ref t0] σ (b_M_merge_179 σ t0 t1 t2) := by
  unfold b_M_merge_179
  refine g_callV (pc := 179) (ci := 4) (a := t0) (vs := [.int t1, .int t2]) (st := []) (mkc := mkV) K rfl (by decide) cn_M_settle (fun l hl r hr => k_M_settle l hl _ _ _ _ r hr) mw_797 mw_799 ms_36 ⟨by decide, by decide, by decide, by decide⟩ d_M_merge_179 rfl rfl (Nat.le_of_ble_eq_true rfl) (fun s10 _ => ?_)
  change G Γ mkV 0 0 182 [] [] s10 _
  exact g_vret (pc := 182) K S d_M_merge_182 (by decide) (by decide) rfl
def b_M_merge_152  (σ : Sg) (a0 : Nat) (x1 : Int32) (x2 : Int32) (x4 : Int32) : Option Sg := (if x4 < 0 then (if a0 < σ.1 ∧ kd a0 = 4 then (f_M_recordsOf σ a0 x1 (0 : Int32)).bind (fun v6 => (if v6 = x2 then (b_M_merge_179 σ a0 x1 (0 : Int32)) else (b_M_merge_179 σ a0 x1 (2 : Int32)))) else none) else (b_M_merge_179 σ a0 x1 x4))
set_option maxRecDepth 100000 in
set_option maxHeartbeats 4000000 in
theorem gb_M_merge_152 {Γ : GX} (K : Cx Γ "TapirGroupModel" prog_6_method_39_code 6 rm_M_merge) (S : Std Γ none) (T : Tb Γ []) (hI : y_M_merge.name = "<init>" → Ini Γ) (σ : Sg) (a0 : Nat) (x1 : Int32) (x2 : Int32) (x4 : Int32) : G Γ mkV 0 0 152 [(0, .ref a0), (1, .int x1), (2, .int x2), (4, .int x4)] [] σ (b_M_merge_152 σ a0 x1 x2 x4) := by
  unfold b_M_merge_152
  refine g_aload_n (pc := 152) (j := 0) K d_M_merge_152 rfl ?_
  refine g_iload_n (pc := 153) (j := 1) K d_M_merge_153 rfl ?_
  refine g_iload (pc := 154) (j := 3) K d_M_merge_154 rfl ?_
  refine g_if_lt (pc := 156) (tgt := 164) K d_M_merge_156 (by decide) (fun _ => ?_) (fun _ => ?_)
  · refine g_aload_n (pc := 164) (j := 0) K d_M_merge_164 rfl ?_
    refine g_iload_n (pc := 165) (j := 1) K d_M_merge_165 rfl ?_
    refine g_iconst (pc := 166) (v := 0) K d_M_merge_166 (by decide) ?_
    refine g_callV (pc := 167) (ci := 4) (a := a0) (vs := [.int x1, .int (0 : Int32)]) (st := [.int x1, .ref a0]) (mkc := mkI σ) K rfl (by decide) cn_M_recordsOf (fun l hl r hr => k_M_recordsOf l hl _ _ _ _ r hr) mw_773 mw_775 ms_30 ⟨by decide, by decide, by decide, by decide⟩ d_M_merge_167 rfl rfl (Nat.le_of_ble_eq_true rfl) (fun v6 _ => ?_)
    change G Γ mkV 0 0 170 [(0, .ref a0), (1, .int x1), (2, .int x2), (4, .int x4)] [.int v6, .int x1, .ref a0] σ _
    refine g_iload_n (pc := 170) (j := 2) K d_M_merge_170 rfl ?_
    refine g_icmp_ne (pc := 171) (tgt := 178) K d_M_merge_171 (by decide) (fun _ => ?_) (fun _ => ?_)
    · refine g_iconst (pc := 178) (v := 2) K d_M_merge_178 (by decide) ?_
      refine g_sub (L' := []) [] rfl ?_
      exact gb_M_merge_179 K S T hI σ a0 x1 (2 : Int32)
    · refine g_iconst (pc := 174) (v := 0) K d_M_merge_174 (by decide) ?_
      refine g_goto (pc := 175) (tgt := 179) K d_M_merge_175 (by decide) ?_
      refine g_sub (L' := []) [] rfl ?_
      exact gb_M_merge_179 K S T hI σ a0 x1 (0 : Int32)
  · refine g_iload (pc := 159) (j := 3) K d_M_merge_159 rfl ?_
    refine g_goto (pc := 161) (tgt := 179) K d_M_merge_161 (by decide) ?_
    refine g_sub (L' := []) [] rfl ?_
    exact gb_M_merge_179 K S T hI σ a0 x1 x4
def b_M_merge_144 (k : Sg → Nat → Int32 → Int32 → Int32 → Int32 → Option Sg) (σ : Sg) (a0 : Nat) (x1 : Int32) (x2 : Int32) (x5 : Int32) (t0 : Int32) : Option Sg := (k σ a0 x1 x2 t0 (x5 + 1))
set_option maxRecDepth 100000 in
set_option maxHeartbeats 4000000 in
theorem gb_M_merge_144 {Γ : GX} (K : Cx Γ "TapirGroupModel" prog_6_method_39_code 6 rm_M_merge) (S : Std Γ none) (T : Tb Γ []) (hI : y_M_merge.name = "<init>" → Ini Γ) (k : Sg → Nat → Int32 → Int32 → Int32 → Int32 → Option Sg) (hk : ∀ (σ : Sg) (a0 : Nat) (x1 : Int32) (x2 : Int32) (x4 : Int32) (x5 : Int32), G Γ mkV 0 0 116 [(0, .ref a0), (1, .int x1), (2, .int x2), (4, .int x4), (5, .int x5)] [] σ (k σ a0 x1 x2 x4 x5)) (σ : Sg) (a0 : Nat) (x1 : Int32) (x2 : Int32) (x5 : Int32) (t0 : Int32) : G Γ mkV 0 0 144 [(0, .ref a0), (1, .int x1), (2, .int x2), (5, .int x5)] [.int t0] σ (b_M_merge_144 k σ a0 x1 x2 x5 t0) := by
  unfold b_M_merge_144
  refine g_istore (pc := 144) (L' := [(4, .int t0), (0, .ref a0), (1, .int x1), (2, .int x2), (5, .int x5)]) K d_M_merge_144 (by decide) rfl ?_
  refine g_iinc (pc := 146) (j := 4) (v := (x5 + 1)) (L' := [(5, .int (x5 + 1)), (4, .int t0), (0, .ref a0), (1, .int x1), (2, .int x2)]) K d_M_merge_146 rfl (by rfl) (by decide) rfl ?_
  refine g_goto (pc := 149) (tgt := 116) K d_M_merge_149 (by decide) ?_
  refine g_sub (L' := [(0, .ref a0), (1, .int x1), (2, .int x2), (4, .int t0), (5, .int (x5 + 1))]) [2, 3, 4, 1, 0] rfl ?_
  exact hk σ a0 x1 x2 t0 (x5 + 1)
def b_M_merge_116 : Nat → Sg → Nat → Int32 → Int32 → Int32 → Int32 → Option Sg
  | 0 => fun _ _ _ _ _ _ => none
  | n + 1 => fun σ a0 x1 x2 x4 x5 => (if (3 : Int32) < x5 then (b_M_merge_152 σ a0 x1 x2 x4) else (if 0 ≤ x4 then (b_M_merge_152 σ a0 x1 x2 x4) else (if a0 < σ.1 ∧ kd a0 = 4 then (f_M_recordsOf σ a0 x1 x5).bind (fun v4 => (if v4 ≤ (1 : Int32) then (b_M_merge_144 (b_M_merge_116 n) σ a0 x1 x2 x5 (-1 : Int32)) else (b_M_merge_144 (b_M_merge_116 n) σ a0 x1 x2 x5 x5))) else none)))
set_option maxRecDepth 100000 in
set_option maxHeartbeats 4000000 in
theorem gb_M_merge_116 {Γ : GX} (K : Cx Γ "TapirGroupModel" prog_6_method_39_code 6 rm_M_merge) (S : Std Γ none) (T : Tb Γ []) (hI : y_M_merge.name = "<init>" → Ini Γ) (n : Nat) : ∀ (σ : Sg) (a0 : Nat) (x1 : Int32) (x2 : Int32) (x4 : Int32) (x5 : Int32), G Γ mkV 0 0 116 [(0, .ref a0), (1, .int x1), (2, .int x2), (4, .int x4), (5, .int x5)] [] σ (b_M_merge_116 n σ a0 x1 x2 x4 x5) := by
  induction n with
  | zero =>
    intro σ a0 x1 x2 x4 x5
    exact g_none
  | succ n ih =>
    intro σ a0 x1 x2 x4 x5
    rw [b_M_merge_116]
    refine g_iload (pc := 116) (j := 4) K d_M_merge_116 rfl ?_
    refine g_iconst (pc := 118) (v := 3) K d_M_merge_118 (by decide) ?_
    refine g_icmp_gt (pc := 119) (tgt := 152) K d_M_merge_119 (by decide) (fun _ => ?_) (fun _ => ?_)
    · refine g_sub (L' := [(0, .ref a0), (1, .int x1), (2, .int x2), (4, .int x4)]) [0, 1, 2, 3] rfl ?_
      exact gb_M_merge_152 K S T hI σ a0 x1 x2 x4
    · refine g_iload (pc := 122) (j := 3) K d_M_merge_122 rfl ?_
      refine g_if_ge (pc := 124) (tgt := 152) K d_M_merge_124 (by decide) (fun _ => ?_) (fun _ => ?_)
      · refine g_sub (L' := [(0, .ref a0), (1, .int x1), (2, .int x2), (4, .int x4)]) [0, 1, 2, 3] rfl ?_
        exact gb_M_merge_152 K S T hI σ a0 x1 x2 x4
      · refine g_aload_n (pc := 127) (j := 0) K d_M_merge_127 rfl ?_
        refine g_iload_n (pc := 128) (j := 1) K d_M_merge_128 rfl ?_
        refine g_iload (pc := 129) (j := 4) K d_M_merge_129 rfl ?_
        refine g_callV (pc := 131) (ci := 4) (a := a0) (vs := [.int x1, .int x5]) (st := []) (mkc := mkI σ) K rfl (by decide) cn_M_recordsOf (fun l hl r hr => k_M_recordsOf l hl _ _ _ _ r hr) mw_773 mw_775 ms_30 ⟨by decide, by decide, by decide, by decide⟩ d_M_merge_131 rfl rfl (Nat.le_of_ble_eq_true rfl) (fun v4 _ => ?_)
        change G Γ mkV 0 0 134 [(0, .ref a0), (1, .int x1), (2, .int x2), (4, .int x4), (5, .int x5)] [.int v4] σ _
        refine g_iconst (pc := 134) (v := 1) K d_M_merge_134 (by decide) ?_
        refine g_icmp_le (pc := 135) (tgt := 143) K d_M_merge_135 (by decide) (fun _ => ?_) (fun _ => ?_)
        · refine g_iconst (pc := 143) (v := -1) K d_M_merge_143 (by decide) ?_
          refine g_sub (L' := [(0, .ref a0), (1, .int x1), (2, .int x2), (5, .int x5)]) [0, 1, 2, 4] rfl ?_
          exact gb_M_merge_144 K S T hI (b_M_merge_116 n) ih σ a0 x1 x2 x5 (-1 : Int32)
        · refine g_iload (pc := 138) (j := 4) K d_M_merge_138 rfl ?_
          refine g_goto (pc := 140) (tgt := 144) K d_M_merge_140 (by decide) ?_
          refine g_sub (L' := [(0, .ref a0), (1, .int x1), (2, .int x2), (5, .int x5)]) [0, 1, 2, 4] rfl ?_
          exact gb_M_merge_144 K S T hI (b_M_merge_116 n) ih σ a0 x1 x2 x5 x5
def f_M_merge (σ : Sg) (a0 : Nat) (x1 : Int32) (x2 : Int32) : Option Sg := (if a0 < σ.1 ∧ kd a0 = 4 then (f_M_isAppliedAtSome σ a0 x1).bind (fun v1 => (if v1 = 0 then (if a0 < σ.1 ∧ kd a0 = 4 then (f_M_isDroppedAtSome σ a0 x1).bind (fun v2 => (if v2 = 0 then (if a0 < σ.1 ∧ kd a0 = 4 then (f_M_finalAtSome σ a0 x1).bind (fun v3 => (b_M_merge_116 1000 σ a0 x1 x2 v3 (1 : Int32))) else none) else (b_M_merge_18 σ a0 x1 v1))) else none) else (b_M_merge_18 σ a0 x1 v1))) else none)
set_option maxRecDepth 100000 in
set_option maxHeartbeats 4000000 in
theorem k_M_merge (l : Launch) (hl : l.stackTraces = false) (σ : Sg) (a0 : Nat) (x1 : Int32) (x2 : Int32) (r : Sg) (h : f_M_merge σ a0 x1 x2 = some r) : Con l y_M_merge (.code y_M_merge prog_6_method_39_code 6 none) rm_M_merge [.ref a0, .int x1, .int x2] σ (mkV r) := by
  refine Con.of (mk := mkV) (o := f_M_merge σ a0 x1 x2) (z := r) (L0 := [(0, .ref a0), (1, .int x1), (2, .int x2)]) (bytes := prog_6_method_39_code) (maxL := 6) (ret := none) (hh := []) hl (by decide +kernel) (Or.inl ⟨rfl, rfl⟩) (by simp [Value.category]) (Nat.le_of_ble_eq_true rfl) rfl (fun Γ K S T hI => ?_) h rfl
  unfold f_M_merge
  refine g_aload_n (pc := 0) (j := 0) K d_M_merge_0 rfl ?_
  refine g_iload_n (pc := 1) (j := 1) K d_M_merge_1 rfl ?_
  refine g_callV (pc := 2) (ci := 4) (a := a0) (vs := [.int x1]) (st := []) (mkc := mkI σ) K rfl (by decide) cn_M_isAppliedAtSome (fun l hl r hr => k_M_isAppliedAtSome l hl _ _ _ r hr) mw_781 mw_783 ms_32 ⟨by decide, by decide, by decide, by decide⟩ d_M_merge_2 rfl rfl (Nat.le_of_ble_eq_true rfl) (fun v1 _ => ?_)
  change G Γ mkV 0 0 5 [(0, .ref a0), (1, .int x1), (2, .int x2)] [.int v1] σ _
  refine g_istore_n (pc := 5) (L' := [(3, .int v1), (0, .ref a0), (1, .int x1), (2, .int x2)]) K d_M_merge_5 (by decide) rfl ?_
  refine g_iload_n (pc := 6) (j := 0) K d_M_merge_6 rfl ?_
  refine g_if_ne (pc := 7) (tgt := 18) K d_M_merge_7 (by decide) (fun _ => ?_) (fun _ => ?_)
  · refine g_sub (L' := [(0, .ref a0), (1, .int x1), (3, .int v1)]) [1, 2, 0] rfl ?_
    exact gb_M_merge_18 K S T hI σ a0 x1 v1
  · refine g_aload_n (pc := 10) (j := 1) K d_M_merge_10 rfl ?_
    refine g_iload_n (pc := 11) (j := 2) K d_M_merge_11 rfl ?_
    refine g_callV (pc := 12) (ci := 4) (a := a0) (vs := [.int x1]) (st := []) (mkc := mkI σ) K rfl (by decide) cn_M_isDroppedAtSome (fun l hl r hr => k_M_isDroppedAtSome l hl _ _ _ r hr) mw_785 mw_787 ms_33 ⟨by decide, by decide, by decide, by decide⟩ d_M_merge_12 rfl rfl (Nat.le_of_ble_eq_true rfl) (fun v2 _ => ?_)
    change G Γ mkV 0 0 15 [(3, .int v1), (0, .ref a0), (1, .int x1), (2, .int x2)] [.int v2] σ _
    refine g_if_eq (pc := 15) (tgt := 106) K d_M_merge_15 (by decide) (fun _ => ?_) (fun _ => ?_)
    · refine g_aload_n (pc := 106) (j := 1) K d_M_merge_106 rfl ?_
      refine g_iload_n (pc := 107) (j := 2) K d_M_merge_107 rfl ?_
      refine g_callV (pc := 108) (ci := 4) (a := a0) (vs := [.int x1]) (st := []) (mkc := mkI σ) K rfl (by decide) cn_M_finalAtSome (fun l hl r hr => k_M_finalAtSome l hl _ _ _ r hr) mw_789 mw_791 ms_34 ⟨by decide, by decide, by decide, by decide⟩ d_M_merge_108 rfl rfl (Nat.le_of_ble_eq_true rfl) (fun v3 _ => ?_)
      change G Γ mkV 0 0 111 [(3, .int v1), (0, .ref a0), (1, .int x1), (2, .int x2)] [.int v3] σ _
      refine g_istore (pc := 111) (L' := [(4, .int v3), (3, .int v1), (0, .ref a0), (1, .int x1), (2, .int x2)]) K d_M_merge_111 (by decide) rfl ?_
      refine g_iconst (pc := 113) (v := 1) K d_M_merge_113 (by decide) ?_
      refine g_istore (pc := 114) (L' := [(5, .int (1 : Int32)), (4, .int v3), (3, .int v1), (0, .ref a0), (1, .int x1), (2, .int x2)]) K d_M_merge_114 (by decide) rfl ?_
      refine g_sub (L' := [(0, .ref a0), (1, .int x1), (2, .int x2), (4, .int v3), (5, .int (1 : Int32))]) [3, 4, 5, 1, 0] rfl ?_
      exact gb_M_merge_116 K S T hI 1000 σ a0 x1 x2 v3 (1 : Int32)
    · refine g_sub (L' := [(0, .ref a0), (1, .int x1), (3, .int v1)]) [1, 2, 0] rfl ?_
      exact gb_M_merge_18 K S T hI σ a0 x1 v1
-- TapirGroupModel.firstUp()I
def y_M_firstUp : MethodName := ⟨"TapirGroupModel", "firstUp", "()I"⟩
abbrev rm_M_firstUp : Room := { frames := 0, cells := 0, slots := 0, locals := 0 }
theorem d_M_firstUp_0 : decode prog_6_method_32_code 0 = .ok (.aload_n 0, 1) := by decide +kernel
theorem d_M_firstUp_1 : decode prog_6_method_32_code 1 = .ok (.getfield 53, 3) := by decide +kernel
theorem d_M_firstUp_4 : decode prog_6_method_32_code 4 = .ok (.iconst 0, 1) := by decide +kernel
theorem d_M_firstUp_5 : decode prog_6_method_32_code 5 = .ok (.baload, 1) := by decide +kernel
theorem d_M_firstUp_6 : decode prog_6_method_32_code 6 = .ok (.ifCond .eq 7, 3) := by decide +kernel
theorem d_M_firstUp_9 : decode prog_6_method_32_code 9 = .ok (.iconst 0, 1) := by decide +kernel
theorem d_M_firstUp_10 : decode prog_6_method_32_code 10 = .ok (.goto 17, 3) := by decide +kernel
theorem d_M_firstUp_13 : decode prog_6_method_32_code 13 = .ok (.aload_n 0, 1) := by decide +kernel
theorem d_M_firstUp_14 : decode prog_6_method_32_code 14 = .ok (.getfield 53, 3) := by decide +kernel
theorem d_M_firstUp_17 : decode prog_6_method_32_code 17 = .ok (.iconst 1, 1) := by decide +kernel
theorem d_M_firstUp_18 : decode prog_6_method_32_code 18 = .ok (.baload, 1) := by decide +kernel
theorem d_M_firstUp_19 : decode prog_6_method_32_code 19 = .ok (.ifCond .eq 7, 3) := by decide +kernel
theorem d_M_firstUp_22 : decode prog_6_method_32_code 22 = .ok (.iconst 1, 1) := by decide +kernel
theorem d_M_firstUp_23 : decode prog_6_method_32_code 23 = .ok (.goto 4, 3) := by decide +kernel
theorem d_M_firstUp_26 : decode prog_6_method_32_code 26 = .ok (.iconst 2, 1) := by decide +kernel
theorem d_M_firstUp_27 : decode prog_6_method_32_code 27 = .ok (.ireturn, 1) := by decide +kernel
theorem cn_M_firstUp : CN y_M_firstUp (.code y_M_firstUp prog_6_method_32_code 1 (some .int)) prog_6_method_32_code 1 (some .int) [] 0 := ⟨Or.inl ⟨rfl, rfl⟩, mw_808, mw_5, ⟨by decide +kernel, by decide +kernel⟩, by decide +kernel⟩
def b_M_firstUp_27 (σ : Sg)  (t0 : Int32) : Option Int32 := (some t0)
set_option maxRecDepth 100000 in
set_option maxHeartbeats 4000000 in
theorem gb_M_firstUp_27 {Γ : GX} (K : Cx Γ "TapirGroupModel" prog_6_method_32_code 1 rm_M_firstUp) (S : Std Γ (some .int)) (T : Tb Γ []) (hI : y_M_firstUp.name = "<init>" → Ini Γ) (σ : Sg) (t0 : Int32) : G Γ (mkI σ) 0 0 27 [] [.int t0] σ (b_M_firstUp_27 σ t0) := by
  unfold b_M_firstUp_27
  exact g_iret (pc := 27) K S rfl d_M_firstUp_27 (by decide) (by decide) rfl
def f_M_firstUp (σ : Sg) (a0 : Nat) : Option Int32 := (if a0 < σ.1 ∧ kd a0 = 4 then rc (g_r σ a0 16) none (fun b1 => (if (b1 < σ.1 ∧ kd b1 = 11) ∧ inb (0 : Int32) (ln b1) = true then (if (g_i σ b1 (0 : Int32).toNatClampNeg) = 0 then (if a0 < σ.1 ∧ kd a0 = 4 then rc (g_r σ a0 16) none (fun b2 => (if (b2 < σ.1 ∧ kd b2 = 11) ∧ inb (1 : Int32) (ln b2) = true then (if (g_i σ b2 (1 : Int32).toNatClampNeg) = 0 then (b_M_firstUp_27 σ (2 : Int32)) else (b_M_firstUp_27 σ (1 : Int32))) else none)) else none) else (b_M_firstUp_27 σ (0 : Int32))) else none)) else none)
set_option maxRecDepth 100000 in
set_option maxHeartbeats 4000000 in
theorem k_M_firstUp (l : Launch) (hl : l.stackTraces = false) (σ : Sg) (a0 : Nat) (r : Int32) (h : f_M_firstUp σ a0 = some r) : Con l y_M_firstUp (.code y_M_firstUp prog_6_method_32_code 1 (some .int)) rm_M_firstUp [.ref a0] σ ((mkI σ) r) := by
  refine Con.of (mk := (mkI σ)) (o := f_M_firstUp σ a0) (z := r) (L0 := [(0, .ref a0)]) (bytes := prog_6_method_32_code) (maxL := 1) (ret := (some .int)) (hh := []) hl (by decide +kernel) (Or.inl ⟨rfl, rfl⟩) (by simp [Value.category]) (Nat.le_of_ble_eq_true rfl) rfl (fun Γ K S T hI => ?_) h rfl
  unfold f_M_firstUp
  refine g_aload_n (pc := 0) (j := 0) K d_M_firstUp_0 rfl ?_
  refine g_getR (pc := 1) K fl_M_53 d_M_firstUp_1 (fun _ => ?_) (fun b1 _ => ?_)
  · exact g_none
  · refine g_iconst (pc := 4) (v := 0) K d_M_firstUp_4 (by decide) ?_
    refine g_zald (pc := 5) K d_M_firstUp_5 ?_
    refine g_if_eq (pc := 6) (tgt := 13) K d_M_firstUp_6 (by decide) (fun _ => ?_) (fun _ => ?_)
    · refine g_aload_n (pc := 13) (j := 0) K d_M_firstUp_13 rfl ?_
      refine g_getR (pc := 14) K fl_M_53 d_M_firstUp_14 (fun _ => ?_) (fun b2 _ => ?_)
      · exact g_none
      · refine g_iconst (pc := 17) (v := 1) K d_M_firstUp_17 (by decide) ?_
        refine g_zald (pc := 18) K d_M_firstUp_18 ?_
        refine g_if_eq (pc := 19) (tgt := 26) K d_M_firstUp_19 (by decide) (fun _ => ?_) (fun _ => ?_)
        · refine g_iconst (pc := 26) (v := 2) K d_M_firstUp_26 (by decide) ?_
          refine g_sub (L' := []) [] rfl ?_
          exact gb_M_firstUp_27 K S T hI σ (2 : Int32)
        · refine g_iconst (pc := 22) (v := 1) K d_M_firstUp_22 (by decide) ?_
          refine g_goto (pc := 23) (tgt := 27) K d_M_firstUp_23 (by decide) ?_
          refine g_sub (L' := []) [] rfl ?_
          exact gb_M_firstUp_27 K S T hI σ (1 : Int32)
    · refine g_iconst (pc := 9) (v := 0) K d_M_firstUp_9 (by decide) ?_
      refine g_goto (pc := 10) (tgt := 27) K d_M_firstUp_10 (by decide) ?_
      refine g_sub (L' := []) [] rfl ?_
      exact gb_M_firstUp_27 K S T hI σ (0 : Int32)
