-- TapirGroupModel.state(I)I
def y_M_state : MethodName := ⟨"TapirGroupModel", "state", "(I)I"⟩
abbrev rm_M_state : Room := { frames := 1, cells := 0, slots := 0, locals := 22 }
theorem d_M_state_0 : decode prog_6_method_45_code 0 = .ok (.aload_n 0, 1) := by decide +kernel
theorem d_M_state_1 : decode prog_6_method_45_code 1 = .ok (.iconst 0, 1) := by decide +kernel
theorem d_M_state_2 : decode prog_6_method_45_code 2 = .ok (.putfield 80, 3) := by decide +kernel
theorem d_M_state_5 : decode prog_6_method_45_code 5 = .ok (.iload_n 1, 1) := by decide +kernel
theorem d_M_state_6 : decode prog_6_method_45_code 6 = .ok (.ifCond .ne 8, 3) := by decide +kernel
theorem d_M_state_9 : decode prog_6_method_45_code 9 = .ok (.aload_n 0, 1) := by decide +kernel
theorem d_M_state_10 : decode prog_6_method_45_code 10 = .ok (.invokevirtual 92, 3) := by decide +kernel
theorem d_M_state_13 : decode prog_6_method_45_code 13 = .ok (.ireturn, 1) := by decide +kernel
theorem d_M_state_14 : decode prog_6_method_45_code 14 = .ok (.iload_n 1, 1) := by decide +kernel
theorem d_M_state_15 : decode prog_6_method_45_code 15 = .ok (.iconst 1, 1) := by decide +kernel
theorem d_M_state_16 : decode prog_6_method_45_code 16 = .ok (.if_icmp .ne 8, 3) := by decide +kernel
theorem d_M_state_19 : decode prog_6_method_45_code 19 = .ok (.aload_n 0, 1) := by decide +kernel
theorem d_M_state_20 : decode prog_6_method_45_code 20 = .ok (.getfield 96, 3) := by decide +kernel
theorem d_M_state_23 : decode prog_6_method_45_code 23 = .ok (.ireturn, 1) := by decide +kernel
theorem d_M_state_24 : decode prog_6_method_45_code 24 = .ok (.iload_n 1, 1) := by decide +kernel
theorem d_M_state_25 : decode prog_6_method_45_code 25 = .ok (.iconst 2, 1) := by decide +kernel
theorem d_M_state_26 : decode prog_6_method_45_code 26 = .ok (.iconst 4, 1) := by decide +kernel
theorem d_M_state_27 : decode prog_6_method_45_code 27 = .ok (.invokestatic 84, 3) := by decide +kernel
theorem d_M_state_30 : decode prog_6_method_45_code 30 = .ok (.ifCond .eq 12, 3) := by decide +kernel
theorem d_M_state_33 : decode prog_6_method_45_code 33 = .ok (.aload_n 0, 1) := by decide +kernel
theorem d_M_state_34 : decode prog_6_method_45_code 34 = .ok (.getfield 56, 3) := by decide +kernel
theorem d_M_state_37 : decode prog_6_method_45_code 37 = .ok (.iload_n 1, 1) := by decide +kernel
theorem d_M_state_38 : decode prog_6_method_45_code 38 = .ok (.iconst 2, 1) := by decide +kernel
theorem d_M_state_39 : decode prog_6_method_45_code 39 = .ok (.isub, 1) := by decide +kernel
theorem d_M_state_40 : decode prog_6_method_45_code 40 = .ok (.iaload, 1) := by decide +kernel
theorem d_M_state_41 : decode prog_6_method_45_code 41 = .ok (.ireturn, 1) := by decide +kernel
theorem d_M_state_42 : decode prog_6_method_45_code 42 = .ok (.iload_n 1, 1) := by decide +kernel
theorem d_M_state_43 : decode prog_6_method_45_code 43 = .ok (.iconst 5, 1) := by decide +kernel
theorem d_M_state_44 : decode prog_6_method_45_code 44 = .ok (.bipush 7, 2) := by decide +kernel
theorem d_M_state_46 : decode prog_6_method_45_code 46 = .ok (.invokestatic 84, 3) := by decide +kernel
theorem d_M_state_49 : decode prog_6_method_45_code 49 = .ok (.ifCond .eq 22, 3) := by decide +kernel
theorem d_M_state_52 : decode prog_6_method_45_code 52 = .ok (.aload_n 0, 1) := by decide +kernel
theorem d_M_state_53 : decode prog_6_method_45_code 53 = .ok (.getfield 53, 3) := by decide +kernel
theorem d_M_state_56 : decode prog_6_method_45_code 56 = .ok (.iload_n 1, 1) := by decide +kernel
theorem d_M_state_57 : decode prog_6_method_45_code 57 = .ok (.iconst 5, 1) := by decide +kernel
theorem d_M_state_58 : decode prog_6_method_45_code 58 = .ok (.isub, 1) := by decide +kernel
theorem d_M_state_59 : decode prog_6_method_45_code 59 = .ok (.baload, 1) := by decide +kernel
theorem d_M_state_60 : decode prog_6_method_45_code 60 = .ok (.ifCond .eq 7, 3) := by decide +kernel
theorem d_M_state_63 : decode prog_6_method_45_code 63 = .ok (.iconst 1, 1) := by decide +kernel
theorem d_M_state_64 : decode prog_6_method_45_code 64 = .ok (.goto 8, 3) := by decide +kernel
theorem d_M_state_67 : decode prog_6_method_45_code 67 = .ok (.iconst 0, 1) := by decide +kernel
theorem d_M_state_68 : decode prog_6_method_45_code 68 = .ok (.goto 4, 3) := by decide +kernel
theorem d_M_state_71 : decode prog_6_method_45_code 71 = .ok (.iconst (-1), 1) := by decide +kernel
theorem d_M_state_72 : decode prog_6_method_45_code 72 = .ok (.ireturn, 1) := by decide +kernel
theorem cn_M_state : CN y_M_state (.code y_M_state prog_6_method_45_code 2 (some .int)) prog_6_method_45_code 2 (some .int) [] 1 := ⟨Or.inl ⟨rfl, rfl⟩, mw_824, mw_5, ⟨by decide +kernel, by decide +kernel⟩, by decide +kernel⟩
def b_M_state_72  (σ : Sg) (t0 : Int32) : Option (Int32 × Sg) := (some (t0, σ))
set_option maxRecDepth 100000 in
set_option maxHeartbeats 4000000 in
theorem gb_M_state_72 {Γ : GX} (K : Cx Γ "TapirGroupModel" prog_6_method_45_code 2 rm_M_state) (S : Std Γ (some .int)) (T : Tb Γ []) (hI : y_M_state.name = "<init>" → Ini Γ) (σ : Sg) (t0 : Int32) : G Γ mkW 0 0 72 [] [.int t0] σ (b_M_state_72 σ t0) := by
  unfold b_M_state_72
  exact g_iret (pc := 72) K S rfl d_M_state_72 (by decide) (by decide) rfl
def f_M_state (σ : Sg) (a0 : Nat) (x1 : Int32) : Option (Int32 × Sg) := (if a0 < σ.1 ∧ kd a0 = 4 then (wi (s_i σ a0 0 (0 : Int32)) (fun s1 => (if x1 = 0 then (if a0 < s1.1 ∧ kd a0 = 4 then (f_M_groupView s1 a0).bind (fun v6 => (some (v6, s1))) else none) else (if x1 = (1 : Int32) then (if a0 < s1.1 ∧ kd a0 = 4 then (some ((g_i s1 a0 1), s1)) else none) else ((f_M_in s1 x1 (2 : Int32) (4 : Int32)).bind (fun v2 => (if v2 = 0 then ((f_M_in s1 x1 (5 : Int32) (7 : Int32)).bind (fun v3 => (if v3 = 0 then (b_M_state_72 s1 (-1 : Int32)) else (if a0 < s1.1 ∧ kd a0 = 4 then rc (g_r s1 a0 16) none (fun b4 => (if (b4 < s1.1 ∧ kd b4 = 11) ∧ inb (x1 - (5 : Int32)) (ln b4) = true then (if (g_i s1 b4 (x1 - (5 : Int32)).toNatClampNeg) = 0 then (b_M_state_72 s1 (0 : Int32)) else (b_M_state_72 s1 (1 : Int32))) else none)) else none)))) else (if a0 < s1.1 ∧ kd a0 = 4 then rc (g_r s1 a0 17) none (fun b5 => (if (b5 < s1.1 ∧ kd b5 = 10) ∧ inb (x1 - (2 : Int32)) (ln b5) = true then (some ((g_i s1 b5 (x1 - (2 : Int32)).toNatClampNeg), s1)) else none)) else none)))))))) else none)
set_option maxRecDepth 100000 in
set_option maxHeartbeats 4000000 in
theorem k_M_state (l : Launch) (hl : l.stackTraces = false) (σ : Sg) (a0 : Nat) (x1 : Int32) (r : (Int32 × Sg)) (h : f_M_state σ a0 x1 = some r) : Con l y_M_state (.code y_M_state prog_6_method_45_code 2 (some .int)) rm_M_state [.ref a0, .int x1] σ (mkW r) := by
  refine Con.of (mk := mkW) (o := f_M_state σ a0 x1) (z := r) (L0 := [(0, .ref a0), (1, .int x1)]) (bytes := prog_6_method_45_code) (maxL := 2) (ret := (some .int)) (hh := []) hl (by decide +kernel) (Or.inl ⟨rfl, rfl⟩) (by simp [Value.category]) (Nat.le_of_ble_eq_true rfl) rfl (fun Γ K S T hI => ?_) h rfl
  unfold f_M_state
  refine g_aload_n (pc := 0) (j := 0) K d_M_state_0 rfl ?_
  refine g_iconst (pc := 1) (v := 0) K d_M_state_1 (by decide) ?_
  refine g_putI (pc := 2) K fl_M_80 d_M_state_2 ?_
  refine g_wi (fun s1 _ => ?_)
  refine g_iload_n (pc := 5) (j := 1) K d_M_state_5 rfl ?_
  refine g_if_ne (pc := 6) (tgt := 14) K d_M_state_6 (by decide) (fun _ => ?_) (fun _ => ?_)
  · refine g_iload_n (pc := 14) (j := 1) K d_M_state_14 rfl ?_
    refine g_iconst (pc := 15) (v := 1) K d_M_state_15 (by decide) ?_
    refine g_icmp_ne (pc := 16) (tgt := 24) K d_M_state_16 (by decide) (fun _ => ?_) (fun _ => ?_)
    · refine g_iload_n (pc := 24) (j := 1) K d_M_state_24 rfl ?_
      refine g_iconst (pc := 25) (v := 2) K d_M_state_25 (by decide) ?_
      refine g_iconst (pc := 26) (v := 4) K d_M_state_26 (by decide) ?_
      refine g_callS (pc := 27) (vs := [.int x1, .int (2 : Int32), .int (4 : Int32)]) (st := []) (mkc := mkI s1) K cn_M_in (fun l hl r hr => k_M_in l hl _ _ _ _ r hr) mw_663 mw_664 ⟨by decide, by decide, by decide, by decide⟩ d_M_state_27 rfl rfl (Nat.le_of_ble_eq_true rfl) (fun v2 _ => ?_)
      change G Γ mkW 0 0 30 [(0, .ref a0), (1, .int x1)] [.int v2] s1 _
      refine g_if_eq (pc := 30) (tgt := 42) K d_M_state_30 (by decide) (fun _ => ?_) (fun _ => ?_)
      · refine g_iload_n (pc := 42) (j := 1) K d_M_state_42 rfl ?_
        refine g_iconst (pc := 43) (v := 5) K d_M_state_43 (by decide) ?_
        refine g_bipush (pc := 44) (v := 7) K d_M_state_44 (by decide) ?_
        refine g_callS (pc := 46) (vs := [.int x1, .int (5 : Int32), .int (7 : Int32)]) (st := []) (mkc := mkI s1) K cn_M_in (fun l hl r hr => k_M_in l hl _ _ _ _ r hr) mw_663 mw_664 ⟨by decide, by decide, by decide, by decide⟩ d_M_state_46 rfl rfl (Nat.le_of_ble_eq_true rfl) (fun v3 _ => ?_)
        change G Γ mkW 0 0 49 [(0, .ref a0), (1, .int x1)] [.int v3] s1 _
        refine g_if_eq (pc := 49) (tgt := 71) K d_M_state_49 (by decide) (fun _ => ?_) (fun _ => ?_)
        · refine g_iconst (pc := 71) (v := -1) K d_M_state_71 (by decide) ?_
          refine g_sub (L' := []) [] rfl ?_
          exact gb_M_state_72 K S T hI s1 (-1 : Int32)
        · refine g_aload_n (pc := 52) (j := 0) K d_M_state_52 rfl ?_
          refine g_getR (pc := 53) K fl_M_53 d_M_state_53 (fun _ => ?_) (fun b4 _ => ?_)
          · exact g_none
          · refine g_iload_n (pc := 56) (j := 1) K d_M_state_56 rfl ?_
            refine g_iconst (pc := 57) (v := 5) K d_M_state_57 (by decide) ?_
            refine g_isub (pc := 58) K d_M_state_58 ?_
            refine g_zald (pc := 59) K d_M_state_59 ?_
            refine g_if_eq (pc := 60) (tgt := 67) K d_M_state_60 (by decide) (fun _ => ?_) (fun _ => ?_)
            · refine g_iconst (pc := 67) (v := 0) K d_M_state_67 (by decide) ?_
              refine g_goto (pc := 68) (tgt := 72) K d_M_state_68 (by decide) ?_
              refine g_sub (L' := []) [] rfl ?_
              exact gb_M_state_72 K S T hI s1 (0 : Int32)
            · refine g_iconst (pc := 63) (v := 1) K d_M_state_63 (by decide) ?_
              refine g_goto (pc := 64) (tgt := 72) K d_M_state_64 (by decide) ?_
              refine g_sub (L' := []) [] rfl ?_
              exact gb_M_state_72 K S T hI s1 (1 : Int32)
      · refine g_aload_n (pc := 33) (j := 0) K d_M_state_33 rfl ?_
        refine g_getR (pc := 34) K fl_M_56 d_M_state_34 (fun _ => ?_) (fun b5 _ => ?_)
        · exact g_none
        · refine g_iload_n (pc := 37) (j := 1) K d_M_state_37 rfl ?_
          refine g_iconst (pc := 38) (v := 2) K d_M_state_38 (by decide) ?_
          refine g_isub (pc := 39) K d_M_state_39 ?_
          refine g_iald (pc := 40) K d_M_state_40 ?_
          exact g_iret (pc := 41) K S rfl d_M_state_41 (by decide) (by decide) rfl
    · refine g_aload_n (pc := 19) (j := 0) K d_M_state_19 rfl ?_
      refine g_getI (pc := 20) K fl_M_96 d_M_state_20 ?_
      exact g_iret (pc := 23) K S rfl d_M_state_23 (by decide) (by decide) rfl
  · refine g_aload_n (pc := 9) (j := 0) K d_M_state_9 rfl ?_
    refine g_callV (pc := 10) (ci := 4) (a := a0) (vs := []) (st := []) (mkc := mkI s1) K rfl (by decide) cn_M_groupView (fun l hl r hr => k_M_groupView l hl _ _ r hr) mw_696 mw_698 ms_20 ⟨by decide, by decide, by decide, by decide⟩ d_M_state_10 rfl rfl (Nat.le_of_ble_eq_true rfl) (fun v6 _ => ?_)
    change G Γ mkW 0 0 13 [(0, .ref a0), (1, .int x1)] [.int v6] s1 _
    exact g_iret (pc := 13) K S rfl d_M_state_13 (by decide) (by decide) rfl
