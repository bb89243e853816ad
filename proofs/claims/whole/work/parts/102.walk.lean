-- TapirGroup.groupView()I
def y_G_groupView : MethodName := ⟨"TapirGroup", "groupView", "()I"⟩
abbrev rm_G_groupView : Room := { frames := 1, cells := 0, slots := 0, locals := 21 }
theorem d_G_groupView_0 : decode prog_1_method_20_code 0 = .ok (.iconst 0, 1) := by decide +kernel
theorem d_G_groupView_1 : decode prog_1_method_20_code 1 = .ok (.istore_n 1, 1) := by decide +kernel
theorem d_G_groupView_2 : decode prog_1_method_20_code 2 = .ok (.iconst 0, 1) := by decide +kernel
theorem d_G_groupView_3 : decode prog_1_method_20_code 3 = .ok (.istore_n 2, 1) := by decide +kernel
theorem d_G_groupView_4 : decode prog_1_method_20_code 4 = .ok (.iload_n 2, 1) := by decide +kernel
theorem d_G_groupView_5 : decode prog_1_method_20_code 5 = .ok (.iconst 3, 1) := by decide +kernel
theorem d_G_groupView_6 : decode prog_1_method_20_code 6 = .ok (.if_icmp .ge 23, 3) := by decide +kernel
theorem d_G_groupView_9 : decode prog_1_method_20_code 9 = .ok (.iload_n 1, 1) := by decide +kernel
theorem d_G_groupView_10 : decode prog_1_method_20_code 10 = .ok (.aload_n 0, 1) := by decide +kernel
theorem d_G_groupView_11 : decode prog_1_method_20_code 11 = .ok (.getfield 11, 3) := by decide +kernel
theorem d_G_groupView_14 : decode prog_1_method_20_code 14 = .ok (.iload_n 2, 1) := by decide +kernel
theorem d_G_groupView_15 : decode prog_1_method_20_code 15 = .ok (.aaload, 1) := by decide +kernel
theorem d_G_groupView_16 : decode prog_1_method_20_code 16 = .ok (.getfield 241, 3) := by decide +kernel
theorem d_G_groupView_19 : decode prog_1_method_20_code 19 = .ok (.invokestatic 247, 3) := by decide +kernel
theorem d_G_groupView_22 : decode prog_1_method_20_code 22 = .ok (.istore_n 1, 1) := by decide +kernel
theorem d_G_groupView_23 : decode prog_1_method_20_code 23 = .ok (.iinc 2 1, 3) := by decide +kernel
theorem d_G_groupView_26 : decode prog_1_method_20_code 26 = .ok (.goto (-22), 3) := by decide +kernel
theorem d_G_groupView_29 : decode prog_1_method_20_code 29 = .ok (.iload_n 1, 1) := by decide +kernel
theorem d_G_groupView_30 : decode prog_1_method_20_code 30 = .ok (.ireturn, 1) := by decide +kernel
theorem cn_G_groupView : CN y_G_groupView (.code y_G_groupView prog_1_method_20_code 3 (some .int)) prog_1_method_20_code 3 (some .int) [] 0 := ⟨Or.inl ⟨rfl, rfl⟩, mw_163, mw_1, ⟨by decide +kernel, by decide +kernel⟩, by decide +kernel⟩
def b_G_groupView_4 (σ : Sg) : Nat → Nat → Int32 → Int32 → Option Int32
  | 0 => fun _ _ _ => none
  | n + 1 => fun a0 x1 x2 => (if (3 : Int32) ≤ x2 then (some x1) else (if a0 < σ.1 ∧ kd a0 = 3 then rc (g_r σ a0 0) none (fun b1 => (if (b1 < σ.1 ∧ kd b1 = 13) ∧ inb x2 (ln b1) = true then rc (g_r σ b1 x2.toNatClampNeg) none (fun b2 => (if b2 < σ.1 ∧ kd b2 = 1 then ((f_J_max σ x1 (g_i σ b2 1)).bind (fun v3 => (b_G_groupView_4 σ n a0 v3 (x2 + 1)))) else none)) else none)) else none))
set_option maxRecDepth 100000 in
set_option maxHeartbeats 4000000 in
theorem gb_G_groupView_4 {Γ : GX} (K : Cx Γ "TapirGroup" prog_1_method_20_code 3 rm_G_groupView) (S : Std Γ (some .int)) (T : Tb Γ []) (hI : y_G_groupView.name = "<init>" → Ini Γ) (σ : Sg) (n : Nat) : ∀ (a0 : Nat) (x1 : Int32) (x2 : Int32), G Γ (mkI σ) 0 0 4 [(0, .ref a0), (1, .int x1), (2, .int x2)] [] σ (b_G_groupView_4 σ n a0 x1 x2) := by
  induction n with
  | zero =>
    intro a0 x1 x2
    exact g_none
  | succ n ih =>
    intro a0 x1 x2
    rw [b_G_groupView_4]
    refine g_iload_n (pc := 4) (j := 2) K d_G_groupView_4 rfl ?_
    refine g_iconst (pc := 5) (v := 3) K d_G_groupView_5 (by decide) ?_
    refine g_icmp_ge (pc := 6) (tgt := 29) K d_G_groupView_6 (by decide) (fun _ => ?_) (fun _ => ?_)
    · refine g_iload_n (pc := 29) (j := 1) K d_G_groupView_29 rfl ?_
      exact g_iret (pc := 30) K S rfl d_G_groupView_30 (by decide) (by decide) rfl
    · refine g_iload_n (pc := 9) (j := 1) K d_G_groupView_9 rfl ?_
      refine g_aload_n (pc := 10) (j := 0) K d_G_groupView_10 rfl ?_
      refine g_getR (pc := 11) K fl_G_11 d_G_groupView_11 (fun _ => ?_) (fun b1 _ => ?_)
      · exact g_none
      · refine g_iload_n (pc := 14) (j := 2) K d_G_groupView_14 rfl ?_
        refine g_aald (pc := 15) (kq := 13) (t0 := 3) K (by decide) (fun _ => rfl) d_G_groupView_15 (fun _ => ?_) (fun b2 _ => ?_)
        · exact g_none
        · refine g_getI (pc := 16) K fl_G_241 d_G_groupView_16 ?_
          refine g_callS (pc := 19) (vs := [.int x1, .int (g_i σ b2 1)]) (st := []) (mkc := mkI σ) K cn_J_max (fun l hl r hr => k_J_max l hl _ _ _ r hr) mw_164 mw_165 ⟨by decide, by decide, by decide, by decide⟩ d_G_groupView_19 rfl rfl (Nat.le_of_ble_eq_true rfl) (fun v3 _ => ?_)
          change G Γ (mkI σ) 0 0 22 [(0, .ref a0), (1, .int x1), (2, .int x2)] [.int v3] σ _
          refine g_istore_n (pc := 22) (L' := [(1, .int v3), (0, .ref a0), (2, .int x2)]) K d_G_groupView_22 (by decide) rfl ?_
          refine g_iinc (pc := 23) (j := 2) (v := (x2 + 1)) (L' := [(2, .int (x2 + 1)), (1, .int v3), (0, .ref a0)]) K d_G_groupView_23 rfl (by rfl) (by decide) rfl ?_
          refine g_goto (pc := 26) (tgt := 4) K d_G_groupView_26 (by decide) ?_
          refine g_sub (L' := [(0, .ref a0), (1, .int v3), (2, .int (x2 + 1))]) [2, 1, 0] rfl ?_
          exact ih a0 v3 (x2 + 1)
def f_G_groupView (σ : Sg) (a0 : Nat) : Option Int32 := (b_G_groupView_4 σ 1000 a0 (0 : Int32) (0 : Int32))
set_option maxRecDepth 100000 in
set_option maxHeartbeats 4000000 in
theorem k_G_groupView (l : Launch) (hl : l.stackTraces = false) (σ : Sg) (a0 : Nat) (r : Int32) (h : f_G_groupView σ a0 = some r) : Con l y_G_groupView (.code y_G_groupView prog_1_method_20_code 3 (some .int)) rm_G_groupView [.ref a0] σ ((mkI σ) r) := by
  refine Con.of (mk := (mkI σ)) (o := f_G_groupView σ a0) (z := r) (L0 := [(0, .ref a0)]) (bytes := prog_1_method_20_code) (maxL := 3) (ret := (some .int)) (hh := []) hl (by decide +kernel) (Or.inl ⟨rfl, rfl⟩) (by simp [Value.category]) (Nat.le_of_ble_eq_true rfl) rfl (fun Γ K S T hI => ?_) h rfl
  unfold f_G_groupView
  refine g_iconst (pc := 0) (v := 0) K d_G_groupView_0 (by decide) ?_
  refine g_istore_n (pc := 1) (L' := [(1, .int (0 : Int32)), (0, .ref a0)]) K d_G_groupView_1 (by decide) rfl ?_
  refine g_iconst (pc := 2) (v := 0) K d_G_groupView_2 (by decide) ?_
  refine g_istore_n (pc := 3) (L' := [(2, .int (0 : Int32)), (1, .int (0 : Int32)), (0, .ref a0)]) K d_G_groupView_3 (by decide) rfl ?_
  refine g_sub (L' := [(0, .ref a0), (1, .int (0 : Int32)), (2, .int (0 : Int32))]) [2, 1, 0] rfl ?_
  exact gb_G_groupView_4 K S T hI σ 1000 a0 (0 : Int32) (0 : Int32)
-- TapirGroup.state(I)I
def y_G_state : MethodName := ⟨"TapirGroup", "state", "(I)I"⟩
abbrev rm_G_state : Room := { frames := 2, cells := 0, slots := 0, locals := 43 }
theorem d_G_state_0 : decode prog_1_method_16_code 0 = .ok (.iload_n 1, 1) := by decide +kernel
theorem d_G_state_1 : decode prog_1_method_16_code 1 = .ok (.tableswitch 89 0 7 #[47, 52, 57, 57, 57, 69, 69, 69], 47) := by decide +kernel
theorem d_G_state_48 : decode prog_1_method_16_code 48 = .ok (.aload_n 0, 1) := by decide +kernel
theorem d_G_state_49 : decode prog_1_method_16_code 49 = .ok (.invokevirtual 229, 3) := by decide +kernel
theorem d_G_state_52 : decode prog_1_method_16_code 52 = .ok (.ireturn, 1) := by decide +kernel
theorem d_G_state_53 : decode prog_1_method_16_code 53 = .ok (.aload_n 0, 1) := by decide +kernel
theorem d_G_state_54 : decode prog_1_method_16_code 54 = .ok (.getfield 27, 3) := by decide +kernel
theorem d_G_state_57 : decode prog_1_method_16_code 57 = .ok (.ireturn, 1) := by decide +kernel
theorem d_G_state_58 : decode prog_1_method_16_code 58 = .ok (.aload_n 0, 1) := by decide +kernel
theorem d_G_state_59 : decode prog_1_method_16_code 59 = .ok (.getfield 11, 3) := by decide +kernel
theorem d_G_state_62 : decode prog_1_method_16_code 62 = .ok (.iload_n 1, 1) := by decide +kernel
theorem d_G_state_63 : decode prog_1_method_16_code 63 = .ok (.iconst 2, 1) := by decide +kernel
theorem d_G_state_64 : decode prog_1_method_16_code 64 = .ok (.isub, 1) := by decide +kernel
theorem d_G_state_65 : decode prog_1_method_16_code 65 = .ok (.aaload, 1) := by decide +kernel
theorem d_G_state_66 : decode prog_1_method_16_code 66 = .ok (.getfield 241, 3) := by decide +kernel
theorem d_G_state_69 : decode prog_1_method_16_code 69 = .ok (.ireturn, 1) := by decide +kernel
theorem d_G_state_70 : decode prog_1_method_16_code 70 = .ok (.aload_n 0, 1) := by decide +kernel
theorem d_G_state_71 : decode prog_1_method_16_code 71 = .ok (.getfield 11, 3) := by decide +kernel
theorem d_G_state_74 : decode prog_1_method_16_code 74 = .ok (.iload_n 1, 1) := by decide +kernel
theorem d_G_state_75 : decode prog_1_method_16_code 75 = .ok (.iconst 5, 1) := by decide +kernel
theorem d_G_state_76 : decode prog_1_method_16_code 76 = .ok (.isub, 1) := by decide +kernel
theorem d_G_state_77 : decode prog_1_method_16_code 77 = .ok (.aaload, 1) := by decide +kernel
theorem d_G_state_78 : decode prog_1_method_16_code 78 = .ok (.getfield 220, 3) := by decide +kernel
theorem d_G_state_81 : decode prog_1_method_16_code 81 = .ok (.ifCond .eq 7, 3) := by decide +kernel
theorem d_G_state_84 : decode prog_1_method_16_code 84 = .ok (.iconst 1, 1) := by decide +kernel
theorem d_G_state_85 : decode prog_1_method_16_code 85 = .ok (.goto 4, 3) := by decide +kernel
theorem d_G_state_88 : decode prog_1_method_16_code 88 = .ok (.iconst 0, 1) := by decide +kernel
theorem d_G_state_89 : decode prog_1_method_16_code 89 = .ok (.ireturn, 1) := by decide +kernel
theorem d_G_state_90 : decode prog_1_method_16_code 90 = .ok (.iconst (-1), 1) := by decide +kernel
theorem d_G_state_91 : decode prog_1_method_16_code 91 = .ok (.ireturn, 1) := by decide +kernel
theorem cn_G_state : CN y_G_state (.code y_G_state prog_1_method_16_code 2 (some .int)) prog_1_method_16_code 2 (some .int) [] 1 := ⟨Or.inl ⟨rfl, rfl⟩, mw_159, mw_1, ⟨by decide +kernel, by decide +kernel⟩, by decide +kernel⟩
def b_G_state_89 (σ : Sg)  (t0 : Int32) : Option Int32 := (some t0)
set_option maxRecDepth 100000 in
set_option maxHeartbeats 4000000 in
theorem gb_G_state_89 {Γ : GX} (K : Cx Γ "TapirGroup" prog_1_method_16_code 2 rm_G_state) (S : Std Γ (some .int)) (T : Tb Γ []) (hI : y_G_state.name = "<init>" → Ini Γ) (σ : Sg) (t0 : Int32) : G Γ (mkI σ) 0 0 89 [] [.int t0] σ (b_G_state_89 σ t0) := by
  unfold b_G_state_89
  exact g_iret (pc := 89) K S rfl d_G_state_89 (by decide) (by decide) rfl
def f_G_state (σ : Sg) (a0 : Nat) (x1 : Int32) : Option Int32 := (if x1 = (0 : Int32) then (if a0 < σ.1 ∧ kd a0 = 3 then (f_G_groupView σ a0).bind (fun v1 => (some v1)) else none) else (if x1 = (1 : Int32) then (if a0 < σ.1 ∧ kd a0 = 3 then (some (g_i σ a0 3)) else none) else (if x1 = (2 : Int32) then (if a0 < σ.1 ∧ kd a0 = 3 then rc (g_r σ a0 0) none (fun b2 => (if (b2 < σ.1 ∧ kd b2 = 13) ∧ inb (x1 - (2 : Int32)) (ln b2) = true then rc (g_r σ b2 (x1 - (2 : Int32)).toNatClampNeg) none (fun b3 => (if b3 < σ.1 ∧ kd b3 = 1 then (some (g_i σ b3 1)) else none)) else none)) else none) else (if x1 = (3 : Int32) then (if a0 < σ.1 ∧ kd a0 = 3 then rc (g_r σ a0 0) none (fun b4 => (if (b4 < σ.1 ∧ kd b4 = 13) ∧ inb (x1 - (2 : Int32)) (ln b4) = true then rc (g_r σ b4 (x1 - (2 : Int32)).toNatClampNeg) none (fun b5 => (if b5 < σ.1 ∧ kd b5 = 1 then (some (g_i σ b5 1)) else none)) else none)) else none) else (if x1 = (4 : Int32) then (if a0 < σ.1 ∧ kd a0 = 3 then rc (g_r σ a0 0) none (fun b6 => (if (b6 < σ.1 ∧ kd b6 = 13) ∧ inb (x1 - (2 : Int32)) (ln b6) = true then rc (g_r σ b6 (x1 - (2 : Int32)).toNatClampNeg) none (fun b7 => (if b7 < σ.1 ∧ kd b7 = 1 then (some (g_i σ b7 1)) else none)) else none)) else none) else (if x1 = (5 : Int32) then (if a0 < σ.1 ∧ kd a0 = 3 then rc (g_r σ a0 0) none (fun b8 => (if (b8 < σ.1 ∧ kd b8 = 13) ∧ inb (x1 - (5 : Int32)) (ln b8) = true then rc (g_r σ b8 (x1 - (5 : Int32)).toNatClampNeg) none (fun b9 => (if b9 < σ.1 ∧ kd b9 = 1 then (if (g_i σ b9 0) = 0 then (b_G_state_89 σ (0 : Int32)) else (b_G_state_89 σ (1 : Int32))) else none)) else none)) else none) else (if x1 = (6 : Int32) then (if a0 < σ.1 ∧ kd a0 = 3 then rc (g_r σ a0 0) none (fun b10 => (if (b10 < σ.1 ∧ kd b10 = 13) ∧ inb (x1 - (5 : Int32)) (ln b10) = true then rc (g_r σ b10 (x1 - (5 : Int32)).toNatClampNeg) none (fun b11 => (if b11 < σ.1 ∧ kd b11 = 1 then (if (g_i σ b11 0) = 0 then (b_G_state_89 σ (0 : Int32)) else (b_G_state_89 σ (1 : Int32))) else none)) else none)) else none) else (if x1 = (7 : Int32) then (if a0 < σ.1 ∧ kd a0 = 3 then rc (g_r σ a0 0) none (fun b12 => (if (b12 < σ.1 ∧ kd b12 = 13) ∧ inb (x1 - (5 : Int32)) (ln b12) = true then rc (g_r σ b12 (x1 - (5 : Int32)).toNatClampNeg) none (fun b13 => (if b13 < σ.1 ∧ kd b13 = 1 then (if (g_i σ b13 0) = 0 then (b_G_state_89 σ (0 : Int32)) else (b_G_state_89 σ (1 : Int32))) else none)) else none)) else none) else (some (-1 : Int32))))))))))
set_option maxRecDepth 100000 in
set_option maxHeartbeats 4000000 in
theorem k_G_state (l : Launch) (hl : l.stackTraces = false) (σ : Sg) (a0 : Nat) (x1 : Int32) (r : Int32) (h : f_G_state σ a0 x1 = some r) : Con l y_G_state (.code y_G_state prog_1_method_16_code 2 (some .int)) rm_G_state [.ref a0, .int x1] σ ((mkI σ) r) := by
  refine Con.of (mk := (mkI σ)) (o := f_G_state σ a0 x1) (z := r) (L0 := [(0, .ref a0), (1, .int x1)]) (bytes := prog_1_method_16_code) (maxL := 2) (ret := (some .int)) (hh := []) hl (by decide +kernel) (Or.inl ⟨rfl, rfl⟩) (by simp [Value.category]) (Nat.le_of_ble_eq_true rfl) rfl (fun Γ K S T hI => ?_) h rfl
  unfold f_G_state
  refine g_iload_n (pc := 0) (j := 1) K d_G_state_0 rfl ?_
  refine g_ite (fun h => ?_) (fun h0 => ?_)
  · refine g_tableIn (pc := 1) (off := 47) (tgt := 48) K d_G_state_1 (by rw [h]; decide) (by rw [h]; decide) (by rw [h]; decide) (by decide) ?_
    refine g_aload_n (pc := 48) (j := 0) K d_G_state_48 rfl ?_
    refine g_callV (pc := 49) (ci := 3) (a := a0) (vs := []) (st := []) (mkc := mkI σ) K rfl (by decide) cn_G_groupView (fun l hl r hr => k_G_groupView l hl _ _ r hr) mw_160 mw_162 ms_0 ⟨by decide, by decide, by decide, by decide⟩ d_G_state_49 rfl rfl (Nat.le_of_ble_eq_true rfl) (fun v1 _ => ?_)
    change G Γ (mkI σ) 0 0 52 [(0, .ref a0), (1, .int x1)] [.int v1] σ _
    exact g_iret (pc := 52) K S rfl d_G_state_52 (by decide) (by decide) rfl
  · refine g_ite (fun h => ?_) (fun h1 => ?_)
    · refine g_tableIn (pc := 1) (off := 52) (tgt := 53) K d_G_state_1 (by rw [h]; decide) (by rw [h]; decide) (by rw [h]; decide) (by decide) ?_
      refine g_aload_n (pc := 53) (j := 0) K d_G_state_53 rfl ?_
      refine g_getI (pc := 54) K fl_G_27 d_G_state_54 ?_
      exact g_iret (pc := 57) K S rfl d_G_state_57 (by decide) (by decide) rfl
    · refine g_ite (fun h => ?_) (fun h2 => ?_)
      · refine g_tableIn (pc := 1) (off := 57) (tgt := 58) K d_G_state_1 (by rw [h]; decide) (by rw [h]; decide) (by rw [h]; decide) (by decide) ?_
        refine g_aload_n (pc := 58) (j := 0) K d_G_state_58 rfl ?_
        refine g_getR (pc := 59) K fl_G_11 d_G_state_59 (fun _ => ?_) (fun b2 _ => ?_)
        · exact g_none
        · refine g_iload_n (pc := 62) (j := 1) K d_G_state_62 rfl ?_
          refine g_iconst (pc := 63) (v := 2) K d_G_state_63 (by decide) ?_
          refine g_isub (pc := 64) K d_G_state_64 ?_
          refine g_aald (pc := 65) (kq := 13) (t0 := 3) K (by decide) (fun _ => rfl) d_G_state_65 (fun _ => ?_) (fun b3 _ => ?_)
          · exact g_none
          · refine g_getI (pc := 66) K fl_G_241 d_G_state_66 ?_
            exact g_iret (pc := 69) K S rfl d_G_state_69 (by decide) (by decide) rfl
      · refine g_ite (fun h => ?_) (fun h3 => ?_)
        · refine g_tableIn (pc := 1) (off := 57) (tgt := 58) K d_G_state_1 (by rw [h]; decide) (by rw [h]; decide) (by rw [h]; decide) (by decide) ?_
          refine g_aload_n (pc := 58) (j := 0) K d_G_state_58 rfl ?_
          refine g_getR (pc := 59) K fl_G_11 d_G_state_59 (fun _ => ?_) (fun b4 _ => ?_)
          · exact g_none
          · refine g_iload_n (pc := 62) (j := 1) K d_G_state_62 rfl ?_
            refine g_iconst (pc := 63) (v := 2) K d_G_state_63 (by decide) ?_
            refine g_isub (pc := 64) K d_G_state_64 ?_
            refine g_aald (pc := 65) (kq := 13) (t0 := 3) K (by decide) (fun _ => rfl) d_G_state_65 (fun _ => ?_) (fun b5 _ => ?_)
            · exact g_none
            · refine g_getI (pc := 66) K fl_G_241 d_G_state_66 ?_
              exact g_iret (pc := 69) K S rfl d_G_state_69 (by decide) (by decide) rfl
        · refine g_ite (fun h => ?_) (fun h4 => ?_)
          · refine g_tableIn (pc := 1) (off := 57) (tgt := 58) K d_G_state_1 (by rw [h]; decide) (by rw [h]; decide) (by rw [h]; decide) (by decide) ?_
            refine g_aload_n (pc := 58) (j := 0) K d_G_state_58 rfl ?_
            refine g_getR (pc := 59) K fl_G_11 d_G_state_59 (fun _ => ?_) (fun b6 _ => ?_)
            · exact g_none
            · refine g_iload_n (pc := 62) (j := 1) K d_G_state_62 rfl ?_
              refine g_iconst (pc := 63) (v := 2) K d_G_state_63 (by decide) ?_
              refine g_isub (pc := 64) K d_G_state_64 ?_
              refine g_aald (pc := 65) (kq := 13) (t0 := 3) K (by decide) (fun _ => rfl) d_G_state_65 (fun _ => ?_) (fun b7 _ => ?_)
              · exact g_none
              · refine g_getI (pc := 66) K fl_G_241 d_G_state_66 ?_
                exact g_iret (pc := 69) K S rfl d_G_state_69 (by decide) (by decide) rfl
          · refine g_ite (fun h => ?_) (fun h5 => ?_)
            · refine g_tableIn (pc := 1) (off := 69) (tgt := 70) K d_G_state_1 (by rw [h]; decide) (by rw [h]; decide) (by rw [h]; decide) (by decide) ?_
              refine g_aload_n (pc := 70) (j := 0) K d_G_state_70 rfl ?_
              refine g_getR (pc := 71) K fl_G_11 d_G_state_71 (fun _ => ?_) (fun b8 _ => ?_)
              · exact g_none
              · refine g_iload_n (pc := 74) (j := 1) K d_G_state_74 rfl ?_
                refine g_iconst (pc := 75) (v := 5) K d_G_state_75 (by decide) ?_
                refine g_isub (pc := 76) K d_G_state_76 ?_
                refine g_aald (pc := 77) (kq := 13) (t0 := 3) K (by decide) (fun _ => rfl) d_G_state_77 (fun _ => ?_) (fun b9 _ => ?_)
                · exact g_none
                · refine g_getI (pc := 78) K fl_G_220 d_G_state_78 ?_
                  refine g_if_eq (pc := 81) (tgt := 88) K d_G_state_81 (by decide) (fun _ => ?_) (fun _ => ?_)
                  · refine g_iconst (pc := 88) (v := 0) K d_G_state_88 (by decide) ?_
                    refine g_sub (L' := []) [] rfl ?_
                    exact gb_G_state_89 K S T hI σ (0 : Int32)
                  · refine g_iconst (pc := 84) (v := 1) K d_G_state_84 (by decide) ?_
                    refine g_goto (pc := 85) (tgt := 89) K d_G_state_85 (by decide) ?_
                    refine g_sub (L' := []) [] rfl ?_
                    exact gb_G_state_89 K S T hI σ (1 : Int32)
            · refine g_ite (fun h => ?_) (fun h6 => ?_)
              · refine g_tableIn (pc := 1) (off := 69) (tgt := 70) K d_G_state_1 (by rw [h]; decide) (by rw [h]; decide) (by rw [h]; decide) (by decide) ?_
                refine g_aload_n (pc := 70) (j := 0) K d_G_state_70 rfl ?_
                refine g_getR (pc := 71) K fl_G_11 d_G_state_71 (fun _ => ?_) (fun b10 _ => ?_)
                · exact g_none
                · refine g_iload_n (pc := 74) (j := 1) K d_G_state_74 rfl ?_
                  refine g_iconst (pc := 75) (v := 5) K d_G_state_75 (by decide) ?_
                  refine g_isub (pc := 76) K d_G_state_76 ?_
                  refine g_aald (pc := 77) (kq := 13) (t0 := 3) K (by decide) (fun _ => rfl) d_G_state_77 (fun _ => ?_) (fun b11 _ => ?_)
                  · exact g_none
                  · refine g_getI (pc := 78) K fl_G_220 d_G_state_78 ?_
                    refine g_if_eq (pc := 81) (tgt := 88) K d_G_state_81 (by decide) (fun _ => ?_) (fun _ => ?_)
                    · refine g_iconst (pc := 88) (v := 0) K d_G_state_88 (by decide) ?_
                      refine g_sub (L' := []) [] rfl ?_
                      exact gb_G_state_89 K S T hI σ (0 : Int32)
                    · refine g_iconst (pc := 84) (v := 1) K d_G_state_84 (by decide) ?_
                      refine g_goto (pc := 85) (tgt := 89) K d_G_state_85 (by decide) ?_
                      refine g_sub (L' := []) [] rfl ?_
                      exact gb_G_state_89 K S T hI σ (1 : Int32)
              · refine g_ite (fun h => ?_) (fun h7 => ?_)
                · refine g_tableIn (pc := 1) (off := 69) (tgt := 70) K d_G_state_1 (by rw [h]; decide) (by rw [h]; decide) (by rw [h]; decide) (by decide) ?_
                  refine g_aload_n (pc := 70) (j := 0) K d_G_state_70 rfl ?_
                  refine g_getR (pc := 71) K fl_G_11 d_G_state_71 (fun _ => ?_) (fun b12 _ => ?_)
                  · exact g_none
                  · refine g_iload_n (pc := 74) (j := 1) K d_G_state_74 rfl ?_
                    refine g_iconst (pc := 75) (v := 5) K d_G_state_75 (by decide) ?_
                    refine g_isub (pc := 76) K d_G_state_76 ?_
                    refine g_aald (pc := 77) (kq := 13) (t0 := 3) K (by decide) (fun _ => rfl) d_G_state_77 (fun _ => ?_) (fun b13 _ => ?_)
                    · exact g_none
                    · refine g_getI (pc := 78) K fl_G_220 d_G_state_78 ?_
                      refine g_if_eq (pc := 81) (tgt := 88) K d_G_state_81 (by decide) (fun _ => ?_) (fun _ => ?_)
                      · refine g_iconst (pc := 88) (v := 0) K d_G_state_88 (by decide) ?_
                        refine g_sub (L' := []) [] rfl ?_
                        exact gb_G_state_89 K S T hI σ (0 : Int32)
                      · refine g_iconst (pc := 84) (v := 1) K d_G_state_84 (by decide) ?_
                        refine g_goto (pc := 85) (tgt := 89) K d_G_state_85 (by decide) ?_
                        refine g_sub (L' := []) [] rfl ?_
                        exact gb_G_state_89 K S T hI σ (1 : Int32)
                · have n0 := lv_neT h0 (show (0 : Int32).toInt = 0 from by decide)
                  have n1 := lv_neT h1 (show (1 : Int32).toInt = 1 from by decide)
                  have n2 := lv_neT h2 (show (2 : Int32).toInt = 2 from by decide)
                  have n3 := lv_neT h3 (show (3 : Int32).toInt = 3 from by decide)
                  have n4 := lv_neT h4 (show (4 : Int32).toInt = 4 from by decide)
                  have n5 := lv_neT h5 (show (5 : Int32).toInt = 5 from by decide)
                  have n6 := lv_neT h6 (show (6 : Int32).toInt = 6 from by decide)
                  have n7 := lv_neT h7 (show (7 : Int32).toInt = 7 from by decide)
                  refine g_tableOut (pc := 1) (tgt := 90) K d_G_state_1 (by omega) (by decide) ?_
                  refine g_iconst (pc := 90) (v := -1) K d_G_state_90 (by decide) ?_
                  exact g_iret (pc := 91) K S rfl d_G_state_91 (by decide) (by decide) rfl
-- TapirGroup$Transaction.<init>(I)V
def y_T_init : MethodName := ⟨"TapirGroup$Transaction", "<init>", "(I)V"⟩
abbrev rm_T_init : Room := { frames := 1, cells := 3, slots := 18, locals := 20 }
theorem d_T_init_0 : decode prog_4_method_1_code 0 = .ok (.aload_n 0, 1) := by decide +kernel
theorem d_T_init_1 : decode prog_4_method_1_code 1 = .ok (.invokespecial 3, 3) := by decide +kernel
theorem d_T_init_4 : decode prog_4_method_1_code 4 = .ok (.aload_n 0, 1) := by decide +kernel
theorem d_T_init_5 : decode prog_4_method_1_code 5 = .ok (.iconst 0, 1) := by decide +kernel
theorem d_T_init_6 : decode prog_4_method_1_code 6 = .ok (.putfield 9, 3) := by decide +kernel
theorem d_T_init_9 : decode prog_4_method_1_code 9 = .ok (.aload_n 0, 1) := by decide +kernel
theorem d_T_init_10 : decode prog_4_method_1_code 10 = .ok (.iconst 0, 1) := by decide +kernel
theorem d_T_init_11 : decode prog_4_method_1_code 11 = .ok (.putfield 15, 3) := by decide +kernel
theorem d_T_init_14 : decode prog_4_method_1_code 14 = .ok (.aload_n 0, 1) := by decide +kernel
theorem d_T_init_15 : decode prog_4_method_1_code 15 = .ok (.iconst 0, 1) := by decide +kernel
theorem d_T_init_16 : decode prog_4_method_1_code 16 = .ok (.putfield 18, 3) := by decide +kernel
theorem d_T_init_19 : decode prog_4_method_1_code 19 = .ok (.aload_n 0, 1) := by decide +kernel
theorem d_T_init_20 : decode prog_4_method_1_code 20 = .ok (.bipush 6, 2) := by decide +kernel
theorem d_T_init_22 : decode prog_4_method_1_code 22 = .ok (.newarray .int, 2) := by decide +kernel
theorem d_T_init_24 : decode prog_4_method_1_code 24 = .ok (.putfield 21, 3) := by decide +kernel
theorem d_T_init_27 : decode prog_4_method_1_code 27 = .ok (.aload_n 0, 1) := by decide +kernel
theorem d_T_init_28 : decode prog_4_method_1_code 28 = .ok (.bipush 6, 2) := by decide +kernel
theorem d_T_init_30 : decode prog_4_method_1_code 30 = .ok (.newarray .int, 2) := by decide +kernel
theorem d_T_init_32 : decode prog_4_method_1_code 32 = .ok (.putfield 25, 3) := by decide +kernel
theorem d_T_init_35 : decode prog_4_method_1_code 35 = .ok (.aload_n 0, 1) := by decide +kernel
theorem d_T_init_36 : decode prog_4_method_1_code 36 = .ok (.bipush 6, 2) := by decide +kernel
theorem d_T_init_38 : decode prog_4_method_1_code 38 = .ok (.newarray .int, 2) := by decide +kernel
theorem d_T_init_40 : decode prog_4_method_1_code 40 = .ok (.putfield 28, 3) := by decide +kernel
theorem d_T_init_43 : decode prog_4_method_1_code 43 = .ok (.aload_n 0, 1) := by decide +kernel
theorem d_T_init_44 : decode prog_4_method_1_code 44 = .ok (.iload_n 1, 1) := by decide +kernel
theorem d_T_init_45 : decode prog_4_method_1_code 45 = .ok (.putfield 31, 3) := by decide +kernel
theorem d_T_init_48 : decode prog_4_method_1_code 48 = .ok (.return_, 1) := by decide +kernel
theorem cn_T_init : CN y_T_init (.code y_T_init prog_4_method_1_code 2 none) prog_4_method_1_code 2 none [] 1 := ⟨Or.inl ⟨rfl, rfl⟩, mw_264, mw_11, ⟨by decide +kernel, by decide +kernel⟩, by decide +kernel⟩
def f_T_init (σ : Sg) (a0 : Nat) (x1 : Int32) : Option Sg := (if a0 < σ.1 ∧ kd a0 = 2 then (wi (s_i σ a0 1 (0 : Int32)) (fun s1 => (if a0 < s1.1 ∧ kd a0 = 2 then (wi (s_i s1 a0 2 (0 : Int32)) (fun s2 => (if a0 < s2.1 ∧ kd a0 = 2 then (wi (s_i s2 a0 3 (0 : Int32)) (fun s3 => (if (kd s3.1 = 10 ∧ ln s3.1 = 6) ∧ s3.1 < SCR then (wi (s_n s3) (fun s4 => (if (a0 < s4.1 ∧ kd a0 = 2) ∧ s3.1 < s4.1 then (wi (s_r s4 a0 4 (some s3.1)) (fun s5 => (if (kd s5.1 = 10 ∧ ln s5.1 = 6) ∧ s5.1 < SCR then (wi (s_n s5) (fun s6 => (if (a0 < s6.1 ∧ kd a0 = 2) ∧ s5.1 < s6.1 then (wi (s_r s6 a0 5 (some s5.1)) (fun s7 => (if (kd s7.1 = 10 ∧ ln s7.1 = 6) ∧ s7.1 < SCR then (wi (s_n s7) (fun s8 => (if (a0 < s8.1 ∧ kd a0 = 2) ∧ s7.1 < s8.1 then (wi (s_r s8 a0 6 (some s7.1)) (fun s9 => (if a0 < s9.1 ∧ kd a0 = 2 then (wi (s_i s9 a0 0 x1) (fun s10 => (some s10))) else none))) else none))) else none))) else none))) else none))) else none))) else none))) else none))) else none))) else none)
set_option maxRecDepth 100000 in
set_option maxHeartbeats 4000000 in
theorem k_T_init (l : Launch) (hl : l.stackTraces = false) (σ : Sg) (a0 : Nat) (x1 : Int32) (r : Sg) (h : f_T_init σ a0 x1 = some r) : Con l y_T_init (.code y_T_init prog_4_method_1_code 2 none) rm_T_init [.ref a0, .int x1] σ (mkV r) := by
  refine Con.of (mk := mkV) (o := f_T_init σ a0 x1) (z := r) (L0 := [(0, .ref a0), (1, .int x1)]) (bytes := prog_4_method_1_code) (maxL := 2) (ret := none) (hh := []) hl (by decide +kernel) (Or.inl ⟨rfl, rfl⟩) (by simp [Value.category]) (Nat.le_of_ble_eq_true rfl) rfl (fun Γ K S T hI => ?_) h rfl
  unfold f_T_init
  refine g_aload_n (pc := 0) (j := 0) K d_T_init_0 rfl ?_
  refine g_objInit (pc := 1) K mw_265 mw_22 mw_23 (by decide) (by decide) (Nat.le_of_ble_eq_true rfl) d_T_init_1 ?_
  refine g_aload_n (pc := 4) (j := 0) K d_T_init_4 rfl ?_
  refine g_iconst (pc := 5) (v := 0) K d_T_init_5 (by decide) ?_
  refine g_putI (pc := 6) K fl_T_9 d_T_init_6 ?_
  refine g_wi (fun s1 _ => ?_)
  refine g_aload_n (pc := 9) (j := 0) K d_T_init_9 rfl ?_
  refine g_iconst (pc := 10) (v := 0) K d_T_init_10 (by decide) ?_
  refine g_putI (pc := 11) K fl_T_15 d_T_init_11 ?_
  refine g_wi (fun s2 _ => ?_)
  refine g_aload_n (pc := 14) (j := 0) K d_T_init_14 rfl ?_
  refine g_iconst (pc := 15) (v := 0) K d_T_init_15 (by decide) ?_
  refine g_putI (pc := 16) K fl_T_18 d_T_init_16 ?_
  refine g_wi (fun s3 _ => ?_)
  refine g_aload_n (pc := 19) (j := 0) K d_T_init_19 rfl ?_
  refine g_bipush (pc := 20) (v := 6) K d_T_init_20 (by decide) ?_
  refine g_newI (pc := 22) (N := 6) K mw_63 d_T_init_22 (by decide) (by decide) (by decide) (by decide) (by decide) ?_
  refine g_wi (fun s4 _ => ?_)
  refine g_putRF (pc := 24) K (hI rfl) (fun _ _ _ h => by cases h; rfl) fl_T_21 d_T_init_24 ?_
  refine g_wi (fun s5 _ => ?_)
  refine g_aload_n (pc := 27) (j := 0) K d_T_init_27 rfl ?_
  refine g_bipush (pc := 28) (v := 6) K d_T_init_28 (by decide) ?_
  refine g_newI (pc := 30) (N := 6) K mw_63 d_T_init_30 (by decide) (by decide) (by decide) (by decide) (by decide) ?_
  refine g_wi (fun s6 _ => ?_)
  refine g_putRF (pc := 32) K (hI rfl) (fun _ _ _ h => by cases h; rfl) fl_T_25 d_T_init_32 ?_
  refine g_wi (fun s7 _ => ?_)
  refine g_aload_n (pc := 35) (j := 0) K d_T_init_35 rfl ?_
  refine g_bipush (pc := 36) (v := 6) K d_T_init_36 (by decide) ?_
  refine g_newI (pc := 38) (N := 6) K mw_63 d_T_init_38 (by decide) (by decide) (by decide) (by decide) (by decide) ?_
  refine g_wi (fun s8 _ => ?_)
  refine g_putRF (pc := 40) K (hI rfl) (fun _ _ _ h => by cases h; rfl) fl_T_28 d_T_init_40 ?_
  refine g_wi (fun s9 _ => ?_)
  refine g_aload_n (pc := 43) (j := 0) K d_T_init_43 rfl ?_
  refine g_iload_n (pc := 44) (j := 1) K d_T_init_44 rfl ?_
  refine g_putIF (pc := 45) K (hI rfl) (fun _ _ _ h => by cases h; rfl) fl_T_31 d_T_init_45 ?_
  refine g_wi (fun s10 _ => ?_)
  exact g_vret (pc := 48) K S d_T_init_48 (by decide) (by decide) rfl
-- TapirGroup$Client.forgetReplies()V
def y_C_forgetReplies : MethodName := ⟨"TapirGroup$Client", "forgetReplies", "()V"⟩
abbrev rm_C_forgetReplies : Room := { frames := 1, cells := 0, slots := 0, locals := 23 }
theorem d_C_forgetReplies_0 : decode prog_2_method_6_code 0 = .ok (.aload_n 0, 1) := by decide +kernel
theorem d_C_forgetReplies_1 : decode prog_2_method_6_code 1 = .ok (.getfield 28, 3) := by decide +kernel
theorem d_C_forgetReplies_4 : decode prog_2_method_6_code 4 = .ok (.iconst (-1), 1) := by decide +kernel
theorem d_C_forgetReplies_5 : decode prog_2_method_6_code 5 = .ok (.invokestatic 32, 3) := by decide +kernel
theorem d_C_forgetReplies_8 : decode prog_2_method_6_code 8 = .ok (.aload_n 0, 1) := by decide +kernel
theorem d_C_forgetReplies_9 : decode prog_2_method_6_code 9 = .ok (.iconst 0, 1) := by decide +kernel
theorem d_C_forgetReplies_10 : decode prog_2_method_6_code 10 = .ok (.putfield 25, 3) := by decide +kernel
theorem d_C_forgetReplies_13 : decode prog_2_method_6_code 13 = .ok (.return_, 1) := by decide +kernel
theorem cn_C_forgetReplies : CN y_C_forgetReplies (.code y_C_forgetReplies prog_2_method_6_code 1 none) prog_2_method_6_code 1 none [] 0 := ⟨Or.inl ⟨rfl, rfl⟩, mw_304, mw_4, ⟨by decide +kernel, by decide +kernel⟩, by decide +kernel⟩
def f_C_forgetReplies (σ : Sg) (a0 : Nat) : Option Sg := (if a0 < σ.1 ∧ kd a0 = 0 then rc (g_r σ a0 5) none (fun b1 => ((f_J_fill σ b1 (-1 : Int32)).bind (fun s2 => (if a0 < s2.1 ∧ kd a0 = 0 then (wi (s_i s2 a0 4 (0 : Int32)) (fun s3 => (some s3))) else none)))) else none)
set_option maxRecDepth 100000 in
set_option maxHeartbeats 4000000 in
theorem k_C_forgetReplies (l : Launch) (hl : l.stackTraces = false) (σ : Sg) (a0 : Nat) (r : Sg) (h : f_C_forgetReplies σ a0 = some r) : Con l y_C_forgetReplies (.code y_C_forgetReplies prog_2_method_6_code 1 none) rm_C_forgetReplies [.ref a0] σ (mkV r) := by
  refine Con.of (mk := mkV) (o := f_C_forgetReplies σ a0) (z := r) (L0 := [(0, .ref a0)]) (bytes := prog_2_method_6_code) (maxL := 1) (ret := none) (hh := []) hl (by decide +kernel) (Or.inl ⟨rfl, rfl⟩) (by simp [Value.category]) (Nat.le_of_ble_eq_true rfl) rfl (fun Γ K S T hI => ?_) h rfl
  unfold f_C_forgetReplies
  refine g_aload_n (pc := 0) (j := 0) K d_C_forgetReplies_0 rfl ?_
  refine g_getR (pc := 1) K fl_C_28 d_C_forgetReplies_1 (fun _ => ?_) (fun b1 _ => ?_)
  · exact g_none
  · refine g_iconst (pc := 4) (v := -1) K d_C_forgetReplies_4 (by decide) ?_
    refine g_callS (pc := 5) (vs := [.ref b1, .int (-1 : Int32)]) (st := []) (mkc := mkV) K cn_J_fill (fun l hl r hr => k_J_fill l hl _ _ _ r hr) mw_69 mw_36 ⟨by decide, by decide, by decide, by decide⟩ d_C_forgetReplies_5 rfl rfl (Nat.le_of_ble_eq_true rfl) (fun s2 _ => ?_)
    change G Γ mkV 0 0 8 [(0, .ref a0)] [] s2 _
    refine g_aload_n (pc := 8) (j := 0) K d_C_forgetReplies_8 rfl ?_
    refine g_iconst (pc := 9) (v := 0) K d_C_forgetReplies_9 (by decide) ?_
    refine g_putI (pc := 10) K fl_C_25 d_C_forgetReplies_10 ?_
    refine g_wi (fun s3 _ => ?_)
    exact g_vret (pc := 13) K S d_C_forgetReplies_13 (by decide) (by decide) rfl
-- TapirGroup$Client.take(LTapirGroup$Transaction;)V
def y_C_take : MethodName := ⟨"TapirGroup$Client", "take", "(LTapirGroup$Transaction;)V"⟩
abbrev rm_C_take : Room := { frames := 2, cells := 0, slots := 0, locals := 43 }
theorem d_C_take_0 : decode prog_2_method_2_code 0 = .ok (.aload_n 0, 1) := by decide +kernel
theorem d_C_take_1 : decode prog_2_method_2_code 1 = .ok (.aload_n 1, 1) := by decide +kernel
theorem d_C_take_2 : decode prog_2_method_2_code 2 = .ok (.putfield 9, 3) := by decide +kernel
theorem d_C_take_5 : decode prog_2_method_2_code 5 = .ok (.aload_n 0, 1) := by decide +kernel
theorem d_C_take_6 : decode prog_2_method_2_code 6 = .ok (.iconst 1, 1) := by decide +kernel
theorem d_C_take_7 : decode prog_2_method_2_code 7 = .ok (.putfield 15, 3) := by decide +kernel
theorem d_C_take_10 : decode prog_2_method_2_code 10 = .ok (.aload_n 0, 1) := by decide +kernel
theorem d_C_take_11 : decode prog_2_method_2_code 11 = .ok (.invokevirtual 38, 3) := by decide +kernel
theorem d_C_take_14 : decode prog_2_method_2_code 14 = .ok (.return_, 1) := by decide +kernel
theorem cn_C_take : CN y_C_take (.code y_C_take prog_2_method_2_code 2 none) prog_2_method_2_code 2 none [] 1 := ⟨Or.inl ⟨rfl, rfl⟩, mw_300, mw_4, ⟨by decide +kernel, by decide +kernel⟩, by decide +kernel⟩
def f_C_take (σ : Sg) (a0 : Nat) (a1 : Nat) : Option Sg := (if (a0 < σ.1 ∧ kd a0 = 0) ∧ a1 < σ.1 then (wi (s_r σ a0 0 (some a1)) (fun s1 => (if a0 < s1.1 ∧ kd a0 = 0 then (wi (s_i s1 a0 1 (1 : Int32)) (fun s2 => (if a0 < s2.1 ∧ kd a0 = 0 then (f_C_forgetReplies s2 a0).bind (fun s3 => (some s3)) else none))) else none))) else none)
set_option maxRecDepth 100000 in
set_option maxHeartbeats 4000000 in
theorem k_C_take (l : Launch) (hl : l.stackTraces = false) (σ : Sg) (a0 : Nat) (a1 : Nat) (r : Sg) (h : f_C_take σ a0 a1 = some r) : Con l y_C_take (.code y_C_take prog_2_method_2_code 2 none) rm_C_take [.ref a0, .ref a1] σ (mkV r) := by
  refine Con.of (mk := mkV) (o := f_C_take σ a0 a1) (z := r) (L0 := [(0, .ref a0), (1, .ref a1)]) (bytes := prog_2_method_2_code) (maxL := 2) (ret := none) (hh := []) hl (by decide +kernel) (Or.inl ⟨rfl, rfl⟩) (by simp [Value.category]) (Nat.le_of_ble_eq_true rfl) rfl (fun Γ K S T hI => ?_) h rfl
  unfold f_C_take
  refine g_aload_n (pc := 0) (j := 0) K d_C_take_0 rfl ?_
  refine g_aload_n (pc := 1) (j := 1) K d_C_take_1 rfl ?_
  refine g_putR (pc := 2) K fl_C_9 d_C_take_2 ?_
  refine g_wi (fun s1 _ => ?_)
  refine g_aload_n (pc := 5) (j := 0) K d_C_take_5 rfl ?_
  refine g_iconst (pc := 6) (v := 1) K d_C_take_6 (by decide) ?_
  refine g_putI (pc := 7) K fl_C_15 d_C_take_7 ?_
  refine g_wi (fun s2 _ => ?_)
  refine g_aload_n (pc := 10) (j := 0) K d_C_take_10 rfl ?_
  refine g_callV (pc := 11) (ci := 0) (a := a0) (vs := []) (st := []) (mkc := mkV) K rfl (by decide) cn_C_forgetReplies (fun l hl r hr => k_C_forgetReplies l hl _ _ r hr) mw_301 mw_302 mw_303 ⟨by decide, by decide, by decide, by decide⟩ d_C_take_11 rfl rfl (Nat.le_of_ble_eq_true rfl) (fun s3 _ => ?_)
  change G Γ mkV 0 0 14 [(0, .ref a0), (1, .ref a1)] [] s3 _
  exact g_vret (pc := 14) K S d_C_take_14 (by decide) (by decide) rfl
-- TapirGroup.begin(I)I
def y_G_begin : MethodName := ⟨"TapirGroup", "begin", "(I)I"⟩
abbrev rm_G_begin : Room := { frames := 6, cells := 4, slots := 25, locals := 90 }
theorem d_G_begin_0 : decode prog_1_method_2_code 0 = .ok (.iload_n 1, 1) := by decide +kernel
theorem d_G_begin_1 : decode prog_1_method_2_code 1 = .ok (.invokestatic 33, 3) := by decide +kernel
theorem d_G_begin_4 : decode prog_1_method_2_code 4 = .ok (.ifCond .ne 13, 3) := by decide +kernel
theorem d_G_begin_7 : decode prog_1_method_2_code 7 = .ok (.new 37, 3) := by decide +kernel
theorem d_G_begin_10 : decode prog_1_method_2_code 10 = .ok (.dup, 1) := by decide +kernel
theorem d_G_begin_11 : decode prog_1_method_2_code 11 = .ok (.ldc 39, 2) := by decide +kernel
theorem d_G_begin_13 : decode prog_1_method_2_code 13 = .ok (.invokespecial 41, 3) := by decide +kernel
theorem d_G_begin_16 : decode prog_1_method_2_code 16 = .ok (.athrow, 1) := by decide +kernel
theorem d_G_begin_17 : decode prog_1_method_2_code 17 = .ok (.aload_n 0, 1) := by decide +kernel
theorem d_G_begin_18 : decode prog_1_method_2_code 18 = .ok (.getfield 17, 3) := by decide +kernel
theorem d_G_begin_21 : decode prog_1_method_2_code 21 = .ok (.iload_n 1, 1) := by decide +kernel
theorem d_G_begin_22 : decode prog_1_method_2_code 22 = .ok (.aaload, 1) := by decide +kernel
theorem d_G_begin_23 : decode prog_1_method_2_code 23 = .ok (.astore_n 2, 1) := by decide +kernel
theorem d_G_begin_24 : decode prog_1_method_2_code 24 = .ok (.aload_n 2, 1) := by decide +kernel
theorem d_G_begin_25 : decode prog_1_method_2_code 25 = .ok (.getfield 44, 3) := by decide +kernel
theorem d_G_begin_28 : decode prog_1_method_2_code 28 = .ok (.ifnonnull 12, 3) := by decide +kernel
theorem d_G_begin_31 : decode prog_1_method_2_code 31 = .ok (.aload_n 0, 1) := by decide +kernel
theorem d_G_begin_32 : decode prog_1_method_2_code 32 = .ok (.getfield 27, 3) := by decide +kernel
theorem d_G_begin_35 : decode prog_1_method_2_code 35 = .ok (.bipush 60, 2) := by decide +kernel
theorem d_G_begin_37 : decode prog_1_method_2_code 37 = .ok (.if_icmp .lt 13, 3) := by decide +kernel
theorem d_G_begin_40 : decode prog_1_method_2_code 40 = .ok (.new 48, 3) := by decide +kernel
theorem d_G_begin_43 : decode prog_1_method_2_code 43 = .ok (.dup, 1) := by decide +kernel
theorem d_G_begin_44 : decode prog_1_method_2_code 44 = .ok (.ldc 50, 2) := by decide +kernel
theorem d_G_begin_46 : decode prog_1_method_2_code 46 = .ok (.invokespecial 52, 3) := by decide +kernel
theorem d_G_begin_49 : decode prog_1_method_2_code 49 = .ok (.athrow, 1) := by decide +kernel
theorem d_G_begin_50 : decode prog_1_method_2_code 50 = .ok (.aload_n 0, 1) := by decide +kernel
theorem d_G_begin_51 : decode prog_1_method_2_code 51 = .ok (.dup, 1) := by decide +kernel
theorem d_G_begin_52 : decode prog_1_method_2_code 52 = .ok (.getfield 27, 3) := by decide +kernel
theorem d_G_begin_55 : decode prog_1_method_2_code 55 = .ok (.iconst 1, 1) := by decide +kernel
theorem d_G_begin_56 : decode prog_1_method_2_code 56 = .ok (.iadd, 1) := by decide +kernel
theorem d_G_begin_57 : decode prog_1_method_2_code 57 = .ok (.putfield 27, 3) := by decide +kernel
theorem d_G_begin_60 : decode prog_1_method_2_code 60 = .ok (.new 21, 3) := by decide +kernel
theorem d_G_begin_63 : decode prog_1_method_2_code 63 = .ok (.dup, 1) := by decide +kernel
theorem d_G_begin_64 : decode prog_1_method_2_code 64 = .ok (.aload_n 0, 1) := by decide +kernel
theorem d_G_begin_65 : decode prog_1_method_2_code 65 = .ok (.getfield 27, 3) := by decide +kernel
theorem d_G_begin_68 : decode prog_1_method_2_code 68 = .ok (.invokespecial 53, 3) := by decide +kernel
theorem d_G_begin_71 : decode prog_1_method_2_code 71 = .ok (.astore_n 3, 1) := by decide +kernel
theorem d_G_begin_72 : decode prog_1_method_2_code 72 = .ok (.aload_n 0, 1) := by decide +kernel
theorem d_G_begin_73 : decode prog_1_method_2_code 73 = .ok (.getfield 23, 3) := by decide +kernel
theorem d_G_begin_76 : decode prog_1_method_2_code 76 = .ok (.aload_n 0, 1) := by decide +kernel
theorem d_G_begin_77 : decode prog_1_method_2_code 77 = .ok (.getfield 27, 3) := by decide +kernel
theorem d_G_begin_80 : decode prog_1_method_2_code 80 = .ok (.aload_n 3, 1) := by decide +kernel
theorem d_G_begin_81 : decode prog_1_method_2_code 81 = .ok (.aastore, 1) := by decide +kernel
theorem d_G_begin_82 : decode prog_1_method_2_code 82 = .ok (.aload_n 2, 1) := by decide +kernel
theorem d_G_begin_83 : decode prog_1_method_2_code 83 = .ok (.aload_n 3, 1) := by decide +kernel
theorem d_G_begin_84 : decode prog_1_method_2_code 84 = .ok (.invokevirtual 56, 3) := by decide +kernel
theorem d_G_begin_87 : decode prog_1_method_2_code 87 = .ok (.aload_n 0, 1) := by decide +kernel
theorem d_G_begin_88 : decode prog_1_method_2_code 88 = .ok (.getfield 27, 3) := by decide +kernel
theorem d_G_begin_91 : decode prog_1_method_2_code 91 = .ok (.ireturn, 1) := by decide +kernel
theorem cn_G_begin : CN y_G_begin (.code y_G_begin prog_1_method_2_code 4 (some .int)) prog_1_method_2_code 4 (some .int) [] 1 := ⟨Or.inl ⟨rfl, rfl⟩, mw_175, mw_1, ⟨by decide +kernel, by decide +kernel⟩, by decide +kernel⟩
def b_G_begin_40  (σ : Sg)  : Option Rs := (some ((.inr "java/lang/IllegalStateException", σ) : Rs))
set_option maxRecDepth 100000 in
set_option maxHeartbeats 4000000 in
theorem gb_G_begin_40 {Γ : GX} (K : Cx Γ "TapirGroup" prog_1_method_2_code 4 rm_G_begin) (S : Std Γ (some .int)) (T : Tb Γ []) (hI : y_G_begin.name = "<init>" → Ini Γ) (σ : Sg)  : G Γ mkR 0 0 40 [] [] σ (b_G_begin_40 σ ) := by
  unfold b_G_begin_40
  exact g_throw (pc := 40) K S T tw_G_48_50_52 (fun _ h => nomatch h) d_G_begin_40 d_G_begin_43 d_G_begin_44 d_G_begin_46 d_G_begin_49 (by decide) (by decide) (by decide) (by decide) rfl
def f_G_begin (σ : Sg) (a0 : Nat) (x1 : Int32) : Option Rs := ((f_G_isClient σ x1).bind (fun v1 => (if v1 = 0 then (some ((.inr "java/lang/IllegalArgumentException", σ) : Rs)) else (if a0 < σ.1 ∧ kd a0 = 3 then rc (g_r σ a0 1) none (fun b2 => (if (b2 < σ.1 ∧ kd b2 = 14) ∧ inb x1 (ln b2) = true then rc (g_r σ b2 x1.toNatClampNeg) none (fun b3 => (if b3 < σ.1 ∧ kd b3 = 0 then rc (g_r σ b3 0) (if a0 < σ.1 ∧ kd a0 = 3 then (if (g_i σ a0 3) < (60 : Int32) then (if a0 < σ.1 ∧ kd a0 = 3 then (if a0 < σ.1 ∧ kd a0 = 3 then (wi (s_i σ a0 3 ((g_i σ a0 3) + (1 : Int32))) (fun s5 => (if kd s5.1 = 2 ∧ s5.1 < SCR then (wi (s_n s5) (fun s6 => (if a0 < s6.1 ∧ kd a0 = 3 then ((f_T_init s6 s5.1 (g_i s6 a0 3)).bind (fun s7 => (if a0 < s7.1 ∧ kd a0 = 3 then rc (g_r s7 a0 2) none (fun b8 => (if a0 < s7.1 ∧ kd a0 = 3 then (if ((b8 < s7.1 ∧ kd b8 = 15) ∧ inb (g_i s7 a0 3) (ln b8) = true) ∧ s5.1 < s7.1 ∧ kd s5.1 = 2 then (wi (s_r s7 b8 (g_i s7 a0 3).toNatClampNeg (some s5.1)) (fun s9 => (if b3 < s9.1 ∧ kd b3 = 0 then (f_C_take s9 b3 s5.1).bind (fun s10 => (if a0 < s10.1 ∧ kd a0 = 3 then (some ((.inl (some (.int (g_i s10 a0 3))), s10) : Rs)) else none)) else none))) else none) else none)) else none))) else none))) else none))) else none) else none) else (b_G_begin_40 σ)) else none) (fun b4 => (b_G_begin_40 σ)) else none)) else none)) else none))))
set_option maxRecDepth 100000 in
set_option maxHeartbeats 4000000 in
theorem k_G_begin (l : Launch) (hl : l.stackTraces = false) (σ : Sg) (a0 : Nat) (x1 : Int32) (r : Rs) (h : f_G_begin σ a0 x1 = some r) : Con l y_G_begin (.code y_G_begin prog_1_method_2_code 4 (some .int)) rm_G_begin [.ref a0, .int x1] σ (mkR r) := by
  refine Con.of (mk := mkR) (o := f_G_begin σ a0 x1) (z := r) (L0 := [(0, .ref a0), (1, .int x1)]) (bytes := prog_1_method_2_code) (maxL := 4) (ret := (some .int)) (hh := []) hl (by decide +kernel) (Or.inl ⟨rfl, rfl⟩) (by simp [Value.category]) (Nat.le_of_ble_eq_true rfl) rfl (fun Γ K S T hI => ?_) h rfl
  unfold f_G_begin
  refine g_iload_n (pc := 0) (j := 1) K d_G_begin_0 rfl ?_
  refine g_callS (pc := 1) (vs := [.int x1]) (st := []) (mkc := mkI σ) K cn_G_isClient (fun l hl r hr => k_G_isClient l hl _ _ r hr) mw_112 mw_113 ⟨by decide, by decide, by decide, by decide⟩ d_G_begin_1 rfl rfl (Nat.le_of_ble_eq_true rfl) (fun v1 _ => ?_)
  change G Γ mkR 0 0 4 [(0, .ref a0), (1, .int x1)] [.int v1] σ _
  refine g_if_ne (pc := 4) (tgt := 17) K d_G_begin_4 (by decide) (fun _ => ?_) (fun _ => ?_)
  · refine g_aload_n (pc := 17) (j := 0) K d_G_begin_17 rfl ?_
    refine g_getR (pc := 18) K fl_G_17 d_G_begin_18 (fun _ => ?_) (fun b2 _ => ?_)
    · exact g_none
    · refine g_iload_n (pc := 21) (j := 1) K d_G_begin_21 rfl ?_
      refine g_aald (pc := 22) (kq := 14) (t0 := 4) K (by decide) (fun _ => rfl) d_G_begin_22 (fun _ => ?_) (fun b3 _ => ?_)
      · exact g_none
      · refine g_astore_n (pc := 23) (L' := [(2, .ref b3), (0, .ref a0), (1, .int x1)]) K d_G_begin_23 (by decide) rfl ?_
        refine g_aload_n (pc := 24) (j := 0) K d_G_begin_24 rfl ?_
        refine g_getR (pc := 25) K fl_G_44 d_G_begin_25 (fun _ => ?_) (fun b4 _ => ?_)
        · refine g_ifnonnullN (pc := 28) K d_G_begin_28 ?_
          refine g_aload_n (pc := 31) (j := 1) K d_G_begin_31 rfl ?_
          refine g_getI (pc := 32) K fl_G_27 d_G_begin_32 ?_
          refine g_bipush (pc := 35) (v := 60) K d_G_begin_35 (by decide) ?_
          refine g_icmp_lt (pc := 37) (tgt := 50) K d_G_begin_37 (by decide) (fun _ => ?_) (fun _ => ?_)
          · refine g_aload_n (pc := 50) (j := 1) K d_G_begin_50 rfl ?_
            refine g_dup (pc := 51) K d_G_begin_51 rfl ?_
            refine g_getI (pc := 52) K fl_G_27 d_G_begin_52 ?_
            refine g_iconst (pc := 55) (v := 1) K d_G_begin_55 (by decide) ?_
            refine g_iadd (pc := 56) K d_G_begin_56 ?_
            refine g_putI (pc := 57) K fl_G_27 d_G_begin_57 ?_
            refine g_wi (fun s5 _ => ?_)
            refine g_new (pc := 60) (N := 7) K cf_2 mw_28 mw_261 mw_11 d_G_begin_60 (by decide) (by decide) ?_
            refine g_wi (fun s6 _ => ?_)
            refine g_dup (pc := 63) K d_G_begin_63 rfl ?_
            refine g_aload_n (pc := 64) (j := 1) K d_G_begin_64 rfl ?_
            refine g_getI (pc := 65) K fl_G_27 d_G_begin_65 ?_
            refine g_callI (pc := 68) (a := s5.1) (vs := [.int (g_i s6 a0 3)]) (st := [.ref s5.1]) (mkc := mkV) K cn_T_init rfl (fun l hl r hr => k_T_init l hl _ _ _ r hr) mw_262 mw_263 ⟨by decide, by decide, by decide, by decide⟩ d_G_begin_68 rfl rfl (Nat.le_of_ble_eq_true rfl) (fun s7 _ => ?_)
            change G Γ mkR 4 25 71 [(2, .ref b3), (0, .ref a0), (1, .int x1)] [.ref s5.1] s7 _
            refine g_astore_n (pc := 71) (L' := [(3, .ref s5.1), (2, .ref b3), (0, .ref a0), (1, .int x1)]) K d_G_begin_71 (by decide) rfl ?_
            refine g_aload_n (pc := 72) (j := 2) K d_G_begin_72 rfl ?_
            refine g_getR (pc := 73) K fl_G_23 d_G_begin_73 (fun _ => ?_) (fun b8 _ => ?_)
            · exact g_none
            · refine g_aload_n (pc := 76) (j := 2) K d_G_begin_76 rfl ?_
              refine g_getI (pc := 77) K fl_G_27 d_G_begin_77 ?_
              refine g_aload_n (pc := 80) (j := 0) K d_G_begin_80 rfl ?_
              refine g_aast (pc := 81) (kq := 15) (t0 := 5) (cb := 2) K (by decide) (by decide) (fun _ => rfl) rfl d_G_begin_81 ?_
              refine g_wi (fun s9 _ => ?_)
              refine g_aload_n (pc := 82) (j := 1) K d_G_begin_82 rfl ?_
              refine g_aload_n (pc := 83) (j := 0) K d_G_begin_83 rfl ?_
              refine g_callV (pc := 84) (ci := 0) (a := b3) (vs := [.ref s5.1]) (st := []) (mkc := mkV) K rfl (by decide) cn_C_take (fun l hl r hr => k_C_take l hl _ _ _ r hr) mw_297 mw_298 mw_299 ⟨by decide, by decide, by decide, by decide⟩ d_G_begin_84 rfl rfl (Nat.le_of_ble_eq_true rfl) (fun s10 _ => ?_)
              change G Γ mkR 4 25 87 [(3, .ref s5.1), (2, .ref b3), (0, .ref a0), (1, .int x1)] [] s10 _
              refine g_aload_n (pc := 87) (j := 2) K d_G_begin_87 rfl ?_
              refine g_getI (pc := 88) K fl_G_27 d_G_begin_88 ?_
              exact g_iret (pc := 91) K S rfl d_G_begin_91 (by decide) (by decide) rfl
          · refine g_sub (L' := []) [] rfl ?_
            exact gb_G_begin_40 K S T hI σ
        · refine g_ifnonnull (pc := 28) (tgt := 40) K d_G_begin_28 (by decide) ?_
          refine g_sub (L' := []) [] rfl ?_
          exact gb_G_begin_40 K S T hI σ
  · exact g_throw (pc := 7) K S T tw_G_37_39_41 (fun _ h => nomatch h) d_G_begin_7 d_G_begin_10 d_G_begin_11 d_G_begin_13 d_G_begin_16 (by decide) (by decide) (by decide) (by decide) rfl
-- TapirGroupLaw.begin(LTapirGroup;I[J)I
def y_L_begin : MethodName := ⟨"TapirGroupLaw", "begin", "(LTapirGroup;I[J)I"⟩
abbrev rm_L_begin : Room := { frames := 7, cells := 4, slots := 25, locals := 113 }
theorem d_L_begin_0 : decode method_3_code 0 = .ok (.aload_n 2, 1) := by decide +kernel
theorem d_L_begin_1 : decode method_3_code 1 = .ok (.iconst 0, 1) := by decide +kernel
theorem d_L_begin_2 : decode method_3_code 2 = .ok (.aload_n 0, 1) := by decide +kernel
theorem d_L_begin_3 : decode method_3_code 3 = .ok (.iload_n 1, 1) := by decide +kernel
theorem d_L_begin_4 : decode method_3_code 4 = .ok (.invokevirtual 7, 3) := by decide +kernel
theorem d_L_begin_7 : decode method_3_code 7 = .ok (.i2l, 1) := by decide +kernel
theorem d_L_begin_8 : decode method_3_code 8 = .ok (.lastore, 1) := by decide +kernel
theorem d_L_begin_9 : decode method_3_code 9 = .ok (.goto 9, 3) := by decide +kernel
theorem d_L_begin_12 : decode method_3_code 12 = .ok (.astore_n 3, 1) := by decide +kernel
theorem d_L_begin_13 : decode method_3_code 13 = .ok (.iconst 1, 1) := by decide +kernel
theorem d_L_begin_14 : decode method_3_code 14 = .ok (.ireturn, 1) := by decide +kernel
theorem d_L_begin_15 : decode method_3_code 15 = .ok (.astore_n 3, 1) := by decide +kernel
theorem d_L_begin_16 : decode method_3_code 16 = .ok (.iconst 2, 1) := by decide +kernel
theorem d_L_begin_17 : decode method_3_code 17 = .ok (.ireturn, 1) := by decide +kernel
theorem d_L_begin_18 : decode method_3_code 18 = .ok (.iconst 0, 1) := by decide +kernel
theorem d_L_begin_19 : decode method_3_code 19 = .ok (.ireturn, 1) := by decide +kernel
theorem cn_L_begin : CN y_L_begin (.codeWith y_L_begin method_3_code 4 (some .int) [(0, 9, 12, 13), (0, 9, 15, 15)]) method_3_code 4 (some .int) [(0, 9, 12, 13), (0, 9, 15, 15)] 3 := ⟨Or.inr rfl, mw_169, mw_0, ⟨by decide +kernel, by decide +kernel⟩, by decide +kernel⟩
def f_L_begin (σ : Sg) (a0 : Nat) (x1 : Int32) (a2 : Nat) : Option (Int32 × Sg) := (if a0 < σ.1 ∧ kd a0 = 3 then (f_G_begin σ a0 x1).bind (fun w1 => (onI w1.1 (fun x2 => (if (a2 < w1.2.1 ∧ kd a2 = 12) ∧ inb (0 : Int32) (ln a2) = true then (wi (s_l w1.2 a2 (0 : Int32).toNatClampNeg ((x2).toInt64)) (fun s3 => (some ((0 : Int32), s3)))) else none)) (fun E => (if E = "java/lang/IllegalArgumentException" then (some ((1 : Int32), w1.2)) else (if E = "java/lang/IllegalStateException" then (some ((2 : Int32), w1.2)) else none))))) else none)
set_option maxRecDepth 100000 in
set_option maxHeartbeats 4000000 in
theorem k_L_begin (l : Launch) (hl : l.stackTraces = false) (σ : Sg) (a0 : Nat) (x1 : Int32) (a2 : Nat) (r : (Int32 × Sg)) (h : f_L_begin σ a0 x1 a2 = some r) : Con l y_L_begin (.codeWith y_L_begin method_3_code 4 (some .int) [(0, 9, 12, 13), (0, 9, 15, 15)]) rm_L_begin [.ref a0, .int x1, .ref a2] σ (mkW r) := by
  refine Con.of (mk := mkW) (o := f_L_begin σ a0 x1 a2) (z := r) (L0 := [(0, .ref a0), (1, .int x1), (2, .ref a2)]) (bytes := method_3_code) (maxL := 4) (ret := (some .int)) (hh := [(0, 9, 12, 13), (0, 9, 15, 15)]) hl (by decide +kernel) (Or.inr rfl) (by simp [Value.category]) (Nat.le_of_ble_eq_true rfl) rfl (fun Γ K S T hI => ?_) h rfl
  unfold f_L_begin
  refine g_aload_n (pc := 0) (j := 2) K d_L_begin_0 rfl ?_
  refine g_iconst (pc := 1) (v := 0) K d_L_begin_1 (by decide) ?_
  refine g_aload_n (pc := 2) (j := 0) K d_L_begin_2 rfl ?_
  refine g_iload_n (pc := 3) (j := 1) K d_L_begin_3 rfl ?_
  refine g_callV (pc := 4) (ci := 3) (a := a0) (vs := [.int x1]) (st := [.int (0 : Int32), .ref a2]) (mkc := mkR) K rfl (by decide) cn_G_begin (fun l hl r hr => k_G_begin l hl _ _ _ r hr) mw_172 mw_173 mw_174 ⟨by decide, by decide, by decide, by decide⟩ d_L_begin_4 rfl rfl (Nat.le_of_ble_eq_true rfl) (fun w1 _ => ?_)
  refine g_onI (fun x2 => ?_) (fun E => ?_)
  · refine g_i2l (pc := 7) K d_L_begin_7 ?_
    refine g_last (pc := 8) K d_L_begin_8 ?_
    refine g_wi (fun s3 _ => ?_)
    refine g_goto (pc := 9) (tgt := 18) K d_L_begin_9 (by decide) ?_
    refine g_iconst (pc := 18) (v := 0) K d_L_begin_18 (by decide) ?_
    exact g_iret (pc := 19) K S rfl d_L_begin_19 (by decide) (by decide) rfl
  · refine gt_ite (fun h => ?_) (fun _ => ?_)
    · subst h
      refine g_catch1 (L' := [(0, .ref a0), (1, .int x1), (2, .ref a2)]) K T [] (0, 9, 12, 13) [(0, 9, 15, 15)] rfl (fun _ h => nomatch h) (by decide) (by decide) mw_170 mw_177 (by decide) d_L_begin_12 rfl ?_
      refine g_iconst (pc := 13) (v := 1) K d_L_begin_13 (by decide) ?_
      exact g_iret (pc := 14) K S rfl d_L_begin_14 (by decide) (by decide) rfl
    refine gt_ite (fun h => ?_) (fun _ => ?_)
    · subst h
      refine g_catch1 (L' := [(0, .ref a0), (1, .int x1), (2, .ref a2)]) K T [(0, 9, 12, 13)] (0, 9, 15, 15) [] rfl (by intro z hz; rcases List.mem_cons.mp hz with rfl | hz; exact ⟨by decide, by decide, "java/lang/IllegalArgumentException", mw_170, by decide +kernel⟩; cases hz) (by decide) (by decide) mw_171 mw_246 (by decide) d_L_begin_15 rfl ?_
      refine g_iconst (pc := 16) (v := 2) K d_L_begin_16 (by decide) ?_
      exact g_iret (pc := 17) K S rfl d_L_begin_17 (by decide) (by decide) rfl
    exact gt_none
-- TapirGroup$Transaction.hasWritten(I)Z
def y_T_hasWritten : MethodName := ⟨"TapirGroup$Transaction", "hasWritten", "(I)Z"⟩
abbrev rm_T_hasWritten : Room := { frames := 0, cells := 0, slots := 0, locals := 0 }
theorem d_T_hasWritten_0 : decode prog_4_method_3_code 0 = .ok (.aload_n 0, 1) := by decide +kernel
theorem d_T_hasWritten_1 : decode prog_4_method_3_code 1 = .ok (.getfield 18, 3) := by decide +kernel
theorem d_T_hasWritten_4 : decode prog_4_method_3_code 4 = .ok (.iload_n 1, 1) := by decide +kernel
theorem d_T_hasWritten_5 : decode prog_4_method_3_code 5 = .ok (.ishr, 1) := by decide +kernel
theorem d_T_hasWritten_6 : decode prog_4_method_3_code 6 = .ok (.iconst 1, 1) := by decide +kernel
theorem d_T_hasWritten_7 : decode prog_4_method_3_code 7 = .ok (.iand, 1) := by decide +kernel
theorem d_T_hasWritten_8 : decode prog_4_method_3_code 8 = .ok (.ifCond .eq 7, 3) := by decide +kernel
theorem d_T_hasWritten_11 : decode prog_4_method_3_code 11 = .ok (.iconst 1, 1) := by decide +kernel
theorem d_T_hasWritten_12 : decode prog_4_method_3_code 12 = .ok (.goto 4, 3) := by decide +kernel
theorem d_T_hasWritten_15 : decode prog_4_method_3_code 15 = .ok (.iconst 0, 1) := by decide +kernel
theorem d_T_hasWritten_16 : decode prog_4_method_3_code 16 = .ok (.ireturn, 1) := by decide +kernel
theorem cn_T_hasWritten : CN y_T_hasWritten (.code y_T_hasWritten prog_4_method_3_code 2 (some .boolean)) prog_4_method_3_code 2 (some .boolean) [] 1 := ⟨Or.inl ⟨rfl, rfl⟩, mw_319, mw_11, ⟨by decide +kernel, by decide +kernel⟩, by decide +kernel⟩
def b_T_hasWritten_16 (σ : Sg)  (t0 : Int32) : Option Int32 := (if t0 = 0 ∨ t0 = 1 then some t0 else none)
set_option maxRecDepth 100000 in
set_option maxHeartbeats 4000000 in
theorem gb_T_hasWritten_16 {Γ : GX} (K : Cx Γ "TapirGroup$Transaction" prog_4_method_3_code 2 rm_T_hasWritten) (S : Std Γ (some .boolean)) (T : Tb Γ []) (hI : y_T_hasWritten.name = "<init>" → Ini Γ) (σ : Sg) (t0 : Int32) : G Γ (mkI σ) 0 0 16 [] [.int t0] σ (b_T_hasWritten_16 σ t0) := by
  unfold b_T_hasWritten_16
  exact g_zret (pc := 16) K S d_T_hasWritten_16 (by decide) (by decide) rfl
def f_T_hasWritten (σ : Sg) (a0 : Nat) (x1 : Int32) : Option Int32 := (if a0 < σ.1 ∧ kd a0 = 2 then (if (((g_i σ a0 3) >>> (x1 &&& 31)) &&& (1 : Int32)) = 0 then (b_T_hasWritten_16 σ (0 : Int32)) else (b_T_hasWritten_16 σ (1 : Int32))) else none)
set_option maxRecDepth 100000 in
set_option maxHeartbeats 4000000 in
theorem k_T_hasWritten (l : Launch) (hl : l.stackTraces = false) (σ : Sg) (a0 : Nat) (x1 : Int32) (r : Int32) (h : f_T_hasWritten σ a0 x1 = some r) : Con l y_T_hasWritten (.code y_T_hasWritten prog_4_method_3_code 2 (some .boolean)) rm_T_hasWritten [.ref a0, .int x1] σ ((mkI σ) r) := by
  refine Con.of (mk := (mkI σ)) (o := f_T_hasWritten σ a0 x1) (z := r) (L0 := [(0, .ref a0), (1, .int x1)]) (bytes := prog_4_method_3_code) (maxL := 2) (ret := (some .boolean)) (hh := []) hl (by decide +kernel) (Or.inl ⟨rfl, rfl⟩) (by simp [Value.category]) (Nat.le_of_ble_eq_true rfl) rfl (fun Γ K S T hI => ?_) h rfl
  unfold f_T_hasWritten
  refine g_aload_n (pc := 0) (j := 0) K d_T_hasWritten_0 rfl ?_
  refine g_getI (pc := 1) K fl_T_18 d_T_hasWritten_1 ?_
  refine g_iload_n (pc := 4) (j := 1) K d_T_hasWritten_4 rfl ?_
  refine g_ishr (pc := 5) K d_T_hasWritten_5 ?_
  refine g_iconst (pc := 6) (v := 1) K d_T_hasWritten_6 (by decide) ?_
  refine g_iand (pc := 7) K d_T_hasWritten_7 ?_
  refine g_if_eq (pc := 8) (tgt := 15) K d_T_hasWritten_8 (by decide) (fun _ => ?_) (fun _ => ?_)
  · refine g_iconst (pc := 15) (v := 0) K d_T_hasWritten_15 (by decide) ?_
    refine g_sub (L' := []) [] rfl ?_
    exact gb_T_hasWritten_16 K S T hI σ (0 : Int32)
  · refine g_iconst (pc := 11) (v := 1) K d_T_hasWritten_11 (by decide) ?_
    refine g_goto (pc := 12) (tgt := 16) K d_T_hasWritten_12 (by decide) ?_
    refine g_sub (L' := []) [] rfl ?_
    exact gb_T_hasWritten_16 K S T hI σ (1 : Int32)
-- TapirGroup$Transaction.hasRead(I)Z
def y_T_hasRead : MethodName := ⟨"TapirGroup$Transaction", "hasRead", "(I)Z"⟩
abbrev rm_T_hasRead : Room := { frames := 0, cells := 0, slots := 0, locals := 0 }
theorem d_T_hasRead_0 : decode prog_4_method_2_code 0 = .ok (.aload_n 0, 1) := by decide +kernel
theorem d_T_hasRead_1 : decode prog_4_method_2_code 1 = .ok (.getfield 15, 3) := by decide +kernel
theorem d_T_hasRead_4 : decode prog_4_method_2_code 4 = .ok (.iload_n 1, 1) := by decide +kernel
theorem d_T_hasRead_5 : decode prog_4_method_2_code 5 = .ok (.ishr, 1) := by decide +kernel
theorem d_T_hasRead_6 : decode prog_4_method_2_code 6 = .ok (.iconst 1, 1) := by decide +kernel
theorem d_T_hasRead_7 : decode prog_4_method_2_code 7 = .ok (.iand, 1) := by decide +kernel
theorem d_T_hasRead_8 : decode prog_4_method_2_code 8 = .ok (.ifCond .eq 7, 3) := by decide +kernel
theorem d_T_hasRead_11 : decode prog_4_method_2_code 11 = .ok (.iconst 1, 1) := by decide +kernel
theorem d_T_hasRead_12 : decode prog_4_method_2_code 12 = .ok (.goto 4, 3) := by decide +kernel
theorem d_T_hasRead_15 : decode prog_4_method_2_code 15 = .ok (.iconst 0, 1) := by decide +kernel
theorem d_T_hasRead_16 : decode prog_4_method_2_code 16 = .ok (.ireturn, 1) := by decide +kernel
theorem cn_T_hasRead : CN y_T_hasRead (.code y_T_hasRead prog_4_method_2_code 2 (some .boolean)) prog_4_method_2_code 2 (some .boolean) [] 1 := ⟨Or.inl ⟨rfl, rfl⟩, mw_323, mw_11, ⟨by decide +kernel, by decide +kernel⟩, by decide +kernel⟩
def b_T_hasRead_16 (σ : Sg)  (t0 : Int32) : Option Int32 := (if t0 = 0 ∨ t0 = 1 then some t0 else none)
set_option maxRecDepth 100000 in
set_option maxHeartbeats 4000000 in
theorem gb_T_hasRead_16 {Γ : GX} (K : Cx Γ "TapirGroup$Transaction" prog_4_method_2_code 2 rm_T_hasRead) (S : Std Γ (some .boolean)) (T : Tb Γ []) (hI : y_T_hasRead.name = "<init>" → Ini Γ) (σ : Sg) (t0 : Int32) : G Γ (mkI σ) 0 0 16 [] [.int t0] σ (b_T_hasRead_16 σ t0) := by
  unfold b_T_hasRead_16
  exact g_zret (pc := 16) K S d_T_hasRead_16 (by decide) (by decide) rfl
def f_T_hasRead (σ : Sg) (a0 : Nat) (x1 : Int32) : Option Int32 := (if a0 < σ.1 ∧ kd a0 = 2 then (if (((g_i σ a0 2) >>> (x1 &&& 31)) &&& (1 : Int32)) = 0 then (b_T_hasRead_16 σ (0 : Int32)) else (b_T_hasRead_16 σ (1 : Int32))) else none)
set_option maxRecDepth 100000 in
set_option maxHeartbeats 4000000 in
theorem k_T_hasRead (l : Launch) (hl : l.stackTraces = false) (σ : Sg) (a0 : Nat) (x1 : Int32) (r : Int32) (h : f_T_hasRead σ a0 x1 = some r) : Con l y_T_hasRead (.code y_T_hasRead prog_4_method_2_code 2 (some .boolean)) rm_T_hasRead [.ref a0, .int x1] σ ((mkI σ) r) := by
  refine Con.of (mk := (mkI σ)) (o := f_T_hasRead σ a0 x1) (z := r) (L0 := [(0, .ref a0), (1, .int x1)]) (bytes := prog_4_method_2_code) (maxL := 2) (ret := (some .boolean)) (hh := []) hl (by decide +kernel) (Or.inl ⟨rfl, rfl⟩) (by simp [Value.category]) (Nat.le_of_ble_eq_true rfl) rfl (fun Γ K S T hI => ?_) h rfl
  unfold f_T_hasRead
  refine g_aload_n (pc := 0) (j := 0) K d_T_hasRead_0 rfl ?_
  refine g_getI (pc := 1) K fl_T_15 d_T_hasRead_1 ?_
  refine g_iload_n (pc := 4) (j := 1) K d_T_hasRead_4 rfl ?_
  refine g_ishr (pc := 5) K d_T_hasRead_5 ?_
  refine g_iconst (pc := 6) (v := 1) K d_T_hasRead_6 (by decide) ?_
  refine g_iand (pc := 7) K d_T_hasRead_7 ?_
  refine g_if_eq (pc := 8) (tgt := 15) K d_T_hasRead_8 (by decide) (fun _ => ?_) (fun _ => ?_)
  · refine g_iconst (pc := 15) (v := 0) K d_T_hasRead_15 (by decide) ?_
    refine g_sub (L' := []) [] rfl ?_
    exact gb_T_hasRead_16 K S T hI σ (0 : Int32)
  · refine g_iconst (pc := 11) (v := 1) K d_T_hasRead_11 (by decide) ?_
    refine g_goto (pc := 12) (tgt := 16) K d_T_hasRead_12 (by decide) ?_
    refine g_sub (L' := []) [] rfl ?_
    exact gb_T_hasRead_16 K S T hI σ (1 : Int32)
