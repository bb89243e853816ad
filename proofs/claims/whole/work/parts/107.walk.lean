-- TapirGroup$Client.allAnsweredAlike()Z
def y_C_allAnsweredAlike : MethodName := ⟨"TapirGroup$Client", "allAnsweredAlike", "()Z"⟩
abbrev rm_C_allAnsweredAlike : Room := { frames := 1, cells := 0, slots := 0, locals := 23 }
theorem d_C_allAnsweredAlike_0 : decode prog_2_method_13_code 0 = .ok (.aload_n 0, 1) := by decide +kernel
theorem d_C_allAnsweredAlike_1 : decode prog_2_method_13_code 1 = .ok (.getfield 28, 3) := by decide +kernel
theorem d_C_allAnsweredAlike_4 : decode prog_2_method_13_code 4 = .ok (.iconst 0, 1) := by decide +kernel
theorem d_C_allAnsweredAlike_5 : decode prog_2_method_13_code 5 = .ok (.iaload, 1) := by decide +kernel
theorem d_C_allAnsweredAlike_6 : decode prog_2_method_13_code 6 = .ok (.iconst (-1), 1) := by decide +kernel
theorem d_C_allAnsweredAlike_7 : decode prog_2_method_13_code 7 = .ok (.if_icmp .eq 21, 3) := by decide +kernel
theorem d_C_allAnsweredAlike_10 : decode prog_2_method_13_code 10 = .ok (.aload_n 0, 1) := by decide +kernel
theorem d_C_allAnsweredAlike_11 : decode prog_2_method_13_code 11 = .ok (.aload_n 0, 1) := by decide +kernel
theorem d_C_allAnsweredAlike_12 : decode prog_2_method_13_code 12 = .ok (.getfield 28, 3) := by decide +kernel
theorem d_C_allAnsweredAlike_15 : decode prog_2_method_13_code 15 = .ok (.iconst 0, 1) := by decide +kernel
theorem d_C_allAnsweredAlike_16 : decode prog_2_method_13_code 16 = .ok (.iaload, 1) := by decide +kernel
theorem d_C_allAnsweredAlike_17 : decode prog_2_method_13_code 17 = .ok (.invokevirtual 47, 3) := by decide +kernel
theorem d_C_allAnsweredAlike_20 : decode prog_2_method_13_code 20 = .ok (.iconst 3, 1) := by decide +kernel
theorem d_C_allAnsweredAlike_21 : decode prog_2_method_13_code 21 = .ok (.if_icmp .ne 7, 3) := by decide +kernel
theorem d_C_allAnsweredAlike_24 : decode prog_2_method_13_code 24 = .ok (.iconst 1, 1) := by decide +kernel
theorem d_C_allAnsweredAlike_25 : decode prog_2_method_13_code 25 = .ok (.goto 4, 3) := by decide +kernel
theorem d_C_allAnsweredAlike_28 : decode prog_2_method_13_code 28 = .ok (.iconst 0, 1) := by decide +kernel
theorem d_C_allAnsweredAlike_29 : decode prog_2_method_13_code 29 = .ok (.ireturn, 1) := by decide +kernel
theorem cn_C_allAnsweredAlike : CN y_C_allAnsweredAlike (.code y_C_allAnsweredAlike prog_2_method_13_code 1 (some .boolean)) prog_2_method_13_code 1 (some .boolean) [] 0 := ⟨Or.inl ⟨rfl, rfl⟩, mw_463, mw_4, ⟨by decide +kernel, by decide +kernel⟩, by decide +kernel⟩
def b_C_allAnsweredAlike_29 (σ : Sg)  (t0 : Int32) : Option Int32 := (if t0 = 0 ∨ t0 = 1 then some t0 else none)
set_option maxRecDepth 100000 in
set_option maxHeartbeats 4000000 in
theorem gb_C_allAnsweredAlike_29 {Γ : GX} (K : Cx Γ "TapirGroup$Client" prog_2_method_13_code 1 rm_C_allAnsweredAlike) (S : Std Γ (some .boolean)) (T : Tb Γ []) (hI : y_C_allAnsweredAlike.name = "<init>" → Ini Γ) (σ : Sg) (t0 : Int32) : G Γ (mkI σ) 0 0 29 [] [.int t0] σ (b_C_allAnsweredAlike_29 σ t0) := by
  unfold b_C_allAnsweredAlike_29
  exact g_zret (pc := 29) K S d_C_allAnsweredAlike_29 (by decide) (by decide) rfl
def b_C_allAnsweredAlike_28 (σ : Sg)   : Option Int32 := (b_C_allAnsweredAlike_29 σ (0 : Int32))
set_option maxRecDepth 100000 in
set_option maxHeartbeats 4000000 in
theorem gb_C_allAnsweredAlike_28 {Γ : GX} (K : Cx Γ "TapirGroup$Client" prog_2_method_13_code 1 rm_C_allAnsweredAlike) (S : Std Γ (some .boolean)) (T : Tb Γ []) (hI : y_C_allAnsweredAlike.name = "<init>" → Ini Γ) (σ : Sg)  : G Γ (mkI σ) 0 0 28 [] [] σ (b_C_allAnsweredAlike_28 σ ) := by
  unfold b_C_allAnsweredAlike_28
  refine g_iconst (pc := 28) (v := 0) K d_C_allAnsweredAlike_28 (by decide) ?_
  exact gb_C_allAnsweredAlike_29 K S T hI σ (0 : Int32)
def f_C_allAnsweredAlike (σ : Sg) (a0 : Nat) : Option Int32 := (if a0 < σ.1 ∧ kd a0 = 0 then rc (g_r σ a0 5) none (fun b1 => (if (b1 < σ.1 ∧ kd b1 = 10) ∧ inb (0 : Int32) (ln b1) = true then (if (g_i σ b1 (0 : Int32).toNatClampNeg) = (-1 : Int32) then (b_C_allAnsweredAlike_28 σ) else (if a0 < σ.1 ∧ kd a0 = 0 then rc (g_r σ a0 5) none (fun b2 => (if (b2 < σ.1 ∧ kd b2 = 10) ∧ inb (0 : Int32) (ln b2) = true then (if a0 < σ.1 ∧ kd a0 = 0 then (f_C_answersWith σ a0 (g_i σ b2 (0 : Int32).toNatClampNeg)).bind (fun v3 => (if v3 = (3 : Int32) then (b_C_allAnsweredAlike_29 σ (1 : Int32)) else (b_C_allAnsweredAlike_28 σ))) else none) else none)) else none)) else none)) else none)
set_option maxRecDepth 100000 in
set_option maxHeartbeats 4000000 in
theorem k_C_allAnsweredAlike (l : Launch) (hl : l.stackTraces = false) (σ : Sg) (a0 : Nat) (r : Int32) (h : f_C_allAnsweredAlike σ a0 = some r) : Con l y_C_allAnsweredAlike (.code y_C_allAnsweredAlike prog_2_method_13_code 1 (some .boolean)) rm_C_allAnsweredAlike [.ref a0] σ ((mkI σ) r) := by
  refine Con.of (mk := (mkI σ)) (o := f_C_allAnsweredAlike σ a0) (z := r) (L0 := [(0, .ref a0)]) (bytes := prog_2_method_13_code) (maxL := 1) (ret := (some .boolean)) (hh := []) hl (by decide +kernel) (Or.inl ⟨rfl, rfl⟩) (by simp [Value.category]) (Nat.le_of_ble_eq_true rfl) rfl (fun Γ K S T hI => ?_) h rfl
  unfold f_C_allAnsweredAlike
  refine g_aload_n (pc := 0) (j := 0) K d_C_allAnsweredAlike_0 rfl ?_
  refine g_getR (pc := 1) K fl_C_28 d_C_allAnsweredAlike_1 (fun _ => ?_) (fun b1 _ => ?_)
  · exact g_none
  · refine g_iconst (pc := 4) (v := 0) K d_C_allAnsweredAlike_4 (by decide) ?_
    refine g_iald (pc := 5) K d_C_allAnsweredAlike_5 ?_
    refine g_iconst (pc := 6) (v := -1) K d_C_allAnsweredAlike_6 (by decide) ?_
    refine g_icmp_eq (pc := 7) (tgt := 28) K d_C_allAnsweredAlike_7 (by decide) (fun _ => ?_) (fun _ => ?_)
    · refine g_sub (L' := []) [] rfl ?_
      exact gb_C_allAnsweredAlike_28 K S T hI σ
    · refine g_aload_n (pc := 10) (j := 0) K d_C_allAnsweredAlike_10 rfl ?_
      refine g_aload_n (pc := 11) (j := 0) K d_C_allAnsweredAlike_11 rfl ?_
      refine g_getR (pc := 12) K fl_C_28 d_C_allAnsweredAlike_12 (fun _ => ?_) (fun b2 _ => ?_)
      · exact g_none
      · refine g_iconst (pc := 15) (v := 0) K d_C_allAnsweredAlike_15 (by decide) ?_
        refine g_iald (pc := 16) K d_C_allAnsweredAlike_16 ?_
        refine g_callV (pc := 17) (ci := 0) (a := a0) (vs := [.int (g_i σ b2 (0 : Int32).toNatClampNeg)]) (st := []) (mkc := mkI σ) K rfl (by decide) cn_C_answersWith (fun l hl r hr => k_C_answersWith l hl _ _ _ r hr) mw_133 mw_134 mw_135 ⟨by decide, by decide, by decide, by decide⟩ d_C_allAnsweredAlike_17 rfl rfl (Nat.le_of_ble_eq_true rfl) (fun v3 _ => ?_)
        change G Γ (mkI σ) 0 0 20 [(0, .ref a0)] [.int v3] σ _
        refine g_iconst (pc := 20) (v := 3) K d_C_allAnsweredAlike_20 (by decide) ?_
        refine g_icmp_ne (pc := 21) (tgt := 28) K d_C_allAnsweredAlike_21 (by decide) (fun _ => ?_) (fun _ => ?_)
        · refine g_sub (L' := []) [] rfl ?_
          exact gb_C_allAnsweredAlike_28 K S T hI σ
        · refine g_iconst (pc := 24) (v := 1) K d_C_allAnsweredAlike_24 (by decide) ?_
          refine g_goto (pc := 25) (tgt := 29) K d_C_allAnsweredAlike_25 (by decide) ?_
          refine g_sub (L' := []) [] rfl ?_
          exact gb_C_allAnsweredAlike_29 K S T hI σ (1 : Int32)
-- TapirGroup$Client.settle(I)V
def y_C_settle : MethodName := ⟨"TapirGroup$Client", "settle", "(I)V"⟩
abbrev rm_C_settle : Room := { frames := 0, cells := 0, slots := 0, locals := 0 }
theorem d_C_settle_0 : decode prog_2_method_8_code 0 = .ok (.aload_n 0, 1) := by decide +kernel
theorem d_C_settle_1 : decode prog_2_method_8_code 1 = .ok (.iload_n 1, 1) := by decide +kernel
theorem d_C_settle_2 : decode prog_2_method_8_code 2 = .ok (.ifCond .ne 7, 3) := by decide +kernel
theorem d_C_settle_5 : decode prog_2_method_8_code 5 = .ok (.iconst 4, 1) := by decide +kernel
theorem d_C_settle_6 : decode prog_2_method_8_code 6 = .ok (.goto 4, 3) := by decide +kernel
theorem d_C_settle_9 : decode prog_2_method_8_code 9 = .ok (.iconst 5, 1) := by decide +kernel
theorem d_C_settle_10 : decode prog_2_method_8_code 10 = .ok (.putfield 15, 3) := by decide +kernel
theorem d_C_settle_13 : decode prog_2_method_8_code 13 = .ok (.return_, 1) := by decide +kernel
theorem cn_C_settle : CN y_C_settle (.code y_C_settle prog_2_method_8_code 2 none) prog_2_method_8_code 2 none [] 1 := ⟨Or.inl ⟨rfl, rfl⟩, mw_467, mw_4, ⟨by decide +kernel, by decide +kernel⟩, by decide +kernel⟩
def b_C_settle_10  (σ : Sg) (t0 : Nat) (t1 : Int32) : Option Sg := (if t0 < σ.1 ∧ kd t0 = 0 then (wi (s_i σ t0 1 t1) (fun s1 => (some s1))) else none)
set_option maxRecDepth 100000 in
set_option maxHeartbeats 4000000 in
theorem gb_C_settle_10 {Γ : GX} (K : Cx Γ "TapirGroup$Client" prog_2_method_8_code 2 rm_C_settle) (S : Std Γ none) (T : Tb Γ []) (hI : y_C_settle.name = "<init>" → Ini Γ) (σ : Sg) (t0 : Nat) (t1 : Int32) : G Γ mkV 0 0 10 [] [.int t1, .ref t0] σ (b_C_settle_10 σ t0 t1) := by
  unfold b_C_settle_10
  refine g_putI (pc := 10) K fl_C_15 d_C_settle_10 ?_
  refine g_wi (fun s1 _ => ?_)
  exact g_vret (pc := 13) K S d_C_settle_13 (by decide) (by decide) rfl
def f_C_settle (σ : Sg) (a0 : Nat) (x1 : Int32) : Option Sg := (if x1 = 0 then (b_C_settle_10 σ a0 (4 : Int32)) else (b_C_settle_10 σ a0 (5 : Int32)))
set_option maxRecDepth 100000 in
set_option maxHeartbeats 4000000 in
theorem k_C_settle (l : Launch) (hl : l.stackTraces = false) (σ : Sg) (a0 : Nat) (x1 : Int32) (r : Sg) (h : f_C_settle σ a0 x1 = some r) : Con l y_C_settle (.code y_C_settle prog_2_method_8_code 2 none) rm_C_settle [.ref a0, .int x1] σ (mkV r) := by
  refine Con.of (mk := mkV) (o := f_C_settle σ a0 x1) (z := r) (L0 := [(0, .ref a0), (1, .int x1)]) (bytes := prog_2_method_8_code) (maxL := 2) (ret := none) (hh := []) hl (by decide +kernel) (Or.inl ⟨rfl, rfl⟩) (by simp [Value.category]) (Nat.le_of_ble_eq_true rfl) rfl (fun Γ K S T hI => ?_) h rfl
  unfold f_C_settle
  refine g_aload_n (pc := 0) (j := 0) K d_C_settle_0 rfl ?_
  refine g_iload_n (pc := 1) (j := 1) K d_C_settle_1 rfl ?_
  refine g_if_ne (pc := 2) (tgt := 9) K d_C_settle_2 (by decide) (fun _ => ?_) (fun _ => ?_)
  · refine g_iconst (pc := 9) (v := 5) K d_C_settle_9 (by decide) ?_
    refine g_sub (L' := []) [] rfl ?_
    exact gb_C_settle_10 K S T hI σ a0 (5 : Int32)
  · refine g_iconst (pc := 5) (v := 4) K d_C_settle_5 (by decide) ?_
    refine g_goto (pc := 6) (tgt := 10) K d_C_settle_6 (by decide) ?_
    refine g_sub (L' := []) [] rfl ?_
    exact gb_C_settle_10 K S T hI σ a0 (4 : Int32)
-- TapirGroup$Client.goSlow(I)V
def y_C_goSlow : MethodName := ⟨"TapirGroup$Client", "goSlow", "(I)V"⟩
abbrev rm_C_goSlow : Room := { frames := 0, cells := 0, slots := 0, locals := 0 }
theorem d_C_goSlow_0 : decode prog_2_method_7_code 0 = .ok (.aload_n 0, 1) := by decide +kernel
theorem d_C_goSlow_1 : decode prog_2_method_7_code 1 = .ok (.iconst 3, 1) := by decide +kernel
theorem d_C_goSlow_2 : decode prog_2_method_7_code 2 = .ok (.putfield 15, 3) := by decide +kernel
theorem d_C_goSlow_5 : decode prog_2_method_7_code 5 = .ok (.aload_n 0, 1) := by decide +kernel
theorem d_C_goSlow_6 : decode prog_2_method_7_code 6 = .ok (.iload_n 1, 1) := by decide +kernel
theorem d_C_goSlow_7 : decode prog_2_method_7_code 7 = .ok (.putfield 22, 3) := by decide +kernel
theorem d_C_goSlow_10 : decode prog_2_method_7_code 10 = .ok (.return_, 1) := by decide +kernel
theorem cn_C_goSlow : CN y_C_goSlow (.code y_C_goSlow prog_2_method_7_code 2 none) prog_2_method_7_code 2 none [] 1 := ⟨Or.inl ⟨rfl, rfl⟩, mw_471, mw_4, ⟨by decide +kernel, by decide +kernel⟩, by decide +kernel⟩
def f_C_goSlow (σ : Sg) (a0 : Nat) (x1 : Int32) : Option Sg := (if a0 < σ.1 ∧ kd a0 = 0 then (wi (s_i σ a0 1 (3 : Int32)) (fun s1 => (if a0 < s1.1 ∧ kd a0 = 0 then (wi (s_i s1 a0 3 x1) (fun s2 => (some s2))) else none))) else none)
set_option maxRecDepth 100000 in
set_option maxHeartbeats 4000000 in
theorem k_C_goSlow (l : Launch) (hl : l.stackTraces = false) (σ : Sg) (a0 : Nat) (x1 : Int32) (r : Sg) (h : f_C_goSlow σ a0 x1 = some r) : Con l y_C_goSlow (.code y_C_goSlow prog_2_method_7_code 2 none) rm_C_goSlow [.ref a0, .int x1] σ (mkV r) := by
  refine Con.of (mk := mkV) (o := f_C_goSlow σ a0 x1) (z := r) (L0 := [(0, .ref a0), (1, .int x1)]) (bytes := prog_2_method_7_code) (maxL := 2) (ret := none) (hh := []) hl (by decide +kernel) (Or.inl ⟨rfl, rfl⟩) (by simp [Value.category]) (Nat.le_of_ble_eq_true rfl) rfl (fun Γ K S T hI => ?_) h rfl
  unfold f_C_goSlow
  refine g_aload_n (pc := 0) (j := 0) K d_C_goSlow_0 rfl ?_
  refine g_iconst (pc := 1) (v := 3) K d_C_goSlow_1 (by decide) ?_
  refine g_putI (pc := 2) K fl_C_15 d_C_goSlow_2 ?_
  refine g_wi (fun s1 _ => ?_)
  refine g_aload_n (pc := 5) (j := 0) K d_C_goSlow_5 rfl ?_
  refine g_iload_n (pc := 6) (j := 1) K d_C_goSlow_6 rfl ?_
  refine g_putI (pc := 7) K fl_C_22 d_C_goSlow_7 ?_
  refine g_wi (fun s2 _ => ?_)
  exact g_vret (pc := 10) K S d_C_goSlow_10 (by decide) (by decide) rfl
-- TapirGroup.decide(I)I
def y_G_decide : MethodName := ⟨"TapirGroup", "decide", "(I)I"⟩
abbrev rm_G_decide : Room := { frames := 6, cells := 1, slots := 6, locals := 90 }
theorem d_G_decide_0 : decode prog_1_method_7_code 0 = .ok (.iload_n 1, 1) := by decide +kernel
theorem d_G_decide_1 : decode prog_1_method_7_code 1 = .ok (.invokestatic 33, 3) := by decide +kernel
theorem d_G_decide_4 : decode prog_1_method_7_code 4 = .ok (.ifCond .ne 13, 3) := by decide +kernel
theorem d_G_decide_7 : decode prog_1_method_7_code 7 = .ok (.new 37, 3) := by decide +kernel
theorem d_G_decide_10 : decode prog_1_method_7_code 10 = .ok (.dup, 1) := by decide +kernel
theorem d_G_decide_11 : decode prog_1_method_7_code 11 = .ok (.ldc 39, 2) := by decide +kernel
theorem d_G_decide_13 : decode prog_1_method_7_code 13 = .ok (.invokespecial 41, 3) := by decide +kernel
theorem d_G_decide_16 : decode prog_1_method_7_code 16 = .ok (.athrow, 1) := by decide +kernel
theorem d_G_decide_17 : decode prog_1_method_7_code 17 = .ok (.aload_n 0, 1) := by decide +kernel
theorem d_G_decide_18 : decode prog_1_method_7_code 18 = .ok (.getfield 17, 3) := by decide +kernel
theorem d_G_decide_21 : decode prog_1_method_7_code 21 = .ok (.iload_n 1, 1) := by decide +kernel
theorem d_G_decide_22 : decode prog_1_method_7_code 22 = .ok (.aaload, 1) := by decide +kernel
theorem d_G_decide_23 : decode prog_1_method_7_code 23 = .ok (.astore_n 2, 1) := by decide +kernel
theorem d_G_decide_24 : decode prog_1_method_7_code 24 = .ok (.aload_n 2, 1) := by decide +kernel
theorem d_G_decide_25 : decode prog_1_method_7_code 25 = .ok (.getfield 68, 3) := by decide +kernel
theorem d_G_decide_28 : decode prog_1_method_7_code 28 = .ok (.iconst 2, 1) := by decide +kernel
theorem d_G_decide_29 : decode prog_1_method_7_code 29 = .ok (.if_icmp .ne 11, 3) := by decide +kernel
theorem d_G_decide_32 : decode prog_1_method_7_code 32 = .ok (.aload_n 2, 1) := by decide +kernel
theorem d_G_decide_33 : decode prog_1_method_7_code 33 = .ok (.invokevirtual 169, 3) := by decide +kernel
theorem d_G_decide_36 : decode prog_1_method_7_code 36 = .ok (.iconst 2, 1) := by decide +kernel
theorem d_G_decide_37 : decode prog_1_method_7_code 37 = .ok (.if_icmp .ge 13, 3) := by decide +kernel
theorem d_G_decide_40 : decode prog_1_method_7_code 40 = .ok (.new 48, 3) := by decide +kernel
theorem d_G_decide_43 : decode prog_1_method_7_code 43 = .ok (.dup, 1) := by decide +kernel
theorem d_G_decide_44 : decode prog_1_method_7_code 44 = .ok (.ldc 172, 2) := by decide +kernel
theorem d_G_decide_46 : decode prog_1_method_7_code 46 = .ok (.invokespecial 52, 3) := by decide +kernel
theorem d_G_decide_49 : decode prog_1_method_7_code 49 = .ok (.athrow, 1) := by decide +kernel
theorem d_G_decide_50 : decode prog_1_method_7_code 50 = .ok (.aload_n 2, 1) := by decide +kernel
theorem d_G_decide_51 : decode prog_1_method_7_code 51 = .ok (.invokevirtual 174, 3) := by decide +kernel
theorem d_G_decide_54 : decode prog_1_method_7_code 54 = .ok (.istore_n 3, 1) := by decide +kernel
theorem d_G_decide_55 : decode prog_1_method_7_code 55 = .ok (.iload_n 3, 1) := by decide +kernel
theorem d_G_decide_56 : decode prog_1_method_7_code 56 = .ok (.iconst 3, 1) := by decide +kernel
theorem d_G_decide_57 : decode prog_1_method_7_code 57 = .ok (.if_icmp .ne 5, 3) := by decide +kernel
theorem d_G_decide_60 : decode prog_1_method_7_code 60 = .ok (.iconst 3, 1) := by decide +kernel
theorem d_G_decide_61 : decode prog_1_method_7_code 61 = .ok (.ireturn, 1) := by decide +kernel
theorem d_G_decide_62 : decode prog_1_method_7_code 62 = .ok (.aload_n 2, 1) := by decide +kernel
theorem d_G_decide_63 : decode prog_1_method_7_code 63 = .ok (.invokevirtual 177, 3) := by decide +kernel
theorem d_G_decide_66 : decode prog_1_method_7_code 66 = .ok (.ifCond .eq 11, 3) := by decide +kernel
theorem d_G_decide_69 : decode prog_1_method_7_code 69 = .ok (.aload_n 2, 1) := by decide +kernel
theorem d_G_decide_70 : decode prog_1_method_7_code 70 = .ok (.iload_n 3, 1) := by decide +kernel
theorem d_G_decide_71 : decode prog_1_method_7_code 71 = .ok (.invokevirtual 180, 3) := by decide +kernel
theorem d_G_decide_74 : decode prog_1_method_7_code 74 = .ok (.goto 8, 3) := by decide +kernel
theorem d_G_decide_77 : decode prog_1_method_7_code 77 = .ok (.aload_n 2, 1) := by decide +kernel
theorem d_G_decide_78 : decode prog_1_method_7_code 78 = .ok (.iload_n 3, 1) := by decide +kernel
theorem d_G_decide_79 : decode prog_1_method_7_code 79 = .ok (.invokevirtual 183, 3) := by decide +kernel
theorem d_G_decide_82 : decode prog_1_method_7_code 82 = .ok (.iload_n 3, 1) := by decide +kernel
theorem d_G_decide_83 : decode prog_1_method_7_code 83 = .ok (.ireturn, 1) := by decide +kernel
theorem cn_G_decide : CN y_G_decide (.code y_G_decide prog_1_method_7_code 4 (some .int)) prog_1_method_7_code 4 (some .int) [] 1 := ⟨Or.inl ⟨rfl, rfl⟩, mw_454, mw_1, ⟨by decide +kernel, by decide +kernel⟩, by decide +kernel⟩
def b_G_decide_40  (σ : Sg)  : Option Rs := (some ((.inr "java/lang/IllegalStateException", σ) : Rs))
set_option maxRecDepth 100000 in
set_option maxHeartbeats 4000000 in
theorem gb_G_decide_40 {Γ : GX} (K : Cx Γ "TapirGroup" prog_1_method_7_code 4 rm_G_decide) (S : Std Γ (some .int)) (T : Tb Γ []) (hI : y_G_decide.name = "<init>" → Ini Γ) (σ : Sg)  : G Γ mkR 0 0 40 [] [] σ (b_G_decide_40 σ ) := by
  unfold b_G_decide_40
  exact g_throw (pc := 40) K S T tw_G_48_172_52 (fun _ h => nomatch h) d_G_decide_40 d_G_decide_43 d_G_decide_44 d_G_decide_46 d_G_decide_49 (by decide) (by decide) (by decide) (by decide) rfl
def b_G_decide_82  (σ : Sg) (x3 : Int32) : Option Rs := (some ((.inl (some (.int x3)), σ) : Rs))
set_option maxRecDepth 100000 in
set_option maxHeartbeats 4000000 in
theorem gb_G_decide_82 {Γ : GX} (K : Cx Γ "TapirGroup" prog_1_method_7_code 4 rm_G_decide) (S : Std Γ (some .int)) (T : Tb Γ []) (hI : y_G_decide.name = "<init>" → Ini Γ) (σ : Sg) (x3 : Int32) : G Γ mkR 0 0 82 [(3, .int x3)] [] σ (b_G_decide_82 σ x3) := by
  unfold b_G_decide_82
  refine g_iload_n (pc := 82) (j := 0) K d_G_decide_82 rfl ?_
  exact g_iret (pc := 83) K S rfl d_G_decide_83 (by decide) (by decide) rfl
def f_G_decide (σ : Sg) (a0 : Nat) (x1 : Int32) : Option Rs := ((f_G_isClient σ x1).bind (fun v1 => (if v1 = 0 then (some ((.inr "java/lang/IllegalArgumentException", σ) : Rs)) else (if a0 < σ.1 ∧ kd a0 = 3 then rc (g_r σ a0 1) none (fun b2 => (if (b2 < σ.1 ∧ kd b2 = 14) ∧ inb x1 (ln b2) = true then rc (g_r σ b2 x1.toNatClampNeg) none (fun b3 => (if b3 < σ.1 ∧ kd b3 = 0 then (if (g_i σ b3 1) = (2 : Int32) then (if b3 < σ.1 ∧ kd b3 = 0 then (f_C_answerCount σ b3).bind (fun v4 => (if (2 : Int32) ≤ v4 then (if b3 < σ.1 ∧ kd b3 = 0 then (f_C_resultByAnswers σ b3).bind (fun v5 => (if v5 = (3 : Int32) then (some ((.inl (some (.int (3 : Int32))), σ) : Rs)) else (if b3 < σ.1 ∧ kd b3 = 0 then (f_C_allAnsweredAlike σ b3).bind (fun v6 => (if v6 = 0 then (if b3 < σ.1 ∧ kd b3 = 0 then (f_C_goSlow σ b3 v5).bind (fun s7 => (b_G_decide_82 s7 v5)) else none) else (if b3 < σ.1 ∧ kd b3 = 0 then (f_C_settle σ b3 v5).bind (fun s8 => (b_G_decide_82 s8 v5)) else none))) else none))) else none) else (b_G_decide_40 σ))) else none) else (b_G_decide_40 σ)) else none)) else none)) else none))))
set_option maxRecDepth 100000 in
set_option maxHeartbeats 4000000 in
theorem k_G_decide (l : Launch) (hl : l.stackTraces = false) (σ : Sg) (a0 : Nat) (x1 : Int32) (r : Rs) (h : f_G_decide σ a0 x1 = some r) : Con l y_G_decide (.code y_G_decide prog_1_method_7_code 4 (some .int)) rm_G_decide [.ref a0, .int x1] σ (mkR r) := by
  refine Con.of (mk := mkR) (o := f_G_decide σ a0 x1) (z := r) (L0 := [(0, .ref a0), (1, .int x1)]) (bytes := prog_1_method_7_code) (maxL := 4) (ret := (some .int)) (hh := []) hl (by decide +kernel) (Or.inl ⟨rfl, rfl⟩) (by simp [Value.category]) (Nat.le_of_ble_eq_true rfl) rfl (fun Γ K S T hI => ?_) h rfl
  unfold f_G_decide
  refine g_iload_n (pc := 0) (j := 1) K d_G_decide_0 rfl ?_
  refine g_callS (pc := 1) (vs := [.int x1]) (st := []) (mkc := mkI σ) K cn_G_isClient (fun l hl r hr => k_G_isClient l hl _ _ r hr) mw_112 mw_113 ⟨by decide, by decide, by decide, by decide⟩ d_G_decide_1 rfl rfl (Nat.le_of_ble_eq_true rfl) (fun v1 _ => ?_)
  change G Γ mkR 0 0 4 [(0, .ref a0), (1, .int x1)] [.int v1] σ _
  refine g_if_ne (pc := 4) (tgt := 17) K d_G_decide_4 (by decide) (fun _ => ?_) (fun _ => ?_)
  · refine g_aload_n (pc := 17) (j := 0) K d_G_decide_17 rfl ?_
    refine g_getR (pc := 18) K fl_G_17 d_G_decide_18 (fun _ => ?_) (fun b2 _ => ?_)
    · exact g_none
    · refine g_iload_n (pc := 21) (j := 1) K d_G_decide_21 rfl ?_
      refine g_aald (pc := 22) (kq := 14) (t0 := 4) K (by decide) (fun _ => rfl) d_G_decide_22 (fun _ => ?_) (fun b3 _ => ?_)
      · exact g_none
      · refine g_astore_n (pc := 23) (L' := [(2, .ref b3), (0, .ref a0), (1, .int x1)]) K d_G_decide_23 (by decide) rfl ?_
        refine g_aload_n (pc := 24) (j := 0) K d_G_decide_24 rfl ?_
        refine g_getI (pc := 25) K fl_G_68 d_G_decide_25 ?_
        refine g_iconst (pc := 28) (v := 2) K d_G_decide_28 (by decide) ?_
        refine g_icmp_ne (pc := 29) (tgt := 40) K d_G_decide_29 (by decide) (fun _ => ?_) (fun _ => ?_)
        · refine g_sub (L' := []) [] rfl ?_
          exact gb_G_decide_40 K S T hI σ
        · refine g_aload_n (pc := 32) (j := 0) K d_G_decide_32 rfl ?_
          refine g_callV (pc := 33) (ci := 0) (a := b3) (vs := []) (st := []) (mkc := mkI σ) K rfl (by decide) cn_C_answerCount (fun l hl r hr => k_C_answerCount l hl _ _ r hr) mw_129 mw_130 mw_131 ⟨by decide, by decide, by decide, by decide⟩ d_G_decide_33 rfl rfl (Nat.le_of_ble_eq_true rfl) (fun v4 _ => ?_)
          change G Γ mkR 0 0 36 [(2, .ref b3), (0, .ref a0), (1, .int x1)] [.int v4] σ _
          refine g_iconst (pc := 36) (v := 2) K d_G_decide_36 (by decide) ?_
          refine g_icmp_ge (pc := 37) (tgt := 50) K d_G_decide_37 (by decide) (fun _ => ?_) (fun _ => ?_)
          · refine g_aload_n (pc := 50) (j := 0) K d_G_decide_50 rfl ?_
            refine g_callV (pc := 51) (ci := 0) (a := b3) (vs := []) (st := []) (mkc := mkI σ) K rfl (by decide) cn_C_resultByAnswers (fun l hl r hr => k_C_resultByAnswers l hl _ _ r hr) mw_456 mw_457 mw_458 ⟨by decide, by decide, by decide, by decide⟩ d_G_decide_51 rfl rfl (Nat.le_of_ble_eq_true rfl) (fun v5 _ => ?_)
            change G Γ mkR 0 0 54 [(2, .ref b3), (0, .ref a0), (1, .int x1)] [.int v5] σ _
            refine g_istore_n (pc := 54) (L' := [(3, .int v5), (2, .ref b3), (0, .ref a0), (1, .int x1)]) K d_G_decide_54 (by decide) rfl ?_
            refine g_iload_n (pc := 55) (j := 0) K d_G_decide_55 rfl ?_
            refine g_iconst (pc := 56) (v := 3) K d_G_decide_56 (by decide) ?_
            refine g_icmp_ne (pc := 57) (tgt := 62) K d_G_decide_57 (by decide) (fun _ => ?_) (fun _ => ?_)
            · refine g_aload_n (pc := 62) (j := 1) K d_G_decide_62 rfl ?_
              refine g_callV (pc := 63) (ci := 0) (a := b3) (vs := []) (st := []) (mkc := mkI σ) K rfl (by decide) cn_C_allAnsweredAlike (fun l hl r hr => k_C_allAnsweredAlike l hl _ _ r hr) mw_460 mw_461 mw_462 ⟨by decide, by decide, by decide, by decide⟩ d_G_decide_63 rfl rfl (Nat.le_of_ble_eq_true rfl) (fun v6 _ => ?_)
              change G Γ mkR 0 0 66 [(3, .int v5), (2, .ref b3), (0, .ref a0), (1, .int x1)] [.int v6] σ _
              refine g_if_eq (pc := 66) (tgt := 77) K d_G_decide_66 (by decide) (fun _ => ?_) (fun _ => ?_)
              · refine g_aload_n (pc := 77) (j := 1) K d_G_decide_77 rfl ?_
                refine g_iload_n (pc := 78) (j := 0) K d_G_decide_78 rfl ?_
                refine g_callV (pc := 79) (ci := 0) (a := b3) (vs := [.int v5]) (st := []) (mkc := mkV) K rfl (by decide) cn_C_goSlow (fun l hl r hr => k_C_goSlow l hl _ _ _ r hr) mw_468 mw_469 mw_470 ⟨by decide, by decide, by decide, by decide⟩ d_G_decide_79 rfl rfl (Nat.le_of_ble_eq_true rfl) (fun s7 _ => ?_)
                change G Γ mkR 0 0 82 [(3, .int v5), (2, .ref b3), (0, .ref a0), (1, .int x1)] [] s7 _
                refine g_sub (L' := [(3, .int v5)]) [0] rfl ?_
                exact gb_G_decide_82 K S T hI s7 v5
              · refine g_aload_n (pc := 69) (j := 1) K d_G_decide_69 rfl ?_
                refine g_iload_n (pc := 70) (j := 0) K d_G_decide_70 rfl ?_
                refine g_callV (pc := 71) (ci := 0) (a := b3) (vs := [.int v5]) (st := []) (mkc := mkV) K rfl (by decide) cn_C_settle (fun l hl r hr => k_C_settle l hl _ _ _ r hr) mw_464 mw_465 mw_466 ⟨by decide, by decide, by decide, by decide⟩ d_G_decide_71 rfl rfl (Nat.le_of_ble_eq_true rfl) (fun s8 _ => ?_)
                change G Γ mkR 0 0 74 [(3, .int v5), (2, .ref b3), (0, .ref a0), (1, .int x1)] [] s8 _
                refine g_goto (pc := 74) (tgt := 82) K d_G_decide_74 (by decide) ?_
                refine g_sub (L' := [(3, .int v5)]) [0] rfl ?_
                exact gb_G_decide_82 K S T hI s8 v5
            · refine g_iconst (pc := 60) (v := 3) K d_G_decide_60 (by decide) ?_
              exact g_iret (pc := 61) K S rfl d_G_decide_61 (by decide) (by decide) rfl
          · refine g_sub (L' := []) [] rfl ?_
            exact gb_G_decide_40 K S T hI σ
  · exact g_throw (pc := 7) K S T tw_G_37_39_41 (fun _ h => nomatch h) d_G_decide_7 d_G_decide_10 d_G_decide_11 d_G_decide_13 d_G_decide_16 (by decide) (by decide) (by decide) (by decide) rfl
-- TapirGroupLaw.decide(LTapirGroup;I[J)I
def y_L_decide : MethodName := ⟨"TapirGroupLaw", "decide", "(LTapirGroup;I[J)I"⟩
abbrev rm_L_decide : Room := { frames := 7, cells := 1, slots := 6, locals := 113 }
theorem d_L_decide_0 : decode method_8_code 0 = .ok (.aload_n 2, 1) := by decide +kernel
theorem d_L_decide_1 : decode method_8_code 1 = .ok (.iconst 0, 1) := by decide +kernel
theorem d_L_decide_2 : decode method_8_code 2 = .ok (.aload_n 0, 1) := by decide +kernel
theorem d_L_decide_3 : decode method_8_code 3 = .ok (.iload_n 1, 1) := by decide +kernel
theorem d_L_decide_4 : decode method_8_code 4 = .ok (.invokevirtual 37, 3) := by decide +kernel
theorem d_L_decide_7 : decode method_8_code 7 = .ok (.i2l, 1) := by decide +kernel
theorem d_L_decide_8 : decode method_8_code 8 = .ok (.lastore, 1) := by decide +kernel
theorem d_L_decide_9 : decode method_8_code 9 = .ok (.goto 9, 3) := by decide +kernel
theorem d_L_decide_12 : decode method_8_code 12 = .ok (.astore_n 3, 1) := by decide +kernel
theorem d_L_decide_13 : decode method_8_code 13 = .ok (.iconst 1, 1) := by decide +kernel
theorem d_L_decide_14 : decode method_8_code 14 = .ok (.ireturn, 1) := by decide +kernel
theorem d_L_decide_15 : decode method_8_code 15 = .ok (.astore_n 3, 1) := by decide +kernel
theorem d_L_decide_16 : decode method_8_code 16 = .ok (.iconst 2, 1) := by decide +kernel
theorem d_L_decide_17 : decode method_8_code 17 = .ok (.ireturn, 1) := by decide +kernel
theorem d_L_decide_18 : decode method_8_code 18 = .ok (.iconst 0, 1) := by decide +kernel
theorem d_L_decide_19 : decode method_8_code 19 = .ok (.ireturn, 1) := by decide +kernel
theorem cn_L_decide : CN y_L_decide (.codeWith y_L_decide method_8_code 4 (some .int) [(0, 9, 12, 13), (0, 9, 15, 15)]) method_8_code 4 (some .int) [(0, 9, 12, 13), (0, 9, 15, 15)] 3 := ⟨Or.inr rfl, mw_450, mw_0, ⟨by decide +kernel, by decide +kernel⟩, by decide +kernel⟩
def f_L_decide (σ : Sg) (a0 : Nat) (x1 : Int32) (a2 : Nat) : Option (Int32 × Sg) := (if a0 < σ.1 ∧ kd a0 = 3 then (f_G_decide σ a0 x1).bind (fun w1 => (onI w1.1 (fun x2 => (if (a2 < w1.2.1 ∧ kd a2 = 12) ∧ inb (0 : Int32) (ln a2) = true then (wi (s_l w1.2 a2 (0 : Int32).toNatClampNeg ((x2).toInt64)) (fun s3 => (some ((0 : Int32), s3)))) else none)) (fun E => (if E = "java/lang/IllegalArgumentException" then (some ((1 : Int32), w1.2)) else (if E = "java/lang/IllegalStateException" then (some ((2 : Int32), w1.2)) else none))))) else none)
set_option maxRecDepth 100000 in
set_option maxHeartbeats 4000000 in
theorem k_L_decide (l : Launch) (hl : l.stackTraces = false) (σ : Sg) (a0 : Nat) (x1 : Int32) (a2 : Nat) (r : (Int32 × Sg)) (h : f_L_decide σ a0 x1 a2 = some r) : Con l y_L_decide (.codeWith y_L_decide method_8_code 4 (some .int) [(0, 9, 12, 13), (0, 9, 15, 15)]) rm_L_decide [.ref a0, .int x1, .ref a2] σ (mkW r) := by
  refine Con.of (mk := mkW) (o := f_L_decide σ a0 x1 a2) (z := r) (L0 := [(0, .ref a0), (1, .int x1), (2, .ref a2)]) (bytes := method_8_code) (maxL := 4) (ret := (some .int)) (hh := [(0, 9, 12, 13), (0, 9, 15, 15)]) hl (by decide +kernel) (Or.inr rfl) (by simp [Value.category]) (Nat.le_of_ble_eq_true rfl) rfl (fun Γ K S T hI => ?_) h rfl
  unfold f_L_decide
  refine g_aload_n (pc := 0) (j := 2) K d_L_decide_0 rfl ?_
  refine g_iconst (pc := 1) (v := 0) K d_L_decide_1 (by decide) ?_
  refine g_aload_n (pc := 2) (j := 0) K d_L_decide_2 rfl ?_
  refine g_iload_n (pc := 3) (j := 1) K d_L_decide_3 rfl ?_
  refine g_callV (pc := 4) (ci := 3) (a := a0) (vs := [.int x1]) (st := [.int (0 : Int32), .ref a2]) (mkc := mkR) K rfl (by decide) cn_G_decide (fun l hl r hr => k_G_decide l hl _ _ _ r hr) mw_451 mw_452 mw_453 ⟨by decide, by decide, by decide, by decide⟩ d_L_decide_4 rfl rfl (Nat.le_of_ble_eq_true rfl) (fun w1 _ => ?_)
  refine g_onI (fun x2 => ?_) (fun E => ?_)
  · refine g_i2l (pc := 7) K d_L_decide_7 ?_
    refine g_last (pc := 8) K d_L_decide_8 ?_
    refine g_wi (fun s3 _ => ?_)
    refine g_goto (pc := 9) (tgt := 18) K d_L_decide_9 (by decide) ?_
    refine g_iconst (pc := 18) (v := 0) K d_L_decide_18 (by decide) ?_
    exact g_iret (pc := 19) K S rfl d_L_decide_19 (by decide) (by decide) rfl
  · refine gt_ite (fun h => ?_) (fun _ => ?_)
    · subst h
      refine g_catch1 (L' := [(0, .ref a0), (1, .int x1), (2, .ref a2)]) K T [] (0, 9, 12, 13) [(0, 9, 15, 15)] rfl (fun _ h => nomatch h) (by decide) (by decide) mw_170 mw_177 (by decide) d_L_decide_12 rfl ?_
      refine g_iconst (pc := 13) (v := 1) K d_L_decide_13 (by decide) ?_
      exact g_iret (pc := 14) K S rfl d_L_decide_14 (by decide) (by decide) rfl
    refine gt_ite (fun h => ?_) (fun _ => ?_)
    · subst h
      refine g_catch1 (L' := [(0, .ref a0), (1, .int x1), (2, .ref a2)]) K T [(0, 9, 12, 13)] (0, 9, 15, 15) [] rfl (by intro z hz; rcases List.mem_cons.mp hz with rfl | hz; exact ⟨by decide, by decide, "java/lang/IllegalArgumentException", mw_170, by decide +kernel⟩; cases hz) (by decide) (by decide) mw_171 mw_246 (by decide) d_L_decide_15 rfl ?_
      refine g_iconst (pc := 16) (v := 2) K d_L_decide_16 (by decide) ?_
      exact g_iret (pc := 17) K S rfl d_L_decide_17 (by decide) (by decide) rfl
    exact gt_none
-- TapirGroup$Replica.makeFinal(II)V
def y_R_makeFinal : MethodName := ⟨"TapirGroup$Replica", "makeFinal", "(II)V"⟩
abbrev rm_R_makeFinal : Room := { frames := 0, cells := 0, slots := 0, locals := 0 }
theorem d_R_makeFinal_0 : decode prog_3_method_7_code 0 = .ok (.aload_n 0, 1) := by decide +kernel
theorem d_R_makeFinal_1 : decode prog_3_method_7_code 1 = .ok (.getfield 29, 3) := by decide +kernel
theorem d_R_makeFinal_4 : decode prog_3_method_7_code 4 = .ok (.iload_n 1, 1) := by decide +kernel
theorem d_R_makeFinal_5 : decode prog_3_method_7_code 5 = .ok (.iload_n 2, 1) := by decide +kernel
theorem d_R_makeFinal_6 : decode prog_3_method_7_code 6 = .ok (.iconst 4, 1) := by decide +kernel
theorem d_R_makeFinal_7 : decode prog_3_method_7_code 7 = .ok (.ior, 1) := by decide +kernel
theorem d_R_makeFinal_8 : decode prog_3_method_7_code 8 = .ok (.iastore, 1) := by decide +kernel
theorem d_R_makeFinal_9 : decode prog_3_method_7_code 9 = .ok (.return_, 1) := by decide +kernel
theorem cn_R_makeFinal : CN y_R_makeFinal (.code y_R_makeFinal prog_3_method_7_code 3 none) prog_3_method_7_code 3 none [] 2 := ⟨Or.inl ⟨rfl, rfl⟩, mw_484, mw_2, ⟨by decide +kernel, by decide +kernel⟩, by decide +kernel⟩
def f_R_makeFinal (σ : Sg) (a0 : Nat) (x1 : Int32) (x2 : Int32) : Option Sg := (if a0 < σ.1 ∧ kd a0 = 1 then rc (g_r σ a0 5) none (fun b1 => (if (b1 < σ.1 ∧ kd b1 = 10) ∧ inb x1 (ln b1) = true then (wi (s_i σ b1 x1.toNatClampNeg (x2 ||| (4 : Int32))) (fun s2 => (some s2))) else none)) else none)
set_option maxRecDepth 100000 in
set_option maxHeartbeats 4000000 in
theorem k_R_makeFinal (l : Launch) (hl : l.stackTraces = false) (σ : Sg) (a0 : Nat) (x1 : Int32) (x2 : Int32) (r : Sg) (h : f_R_makeFinal σ a0 x1 x2 = some r) : Con l y_R_makeFinal (.code y_R_makeFinal prog_3_method_7_code 3 none) rm_R_makeFinal [.ref a0, .int x1, .int x2] σ (mkV r) := by
  refine Con.of (mk := mkV) (o := f_R_makeFinal σ a0 x1 x2) (z := r) (L0 := [(0, .ref a0), (1, .int x1), (2, .int x2)]) (bytes := prog_3_method_7_code) (maxL := 3) (ret := none) (hh := []) hl (by decide +kernel) (Or.inl ⟨rfl, rfl⟩) (by simp [Value.category]) (Nat.le_of_ble_eq_true rfl) rfl (fun Γ K S T hI => ?_) h rfl
  unfold f_R_makeFinal
  refine g_aload_n (pc := 0) (j := 0) K d_R_makeFinal_0 rfl ?_
  refine g_getR (pc := 1) K fl_R_29 d_R_makeFinal_1 (fun _ => ?_) (fun b1 _ => ?_)
  · exact g_none
  · refine g_iload_n (pc := 4) (j := 1) K d_R_makeFinal_4 rfl ?_
    refine g_iload_n (pc := 5) (j := 2) K d_R_makeFinal_5 rfl ?_
    refine g_iconst (pc := 6) (v := 4) K d_R_makeFinal_6 (by decide) ?_
    refine g_ior (pc := 7) K d_R_makeFinal_7 ?_
    refine g_iast (pc := 8) K d_R_makeFinal_8 ?_
    refine g_wi (fun s2 _ => ?_)
    exact g_vret (pc := 9) K S d_R_makeFinal_9 (by decide) (by decide) rfl
-- TapirGroup.confirm(II)I
def y_G_confirm : MethodName := ⟨"TapirGroup", "confirm", "(II)I"⟩
abbrev rm_G_confirm : Room := { frames := 6, cells := 1, slots := 6, locals := 90 }
theorem d_G_confirm_0 : decode prog_1_method_8_code 0 = .ok (.iload_n 1, 1) := by decide +kernel
theorem d_G_confirm_1 : decode prog_1_method_8_code 1 = .ok (.invokestatic 33, 3) := by decide +kernel
theorem d_G_confirm_4 : decode prog_1_method_8_code 4 = .ok (.ifCond .eq 10, 3) := by decide +kernel
theorem d_G_confirm_7 : decode prog_1_method_8_code 7 = .ok (.iload_n 2, 1) := by decide +kernel
theorem d_G_confirm_8 : decode prog_1_method_8_code 8 = .ok (.invokestatic 63, 3) := by decide +kernel
theorem d_G_confirm_11 : decode prog_1_method_8_code 11 = .ok (.ifCond .ne 13, 3) := by decide +kernel
theorem d_G_confirm_14 : decode prog_1_method_8_code 14 = .ok (.new 37, 3) := by decide +kernel
theorem d_G_confirm_17 : decode prog_1_method_8_code 17 = .ok (.dup, 1) := by decide +kernel
theorem d_G_confirm_18 : decode prog_1_method_8_code 18 = .ok (.ldc 148, 2) := by decide +kernel
theorem d_G_confirm_20 : decode prog_1_method_8_code 20 = .ok (.invokespecial 41, 3) := by decide +kernel
theorem d_G_confirm_23 : decode prog_1_method_8_code 23 = .ok (.athrow, 1) := by decide +kernel
theorem d_G_confirm_24 : decode prog_1_method_8_code 24 = .ok (.aload_n 0, 1) := by decide +kernel
theorem d_G_confirm_25 : decode prog_1_method_8_code 25 = .ok (.getfield 17, 3) := by decide +kernel
theorem d_G_confirm_28 : decode prog_1_method_8_code 28 = .ok (.iload_n 1, 1) := by decide +kernel
theorem d_G_confirm_29 : decode prog_1_method_8_code 29 = .ok (.aaload, 1) := by decide +kernel
theorem d_G_confirm_30 : decode prog_1_method_8_code 30 = .ok (.astore_n 3, 1) := by decide +kernel
theorem d_G_confirm_31 : decode prog_1_method_8_code 31 = .ok (.aload_n 3, 1) := by decide +kernel
theorem d_G_confirm_32 : decode prog_1_method_8_code 32 = .ok (.getfield 44, 3) := by decide +kernel
theorem d_G_confirm_35 : decode prog_1_method_8_code 35 = .ok (.astore 4, 2) := by decide +kernel
theorem d_G_confirm_37 : decode prog_1_method_8_code 37 = .ok (.aload 4, 2) := by decide +kernel
theorem d_G_confirm_39 : decode prog_1_method_8_code 39 = .ok (.ifnull 11, 3) := by decide +kernel
theorem d_G_confirm_42 : decode prog_1_method_8_code 42 = .ok (.aload_n 3, 1) := by decide +kernel
theorem d_G_confirm_43 : decode prog_1_method_8_code 43 = .ok (.getfield 68, 3) := by decide +kernel
theorem d_G_confirm_46 : decode prog_1_method_8_code 46 = .ok (.iconst 3, 1) := by decide +kernel
theorem d_G_confirm_47 : decode prog_1_method_8_code 47 = .ok (.if_icmp .eq 13, 3) := by decide +kernel
theorem d_G_confirm_50 : decode prog_1_method_8_code 50 = .ok (.new 48, 3) := by decide +kernel
theorem d_G_confirm_53 : decode prog_1_method_8_code 53 = .ok (.dup, 1) := by decide +kernel
theorem d_G_confirm_54 : decode prog_1_method_8_code 54 = .ok (.ldc 186, 2) := by decide +kernel
theorem d_G_confirm_56 : decode prog_1_method_8_code 56 = .ok (.invokespecial 52, 3) := by decide +kernel
theorem d_G_confirm_59 : decode prog_1_method_8_code 59 = .ok (.athrow, 1) := by decide +kernel
theorem d_G_confirm_60 : decode prog_1_method_8_code 60 = .ok (.aload_n 0, 1) := by decide +kernel
theorem d_G_confirm_61 : decode prog_1_method_8_code 61 = .ok (.iload_n 2, 1) := by decide +kernel
theorem d_G_confirm_62 : decode prog_1_method_8_code 62 = .ok (.invokevirtual 86, 3) := by decide +kernel
theorem d_G_confirm_65 : decode prog_1_method_8_code 65 = .ok (.ifCond .ne 13, 3) := by decide +kernel
theorem d_G_confirm_68 : decode prog_1_method_8_code 68 = .ok (.new 89, 3) := by decide +kernel
theorem d_G_confirm_71 : decode prog_1_method_8_code 71 = .ok (.dup, 1) := by decide +kernel
theorem d_G_confirm_72 : decode prog_1_method_8_code 72 = .ok (.ldc 91, 2) := by decide +kernel
theorem d_G_confirm_74 : decode prog_1_method_8_code 74 = .ok (.invokespecial 93, 3) := by decide +kernel
theorem d_G_confirm_77 : decode prog_1_method_8_code 77 = .ok (.athrow, 1) := by decide +kernel
theorem d_G_confirm_78 : decode prog_1_method_8_code 78 = .ok (.aload_n 0, 1) := by decide +kernel
theorem d_G_confirm_79 : decode prog_1_method_8_code 79 = .ok (.getfield 11, 3) := by decide +kernel
theorem d_G_confirm_82 : decode prog_1_method_8_code 82 = .ok (.iload_n 2, 1) := by decide +kernel
theorem d_G_confirm_83 : decode prog_1_method_8_code 83 = .ok (.aaload, 1) := by decide +kernel
theorem d_G_confirm_84 : decode prog_1_method_8_code 84 = .ok (.astore 5, 2) := by decide +kernel
theorem d_G_confirm_86 : decode prog_1_method_8_code 86 = .ok (.aload 5, 2) := by decide +kernel
theorem d_G_confirm_88 : decode prog_1_method_8_code 88 = .ok (.aload 4, 2) := by decide +kernel
theorem d_G_confirm_90 : decode prog_1_method_8_code 90 = .ok (.getfield 142, 3) := by decide +kernel
theorem d_G_confirm_93 : decode prog_1_method_8_code 93 = .ok (.iconst 4, 1) := by decide +kernel
theorem d_G_confirm_94 : decode prog_1_method_8_code 94 = .ok (.invokevirtual 188, 3) := by decide +kernel
theorem d_G_confirm_97 : decode prog_1_method_8_code 97 = .ok (.ifCond .ne 17, 3) := by decide +kernel
theorem d_G_confirm_100 : decode prog_1_method_8_code 100 = .ok (.aload 5, 2) := by decide +kernel
theorem d_G_confirm_102 : decode prog_1_method_8_code 102 = .ok (.aload 4, 2) := by decide +kernel
theorem d_G_confirm_104 : decode prog_1_method_8_code 104 = .ok (.getfield 142, 3) := by decide +kernel
theorem d_G_confirm_107 : decode prog_1_method_8_code 107 = .ok (.aload_n 3, 1) := by decide +kernel
theorem d_G_confirm_108 : decode prog_1_method_8_code 108 = .ok (.getfield 192, 3) := by decide +kernel
theorem d_G_confirm_111 : decode prog_1_method_8_code 111 = .ok (.invokevirtual 195, 3) := by decide +kernel
theorem d_G_confirm_114 : decode prog_1_method_8_code 114 = .ok (.aload 5, 2) := by decide +kernel
theorem d_G_confirm_116 : decode prog_1_method_8_code 116 = .ok (.aload 4, 2) := by decide +kernel
theorem d_G_confirm_118 : decode prog_1_method_8_code 118 = .ok (.getfield 142, 3) := by decide +kernel
theorem d_G_confirm_121 : decode prog_1_method_8_code 121 = .ok (.invokevirtual 162, 3) := by decide +kernel
theorem d_G_confirm_124 : decode prog_1_method_8_code 124 = .ok (.aload_n 3, 1) := by decide +kernel
theorem d_G_confirm_125 : decode prog_1_method_8_code 125 = .ok (.getfield 192, 3) := by decide +kernel
theorem d_G_confirm_128 : decode prog_1_method_8_code 128 = .ok (.if_icmp .ne 15, 3) := by decide +kernel
theorem d_G_confirm_131 : decode prog_1_method_8_code 131 = .ok (.aload_n 3, 1) := by decide +kernel
theorem d_G_confirm_132 : decode prog_1_method_8_code 132 = .ok (.dup, 1) := by decide +kernel
theorem d_G_confirm_133 : decode prog_1_method_8_code 133 = .ok (.getfield 198, 3) := by decide +kernel
theorem d_G_confirm_136 : decode prog_1_method_8_code 136 = .ok (.iconst 1, 1) := by decide +kernel
theorem d_G_confirm_137 : decode prog_1_method_8_code 137 = .ok (.iload_n 2, 1) := by decide +kernel
theorem d_G_confirm_138 : decode prog_1_method_8_code 138 = .ok (.ishl, 1) := by decide +kernel
theorem d_G_confirm_139 : decode prog_1_method_8_code 139 = .ok (.ior, 1) := by decide +kernel
theorem d_G_confirm_140 : decode prog_1_method_8_code 140 = .ok (.putfield 198, 3) := by decide +kernel
theorem d_G_confirm_143 : decode prog_1_method_8_code 143 = .ok (.aload_n 3, 1) := by decide +kernel
theorem d_G_confirm_144 : decode prog_1_method_8_code 144 = .ok (.invokevirtual 201, 3) := by decide +kernel
theorem d_G_confirm_147 : decode prog_1_method_8_code 147 = .ok (.istore 6, 2) := by decide +kernel
theorem d_G_confirm_149 : decode prog_1_method_8_code 149 = .ok (.iload 6, 2) := by decide +kernel
theorem d_G_confirm_151 : decode prog_1_method_8_code 151 = .ok (.iconst 2, 1) := by decide +kernel
theorem d_G_confirm_152 : decode prog_1_method_8_code 152 = .ok (.if_icmp .lt 11, 3) := by decide +kernel
theorem d_G_confirm_155 : decode prog_1_method_8_code 155 = .ok (.aload_n 3, 1) := by decide +kernel
theorem d_G_confirm_156 : decode prog_1_method_8_code 156 = .ok (.aload_n 3, 1) := by decide +kernel
theorem d_G_confirm_157 : decode prog_1_method_8_code 157 = .ok (.getfield 192, 3) := by decide +kernel
theorem d_G_confirm_160 : decode prog_1_method_8_code 160 = .ok (.invokevirtual 180, 3) := by decide +kernel
theorem d_G_confirm_163 : decode prog_1_method_8_code 163 = .ok (.iload 6, 2) := by decide +kernel
theorem d_G_confirm_165 : decode prog_1_method_8_code 165 = .ok (.ireturn, 1) := by decide +kernel
theorem cn_G_confirm : CN y_G_confirm (.code y_G_confirm prog_1_method_8_code 7 (some .int)) prog_1_method_8_code 7 (some .int) [] 2 := ⟨Or.inl ⟨rfl, rfl⟩, mw_478, mw_1, ⟨by decide +kernel, by decide +kernel⟩, by decide +kernel⟩
def b_G_confirm_14  (σ : Sg)  : Option Rs := (some ((.inr "java/lang/IllegalArgumentException", σ) : Rs))
set_option maxRecDepth 100000 in
set_option maxHeartbeats 4000000 in
theorem gb_G_confirm_14 {Γ : GX} (K : Cx Γ "TapirGroup" prog_1_method_8_code 7 rm_G_confirm) (S : Std Γ (some .int)) (T : Tb Γ []) (hI : y_G_confirm.name = "<init>" → Ini Γ) (σ : Sg)  : G Γ mkR 0 0 14 [] [] σ (b_G_confirm_14 σ ) := by
  unfold b_G_confirm_14
  exact g_throw (pc := 14) K S T tw_G_37_148_41 (fun _ h => nomatch h) d_G_confirm_14 d_G_confirm_17 d_G_confirm_18 d_G_confirm_20 d_G_confirm_23 (by decide) (by decide) (by decide) (by decide) rfl
def b_G_confirm_50  (σ : Sg)  : Option Rs := (some ((.inr "java/lang/IllegalStateException", σ) : Rs))
set_option maxRecDepth 100000 in
set_option maxHeartbeats 4000000 in
theorem gb_G_confirm_50 {Γ : GX} (K : Cx Γ "TapirGroup" prog_1_method_8_code 7 rm_G_confirm) (S : Std Γ (some .int)) (T : Tb Γ []) (hI : y_G_confirm.name = "<init>" → Ini Γ) (σ : Sg)  : G Γ mkR 0 0 50 [] [] σ (b_G_confirm_50 σ ) := by
  unfold b_G_confirm_50
  exact g_throw (pc := 50) K S T tw_G_48_186_52 (fun _ h => nomatch h) d_G_confirm_50 d_G_confirm_53 d_G_confirm_54 d_G_confirm_56 d_G_confirm_59 (by decide) (by decide) (by decide) (by decide) rfl
def b_G_confirm_163  (σ : Sg) (x6 : Int32) : Option Rs := (some ((.inl (some (.int x6)), σ) : Rs))
set_option maxRecDepth 100000 in
set_option maxHeartbeats 4000000 in
theorem gb_G_confirm_163 {Γ : GX} (K : Cx Γ "TapirGroup" prog_1_method_8_code 7 rm_G_confirm) (S : Std Γ (some .int)) (T : Tb Γ []) (hI : y_G_confirm.name = "<init>" → Ini Γ) (σ : Sg) (x6 : Int32) : G Γ mkR 0 0 163 [(6, .int x6)] [] σ (b_G_confirm_163 σ x6) := by
  unfold b_G_confirm_163
  refine g_iload (pc := 163) (j := 0) K d_G_confirm_163 rfl ?_
  exact g_iret (pc := 165) K S rfl d_G_confirm_165 (by decide) (by decide) rfl
def b_G_confirm_143  (σ : Sg) (a3 : Nat) : Option Rs := (if a3 < σ.1 ∧ kd a3 = 0 then (f_C_confirmationCount σ a3).bind (fun v13 => (if v13 < (2 : Int32) then (b_G_confirm_163 σ v13) else (if a3 < σ.1 ∧ kd a3 = 0 then (if a3 < σ.1 ∧ kd a3 = 0 then (f_C_settle σ a3 (g_i σ a3 3)).bind (fun s14 => (b_G_confirm_163 s14 v13)) else none) else none))) else none)
set_option maxRecDepth 100000 in
set_option maxHeartbeats 4000000 in
theorem gb_G_confirm_143 {Γ : GX} (K : Cx Γ "TapirGroup" prog_1_method_8_code 7 rm_G_confirm) (S : Std Γ (some .int)) (T : Tb Γ []) (hI : y_G_confirm.name = "<init>" → Ini Γ) (σ : Sg) (a3 : Nat) : G Γ mkR 0 0 143 [(3, .ref a3)] [] σ (b_G_confirm_143 σ a3) := by
  unfold b_G_confirm_143
  refine g_aload_n (pc := 143) (j := 0) K d_G_confirm_143 rfl ?_
  refine g_callV (pc := 144) (ci := 0) (a := a3) (vs := []) (st := []) (mkc := mkI σ) K rfl (by decide) cn_C_confirmationCount (fun l hl r hr => k_C_confirmationCount l hl _ _ r hr) mw_137 mw_138 mw_139 ⟨by decide, by decide, by decide, by decide⟩ d_G_confirm_144 rfl rfl (Nat.le_of_ble_eq_true rfl) (fun v13 _ => ?_)
  change G Γ mkR 0 0 147 [(3, .ref a3)] [.int v13] σ _
  refine g_istore (pc := 147) (L' := [(6, .int v13), (3, .ref a3)]) K d_G_confirm_147 (by decide) rfl ?_
  refine g_iload (pc := 149) (j := 0) K d_G_confirm_149 rfl ?_
  refine g_iconst (pc := 151) (v := 2) K d_G_confirm_151 (by decide) ?_
  refine g_icmp_lt (pc := 152) (tgt := 163) K d_G_confirm_152 (by decide) (fun _ => ?_) (fun _ => ?_)
  · refine g_sub (L' := [(6, .int v13)]) [0] rfl ?_
    exact gb_G_confirm_163 K S T hI σ v13
  · refine g_aload_n (pc := 155) (j := 1) K d_G_confirm_155 rfl ?_
    refine g_aload_n (pc := 156) (j := 1) K d_G_confirm_156 rfl ?_
    refine g_getI (pc := 157) K fl_G_192 d_G_confirm_157 ?_
    refine g_callV (pc := 160) (ci := 0) (a := a3) (vs := [.int (g_i σ a3 3)]) (st := []) (mkc := mkV) K rfl (by decide) cn_C_settle (fun l hl r hr => k_C_settle l hl _ _ _ r hr) mw_464 mw_465 mw_466 ⟨by decide, by decide, by decide, by decide⟩ d_G_confirm_160 rfl rfl (Nat.le_of_ble_eq_true rfl) (fun s14 _ => ?_)
    change G Γ mkR 0 0 163 [(6, .int v13), (3, .ref a3)] [] s14 _
    refine g_sub (L' := [(6, .int v13)]) [0] rfl ?_
    exact gb_G_confirm_163 K S T hI s14 v13
def b_G_confirm_114  (σ : Sg) (x2 : Int32) (a3 : Nat) (a4 : Nat) (a5 : Nat) : Option Rs := (if a4 < σ.1 ∧ kd a4 = 2 then (if a5 < σ.1 ∧ kd a5 = 1 then (f_R_resultOf σ a5 (g_i σ a4 0)).bind (fun v11 => (if a3 < σ.1 ∧ kd a3 = 0 then (if v11 = (g_i σ a3 3) then (if a3 < σ.1 ∧ kd a3 = 0 then (if a3 < σ.1 ∧ kd a3 = 0 then (wi (s_i σ a3 4 ((g_i σ a3 4) ||| ((1 : Int32) <<< (x2 &&& 31)))) (fun s12 => (b_G_confirm_143 s12 a3))) else none) else none) else (b_G_confirm_143 σ a3)) else none)) else none) else none)
set_option maxRecDepth 100000 in
set_option maxHeartbeats 4000000 in
theorem gb_G_confirm_114 {Γ : GX} (K : Cx Γ "TapirGroup" prog_1_method_8_code 7 rm_G_confirm) (S : Std Γ (some .int)) (T : Tb Γ []) (hI : y_G_confirm.name = "<init>" → Ini Γ) (σ : Sg) (x2 : Int32) (a3 : Nat) (a4 : Nat) (a5 : Nat) : G Γ mkR 0 0 114 [(2, .int x2), (3, .ref a3), (4, .ref a4), (5, .ref a5)] [] σ (b_G_confirm_114 σ x2 a3 a4 a5) := by
  unfold b_G_confirm_114
  refine g_aload (pc := 114) (j := 3) K d_G_confirm_114 rfl ?_
  refine g_aload (pc := 116) (j := 2) K d_G_confirm_116 rfl ?_
  refine g_getI (pc := 118) K fl_G_142 d_G_confirm_118 ?_
  refine g_callV (pc := 121) (ci := 1) (a := a5) (vs := [.int (g_i σ a4 0)]) (st := []) (mkc := mkI σ) K rfl (by decide) cn_R_resultOf (fun l hl r hr => k_R_resultOf l hl _ _ _ r hr) mw_447 mw_430 mw_431 ⟨by decide, by decide, by decide, by decide⟩ d_G_confirm_121 rfl rfl (Nat.le_of_ble_eq_true rfl) (fun v11 _ => ?_)
  change G Γ mkR 0 0 124 [(2, .int x2), (3, .ref a3), (4, .ref a4), (5, .ref a5)] [.int v11] σ _
  refine g_aload_n (pc := 124) (j := 1) K d_G_confirm_124 rfl ?_
  refine g_getI (pc := 125) K fl_G_192 d_G_confirm_125 ?_
  refine g_icmp_ne (pc := 128) (tgt := 143) K d_G_confirm_128 (by decide) (fun _ => ?_) (fun _ => ?_)
  · refine g_sub (L' := [(3, .ref a3)]) [1] rfl ?_
    exact gb_G_confirm_143 K S T hI σ a3
  · refine g_aload_n (pc := 131) (j := 1) K d_G_confirm_131 rfl ?_
    refine g_dup (pc := 132) K d_G_confirm_132 rfl ?_
    refine g_getI (pc := 133) K fl_G_198 d_G_confirm_133 ?_
    refine g_iconst (pc := 136) (v := 1) K d_G_confirm_136 (by decide) ?_
    refine g_iload_n (pc := 137) (j := 0) K d_G_confirm_137 rfl ?_
    refine g_ishl (pc := 138) K d_G_confirm_138 ?_
    refine g_ior (pc := 139) K d_G_confirm_139 ?_
    refine g_putI (pc := 140) K fl_G_198 d_G_confirm_140 ?_
    refine g_wi (fun s12 _ => ?_)
    refine g_sub (L' := [(3, .ref a3)]) [1] rfl ?_
    exact gb_G_confirm_143 K S T hI s12 a3
def f_G_confirm (σ : Sg) (a0 : Nat) (x1 : Int32) (x2 : Int32) : Option Rs := ((f_G_isClient σ x1).bind (fun v1 => (if v1 = 0 then (b_G_confirm_14 σ) else ((f_G_isReplica σ x2).bind (fun v2 => (if v2 = 0 then (b_G_confirm_14 σ) else (if a0 < σ.1 ∧ kd a0 = 3 then rc (g_r σ a0 1) none (fun b3 => (if (b3 < σ.1 ∧ kd b3 = 14) ∧ inb x1 (ln b3) = true then rc (g_r σ b3 x1.toNatClampNeg) none (fun b4 => (if b4 < σ.1 ∧ kd b4 = 0 then rc (g_r σ b4 0) (b_G_confirm_50 σ) (fun b5 => (if b4 < σ.1 ∧ kd b4 = 0 then (if (g_i σ b4 1) = (3 : Int32) then (if a0 < σ.1 ∧ kd a0 = 3 then (f_G_serves σ a0 x2).bind (fun v6 => (if v6 = 0 then (some ((.inr "java/lang/UnsupportedOperationException", σ) : Rs)) else (if a0 < σ.1 ∧ kd a0 = 3 then rc (g_r σ a0 0) none (fun b7 => (if (b7 < σ.1 ∧ kd b7 = 13) ∧ inb x2 (ln b7) = true then rc (g_r σ b7 x2.toNatClampNeg) none (fun b8 => (if b5 < σ.1 ∧ kd b5 = 2 then (if b8 < σ.1 ∧ kd b8 = 1 then (f_R_has σ b8 (g_i σ b5 0) (4 : Int32)).bind (fun v9 => (if v9 = 0 then (if b5 < σ.1 ∧ kd b5 = 2 then (if b4 < σ.1 ∧ kd b4 = 0 then (if b8 < σ.1 ∧ kd b8 = 1 then (f_R_makeFinal σ b8 (g_i σ b5 0) (g_i σ b4 3)).bind (fun s10 => (b_G_confirm_114 s10 x2 b4 b5 b8)) else none) else none) else none) else (b_G_confirm_114 σ x2 b4 b5 b8))) else none) else none)) else none)) else none))) else none) else (b_G_confirm_50 σ)) else none)) else none)) else none)) else none)))))))
set_option maxRecDepth 100000 in
set_option maxHeartbeats 4000000 in
theorem k_G_confirm (l : Launch) (hl : l.stackTraces = false) (σ : Sg) (a0 : Nat) (x1 : Int32) (x2 : Int32) (r : Rs) (h : f_G_confirm σ a0 x1 x2 = some r) : Con l y_G_confirm (.code y_G_confirm prog_1_method_8_code 7 (some .int)) rm_G_confirm [.ref a0, .int x1, .int x2] σ (mkR r) := by
  refine Con.of (mk := mkR) (o := f_G_confirm σ a0 x1 x2) (z := r) (L0 := [(0, .ref a0), (1, .int x1), (2, .int x2)]) (bytes := prog_1_method_8_code) (maxL := 7) (ret := (some .int)) (hh := []) hl (by decide +kernel) (Or.inl ⟨rfl, rfl⟩) (by simp [Value.category]) (Nat.le_of_ble_eq_true rfl) rfl (fun Γ K S T hI => ?_) h rfl
  unfold f_G_confirm
  refine g_iload_n (pc := 0) (j := 1) K d_G_confirm_0 rfl ?_
  refine g_callS (pc := 1) (vs := [.int x1]) (st := []) (mkc := mkI σ) K cn_G_isClient (fun l hl r hr => k_G_isClient l hl _ _ r hr) mw_112 mw_113 ⟨by decide, by decide, by decide, by decide⟩ d_G_confirm_1 rfl rfl (Nat.le_of_ble_eq_true rfl) (fun v1 _ => ?_)
  change G Γ mkR 0 0 4 [(0, .ref a0), (1, .int x1), (2, .int x2)] [.int v1] σ _
  refine g_if_eq (pc := 4) (tgt := 14) K d_G_confirm_4 (by decide) (fun _ => ?_) (fun _ => ?_)
  · refine g_sub (L' := []) [] rfl ?_
    exact gb_G_confirm_14 K S T hI σ
  · refine g_iload_n (pc := 7) (j := 2) K d_G_confirm_7 rfl ?_
    refine g_callS (pc := 8) (vs := [.int x2]) (st := []) (mkc := mkI σ) K cn_G_isReplica (fun l hl r hr => k_G_isReplica l hl _ _ r hr) mw_146 mw_147 ⟨by decide, by decide, by decide, by decide⟩ d_G_confirm_8 rfl rfl (Nat.le_of_ble_eq_true rfl) (fun v2 _ => ?_)
    change G Γ mkR 0 0 11 [(0, .ref a0), (1, .int x1), (2, .int x2)] [.int v2] σ _
    refine g_if_ne (pc := 11) (tgt := 24) K d_G_confirm_11 (by decide) (fun _ => ?_) (fun _ => ?_)
    · refine g_aload_n (pc := 24) (j := 0) K d_G_confirm_24 rfl ?_
      refine g_getR (pc := 25) K fl_G_17 d_G_confirm_25 (fun _ => ?_) (fun b3 _ => ?_)
      · exact g_none
      · refine g_iload_n (pc := 28) (j := 1) K d_G_confirm_28 rfl ?_
        refine g_aald (pc := 29) (kq := 14) (t0 := 4) K (by decide) (fun _ => rfl) d_G_confirm_29 (fun _ => ?_) (fun b4 _ => ?_)
        · exact g_none
        · refine g_astore_n (pc := 30) (L' := [(3, .ref b4), (0, .ref a0), (1, .int x1), (2, .int x2)]) K d_G_confirm_30 (by decide) rfl ?_
          refine g_aload_n (pc := 31) (j := 0) K d_G_confirm_31 rfl ?_
          refine g_getR (pc := 32) K fl_G_44 d_G_confirm_32 (fun _ => ?_) (fun b5 _ => ?_)
          · refine g_astoreN (pc := 35) (L' := [(4, .null), (3, .ref b4), (0, .ref a0), (1, .int x1), (2, .int x2)]) K d_G_confirm_35 (by decide) rfl ?_
            refine g_aloadN (pc := 37) (j := 0) K d_G_confirm_37 rfl ?_
            refine g_ifnullN (pc := 39) (tgt := 50) K d_G_confirm_39 (by decide) ?_
            refine g_sub (L' := []) [] rfl ?_
            exact gb_G_confirm_50 K S T hI σ
          · refine g_astore (pc := 35) (L' := [(4, .ref b5), (3, .ref b4), (0, .ref a0), (1, .int x1), (2, .int x2)]) K d_G_confirm_35 (by decide) rfl ?_
            refine g_aload (pc := 37) (j := 0) K d_G_confirm_37 rfl ?_
            refine g_ifnull (pc := 39) K d_G_confirm_39 ?_
            refine g_aload_n (pc := 42) (j := 1) K d_G_confirm_42 rfl ?_
            refine g_getI (pc := 43) K fl_G_68 d_G_confirm_43 ?_
            refine g_iconst (pc := 46) (v := 3) K d_G_confirm_46 (by decide) ?_
            refine g_icmp_eq (pc := 47) (tgt := 60) K d_G_confirm_47 (by decide) (fun _ => ?_) (fun _ => ?_)
            · refine g_aload_n (pc := 60) (j := 2) K d_G_confirm_60 rfl ?_
              refine g_iload_n (pc := 61) (j := 4) K d_G_confirm_61 rfl ?_
              refine g_callV (pc := 62) (ci := 3) (a := a0) (vs := [.int x2]) (st := []) (mkc := mkI σ) K rfl (by decide) cn_G_serves (fun l hl r hr => k_G_serves l hl _ _ _ r hr) mw_324 mw_326 ms_2 ⟨by decide, by decide, by decide, by decide⟩ d_G_confirm_62 rfl rfl (Nat.le_of_ble_eq_true rfl) (fun v6 _ => ?_)
              change G Γ mkR 0 0 65 [(4, .ref b5), (3, .ref b4), (0, .ref a0), (1, .int x1), (2, .int x2)] [.int v6] σ _
              refine g_if_ne (pc := 65) (tgt := 78) K d_G_confirm_65 (by decide) (fun _ => ?_) (fun _ => ?_)
              · refine g_aload_n (pc := 78) (j := 2) K d_G_confirm_78 rfl ?_
                refine g_getR (pc := 79) K fl_G_11 d_G_confirm_79 (fun _ => ?_) (fun b7 _ => ?_)
                · exact g_none
                · refine g_iload_n (pc := 82) (j := 4) K d_G_confirm_82 rfl ?_
                  refine g_aald (pc := 83) (kq := 13) (t0 := 3) K (by decide) (fun _ => rfl) d_G_confirm_83 (fun _ => ?_) (fun b8 _ => ?_)
                  · exact g_none
                  · refine g_astore (pc := 84) (L' := [(5, .ref b8), (4, .ref b5), (3, .ref b4), (0, .ref a0), (1, .int x1), (2, .int x2)]) K d_G_confirm_84 (by decide) rfl ?_
                    refine g_aload (pc := 86) (j := 0) K d_G_confirm_86 rfl ?_
                    refine g_aload (pc := 88) (j := 1) K d_G_confirm_88 rfl ?_
                    refine g_getI (pc := 90) K fl_G_142 d_G_confirm_90 ?_
                    refine g_iconst (pc := 93) (v := 4) K d_G_confirm_93 (by decide) ?_
                    refine g_callV (pc := 94) (ci := 1) (a := b8) (vs := [.int (g_i σ b5 0), .int (4 : Int32)]) (st := []) (mkc := mkI σ) K rfl (by decide) cn_R_has (fun l hl r hr => k_R_has l hl _ _ _ _ r hr) mw_480 mw_435 mw_436 ⟨by decide, by decide, by decide, by decide⟩ d_G_confirm_94 rfl rfl (Nat.le_of_ble_eq_true rfl) (fun v9 _ => ?_)
                    change G Γ mkR 0 0 97 [(5, .ref b8), (4, .ref b5), (3, .ref b4), (0, .ref a0), (1, .int x1), (2, .int x2)] [.int v9] σ _
                    refine g_if_ne (pc := 97) (tgt := 114) K d_G_confirm_97 (by decide) (fun _ => ?_) (fun _ => ?_)
                    · refine g_sub (L' := [(2, .int x2), (3, .ref b4), (4, .ref b5), (5, .ref b8)]) [5, 2, 1, 0] rfl ?_
                      exact gb_G_confirm_114 K S T hI σ x2 b4 b5 b8
                    · refine g_aload (pc := 100) (j := 0) K d_G_confirm_100 rfl ?_
                      refine g_aload (pc := 102) (j := 1) K d_G_confirm_102 rfl ?_
                      refine g_getI (pc := 104) K fl_G_142 d_G_confirm_104 ?_
                      refine g_aload_n (pc := 107) (j := 2) K d_G_confirm_107 rfl ?_
                      refine g_getI (pc := 108) K fl_G_192 d_G_confirm_108 ?_
                      refine g_callV (pc := 111) (ci := 1) (a := b8) (vs := [.int (g_i σ b5 0), .int (g_i σ b4 3)]) (st := []) (mkc := mkV) K rfl (by decide) cn_R_makeFinal (fun l hl r hr => k_R_makeFinal l hl _ _ _ _ r hr) mw_481 mw_482 mw_483 ⟨by decide, by decide, by decide, by decide⟩ d_G_confirm_111 rfl rfl (Nat.le_of_ble_eq_true rfl) (fun s10 _ => ?_)
                      change G Γ mkR 0 0 114 [(5, .ref b8), (4, .ref b5), (3, .ref b4), (0, .ref a0), (1, .int x1), (2, .int x2)] [] s10 _
                      refine g_sub (L' := [(2, .int x2), (3, .ref b4), (4, .ref b5), (5, .ref b8)]) [5, 2, 1, 0] rfl ?_
                      exact gb_G_confirm_114 K S T hI s10 x2 b4 b5 b8
              · exact g_throw (pc := 68) K S T tw_G_89_91_93 (fun _ h => nomatch h) d_G_confirm_68 d_G_confirm_71 d_G_confirm_72 d_G_confirm_74 d_G_confirm_77 (by decide) (by decide) (by decide) (by decide) rfl
            · refine g_sub (L' := []) [] rfl ?_
              exact gb_G_confirm_50 K S T hI σ
    · refine g_sub (L' := []) [] rfl ?_
      exact gb_G_confirm_14 K S T hI σ
