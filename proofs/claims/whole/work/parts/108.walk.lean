-- TapirGroupLaw.confirm(LTapirGroup;II[J)I
def y_L_confirm : MethodName := ⟨"TapirGroupLaw", "confirm", "(LTapirGroup;II[J)I"⟩
abbrev rm_L_confirm : Room := { frames := 7, cells := 1, slots := 6, locals := 116 }
theorem d_L_confirm_0 : decode method_9_code 0 = .ok (.aload_n 3, 1) := by decide +kernel
theorem d_L_confirm_1 : decode method_9_code 1 = .ok (.iconst 0, 1) := by decide +kernel
theorem d_L_confirm_2 : decode method_9_code 2 = .ok (.aload_n 0, 1) := by decide +kernel
theorem d_L_confirm_3 : decode method_9_code 3 = .ok (.iload_n 1, 1) := by decide +kernel
theorem d_L_confirm_4 : decode method_9_code 4 = .ok (.iload_n 2, 1) := by decide +kernel
theorem d_L_confirm_5 : decode method_9_code 5 = .ok (.invokevirtual 40, 3) := by decide +kernel
theorem d_L_confirm_8 : decode method_9_code 8 = .ok (.i2l, 1) := by decide +kernel
theorem d_L_confirm_9 : decode method_9_code 9 = .ok (.lastore, 1) := by decide +kernel
theorem d_L_confirm_10 : decode method_9_code 10 = .ok (.goto 15, 3) := by decide +kernel
theorem d_L_confirm_13 : decode method_9_code 13 = .ok (.astore 4, 2) := by decide +kernel
theorem d_L_confirm_15 : decode method_9_code 15 = .ok (.iconst 1, 1) := by decide +kernel
theorem d_L_confirm_16 : decode method_9_code 16 = .ok (.ireturn, 1) := by decide +kernel
theorem d_L_confirm_17 : decode method_9_code 17 = .ok (.astore 4, 2) := by decide +kernel
theorem d_L_confirm_19 : decode method_9_code 19 = .ok (.iconst 2, 1) := by decide +kernel
theorem d_L_confirm_20 : decode method_9_code 20 = .ok (.ireturn, 1) := by decide +kernel
theorem d_L_confirm_21 : decode method_9_code 21 = .ok (.astore 4, 2) := by decide +kernel
theorem d_L_confirm_23 : decode method_9_code 23 = .ok (.iconst 3, 1) := by decide +kernel
theorem d_L_confirm_24 : decode method_9_code 24 = .ok (.ireturn, 1) := by decide +kernel
theorem d_L_confirm_25 : decode method_9_code 25 = .ok (.iconst 0, 1) := by decide +kernel
theorem d_L_confirm_26 : decode method_9_code 26 = .ok (.ireturn, 1) := by decide +kernel
theorem cn_L_confirm : CN y_L_confirm (.codeWith y_L_confirm method_9_code 5 (some .int) [(0, 10, 13, 13), (0, 10, 17, 15), (0, 10, 21, 21)]) method_9_code 5 (some .int) [(0, 10, 13, 13), (0, 10, 17, 15), (0, 10, 21, 21)] 4 := ⟨Or.inr rfl, mw_474, mw_0, ⟨by decide +kernel, by decide +kernel⟩, by decide +kernel⟩
def f_L_confirm (σ : Sg) (a0 : Nat) (x1 : Int32) (x2 : Int32) (a3 : Nat) : Option (Int32 × Sg) := (if a0 < σ.1 ∧ kd a0 = 3 then (f_G_confirm σ a0 x1 x2).bind (fun w1 => (onI w1.1 (fun x2 => (if (a3 < w1.2.1 ∧ kd a3 = 12) ∧ inb (0 : Int32) (ln a3) = true then (wi (s_l w1.2 a3 (0 : Int32).toNatClampNeg ((x2).toInt64)) (fun s3 => (some ((0 : Int32), s3)))) else none)) (fun E => (if E = "java/lang/IllegalArgumentException" then (some ((1 : Int32), w1.2)) else (if E = "java/lang/IllegalStateException" then (some ((2 : Int32), w1.2)) else (if E = "java/lang/UnsupportedOperationException" then (some ((3 : Int32), w1.2)) else none)))))) else none)
set_option maxRecDepth 100000 in
set_option maxHeartbeats 4000000 in
theorem k_L_confirm (l : Launch) (hl : l.stackTraces = false) (σ : Sg) (a0 : Nat) (x1 : Int32) (x2 : Int32) (a3 : Nat) (r : (Int32 × Sg)) (h : f_L_confirm σ a0 x1 x2 a3 = some r) : Con l y_L_confirm (.codeWith y_L_confirm method_9_code 5 (some .int) [(0, 10, 13, 13), (0, 10, 17, 15), (0, 10, 21, 21)]) rm_L_confirm [.ref a0, .int x1, .int x2, .ref a3] σ (mkW r) := by
  refine Con.of (mk := mkW) (o := f_L_confirm σ a0 x1 x2 a3) (z := r) (L0 := [(0, .ref a0), (1, .int x1), (2, .int x2), (3, .ref a3)]) (bytes := method_9_code) (maxL := 5) (ret := (some .int)) (hh := [(0, 10, 13, 13), (0, 10, 17, 15), (0, 10, 21, 21)]) hl (by decide +kernel) (Or.inr rfl) (by simp [Value.category]) (Nat.le_of_ble_eq_true rfl) rfl (fun Γ K S T hI => ?_) h rfl
  unfold f_L_confirm
  refine g_aload_n (pc := 0) (j := 3) K d_L_confirm_0 rfl ?_
  refine g_iconst (pc := 1) (v := 0) K d_L_confirm_1 (by decide) ?_
  refine g_aload_n (pc := 2) (j := 0) K d_L_confirm_2 rfl ?_
  refine g_iload_n (pc := 3) (j := 1) K d_L_confirm_3 rfl ?_
  refine g_iload_n (pc := 4) (j := 2) K d_L_confirm_4 rfl ?_
  refine g_callV (pc := 5) (ci := 3) (a := a0) (vs := [.int x1, .int x2]) (st := [.int (0 : Int32), .ref a3]) (mkc := mkR) K rfl (by decide) cn_G_confirm (fun l hl r hr => k_G_confirm l hl _ _ _ _ r hr) mw_475 mw_476 mw_477 ⟨by decide, by decide, by decide, by decide⟩ d_L_confirm_5 rfl rfl (Nat.le_of_ble_eq_true rfl) (fun w1 _ => ?_)
  refine g_onI (fun x2 => ?_) (fun E => ?_)
  · refine g_i2l (pc := 8) K d_L_confirm_8 ?_
    refine g_last (pc := 9) K d_L_confirm_9 ?_
    refine g_wi (fun s3 _ => ?_)
    refine g_goto (pc := 10) (tgt := 25) K d_L_confirm_10 (by decide) ?_
    refine g_iconst (pc := 25) (v := 0) K d_L_confirm_25 (by decide) ?_
    exact g_iret (pc := 26) K S rfl d_L_confirm_26 (by decide) (by decide) rfl
  · refine gt_ite (fun h => ?_) (fun _ => ?_)
    · subst h
      refine g_catch2 (L' := [(0, .ref a0), (1, .int x1), (2, .int x2), (3, .ref a3)]) K T [] (0, 10, 13, 13) [(0, 10, 17, 15), (0, 10, 21, 21)] rfl (fun _ h => nomatch h) (by decide) (by decide) mw_170 mw_177 (by decide) d_L_confirm_13 rfl ?_
      refine g_iconst (pc := 15) (v := 1) K d_L_confirm_15 (by decide) ?_
      exact g_iret (pc := 16) K S rfl d_L_confirm_16 (by decide) (by decide) rfl
    refine gt_ite (fun h => ?_) (fun _ => ?_)
    · subst h
      refine g_catch2 (L' := [(0, .ref a0), (1, .int x1), (2, .int x2), (3, .ref a3)]) K T [(0, 10, 13, 13)] (0, 10, 17, 15) [(0, 10, 21, 21)] rfl (by intro z hz; rcases List.mem_cons.mp hz with rfl | hz; exact ⟨by decide, by decide, "java/lang/IllegalArgumentException", mw_170, by decide +kernel⟩; cases hz) (by decide) (by decide) mw_171 mw_246 (by decide) d_L_confirm_17 rfl ?_
      refine g_iconst (pc := 19) (v := 2) K d_L_confirm_19 (by decide) ?_
      exact g_iret (pc := 20) K S rfl d_L_confirm_20 (by decide) (by decide) rfl
    refine gt_ite (fun h => ?_) (fun _ => ?_)
    · subst h
      refine g_catch2 (L' := [(0, .ref a0), (1, .int x1), (2, .int x2), (3, .ref a3)]) K T [(0, 10, 13, 13), (0, 10, 17, 15)] (0, 10, 21, 21) [] rfl (by intro z hz; rcases List.mem_cons.mp hz with rfl | hz; exact ⟨by decide, by decide, "java/lang/IllegalArgumentException", mw_170, by decide +kernel⟩; rcases List.mem_cons.mp hz with rfl | hz; exact ⟨by decide, by decide, "java/lang/IllegalStateException", mw_171, by decide +kernel⟩; cases hz) (by decide) (by decide) mw_308 mw_329 (by decide) d_L_confirm_21 rfl ?_
      refine g_iconst (pc := 23) (v := 3) K d_L_confirm_23 (by decide) ?_
      exact g_iret (pc := 24) K S rfl d_L_confirm_24 (by decide) (by decide) rfl
    exact gt_none
-- TapirGroup$Client.isDecided()Z
def y_C_isDecided : MethodName := ⟨"TapirGroup$Client", "isDecided", "()Z"⟩
abbrev rm_C_isDecided : Room := { frames := 0, cells := 0, slots := 0, locals := 0 }
theorem d_C_isDecided_0 : decode prog_2_method_9_code 0 = .ok (.aload_n 0, 1) := by decide +kernel
theorem d_C_isDecided_1 : decode prog_2_method_9_code 1 = .ok (.getfield 15, 3) := by decide +kernel
theorem d_C_isDecided_4 : decode prog_2_method_9_code 4 = .ok (.iconst 4, 1) := by decide +kernel
theorem d_C_isDecided_5 : decode prog_2_method_9_code 5 = .ok (.if_icmp .eq 11, 3) := by decide +kernel
theorem d_C_isDecided_8 : decode prog_2_method_9_code 8 = .ok (.aload_n 0, 1) := by decide +kernel
theorem d_C_isDecided_9 : decode prog_2_method_9_code 9 = .ok (.getfield 15, 3) := by decide +kernel
theorem d_C_isDecided_12 : decode prog_2_method_9_code 12 = .ok (.iconst 5, 1) := by decide +kernel
theorem d_C_isDecided_13 : decode prog_2_method_9_code 13 = .ok (.if_icmp .ne 7, 3) := by decide +kernel
theorem d_C_isDecided_16 : decode prog_2_method_9_code 16 = .ok (.iconst 1, 1) := by decide +kernel
theorem d_C_isDecided_17 : decode prog_2_method_9_code 17 = .ok (.goto 4, 3) := by decide +kernel
theorem d_C_isDecided_20 : decode prog_2_method_9_code 20 = .ok (.iconst 0, 1) := by decide +kernel
theorem d_C_isDecided_21 : decode prog_2_method_9_code 21 = .ok (.ireturn, 1) := by decide +kernel
theorem cn_C_isDecided : CN y_C_isDecided (.code y_C_isDecided prog_2_method_9_code 1 (some .boolean)) prog_2_method_9_code 1 (some .boolean) [] 0 := ⟨Or.inl ⟨rfl, rfl⟩, mw_495, mw_4, ⟨by decide +kernel, by decide +kernel⟩, by decide +kernel⟩
def b_C_isDecided_21 (σ : Sg)  (t0 : Int32) : Option Int32 := (if t0 = 0 ∨ t0 = 1 then some t0 else none)
set_option maxRecDepth 100000 in
set_option maxHeartbeats 4000000 in
theorem gb_C_isDecided_21 {Γ : GX} (K : Cx Γ "TapirGroup$Client" prog_2_method_9_code 1 rm_C_isDecided) (S : Std Γ (some .boolean)) (T : Tb Γ []) (hI : y_C_isDecided.name = "<init>" → Ini Γ) (σ : Sg) (t0 : Int32) : G Γ (mkI σ) 0 0 21 [] [.int t0] σ (b_C_isDecided_21 σ t0) := by
  unfold b_C_isDecided_21
  exact g_zret (pc := 21) K S d_C_isDecided_21 (by decide) (by decide) rfl
def b_C_isDecided_16 (σ : Sg)   : Option Int32 := (b_C_isDecided_21 σ (1 : Int32))
set_option maxRecDepth 100000 in
set_option maxHeartbeats 4000000 in
theorem gb_C_isDecided_16 {Γ : GX} (K : Cx Γ "TapirGroup$Client" prog_2_method_9_code 1 rm_C_isDecided) (S : Std Γ (some .boolean)) (T : Tb Γ []) (hI : y_C_isDecided.name = "<init>" → Ini Γ) (σ : Sg)  : G Γ (mkI σ) 0 0 16 [] [] σ (b_C_isDecided_16 σ ) := by
  unfold b_C_isDecided_16
  refine g_iconst (pc := 16) (v := 1) K d_C_isDecided_16 (by decide) ?_
  refine g_goto (pc := 17) (tgt := 21) K d_C_isDecided_17 (by decide) ?_
  exact gb_C_isDecided_21 K S T hI σ (1 : Int32)
def f_C_isDecided (σ : Sg) (a0 : Nat) : Option Int32 := (if a0 < σ.1 ∧ kd a0 = 0 then (if (g_i σ a0 1) = (4 : Int32) then (b_C_isDecided_16 σ) else (if a0 < σ.1 ∧ kd a0 = 0 then (if (g_i σ a0 1) = (5 : Int32) then (b_C_isDecided_16 σ) else (b_C_isDecided_21 σ (0 : Int32))) else none)) else none)
set_option maxRecDepth 100000 in
set_option maxHeartbeats 4000000 in
theorem k_C_isDecided (l : Launch) (hl : l.stackTraces = false) (σ : Sg) (a0 : Nat) (r : Int32) (h : f_C_isDecided σ a0 = some r) : Con l y_C_isDecided (.code y_C_isDecided prog_2_method_9_code 1 (some .boolean)) rm_C_isDecided [.ref a0] σ ((mkI σ) r) := by
  refine Con.of (mk := (mkI σ)) (o := f_C_isDecided σ a0) (z := r) (L0 := [(0, .ref a0)]) (bytes := prog_2_method_9_code) (maxL := 1) (ret := (some .boolean)) (hh := []) hl (by decide +kernel) (Or.inl ⟨rfl, rfl⟩) (by simp [Value.category]) (Nat.le_of_ble_eq_true rfl) rfl (fun Γ K S T hI => ?_) h rfl
  unfold f_C_isDecided
  refine g_aload_n (pc := 0) (j := 0) K d_C_isDecided_0 rfl ?_
  refine g_getI (pc := 1) K fl_C_15 d_C_isDecided_1 ?_
  refine g_iconst (pc := 4) (v := 4) K d_C_isDecided_4 (by decide) ?_
  refine g_icmp_eq (pc := 5) (tgt := 16) K d_C_isDecided_5 (by decide) (fun _ => ?_) (fun _ => ?_)
  · refine g_sub (L' := []) [] rfl ?_
    exact gb_C_isDecided_16 K S T hI σ
  · refine g_aload_n (pc := 8) (j := 0) K d_C_isDecided_8 rfl ?_
    refine g_getI (pc := 9) K fl_C_15 d_C_isDecided_9 ?_
    refine g_iconst (pc := 12) (v := 5) K d_C_isDecided_12 (by decide) ?_
    refine g_icmp_ne (pc := 13) (tgt := 20) K d_C_isDecided_13 (by decide) (fun _ => ?_) (fun _ => ?_)
    · refine g_iconst (pc := 20) (v := 0) K d_C_isDecided_20 (by decide) ?_
      refine g_sub (L' := []) [] rfl ?_
      exact gb_C_isDecided_21 K S T hI σ (0 : Int32)
    · refine g_sub (L' := []) [] rfl ?_
      exact gb_C_isDecided_16 K S T hI σ
-- TapirGroup$Replica.takeIn(LTapirGroup$Transaction;)V
def y_R_takeIn : MethodName := ⟨"TapirGroup$Replica", "takeIn", "(LTapirGroup$Transaction;)V"⟩
abbrev rm_R_takeIn : Room := { frames := 1, cells := 0, slots := 0, locals := 21 }
theorem d_R_takeIn_0 : decode prog_3_method_11_code 0 = .ok (.iconst 0, 1) := by decide +kernel
theorem d_R_takeIn_1 : decode prog_3_method_11_code 1 = .ok (.istore_n 2, 1) := by decide +kernel
theorem d_R_takeIn_2 : decode prog_3_method_11_code 2 = .ok (.iload_n 2, 1) := by decide +kernel
theorem d_R_takeIn_3 : decode prog_3_method_11_code 3 = .ok (.bipush 6, 2) := by decide +kernel
theorem d_R_takeIn_5 : decode prog_3_method_11_code 5 = .ok (.if_icmp .ge 79, 3) := by decide +kernel
theorem d_R_takeIn_8 : decode prog_3_method_11_code 8 = .ok (.aload_n 1, 1) := by decide +kernel
theorem d_R_takeIn_9 : decode prog_3_method_11_code 9 = .ok (.iload_n 2, 1) := by decide +kernel
theorem d_R_takeIn_10 : decode prog_3_method_11_code 10 = .ok (.invokevirtual 61, 3) := by decide +kernel
theorem d_R_takeIn_13 : decode prog_3_method_11_code 13 = .ok (.ifCond .eq 38, 3) := by decide +kernel
theorem d_R_takeIn_16 : decode prog_3_method_11_code 16 = .ok (.aload_n 1, 1) := by decide +kernel
theorem d_R_takeIn_17 : decode prog_3_method_11_code 17 = .ok (.getfield 58, 3) := by decide +kernel
theorem d_R_takeIn_20 : decode prog_3_method_11_code 20 = .ok (.aload_n 0, 1) := by decide +kernel
theorem d_R_takeIn_21 : decode prog_3_method_11_code 21 = .ok (.getfield 19, 3) := by decide +kernel
theorem d_R_takeIn_24 : decode prog_3_method_11_code 24 = .ok (.iload_n 2, 1) := by decide +kernel
theorem d_R_takeIn_25 : decode prog_3_method_11_code 25 = .ok (.iaload, 1) := by decide +kernel
theorem d_R_takeIn_26 : decode prog_3_method_11_code 26 = .ok (.if_icmp .le 25, 3) := by decide +kernel
theorem d_R_takeIn_29 : decode prog_3_method_11_code 29 = .ok (.aload_n 0, 1) := by decide +kernel
theorem d_R_takeIn_30 : decode prog_3_method_11_code 30 = .ok (.getfield 19, 3) := by decide +kernel
theorem d_R_takeIn_33 : decode prog_3_method_11_code 33 = .ok (.iload_n 2, 1) := by decide +kernel
theorem d_R_takeIn_34 : decode prog_3_method_11_code 34 = .ok (.aload_n 1, 1) := by decide +kernel
theorem d_R_takeIn_35 : decode prog_3_method_11_code 35 = .ok (.getfield 58, 3) := by decide +kernel
theorem d_R_takeIn_38 : decode prog_3_method_11_code 38 = .ok (.iastore, 1) := by decide +kernel
theorem d_R_takeIn_39 : decode prog_3_method_11_code 39 = .ok (.aload_n 0, 1) := by decide +kernel
theorem d_R_takeIn_40 : decode prog_3_method_11_code 40 = .ok (.getfield 23, 3) := by decide +kernel
theorem d_R_takeIn_43 : decode prog_3_method_11_code 43 = .ok (.iload_n 2, 1) := by decide +kernel
theorem d_R_takeIn_44 : decode prog_3_method_11_code 44 = .ok (.aload_n 1, 1) := by decide +kernel
theorem d_R_takeIn_45 : decode prog_3_method_11_code 45 = .ok (.getfield 64, 3) := by decide +kernel
theorem d_R_takeIn_48 : decode prog_3_method_11_code 48 = .ok (.iload_n 2, 1) := by decide +kernel
theorem d_R_takeIn_49 : decode prog_3_method_11_code 49 = .ok (.iaload, 1) := by decide +kernel
theorem d_R_takeIn_50 : decode prog_3_method_11_code 50 = .ok (.iastore, 1) := by decide +kernel
theorem d_R_takeIn_51 : decode prog_3_method_11_code 51 = .ok (.aload_n 1, 1) := by decide +kernel
theorem d_R_takeIn_52 : decode prog_3_method_11_code 52 = .ok (.iload_n 2, 1) := by decide +kernel
theorem d_R_takeIn_53 : decode prog_3_method_11_code 53 = .ok (.invokevirtual 50, 3) := by decide +kernel
theorem d_R_takeIn_56 : decode prog_3_method_11_code 56 = .ok (.ifCond .eq 22, 3) := by decide +kernel
theorem d_R_takeIn_59 : decode prog_3_method_11_code 59 = .ok (.aload_n 0, 1) := by decide +kernel
theorem d_R_takeIn_60 : decode prog_3_method_11_code 60 = .ok (.getfield 26, 3) := by decide +kernel
theorem d_R_takeIn_63 : decode prog_3_method_11_code 63 = .ok (.iload_n 2, 1) := by decide +kernel
theorem d_R_takeIn_64 : decode prog_3_method_11_code 64 = .ok (.aload_n 0, 1) := by decide +kernel
theorem d_R_takeIn_65 : decode prog_3_method_11_code 65 = .ok (.getfield 26, 3) := by decide +kernel
theorem d_R_takeIn_68 : decode prog_3_method_11_code 68 = .ok (.iload_n 2, 1) := by decide +kernel
theorem d_R_takeIn_69 : decode prog_3_method_11_code 69 = .ok (.iaload, 1) := by decide +kernel
theorem d_R_takeIn_70 : decode prog_3_method_11_code 70 = .ok (.aload_n 1, 1) := by decide +kernel
theorem d_R_takeIn_71 : decode prog_3_method_11_code 71 = .ok (.getfield 58, 3) := by decide +kernel
theorem d_R_takeIn_74 : decode prog_3_method_11_code 74 = .ok (.invokestatic 67, 3) := by decide +kernel
theorem d_R_takeIn_77 : decode prog_3_method_11_code 77 = .ok (.iastore, 1) := by decide +kernel
theorem d_R_takeIn_78 : decode prog_3_method_11_code 78 = .ok (.iinc 2 1, 3) := by decide +kernel
theorem d_R_takeIn_81 : decode prog_3_method_11_code 81 = .ok (.goto (-79), 3) := by decide +kernel
theorem d_R_takeIn_84 : decode prog_3_method_11_code 84 = .ok (.return_, 1) := by decide +kernel
theorem cn_R_takeIn : CN y_R_takeIn (.code y_R_takeIn prog_3_method_11_code 3 none) prog_3_method_11_code 3 none [] 1 := ⟨Or.inl ⟨rfl, rfl⟩, mw_500, mw_2, ⟨by decide +kernel, by decide +kernel⟩, by decide +kernel⟩
def b_R_takeIn_78 (k : Sg → Nat → Nat → Int32 → Option Sg) (σ : Sg) (a0 : Nat) (a1 : Nat) (x2 : Int32) : Option Sg := (k σ a0 a1 (x2 + 1))
set_option maxRecDepth 100000 in
set_option maxHeartbeats 4000000 in
theorem gb_R_takeIn_78 {Γ : GX} (K : Cx Γ "TapirGroup$Replica" prog_3_method_11_code 3 rm_R_takeIn) (S : Std Γ none) (T : Tb Γ []) (hI : y_R_takeIn.name = "<init>" → Ini Γ) (k : Sg → Nat → Nat → Int32 → Option Sg) (hk : ∀ (σ : Sg) (a0 : Nat) (a1 : Nat) (x2 : Int32), G Γ mkV 0 0 2 [(0, .ref a0), (1, .ref a1), (2, .int x2)] [] σ (k σ a0 a1 x2)) (σ : Sg) (a0 : Nat) (a1 : Nat) (x2 : Int32) : G Γ mkV 0 0 78 [(0, .ref a0), (1, .ref a1), (2, .int x2)] [] σ (b_R_takeIn_78 k σ a0 a1 x2) := by
  unfold b_R_takeIn_78
  refine g_iinc (pc := 78) (j := 2) (v := (x2 + 1)) (L' := [(2, .int (x2 + 1)), (0, .ref a0), (1, .ref a1)]) K d_R_takeIn_78 rfl (by rfl) (by decide) rfl ?_
  refine g_goto (pc := 81) (tgt := 2) K d_R_takeIn_81 (by decide) ?_
  refine g_sub (L' := [(0, .ref a0), (1, .ref a1), (2, .int (x2 + 1))]) [1, 2, 0] rfl ?_
  exact hk σ a0 a1 (x2 + 1)
def b_R_takeIn_51 (k : Sg → Nat → Nat → Int32 → Option Sg) (σ : Sg) (a0 : Nat) (a1 : Nat) (x2 : Int32) : Option Sg := (if a1 < σ.1 ∧ kd a1 = 2 then (f_T_hasRead σ a1 x2).bind (fun v8 => (if v8 = 0 then (b_R_takeIn_78 k σ a0 a1 x2) else (if a0 < σ.1 ∧ kd a0 = 1 then rc (g_r σ a0 4) none (fun b9 => (if a0 < σ.1 ∧ kd a0 = 1 then rc (g_r σ a0 4) none (fun b10 => (if (b10 < σ.1 ∧ kd b10 = 10) ∧ inb x2 (ln b10) = true then (if a1 < σ.1 ∧ kd a1 = 2 then ((f_J_max σ (g_i σ b10 x2.toNatClampNeg) (g_i σ a1 1)).bind (fun v11 => (if (b9 < σ.1 ∧ kd b9 = 10) ∧ inb x2 (ln b9) = true then (wi (s_i σ b9 x2.toNatClampNeg v11) (fun s12 => (b_R_takeIn_78 k s12 a0 a1 x2))) else none))) else none) else none)) else none)) else none))) else none)
set_option maxRecDepth 100000 in
set_option maxHeartbeats 4000000 in
theorem gb_R_takeIn_51 {Γ : GX} (K : Cx Γ "TapirGroup$Replica" prog_3_method_11_code 3 rm_R_takeIn) (S : Std Γ none) (T : Tb Γ []) (hI : y_R_takeIn.name = "<init>" → Ini Γ) (k : Sg → Nat → Nat → Int32 → Option Sg) (hk : ∀ (σ : Sg) (a0 : Nat) (a1 : Nat) (x2 : Int32), G Γ mkV 0 0 2 [(0, .ref a0), (1, .ref a1), (2, .int x2)] [] σ (k σ a0 a1 x2)) (σ : Sg) (a0 : Nat) (a1 : Nat) (x2 : Int32) : G Γ mkV 0 0 51 [(0, .ref a0), (1, .ref a1), (2, .int x2)] [] σ (b_R_takeIn_51 k σ a0 a1 x2) := by
  unfold b_R_takeIn_51
  refine g_aload_n (pc := 51) (j := 1) K d_R_takeIn_51 rfl ?_
  refine g_iload_n (pc := 52) (j := 2) K d_R_takeIn_52 rfl ?_
  refine g_callV (pc := 53) (ci := 2) (a := a1) (vs := [.int x2]) (st := []) (mkc := mkI σ) K rfl (by decide) cn_T_hasRead (fun l hl r hr => k_T_hasRead l hl _ _ _ r hr) mw_420 mw_321 mw_322 ⟨by decide, by decide, by decide, by decide⟩ d_R_takeIn_53 rfl rfl (Nat.le_of_ble_eq_true rfl) (fun v8 _ => ?_)
  change G Γ mkV 0 0 56 [(0, .ref a0), (1, .ref a1), (2, .int x2)] [.int v8] σ _
  refine g_if_eq (pc := 56) (tgt := 78) K d_R_takeIn_56 (by decide) (fun _ => ?_) (fun _ => ?_)
  · exact gb_R_takeIn_78 K S T hI k hk σ a0 a1 x2
  · refine g_aload_n (pc := 59) (j := 0) K d_R_takeIn_59 rfl ?_
    refine g_getR (pc := 60) K fl_R_26 d_R_takeIn_60 (fun _ => ?_) (fun b9 _ => ?_)
    · exact g_none
    · refine g_iload_n (pc := 63) (j := 2) K d_R_takeIn_63 rfl ?_
      refine g_aload_n (pc := 64) (j := 0) K d_R_takeIn_64 rfl ?_
      refine g_getR (pc := 65) K fl_R_26 d_R_takeIn_65 (fun _ => ?_) (fun b10 _ => ?_)
      · exact g_none
      · refine g_iload_n (pc := 68) (j := 2) K d_R_takeIn_68 rfl ?_
        refine g_iald (pc := 69) K d_R_takeIn_69 ?_
        refine g_aload_n (pc := 70) (j := 1) K d_R_takeIn_70 rfl ?_
        refine g_getI (pc := 71) K fl_R_58 d_R_takeIn_71 ?_
        refine g_callS (pc := 74) (vs := [.int (g_i σ b10 x2.toNatClampNeg), .int (g_i σ a1 1)]) (st := [.int x2, .ref b9]) (mkc := mkI σ) K cn_J_max (fun l hl r hr => k_J_max l hl _ _ _ r hr) mw_501 mw_165 ⟨by decide, by decide, by decide, by decide⟩ d_R_takeIn_74 rfl rfl (Nat.le_of_ble_eq_true rfl) (fun v11 _ => ?_)
        change G Γ mkV 0 0 77 [(0, .ref a0), (1, .ref a1), (2, .int x2)] [.int v11, .int x2, .ref b9] σ _
        refine g_iast (pc := 77) K d_R_takeIn_77 ?_
        refine g_wi (fun s12 _ => ?_)
        exact gb_R_takeIn_78 K S T hI k hk s12 a0 a1 x2
def b_R_takeIn_2 : Nat → Sg → Nat → Nat → Int32 → Option Sg
  | 0 => fun _ _ _ _ => none
  | n + 1 => fun σ a0 a1 x2 => (if (6 : Int32) ≤ x2 then (some σ) else (if a1 < σ.1 ∧ kd a1 = 2 then (f_T_hasWritten σ a1 x2).bind (fun v1 => (if v1 = 0 then (b_R_takeIn_51 (b_R_takeIn_2 n) σ a0 a1 x2) else (if a1 < σ.1 ∧ kd a1 = 2 then (if a0 < σ.1 ∧ kd a0 = 1 then rc (g_r σ a0 2) none (fun b2 => (if (b2 < σ.1 ∧ kd b2 = 10) ∧ inb x2 (ln b2) = true then (if (g_i σ a1 1) ≤ (g_i σ b2 x2.toNatClampNeg) then (b_R_takeIn_51 (b_R_takeIn_2 n) σ a0 a1 x2) else (if a0 < σ.1 ∧ kd a0 = 1 then rc (g_r σ a0 2) none (fun b3 => (if a1 < σ.1 ∧ kd a1 = 2 then (if (b3 < σ.1 ∧ kd b3 = 10) ∧ inb x2 (ln b3) = true then (wi (s_i σ b3 x2.toNatClampNeg (g_i σ a1 1)) (fun s4 => (if a0 < s4.1 ∧ kd a0 = 1 then rc (g_r s4 a0 3) none (fun b5 => (if a1 < s4.1 ∧ kd a1 = 2 then rc (g_r s4 a1 6) none (fun b6 => (if (b6 < s4.1 ∧ kd b6 = 10) ∧ inb x2 (ln b6) = true then (if (b5 < s4.1 ∧ kd b5 = 10) ∧ inb x2 (ln b5) = true then (wi (s_i s4 b5 x2.toNatClampNeg (g_i s4 b6 x2.toNatClampNeg)) (fun s7 => (b_R_takeIn_51 (b_R_takeIn_2 n) s7 a0 a1 x2))) else none) else none)) else none)) else none))) else none) else none)) else none)) else none)) else none) else none))) else none))
set_option maxRecDepth 100000 in
set_option maxHeartbeats 4000000 in
theorem gb_R_takeIn_2 {Γ : GX} (K : Cx Γ "TapirGroup$Replica" prog_3_method_11_code 3 rm_R_takeIn) (S : Std Γ none) (T : Tb Γ []) (hI : y_R_takeIn.name = "<init>" → Ini Γ) (n : Nat) : ∀ (σ : Sg) (a0 : Nat) (a1 : Nat) (x2 : Int32), G Γ mkV 0 0 2 [(0, .ref a0), (1, .ref a1), (2, .int x2)] [] σ (b_R_takeIn_2 n σ a0 a1 x2) := by
  induction n with
  | zero =>
    intro σ a0 a1 x2
    exact g_none
  | succ n ih =>
    intro σ a0 a1 x2
    rw [b_R_takeIn_2]
    refine g_iload_n (pc := 2) (j := 2) K d_R_takeIn_2 rfl ?_
    refine g_bipush (pc := 3) (v := 6) K d_R_takeIn_3 (by decide) ?_
    refine g_icmp_ge (pc := 5) (tgt := 84) K d_R_takeIn_5 (by decide) (fun _ => ?_) (fun _ => ?_)
    · exact g_vret (pc := 84) K S d_R_takeIn_84 (by decide) (by decide) rfl
    · refine g_aload_n (pc := 8) (j := 1) K d_R_takeIn_8 rfl ?_
      refine g_iload_n (pc := 9) (j := 2) K d_R_takeIn_9 rfl ?_
      refine g_callV (pc := 10) (ci := 2) (a := a1) (vs := [.int x2]) (st := []) (mkc := mkI σ) K rfl (by decide) cn_T_hasWritten (fun l hl r hr => k_T_hasWritten l hl _ _ _ r hr) mw_442 mw_317 mw_318 ⟨by decide, by decide, by decide, by decide⟩ d_R_takeIn_10 rfl rfl (Nat.le_of_ble_eq_true rfl) (fun v1 _ => ?_)
      change G Γ mkV 0 0 13 [(0, .ref a0), (1, .ref a1), (2, .int x2)] [.int v1] σ _
      refine g_if_eq (pc := 13) (tgt := 51) K d_R_takeIn_13 (by decide) (fun _ => ?_) (fun _ => ?_)
      · exact gb_R_takeIn_51 K S T hI (b_R_takeIn_2 n) ih σ a0 a1 x2
      · refine g_aload_n (pc := 16) (j := 1) K d_R_takeIn_16 rfl ?_
        refine g_getI (pc := 17) K fl_R_58 d_R_takeIn_17 ?_
        refine g_aload_n (pc := 20) (j := 0) K d_R_takeIn_20 rfl ?_
        refine g_getR (pc := 21) K fl_R_19 d_R_takeIn_21 (fun _ => ?_) (fun b2 _ => ?_)
        · exact g_none
        · refine g_iload_n (pc := 24) (j := 2) K d_R_takeIn_24 rfl ?_
          refine g_iald (pc := 25) K d_R_takeIn_25 ?_
          refine g_icmp_le (pc := 26) (tgt := 51) K d_R_takeIn_26 (by decide) (fun _ => ?_) (fun _ => ?_)
          · exact gb_R_takeIn_51 K S T hI (b_R_takeIn_2 n) ih σ a0 a1 x2
          · refine g_aload_n (pc := 29) (j := 0) K d_R_takeIn_29 rfl ?_
            refine g_getR (pc := 30) K fl_R_19 d_R_takeIn_30 (fun _ => ?_) (fun b3 _ => ?_)
            · exact g_none
            · refine g_iload_n (pc := 33) (j := 2) K d_R_takeIn_33 rfl ?_
              refine g_aload_n (pc := 34) (j := 1) K d_R_takeIn_34 rfl ?_
              refine g_getI (pc := 35) K fl_R_58 d_R_takeIn_35 ?_
              refine g_iast (pc := 38) K d_R_takeIn_38 ?_
              refine g_wi (fun s4 _ => ?_)
              refine g_aload_n (pc := 39) (j := 0) K d_R_takeIn_39 rfl ?_
              refine g_getR (pc := 40) K fl_R_23 d_R_takeIn_40 (fun _ => ?_) (fun b5 _ => ?_)
              · exact g_none
              · refine g_iload_n (pc := 43) (j := 2) K d_R_takeIn_43 rfl ?_
                refine g_aload_n (pc := 44) (j := 1) K d_R_takeIn_44 rfl ?_
                refine g_getR (pc := 45) K fl_R_64 d_R_takeIn_45 (fun _ => ?_) (fun b6 _ => ?_)
                · exact g_none
                · refine g_iload_n (pc := 48) (j := 2) K d_R_takeIn_48 rfl ?_
                  refine g_iald (pc := 49) K d_R_takeIn_49 ?_
                  refine g_iast (pc := 50) K d_R_takeIn_50 ?_
                  refine g_wi (fun s7 _ => ?_)
                  exact gb_R_takeIn_51 K S T hI (b_R_takeIn_2 n) ih s7 a0 a1 x2
def f_R_takeIn (σ : Sg) (a0 : Nat) (a1 : Nat) : Option Sg := (b_R_takeIn_2 1000 σ a0 a1 (0 : Int32))
set_option maxRecDepth 100000 in
set_option maxHeartbeats 4000000 in
theorem k_R_takeIn (l : Launch) (hl : l.stackTraces = false) (σ : Sg) (a0 : Nat) (a1 : Nat) (r : Sg) (h : f_R_takeIn σ a0 a1 = some r) : Con l y_R_takeIn (.code y_R_takeIn prog_3_method_11_code 3 none) rm_R_takeIn [.ref a0, .ref a1] σ (mkV r) := by
  refine Con.of (mk := mkV) (o := f_R_takeIn σ a0 a1) (z := r) (L0 := [(0, .ref a0), (1, .ref a1)]) (bytes := prog_3_method_11_code) (maxL := 3) (ret := none) (hh := []) hl (by decide +kernel) (Or.inl ⟨rfl, rfl⟩) (by simp [Value.category]) (Nat.le_of_ble_eq_true rfl) rfl (fun Γ K S T hI => ?_) h rfl
  unfold f_R_takeIn
  refine g_iconst (pc := 0) (v := 0) K d_R_takeIn_0 (by decide) ?_
  refine g_istore_n (pc := 1) (L' := [(2, .int (0 : Int32)), (0, .ref a0), (1, .ref a1)]) K d_R_takeIn_1 (by decide) rfl ?_
  refine g_sub (L' := [(0, .ref a0), (1, .ref a1), (2, .int (0 : Int32))]) [1, 2, 0] rfl ?_
  exact gb_R_takeIn_2 K S T hI 1000 σ a0 a1 (0 : Int32)
-- TapirGroup$Replica.mark(III)V
def y_R_mark : MethodName := ⟨"TapirGroup$Replica", "mark", "(III)V"⟩
abbrev rm_R_mark : Room := { frames := 1, cells := 0, slots := 0, locals := 21 }
theorem d_R_mark_0 : decode prog_3_method_8_code 0 = .ok (.aload_n 0, 1) := by decide +kernel
theorem d_R_mark_1 : decode prog_3_method_8_code 1 = .ok (.iload_n 1, 1) := by decide +kernel
theorem d_R_mark_2 : decode prog_3_method_8_code 2 = .ok (.invokevirtual 38, 3) := by decide +kernel
theorem d_R_mark_5 : decode prog_3_method_8_code 5 = .ok (.ifCond .eq 12, 3) := by decide +kernel
theorem d_R_mark_8 : decode prog_3_method_8_code 8 = .ok (.aload_n 0, 1) := by decide +kernel
theorem d_R_mark_9 : decode prog_3_method_8_code 9 = .ok (.getfield 29, 3) := by decide +kernel
theorem d_R_mark_12 : decode prog_3_method_8_code 12 = .ok (.iload_n 1, 1) := by decide +kernel
theorem d_R_mark_13 : decode prog_3_method_8_code 13 = .ok (.iaload, 1) := by decide +kernel
theorem d_R_mark_14 : decode prog_3_method_8_code 14 = .ok (.goto 4, 3) := by decide +kernel
theorem d_R_mark_17 : decode prog_3_method_8_code 17 = .ok (.iload_n 3, 1) := by decide +kernel
theorem d_R_mark_18 : decode prog_3_method_8_code 18 = .ok (.istore 4, 2) := by decide +kernel
theorem d_R_mark_20 : decode prog_3_method_8_code 20 = .ok (.aload_n 0, 1) := by decide +kernel
theorem d_R_mark_21 : decode prog_3_method_8_code 21 = .ok (.getfield 29, 3) := by decide +kernel
theorem d_R_mark_24 : decode prog_3_method_8_code 24 = .ok (.iload_n 1, 1) := by decide +kernel
theorem d_R_mark_25 : decode prog_3_method_8_code 25 = .ok (.iload 4, 2) := by decide +kernel
theorem d_R_mark_27 : decode prog_3_method_8_code 27 = .ok (.iload_n 2, 1) := by decide +kernel
theorem d_R_mark_28 : decode prog_3_method_8_code 28 = .ok (.ior, 1) := by decide +kernel
theorem d_R_mark_29 : decode prog_3_method_8_code 29 = .ok (.iastore, 1) := by decide +kernel
theorem d_R_mark_30 : decode prog_3_method_8_code 30 = .ok (.return_, 1) := by decide +kernel
theorem cn_R_mark : CN y_R_mark (.code y_R_mark prog_3_method_8_code 5 none) prog_3_method_8_code 5 none [] 3 := ⟨Or.inl ⟨rfl, rfl⟩, mw_505, mw_2, ⟨by decide +kernel, by decide +kernel⟩, by decide +kernel⟩
def b_R_mark_18  (σ : Sg) (a0 : Nat) (x1 : Int32) (x2 : Int32) (t0 : Int32) : Option Sg := (if a0 < σ.1 ∧ kd a0 = 1 then rc (g_r σ a0 5) none (fun b3 => (if (b3 < σ.1 ∧ kd b3 = 10) ∧ inb x1 (ln b3) = true then (wi (s_i σ b3 x1.toNatClampNeg (t0 ||| x2)) (fun s4 => (some s4))) else none)) else none)
set_option maxRecDepth 100000 in
set_option maxHeartbeats 4000000 in
theorem gb_R_mark_18 {Γ : GX} (K : Cx Γ "TapirGroup$Replica" prog_3_method_8_code 5 rm_R_mark) (S : Std Γ none) (T : Tb Γ []) (hI : y_R_mark.name = "<init>" → Ini Γ) (σ : Sg) (a0 : Nat) (x1 : Int32) (x2 : Int32) (t0 : Int32) : G Γ mkV 0 0 18 [(0, .ref a0), (1, .int x1), (2, .int x2)] [.int t0] σ (b_R_mark_18 σ a0 x1 x2 t0) := by
  unfold b_R_mark_18
  refine g_istore (pc := 18) (L' := [(4, .int t0), (0, .ref a0), (1, .int x1), (2, .int x2)]) K d_R_mark_18 (by decide) rfl ?_
  refine g_aload_n (pc := 20) (j := 1) K d_R_mark_20 rfl ?_
  refine g_getR (pc := 21) K fl_R_29 d_R_mark_21 (fun _ => ?_) (fun b3 _ => ?_)
  · exact g_none
  · refine g_iload_n (pc := 24) (j := 2) K d_R_mark_24 rfl ?_
    refine g_iload (pc := 25) (j := 0) K d_R_mark_25 rfl ?_
    refine g_iload_n (pc := 27) (j := 3) K d_R_mark_27 rfl ?_
    refine g_ior (pc := 28) K d_R_mark_28 ?_
    refine g_iast (pc := 29) K d_R_mark_29 ?_
    refine g_wi (fun s4 _ => ?_)
    exact g_vret (pc := 30) K S d_R_mark_30 (by decide) (by decide) rfl
def f_R_mark (σ : Sg) (a0 : Nat) (x1 : Int32) (x2 : Int32) (x3 : Int32) : Option Sg := (if a0 < σ.1 ∧ kd a0 = 1 then (f_R_knows σ a0 x1).bind (fun v1 => (if v1 = 0 then (b_R_mark_18 σ a0 x1 x2 x3) else (if a0 < σ.1 ∧ kd a0 = 1 then rc (g_r σ a0 5) none (fun b2 => (if (b2 < σ.1 ∧ kd b2 = 10) ∧ inb x1 (ln b2) = true then (b_R_mark_18 σ a0 x1 x2 (g_i σ b2 x1.toNatClampNeg)) else none)) else none))) else none)
set_option maxRecDepth 100000 in
set_option maxHeartbeats 4000000 in
theorem k_R_mark (l : Launch) (hl : l.stackTraces = false) (σ : Sg) (a0 : Nat) (x1 : Int32) (x2 : Int32) (x3 : Int32) (r : Sg) (h : f_R_mark σ a0 x1 x2 x3 = some r) : Con l y_R_mark (.code y_R_mark prog_3_method_8_code 5 none) rm_R_mark [.ref a0, .int x1, .int x2, .int x3] σ (mkV r) := by
  refine Con.of (mk := mkV) (o := f_R_mark σ a0 x1 x2 x3) (z := r) (L0 := [(0, .ref a0), (1, .int x1), (2, .int x2), (3, .int x3)]) (bytes := prog_3_method_8_code) (maxL := 5) (ret := none) (hh := []) hl (by decide +kernel) (Or.inl ⟨rfl, rfl⟩) (by simp [Value.category]) (Nat.le_of_ble_eq_true rfl) rfl (fun Γ K S T hI => ?_) h rfl
  unfold f_R_mark
  refine g_aload_n (pc := 0) (j := 0) K d_R_mark_0 rfl ?_
  refine g_iload_n (pc := 1) (j := 1) K d_R_mark_1 rfl ?_
  refine g_callV (pc := 2) (ci := 1) (a := a0) (vs := [.int x1]) (st := []) (mkc := mkI σ) K rfl (by decide) cn_R_knows (fun l hl r hr => k_R_knows l hl _ _ _ r hr) mw_433 mw_409 mw_410 ⟨by decide, by decide, by decide, by decide⟩ d_R_mark_2 rfl rfl (Nat.le_of_ble_eq_true rfl) (fun v1 _ => ?_)
  change G Γ mkV 0 0 5 [(0, .ref a0), (1, .int x1), (2, .int x2), (3, .int x3)] [.int v1] σ _
  refine g_if_eq (pc := 5) (tgt := 17) K d_R_mark_5 (by decide) (fun _ => ?_) (fun _ => ?_)
  · refine g_iload_n (pc := 17) (j := 3) K d_R_mark_17 rfl ?_
    refine g_sub (L' := [(0, .ref a0), (1, .int x1), (2, .int x2)]) [0, 1, 2] rfl ?_
    exact gb_R_mark_18 K S T hI σ a0 x1 x2 x3
  · refine g_aload_n (pc := 8) (j := 0) K d_R_mark_8 rfl ?_
    refine g_getR (pc := 9) K fl_R_29 d_R_mark_9 (fun _ => ?_) (fun b2 _ => ?_)
    · exact g_none
    · refine g_iload_n (pc := 12) (j := 1) K d_R_mark_12 rfl ?_
      refine g_iald (pc := 13) K d_R_mark_13 ?_
      refine g_goto (pc := 14) (tgt := 18) K d_R_mark_14 (by decide) ?_
      refine g_sub (L' := [(0, .ref a0), (1, .int x1), (2, .int x2)]) [0, 1, 2] rfl ?_
      exact gb_R_mark_18 K S T hI σ a0 x1 x2 (g_i σ b2 x1.toNatClampNeg)
-- TapirGroup.finish(II)Z
def y_G_finish : MethodName := ⟨"TapirGroup", "finish", "(II)Z"⟩
abbrev rm_G_finish : Room := { frames := 6, cells := 1, slots := 6, locals := 90 }
theorem d_G_finish_0 : decode prog_1_method_9_code 0 = .ok (.iload_n 1, 1) := by decide +kernel
theorem d_G_finish_1 : decode prog_1_method_9_code 1 = .ok (.invokestatic 33, 3) := by decide +kernel
theorem d_G_finish_4 : decode prog_1_method_9_code 4 = .ok (.ifCond .eq 10, 3) := by decide +kernel
theorem d_G_finish_7 : decode prog_1_method_9_code 7 = .ok (.iload_n 2, 1) := by decide +kernel
theorem d_G_finish_8 : decode prog_1_method_9_code 8 = .ok (.invokestatic 63, 3) := by decide +kernel
theorem d_G_finish_11 : decode prog_1_method_9_code 11 = .ok (.ifCond .ne 13, 3) := by decide +kernel
theorem d_G_finish_14 : decode prog_1_method_9_code 14 = .ok (.new 37, 3) := by decide +kernel
theorem d_G_finish_17 : decode prog_1_method_9_code 17 = .ok (.dup, 1) := by decide +kernel
theorem d_G_finish_18 : decode prog_1_method_9_code 18 = .ok (.ldc 148, 2) := by decide +kernel
theorem d_G_finish_20 : decode prog_1_method_9_code 20 = .ok (.invokespecial 41, 3) := by decide +kernel
theorem d_G_finish_23 : decode prog_1_method_9_code 23 = .ok (.athrow, 1) := by decide +kernel
theorem d_G_finish_24 : decode prog_1_method_9_code 24 = .ok (.aload_n 0, 1) := by decide +kernel
theorem d_G_finish_25 : decode prog_1_method_9_code 25 = .ok (.getfield 17, 3) := by decide +kernel
theorem d_G_finish_28 : decode prog_1_method_9_code 28 = .ok (.iload_n 1, 1) := by decide +kernel
theorem d_G_finish_29 : decode prog_1_method_9_code 29 = .ok (.aaload, 1) := by decide +kernel
theorem d_G_finish_30 : decode prog_1_method_9_code 30 = .ok (.astore_n 3, 1) := by decide +kernel
theorem d_G_finish_31 : decode prog_1_method_9_code 31 = .ok (.aload_n 3, 1) := by decide +kernel
theorem d_G_finish_32 : decode prog_1_method_9_code 32 = .ok (.getfield 44, 3) := by decide +kernel
theorem d_G_finish_35 : decode prog_1_method_9_code 35 = .ok (.astore 4, 2) := by decide +kernel
theorem d_G_finish_37 : decode prog_1_method_9_code 37 = .ok (.aload 4, 2) := by decide +kernel
theorem d_G_finish_39 : decode prog_1_method_9_code 39 = .ok (.ifnull 10, 3) := by decide +kernel
theorem d_G_finish_42 : decode prog_1_method_9_code 42 = .ok (.aload_n 3, 1) := by decide +kernel
theorem d_G_finish_43 : decode prog_1_method_9_code 43 = .ok (.invokevirtual 204, 3) := by decide +kernel
theorem d_G_finish_46 : decode prog_1_method_9_code 46 = .ok (.ifCond .ne 13, 3) := by decide +kernel
theorem d_G_finish_49 : decode prog_1_method_9_code 49 = .ok (.new 48, 3) := by decide +kernel
theorem d_G_finish_52 : decode prog_1_method_9_code 52 = .ok (.dup, 1) := by decide +kernel
theorem d_G_finish_53 : decode prog_1_method_9_code 53 = .ok (.ldc 207, 2) := by decide +kernel
theorem d_G_finish_55 : decode prog_1_method_9_code 55 = .ok (.invokespecial 52, 3) := by decide +kernel
theorem d_G_finish_58 : decode prog_1_method_9_code 58 = .ok (.athrow, 1) := by decide +kernel
theorem d_G_finish_59 : decode prog_1_method_9_code 59 = .ok (.aload_n 0, 1) := by decide +kernel
theorem d_G_finish_60 : decode prog_1_method_9_code 60 = .ok (.iload_n 2, 1) := by decide +kernel
theorem d_G_finish_61 : decode prog_1_method_9_code 61 = .ok (.invokevirtual 86, 3) := by decide +kernel
theorem d_G_finish_64 : decode prog_1_method_9_code 64 = .ok (.ifCond .ne 13, 3) := by decide +kernel
theorem d_G_finish_67 : decode prog_1_method_9_code 67 = .ok (.new 89, 3) := by decide +kernel
theorem d_G_finish_70 : decode prog_1_method_9_code 70 = .ok (.dup, 1) := by decide +kernel
theorem d_G_finish_71 : decode prog_1_method_9_code 71 = .ok (.ldc 91, 2) := by decide +kernel
theorem d_G_finish_73 : decode prog_1_method_9_code 73 = .ok (.invokespecial 93, 3) := by decide +kernel
theorem d_G_finish_76 : decode prog_1_method_9_code 76 = .ok (.athrow, 1) := by decide +kernel
theorem d_G_finish_77 : decode prog_1_method_9_code 77 = .ok (.aload_n 0, 1) := by decide +kernel
theorem d_G_finish_78 : decode prog_1_method_9_code 78 = .ok (.getfield 11, 3) := by decide +kernel
theorem d_G_finish_81 : decode prog_1_method_9_code 81 = .ok (.iload_n 2, 1) := by decide +kernel
theorem d_G_finish_82 : decode prog_1_method_9_code 82 = .ok (.aaload, 1) := by decide +kernel
theorem d_G_finish_83 : decode prog_1_method_9_code 83 = .ok (.astore 5, 2) := by decide +kernel
theorem d_G_finish_85 : decode prog_1_method_9_code 85 = .ok (.aload 5, 2) := by decide +kernel
theorem d_G_finish_87 : decode prog_1_method_9_code 87 = .ok (.aload 4, 2) := by decide +kernel
theorem d_G_finish_89 : decode prog_1_method_9_code 89 = .ok (.getfield 142, 3) := by decide +kernel
theorem d_G_finish_92 : decode prog_1_method_9_code 92 = .ok (.bipush 24, 2) := by decide +kernel
theorem d_G_finish_94 : decode prog_1_method_9_code 94 = .ok (.invokevirtual 188, 3) := by decide +kernel
theorem d_G_finish_97 : decode prog_1_method_9_code 97 = .ok (.ifCond .eq 5, 3) := by decide +kernel
theorem d_G_finish_100 : decode prog_1_method_9_code 100 = .ok (.iconst 0, 1) := by decide +kernel
theorem d_G_finish_101 : decode prog_1_method_9_code 101 = .ok (.ireturn, 1) := by decide +kernel
theorem d_G_finish_102 : decode prog_1_method_9_code 102 = .ok (.aload_n 3, 1) := by decide +kernel
theorem d_G_finish_103 : decode prog_1_method_9_code 103 = .ok (.getfield 68, 3) := by decide +kernel
theorem d_G_finish_106 : decode prog_1_method_9_code 106 = .ok (.iconst 4, 1) := by decide +kernel
theorem d_G_finish_107 : decode prog_1_method_9_code 107 = .ok (.if_icmp .ne 26, 3) := by decide +kernel
theorem d_G_finish_110 : decode prog_1_method_9_code 110 = .ok (.aload 5, 2) := by decide +kernel
theorem d_G_finish_112 : decode prog_1_method_9_code 112 = .ok (.aload 4, 2) := by decide +kernel
theorem d_G_finish_114 : decode prog_1_method_9_code 114 = .ok (.invokevirtual 209, 3) := by decide +kernel
theorem d_G_finish_117 : decode prog_1_method_9_code 117 = .ok (.aload 5, 2) := by decide +kernel
theorem d_G_finish_119 : decode prog_1_method_9_code 119 = .ok (.aload 4, 2) := by decide +kernel
theorem d_G_finish_121 : decode prog_1_method_9_code 121 = .ok (.getfield 142, 3) := by decide +kernel
theorem d_G_finish_124 : decode prog_1_method_9_code 124 = .ok (.bipush 8, 2) := by decide +kernel
theorem d_G_finish_126 : decode prog_1_method_9_code 126 = .ok (.iconst 0, 1) := by decide +kernel
theorem d_G_finish_127 : decode prog_1_method_9_code 127 = .ok (.invokevirtual 212, 3) := by decide +kernel
theorem d_G_finish_130 : decode prog_1_method_9_code 130 = .ok (.goto 16, 3) := by decide +kernel
theorem d_G_finish_133 : decode prog_1_method_9_code 133 = .ok (.aload 5, 2) := by decide +kernel
theorem d_G_finish_135 : decode prog_1_method_9_code 135 = .ok (.aload 4, 2) := by decide +kernel
theorem d_G_finish_137 : decode prog_1_method_9_code 137 = .ok (.getfield 142, 3) := by decide +kernel
theorem d_G_finish_140 : decode prog_1_method_9_code 140 = .ok (.bipush 16, 2) := by decide +kernel
theorem d_G_finish_142 : decode prog_1_method_9_code 142 = .ok (.iconst 2, 1) := by decide +kernel
theorem d_G_finish_143 : decode prog_1_method_9_code 143 = .ok (.invokevirtual 212, 3) := by decide +kernel
theorem d_G_finish_146 : decode prog_1_method_9_code 146 = .ok (.iconst 1, 1) := by decide +kernel
theorem d_G_finish_147 : decode prog_1_method_9_code 147 = .ok (.ireturn, 1) := by decide +kernel
theorem cn_G_finish : CN y_G_finish (.code y_G_finish prog_1_method_9_code 6 (some .boolean)) prog_1_method_9_code 6 (some .boolean) [] 2 := ⟨Or.inl ⟨rfl, rfl⟩, mw_491, mw_1, ⟨by decide +kernel, by decide +kernel⟩, by decide +kernel⟩
def b_G_finish_14  (σ : Sg)  : Option Rs := (some ((.inr "java/lang/IllegalArgumentException", σ) : Rs))
set_option maxRecDepth 100000 in
set_option maxHeartbeats 4000000 in
theorem gb_G_finish_14 {Γ : GX} (K : Cx Γ "TapirGroup" prog_1_method_9_code 6 rm_G_finish) (S : Std Γ (some .boolean)) (T : Tb Γ []) (hI : y_G_finish.name = "<init>" → Ini Γ) (σ : Sg)  : G Γ mkR 0 0 14 [] [] σ (b_G_finish_14 σ ) := by
  unfold b_G_finish_14
  exact g_throw (pc := 14) K S T tw_G_37_148_41 (fun _ h => nomatch h) d_G_finish_14 d_G_finish_17 d_G_finish_18 d_G_finish_20 d_G_finish_23 (by decide) (by decide) (by decide) (by decide) rfl
def b_G_finish_49  (σ : Sg)  : Option Rs := (some ((.inr "java/lang/IllegalStateException", σ) : Rs))
set_option maxRecDepth 100000 in
set_option maxHeartbeats 4000000 in
theorem gb_G_finish_49 {Γ : GX} (K : Cx Γ "TapirGroup" prog_1_method_9_code 6 rm_G_finish) (S : Std Γ (some .boolean)) (T : Tb Γ []) (hI : y_G_finish.name = "<init>" → Ini Γ) (σ : Sg)  : G Γ mkR 0 0 49 [] [] σ (b_G_finish_49 σ ) := by
  unfold b_G_finish_49
  exact g_throw (pc := 49) K S T tw_G_48_207_52 (fun _ h => nomatch h) d_G_finish_49 d_G_finish_52 d_G_finish_53 d_G_finish_55 d_G_finish_58 (by decide) (by decide) (by decide) (by decide) rfl
def b_G_finish_146  (σ : Sg)  : Option Rs := (some ((.inl (some (.int (1 : Int32))), σ) : Rs))
set_option maxRecDepth 100000 in
set_option maxHeartbeats 4000000 in
theorem gb_G_finish_146 {Γ : GX} (K : Cx Γ "TapirGroup" prog_1_method_9_code 6 rm_G_finish) (S : Std Γ (some .boolean)) (T : Tb Γ []) (hI : y_G_finish.name = "<init>" → Ini Γ) (σ : Sg)  : G Γ mkR 0 0 146 [] [] σ (b_G_finish_146 σ ) := by
  unfold b_G_finish_146
  refine g_iconst (pc := 146) (v := 1) K d_G_finish_146 (by decide) ?_
  exact g_iret (pc := 147) K S rfl d_G_finish_147 (by decide) (by decide) rfl
def f_G_finish (σ : Sg) (a0 : Nat) (x1 : Int32) (x2 : Int32) : Option Rs := ((f_G_isClient σ x1).bind (fun v1 => (if v1 = 0 then (b_G_finish_14 σ) else ((f_G_isReplica σ x2).bind (fun v2 => (if v2 = 0 then (b_G_finish_14 σ) else (if a0 < σ.1 ∧ kd a0 = 3 then rc (g_r σ a0 1) none (fun b3 => (if (b3 < σ.1 ∧ kd b3 = 14) ∧ inb x1 (ln b3) = true then rc (g_r σ b3 x1.toNatClampNeg) none (fun b4 => (if b4 < σ.1 ∧ kd b4 = 0 then rc (g_r σ b4 0) (b_G_finish_49 σ) (fun b5 => (if b4 < σ.1 ∧ kd b4 = 0 then (f_C_isDecided σ b4).bind (fun v6 => (if v6 = 0 then (b_G_finish_49 σ) else (if a0 < σ.1 ∧ kd a0 = 3 then (f_G_serves σ a0 x2).bind (fun v7 => (if v7 = 0 then (some ((.inr "java/lang/UnsupportedOperationException", σ) : Rs)) else (if a0 < σ.1 ∧ kd a0 = 3 then rc (g_r σ a0 0) none (fun b8 => (if (b8 < σ.1 ∧ kd b8 = 13) ∧ inb x2 (ln b8) = true then rc (g_r σ b8 x2.toNatClampNeg) none (fun b9 => (if b5 < σ.1 ∧ kd b5 = 2 then (if b9 < σ.1 ∧ kd b9 = 1 then (f_R_has σ b9 (g_i σ b5 0) (24 : Int32)).bind (fun v10 => (if v10 = 0 then (if b4 < σ.1 ∧ kd b4 = 0 then (if (g_i σ b4 1) = (4 : Int32) then (if b9 < σ.1 ∧ kd b9 = 1 then (f_R_takeIn σ b9 b5).bind (fun s12 => (if b5 < s12.1 ∧ kd b5 = 2 then (if b9 < s12.1 ∧ kd b9 = 1 then (f_R_mark s12 b9 (g_i s12 b5 0) (8 : Int32) (0 : Int32)).bind (fun s13 => (b_G_finish_146 s13)) else none) else none)) else none) else (if b5 < σ.1 ∧ kd b5 = 2 then (if b9 < σ.1 ∧ kd b9 = 1 then (f_R_mark σ b9 (g_i σ b5 0) (16 : Int32) (2 : Int32)).bind (fun s11 => (b_G_finish_146 s11)) else none) else none)) else none) else (some ((.inl (some (.int (0 : Int32))), σ) : Rs)))) else none) else none)) else none)) else none))) else none))) else none)) else none)) else none)) else none)))))))
set_option maxRecDepth 100000 in
set_option maxHeartbeats 4000000 in
theorem k_G_finish (l : Launch) (hl : l.stackTraces = false) (σ : Sg) (a0 : Nat) (x1 : Int32) (x2 : Int32) (r : Rs) (h : f_G_finish σ a0 x1 x2 = some r) : Con l y_G_finish (.code y_G_finish prog_1_method_9_code 6 (some .boolean)) rm_G_finish [.ref a0, .int x1, .int x2] σ (mkR r) := by
  refine Con.of (mk := mkR) (o := f_G_finish σ a0 x1 x2) (z := r) (L0 := [(0, .ref a0), (1, .int x1), (2, .int x2)]) (bytes := prog_1_method_9_code) (maxL := 6) (ret := (some .boolean)) (hh := []) hl (by decide +kernel) (Or.inl ⟨rfl, rfl⟩) (by simp [Value.category]) (Nat.le_of_ble_eq_true rfl) rfl (fun Γ K S T hI => ?_) h rfl
  unfold f_G_finish
  refine g_iload_n (pc := 0) (j := 1) K d_G_finish_0 rfl ?_
  refine g_callS (pc := 1) (vs := [.int x1]) (st := []) (mkc := mkI σ) K cn_G_isClient (fun l hl r hr => k_G_isClient l hl _ _ r hr) mw_112 mw_113 ⟨by decide, by decide, by decide, by decide⟩ d_G_finish_1 rfl rfl (Nat.le_of_ble_eq_true rfl) (fun v1 _ => ?_)
  change G Γ mkR 0 0 4 [(0, .ref a0), (1, .int x1), (2, .int x2)] [.int v1] σ _
  refine g_if_eq (pc := 4) (tgt := 14) K d_G_finish_4 (by decide) (fun _ => ?_) (fun _ => ?_)
  · refine g_sub (L' := []) [] rfl ?_
    exact gb_G_finish_14 K S T hI σ
  · refine g_iload_n (pc := 7) (j := 2) K d_G_finish_7 rfl ?_
    refine g_callS (pc := 8) (vs := [.int x2]) (st := []) (mkc := mkI σ) K cn_G_isReplica (fun l hl r hr => k_G_isReplica l hl _ _ r hr) mw_146 mw_147 ⟨by decide, by decide, by decide, by decide⟩ d_G_finish_8 rfl rfl (Nat.le_of_ble_eq_true rfl) (fun v2 _ => ?_)
    change G Γ mkR 0 0 11 [(0, .ref a0), (1, .int x1), (2, .int x2)] [.int v2] σ _
    refine g_if_ne (pc := 11) (tgt := 24) K d_G_finish_11 (by decide) (fun _ => ?_) (fun _ => ?_)
    · refine g_aload_n (pc := 24) (j := 0) K d_G_finish_24 rfl ?_
      refine g_getR (pc := 25) K fl_G_17 d_G_finish_25 (fun _ => ?_) (fun b3 _ => ?_)
      · exact g_none
      · refine g_iload_n (pc := 28) (j := 1) K d_G_finish_28 rfl ?_
        refine g_aald (pc := 29) (kq := 14) (t0 := 4) K (by decide) (fun _ => rfl) d_G_finish_29 (fun _ => ?_) (fun b4 _ => ?_)
        · exact g_none
        · refine g_astore_n (pc := 30) (L' := [(3, .ref b4), (0, .ref a0), (1, .int x1), (2, .int x2)]) K d_G_finish_30 (by decide) rfl ?_
          refine g_aload_n (pc := 31) (j := 0) K d_G_finish_31 rfl ?_
          refine g_getR (pc := 32) K fl_G_44 d_G_finish_32 (fun _ => ?_) (fun b5 _ => ?_)
          · refine g_astoreN (pc := 35) (L' := [(4, .null), (3, .ref b4), (0, .ref a0), (1, .int x1), (2, .int x2)]) K d_G_finish_35 (by decide) rfl ?_
            refine g_aloadN (pc := 37) (j := 0) K d_G_finish_37 rfl ?_
            refine g_ifnullN (pc := 39) (tgt := 49) K d_G_finish_39 (by decide) ?_
            refine g_sub (L' := []) [] rfl ?_
            exact gb_G_finish_49 K S T hI σ
          · refine g_astore (pc := 35) (L' := [(4, .ref b5), (3, .ref b4), (0, .ref a0), (1, .int x1), (2, .int x2)]) K d_G_finish_35 (by decide) rfl ?_
            refine g_aload (pc := 37) (j := 0) K d_G_finish_37 rfl ?_
            refine g_ifnull (pc := 39) K d_G_finish_39 ?_
            refine g_aload_n (pc := 42) (j := 1) K d_G_finish_42 rfl ?_
            refine g_callV (pc := 43) (ci := 0) (a := b4) (vs := []) (st := []) (mkc := mkI σ) K rfl (by decide) cn_C_isDecided (fun l hl r hr => k_C_isDecided l hl _ _ r hr) mw_492 mw_493 mw_494 ⟨by decide, by decide, by decide, by decide⟩ d_G_finish_43 rfl rfl (Nat.le_of_ble_eq_true rfl) (fun v6 _ => ?_)
            change G Γ mkR 0 0 46 [(4, .ref b5), (3, .ref b4), (0, .ref a0), (1, .int x1), (2, .int x2)] [.int v6] σ _
            refine g_if_ne (pc := 46) (tgt := 59) K d_G_finish_46 (by decide) (fun _ => ?_) (fun _ => ?_)
            · refine g_aload_n (pc := 59) (j := 2) K d_G_finish_59 rfl ?_
              refine g_iload_n (pc := 60) (j := 4) K d_G_finish_60 rfl ?_
              refine g_callV (pc := 61) (ci := 3) (a := a0) (vs := [.int x2]) (st := []) (mkc := mkI σ) K rfl (by decide) cn_G_serves (fun l hl r hr => k_G_serves l hl _ _ _ r hr) mw_324 mw_326 ms_2 ⟨by decide, by decide, by decide, by decide⟩ d_G_finish_61 rfl rfl (Nat.le_of_ble_eq_true rfl) (fun v7 _ => ?_)
              change G Γ mkR 0 0 64 [(4, .ref b5), (3, .ref b4), (0, .ref a0), (1, .int x1), (2, .int x2)] [.int v7] σ _
              refine g_if_ne (pc := 64) (tgt := 77) K d_G_finish_64 (by decide) (fun _ => ?_) (fun _ => ?_)
              · refine g_aload_n (pc := 77) (j := 2) K d_G_finish_77 rfl ?_
                refine g_getR (pc := 78) K fl_G_11 d_G_finish_78 (fun _ => ?_) (fun b8 _ => ?_)
                · exact g_none
                · refine g_iload_n (pc := 81) (j := 4) K d_G_finish_81 rfl ?_
                  refine g_aald (pc := 82) (kq := 13) (t0 := 3) K (by decide) (fun _ => rfl) d_G_finish_82 (fun _ => ?_) (fun b9 _ => ?_)
                  · exact g_none
                  · refine g_astore (pc := 83) (L' := [(5, .ref b9), (4, .ref b5), (3, .ref b4), (0, .ref a0), (1, .int x1), (2, .int x2)]) K d_G_finish_83 (by decide) rfl ?_
                    refine g_aload (pc := 85) (j := 0) K d_G_finish_85 rfl ?_
                    refine g_aload (pc := 87) (j := 1) K d_G_finish_87 rfl ?_
                    refine g_getI (pc := 89) K fl_G_142 d_G_finish_89 ?_
                    refine g_bipush (pc := 92) (v := 24) K d_G_finish_92 (by decide) ?_
                    refine g_callV (pc := 94) (ci := 1) (a := b9) (vs := [.int (g_i σ b5 0), .int (24 : Int32)]) (st := []) (mkc := mkI σ) K rfl (by decide) cn_R_has (fun l hl r hr => k_R_has l hl _ _ _ _ r hr) mw_480 mw_435 mw_436 ⟨by decide, by decide, by decide, by decide⟩ d_G_finish_94 rfl rfl (Nat.le_of_ble_eq_true rfl) (fun v10 _ => ?_)
                    change G Γ mkR 0 0 97 [(5, .ref b9), (4, .ref b5), (3, .ref b4), (0, .ref a0), (1, .int x1), (2, .int x2)] [.int v10] σ _
                    refine g_if_eq (pc := 97) (tgt := 102) K d_G_finish_97 (by decide) (fun _ => ?_) (fun _ => ?_)
                    · refine g_aload_n (pc := 102) (j := 2) K d_G_finish_102 rfl ?_
                      refine g_getI (pc := 103) K fl_G_68 d_G_finish_103 ?_
                      refine g_iconst (pc := 106) (v := 4) K d_G_finish_106 (by decide) ?_
                      refine g_icmp_ne (pc := 107) (tgt := 133) K d_G_finish_107 (by decide) (fun _ => ?_) (fun _ => ?_)
                      · refine g_aload (pc := 133) (j := 0) K d_G_finish_133 rfl ?_
                        refine g_aload (pc := 135) (j := 1) K d_G_finish_135 rfl ?_
                        refine g_getI (pc := 137) K fl_G_142 d_G_finish_137 ?_
                        refine g_bipush (pc := 140) (v := 16) K d_G_finish_140 (by decide) ?_
                        refine g_iconst (pc := 142) (v := 2) K d_G_finish_142 (by decide) ?_
                        refine g_callV (pc := 143) (ci := 1) (a := b9) (vs := [.int (g_i σ b5 0), .int (16 : Int32), .int (2 : Int32)]) (st := []) (mkc := mkV) K rfl (by decide) cn_R_mark (fun l hl r hr => k_R_mark l hl _ _ _ _ _ r hr) mw_502 mw_503 mw_504 ⟨by decide, by decide, by decide, by decide⟩ d_G_finish_143 rfl rfl (Nat.le_of_ble_eq_true rfl) (fun s11 _ => ?_)
                        change G Γ mkR 0 0 146 [(5, .ref b9), (4, .ref b5), (3, .ref b4), (0, .ref a0), (1, .int x1), (2, .int x2)] [] s11 _
                        refine g_sub (L' := []) [] rfl ?_
                        exact gb_G_finish_146 K S T hI s11
                      · refine g_aload (pc := 110) (j := 0) K d_G_finish_110 rfl ?_
                        refine g_aload (pc := 112) (j := 1) K d_G_finish_112 rfl ?_
                        refine g_callV (pc := 114) (ci := 1) (a := b9) (vs := [.ref b5]) (st := []) (mkc := mkV) K rfl (by decide) cn_R_takeIn (fun l hl r hr => k_R_takeIn l hl _ _ _ r hr) mw_497 mw_498 mw_499 ⟨by decide, by decide, by decide, by decide⟩ d_G_finish_114 rfl rfl (Nat.le_of_ble_eq_true rfl) (fun s12 _ => ?_)
                        change G Γ mkR 0 0 117 [(5, .ref b9), (4, .ref b5), (3, .ref b4), (0, .ref a0), (1, .int x1), (2, .int x2)] [] s12 _
                        refine g_aload (pc := 117) (j := 0) K d_G_finish_117 rfl ?_
                        refine g_aload (pc := 119) (j := 1) K d_G_finish_119 rfl ?_
                        refine g_getI (pc := 121) K fl_G_142 d_G_finish_121 ?_
                        refine g_bipush (pc := 124) (v := 8) K d_G_finish_124 (by decide) ?_
                        refine g_iconst (pc := 126) (v := 0) K d_G_finish_126 (by decide) ?_
                        refine g_callV (pc := 127) (ci := 1) (a := b9) (vs := [.int (g_i s12 b5 0), .int (8 : Int32), .int (0 : Int32)]) (st := []) (mkc := mkV) K rfl (by decide) cn_R_mark (fun l hl r hr => k_R_mark l hl _ _ _ _ _ r hr) mw_502 mw_503 mw_504 ⟨by decide, by decide, by decide, by decide⟩ d_G_finish_127 rfl rfl (Nat.le_of_ble_eq_true rfl) (fun s13 _ => ?_)
                        change G Γ mkR 0 0 130 [(5, .ref b9), (4, .ref b5), (3, .ref b4), (0, .ref a0), (1, .int x1), (2, .int x2)] [] s13 _
                        refine g_goto (pc := 130) (tgt := 146) K d_G_finish_130 (by decide) ?_
                        refine g_sub (L' := []) [] rfl ?_
                        exact gb_G_finish_146 K S T hI s13
                    · refine g_iconst (pc := 100) (v := 0) K d_G_finish_100 (by decide) ?_
                      exact g_iret (pc := 101) K S rfl d_G_finish_101 (by decide) (by decide) rfl
              · exact g_throw (pc := 67) K S T tw_G_89_91_93 (fun _ h => nomatch h) d_G_finish_67 d_G_finish_70 d_G_finish_71 d_G_finish_73 d_G_finish_76 (by decide) (by decide) (by decide) (by decide) rfl
            · refine g_sub (L' := []) [] rfl ?_
              exact gb_G_finish_49 K S T hI σ
    · refine g_sub (L' := []) [] rfl ?_
      exact gb_G_finish_14 K S T hI σ
