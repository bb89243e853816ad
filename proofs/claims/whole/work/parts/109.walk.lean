-- TapirGroupLaw.finish(LTapirGroup;II[J)I
def y_L_finish : MethodName := ⟨"TapirGroupLaw", "finish", "(LTapirGroup;II[J)I"⟩
abbrev rm_L_finish : Room := { frames := 7, cells := 1, slots := 6, locals := 115 }
theorem d_L_finish_0 : decode method_10_code 0 = .ok (.aload_n 3, 1) := by decide +kernel
theorem d_L_finish_1 : decode method_10_code 1 = .ok (.iconst 0, 1) := by decide +kernel
theorem d_L_finish_2 : decode method_10_code 2 = .ok (.aload_n 0, 1) := by decide +kernel
theorem d_L_finish_3 : decode method_10_code 3 = .ok (.iload_n 1, 1) := by decide +kernel
theorem d_L_finish_4 : decode method_10_code 4 = .ok (.iload_n 2, 1) := by decide +kernel
theorem d_L_finish_5 : decode method_10_code 5 = .ok (.invokevirtual 43, 3) := by decide +kernel
theorem d_L_finish_8 : decode method_10_code 8 = .ok (.ifCond .eq 7, 3) := by decide +kernel
theorem d_L_finish_11 : decode method_10_code 11 = .ok (.lconst 1, 1) := by decide +kernel
theorem d_L_finish_12 : decode method_10_code 12 = .ok (.goto 4, 3) := by decide +kernel
theorem d_L_finish_15 : decode method_10_code 15 = .ok (.lconst 0, 1) := by decide +kernel
theorem d_L_finish_16 : decode method_10_code 16 = .ok (.lastore, 1) := by decide +kernel
theorem d_L_finish_17 : decode method_10_code 17 = .ok (.goto 15, 3) := by decide +kernel
theorem d_L_finish_20 : decode method_10_code 20 = .ok (.astore 4, 2) := by decide +kernel
theorem d_L_finish_22 : decode method_10_code 22 = .ok (.iconst 1, 1) := by decide +kernel
theorem d_L_finish_23 : decode method_10_code 23 = .ok (.ireturn, 1) := by decide +kernel
theorem d_L_finish_24 : decode method_10_code 24 = .ok (.astore 4, 2) := by decide +kernel
theorem d_L_finish_26 : decode method_10_code 26 = .ok (.iconst 2, 1) := by decide +kernel
theorem d_L_finish_27 : decode method_10_code 27 = .ok (.ireturn, 1) := by decide +kernel
theorem d_L_finish_28 : decode method_10_code 28 = .ok (.astore 4, 2) := by decide +kernel
theorem d_L_finish_30 : decode method_10_code 30 = .ok (.iconst 3, 1) := by decide +kernel
theorem d_L_finish_31 : decode method_10_code 31 = .ok (.ireturn, 1) := by decide +kernel
theorem d_L_finish_32 : decode method_10_code 32 = .ok (.iconst 0, 1) := by decide +kernel
theorem d_L_finish_33 : decode method_10_code 33 = .ok (.ireturn, 1) := by decide +kernel
theorem cn_L_finish : CN y_L_finish (.codeWith y_L_finish method_10_code 5 (some .int) [(0, 17, 20, 13), (0, 17, 24, 15), (0, 17, 28, 21)]) method_10_code 5 (some .int) [(0, 17, 20, 13), (0, 17, 24, 15), (0, 17, 28, 21)] 4 := ⟨Or.inr rfl, mw_487, mw_0, ⟨by decide +kernel, by decide +kernel⟩, by decide +kernel⟩
def b_L_finish_16  (σ : Sg) (t0 : Nat) (t1 : Int32) (t2 : Int64) : Option (Int32 × Sg) := (if (t0 < σ.1 ∧ kd t0 = 12) ∧ inb t1 (ln t0) = true then (wi (s_l σ t0 t1.toNatClampNeg t2) (fun s3 => (some ((0 : Int32), s3)))) else none)
set_option maxRecDepth 100000 in
set_option maxHeartbeats 4000000 in
theorem gb_L_finish_16 {Γ : GX} (K : Cx Γ "TapirGroupLaw" method_10_code 5 rm_L_finish) (S : Std Γ (some .int)) (T : Tb Γ [(0, 17, 20, 13), (0, 17, 24, 15), (0, 17, 28, 21)]) (hI : y_L_finish.name = "<init>" → Ini Γ) (σ : Sg) (t0 : Nat) (t1 : Int32) (t2 : Int64) : G Γ mkW 1 6 16 [] [.long t2, .int t1, .ref t0] σ (b_L_finish_16 σ t0 t1 t2) := by
  unfold b_L_finish_16
  refine g_last (pc := 16) K d_L_finish_16 ?_
  refine g_wi (fun s3 _ => ?_)
  refine g_goto (pc := 17) (tgt := 32) K d_L_finish_17 (by decide) ?_
  refine g_iconst (pc := 32) (v := 0) K d_L_finish_32 (by decide) ?_
  exact g_iret (pc := 33) K S rfl d_L_finish_33 (by decide) (by decide) rfl
def f_L_finish (σ : Sg) (a0 : Nat) (x1 : Int32) (x2 : Int32) (a3 : Nat) : Option (Int32 × Sg) := (if a0 < σ.1 ∧ kd a0 = 3 then (f_G_finish σ a0 x1 x2).bind (fun w1 => (onI w1.1 (fun x2 => (if x2 = 0 then (b_L_finish_16 w1.2 a3 (0 : Int32) (0 : Int64)) else (b_L_finish_16 w1.2 a3 (0 : Int32) (1 : Int64)))) (fun E => (if E = "java/lang/IllegalArgumentException" then (some ((1 : Int32), w1.2)) else (if E = "java/lang/IllegalStateException" then (some ((2 : Int32), w1.2)) else (if E = "java/lang/UnsupportedOperationException" then (some ((3 : Int32), w1.2)) else none)))))) else none)
set_option maxRecDepth 100000 in
set_option maxHeartbeats 4000000 in
theorem k_L_finish (l : Launch) (hl : l.stackTraces = false) (σ : Sg) (a0 : Nat) (x1 : Int32) (x2 : Int32) (a3 : Nat) (r : (Int32 × Sg)) (h : f_L_finish σ a0 x1 x2 a3 = some r) : Con l y_L_finish (.codeWith y_L_finish method_10_code 5 (some .int) [(0, 17, 20, 13), (0, 17, 24, 15), (0, 17, 28, 21)]) rm_L_finish [.ref a0, .int x1, .int x2, .ref a3] σ (mkW r) := by
  refine Con.of (mk := mkW) (o := f_L_finish σ a0 x1 x2 a3) (z := r) (L0 := [(0, .ref a0), (1, .int x1), (2, .int x2), (3, .ref a3)]) (bytes := method_10_code) (maxL := 5) (ret := (some .int)) (hh := [(0, 17, 20, 13), (0, 17, 24, 15), (0, 17, 28, 21)]) hl (by decide +kernel) (Or.inr rfl) (by simp [Value.category]) (Nat.le_of_ble_eq_true rfl) rfl (fun Γ K S T hI => ?_) h rfl
  unfold f_L_finish
  refine g_aload_n (pc := 0) (j := 3) K d_L_finish_0 rfl ?_
  refine g_iconst (pc := 1) (v := 0) K d_L_finish_1 (by decide) ?_
  refine g_aload_n (pc := 2) (j := 0) K d_L_finish_2 rfl ?_
  refine g_iload_n (pc := 3) (j := 1) K d_L_finish_3 rfl ?_
  refine g_iload_n (pc := 4) (j := 2) K d_L_finish_4 rfl ?_
  refine g_callV (pc := 5) (ci := 3) (a := a0) (vs := [.int x1, .int x2]) (st := [.int (0 : Int32), .ref a3]) (mkc := mkR) K rfl (by decide) cn_G_finish (fun l hl r hr => k_G_finish l hl _ _ _ _ r hr) mw_488 mw_489 mw_490 ⟨by decide, by decide, by decide, by decide⟩ d_L_finish_5 rfl rfl (Nat.le_of_ble_eq_true rfl) (fun w1 _ => ?_)
  refine g_onI (fun x2 => ?_) (fun E => ?_)
  · refine g_if_eq (pc := 8) (tgt := 15) K d_L_finish_8 (by decide) (fun _ => ?_) (fun _ => ?_)
    · refine g_lconst (pc := 15) (v := 0) K d_L_finish_15 (by decide) ?_
      refine g_sub (L' := []) [] rfl ?_
      exact gb_L_finish_16 K S T hI w1.2 a3 (0 : Int32) (0 : Int64)
    · refine g_lconst (pc := 11) (v := 1) K d_L_finish_11 (by decide) ?_
      refine g_goto (pc := 12) (tgt := 16) K d_L_finish_12 (by decide) ?_
      refine g_sub (L' := []) [] rfl ?_
      exact gb_L_finish_16 K S T hI w1.2 a3 (0 : Int32) (1 : Int64)
  · refine gt_ite (fun h => ?_) (fun _ => ?_)
    · subst h
      refine g_catch2 (L' := [(0, .ref a0), (1, .int x1), (2, .int x2), (3, .ref a3)]) K T [] (0, 17, 20, 13) [(0, 17, 24, 15), (0, 17, 28, 21)] rfl (fun _ h => nomatch h) (by decide) (by decide) mw_170 mw_177 (by decide) d_L_finish_20 rfl ?_
      refine g_iconst (pc := 22) (v := 1) K d_L_finish_22 (by decide) ?_
      exact g_iret (pc := 23) K S rfl d_L_finish_23 (by decide) (by decide) rfl
    refine gt_ite (fun h => ?_) (fun _ => ?_)
    · subst h
      refine g_catch2 (L' := [(0, .ref a0), (1, .int x1), (2, .int x2), (3, .ref a3)]) K T [(0, 17, 20, 13)] (0, 17, 24, 15) [(0, 17, 28, 21)] rfl (by intro z hz; rcases List.mem_cons.mp hz with rfl | hz; exact ⟨by decide, by decide, "java/lang/IllegalArgumentException", mw_170, by decide +kernel⟩; cases hz) (by decide) (by decide) mw_171 mw_246 (by decide) d_L_finish_24 rfl ?_
      refine g_iconst (pc := 26) (v := 2) K d_L_finish_26 (by decide) ?_
      exact g_iret (pc := 27) K S rfl d_L_finish_27 (by decide) (by decide) rfl
    refine gt_ite (fun h => ?_) (fun _ => ?_)
    · subst h
      refine g_catch2 (L' := [(0, .ref a0), (1, .int x1), (2, .int x2), (3, .ref a3)]) K T [(0, 17, 20, 13), (0, 17, 24, 15)] (0, 17, 28, 21) [] rfl (by intro z hz; rcases List.mem_cons.mp hz with rfl | hz; exact ⟨by decide, by decide, "java/lang/IllegalArgumentException", mw_170, by decide +kernel⟩; rcases List.mem_cons.mp hz with rfl | hz; exact ⟨by decide, by decide, "java/lang/IllegalStateException", mw_171, by decide +kernel⟩; cases hz) (by decide) (by decide) mw_308 mw_329 (by decide) d_L_finish_28 rfl ?_
      refine g_iconst (pc := 30) (v := 3) K d_L_finish_30 (by decide) ?_
      exact g_iret (pc := 31) K S rfl d_L_finish_31 (by decide) (by decide) rfl
    exact gt_none
-- TapirGroup$Client.release()V
def y_C_release : MethodName := ⟨"TapirGroup$Client", "release", "()V"⟩
abbrev rm_C_release : Room := { frames := 0, cells := 0, slots := 0, locals := 0 }
theorem d_C_release_0 : decode prog_2_method_3_code 0 = .ok (.aload_n 0, 1) := by decide +kernel
theorem d_C_release_1 : decode prog_2_method_3_code 1 = .ok (.aconst_null, 1) := by decide +kernel
theorem d_C_release_2 : decode prog_2_method_3_code 2 = .ok (.putfield 9, 3) := by decide +kernel
theorem d_C_release_5 : decode prog_2_method_3_code 5 = .ok (.aload_n 0, 1) := by decide +kernel
theorem d_C_release_6 : decode prog_2_method_3_code 6 = .ok (.iconst 0, 1) := by decide +kernel
theorem d_C_release_7 : decode prog_2_method_3_code 7 = .ok (.putfield 15, 3) := by decide +kernel
theorem d_C_release_10 : decode prog_2_method_3_code 10 = .ok (.return_, 1) := by decide +kernel
theorem cn_C_release : CN y_C_release (.code y_C_release prog_2_method_3_code 1 none) prog_2_method_3_code 1 none [] 0 := ⟨Or.inl ⟨rfl, rfl⟩, mw_516, mw_4, ⟨by decide +kernel, by decide +kernel⟩, by decide +kernel⟩
def f_C_release (σ : Sg) (a0 : Nat) : Option Sg := (if a0 < σ.1 ∧ kd a0 = 0 then (wi (s_r σ a0 0 none) (fun s1 => (if a0 < s1.1 ∧ kd a0 = 0 then (wi (s_i s1 a0 1 (0 : Int32)) (fun s2 => (some s2))) else none))) else none)
set_option maxRecDepth 100000 in
set_option maxHeartbeats 4000000 in
theorem k_C_release (l : Launch) (hl : l.stackTraces = false) (σ : Sg) (a0 : Nat) (r : Sg) (h : f_C_release σ a0 = some r) : Con l y_C_release (.code y_C_release prog_2_method_3_code 1 none) rm_C_release [.ref a0] σ (mkV r) := by
  refine Con.of (mk := mkV) (o := f_C_release σ a0) (z := r) (L0 := [(0, .ref a0)]) (bytes := prog_2_method_3_code) (maxL := 1) (ret := none) (hh := []) hl (by decide +kernel) (Or.inl ⟨rfl, rfl⟩) (by simp [Value.category]) (Nat.le_of_ble_eq_true rfl) rfl (fun Γ K S T hI => ?_) h rfl
  unfold f_C_release
  refine g_aload_n (pc := 0) (j := 0) K d_C_release_0 rfl ?_
  refine g_null (pc := 1) K d_C_release_1 ?_
  refine g_putN (pc := 2) K fl_C_9 d_C_release_2 ?_
  refine g_wi (fun s1 _ => ?_)
  refine g_aload_n (pc := 5) (j := 0) K d_C_release_5 rfl ?_
  refine g_iconst (pc := 6) (v := 0) K d_C_release_6 (by decide) ?_
  refine g_putI (pc := 7) K fl_C_15 d_C_release_7 ?_
  refine g_wi (fun s2 _ => ?_)
  exact g_vret (pc := 10) K S d_C_release_10 (by decide) (by decide) rfl
-- TapirGroup.end(I)V
def y_G_end : MethodName := ⟨"TapirGroup", "end", "(I)V"⟩
abbrev rm_G_end : Room := { frames := 6, cells := 1, slots := 6, locals := 90 }
theorem d_G_end_0 : decode prog_1_method_10_code 0 = .ok (.iload_n 1, 1) := by decide +kernel
theorem d_G_end_1 : decode prog_1_method_10_code 1 = .ok (.invokestatic 33, 3) := by decide +kernel
theorem d_G_end_4 : decode prog_1_method_10_code 4 = .ok (.ifCond .ne 13, 3) := by decide +kernel
theorem d_G_end_7 : decode prog_1_method_10_code 7 = .ok (.new 37, 3) := by decide +kernel
theorem d_G_end_10 : decode prog_1_method_10_code 10 = .ok (.dup, 1) := by decide +kernel
theorem d_G_end_11 : decode prog_1_method_10_code 11 = .ok (.ldc 39, 2) := by decide +kernel
theorem d_G_end_13 : decode prog_1_method_10_code 13 = .ok (.invokespecial 41, 3) := by decide +kernel
theorem d_G_end_16 : decode prog_1_method_10_code 16 = .ok (.athrow, 1) := by decide +kernel
theorem d_G_end_17 : decode prog_1_method_10_code 17 = .ok (.aload_n 0, 1) := by decide +kernel
theorem d_G_end_18 : decode prog_1_method_10_code 18 = .ok (.getfield 17, 3) := by decide +kernel
theorem d_G_end_21 : decode prog_1_method_10_code 21 = .ok (.iload_n 1, 1) := by decide +kernel
theorem d_G_end_22 : decode prog_1_method_10_code 22 = .ok (.aaload, 1) := by decide +kernel
theorem d_G_end_23 : decode prog_1_method_10_code 23 = .ok (.invokevirtual 204, 3) := by decide +kernel
theorem d_G_end_26 : decode prog_1_method_10_code 26 = .ok (.ifCond .ne 13, 3) := by decide +kernel
theorem d_G_end_29 : decode prog_1_method_10_code 29 = .ok (.new 48, 3) := by decide +kernel
theorem d_G_end_32 : decode prog_1_method_10_code 32 = .ok (.dup, 1) := by decide +kernel
theorem d_G_end_33 : decode prog_1_method_10_code 33 = .ok (.ldc 207, 2) := by decide +kernel
theorem d_G_end_35 : decode prog_1_method_10_code 35 = .ok (.invokespecial 52, 3) := by decide +kernel
theorem d_G_end_38 : decode prog_1_method_10_code 38 = .ok (.athrow, 1) := by decide +kernel
theorem d_G_end_39 : decode prog_1_method_10_code 39 = .ok (.aload_n 0, 1) := by decide +kernel
theorem d_G_end_40 : decode prog_1_method_10_code 40 = .ok (.getfield 17, 3) := by decide +kernel
theorem d_G_end_43 : decode prog_1_method_10_code 43 = .ok (.iload_n 1, 1) := by decide +kernel
theorem d_G_end_44 : decode prog_1_method_10_code 44 = .ok (.aaload, 1) := by decide +kernel
theorem d_G_end_45 : decode prog_1_method_10_code 45 = .ok (.invokevirtual 215, 3) := by decide +kernel
theorem d_G_end_48 : decode prog_1_method_10_code 48 = .ok (.return_, 1) := by decide +kernel
theorem cn_G_end : CN y_G_end (.code y_G_end prog_1_method_10_code 2 none) prog_1_method_10_code 2 none [] 1 := ⟨Or.inl ⟨rfl, rfl⟩, mw_512, mw_1, ⟨by decide +kernel, by decide +kernel⟩, by decide +kernel⟩
def f_G_end (σ : Sg) (a0 : Nat) (x1 : Int32) : Option Rs := ((f_G_isClient σ x1).bind (fun v1 => (if v1 = 0 then (some ((.inr "java/lang/IllegalArgumentException", σ) : Rs)) else (if a0 < σ.1 ∧ kd a0 = 3 then rc (g_r σ a0 1) none (fun b2 => (if (b2 < σ.1 ∧ kd b2 = 14) ∧ inb x1 (ln b2) = true then rc (g_r σ b2 x1.toNatClampNeg) none (fun b3 => (if b3 < σ.1 ∧ kd b3 = 0 then (f_C_isDecided σ b3).bind (fun v4 => (if v4 = 0 then (some ((.inr "java/lang/IllegalStateException", σ) : Rs)) else (if a0 < σ.1 ∧ kd a0 = 3 then rc (g_r σ a0 1) none (fun b5 => (if (b5 < σ.1 ∧ kd b5 = 14) ∧ inb x1 (ln b5) = true then rc (g_r σ b5 x1.toNatClampNeg) none (fun b6 => (if b6 < σ.1 ∧ kd b6 = 0 then (f_C_release σ b6).bind (fun s7 => (some ((.inl none, s7) : Rs))) else none)) else none)) else none))) else none)) else none)) else none))))
set_option maxRecDepth 100000 in
set_option maxHeartbeats 4000000 in
theorem k_G_end (l : Launch) (hl : l.stackTraces = false) (σ : Sg) (a0 : Nat) (x1 : Int32) (r : Rs) (h : f_G_end σ a0 x1 = some r) : Con l y_G_end (.code y_G_end prog_1_method_10_code 2 none) rm_G_end [.ref a0, .int x1] σ (mkR r) := by
  refine Con.of (mk := mkR) (o := f_G_end σ a0 x1) (z := r) (L0 := [(0, .ref a0), (1, .int x1)]) (bytes := prog_1_method_10_code) (maxL := 2) (ret := none) (hh := []) hl (by decide +kernel) (Or.inl ⟨rfl, rfl⟩) (by simp [Value.category]) (Nat.le_of_ble_eq_true rfl) rfl (fun Γ K S T hI => ?_) h rfl
  unfold f_G_end
  refine g_iload_n (pc := 0) (j := 1) K d_G_end_0 rfl ?_
  refine g_callS (pc := 1) (vs := [.int x1]) (st := []) (mkc := mkI σ) K cn_G_isClient (fun l hl r hr => k_G_isClient l hl _ _ r hr) mw_112 mw_113 ⟨by decide, by decide, by decide, by decide⟩ d_G_end_1 rfl rfl (Nat.le_of_ble_eq_true rfl) (fun v1 _ => ?_)
  change G Γ mkR 0 0 4 [(0, .ref a0), (1, .int x1)] [.int v1] σ _
  refine g_if_ne (pc := 4) (tgt := 17) K d_G_end_4 (by decide) (fun _ => ?_) (fun _ => ?_)
  · refine g_aload_n (pc := 17) (j := 0) K d_G_end_17 rfl ?_
    refine g_getR (pc := 18) K fl_G_17 d_G_end_18 (fun _ => ?_) (fun b2 _ => ?_)
    · exact g_none
    · refine g_iload_n (pc := 21) (j := 1) K d_G_end_21 rfl ?_
      refine g_aald (pc := 22) (kq := 14) (t0 := 4) K (by decide) (fun _ => rfl) d_G_end_22 (fun _ => ?_) (fun b3 _ => ?_)
      · exact g_none
      · refine g_callV (pc := 23) (ci := 0) (a := b3) (vs := []) (st := []) (mkc := mkI σ) K rfl (by decide) cn_C_isDecided (fun l hl r hr => k_C_isDecided l hl _ _ r hr) mw_492 mw_493 mw_494 ⟨by decide, by decide, by decide, by decide⟩ d_G_end_23 rfl rfl (Nat.le_of_ble_eq_true rfl) (fun v4 _ => ?_)
        change G Γ mkR 0 0 26 [(0, .ref a0), (1, .int x1)] [.int v4] σ _
        refine g_if_ne (pc := 26) (tgt := 39) K d_G_end_26 (by decide) (fun _ => ?_) (fun _ => ?_)
        · refine g_aload_n (pc := 39) (j := 0) K d_G_end_39 rfl ?_
          refine g_getR (pc := 40) K fl_G_17 d_G_end_40 (fun _ => ?_) (fun b5 _ => ?_)
          · exact g_none
          · refine g_iload_n (pc := 43) (j := 1) K d_G_end_43 rfl ?_
            refine g_aald (pc := 44) (kq := 14) (t0 := 4) K (by decide) (fun _ => rfl) d_G_end_44 (fun _ => ?_) (fun b6 _ => ?_)
            · exact g_none
            · refine g_callV (pc := 45) (ci := 0) (a := b6) (vs := []) (st := []) (mkc := mkV) K rfl (by decide) cn_C_release (fun l hl r hr => k_C_release l hl _ _ r hr) mw_513 mw_514 mw_515 ⟨by decide, by decide, by decide, by decide⟩ d_G_end_45 rfl rfl (Nat.le_of_ble_eq_true rfl) (fun s7 _ => ?_)
              change G Γ mkR 0 0 48 [(0, .ref a0), (1, .int x1)] [] s7 _
              exact g_vret (pc := 48) K S d_G_end_48 (by decide) (by decide) rfl
        · exact g_throw (pc := 29) K S T tw_G_48_207_52 (fun _ h => nomatch h) d_G_end_29 d_G_end_32 d_G_end_33 d_G_end_35 d_G_end_38 (by decide) (by decide) (by decide) (by decide) rfl
  · exact g_throw (pc := 7) K S T tw_G_37_39_41 (fun _ h => nomatch h) d_G_end_7 d_G_end_10 d_G_end_11 d_G_end_13 d_G_end_16 (by decide) (by decide) (by decide) (by decide) rfl
-- TapirGroupLaw.end(LTapirGroup;I)I
def y_L_end : MethodName := ⟨"TapirGroupLaw", "end", "(LTapirGroup;I)I"⟩
abbrev rm_L_end : Room := { frames := 7, cells := 1, slots := 6, locals := 111 }
theorem d_L_end_0 : decode method_11_code 0 = .ok (.aload_n 0, 1) := by decide +kernel
theorem d_L_end_1 : decode method_11_code 1 = .ok (.iload_n 1, 1) := by decide +kernel
theorem d_L_end_2 : decode method_11_code 2 = .ok (.invokevirtual 47, 3) := by decide +kernel
theorem d_L_end_5 : decode method_11_code 5 = .ok (.goto 9, 3) := by decide +kernel
theorem d_L_end_8 : decode method_11_code 8 = .ok (.astore_n 2, 1) := by decide +kernel
theorem d_L_end_9 : decode method_11_code 9 = .ok (.iconst 1, 1) := by decide +kernel
theorem d_L_end_10 : decode method_11_code 10 = .ok (.ireturn, 1) := by decide +kernel
theorem d_L_end_11 : decode method_11_code 11 = .ok (.astore_n 2, 1) := by decide +kernel
theorem d_L_end_12 : decode method_11_code 12 = .ok (.iconst 2, 1) := by decide +kernel
theorem d_L_end_13 : decode method_11_code 13 = .ok (.ireturn, 1) := by decide +kernel
theorem d_L_end_14 : decode method_11_code 14 = .ok (.iconst 0, 1) := by decide +kernel
theorem d_L_end_15 : decode method_11_code 15 = .ok (.ireturn, 1) := by decide +kernel
theorem cn_L_end : CN y_L_end (.codeWith y_L_end method_11_code 3 (some .int) [(0, 5, 8, 13), (0, 5, 11, 15)]) method_11_code 3 (some .int) [(0, 5, 8, 13), (0, 5, 11, 15)] 2 := ⟨Or.inr rfl, mw_508, mw_0, ⟨by decide +kernel, by decide +kernel⟩, by decide +kernel⟩
def f_L_end (σ : Sg) (a0 : Nat) (x1 : Int32) : Option (Int32 × Sg) := (if a0 < σ.1 ∧ kd a0 = 3 then (f_G_end σ a0 x1).bind (fun w1 => (onV w1.1 (some ((0 : Int32), w1.2)) (fun E => (if E = "java/lang/IllegalArgumentException" then (some ((1 : Int32), w1.2)) else (if E = "java/lang/IllegalStateException" then (some ((2 : Int32), w1.2)) else none))))) else none)
set_option maxRecDepth 100000 in
set_option maxHeartbeats 4000000 in
theorem k_L_end (l : Launch) (hl : l.stackTraces = false) (σ : Sg) (a0 : Nat) (x1 : Int32) (r : (Int32 × Sg)) (h : f_L_end σ a0 x1 = some r) : Con l y_L_end (.codeWith y_L_end method_11_code 3 (some .int) [(0, 5, 8, 13), (0, 5, 11, 15)]) rm_L_end [.ref a0, .int x1] σ (mkW r) := by
  refine Con.of (mk := mkW) (o := f_L_end σ a0 x1) (z := r) (L0 := [(0, .ref a0), (1, .int x1)]) (bytes := method_11_code) (maxL := 3) (ret := (some .int)) (hh := [(0, 5, 8, 13), (0, 5, 11, 15)]) hl (by decide +kernel) (Or.inr rfl) (by simp [Value.category]) (Nat.le_of_ble_eq_true rfl) rfl (fun Γ K S T hI => ?_) h rfl
  unfold f_L_end
  refine g_aload_n (pc := 0) (j := 0) K d_L_end_0 rfl ?_
  refine g_iload_n (pc := 1) (j := 1) K d_L_end_1 rfl ?_
  refine g_callV (pc := 2) (ci := 3) (a := a0) (vs := [.int x1]) (st := []) (mkc := mkR) K rfl (by decide) cn_G_end (fun l hl r hr => k_G_end l hl _ _ _ r hr) mw_509 mw_510 mw_511 ⟨by decide, by decide, by decide, by decide⟩ d_L_end_2 rfl rfl (Nat.le_of_ble_eq_true rfl) (fun w1 _ => ?_)
  refine g_onV ?_ (fun E => ?_)
  · refine g_goto (pc := 5) (tgt := 14) K d_L_end_5 (by decide) ?_
    refine g_iconst (pc := 14) (v := 0) K d_L_end_14 (by decide) ?_
    exact g_iret (pc := 15) K S rfl d_L_end_15 (by decide) (by decide) rfl
  · refine gt_ite (fun h => ?_) (fun _ => ?_)
    · subst h
      refine g_catch1 (L' := [(0, .ref a0), (1, .int x1)]) K T [] (0, 5, 8, 13) [(0, 5, 11, 15)] rfl (fun _ h => nomatch h) (by decide) (by decide) mw_170 mw_177 (by decide) d_L_end_8 rfl ?_
      refine g_iconst (pc := 9) (v := 1) K d_L_end_9 (by decide) ?_
      exact g_iret (pc := 10) K S rfl d_L_end_10 (by decide) (by decide) rfl
    refine gt_ite (fun h => ?_) (fun _ => ?_)
    · subst h
      refine g_catch1 (L' := [(0, .ref a0), (1, .int x1)]) K T [(0, 5, 8, 13)] (0, 5, 11, 15) [] rfl (by intro z hz; rcases List.mem_cons.mp hz with rfl | hz; exact ⟨by decide, by decide, "java/lang/IllegalArgumentException", mw_170, by decide +kernel⟩; cases hz) (by decide) (by decide) mw_171 mw_246 (by decide) d_L_end_11 rfl ?_
      refine g_iconst (pc := 12) (v := 2) K d_L_end_12 (by decide) ?_
      exact g_iret (pc := 13) K S rfl d_L_end_13 (by decide) (by decide) rfl
    exact gt_none
-- TapirGroup.power(IZ)Z
def y_G_power : MethodName := ⟨"TapirGroup", "power", "(IZ)Z"⟩
abbrev rm_G_power : Room := { frames := 6, cells := 1, slots := 6, locals := 90 }
theorem d_G_power_0 : decode prog_1_method_11_code 0 = .ok (.iload_n 1, 1) := by decide +kernel
theorem d_G_power_1 : decode prog_1_method_11_code 1 = .ok (.invokestatic 63, 3) := by decide +kernel
theorem d_G_power_4 : decode prog_1_method_11_code 4 = .ok (.ifCond .ne 13, 3) := by decide +kernel
theorem d_G_power_7 : decode prog_1_method_11_code 7 = .ok (.new 37, 3) := by decide +kernel
theorem d_G_power_10 : decode prog_1_method_11_code 10 = .ok (.dup, 1) := by decide +kernel
theorem d_G_power_11 : decode prog_1_method_11_code 11 = .ok (.ldc 218, 2) := by decide +kernel
theorem d_G_power_13 : decode prog_1_method_11_code 13 = .ok (.invokespecial 41, 3) := by decide +kernel
theorem d_G_power_16 : decode prog_1_method_11_code 16 = .ok (.athrow, 1) := by decide +kernel
theorem d_G_power_17 : decode prog_1_method_11_code 17 = .ok (.aload_n 0, 1) := by decide +kernel
theorem d_G_power_18 : decode prog_1_method_11_code 18 = .ok (.getfield 11, 3) := by decide +kernel
theorem d_G_power_21 : decode prog_1_method_11_code 21 = .ok (.iload_n 1, 1) := by decide +kernel
theorem d_G_power_22 : decode prog_1_method_11_code 22 = .ok (.aaload, 1) := by decide +kernel
theorem d_G_power_23 : decode prog_1_method_11_code 23 = .ok (.getfield 220, 3) := by decide +kernel
theorem d_G_power_26 : decode prog_1_method_11_code 26 = .ok (.iload_n 2, 1) := by decide +kernel
theorem d_G_power_27 : decode prog_1_method_11_code 27 = .ok (.if_icmp .eq 7, 3) := by decide +kernel
theorem d_G_power_30 : decode prog_1_method_11_code 30 = .ok (.iconst 1, 1) := by decide +kernel
theorem d_G_power_31 : decode prog_1_method_11_code 31 = .ok (.goto 4, 3) := by decide +kernel
theorem d_G_power_34 : decode prog_1_method_11_code 34 = .ok (.iconst 0, 1) := by decide +kernel
theorem d_G_power_35 : decode prog_1_method_11_code 35 = .ok (.istore_n 3, 1) := by decide +kernel
theorem d_G_power_36 : decode prog_1_method_11_code 36 = .ok (.aload_n 0, 1) := by decide +kernel
theorem d_G_power_37 : decode prog_1_method_11_code 37 = .ok (.getfield 11, 3) := by decide +kernel
theorem d_G_power_40 : decode prog_1_method_11_code 40 = .ok (.iload_n 1, 1) := by decide +kernel
theorem d_G_power_41 : decode prog_1_method_11_code 41 = .ok (.aaload, 1) := by decide +kernel
theorem d_G_power_42 : decode prog_1_method_11_code 42 = .ok (.iload_n 2, 1) := by decide +kernel
theorem d_G_power_43 : decode prog_1_method_11_code 43 = .ok (.putfield 220, 3) := by decide +kernel
theorem d_G_power_46 : decode prog_1_method_11_code 46 = .ok (.iload_n 3, 1) := by decide +kernel
theorem d_G_power_47 : decode prog_1_method_11_code 47 = .ok (.ireturn, 1) := by decide +kernel
theorem cn_G_power : CN y_G_power (.code y_G_power prog_1_method_11_code 4 (some .boolean)) prog_1_method_11_code 4 (some .boolean) [] 2 := ⟨Or.inl ⟨rfl, rfl⟩, mw_523, mw_1, ⟨by decide +kernel, by decide +kernel⟩, by decide +kernel⟩
def b_G_power_35  (σ : Sg) (a0 : Nat) (x1 : Int32) (x2 : Int32) (t0 : Int32) : Option Rs := (if a0 < σ.1 ∧ kd a0 = 3 then rc (g_r σ a0 0) none (fun b4 => (if (b4 < σ.1 ∧ kd b4 = 13) ∧ inb x1 (ln b4) = true then rc (g_r σ b4 x1.toNatClampNeg) none (fun b5 => (if (b5 < σ.1 ∧ kd b5 = 1) ∧ (x2 = 0 ∨ x2 = 1) then (wi (s_i σ b5 0 x2) (fun s6 => (if t0 = 0 ∨ t0 = 1 then some ((.inl (some (.int t0)), s6) : Rs) else none))) else none)) else none)) else none)
set_option maxRecDepth 100000 in
set_option maxHeartbeats 4000000 in
theorem gb_G_power_35 {Γ : GX} (K : Cx Γ "TapirGroup" prog_1_method_11_code 4 rm_G_power) (S : Std Γ (some .boolean)) (T : Tb Γ []) (hI : y_G_power.name = "<init>" → Ini Γ) (σ : Sg) (a0 : Nat) (x1 : Int32) (x2 : Int32) (t0 : Int32) : G Γ mkR 0 0 35 [(0, .ref a0), (1, .int x1), (2, .int x2)] [.int t0] σ (b_G_power_35 σ a0 x1 x2 t0) := by
  unfold b_G_power_35
  refine g_istore_n (pc := 35) (L' := [(3, .int t0), (0, .ref a0), (1, .int x1), (2, .int x2)]) K d_G_power_35 (by decide) rfl ?_
  refine g_aload_n (pc := 36) (j := 1) K d_G_power_36 rfl ?_
  refine g_getR (pc := 37) K fl_G_11 d_G_power_37 (fun _ => ?_) (fun b4 _ => ?_)
  · exact g_none
  · refine g_iload_n (pc := 40) (j := 2) K d_G_power_40 rfl ?_
    refine g_aald (pc := 41) (kq := 13) (t0 := 3) K (by decide) (fun _ => rfl) d_G_power_41 (fun _ => ?_) (fun b5 _ => ?_)
    · exact g_none
    · refine g_iload_n (pc := 42) (j := 3) K d_G_power_42 rfl ?_
      refine g_putZ (pc := 43) K fl_G_220 d_G_power_43 ?_
      refine g_wi (fun s6 _ => ?_)
      refine g_iload_n (pc := 46) (j := 0) K d_G_power_46 rfl ?_
      exact g_zret (pc := 47) K S d_G_power_47 (by decide) (by decide) rfl
def f_G_power (σ : Sg) (a0 : Nat) (x1 : Int32) (x2 : Int32) : Option Rs := ((f_G_isReplica σ x1).bind (fun v1 => (if v1 = 0 then (some ((.inr "java/lang/IllegalArgumentException", σ) : Rs)) else (if a0 < σ.1 ∧ kd a0 = 3 then rc (g_r σ a0 0) none (fun b2 => (if (b2 < σ.1 ∧ kd b2 = 13) ∧ inb x1 (ln b2) = true then rc (g_r σ b2 x1.toNatClampNeg) none (fun b3 => (if b3 < σ.1 ∧ kd b3 = 1 then (if (g_i σ b3 0) = x2 then (b_G_power_35 σ a0 x1 x2 (0 : Int32)) else (b_G_power_35 σ a0 x1 x2 (1 : Int32))) else none)) else none)) else none))))
set_option maxRecDepth 100000 in
set_option maxHeartbeats 4000000 in
theorem k_G_power (l : Launch) (hl : l.stackTraces = false) (σ : Sg) (a0 : Nat) (x1 : Int32) (x2 : Int32) (r : Rs) (h : f_G_power σ a0 x1 x2 = some r) : Con l y_G_power (.code y_G_power prog_1_method_11_code 4 (some .boolean)) rm_G_power [.ref a0, .int x1, .int x2] σ (mkR r) := by
  refine Con.of (mk := mkR) (o := f_G_power σ a0 x1 x2) (z := r) (L0 := [(0, .ref a0), (1, .int x1), (2, .int x2)]) (bytes := prog_1_method_11_code) (maxL := 4) (ret := (some .boolean)) (hh := []) hl (by decide +kernel) (Or.inl ⟨rfl, rfl⟩) (by simp [Value.category]) (Nat.le_of_ble_eq_true rfl) rfl (fun Γ K S T hI => ?_) h rfl
  unfold f_G_power
  refine g_iload_n (pc := 0) (j := 1) K d_G_power_0 rfl ?_
  refine g_callS (pc := 1) (vs := [.int x1]) (st := []) (mkc := mkI σ) K cn_G_isReplica (fun l hl r hr => k_G_isReplica l hl _ _ r hr) mw_146 mw_147 ⟨by decide, by decide, by decide, by decide⟩ d_G_power_1 rfl rfl (Nat.le_of_ble_eq_true rfl) (fun v1 _ => ?_)
  change G Γ mkR 0 0 4 [(0, .ref a0), (1, .int x1), (2, .int x2)] [.int v1] σ _
  refine g_if_ne (pc := 4) (tgt := 17) K d_G_power_4 (by decide) (fun _ => ?_) (fun _ => ?_)
  · refine g_aload_n (pc := 17) (j := 0) K d_G_power_17 rfl ?_
    refine g_getR (pc := 18) K fl_G_11 d_G_power_18 (fun _ => ?_) (fun b2 _ => ?_)
    · exact g_none
    · refine g_iload_n (pc := 21) (j := 1) K d_G_power_21 rfl ?_
      refine g_aald (pc := 22) (kq := 13) (t0 := 3) K (by decide) (fun _ => rfl) d_G_power_22 (fun _ => ?_) (fun b3 _ => ?_)
      · exact g_none
      · refine g_getI (pc := 23) K fl_G_220 d_G_power_23 ?_
        refine g_iload_n (pc := 26) (j := 2) K d_G_power_26 rfl ?_
        refine g_icmp_eq (pc := 27) (tgt := 34) K d_G_power_27 (by decide) (fun _ => ?_) (fun _ => ?_)
        · refine g_iconst (pc := 34) (v := 0) K d_G_power_34 (by decide) ?_
          exact gb_G_power_35 K S T hI σ a0 x1 x2 (0 : Int32)
        · refine g_iconst (pc := 30) (v := 1) K d_G_power_30 (by decide) ?_
          refine g_goto (pc := 31) (tgt := 35) K d_G_power_31 (by decide) ?_
          exact gb_G_power_35 K S T hI σ a0 x1 x2 (1 : Int32)
  · exact g_throw (pc := 7) K S T tw_G_37_218_41 (fun _ h => nomatch h) d_G_power_7 d_G_power_10 d_G_power_11 d_G_power_13 d_G_power_16 (by decide) (by decide) (by decide) (by decide) rfl
-- TapirGroupLaw.power(LTapirGroup;IZ[J)I
def y_L_power : MethodName := ⟨"TapirGroupLaw", "power", "(LTapirGroup;IZ[J)I"⟩
abbrev rm_L_power : Room := { frames := 7, cells := 1, slots := 6, locals := 113 }
theorem d_L_power_0 : decode method_12_code 0 = .ok (.aload_n 3, 1) := by decide +kernel
theorem d_L_power_1 : decode method_12_code 1 = .ok (.iconst 0, 1) := by decide +kernel
theorem d_L_power_2 : decode method_12_code 2 = .ok (.aload_n 0, 1) := by decide +kernel
theorem d_L_power_3 : decode method_12_code 3 = .ok (.iload_n 1, 1) := by decide +kernel
theorem d_L_power_4 : decode method_12_code 4 = .ok (.iload_n 2, 1) := by decide +kernel
theorem d_L_power_5 : decode method_12_code 5 = .ok (.invokevirtual 51, 3) := by decide +kernel
theorem d_L_power_8 : decode method_12_code 8 = .ok (.ifCond .eq 7, 3) := by decide +kernel
theorem d_L_power_11 : decode method_12_code 11 = .ok (.lconst 1, 1) := by decide +kernel
theorem d_L_power_12 : decode method_12_code 12 = .ok (.goto 4, 3) := by decide +kernel
theorem d_L_power_15 : decode method_12_code 15 = .ok (.lconst 0, 1) := by decide +kernel
theorem d_L_power_16 : decode method_12_code 16 = .ok (.lastore, 1) := by decide +kernel
theorem d_L_power_17 : decode method_12_code 17 = .ok (.goto 7, 3) := by decide +kernel
theorem d_L_power_20 : decode method_12_code 20 = .ok (.astore 4, 2) := by decide +kernel
theorem d_L_power_22 : decode method_12_code 22 = .ok (.iconst 1, 1) := by decide +kernel
theorem d_L_power_23 : decode method_12_code 23 = .ok (.ireturn, 1) := by decide +kernel
theorem d_L_power_24 : decode method_12_code 24 = .ok (.iconst 0, 1) := by decide +kernel
theorem d_L_power_25 : decode method_12_code 25 = .ok (.ireturn, 1) := by decide +kernel
theorem cn_L_power : CN y_L_power (.codeWith y_L_power method_12_code 5 (some .int) [(0, 17, 20, 13)]) method_12_code 5 (some .int) [(0, 17, 20, 13)] 4 := ⟨Or.inr rfl, mw_519, mw_0, ⟨by decide +kernel, by decide +kernel⟩, by decide +kernel⟩
def b_L_power_16  (σ : Sg) (t0 : Nat) (t1 : Int32) (t2 : Int64) : Option (Int32 × Sg) := (if (t0 < σ.1 ∧ kd t0 = 12) ∧ inb t1 (ln t0) = true then (wi (s_l σ t0 t1.toNatClampNeg t2) (fun s3 => (some ((0 : Int32), s3)))) else none)
set_option maxRecDepth 100000 in
set_option maxHeartbeats 4000000 in
theorem gb_L_power_16 {Γ : GX} (K : Cx Γ "TapirGroupLaw" method_12_code 5 rm_L_power) (S : Std Γ (some .int)) (T : Tb Γ [(0, 17, 20, 13)]) (hI : y_L_power.name = "<init>" → Ini Γ) (σ : Sg) (t0 : Nat) (t1 : Int32) (t2 : Int64) : G Γ mkW 1 6 16 [] [.long t2, .int t1, .ref t0] σ (b_L_power_16 σ t0 t1 t2) := by
  unfold b_L_power_16
  refine g_last (pc := 16) K d_L_power_16 ?_
  refine g_wi (fun s3 _ => ?_)
  refine g_goto (pc := 17) (tgt := 24) K d_L_power_17 (by decide) ?_
  refine g_iconst (pc := 24) (v := 0) K d_L_power_24 (by decide) ?_
  exact g_iret (pc := 25) K S rfl d_L_power_25 (by decide) (by decide) rfl
def f_L_power (σ : Sg) (a0 : Nat) (x1 : Int32) (x2 : Int32) (a3 : Nat) : Option (Int32 × Sg) := (if a0 < σ.1 ∧ kd a0 = 3 then (f_G_power σ a0 x1 x2).bind (fun w1 => (onI w1.1 (fun x2 => (if x2 = 0 then (b_L_power_16 w1.2 a3 (0 : Int32) (0 : Int64)) else (b_L_power_16 w1.2 a3 (0 : Int32) (1 : Int64)))) (fun E => (if E = "java/lang/IllegalArgumentException" then (some ((1 : Int32), w1.2)) else none)))) else none)
set_option maxRecDepth 100000 in
set_option maxHeartbeats 4000000 in
theorem k_L_power (l : Launch) (hl : l.stackTraces = false) (σ : Sg) (a0 : Nat) (x1 : Int32) (x2 : Int32) (a3 : Nat) (r : (Int32 × Sg)) (h : f_L_power σ a0 x1 x2 a3 = some r) : Con l y_L_power (.codeWith y_L_power method_12_code 5 (some .int) [(0, 17, 20, 13)]) rm_L_power [.ref a0, .int x1, .int x2, .ref a3] σ (mkW r) := by
  refine Con.of (mk := mkW) (o := f_L_power σ a0 x1 x2 a3) (z := r) (L0 := [(0, .ref a0), (1, .int x1), (2, .int x2), (3, .ref a3)]) (bytes := method_12_code) (maxL := 5) (ret := (some .int)) (hh := [(0, 17, 20, 13)]) hl (by decide +kernel) (Or.inr rfl) (by simp [Value.category]) (Nat.le_of_ble_eq_true rfl) rfl (fun Γ K S T hI => ?_) h rfl
  unfold f_L_power
  refine g_aload_n (pc := 0) (j := 3) K d_L_power_0 rfl ?_
  refine g_iconst (pc := 1) (v := 0) K d_L_power_1 (by decide) ?_
  refine g_aload_n (pc := 2) (j := 0) K d_L_power_2 rfl ?_
  refine g_iload_n (pc := 3) (j := 1) K d_L_power_3 rfl ?_
  refine g_iload_n (pc := 4) (j := 2) K d_L_power_4 rfl ?_
  refine g_callV (pc := 5) (ci := 3) (a := a0) (vs := [.int x1, .int x2]) (st := [.int (0 : Int32), .ref a3]) (mkc := mkR) K rfl (by decide) cn_G_power (fun l hl r hr => k_G_power l hl _ _ _ _ r hr) mw_520 mw_521 mw_522 ⟨by decide, by decide, by decide, by decide⟩ d_L_power_5 rfl rfl (Nat.le_of_ble_eq_true rfl) (fun w1 _ => ?_)
  refine g_onI (fun x2 => ?_) (fun E => ?_)
  · refine g_if_eq (pc := 8) (tgt := 15) K d_L_power_8 (by decide) (fun _ => ?_) (fun _ => ?_)
    · refine g_lconst (pc := 15) (v := 0) K d_L_power_15 (by decide) ?_
      refine g_sub (L' := []) [] rfl ?_
      exact gb_L_power_16 K S T hI w1.2 a3 (0 : Int32) (0 : Int64)
    · refine g_lconst (pc := 11) (v := 1) K d_L_power_11 (by decide) ?_
      refine g_goto (pc := 12) (tgt := 16) K d_L_power_12 (by decide) ?_
      refine g_sub (L' := []) [] rfl ?_
      exact gb_L_power_16 K S T hI w1.2 a3 (0 : Int32) (1 : Int64)
  · refine gt_ite (fun h => ?_) (fun _ => ?_)
    · subst h
      refine g_catch2 (L' := [(0, .ref a0), (1, .int x1), (2, .int x2), (3, .ref a3)]) K T [] (0, 17, 20, 13) [] rfl (fun _ h => nomatch h) (by decide) (by decide) mw_170 mw_177 (by decide) d_L_power_20 rfl ?_
      refine g_iconst (pc := 22) (v := 1) K d_L_power_22 (by decide) ?_
      exact g_iret (pc := 23) K S rfl d_L_power_23 (by decide) (by decide) rfl
    exact gt_none
-- TapirGroup.upCount()I
def y_G_upCount : MethodName := ⟨"TapirGroup", "upCount", "()I"⟩
abbrev rm_G_upCount : Room := { frames := 0, cells := 0, slots := 0, locals := 0 }
theorem d_G_upCount_0 : decode prog_1_method_22_code 0 = .ok (.iconst 0, 1) := by decide +kernel
theorem d_G_upCount_1 : decode prog_1_method_22_code 1 = .ok (.istore_n 1, 1) := by decide +kernel
theorem d_G_upCount_2 : decode prog_1_method_22_code 2 = .ok (.iconst 0, 1) := by decide +kernel
theorem d_G_upCount_3 : decode prog_1_method_22_code 3 = .ok (.istore_n 2, 1) := by decide +kernel
theorem d_G_upCount_4 : decode prog_1_method_22_code 4 = .ok (.iload_n 2, 1) := by decide +kernel
theorem d_G_upCount_5 : decode prog_1_method_22_code 5 = .ok (.iconst 3, 1) := by decide +kernel
theorem d_G_upCount_6 : decode prog_1_method_22_code 6 = .ok (.if_icmp .ge 24, 3) := by decide +kernel
theorem d_G_upCount_9 : decode prog_1_method_22_code 9 = .ok (.aload_n 0, 1) := by decide +kernel
theorem d_G_upCount_10 : decode prog_1_method_22_code 10 = .ok (.getfield 11, 3) := by decide +kernel
theorem d_G_upCount_13 : decode prog_1_method_22_code 13 = .ok (.iload_n 2, 1) := by decide +kernel
theorem d_G_upCount_14 : decode prog_1_method_22_code 14 = .ok (.aaload, 1) := by decide +kernel
theorem d_G_upCount_15 : decode prog_1_method_22_code 15 = .ok (.getfield 220, 3) := by decide +kernel
theorem d_G_upCount_18 : decode prog_1_method_22_code 18 = .ok (.ifCond .eq 6, 3) := by decide +kernel
theorem d_G_upCount_21 : decode prog_1_method_22_code 21 = .ok (.iinc 1 1, 3) := by decide +kernel
theorem d_G_upCount_24 : decode prog_1_method_22_code 24 = .ok (.iinc 2 1, 3) := by decide +kernel
theorem d_G_upCount_27 : decode prog_1_method_22_code 27 = .ok (.goto (-23), 3) := by decide +kernel
theorem d_G_upCount_30 : decode prog_1_method_22_code 30 = .ok (.iload_n 1, 1) := by decide +kernel
theorem d_G_upCount_31 : decode prog_1_method_22_code 31 = .ok (.ireturn, 1) := by decide +kernel
theorem cn_G_upCount : CN y_G_upCount (.code y_G_upCount prog_1_method_22_code 3 (some .int)) prog_1_method_22_code 3 (some .int) [] 0 := ⟨Or.inl ⟨rfl, rfl⟩, mw_535, mw_1, ⟨by decide +kernel, by decide +kernel⟩, by decide +kernel⟩
def b_G_upCount_24 (σ : Sg) (k : Nat → Int32 → Int32 → Option Int32) (a0 : Nat) (x1 : Int32) (x2 : Int32) : Option Int32 := (k a0 x1 (x2 + 1))
set_option maxRecDepth 100000 in
set_option maxHeartbeats 4000000 in
theorem gb_G_upCount_24 {Γ : GX} (K : Cx Γ "TapirGroup" prog_1_method_22_code 3 rm_G_upCount) (S : Std Γ (some .int)) (T : Tb Γ []) (hI : y_G_upCount.name = "<init>" → Ini Γ) (σ : Sg) (k : Nat → Int32 → Int32 → Option Int32) (hk : ∀ (a0 : Nat) (x1 : Int32) (x2 : Int32), G Γ (mkI σ) 0 0 4 [(0, .ref a0), (1, .int x1), (2, .int x2)] [] σ (k a0 x1 x2)) (a0 : Nat) (x1 : Int32) (x2 : Int32) : G Γ (mkI σ) 0 0 24 [(0, .ref a0), (1, .int x1), (2, .int x2)] [] σ (b_G_upCount_24 σ k a0 x1 x2) := by
  unfold b_G_upCount_24
  refine g_iinc (pc := 24) (j := 2) (v := (x2 + 1)) (L' := [(2, .int (x2 + 1)), (0, .ref a0), (1, .int x1)]) K d_G_upCount_24 rfl (by rfl) (by decide) rfl ?_
  refine g_goto (pc := 27) (tgt := 4) K d_G_upCount_27 (by decide) ?_
  refine g_sub (L' := [(0, .ref a0), (1, .int x1), (2, .int (x2 + 1))]) [1, 2, 0] rfl ?_
  exact hk a0 x1 (x2 + 1)
def b_G_upCount_4 (σ : Sg) : Nat → Nat → Int32 → Int32 → Option Int32
  | 0 => fun _ _ _ => none
  | n + 1 => fun a0 x1 x2 => (if (3 : Int32) ≤ x2 then (some x1) else (if a0 < σ.1 ∧ kd a0 = 3 then rc (g_r σ a0 0) none (fun b1 => (if (b1 < σ.1 ∧ kd b1 = 13) ∧ inb x2 (ln b1) = true then rc (g_r σ b1 x2.toNatClampNeg) none (fun b2 => (if b2 < σ.1 ∧ kd b2 = 1 then (if (g_i σ b2 0) = 0 then (b_G_upCount_24 σ (b_G_upCount_4 σ n) a0 x1 x2) else (b_G_upCount_24 σ (b_G_upCount_4 σ n) a0 (x1 + 1) x2)) else none)) else none)) else none))
set_option maxRecDepth 100000 in
set_option maxHeartbeats 4000000 in
theorem gb_G_upCount_4 {Γ : GX} (K : Cx Γ "TapirGroup" prog_1_method_22_code 3 rm_G_upCount) (S : Std Γ (some .int)) (T : Tb Γ []) (hI : y_G_upCount.name = "<init>" → Ini Γ) (σ : Sg) (n : Nat) : ∀ (a0 : Nat) (x1 : Int32) (x2 : Int32), G Γ (mkI σ) 0 0 4 [(0, .ref a0), (1, .int x1), (2, .int x2)] [] σ (b_G_upCount_4 σ n a0 x1 x2) := by
  induction n with
  | zero =>
    intro a0 x1 x2
    exact g_none
  | succ n ih =>
    intro a0 x1 x2
    rw [b_G_upCount_4]
    refine g_iload_n (pc := 4) (j := 2) K d_G_upCount_4 rfl ?_
    refine g_iconst (pc := 5) (v := 3) K d_G_upCount_5 (by decide) ?_
    refine g_icmp_ge (pc := 6) (tgt := 30) K d_G_upCount_6 (by decide) (fun _ => ?_) (fun _ => ?_)
    · refine g_iload_n (pc := 30) (j := 1) K d_G_upCount_30 rfl ?_
      exact g_iret (pc := 31) K S rfl d_G_upCount_31 (by decide) (by decide) rfl
    · refine g_aload_n (pc := 9) (j := 0) K d_G_upCount_9 rfl ?_
      refine g_getR (pc := 10) K fl_G_11 d_G_upCount_10 (fun _ => ?_) (fun b1 _ => ?_)
      · exact g_none
      · refine g_iload_n (pc := 13) (j := 2) K d_G_upCount_13 rfl ?_
        refine g_aald (pc := 14) (kq := 13) (t0 := 3) K (by decide) (fun _ => rfl) d_G_upCount_14 (fun _ => ?_) (fun b2 _ => ?_)
        · exact g_none
        · refine g_getI (pc := 15) K fl_G_220 d_G_upCount_15 ?_
          refine g_if_eq (pc := 18) (tgt := 24) K d_G_upCount_18 (by decide) (fun _ => ?_) (fun _ => ?_)
          · exact gb_G_upCount_24 K S T hI σ (b_G_upCount_4 σ n) ih a0 x1 x2
          · refine g_iinc (pc := 21) (j := 1) (v := (x1 + 1)) (L' := [(1, .int (x1 + 1)), (0, .ref a0), (2, .int x2)]) K d_G_upCount_21 rfl (by rfl) (by decide) rfl ?_
            refine g_sub (L' := [(0, .ref a0), (1, .int (x1 + 1)), (2, .int x2)]) [1, 0, 2] rfl ?_
            exact gb_G_upCount_24 K S T hI σ (b_G_upCount_4 σ n) ih a0 (x1 + 1) x2
def f_G_upCount (σ : Sg) (a0 : Nat) : Option Int32 := (b_G_upCount_4 σ 1000 a0 (0 : Int32) (0 : Int32))
set_option maxRecDepth 100000 in
set_option maxHeartbeats 4000000 in
theorem k_G_upCount (l : Launch) (hl : l.stackTraces = false) (σ : Sg) (a0 : Nat) (r : Int32) (h : f_G_upCount σ a0 = some r) : Con l y_G_upCount (.code y_G_upCount prog_1_method_22_code 3 (some .int)) rm_G_upCount [.ref a0] σ ((mkI σ) r) := by
  refine Con.of (mk := (mkI σ)) (o := f_G_upCount σ a0) (z := r) (L0 := [(0, .ref a0)]) (bytes := prog_1_method_22_code) (maxL := 3) (ret := (some .int)) (hh := []) hl (by decide +kernel) (Or.inl ⟨rfl, rfl⟩) (by simp [Value.category]) (Nat.le_of_ble_eq_true rfl) rfl (fun Γ K S T hI => ?_) h rfl
  unfold f_G_upCount
  refine g_iconst (pc := 0) (v := 0) K d_G_upCount_0 (by decide) ?_
  refine g_istore_n (pc := 1) (L' := [(1, .int (0 : Int32)), (0, .ref a0)]) K d_G_upCount_1 (by decide) rfl ?_
  refine g_iconst (pc := 2) (v := 0) K d_G_upCount_2 (by decide) ?_
  refine g_istore_n (pc := 3) (L' := [(2, .int (0 : Int32)), (1, .int (0 : Int32)), (0, .ref a0)]) K d_G_upCount_3 (by decide) rfl ?_
  refine g_sub (L' := [(0, .ref a0), (1, .int (0 : Int32)), (2, .int (0 : Int32))]) [2, 1, 0] rfl ?_
  exact gb_G_upCount_4 K S T hI σ 1000 a0 (0 : Int32) (0 : Int32)
-- TapirGroup.newestViewUp()I
def y_G_newestViewUp : MethodName := ⟨"TapirGroup", "newestViewUp", "()I"⟩
abbrev rm_G_newestViewUp : Room := { frames := 1, cells := 0, slots := 0, locals := 21 }
theorem d_G_newestViewUp_0 : decode prog_1_method_23_code 0 = .ok (.iconst 0, 1) := by decide +kernel
theorem d_G_newestViewUp_1 : decode prog_1_method_23_code 1 = .ok (.istore_n 1, 1) := by decide +kernel
theorem d_G_newestViewUp_2 : decode prog_1_method_23_code 2 = .ok (.iconst 0, 1) := by decide +kernel
theorem d_G_newestViewUp_3 : decode prog_1_method_23_code 3 = .ok (.istore_n 2, 1) := by decide +kernel
theorem d_G_newestViewUp_4 : decode prog_1_method_23_code 4 = .ok (.iload_n 2, 1) := by decide +kernel
theorem d_G_newestViewUp_5 : decode prog_1_method_23_code 5 = .ok (.iconst 3, 1) := by decide +kernel
theorem d_G_newestViewUp_6 : decode prog_1_method_23_code 6 = .ok (.if_icmp .ge 35, 3) := by decide +kernel
theorem d_G_newestViewUp_9 : decode prog_1_method_23_code 9 = .ok (.aload_n 0, 1) := by decide +kernel
theorem d_G_newestViewUp_10 : decode prog_1_method_23_code 10 = .ok (.getfield 11, 3) := by decide +kernel
theorem d_G_newestViewUp_13 : decode prog_1_method_23_code 13 = .ok (.iload_n 2, 1) := by decide +kernel
theorem d_G_newestViewUp_14 : decode prog_1_method_23_code 14 = .ok (.aaload, 1) := by decide +kernel
theorem d_G_newestViewUp_15 : decode prog_1_method_23_code 15 = .ok (.getfield 220, 3) := by decide +kernel
theorem d_G_newestViewUp_18 : decode prog_1_method_23_code 18 = .ok (.ifCond .eq 17, 3) := by decide +kernel
theorem d_G_newestViewUp_21 : decode prog_1_method_23_code 21 = .ok (.iload_n 1, 1) := by decide +kernel
theorem d_G_newestViewUp_22 : decode prog_1_method_23_code 22 = .ok (.aload_n 0, 1) := by decide +kernel
theorem d_G_newestViewUp_23 : decode prog_1_method_23_code 23 = .ok (.getfield 11, 3) := by decide +kernel
theorem d_G_newestViewUp_26 : decode prog_1_method_23_code 26 = .ok (.iload_n 2, 1) := by decide +kernel
theorem d_G_newestViewUp_27 : decode prog_1_method_23_code 27 = .ok (.aaload, 1) := by decide +kernel
theorem d_G_newestViewUp_28 : decode prog_1_method_23_code 28 = .ok (.getfield 241, 3) := by decide +kernel
theorem d_G_newestViewUp_31 : decode prog_1_method_23_code 31 = .ok (.invokestatic 247, 3) := by decide +kernel
theorem d_G_newestViewUp_34 : decode prog_1_method_23_code 34 = .ok (.istore_n 1, 1) := by decide +kernel
theorem d_G_newestViewUp_35 : decode prog_1_method_23_code 35 = .ok (.iinc 2 1, 3) := by decide +kernel
theorem d_G_newestViewUp_38 : decode prog_1_method_23_code 38 = .ok (.goto (-34), 3) := by decide +kernel
theorem d_G_newestViewUp_41 : decode prog_1_method_23_code 41 = .ok (.iload_n 1, 1) := by decide +kernel
theorem d_G_newestViewUp_42 : decode prog_1_method_23_code 42 = .ok (.ireturn, 1) := by decide +kernel
theorem cn_G_newestViewUp : CN y_G_newestViewUp (.code y_G_newestViewUp prog_1_method_23_code 3 (some .int)) prog_1_method_23_code 3 (some .int) [] 0 := ⟨Or.inl ⟨rfl, rfl⟩, mw_540, mw_1, ⟨by decide +kernel, by decide +kernel⟩, by decide +kernel⟩
def b_G_newestViewUp_35 (σ : Sg) (k : Nat → Int32 → Int32 → Option Int32) (a0 : Nat) (x1 : Int32) (x2 : Int32) : Option Int32 := (k a0 x1 (x2 + 1))
set_option maxRecDepth 100000 in
set_option maxHeartbeats 4000000 in
theorem gb_G_newestViewUp_35 {Γ : GX} (K : Cx Γ "TapirGroup" prog_1_method_23_code 3 rm_G_newestViewUp) (S : Std Γ (some .int)) (T : Tb Γ []) (hI : y_G_newestViewUp.name = "<init>" → Ini Γ) (σ : Sg) (k : Nat → Int32 → Int32 → Option Int32) (hk : ∀ (a0 : Nat) (x1 : Int32) (x2 : Int32), G Γ (mkI σ) 0 0 4 [(0, .ref a0), (1, .int x1), (2, .int x2)] [] σ (k a0 x1 x2)) (a0 : Nat) (x1 : Int32) (x2 : Int32) : G Γ (mkI σ) 0 0 35 [(0, .ref a0), (1, .int x1), (2, .int x2)] [] σ (b_G_newestViewUp_35 σ k a0 x1 x2) := by
  unfold b_G_newestViewUp_35
  refine g_iinc (pc := 35) (j := 2) (v := (x2 + 1)) (L' := [(2, .int (x2 + 1)), (0, .ref a0), (1, .int x1)]) K d_G_newestViewUp_35 rfl (by rfl) (by decide) rfl ?_
  refine g_goto (pc := 38) (tgt := 4) K d_G_newestViewUp_38 (by decide) ?_
  refine g_sub (L' := [(0, .ref a0), (1, .int x1), (2, .int (x2 + 1))]) [1, 2, 0] rfl ?_
  exact hk a0 x1 (x2 + 1)
def b_G_newestViewUp_4 (σ : Sg) : Nat → Nat → Int32 → Int32 → Option Int32
  | 0 => fun _ _ _ => none
  | n + 1 => fun a0 x1 x2 => (if (3 : Int32) ≤ x2 then (some x1) else (if a0 < σ.1 ∧ kd a0 = 3 then rc (g_r σ a0 0) none (fun b1 => (if (b1 < σ.1 ∧ kd b1 = 13) ∧ inb x2 (ln b1) = true then rc (g_r σ b1 x2.toNatClampNeg) none (fun b2 => (if b2 < σ.1 ∧ kd b2 = 1 then (if (g_i σ b2 0) = 0 then (b_G_newestViewUp_35 σ (b_G_newestViewUp_4 σ n) a0 x1 x2) else (if a0 < σ.1 ∧ kd a0 = 3 then rc (g_r σ a0 0) none (fun b3 => (if (b3 < σ.1 ∧ kd b3 = 13) ∧ inb x2 (ln b3) = true then rc (g_r σ b3 x2.toNatClampNeg) none (fun b4 => (if b4 < σ.1 ∧ kd b4 = 1 then ((f_J_max σ x1 (g_i σ b4 1)).bind (fun v5 => (b_G_newestViewUp_35 σ (b_G_newestViewUp_4 σ n) a0 v5 x2))) else none)) else none)) else none)) else none)) else none)) else none))
set_option maxRecDepth 100000 in
set_option maxHeartbeats 4000000 in
theorem gb_G_newestViewUp_4 {Γ : GX} (K : Cx Γ "TapirGroup" prog_1_method_23_code 3 rm_G_newestViewUp) (S : Std Γ (some .int)) (T : Tb Γ []) (hI : y_G_newestViewUp.name = "<init>" → Ini Γ) (σ : Sg) (n : Nat) : ∀ (a0 : Nat) (x1 : Int32) (x2 : Int32), G Γ (mkI σ) 0 0 4 [(0, .ref a0), (1, .int x1), (2, .int x2)] [] σ (b_G_newestViewUp_4 σ n a0 x1 x2) := by
  induction n with
  | zero =>
    intro a0 x1 x2
    exact g_none
  | succ n ih =>
    intro a0 x1 x2
    rw [b_G_newestViewUp_4]
    refine g_iload_n (pc := 4) (j := 2) K d_G_newestViewUp_4 rfl ?_
    refine g_iconst (pc := 5) (v := 3) K d_G_newestViewUp_5 (by decide) ?_
    refine g_icmp_ge (pc := 6) (tgt := 41) K d_G_newestViewUp_6 (by decide) (fun _ => ?_) (fun _ => ?_)
    · refine g_iload_n (pc := 41) (j := 1) K d_G_newestViewUp_41 rfl ?_
      exact g_iret (pc := 42) K S rfl d_G_newestViewUp_42 (by decide) (by decide) rfl
    · refine g_aload_n (pc := 9) (j := 0) K d_G_newestViewUp_9 rfl ?_
      refine g_getR (pc := 10) K fl_G_11 d_G_newestViewUp_10 (fun _ => ?_) (fun b1 _ => ?_)
      · exact g_none
      · refine g_iload_n (pc := 13) (j := 2) K d_G_newestViewUp_13 rfl ?_
        refine g_aald (pc := 14) (kq := 13) (t0 := 3) K (by decide) (fun _ => rfl) d_G_newestViewUp_14 (fun _ => ?_) (fun b2 _ => ?_)
        · exact g_none
        · refine g_getI (pc := 15) K fl_G_220 d_G_newestViewUp_15 ?_
          refine g_if_eq (pc := 18) (tgt := 35) K d_G_newestViewUp_18 (by decide) (fun _ => ?_) (fun _ => ?_)
          · exact gb_G_newestViewUp_35 K S T hI σ (b_G_newestViewUp_4 σ n) ih a0 x1 x2
          · refine g_iload_n (pc := 21) (j := 1) K d_G_newestViewUp_21 rfl ?_
            refine g_aload_n (pc := 22) (j := 0) K d_G_newestViewUp_22 rfl ?_
            refine g_getR (pc := 23) K fl_G_11 d_G_newestViewUp_23 (fun _ => ?_) (fun b3 _ => ?_)
            · exact g_none
            · refine g_iload_n (pc := 26) (j := 2) K d_G_newestViewUp_26 rfl ?_
              refine g_aald (pc := 27) (kq := 13) (t0 := 3) K (by decide) (fun _ => rfl) d_G_newestViewUp_27 (fun _ => ?_) (fun b4 _ => ?_)
              · exact g_none
              · refine g_getI (pc := 28) K fl_G_241 d_G_newestViewUp_28 ?_
                refine g_callS (pc := 31) (vs := [.int x1, .int (g_i σ b4 1)]) (st := []) (mkc := mkI σ) K cn_J_max (fun l hl r hr => k_J_max l hl _ _ _ r hr) mw_164 mw_165 ⟨by decide, by decide, by decide, by decide⟩ d_G_newestViewUp_31 rfl rfl (Nat.le_of_ble_eq_true rfl) (fun v5 _ => ?_)
                change G Γ (mkI σ) 0 0 34 [(0, .ref a0), (1, .int x1), (2, .int x2)] [.int v5] σ _
                refine g_istore_n (pc := 34) (L' := [(1, .int v5), (0, .ref a0), (2, .int x2)]) K d_G_newestViewUp_34 (by decide) rfl ?_
                refine g_sub (L' := [(0, .ref a0), (1, .int v5), (2, .int x2)]) [1, 0, 2] rfl ?_
                exact gb_G_newestViewUp_35 K S T hI σ (b_G_newestViewUp_4 σ n) ih a0 v5 x2
def f_G_newestViewUp (σ : Sg) (a0 : Nat) : Option Int32 := (b_G_newestViewUp_4 σ 1000 a0 (0 : Int32) (0 : Int32))
set_option maxRecDepth 100000 in
set_option maxHeartbeats 4000000 in
theorem k_G_newestViewUp (l : Launch) (hl : l.stackTraces = false) (σ : Sg) (a0 : Nat) (r : Int32) (h : f_G_newestViewUp σ a0 = some r) : Con l y_G_newestViewUp (.code y_G_newestViewUp prog_1_method_23_code 3 (some .int)) rm_G_newestViewUp [.ref a0] σ ((mkI σ) r) := by
  refine Con.of (mk := (mkI σ)) (o := f_G_newestViewUp σ a0) (z := r) (L0 := [(0, .ref a0)]) (bytes := prog_1_method_23_code) (maxL := 3) (ret := (some .int)) (hh := []) hl (by decide +kernel) (Or.inl ⟨rfl, rfl⟩) (by simp [Value.category]) (Nat.le_of_ble_eq_true rfl) rfl (fun Γ K S T hI => ?_) h rfl
  unfold f_G_newestViewUp
  refine g_iconst (pc := 0) (v := 0) K d_G_newestViewUp_0 (by decide) ?_
  refine g_istore_n (pc := 1) (L' := [(1, .int (0 : Int32)), (0, .ref a0)]) K d_G_newestViewUp_1 (by decide) rfl ?_
  refine g_iconst (pc := 2) (v := 0) K d_G_newestViewUp_2 (by decide) ?_
  refine g_istore_n (pc := 3) (L' := [(2, .int (0 : Int32)), (1, .int (0 : Int32)), (0, .ref a0)]) K d_G_newestViewUp_3 (by decide) rfl ?_
  refine g_sub (L' := [(0, .ref a0), (1, .int (0 : Int32)), (2, .int (0 : Int32))]) [2, 1, 0] rfl ?_
  exact gb_G_newestViewUp_4 K S T hI σ 1000 a0 (0 : Int32) (0 : Int32)
-- TapirGroup.someUpHas(II)Z
def y_G_someUpHas : MethodName := ⟨"TapirGroup", "someUpHas", "(II)Z"⟩
abbrev rm_G_someUpHas : Room := { frames := 2, cells := 0, slots := 0, locals := 43 }
theorem d_G_someUpHas_0 : decode prog_1_method_28_code 0 = .ok (.iconst 0, 1) := by decide +kernel
theorem d_G_someUpHas_1 : decode prog_1_method_28_code 1 = .ok (.istore_n 3, 1) := by decide +kernel
theorem d_G_someUpHas_2 : decode prog_1_method_28_code 2 = .ok (.iload_n 3, 1) := by decide +kernel
theorem d_G_someUpHas_3 : decode prog_1_method_28_code 3 = .ok (.iconst 3, 1) := by decide +kernel
theorem d_G_someUpHas_4 : decode prog_1_method_28_code 4 = .ok (.if_icmp .ge 37, 3) := by decide +kernel
theorem d_G_someUpHas_7 : decode prog_1_method_28_code 7 = .ok (.aload_n 0, 1) := by decide +kernel
theorem d_G_someUpHas_8 : decode prog_1_method_28_code 8 = .ok (.getfield 11, 3) := by decide +kernel
theorem d_G_someUpHas_11 : decode prog_1_method_28_code 11 = .ok (.iload_n 3, 1) := by decide +kernel
theorem d_G_someUpHas_12 : decode prog_1_method_28_code 12 = .ok (.aaload, 1) := by decide +kernel
theorem d_G_someUpHas_13 : decode prog_1_method_28_code 13 = .ok (.getfield 220, 3) := by decide +kernel
theorem d_G_someUpHas_16 : decode prog_1_method_28_code 16 = .ok (.ifCond .eq 19, 3) := by decide +kernel
theorem d_G_someUpHas_19 : decode prog_1_method_28_code 19 = .ok (.aload_n 0, 1) := by decide +kernel
theorem d_G_someUpHas_20 : decode prog_1_method_28_code 20 = .ok (.getfield 11, 3) := by decide +kernel
theorem d_G_someUpHas_23 : decode prog_1_method_28_code 23 = .ok (.iload_n 3, 1) := by decide +kernel
theorem d_G_someUpHas_24 : decode prog_1_method_28_code 24 = .ok (.aaload, 1) := by decide +kernel
theorem d_G_someUpHas_25 : decode prog_1_method_28_code 25 = .ok (.iload_n 1, 1) := by decide +kernel
theorem d_G_someUpHas_26 : decode prog_1_method_28_code 26 = .ok (.iload_n 2, 1) := by decide +kernel
theorem d_G_someUpHas_27 : decode prog_1_method_28_code 27 = .ok (.invokevirtual 188, 3) := by decide +kernel
theorem d_G_someUpHas_30 : decode prog_1_method_28_code 30 = .ok (.ifCond .eq 5, 3) := by decide +kernel
theorem d_G_someUpHas_33 : decode prog_1_method_28_code 33 = .ok (.iconst 1, 1) := by decide +kernel
theorem d_G_someUpHas_34 : decode prog_1_method_28_code 34 = .ok (.ireturn, 1) := by decide +kernel
theorem d_G_someUpHas_35 : decode prog_1_method_28_code 35 = .ok (.iinc 3 1, 3) := by decide +kernel
theorem d_G_someUpHas_38 : decode prog_1_method_28_code 38 = .ok (.goto (-36), 3) := by decide +kernel
theorem d_G_someUpHas_41 : decode prog_1_method_28_code 41 = .ok (.iconst 0, 1) := by decide +kernel
theorem d_G_someUpHas_42 : decode prog_1_method_28_code 42 = .ok (.ireturn, 1) := by decide +kernel
theorem cn_G_someUpHas : CN y_G_someUpHas (.code y_G_someUpHas prog_1_method_28_code 4 (some .boolean)) prog_1_method_28_code 4 (some .boolean) [] 2 := ⟨Or.inl ⟨rfl, rfl⟩, mw_548, mw_1, ⟨by decide +kernel, by decide +kernel⟩, by decide +kernel⟩
def b_G_someUpHas_35 (σ : Sg) (k : Nat → Int32 → Int32 → Int32 → Option Int32) (a0 : Nat) (x1 : Int32) (x2 : Int32) (x3 : Int32) : Option Int32 := (k a0 x1 x2 (x3 + 1))
set_option maxRecDepth 100000 in
set_option maxHeartbeats 4000000 in
theorem gb_G_someUpHas_35 {Γ : GX} (K : Cx Γ "TapirGroup" prog_1_method_28_code 4 rm_G_someUpHas) (S : Std Γ (some .boolean)) (T : Tb Γ []) (hI : y_G_someUpHas.name = "<init>" → Ini Γ) (σ : Sg) (k : Nat → Int32 → Int32 → Int32 → Option Int32) (hk : ∀ (a0 : Nat) (x1 : Int32) (x2 : Int32) (x3 : Int32), G Γ (mkI σ) 0 0 2 [(0, .ref a0), (1, .int x1), (2, .int x2), (3, .int x3)] [] σ (k a0 x1 x2 x3)) (a0 : Nat) (x1 : Int32) (x2 : Int32) (x3 : Int32) : G Γ (mkI σ) 0 0 35 [(0, .ref a0), (1, .int x1), (2, .int x2), (3, .int x3)] [] σ (b_G_someUpHas_35 σ k a0 x1 x2 x3) := by
  unfold b_G_someUpHas_35
  refine g_iinc (pc := 35) (j := 3) (v := (x3 + 1)) (L' := [(3, .int (x3 + 1)), (0, .ref a0), (1, .int x1), (2, .int x2)]) K d_G_someUpHas_35 rfl (by rfl) (by decide) rfl ?_
  refine g_goto (pc := 38) (tgt := 2) K d_G_someUpHas_38 (by decide) ?_
  refine g_sub (L' := [(0, .ref a0), (1, .int x1), (2, .int x2), (3, .int (x3 + 1))]) [1, 2, 3, 0] rfl ?_
  exact hk a0 x1 x2 (x3 + 1)
def b_G_someUpHas_2 (σ : Sg) : Nat → Nat → Int32 → Int32 → Int32 → Option Int32
  | 0 => fun _ _ _ _ => none
  | n + 1 => fun a0 x1 x2 x3 => (if (3 : Int32) ≤ x3 then (some (0 : Int32)) else (if a0 < σ.1 ∧ kd a0 = 3 then rc (g_r σ a0 0) none (fun b1 => (if (b1 < σ.1 ∧ kd b1 = 13) ∧ inb x3 (ln b1) = true then rc (g_r σ b1 x3.toNatClampNeg) none (fun b2 => (if b2 < σ.1 ∧ kd b2 = 1 then (if (g_i σ b2 0) = 0 then (b_G_someUpHas_35 σ (b_G_someUpHas_2 σ n) a0 x1 x2 x3) else (if a0 < σ.1 ∧ kd a0 = 3 then rc (g_r σ a0 0) none (fun b3 => (if (b3 < σ.1 ∧ kd b3 = 13) ∧ inb x3 (ln b3) = true then rc (g_r σ b3 x3.toNatClampNeg) none (fun b4 => (if b4 < σ.1 ∧ kd b4 = 1 then (f_R_has σ b4 x1 x2).bind (fun v5 => (if v5 = 0 then (b_G_someUpHas_35 σ (b_G_someUpHas_2 σ n) a0 x1 x2 x3) else (some (1 : Int32)))) else none)) else none)) else none)) else none)) else none)) else none))
set_option maxRecDepth 100000 in
set_option maxHeartbeats 4000000 in
theorem gb_G_someUpHas_2 {Γ : GX} (K : Cx Γ "TapirGroup" prog_1_method_28_code 4 rm_G_someUpHas) (S : Std Γ (some .boolean)) (T : Tb Γ []) (hI : y_G_someUpHas.name = "<init>" → Ini Γ) (σ : Sg) (n : Nat) : ∀ (a0 : Nat) (x1 : Int32) (x2 : Int32) (x3 : Int32), G Γ (mkI σ) 0 0 2 [(0, .ref a0), (1, .int x1), (2, .int x2), (3, .int x3)] [] σ (b_G_someUpHas_2 σ n a0 x1 x2 x3) := by
  induction n with
  | zero =>
    intro a0 x1 x2 x3
    exact g_none
  | succ n ih =>
    intro a0 x1 x2 x3
    rw [b_G_someUpHas_2]
    refine g_iload_n (pc := 2) (j := 3) K d_G_someUpHas_2 rfl ?_
    refine g_iconst (pc := 3) (v := 3) K d_G_someUpHas_3 (by decide) ?_
    refine g_icmp_ge (pc := 4) (tgt := 41) K d_G_someUpHas_4 (by decide) (fun _ => ?_) (fun _ => ?_)
    · refine g_iconst (pc := 41) (v := 0) K d_G_someUpHas_41 (by decide) ?_
      exact g_iret (pc := 42) K S rfl d_G_someUpHas_42 (by decide) (by decide) rfl
    · refine g_aload_n (pc := 7) (j := 0) K d_G_someUpHas_7 rfl ?_
      refine g_getR (pc := 8) K fl_G_11 d_G_someUpHas_8 (fun _ => ?_) (fun b1 _ => ?_)
      · exact g_none
      · refine g_iload_n (pc := 11) (j := 3) K d_G_someUpHas_11 rfl ?_
        refine g_aald (pc := 12) (kq := 13) (t0 := 3) K (by decide) (fun _ => rfl) d_G_someUpHas_12 (fun _ => ?_) (fun b2 _ => ?_)
        · exact g_none
        · refine g_getI (pc := 13) K fl_G_220 d_G_someUpHas_13 ?_
          refine g_if_eq (pc := 16) (tgt := 35) K d_G_someUpHas_16 (by decide) (fun _ => ?_) (fun _ => ?_)
          · exact gb_G_someUpHas_35 K S T hI σ (b_G_someUpHas_2 σ n) ih a0 x1 x2 x3
          · refine g_aload_n (pc := 19) (j := 0) K d_G_someUpHas_19 rfl ?_
            refine g_getR (pc := 20) K fl_G_11 d_G_someUpHas_20 (fun _ => ?_) (fun b3 _ => ?_)
            · exact g_none
            · refine g_iload_n (pc := 23) (j := 3) K d_G_someUpHas_23 rfl ?_
              refine g_aald (pc := 24) (kq := 13) (t0 := 3) K (by decide) (fun _ => rfl) d_G_someUpHas_24 (fun _ => ?_) (fun b4 _ => ?_)
              · exact g_none
              · refine g_iload_n (pc := 25) (j := 1) K d_G_someUpHas_25 rfl ?_
                refine g_iload_n (pc := 26) (j := 2) K d_G_someUpHas_26 rfl ?_
                refine g_callV (pc := 27) (ci := 1) (a := b4) (vs := [.int x1, .int x2]) (st := []) (mkc := mkI σ) K rfl (by decide) cn_R_has (fun l hl r hr => k_R_has l hl _ _ _ _ r hr) mw_480 mw_435 mw_436 ⟨by decide, by decide, by decide, by decide⟩ d_G_someUpHas_27 rfl rfl (Nat.le_of_ble_eq_true rfl) (fun v5 _ => ?_)
                change G Γ (mkI σ) 0 0 30 [(0, .ref a0), (1, .int x1), (2, .int x2), (3, .int x3)] [.int v5] σ _
                refine g_if_eq (pc := 30) (tgt := 35) K d_G_someUpHas_30 (by decide) (fun _ => ?_) (fun _ => ?_)
                · exact gb_G_someUpHas_35 K S T hI σ (b_G_someUpHas_2 σ n) ih a0 x1 x2 x3
                · refine g_iconst (pc := 33) (v := 1) K d_G_someUpHas_33 (by decide) ?_
                  exact g_iret (pc := 34) K S rfl d_G_someUpHas_34 (by decide) (by decide) rfl
def f_G_someUpHas (σ : Sg) (a0 : Nat) (x1 : Int32) (x2 : Int32) : Option Int32 := (b_G_someUpHas_2 σ 1000 a0 x1 x2 (0 : Int32))
set_option maxRecDepth 100000 in
set_option maxHeartbeats 4000000 in
theorem k_G_someUpHas (l : Launch) (hl : l.stackTraces = false) (σ : Sg) (a0 : Nat) (x1 : Int32) (x2 : Int32) (r : Int32) (h : f_G_someUpHas σ a0 x1 x2 = some r) : Con l y_G_someUpHas (.code y_G_someUpHas prog_1_method_28_code 4 (some .boolean)) rm_G_someUpHas [.ref a0, .int x1, .int x2] σ ((mkI σ) r) := by
  refine Con.of (mk := (mkI σ)) (o := f_G_someUpHas σ a0 x1 x2) (z := r) (L0 := [(0, .ref a0), (1, .int x1), (2, .int x2)]) (bytes := prog_1_method_28_code) (maxL := 4) (ret := (some .boolean)) (hh := []) hl (by decide +kernel) (Or.inl ⟨rfl, rfl⟩) (by simp [Value.category]) (Nat.le_of_ble_eq_true rfl) rfl (fun Γ K S T hI => ?_) h rfl
  unfold f_G_someUpHas
  refine g_iconst (pc := 0) (v := 0) K d_G_someUpHas_0 (by decide) ?_
  refine g_istore_n (pc := 1) (L' := [(3, .int (0 : Int32)), (0, .ref a0), (1, .int x1), (2, .int x2)]) K d_G_someUpHas_1 (by decide) rfl ?_
  refine g_sub (L' := [(0, .ref a0), (1, .int x1), (2, .int x2), (3, .int (0 : Int32))]) [1, 2, 3, 0] rfl ?_
  exact gb_G_someUpHas_2 K S T hI σ 1000 a0 x1 x2 (0 : Int32)
