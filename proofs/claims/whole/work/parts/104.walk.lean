-- TapirGroup.write(III)V
def y_G_write : MethodName := ⟨"TapirGroup", "write", "(III)V"⟩
abbrev rm_G_write : Room := { frames := 6, cells := 1, slots := 6, locals := 90 }
theorem d_G_write_0 : decode prog_1_method_4_code 0 = .ok (.iload_n 1, 1) := by decide +kernel
theorem d_G_write_1 : decode prog_1_method_4_code 1 = .ok (.invokestatic 33, 3) := by decide +kernel
theorem d_G_write_4 : decode prog_1_method_4_code 4 = .ok (.ifCond .eq 10, 3) := by decide +kernel
theorem d_G_write_7 : decode prog_1_method_4_code 7 = .ok (.iload_n 2, 1) := by decide +kernel
theorem d_G_write_8 : decode prog_1_method_4_code 8 = .ok (.invokestatic 60, 3) := by decide +kernel
theorem d_G_write_11 : decode prog_1_method_4_code 11 = .ok (.ifCond .ne 13, 3) := by decide +kernel
theorem d_G_write_14 : decode prog_1_method_4_code 14 = .ok (.new 37, 3) := by decide +kernel
theorem d_G_write_17 : decode prog_1_method_4_code 17 = .ok (.dup, 1) := by decide +kernel
theorem d_G_write_18 : decode prog_1_method_4_code 18 = .ok (.ldc 113, 2) := by decide +kernel
theorem d_G_write_20 : decode prog_1_method_4_code 20 = .ok (.invokespecial 41, 3) := by decide +kernel
theorem d_G_write_23 : decode prog_1_method_4_code 23 = .ok (.athrow, 1) := by decide +kernel
theorem d_G_write_24 : decode prog_1_method_4_code 24 = .ok (.aload_n 0, 1) := by decide +kernel
theorem d_G_write_25 : decode prog_1_method_4_code 25 = .ok (.getfield 17, 3) := by decide +kernel
theorem d_G_write_28 : decode prog_1_method_4_code 28 = .ok (.iload_n 1, 1) := by decide +kernel
theorem d_G_write_29 : decode prog_1_method_4_code 29 = .ok (.aaload, 1) := by decide +kernel
theorem d_G_write_30 : decode prog_1_method_4_code 30 = .ok (.getfield 44, 3) := by decide +kernel
theorem d_G_write_33 : decode prog_1_method_4_code 33 = .ok (.astore 4, 2) := by decide +kernel
theorem d_G_write_35 : decode prog_1_method_4_code 35 = .ok (.aload 4, 2) := by decide +kernel
theorem d_G_write_37 : decode prog_1_method_4_code 37 = .ok (.ifnull 16, 3) := by decide +kernel
theorem d_G_write_40 : decode prog_1_method_4_code 40 = .ok (.aload_n 0, 1) := by decide +kernel
theorem d_G_write_41 : decode prog_1_method_4_code 41 = .ok (.getfield 17, 3) := by decide +kernel
theorem d_G_write_44 : decode prog_1_method_4_code 44 = .ok (.iload_n 1, 1) := by decide +kernel
theorem d_G_write_45 : decode prog_1_method_4_code 45 = .ok (.aaload, 1) := by decide +kernel
theorem d_G_write_46 : decode prog_1_method_4_code 46 = .ok (.getfield 68, 3) := by decide +kernel
theorem d_G_write_49 : decode prog_1_method_4_code 49 = .ok (.iconst 1, 1) := by decide +kernel
theorem d_G_write_50 : decode prog_1_method_4_code 50 = .ok (.if_icmp .eq 13, 3) := by decide +kernel
theorem d_G_write_53 : decode prog_1_method_4_code 53 = .ok (.new 48, 3) := by decide +kernel
theorem d_G_write_56 : decode prog_1_method_4_code 56 = .ok (.dup, 1) := by decide +kernel
theorem d_G_write_57 : decode prog_1_method_4_code 57 = .ok (.ldc 71, 2) := by decide +kernel
theorem d_G_write_59 : decode prog_1_method_4_code 59 = .ok (.invokespecial 52, 3) := by decide +kernel
theorem d_G_write_62 : decode prog_1_method_4_code 62 = .ok (.athrow, 1) := by decide +kernel
theorem d_G_write_63 : decode prog_1_method_4_code 63 = .ok (.aload 4, 2) := by decide +kernel
theorem d_G_write_65 : decode prog_1_method_4_code 65 = .ok (.iload_n 2, 1) := by decide +kernel
theorem d_G_write_66 : decode prog_1_method_4_code 66 = .ok (.invokevirtual 73, 3) := by decide +kernel
theorem d_G_write_69 : decode prog_1_method_4_code 69 = .ok (.ifCond .ne 22, 3) := by decide +kernel
theorem d_G_write_72 : decode prog_1_method_4_code 72 = .ok (.aload 4, 2) := by decide +kernel
theorem d_G_write_74 : decode prog_1_method_4_code 74 = .ok (.invokevirtual 115, 3) := by decide +kernel
theorem d_G_write_77 : decode prog_1_method_4_code 77 = .ok (.iconst 4, 1) := by decide +kernel
theorem d_G_write_78 : decode prog_1_method_4_code 78 = .ok (.if_icmp .lt 13, 3) := by decide +kernel
theorem d_G_write_81 : decode prog_1_method_4_code 81 = .ok (.new 98, 3) := by decide +kernel
theorem d_G_write_84 : decode prog_1_method_4_code 84 = .ok (.dup, 1) := by decide +kernel
theorem d_G_write_85 : decode prog_1_method_4_code 85 = .ok (.ldc 118, 2) := by decide +kernel
theorem d_G_write_87 : decode prog_1_method_4_code 87 = .ok (.invokespecial 102, 3) := by decide +kernel
theorem d_G_write_90 : decode prog_1_method_4_code 90 = .ok (.athrow, 1) := by decide +kernel
theorem d_G_write_91 : decode prog_1_method_4_code 91 = .ok (.aload 4, 2) := by decide +kernel
theorem d_G_write_93 : decode prog_1_method_4_code 93 = .ok (.iload_n 2, 1) := by decide +kernel
theorem d_G_write_94 : decode prog_1_method_4_code 94 = .ok (.iload_n 3, 1) := by decide +kernel
theorem d_G_write_95 : decode prog_1_method_4_code 95 = .ok (.invokevirtual 120, 3) := by decide +kernel
theorem d_G_write_98 : decode prog_1_method_4_code 98 = .ok (.return_, 1) := by decide +kernel
theorem cn_G_write : CN y_G_write (.code y_G_write prog_1_method_4_code 5 none) prog_1_method_4_code 5 none [] 3 := ⟨Or.inl ⟨rfl, rfl⟩, mw_370, mw_1, ⟨by decide +kernel, by decide +kernel⟩, by decide +kernel⟩
def b_G_write_14  (σ : Sg)  : Option Rs := (some ((.inr "java/lang/IllegalArgumentException", σ) : Rs))
set_option maxRecDepth 100000 in
set_option maxHeartbeats 4000000 in
theorem gb_G_write_14 {Γ : GX} (K : Cx Γ "TapirGroup" prog_1_method_4_code 5 rm_G_write) (S : Std Γ none) (T : Tb Γ []) (hI : y_G_write.name = "<init>" → Ini Γ) (σ : Sg)  : G Γ mkR 0 0 14 [] [] σ (b_G_write_14 σ ) := by
  unfold b_G_write_14
  exact g_throw (pc := 14) K S T tw_G_37_113_41 (fun _ h => nomatch h) d_G_write_14 d_G_write_17 d_G_write_18 d_G_write_20 d_G_write_23 (by decide) (by decide) (by decide) (by decide) rfl
def b_G_write_53  (σ : Sg)  : Option Rs := (some ((.inr "java/lang/IllegalStateException", σ) : Rs))
set_option maxRecDepth 100000 in
set_option maxHeartbeats 4000000 in
theorem gb_G_write_53 {Γ : GX} (K : Cx Γ "TapirGroup" prog_1_method_4_code 5 rm_G_write) (S : Std Γ none) (T : Tb Γ []) (hI : y_G_write.name = "<init>" → Ini Γ) (σ : Sg)  : G Γ mkR 0 0 53 [] [] σ (b_G_write_53 σ ) := by
  unfold b_G_write_53
  exact g_throw (pc := 53) K S T tw_G_48_71_52 (fun _ h => nomatch h) d_G_write_53 d_G_write_56 d_G_write_57 d_G_write_59 d_G_write_62 (by decide) (by decide) (by decide) (by decide) rfl
def b_G_write_91  (σ : Sg) (x2 : Int32) (x3 : Int32) (a4 : Nat) : Option Rs := (if a4 < σ.1 ∧ kd a4 = 2 then (f_T_put σ a4 x2 x3).bind (fun s10 => (some ((.inl none, s10) : Rs))) else none)
set_option maxRecDepth 100000 in
set_option maxHeartbeats 4000000 in
theorem gb_G_write_91 {Γ : GX} (K : Cx Γ "TapirGroup" prog_1_method_4_code 5 rm_G_write) (S : Std Γ none) (T : Tb Γ []) (hI : y_G_write.name = "<init>" → Ini Γ) (σ : Sg) (x2 : Int32) (x3 : Int32) (a4 : Nat) : G Γ mkR 0 0 91 [(2, .int x2), (3, .int x3), (4, .ref a4)] [] σ (b_G_write_91 σ x2 x3 a4) := by
  unfold b_G_write_91
  refine g_aload (pc := 91) (j := 2) K d_G_write_91 rfl ?_
  refine g_iload_n (pc := 93) (j := 0) K d_G_write_93 rfl ?_
  refine g_iload_n (pc := 94) (j := 1) K d_G_write_94 rfl ?_
  refine g_callV (pc := 95) (ci := 2) (a := a4) (vs := [.int x2, .int x3]) (st := []) (mkc := mkV) K rfl (by decide) cn_T_put (fun l hl r hr => k_T_put l hl _ _ _ _ r hr) mw_373 mw_374 mw_375 ⟨by decide, by decide, by decide, by decide⟩ d_G_write_95 rfl rfl (Nat.le_of_ble_eq_true rfl) (fun s10 _ => ?_)
  change G Γ mkR 0 0 98 [(2, .int x2), (3, .int x3), (4, .ref a4)] [] s10 _
  exact g_vret (pc := 98) K S d_G_write_98 (by decide) (by decide) rfl
def f_G_write (σ : Sg) (a0 : Nat) (x1 : Int32) (x2 : Int32) (x3 : Int32) : Option Rs := ((f_G_isClient σ x1).bind (fun v1 => (if v1 = 0 then (b_G_write_14 σ) else ((f_G_isKey σ x2).bind (fun v2 => (if v2 = 0 then (b_G_write_14 σ) else (if a0 < σ.1 ∧ kd a0 = 3 then rc (g_r σ a0 1) none (fun b3 => (if (b3 < σ.1 ∧ kd b3 = 14) ∧ inb x1 (ln b3) = true then rc (g_r σ b3 x1.toNatClampNeg) none (fun b4 => (if b4 < σ.1 ∧ kd b4 = 0 then rc (g_r σ b4 0) (b_G_write_53 σ) (fun b5 => (if a0 < σ.1 ∧ kd a0 = 3 then rc (g_r σ a0 1) none (fun b6 => (if (b6 < σ.1 ∧ kd b6 = 14) ∧ inb x1 (ln b6) = true then rc (g_r σ b6 x1.toNatClampNeg) none (fun b7 => (if b7 < σ.1 ∧ kd b7 = 0 then (if (g_i σ b7 1) = (1 : Int32) then (if b5 < σ.1 ∧ kd b5 = 2 then (f_T_hasWritten σ b5 x2).bind (fun v8 => (if v8 = 0 then (if b5 < σ.1 ∧ kd b5 = 2 then (f_T_writeCount σ b5).bind (fun v9 => (if v9 < (4 : Int32) then (b_G_write_91 σ x2 x3 b5) else (some ((.inr "java/lang/IndexOutOfBoundsException", σ) : Rs)))) else none) else (b_G_write_91 σ x2 x3 b5))) else none) else (b_G_write_53 σ)) else none)) else none)) else none)) else none)) else none)) else none)))))))
set_option maxRecDepth 100000 in
set_option maxHeartbeats 4000000 in
theorem k_G_write (l : Launch) (hl : l.stackTraces = false) (σ : Sg) (a0 : Nat) (x1 : Int32) (x2 : Int32) (x3 : Int32) (r : Rs) (h : f_G_write σ a0 x1 x2 x3 = some r) : Con l y_G_write (.code y_G_write prog_1_method_4_code 5 none) rm_G_write [.ref a0, .int x1, .int x2, .int x3] σ (mkR r) := by
  refine Con.of (mk := mkR) (o := f_G_write σ a0 x1 x2 x3) (z := r) (L0 := [(0, .ref a0), (1, .int x1), (2, .int x2), (3, .int x3)]) (bytes := prog_1_method_4_code) (maxL := 5) (ret := none) (hh := []) hl (by decide +kernel) (Or.inl ⟨rfl, rfl⟩) (by simp [Value.category]) (Nat.le_of_ble_eq_true rfl) rfl (fun Γ K S T hI => ?_) h rfl
  unfold f_G_write
  refine g_iload_n (pc := 0) (j := 1) K d_G_write_0 rfl ?_
  refine g_callS (pc := 1) (vs := [.int x1]) (st := []) (mkc := mkI σ) K cn_G_isClient (fun l hl r hr => k_G_isClient l hl _ _ r hr) mw_112 mw_113 ⟨by decide, by decide, by decide, by decide⟩ d_G_write_1 rfl rfl (Nat.le_of_ble_eq_true rfl) (fun v1 _ => ?_)
  change G Γ mkR 0 0 4 [(0, .ref a0), (1, .int x1), (2, .int x2), (3, .int x3)] [.int v1] σ _
  refine g_if_eq (pc := 4) (tgt := 14) K d_G_write_4 (by decide) (fun _ => ?_) (fun _ => ?_)
  · refine g_sub (L' := []) [] rfl ?_
    exact gb_G_write_14 K S T hI σ
  · refine g_iload_n (pc := 7) (j := 2) K d_G_write_7 rfl ?_
    refine g_callS (pc := 8) (vs := [.int x2]) (st := []) (mkc := mkI σ) K cn_G_isKey (fun l hl r hr => k_G_isKey l hl _ _ r hr) mw_149 mw_150 ⟨by decide, by decide, by decide, by decide⟩ d_G_write_8 rfl rfl (Nat.le_of_ble_eq_true rfl) (fun v2 _ => ?_)
    change G Γ mkR 0 0 11 [(0, .ref a0), (1, .int x1), (2, .int x2), (3, .int x3)] [.int v2] σ _
    refine g_if_ne (pc := 11) (tgt := 24) K d_G_write_11 (by decide) (fun _ => ?_) (fun _ => ?_)
    · refine g_aload_n (pc := 24) (j := 0) K d_G_write_24 rfl ?_
      refine g_getR (pc := 25) K fl_G_17 d_G_write_25 (fun _ => ?_) (fun b3 _ => ?_)
      · exact g_none
      · refine g_iload_n (pc := 28) (j := 1) K d_G_write_28 rfl ?_
        refine g_aald (pc := 29) (kq := 14) (t0 := 4) K (by decide) (fun _ => rfl) d_G_write_29 (fun _ => ?_) (fun b4 _ => ?_)
        · exact g_none
        · refine g_getR (pc := 30) K fl_G_44 d_G_write_30 (fun _ => ?_) (fun b5 _ => ?_)
          · refine g_astoreN (pc := 33) (L' := [(4, .null), (0, .ref a0), (1, .int x1), (2, .int x2), (3, .int x3)]) K d_G_write_33 (by decide) rfl ?_
            refine g_aloadN (pc := 35) (j := 0) K d_G_write_35 rfl ?_
            refine g_ifnullN (pc := 37) (tgt := 53) K d_G_write_37 (by decide) ?_
            refine g_sub (L' := []) [] rfl ?_
            exact gb_G_write_53 K S T hI σ
          · refine g_astore (pc := 33) (L' := [(4, .ref b5), (0, .ref a0), (1, .int x1), (2, .int x2), (3, .int x3)]) K d_G_write_33 (by decide) rfl ?_
            refine g_aload (pc := 35) (j := 0) K d_G_write_35 rfl ?_
            refine g_ifnull (pc := 37) K d_G_write_37 ?_
            refine g_aload_n (pc := 40) (j := 1) K d_G_write_40 rfl ?_
            refine g_getR (pc := 41) K fl_G_17 d_G_write_41 (fun _ => ?_) (fun b6 _ => ?_)
            · exact g_none
            · refine g_iload_n (pc := 44) (j := 2) K d_G_write_44 rfl ?_
              refine g_aald (pc := 45) (kq := 14) (t0 := 4) K (by decide) (fun _ => rfl) d_G_write_45 (fun _ => ?_) (fun b7 _ => ?_)
              · exact g_none
              · refine g_getI (pc := 46) K fl_G_68 d_G_write_46 ?_
                refine g_iconst (pc := 49) (v := 1) K d_G_write_49 (by decide) ?_
                refine g_icmp_eq (pc := 50) (tgt := 63) K d_G_write_50 (by decide) (fun _ => ?_) (fun _ => ?_)
                · refine g_aload (pc := 63) (j := 0) K d_G_write_63 rfl ?_
                  refine g_iload_n (pc := 65) (j := 3) K d_G_write_65 rfl ?_
                  refine g_callV (pc := 66) (ci := 2) (a := b5) (vs := [.int x2]) (st := []) (mkc := mkI σ) K rfl (by decide) cn_T_hasWritten (fun l hl r hr => k_T_hasWritten l hl _ _ _ r hr) mw_316 mw_317 mw_318 ⟨by decide, by decide, by decide, by decide⟩ d_G_write_66 rfl rfl (Nat.le_of_ble_eq_true rfl) (fun v8 _ => ?_)
                  change G Γ mkR 0 0 69 [(4, .ref b5), (0, .ref a0), (1, .int x1), (2, .int x2), (3, .int x3)] [.int v8] σ _
                  refine g_if_ne (pc := 69) (tgt := 91) K d_G_write_69 (by decide) (fun _ => ?_) (fun _ => ?_)
                  · refine g_sub (L' := [(2, .int x2), (3, .int x3), (4, .ref b5)]) [3, 4, 0] rfl ?_
                    exact gb_G_write_91 K S T hI σ x2 x3 b5
                  · refine g_aload (pc := 72) (j := 0) K d_G_write_72 rfl ?_
                    refine g_callV (pc := 74) (ci := 2) (a := b5) (vs := []) (st := []) (mkc := mkI σ) K rfl (by decide) cn_T_writeCount (fun l hl r hr => k_T_writeCount l hl _ _ r hr) mw_125 mw_126 mw_127 ⟨by decide, by decide, by decide, by decide⟩ d_G_write_74 rfl rfl (Nat.le_of_ble_eq_true rfl) (fun v9 _ => ?_)
                    change G Γ mkR 0 0 77 [(4, .ref b5), (0, .ref a0), (1, .int x1), (2, .int x2), (3, .int x3)] [.int v9] σ _
                    refine g_iconst (pc := 77) (v := 4) K d_G_write_77 (by decide) ?_
                    refine g_icmp_lt (pc := 78) (tgt := 91) K d_G_write_78 (by decide) (fun _ => ?_) (fun _ => ?_)
                    · refine g_sub (L' := [(2, .int x2), (3, .int x3), (4, .ref b5)]) [3, 4, 0] rfl ?_
                      exact gb_G_write_91 K S T hI σ x2 x3 b5
                    · exact g_throw (pc := 81) K S T tw_G_98_118_102 (fun _ h => nomatch h) d_G_write_81 d_G_write_84 d_G_write_85 d_G_write_87 d_G_write_90 (by decide) (by decide) (by decide) (by decide) rfl
                · refine g_sub (L' := []) [] rfl ?_
                  exact gb_G_write_53 K S T hI σ
    · refine g_sub (L' := []) [] rfl ?_
      exact gb_G_write_14 K S T hI σ
-- TapirGroupLaw.write(LTapirGroup;III)I
def y_L_write : MethodName := ⟨"TapirGroupLaw", "write", "(LTapirGroup;III)I"⟩
abbrev rm_L_write : Room := { frames := 7, cells := 1, slots := 6, locals := 114 }
theorem d_L_write_0 : decode method_5_code 0 = .ok (.aload_n 0, 1) := by decide +kernel
theorem d_L_write_1 : decode method_5_code 1 = .ok (.iload_n 1, 1) := by decide +kernel
theorem d_L_write_2 : decode method_5_code 2 = .ok (.iload_n 2, 1) := by decide +kernel
theorem d_L_write_3 : decode method_5_code 3 = .ok (.iload_n 3, 1) := by decide +kernel
theorem d_L_write_4 : decode method_5_code 4 = .ok (.invokevirtual 25, 3) := by decide +kernel
theorem d_L_write_7 : decode method_5_code 7 = .ok (.goto 15, 3) := by decide +kernel
theorem d_L_write_10 : decode method_5_code 10 = .ok (.astore 4, 2) := by decide +kernel
theorem d_L_write_12 : decode method_5_code 12 = .ok (.iconst 1, 1) := by decide +kernel
theorem d_L_write_13 : decode method_5_code 13 = .ok (.ireturn, 1) := by decide +kernel
theorem d_L_write_14 : decode method_5_code 14 = .ok (.astore 4, 2) := by decide +kernel
theorem d_L_write_16 : decode method_5_code 16 = .ok (.iconst 2, 1) := by decide +kernel
theorem d_L_write_17 : decode method_5_code 17 = .ok (.ireturn, 1) := by decide +kernel
theorem d_L_write_18 : decode method_5_code 18 = .ok (.astore 4, 2) := by decide +kernel
theorem d_L_write_20 : decode method_5_code 20 = .ok (.iconst 3, 1) := by decide +kernel
theorem d_L_write_21 : decode method_5_code 21 = .ok (.ireturn, 1) := by decide +kernel
theorem d_L_write_22 : decode method_5_code 22 = .ok (.iconst 0, 1) := by decide +kernel
theorem d_L_write_23 : decode method_5_code 23 = .ok (.ireturn, 1) := by decide +kernel
theorem cn_L_write : CN y_L_write (.codeWith y_L_write method_5_code 5 (some .int) [(0, 7, 10, 13), (0, 7, 14, 15), (0, 7, 18, 23)]) method_5_code 5 (some .int) [(0, 7, 10, 13), (0, 7, 14, 15), (0, 7, 18, 23)] 4 := ⟨Or.inr rfl, mw_366, mw_0, ⟨by decide +kernel, by decide +kernel⟩, by decide +kernel⟩
def f_L_write (σ : Sg) (a0 : Nat) (x1 : Int32) (x2 : Int32) (x3 : Int32) : Option (Int32 × Sg) := (if a0 < σ.1 ∧ kd a0 = 3 then (f_G_write σ a0 x1 x2 x3).bind (fun w1 => (onV w1.1 (some ((0 : Int32), w1.2)) (fun E => (if E = "java/lang/IllegalArgumentException" then (some ((1 : Int32), w1.2)) else (if E = "java/lang/IllegalStateException" then (some ((2 : Int32), w1.2)) else (if E = "java/lang/IndexOutOfBoundsException" then (some ((3 : Int32), w1.2)) else none)))))) else none)
set_option maxRecDepth 100000 in
set_option maxHeartbeats 4000000 in
theorem k_L_write (l : Launch) (hl : l.stackTraces = false) (σ : Sg) (a0 : Nat) (x1 : Int32) (x2 : Int32) (x3 : Int32) (r : (Int32 × Sg)) (h : f_L_write σ a0 x1 x2 x3 = some r) : Con l y_L_write (.codeWith y_L_write method_5_code 5 (some .int) [(0, 7, 10, 13), (0, 7, 14, 15), (0, 7, 18, 23)]) rm_L_write [.ref a0, .int x1, .int x2, .int x3] σ (mkW r) := by
  refine Con.of (mk := mkW) (o := f_L_write σ a0 x1 x2 x3) (z := r) (L0 := [(0, .ref a0), (1, .int x1), (2, .int x2), (3, .int x3)]) (bytes := method_5_code) (maxL := 5) (ret := (some .int)) (hh := [(0, 7, 10, 13), (0, 7, 14, 15), (0, 7, 18, 23)]) hl (by decide +kernel) (Or.inr rfl) (by simp [Value.category]) (Nat.le_of_ble_eq_true rfl) rfl (fun Γ K S T hI => ?_) h rfl
  unfold f_L_write
  refine g_aload_n (pc := 0) (j := 0) K d_L_write_0 rfl ?_
  refine g_iload_n (pc := 1) (j := 1) K d_L_write_1 rfl ?_
  refine g_iload_n (pc := 2) (j := 2) K d_L_write_2 rfl ?_
  refine g_iload_n (pc := 3) (j := 3) K d_L_write_3 rfl ?_
  refine g_callV (pc := 4) (ci := 3) (a := a0) (vs := [.int x1, .int x2, .int x3]) (st := []) (mkc := mkR) K rfl (by decide) cn_G_write (fun l hl r hr => k_G_write l hl _ _ _ _ _ r hr) mw_367 mw_368 mw_369 ⟨by decide, by decide, by decide, by decide⟩ d_L_write_4 rfl rfl (Nat.le_of_ble_eq_true rfl) (fun w1 _ => ?_)
  refine g_onV ?_ (fun E => ?_)
  · refine g_goto (pc := 7) (tgt := 22) K d_L_write_7 (by decide) ?_
    refine g_iconst (pc := 22) (v := 0) K d_L_write_22 (by decide) ?_
    exact g_iret (pc := 23) K S rfl d_L_write_23 (by decide) (by decide) rfl
  · refine gt_ite (fun h => ?_) (fun _ => ?_)
    · subst h
      refine g_catch2 (L' := [(0, .ref a0), (1, .int x1), (2, .int x2), (3, .int x3)]) K T [] (0, 7, 10, 13) [(0, 7, 14, 15), (0, 7, 18, 23)] rfl (fun _ h => nomatch h) (by decide) (by decide) mw_170 mw_177 (by decide) d_L_write_10 rfl ?_
      refine g_iconst (pc := 12) (v := 1) K d_L_write_12 (by decide) ?_
      exact g_iret (pc := 13) K S rfl d_L_write_13 (by decide) (by decide) rfl
    refine gt_ite (fun h => ?_) (fun _ => ?_)
    · subst h
      refine g_catch2 (L' := [(0, .ref a0), (1, .int x1), (2, .int x2), (3, .int x3)]) K T [(0, 7, 10, 13)] (0, 7, 14, 15) [(0, 7, 18, 23)] rfl (by intro z hz; rcases List.mem_cons.mp hz with rfl | hz; exact ⟨by decide, by decide, "java/lang/IllegalArgumentException", mw_170, by decide +kernel⟩; cases hz) (by decide) (by decide) mw_171 mw_246 (by decide) d_L_write_14 rfl ?_
      refine g_iconst (pc := 16) (v := 2) K d_L_write_16 (by decide) ?_
      exact g_iret (pc := 17) K S rfl d_L_write_17 (by decide) (by decide) rfl
    refine gt_ite (fun h => ?_) (fun _ => ?_)
    · subst h
      refine g_catch2 (L' := [(0, .ref a0), (1, .int x1), (2, .int x2), (3, .int x3)]) K T [(0, 7, 10, 13), (0, 7, 14, 15)] (0, 7, 18, 23) [] rfl (by intro z hz; rcases List.mem_cons.mp hz with rfl | hz; exact ⟨by decide, by decide, "java/lang/IllegalArgumentException", mw_170, by decide +kernel⟩; rcases List.mem_cons.mp hz with rfl | hz; exact ⟨by decide, by decide, "java/lang/IllegalStateException", mw_171, by decide +kernel⟩; cases hz) (by decide) (by decide) mw_309 mw_345 (by decide) d_L_write_18 rfl ?_
      refine g_iconst (pc := 20) (v := 3) K d_L_write_20 (by decide) ?_
      exact g_iret (pc := 21) K S rfl d_L_write_21 (by decide) (by decide) rfl
    exact gt_none
-- TapirGroup$Client.mayPropose()Z
def y_C_mayPropose : MethodName := ⟨"TapirGroup$Client", "mayPropose", "()Z"⟩
abbrev rm_C_mayPropose : Room := { frames := 0, cells := 0, slots := 0, locals := 0 }
theorem d_C_mayPropose_0 : decode prog_2_method_4_code 0 = .ok (.aload_n 0, 1) := by decide +kernel
theorem d_C_mayPropose_1 : decode prog_2_method_4_code 1 = .ok (.getfield 15, 3) := by decide +kernel
theorem d_C_mayPropose_4 : decode prog_2_method_4_code 4 = .ok (.iconst 1, 1) := by decide +kernel
theorem d_C_mayPropose_5 : decode prog_2_method_4_code 5 = .ok (.if_icmp .eq 11, 3) := by decide +kernel
theorem d_C_mayPropose_8 : decode prog_2_method_4_code 8 = .ok (.aload_n 0, 1) := by decide +kernel
theorem d_C_mayPropose_9 : decode prog_2_method_4_code 9 = .ok (.getfield 15, 3) := by decide +kernel
theorem d_C_mayPropose_12 : decode prog_2_method_4_code 12 = .ok (.iconst 2, 1) := by decide +kernel
theorem d_C_mayPropose_13 : decode prog_2_method_4_code 13 = .ok (.if_icmp .ne 7, 3) := by decide +kernel
theorem d_C_mayPropose_16 : decode prog_2_method_4_code 16 = .ok (.iconst 1, 1) := by decide +kernel
theorem d_C_mayPropose_17 : decode prog_2_method_4_code 17 = .ok (.goto 4, 3) := by decide +kernel
theorem d_C_mayPropose_20 : decode prog_2_method_4_code 20 = .ok (.iconst 0, 1) := by decide +kernel
theorem d_C_mayPropose_21 : decode prog_2_method_4_code 21 = .ok (.ireturn, 1) := by decide +kernel
theorem cn_C_mayPropose : CN y_C_mayPropose (.code y_C_mayPropose prog_2_method_4_code 1 (some .boolean)) prog_2_method_4_code 1 (some .boolean) [] 0 := ⟨Or.inl ⟨rfl, rfl⟩, mw_389, mw_4, ⟨by decide +kernel, by decide +kernel⟩, by decide +kernel⟩
def b_C_mayPropose_21 (σ : Sg)  (t0 : Int32) : Option Int32 := (if t0 = 0 ∨ t0 = 1 then some t0 else none)
set_option maxRecDepth 100000 in
set_option maxHeartbeats 4000000 in
theorem gb_C_mayPropose_21 {Γ : GX} (K : Cx Γ "TapirGroup$Client" prog_2_method_4_code 1 rm_C_mayPropose) (S : Std Γ (some .boolean)) (T : Tb Γ []) (hI : y_C_mayPropose.name = "<init>" → Ini Γ) (σ : Sg) (t0 : Int32) : G Γ (mkI σ) 0 0 21 [] [.int t0] σ (b_C_mayPropose_21 σ t0) := by
  unfold b_C_mayPropose_21
  exact g_zret (pc := 21) K S d_C_mayPropose_21 (by decide) (by decide) rfl
def b_C_mayPropose_16 (σ : Sg)   : Option Int32 := (b_C_mayPropose_21 σ (1 : Int32))
set_option maxRecDepth 100000 in
set_option maxHeartbeats 4000000 in
theorem gb_C_mayPropose_16 {Γ : GX} (K : Cx Γ "TapirGroup$Client" prog_2_method_4_code 1 rm_C_mayPropose) (S : Std Γ (some .boolean)) (T : Tb Γ []) (hI : y_C_mayPropose.name = "<init>" → Ini Γ) (σ : Sg)  : G Γ (mkI σ) 0 0 16 [] [] σ (b_C_mayPropose_16 σ ) := by
  unfold b_C_mayPropose_16
  refine g_iconst (pc := 16) (v := 1) K d_C_mayPropose_16 (by decide) ?_
  refine g_goto (pc := 17) (tgt := 21) K d_C_mayPropose_17 (by decide) ?_
  exact gb_C_mayPropose_21 K S T hI σ (1 : Int32)
def f_C_mayPropose (σ : Sg) (a0 : Nat) : Option Int32 := (if a0 < σ.1 ∧ kd a0 = 0 then (if (g_i σ a0 1) = (1 : Int32) then (b_C_mayPropose_16 σ) else (if a0 < σ.1 ∧ kd a0 = 0 then (if (g_i σ a0 1) = (2 : Int32) then (b_C_mayPropose_16 σ) else (b_C_mayPropose_21 σ (0 : Int32))) else none)) else none)
set_option maxRecDepth 100000 in
set_option maxHeartbeats 4000000 in
theorem k_C_mayPropose (l : Launch) (hl : l.stackTraces = false) (σ : Sg) (a0 : Nat) (r : Int32) (h : f_C_mayPropose σ a0 = some r) : Con l y_C_mayPropose (.code y_C_mayPropose prog_2_method_4_code 1 (some .boolean)) rm_C_mayPropose [.ref a0] σ ((mkI σ) r) := by
  refine Con.of (mk := (mkI σ)) (o := f_C_mayPropose σ a0) (z := r) (L0 := [(0, .ref a0)]) (bytes := prog_2_method_4_code) (maxL := 1) (ret := (some .boolean)) (hh := []) hl (by decide +kernel) (Or.inl ⟨rfl, rfl⟩) (by simp [Value.category]) (Nat.le_of_ble_eq_true rfl) rfl (fun Γ K S T hI => ?_) h rfl
  unfold f_C_mayPropose
  refine g_aload_n (pc := 0) (j := 0) K d_C_mayPropose_0 rfl ?_
  refine g_getI (pc := 1) K fl_C_15 d_C_mayPropose_1 ?_
  refine g_iconst (pc := 4) (v := 1) K d_C_mayPropose_4 (by decide) ?_
  refine g_icmp_eq (pc := 5) (tgt := 16) K d_C_mayPropose_5 (by decide) (fun _ => ?_) (fun _ => ?_)
  · refine g_sub (L' := []) [] rfl ?_
    exact gb_C_mayPropose_16 K S T hI σ
  · refine g_aload_n (pc := 8) (j := 0) K d_C_mayPropose_8 rfl ?_
    refine g_getI (pc := 9) K fl_C_15 d_C_mayPropose_9 ?_
    refine g_iconst (pc := 12) (v := 2) K d_C_mayPropose_12 (by decide) ?_
    refine g_icmp_ne (pc := 13) (tgt := 20) K d_C_mayPropose_13 (by decide) (fun _ => ?_) (fun _ => ?_)
    · refine g_iconst (pc := 20) (v := 0) K d_C_mayPropose_20 (by decide) ?_
      refine g_sub (L' := []) [] rfl ?_
      exact gb_C_mayPropose_21 K S T hI σ (0 : Int32)
    · refine g_sub (L' := []) [] rfl ?_
      exact gb_C_mayPropose_16 K S T hI σ
-- TapirGroup$Client.startProposal(I)V
def y_C_startProposal : MethodName := ⟨"TapirGroup$Client", "startProposal", "(I)V"⟩
abbrev rm_C_startProposal : Room := { frames := 2, cells := 0, slots := 0, locals := 43 }
theorem d_C_startProposal_0 : decode prog_2_method_5_code 0 = .ok (.aload_n 0, 1) := by decide +kernel
theorem d_C_startProposal_1 : decode prog_2_method_5_code 1 = .ok (.iload_n 1, 1) := by decide +kernel
theorem d_C_startProposal_2 : decode prog_2_method_5_code 2 = .ok (.putfield 19, 3) := by decide +kernel
theorem d_C_startProposal_5 : decode prog_2_method_5_code 5 = .ok (.aload_n 0, 1) := by decide +kernel
theorem d_C_startProposal_6 : decode prog_2_method_5_code 6 = .ok (.iconst 2, 1) := by decide +kernel
theorem d_C_startProposal_7 : decode prog_2_method_5_code 7 = .ok (.putfield 15, 3) := by decide +kernel
theorem d_C_startProposal_10 : decode prog_2_method_5_code 10 = .ok (.aload_n 0, 1) := by decide +kernel
theorem d_C_startProposal_11 : decode prog_2_method_5_code 11 = .ok (.invokevirtual 38, 3) := by decide +kernel
theorem d_C_startProposal_14 : decode prog_2_method_5_code 14 = .ok (.return_, 1) := by decide +kernel
theorem cn_C_startProposal : CN y_C_startProposal (.code y_C_startProposal prog_2_method_5_code 2 none) prog_2_method_5_code 2 none [] 1 := ⟨Or.inl ⟨rfl, rfl⟩, mw_394, mw_4, ⟨by decide +kernel, by decide +kernel⟩, by decide +kernel⟩
def f_C_startProposal (σ : Sg) (a0 : Nat) (x1 : Int32) : Option Sg := (if a0 < σ.1 ∧ kd a0 = 0 then (wi (s_i σ a0 2 x1) (fun s1 => (if a0 < s1.1 ∧ kd a0 = 0 then (wi (s_i s1 a0 1 (2 : Int32)) (fun s2 => (if a0 < s2.1 ∧ kd a0 = 0 then (f_C_forgetReplies s2 a0).bind (fun s3 => (some s3)) else none))) else none))) else none)
set_option maxRecDepth 100000 in
set_option maxHeartbeats 4000000 in
theorem k_C_startProposal (l : Launch) (hl : l.stackTraces = false) (σ : Sg) (a0 : Nat) (x1 : Int32) (r : Sg) (h : f_C_startProposal σ a0 x1 = some r) : Con l y_C_startProposal (.code y_C_startProposal prog_2_method_5_code 2 none) rm_C_startProposal [.ref a0, .int x1] σ (mkV r) := by
  refine Con.of (mk := mkV) (o := f_C_startProposal σ a0 x1) (z := r) (L0 := [(0, .ref a0), (1, .int x1)]) (bytes := prog_2_method_5_code) (maxL := 2) (ret := none) (hh := []) hl (by decide +kernel) (Or.inl ⟨rfl, rfl⟩) (by simp [Value.category]) (Nat.le_of_ble_eq_true rfl) rfl (fun Γ K S T hI => ?_) h rfl
  unfold f_C_startProposal
  refine g_aload_n (pc := 0) (j := 0) K d_C_startProposal_0 rfl ?_
  refine g_iload_n (pc := 1) (j := 1) K d_C_startProposal_1 rfl ?_
  refine g_putI (pc := 2) K fl_C_19 d_C_startProposal_2 ?_
  refine g_wi (fun s1 _ => ?_)
  refine g_aload_n (pc := 5) (j := 0) K d_C_startProposal_5 rfl ?_
  refine g_iconst (pc := 6) (v := 2) K d_C_startProposal_6 (by decide) ?_
  refine g_putI (pc := 7) K fl_C_15 d_C_startProposal_7 ?_
  refine g_wi (fun s2 _ => ?_)
  refine g_aload_n (pc := 10) (j := 0) K d_C_startProposal_10 rfl ?_
  refine g_callV (pc := 11) (ci := 0) (a := a0) (vs := []) (st := []) (mkc := mkV) K rfl (by decide) cn_C_forgetReplies (fun l hl r hr => k_C_forgetReplies l hl _ _ r hr) mw_301 mw_302 mw_303 ⟨by decide, by decide, by decide, by decide⟩ d_C_startProposal_11 rfl rfl (Nat.le_of_ble_eq_true rfl) (fun s3 _ => ?_)
  change G Γ mkV 0 0 14 [(0, .ref a0), (1, .int x1)] [] s3 _
  exact g_vret (pc := 14) K S d_C_startProposal_14 (by decide) (by decide) rfl
-- TapirGroup$Replica.forget(I)V
def y_R_forget : MethodName := ⟨"TapirGroup$Replica", "forget", "(I)V"⟩
abbrev rm_R_forget : Room := { frames := 0, cells := 0, slots := 0, locals := 0 }
theorem d_R_forget_0 : decode prog_3_method_6_code 0 = .ok (.aload_n 0, 1) := by decide +kernel
theorem d_R_forget_1 : decode prog_3_method_6_code 1 = .ok (.getfield 29, 3) := by decide +kernel
theorem d_R_forget_4 : decode prog_3_method_6_code 4 = .ok (.iload_n 1, 1) := by decide +kernel
theorem d_R_forget_5 : decode prog_3_method_6_code 5 = .ok (.iconst (-1), 1) := by decide +kernel
theorem d_R_forget_6 : decode prog_3_method_6_code 6 = .ok (.iastore, 1) := by decide +kernel
theorem d_R_forget_7 : decode prog_3_method_6_code 7 = .ok (.return_, 1) := by decide +kernel
theorem cn_R_forget : CN y_R_forget (.code y_R_forget prog_3_method_6_code 2 none) prog_3_method_6_code 2 none [] 1 := ⟨Or.inl ⟨rfl, rfl⟩, mw_398, mw_2, ⟨by decide +kernel, by decide +kernel⟩, by decide +kernel⟩
def f_R_forget (σ : Sg) (a0 : Nat) (x1 : Int32) : Option Sg := (if a0 < σ.1 ∧ kd a0 = 1 then rc (g_r σ a0 5) none (fun b1 => (if (b1 < σ.1 ∧ kd b1 = 10) ∧ inb x1 (ln b1) = true then (wi (s_i σ b1 x1.toNatClampNeg (-1 : Int32)) (fun s2 => (some s2))) else none)) else none)
set_option maxRecDepth 100000 in
set_option maxHeartbeats 4000000 in
theorem k_R_forget (l : Launch) (hl : l.stackTraces = false) (σ : Sg) (a0 : Nat) (x1 : Int32) (r : Sg) (h : f_R_forget σ a0 x1 = some r) : Con l y_R_forget (.code y_R_forget prog_3_method_6_code 2 none) rm_R_forget [.ref a0, .int x1] σ (mkV r) := by
  refine Con.of (mk := mkV) (o := f_R_forget σ a0 x1) (z := r) (L0 := [(0, .ref a0), (1, .int x1)]) (bytes := prog_3_method_6_code) (maxL := 2) (ret := none) (hh := []) hl (by decide +kernel) (Or.inl ⟨rfl, rfl⟩) (by simp [Value.category]) (Nat.le_of_ble_eq_true rfl) rfl (fun Γ K S T hI => ?_) h rfl
  unfold f_R_forget
  refine g_aload_n (pc := 0) (j := 0) K d_R_forget_0 rfl ?_
  refine g_getR (pc := 1) K fl_R_29 d_R_forget_1 (fun _ => ?_) (fun b1 _ => ?_)
  · exact g_none
  · refine g_iload_n (pc := 4) (j := 1) K d_R_forget_4 rfl ?_
    refine g_iconst (pc := 5) (v := -1) K d_R_forget_5 (by decide) ?_
    refine g_iast (pc := 6) K d_R_forget_6 ?_
    refine g_wi (fun s2 _ => ?_)
    exact g_vret (pc := 7) K S d_R_forget_7 (by decide) (by decide) rfl
-- TapirGroup.propose(II)V
def y_G_propose : MethodName := ⟨"TapirGroup", "propose", "(II)V"⟩
abbrev rm_G_propose : Room := { frames := 6, cells := 1, slots := 6, locals := 90 }
theorem d_G_propose_0 : decode prog_1_method_5_code 0 = .ok (.iload_n 1, 1) := by decide +kernel
theorem d_G_propose_1 : decode prog_1_method_5_code 1 = .ok (.invokestatic 33, 3) := by decide +kernel
theorem d_G_propose_4 : decode prog_1_method_5_code 4 = .ok (.ifCond .eq 14, 3) := by decide +kernel
theorem d_G_propose_7 : decode prog_1_method_5_code 7 = .ok (.iload_n 2, 1) := by decide +kernel
theorem d_G_propose_8 : decode prog_1_method_5_code 8 = .ok (.iconst 1, 1) := by decide +kernel
theorem d_G_propose_9 : decode prog_1_method_5_code 9 = .ok (.if_icmp .lt 9, 3) := by decide +kernel
theorem d_G_propose_12 : decode prog_1_method_5_code 12 = .ok (.iload_n 2, 1) := by decide +kernel
theorem d_G_propose_13 : decode prog_1_method_5_code 13 = .ok (.ldc 124, 2) := by decide +kernel
theorem d_G_propose_15 : decode prog_1_method_5_code 15 = .ok (.if_icmp .le 13, 3) := by decide +kernel
theorem d_G_propose_18 : decode prog_1_method_5_code 18 = .ok (.new 37, 3) := by decide +kernel
theorem d_G_propose_21 : decode prog_1_method_5_code 21 = .ok (.dup, 1) := by decide +kernel
theorem d_G_propose_22 : decode prog_1_method_5_code 22 = .ok (.ldc 125, 2) := by decide +kernel
theorem d_G_propose_24 : decode prog_1_method_5_code 24 = .ok (.invokespecial 41, 3) := by decide +kernel
theorem d_G_propose_27 : decode prog_1_method_5_code 27 = .ok (.athrow, 1) := by decide +kernel
theorem d_G_propose_28 : decode prog_1_method_5_code 28 = .ok (.aload_n 0, 1) := by decide +kernel
theorem d_G_propose_29 : decode prog_1_method_5_code 29 = .ok (.getfield 17, 3) := by decide +kernel
theorem d_G_propose_32 : decode prog_1_method_5_code 32 = .ok (.iload_n 1, 1) := by decide +kernel
theorem d_G_propose_33 : decode prog_1_method_5_code 33 = .ok (.aaload, 1) := by decide +kernel
theorem d_G_propose_34 : decode prog_1_method_5_code 34 = .ok (.astore_n 3, 1) := by decide +kernel
theorem d_G_propose_35 : decode prog_1_method_5_code 35 = .ok (.aload_n 3, 1) := by decide +kernel
theorem d_G_propose_36 : decode prog_1_method_5_code 36 = .ok (.getfield 44, 3) := by decide +kernel
theorem d_G_propose_39 : decode prog_1_method_5_code 39 = .ok (.astore 4, 2) := by decide +kernel
theorem d_G_propose_41 : decode prog_1_method_5_code 41 = .ok (.aload 4, 2) := by decide +kernel
theorem d_G_propose_43 : decode prog_1_method_5_code 43 = .ok (.ifnull 18, 3) := by decide +kernel
theorem d_G_propose_46 : decode prog_1_method_5_code 46 = .ok (.aload_n 3, 1) := by decide +kernel
theorem d_G_propose_47 : decode prog_1_method_5_code 47 = .ok (.invokevirtual 127, 3) := by decide +kernel
theorem d_G_propose_50 : decode prog_1_method_5_code 50 = .ok (.ifCond .eq 11, 3) := by decide +kernel
theorem d_G_propose_53 : decode prog_1_method_5_code 53 = .ok (.iload_n 2, 1) := by decide +kernel
theorem d_G_propose_54 : decode prog_1_method_5_code 54 = .ok (.aload_n 3, 1) := by decide +kernel
theorem d_G_propose_55 : decode prog_1_method_5_code 55 = .ok (.getfield 131, 3) := by decide +kernel
theorem d_G_propose_58 : decode prog_1_method_5_code 58 = .ok (.if_icmp .gt 13, 3) := by decide +kernel
theorem d_G_propose_61 : decode prog_1_method_5_code 61 = .ok (.new 48, 3) := by decide +kernel
theorem d_G_propose_64 : decode prog_1_method_5_code 64 = .ok (.dup, 1) := by decide +kernel
theorem d_G_propose_65 : decode prog_1_method_5_code 65 = .ok (.ldc 134, 2) := by decide +kernel
theorem d_G_propose_67 : decode prog_1_method_5_code 67 = .ok (.invokespecial 52, 3) := by decide +kernel
theorem d_G_propose_70 : decode prog_1_method_5_code 70 = .ok (.athrow, 1) := by decide +kernel
theorem d_G_propose_71 : decode prog_1_method_5_code 71 = .ok (.aload 4, 2) := by decide +kernel
theorem d_G_propose_73 : decode prog_1_method_5_code 73 = .ok (.iconst 4, 1) := by decide +kernel
theorem d_G_propose_74 : decode prog_1_method_5_code 74 = .ok (.iload_n 2, 1) := by decide +kernel
theorem d_G_propose_75 : decode prog_1_method_5_code 75 = .ok (.imul, 1) := by decide +kernel
theorem d_G_propose_76 : decode prog_1_method_5_code 76 = .ok (.iload_n 1, 1) := by decide +kernel
theorem d_G_propose_77 : decode prog_1_method_5_code 77 = .ok (.iadd, 1) := by decide +kernel
theorem d_G_propose_78 : decode prog_1_method_5_code 78 = .ok (.putfield 136, 3) := by decide +kernel
theorem d_G_propose_81 : decode prog_1_method_5_code 81 = .ok (.aload_n 3, 1) := by decide +kernel
theorem d_G_propose_82 : decode prog_1_method_5_code 82 = .ok (.iload_n 2, 1) := by decide +kernel
theorem d_G_propose_83 : decode prog_1_method_5_code 83 = .ok (.invokevirtual 139, 3) := by decide +kernel
theorem d_G_propose_86 : decode prog_1_method_5_code 86 = .ok (.iconst 0, 1) := by decide +kernel
theorem d_G_propose_87 : decode prog_1_method_5_code 87 = .ok (.istore 5, 2) := by decide +kernel
theorem d_G_propose_89 : decode prog_1_method_5_code 89 = .ok (.iload 5, 2) := by decide +kernel
theorem d_G_propose_91 : decode prog_1_method_5_code 91 = .ok (.iconst 3, 1) := by decide +kernel
theorem d_G_propose_92 : decode prog_1_method_5_code 92 = .ok (.if_icmp .ge 24, 3) := by decide +kernel
theorem d_G_propose_95 : decode prog_1_method_5_code 95 = .ok (.aload_n 0, 1) := by decide +kernel
theorem d_G_propose_96 : decode prog_1_method_5_code 96 = .ok (.getfield 11, 3) := by decide +kernel
theorem d_G_propose_99 : decode prog_1_method_5_code 99 = .ok (.iload 5, 2) := by decide +kernel
theorem d_G_propose_101 : decode prog_1_method_5_code 101 = .ok (.aaload, 1) := by decide +kernel
theorem d_G_propose_102 : decode prog_1_method_5_code 102 = .ok (.aload 4, 2) := by decide +kernel
theorem d_G_propose_104 : decode prog_1_method_5_code 104 = .ok (.getfield 142, 3) := by decide +kernel
theorem d_G_propose_107 : decode prog_1_method_5_code 107 = .ok (.invokevirtual 145, 3) := by decide +kernel
theorem d_G_propose_110 : decode prog_1_method_5_code 110 = .ok (.iinc 5 1, 3) := by decide +kernel
theorem d_G_propose_113 : decode prog_1_method_5_code 113 = .ok (.goto (-24), 3) := by decide +kernel
theorem d_G_propose_116 : decode prog_1_method_5_code 116 = .ok (.return_, 1) := by decide +kernel
theorem cn_G_propose : CN y_G_propose (.code y_G_propose prog_1_method_5_code 6 none) prog_1_method_5_code 6 none [] 2 := ⟨Or.inl ⟨rfl, rfl⟩, mw_383, mw_1, ⟨by decide +kernel, by decide +kernel⟩, by decide +kernel⟩
def b_G_propose_18  (σ : Sg)  : Option Rs := (some ((.inr "java/lang/IllegalArgumentException", σ) : Rs))
set_option maxRecDepth 100000 in
set_option maxHeartbeats 4000000 in
theorem gb_G_propose_18 {Γ : GX} (K : Cx Γ "TapirGroup" prog_1_method_5_code 6 rm_G_propose) (S : Std Γ none) (T : Tb Γ []) (hI : y_G_propose.name = "<init>" → Ini Γ) (σ : Sg)  : G Γ mkR 0 0 18 [] [] σ (b_G_propose_18 σ ) := by
  unfold b_G_propose_18
  exact g_throw (pc := 18) K S T tw_G_37_125_41 (fun _ h => nomatch h) d_G_propose_18 d_G_propose_21 d_G_propose_22 d_G_propose_24 d_G_propose_27 (by decide) (by decide) (by decide) (by decide) rfl
def b_G_propose_61  (σ : Sg)  : Option Rs := (some ((.inr "java/lang/IllegalStateException", σ) : Rs))
set_option maxRecDepth 100000 in
set_option maxHeartbeats 4000000 in
theorem gb_G_propose_61 {Γ : GX} (K : Cx Γ "TapirGroup" prog_1_method_5_code 6 rm_G_propose) (S : Std Γ none) (T : Tb Γ []) (hI : y_G_propose.name = "<init>" → Ini Γ) (σ : Sg)  : G Γ mkR 0 0 61 [] [] σ (b_G_propose_61 σ ) := by
  unfold b_G_propose_61
  exact g_throw (pc := 61) K S T tw_G_48_134_52 (fun _ h => nomatch h) d_G_propose_61 d_G_propose_64 d_G_propose_65 d_G_propose_67 d_G_propose_70 (by decide) (by decide) (by decide) (by decide) rfl
def b_G_propose_89 : Nat → Sg → Nat → Nat → Int32 → Option Rs
  | 0 => fun _ _ _ _ => none
  | n + 1 => fun σ a0 a4 x5 => (if (3 : Int32) ≤ x5 then (some ((.inl none, σ) : Rs)) else (if a0 < σ.1 ∧ kd a0 = 3 then rc (g_r σ a0 0) none (fun b8 => (if (b8 < σ.1 ∧ kd b8 = 13) ∧ inb x5 (ln b8) = true then rc (g_r σ b8 x5.toNatClampNeg) none (fun b9 => (if a4 < σ.1 ∧ kd a4 = 2 then (if b9 < σ.1 ∧ kd b9 = 1 then (f_R_forget σ b9 (g_i σ a4 0)).bind (fun s10 => (b_G_propose_89 n s10 a0 a4 (x5 + 1))) else none) else none)) else none)) else none))
set_option maxRecDepth 100000 in
set_option maxHeartbeats 4000000 in
theorem gb_G_propose_89 {Γ : GX} (K : Cx Γ "TapirGroup" prog_1_method_5_code 6 rm_G_propose) (S : Std Γ none) (T : Tb Γ []) (hI : y_G_propose.name = "<init>" → Ini Γ) (n : Nat) : ∀ (σ : Sg) (a0 : Nat) (a4 : Nat) (x5 : Int32), G Γ mkR 0 0 89 [(0, .ref a0), (4, .ref a4), (5, .int x5)] [] σ (b_G_propose_89 n σ a0 a4 x5) := by
  induction n with
  | zero =>
    intro σ a0 a4 x5
    exact g_none
  | succ n ih =>
    intro σ a0 a4 x5
    rw [b_G_propose_89]
    refine g_iload (pc := 89) (j := 2) K d_G_propose_89 rfl ?_
    refine g_iconst (pc := 91) (v := 3) K d_G_propose_91 (by decide) ?_
    refine g_icmp_ge (pc := 92) (tgt := 116) K d_G_propose_92 (by decide) (fun _ => ?_) (fun _ => ?_)
    · exact g_vret (pc := 116) K S d_G_propose_116 (by decide) (by decide) rfl
    · refine g_aload_n (pc := 95) (j := 0) K d_G_propose_95 rfl ?_
      refine g_getR (pc := 96) K fl_G_11 d_G_propose_96 (fun _ => ?_) (fun b8 _ => ?_)
      · exact g_none
      · refine g_iload (pc := 99) (j := 2) K d_G_propose_99 rfl ?_
        refine g_aald (pc := 101) (kq := 13) (t0 := 3) K (by decide) (fun _ => rfl) d_G_propose_101 (fun _ => ?_) (fun b9 _ => ?_)
        · exact g_none
        · refine g_aload (pc := 102) (j := 1) K d_G_propose_102 rfl ?_
          refine g_getI (pc := 104) K fl_G_142 d_G_propose_104 ?_
          refine g_callV (pc := 107) (ci := 1) (a := b9) (vs := [.int (g_i σ a4 0)]) (st := []) (mkc := mkV) K rfl (by decide) cn_R_forget (fun l hl r hr => k_R_forget l hl _ _ _ r hr) mw_395 mw_396 mw_397 ⟨by decide, by decide, by decide, by decide⟩ d_G_propose_107 rfl rfl (Nat.le_of_ble_eq_true rfl) (fun s10 _ => ?_)
          change G Γ mkR 0 0 110 [(0, .ref a0), (4, .ref a4), (5, .int x5)] [] s10 _
          refine g_iinc (pc := 110) (j := 2) (v := (x5 + 1)) (L' := [(5, .int (x5 + 1)), (0, .ref a0), (4, .ref a4)]) K d_G_propose_110 rfl (by rfl) (by decide) rfl ?_
          refine g_goto (pc := 113) (tgt := 89) K d_G_propose_113 (by decide) ?_
          refine g_sub (L' := [(0, .ref a0), (4, .ref a4), (5, .int (x5 + 1))]) [1, 2, 0] rfl ?_
          exact ih s10 a0 a4 (x5 + 1)
def f_G_propose (σ : Sg) (a0 : Nat) (x1 : Int32) (x2 : Int32) : Option Rs := ((f_G_isClient σ x1).bind (fun v1 => (if v1 = 0 then (b_G_propose_18 σ) else (if x2 < (1 : Int32) then (b_G_propose_18 σ) else (if x2 ≤ (1000000 : Int32) then (if a0 < σ.1 ∧ kd a0 = 3 then rc (g_r σ a0 1) none (fun b2 => (if (b2 < σ.1 ∧ kd b2 = 14) ∧ inb x1 (ln b2) = true then rc (g_r σ b2 x1.toNatClampNeg) none (fun b3 => (if b3 < σ.1 ∧ kd b3 = 0 then rc (g_r σ b3 0) (b_G_propose_61 σ) (fun b4 => (if b3 < σ.1 ∧ kd b3 = 0 then (f_C_mayPropose σ b3).bind (fun v5 => (if v5 = 0 then (b_G_propose_61 σ) else (if b3 < σ.1 ∧ kd b3 = 0 then (if (g_i σ b3 2) < x2 then (if b4 < σ.1 ∧ kd b4 = 2 then (wi (s_i σ b4 1 (((4 : Int32) * x2) + x1)) (fun s6 => (if b3 < s6.1 ∧ kd b3 = 0 then (f_C_startProposal s6 b3 x2).bind (fun s7 => (b_G_propose_89 1000 s7 a0 b4 (0 : Int32))) else none))) else none) else (b_G_propose_61 σ)) else none))) else none)) else none)) else none)) else none) else (b_G_propose_18 σ))))))
set_option maxRecDepth 100000 in
set_option maxHeartbeats 4000000 in
theorem k_G_propose (l : Launch) (hl : l.stackTraces = false) (σ : Sg) (a0 : Nat) (x1 : Int32) (x2 : Int32) (r : Rs) (h : f_G_propose σ a0 x1 x2 = some r) : Con l y_G_propose (.code y_G_propose prog_1_method_5_code 6 none) rm_G_propose [.ref a0, .int x1, .int x2] σ (mkR r) := by
  refine Con.of (mk := mkR) (o := f_G_propose σ a0 x1 x2) (z := r) (L0 := [(0, .ref a0), (1, .int x1), (2, .int x2)]) (bytes := prog_1_method_5_code) (maxL := 6) (ret := none) (hh := []) hl (by decide +kernel) (Or.inl ⟨rfl, rfl⟩) (by simp [Value.category]) (Nat.le_of_ble_eq_true rfl) rfl (fun Γ K S T hI => ?_) h rfl
  unfold f_G_propose
  refine g_iload_n (pc := 0) (j := 1) K d_G_propose_0 rfl ?_
  refine g_callS (pc := 1) (vs := [.int x1]) (st := []) (mkc := mkI σ) K cn_G_isClient (fun l hl r hr => k_G_isClient l hl _ _ r hr) mw_112 mw_113 ⟨by decide, by decide, by decide, by decide⟩ d_G_propose_1 rfl rfl (Nat.le_of_ble_eq_true rfl) (fun v1 _ => ?_)
  change G Γ mkR 0 0 4 [(0, .ref a0), (1, .int x1), (2, .int x2)] [.int v1] σ _
  refine g_if_eq (pc := 4) (tgt := 18) K d_G_propose_4 (by decide) (fun _ => ?_) (fun _ => ?_)
  · refine g_sub (L' := []) [] rfl ?_
    exact gb_G_propose_18 K S T hI σ
  · refine g_iload_n (pc := 7) (j := 2) K d_G_propose_7 rfl ?_
    refine g_iconst (pc := 8) (v := 1) K d_G_propose_8 (by decide) ?_
    refine g_icmp_lt (pc := 9) (tgt := 18) K d_G_propose_9 (by decide) (fun _ => ?_) (fun _ => ?_)
    · refine g_sub (L' := []) [] rfl ?_
      exact gb_G_propose_18 K S T hI σ
    · refine g_iload_n (pc := 12) (j := 2) K d_G_propose_12 rfl ?_
      refine g_ldc (pc := 13) (v := 1000000) K mw_384 d_G_propose_13 ?_
      refine g_icmp_le (pc := 15) (tgt := 28) K d_G_propose_15 (by decide) (fun _ => ?_) (fun _ => ?_)
      · refine g_aload_n (pc := 28) (j := 0) K d_G_propose_28 rfl ?_
        refine g_getR (pc := 29) K fl_G_17 d_G_propose_29 (fun _ => ?_) (fun b2 _ => ?_)
        · exact g_none
        · refine g_iload_n (pc := 32) (j := 1) K d_G_propose_32 rfl ?_
          refine g_aald (pc := 33) (kq := 14) (t0 := 4) K (by decide) (fun _ => rfl) d_G_propose_33 (fun _ => ?_) (fun b3 _ => ?_)
          · exact g_none
          · refine g_astore_n (pc := 34) (L' := [(3, .ref b3), (0, .ref a0), (1, .int x1), (2, .int x2)]) K d_G_propose_34 (by decide) rfl ?_
            refine g_aload_n (pc := 35) (j := 0) K d_G_propose_35 rfl ?_
            refine g_getR (pc := 36) K fl_G_44 d_G_propose_36 (fun _ => ?_) (fun b4 _ => ?_)
            · refine g_astoreN (pc := 39) (L' := [(4, .null), (3, .ref b3), (0, .ref a0), (1, .int x1), (2, .int x2)]) K d_G_propose_39 (by decide) rfl ?_
              refine g_aloadN (pc := 41) (j := 0) K d_G_propose_41 rfl ?_
              refine g_ifnullN (pc := 43) (tgt := 61) K d_G_propose_43 (by decide) ?_
              refine g_sub (L' := []) [] rfl ?_
              exact gb_G_propose_61 K S T hI σ
            · refine g_astore (pc := 39) (L' := [(4, .ref b4), (3, .ref b3), (0, .ref a0), (1, .int x1), (2, .int x2)]) K d_G_propose_39 (by decide) rfl ?_
              refine g_aload (pc := 41) (j := 0) K d_G_propose_41 rfl ?_
              refine g_ifnull (pc := 43) K d_G_propose_43 ?_
              refine g_aload_n (pc := 46) (j := 1) K d_G_propose_46 rfl ?_
              refine g_callV (pc := 47) (ci := 0) (a := b3) (vs := []) (st := []) (mkc := mkI σ) K rfl (by decide) cn_C_mayPropose (fun l hl r hr => k_C_mayPropose l hl _ _ r hr) mw_386 mw_387 mw_388 ⟨by decide, by decide, by decide, by decide⟩ d_G_propose_47 rfl rfl (Nat.le_of_ble_eq_true rfl) (fun v5 _ => ?_)
              change G Γ mkR 0 0 50 [(4, .ref b4), (3, .ref b3), (0, .ref a0), (1, .int x1), (2, .int x2)] [.int v5] σ _
              refine g_if_eq (pc := 50) (tgt := 61) K d_G_propose_50 (by decide) (fun _ => ?_) (fun _ => ?_)
              · refine g_sub (L' := []) [] rfl ?_
                exact gb_G_propose_61 K S T hI σ
              · refine g_iload_n (pc := 53) (j := 4) K d_G_propose_53 rfl ?_
                refine g_aload_n (pc := 54) (j := 1) K d_G_propose_54 rfl ?_
                refine g_getI (pc := 55) K fl_G_131 d_G_propose_55 ?_
                refine g_icmp_gt (pc := 58) (tgt := 71) K d_G_propose_58 (by decide) (fun _ => ?_) (fun _ => ?_)
                · refine g_aload (pc := 71) (j := 0) K d_G_propose_71 rfl ?_
                  refine g_iconst (pc := 73) (v := 4) K d_G_propose_73 (by decide) ?_
                  refine g_iload_n (pc := 74) (j := 4) K d_G_propose_74 rfl ?_
                  refine g_imul (pc := 75) K d_G_propose_75 ?_
                  refine g_iload_n (pc := 76) (j := 3) K d_G_propose_76 rfl ?_
                  refine g_iadd (pc := 77) K d_G_propose_77 ?_
                  refine g_putI (pc := 78) K fl_G_136 d_G_propose_78 ?_
                  refine g_wi (fun s6 _ => ?_)
                  refine g_aload_n (pc := 81) (j := 1) K d_G_propose_81 rfl ?_
                  refine g_iload_n (pc := 82) (j := 4) K d_G_propose_82 rfl ?_
                  refine g_callV (pc := 83) (ci := 0) (a := b3) (vs := [.int x2]) (st := []) (mkc := mkV) K rfl (by decide) cn_C_startProposal (fun l hl r hr => k_C_startProposal l hl _ _ _ r hr) mw_391 mw_392 mw_393 ⟨by decide, by decide, by decide, by decide⟩ d_G_propose_83 rfl rfl (Nat.le_of_ble_eq_true rfl) (fun s7 _ => ?_)
                  change G Γ mkR 0 0 86 [(4, .ref b4), (3, .ref b3), (0, .ref a0), (1, .int x1), (2, .int x2)] [] s7 _
                  refine g_iconst (pc := 86) (v := 0) K d_G_propose_86 (by decide) ?_
                  refine g_istore (pc := 87) (L' := [(5, .int (0 : Int32)), (4, .ref b4), (3, .ref b3), (0, .ref a0), (1, .int x1), (2, .int x2)]) K d_G_propose_87 (by decide) rfl ?_
                  refine g_sub (L' := [(0, .ref a0), (4, .ref b4), (5, .int (0 : Int32))]) [3, 1, 0] rfl ?_
                  exact gb_G_propose_89 K S T hI 1000 s7 a0 b4 (0 : Int32)
                · refine g_sub (L' := []) [] rfl ?_
                  exact gb_G_propose_61 K S T hI σ
      · refine g_sub (L' := []) [] rfl ?_
        exact gb_G_propose_18 K S T hI σ
-- TapirGroupLaw.propose(LTapirGroup;II)I
def y_L_propose : MethodName := ⟨"TapirGroupLaw", "propose", "(LTapirGroup;II)I"⟩
abbrev rm_L_propose : Room := { frames := 7, cells := 1, slots := 6, locals := 115 }
theorem d_L_propose_0 : decode method_6_code 0 = .ok (.aload_n 0, 1) := by decide +kernel
theorem d_L_propose_1 : decode method_6_code 1 = .ok (.iload_n 1, 1) := by decide +kernel
theorem d_L_propose_2 : decode method_6_code 2 = .ok (.iload_n 2, 1) := by decide +kernel
theorem d_L_propose_3 : decode method_6_code 3 = .ok (.invokevirtual 29, 3) := by decide +kernel
theorem d_L_propose_6 : decode method_6_code 6 = .ok (.goto 9, 3) := by decide +kernel
theorem d_L_propose_9 : decode method_6_code 9 = .ok (.astore_n 3, 1) := by decide +kernel
theorem d_L_propose_10 : decode method_6_code 10 = .ok (.iconst 1, 1) := by decide +kernel
theorem d_L_propose_11 : decode method_6_code 11 = .ok (.ireturn, 1) := by decide +kernel
theorem d_L_propose_12 : decode method_6_code 12 = .ok (.astore_n 3, 1) := by decide +kernel
theorem d_L_propose_13 : decode method_6_code 13 = .ok (.iconst 2, 1) := by decide +kernel
theorem d_L_propose_14 : decode method_6_code 14 = .ok (.ireturn, 1) := by decide +kernel
theorem d_L_propose_15 : decode method_6_code 15 = .ok (.iconst 0, 1) := by decide +kernel
theorem d_L_propose_16 : decode method_6_code 16 = .ok (.ireturn, 1) := by decide +kernel
theorem cn_L_propose : CN y_L_propose (.codeWith y_L_propose method_6_code 4 (some .int) [(0, 6, 9, 13), (0, 6, 12, 15)]) method_6_code 4 (some .int) [(0, 6, 9, 13), (0, 6, 12, 15)] 3 := ⟨Or.inr rfl, mw_379, mw_0, ⟨by decide +kernel, by decide +kernel⟩, by decide +kernel⟩
def f_L_propose (σ : Sg) (a0 : Nat) (x1 : Int32) (x2 : Int32) : Option (Int32 × Sg) := (if a0 < σ.1 ∧ kd a0 = 3 then (f_G_propose σ a0 x1 x2).bind (fun w1 => (onV w1.1 (some ((0 : Int32), w1.2)) (fun E => (if E = "java/lang/IllegalArgumentException" then (some ((1 : Int32), w1.2)) else (if E = "java/lang/IllegalStateException" then (some ((2 : Int32), w1.2)) else none))))) else none)
set_option maxRecDepth 100000 in
set_option maxHeartbeats 4000000 in
theorem k_L_propose (l : Launch) (hl : l.stackTraces = false) (σ : Sg) (a0 : Nat) (x1 : Int32) (x2 : Int32) (r : (Int32 × Sg)) (h : f_L_propose σ a0 x1 x2 = some r) : Con l y_L_propose (.codeWith y_L_propose method_6_code 4 (some .int) [(0, 6, 9, 13), (0, 6, 12, 15)]) rm_L_propose [.ref a0, .int x1, .int x2] σ (mkW r) := by
  refine Con.of (mk := mkW) (o := f_L_propose σ a0 x1 x2) (z := r) (L0 := [(0, .ref a0), (1, .int x1), (2, .int x2)]) (bytes := method_6_code) (maxL := 4) (ret := (some .int)) (hh := [(0, 6, 9, 13), (0, 6, 12, 15)]) hl (by decide +kernel) (Or.inr rfl) (by simp [Value.category]) (Nat.le_of_ble_eq_true rfl) rfl (fun Γ K S T hI => ?_) h rfl
  unfold f_L_propose
  refine g_aload_n (pc := 0) (j := 0) K d_L_propose_0 rfl ?_
  refine g_iload_n (pc := 1) (j := 1) K d_L_propose_1 rfl ?_
  refine g_iload_n (pc := 2) (j := 2) K d_L_propose_2 rfl ?_
  refine g_callV (pc := 3) (ci := 3) (a := a0) (vs := [.int x1, .int x2]) (st := []) (mkc := mkR) K rfl (by decide) cn_G_propose (fun l hl r hr => k_G_propose l hl _ _ _ _ r hr) mw_380 mw_381 mw_382 ⟨by decide, by decide, by decide, by decide⟩ d_L_propose_3 rfl rfl (Nat.le_of_ble_eq_true rfl) (fun w1 _ => ?_)
  refine g_onV ?_ (fun E => ?_)
  · refine g_goto (pc := 6) (tgt := 15) K d_L_propose_6 (by decide) ?_
    refine g_iconst (pc := 15) (v := 0) K d_L_propose_15 (by decide) ?_
    exact g_iret (pc := 16) K S rfl d_L_propose_16 (by decide) (by decide) rfl
  · refine gt_ite (fun h => ?_) (fun _ => ?_)
    · subst h
      refine g_catch1 (L' := [(0, .ref a0), (1, .int x1), (2, .int x2)]) K T [] (0, 6, 9, 13) [(0, 6, 12, 15)] rfl (fun _ h => nomatch h) (by decide) (by decide) mw_170 mw_177 (by decide) d_L_propose_9 rfl ?_
      refine g_iconst (pc := 10) (v := 1) K d_L_propose_10 (by decide) ?_
      exact g_iret (pc := 11) K S rfl d_L_propose_11 (by decide) (by decide) rfl
    refine gt_ite (fun h => ?_) (fun _ => ?_)
    · subst h
      refine g_catch1 (L' := [(0, .ref a0), (1, .int x1), (2, .int x2)]) K T [(0, 6, 9, 13)] (0, 6, 12, 15) [] rfl (by intro z hz; rcases List.mem_cons.mp hz with rfl | hz; exact ⟨by decide, by decide, "java/lang/IllegalArgumentException", mw_170, by decide +kernel⟩; cases hz) (by decide) (by decide) mw_171 mw_246 (by decide) d_L_propose_12 rfl ?_
      refine g_iconst (pc := 13) (v := 2) K d_L_propose_13 (by decide) ?_
      exact g_iret (pc := 14) K S rfl d_L_propose_14 (by decide) (by decide) rfl
    exact gt_none
-- TapirGroup$Replica.knows(I)Z
def y_R_knows : MethodName := ⟨"TapirGroup$Replica", "knows", "(I)Z"⟩
abbrev rm_R_knows : Room := { frames := 0, cells := 0, slots := 0, locals := 0 }
theorem d_R_knows_0 : decode prog_3_method_2_code 0 = .ok (.aload_n 0, 1) := by decide +kernel
theorem d_R_knows_1 : decode prog_3_method_2_code 1 = .ok (.getfield 29, 3) := by decide +kernel
theorem d_R_knows_4 : decode prog_3_method_2_code 4 = .ok (.iload_n 1, 1) := by decide +kernel
theorem d_R_knows_5 : decode prog_3_method_2_code 5 = .ok (.iaload, 1) := by decide +kernel
theorem d_R_knows_6 : decode prog_3_method_2_code 6 = .ok (.iconst (-1), 1) := by decide +kernel
theorem d_R_knows_7 : decode prog_3_method_2_code 7 = .ok (.if_icmp .eq 7, 3) := by decide +kernel
theorem d_R_knows_10 : decode prog_3_method_2_code 10 = .ok (.iconst 1, 1) := by decide +kernel
theorem d_R_knows_11 : decode prog_3_method_2_code 11 = .ok (.goto 4, 3) := by decide +kernel
theorem d_R_knows_14 : decode prog_3_method_2_code 14 = .ok (.iconst 0, 1) := by decide +kernel
theorem d_R_knows_15 : decode prog_3_method_2_code 15 = .ok (.ireturn, 1) := by decide +kernel
theorem cn_R_knows : CN y_R_knows (.code y_R_knows prog_3_method_2_code 2 (some .boolean)) prog_3_method_2_code 2 (some .boolean) [] 1 := ⟨Or.inl ⟨rfl, rfl⟩, mw_411, mw_2, ⟨by decide +kernel, by decide +kernel⟩, by decide +kernel⟩
def b_R_knows_15 (σ : Sg)  (t0 : Int32) : Option Int32 := (if t0 = 0 ∨ t0 = 1 then some t0 else none)
set_option maxRecDepth 100000 in
set_option maxHeartbeats 4000000 in
theorem gb_R_knows_15 {Γ : GX} (K : Cx Γ "TapirGroup$Replica" prog_3_method_2_code 2 rm_R_knows) (S : Std Γ (some .boolean)) (T : Tb Γ []) (hI : y_R_knows.name = "<init>" → Ini Γ) (σ : Sg) (t0 : Int32) : G Γ (mkI σ) 0 0 15 [] [.int t0] σ (b_R_knows_15 σ t0) := by
  unfold b_R_knows_15
  exact g_zret (pc := 15) K S d_R_knows_15 (by decide) (by decide) rfl
def f_R_knows (σ : Sg) (a0 : Nat) (x1 : Int32) : Option Int32 := (if a0 < σ.1 ∧ kd a0 = 1 then rc (g_r σ a0 5) none (fun b1 => (if (b1 < σ.1 ∧ kd b1 = 10) ∧ inb x1 (ln b1) = true then (if (g_i σ b1 x1.toNatClampNeg) = (-1 : Int32) then (b_R_knows_15 σ (0 : Int32)) else (b_R_knows_15 σ (1 : Int32))) else none)) else none)
set_option maxRecDepth 100000 in
set_option maxHeartbeats 4000000 in
theorem k_R_knows (l : Launch) (hl : l.stackTraces = false) (σ : Sg) (a0 : Nat) (x1 : Int32) (r : Int32) (h : f_R_knows σ a0 x1 = some r) : Con l y_R_knows (.code y_R_knows prog_3_method_2_code 2 (some .boolean)) rm_R_knows [.ref a0, .int x1] σ ((mkI σ) r) := by
  refine Con.of (mk := (mkI σ)) (o := f_R_knows σ a0 x1) (z := r) (L0 := [(0, .ref a0), (1, .int x1)]) (bytes := prog_3_method_2_code) (maxL := 2) (ret := (some .boolean)) (hh := []) hl (by decide +kernel) (Or.inl ⟨rfl, rfl⟩) (by simp [Value.category]) (Nat.le_of_ble_eq_true rfl) rfl (fun Γ K S T hI => ?_) h rfl
  unfold f_R_knows
  refine g_aload_n (pc := 0) (j := 0) K d_R_knows_0 rfl ?_
  refine g_getR (pc := 1) K fl_R_29 d_R_knows_1 (fun _ => ?_) (fun b1 _ => ?_)
  · exact g_none
  · refine g_iload_n (pc := 4) (j := 1) K d_R_knows_4 rfl ?_
    refine g_iald (pc := 5) K d_R_knows_5 ?_
    refine g_iconst (pc := 6) (v := -1) K d_R_knows_6 (by decide) ?_
    refine g_icmp_eq (pc := 7) (tgt := 14) K d_R_knows_7 (by decide) (fun _ => ?_) (fun _ => ?_)
    · refine g_iconst (pc := 14) (v := 0) K d_R_knows_14 (by decide) ?_
      refine g_sub (L' := []) [] rfl ?_
      exact gb_R_knows_15 K S T hI σ (0 : Int32)
    · refine g_iconst (pc := 10) (v := 1) K d_R_knows_10 (by decide) ?_
      refine g_goto (pc := 11) (tgt := 15) K d_R_knows_11 (by decide) ?_
      refine g_sub (L' := []) [] rfl ?_
      exact gb_R_knows_15 K S T hI σ (1 : Int32)
