-- TapirGroup.writesWhatIsReadLater(LTapirGroup$Transaction;LTapirGroup$Replica;)Z
def y_G_writesWhatIsReadLater : MethodName := ⟨"TapirGroup", "writesWhatIsReadLater", "(LTapirGroup$Transaction;LTapirGroup$Replica;)Z"⟩
abbrev rm_G_writesWhatIsReadLater : Room := { frames := 3, cells := 0, slots := 0, locals := 64 }
theorem d_G_writesWhatIsReadLater_0 : decode prog_1_method_26_code 0 = .ok (.iconst 1, 1) := by decide +kernel
theorem d_G_writesWhatIsReadLater_1 : decode prog_1_method_26_code 1 = .ok (.istore_n 3, 1) := by decide +kernel
theorem d_G_writesWhatIsReadLater_2 : decode prog_1_method_26_code 2 = .ok (.iload_n 3, 1) := by decide +kernel
theorem d_G_writesWhatIsReadLater_3 : decode prog_1_method_26_code 3 = .ok (.aload_n 0, 1) := by decide +kernel
theorem d_G_writesWhatIsReadLater_4 : decode prog_1_method_26_code 4 = .ok (.getfield 27, 3) := by decide +kernel
theorem d_G_writesWhatIsReadLater_7 : decode prog_1_method_26_code 7 = .ok (.if_icmp .gt 63, 3) := by decide +kernel
theorem d_G_writesWhatIsReadLater_10 : decode prog_1_method_26_code 10 = .ok (.aload_n 0, 1) := by decide +kernel
theorem d_G_writesWhatIsReadLater_11 : decode prog_1_method_26_code 11 = .ok (.getfield 23, 3) := by decide +kernel
theorem d_G_writesWhatIsReadLater_14 : decode prog_1_method_26_code 14 = .ok (.iload_n 3, 1) := by decide +kernel
theorem d_G_writesWhatIsReadLater_15 : decode prog_1_method_26_code 15 = .ok (.aaload, 1) := by decide +kernel
theorem d_G_writesWhatIsReadLater_16 : decode prog_1_method_26_code 16 = .ok (.astore 4, 2) := by decide +kernel
theorem d_G_writesWhatIsReadLater_18 : decode prog_1_method_26_code 18 = .ok (.aload 4, 2) := by decide +kernel
theorem d_G_writesWhatIsReadLater_20 : decode prog_1_method_26_code 20 = .ok (.ifnull 44, 3) := by decide +kernel
theorem d_G_writesWhatIsReadLater_23 : decode prog_1_method_26_code 23 = .ok (.aload 4, 2) := by decide +kernel
theorem d_G_writesWhatIsReadLater_25 : decode prog_1_method_26_code 25 = .ok (.aload_n 1, 1) := by decide +kernel
theorem d_G_writesWhatIsReadLater_26 : decode prog_1_method_26_code 26 = .ok (.if_acmp .eq 38, 3) := by decide +kernel
theorem d_G_writesWhatIsReadLater_29 : decode prog_1_method_26_code 29 = .ok (.aload_n 2, 1) := by decide +kernel
theorem d_G_writesWhatIsReadLater_30 : decode prog_1_method_26_code 30 = .ok (.iload_n 3, 1) := by decide +kernel
theorem d_G_writesWhatIsReadLater_31 : decode prog_1_method_26_code 31 = .ok (.invokevirtual 267, 3) := by decide +kernel
theorem d_G_writesWhatIsReadLater_34 : decode prog_1_method_26_code 34 = .ok (.ifCond .eq 30, 3) := by decide +kernel
theorem d_G_writesWhatIsReadLater_37 : decode prog_1_method_26_code 37 = .ok (.aload 4, 2) := by decide +kernel
theorem d_G_writesWhatIsReadLater_39 : decode prog_1_method_26_code 39 = .ok (.getfield 136, 3) := by decide +kernel
theorem d_G_writesWhatIsReadLater_42 : decode prog_1_method_26_code 42 = .ok (.aload_n 1, 1) := by decide +kernel
theorem d_G_writesWhatIsReadLater_43 : decode prog_1_method_26_code 43 = .ok (.getfield 136, 3) := by decide +kernel
theorem d_G_writesWhatIsReadLater_46 : decode prog_1_method_26_code 46 = .ok (.if_icmp .le 18, 3) := by decide +kernel
theorem d_G_writesWhatIsReadLater_49 : decode prog_1_method_26_code 49 = .ok (.aload_n 1, 1) := by decide +kernel
theorem d_G_writesWhatIsReadLater_50 : decode prog_1_method_26_code 50 = .ok (.getfield 273, 3) := by decide +kernel
theorem d_G_writesWhatIsReadLater_53 : decode prog_1_method_26_code 53 = .ok (.aload 4, 2) := by decide +kernel
theorem d_G_writesWhatIsReadLater_55 : decode prog_1_method_26_code 55 = .ok (.getfield 270, 3) := by decide +kernel
theorem d_G_writesWhatIsReadLater_58 : decode prog_1_method_26_code 58 = .ok (.iand, 1) := by decide +kernel
theorem d_G_writesWhatIsReadLater_59 : decode prog_1_method_26_code 59 = .ok (.ifCond .eq 5, 3) := by decide +kernel
theorem d_G_writesWhatIsReadLater_62 : decode prog_1_method_26_code 62 = .ok (.iconst 1, 1) := by decide +kernel
theorem d_G_writesWhatIsReadLater_63 : decode prog_1_method_26_code 63 = .ok (.ireturn, 1) := by decide +kernel
theorem d_G_writesWhatIsReadLater_64 : decode prog_1_method_26_code 64 = .ok (.iinc 3 1, 3) := by decide +kernel
theorem d_G_writesWhatIsReadLater_67 : decode prog_1_method_26_code 67 = .ok (.goto (-65), 3) := by decide +kernel
theorem d_G_writesWhatIsReadLater_70 : decode prog_1_method_26_code 70 = .ok (.iconst 0, 1) := by decide +kernel
theorem d_G_writesWhatIsReadLater_71 : decode prog_1_method_26_code 71 = .ok (.ireturn, 1) := by decide +kernel
theorem cn_G_writesWhatIsReadLater : CN y_G_writesWhatIsReadLater (.code y_G_writesWhatIsReadLater prog_1_method_26_code 5 (some .boolean)) prog_1_method_26_code 5 (some .boolean) [] 2 := ⟨Or.inl ⟨rfl, rfl⟩, mw_446, mw_1, ⟨by decide +kernel, by decide +kernel⟩, by decide +kernel⟩
def b_G_writesWhatIsReadLater_64 (σ : Sg) (k : Nat → Nat → Nat → Int32 → Option Int32) (a0 : Nat) (a1 : Nat) (a2 : Nat) (x3 : Int32) : Option Int32 := (k a0 a1 a2 (x3 + 1))
set_option maxRecDepth 100000 in
set_option maxHeartbeats 4000000 in
theorem gb_G_writesWhatIsReadLater_64 {Γ : GX} (K : Cx Γ "TapirGroup" prog_1_method_26_code 5 rm_G_writesWhatIsReadLater) (S : Std Γ (some .boolean)) (T : Tb Γ []) (hI : y_G_writesWhatIsReadLater.name = "<init>" → Ini Γ) (σ : Sg) (k : Nat → Nat → Nat → Int32 → Option Int32) (hk : ∀ (a0 : Nat) (a1 : Nat) (a2 : Nat) (x3 : Int32), G Γ (mkI σ) 0 0 2 [(0, .ref a0), (1, .ref a1), (2, .ref a2), (3, .int x3)] [] σ (k a0 a1 a2 x3)) (a0 : Nat) (a1 : Nat) (a2 : Nat) (x3 : Int32) : G Γ (mkI σ) 0 0 64 [(0, .ref a0), (1, .ref a1), (2, .ref a2), (3, .int x3)] [] σ (b_G_writesWhatIsReadLater_64 σ k a0 a1 a2 x3) := by
  unfold b_G_writesWhatIsReadLater_64
  refine g_iinc (pc := 64) (j := 3) (v := (x3 + 1)) (L' := [(3, .int (x3 + 1)), (0, .ref a0), (1, .ref a1), (2, .ref a2)]) K d_G_writesWhatIsReadLater_64 rfl (by rfl) (by decide) rfl ?_
  refine g_goto (pc := 67) (tgt := 2) K d_G_writesWhatIsReadLater_67 (by decide) ?_
  refine g_sub (L' := [(0, .ref a0), (1, .ref a1), (2, .ref a2), (3, .int (x3 + 1))]) [1, 2, 3, 0] rfl ?_
  exact hk a0 a1 a2 (x3 + 1)
def b_G_writesWhatIsReadLater_2 (σ : Sg) : Nat → Nat → Nat → Nat → Int32 → Option Int32
  | 0 => fun _ _ _ _ => none
  | n + 1 => fun a0 a1 a2 x3 => (if a0 < σ.1 ∧ kd a0 = 3 then (if (g_i σ a0 3) < x3 then (some (0 : Int32)) else (if a0 < σ.1 ∧ kd a0 = 3 then rc (g_r σ a0 2) none (fun b1 => (if (b1 < σ.1 ∧ kd b1 = 15) ∧ inb x3 (ln b1) = true then rc (g_r σ b1 x3.toNatClampNeg) (b_G_writesWhatIsReadLater_64 σ (b_G_writesWhatIsReadLater_2 σ n) a0 a1 a2 x3) (fun b2 => (if b2 < σ.1 ∧ a1 < σ.1 then (if b2 = a1 then (b_G_writesWhatIsReadLater_64 σ (b_G_writesWhatIsReadLater_2 σ n) a0 a1 a2 x3) else (if a2 < σ.1 ∧ kd a2 = 1 then (f_R_isPrepared σ a2 x3).bind (fun v3 => (if v3 = 0 then (b_G_writesWhatIsReadLater_64 σ (b_G_writesWhatIsReadLater_2 σ n) a0 a1 a2 x3) else (if b2 < σ.1 ∧ kd b2 = 2 then (if a1 < σ.1 ∧ kd a1 = 2 then (if (g_i σ b2 1) ≤ (g_i σ a1 1) then (b_G_writesWhatIsReadLater_64 σ (b_G_writesWhatIsReadLater_2 σ n) a0 a1 a2 x3) else (if a1 < σ.1 ∧ kd a1 = 2 then (if b2 < σ.1 ∧ kd b2 = 2 then (if ((g_i σ a1 3) &&& (g_i σ b2 2)) = 0 then (b_G_writesWhatIsReadLater_64 σ (b_G_writesWhatIsReadLater_2 σ n) a0 a1 a2 x3) else (some (1 : Int32))) else none) else none)) else none) else none))) else none)) else none)) else none)) else none)) else none)
set_option maxRecDepth 100000 in
set_option maxHeartbeats 4000000 in
theorem gb_G_writesWhatIsReadLater_2 {Γ : GX} (K : Cx Γ "TapirGroup" prog_1_method_26_code 5 rm_G_writesWhatIsReadLater) (S : Std Γ (some .boolean)) (T : Tb Γ []) (hI : y_G_writesWhatIsReadLater.name = "<init>" → Ini Γ) (σ : Sg) (n : Nat) : ∀ (a0 : Nat) (a1 : Nat) (a2 : Nat) (x3 : Int32), G Γ (mkI σ) 0 0 2 [(0, .ref a0), (1, .ref a1), (2, .ref a2), (3, .int x3)] [] σ (b_G_writesWhatIsReadLater_2 σ n a0 a1 a2 x3) := by
  induction n with
  | zero =>
    intro a0 a1 a2 x3
    exact g_none
  | succ n ih =>
    intro a0 a1 a2 x3
    rw [b_G_writesWhatIsReadLater_2]
    refine g_iload_n (pc := 2) (j := 3) K d_G_writesWhatIsReadLater_2 rfl ?_
    refine g_aload_n (pc := 3) (j := 0) K d_G_writesWhatIsReadLater_3 rfl ?_
    refine g_getI (pc := 4) K fl_G_27 d_G_writesWhatIsReadLater_4 ?_
    refine g_icmp_gt (pc := 7) (tgt := 70) K d_G_writesWhatIsReadLater_7 (by decide) (fun _ => ?_) (fun _ => ?_)
    · refine g_iconst (pc := 70) (v := 0) K d_G_writesWhatIsReadLater_70 (by decide) ?_
      exact g_iret (pc := 71) K S rfl d_G_writesWhatIsReadLater_71 (by decide) (by decide) rfl
    · refine g_aload_n (pc := 10) (j := 0) K d_G_writesWhatIsReadLater_10 rfl ?_
      refine g_getR (pc := 11) K fl_G_23 d_G_writesWhatIsReadLater_11 (fun _ => ?_) (fun b1 _ => ?_)
      · exact g_none
      · refine g_iload_n (pc := 14) (j := 3) K d_G_writesWhatIsReadLater_14 rfl ?_
        refine g_aald (pc := 15) (kq := 15) (t0 := 5) K (by decide) (fun _ => rfl) d_G_writesWhatIsReadLater_15 (fun _ => ?_) (fun b2 _ => ?_)
        · refine g_astoreN (pc := 16) (L' := [(4, .null), (0, .ref a0), (1, .ref a1), (2, .ref a2), (3, .int x3)]) K d_G_writesWhatIsReadLater_16 (by decide) rfl ?_
          refine g_aloadN (pc := 18) (j := 0) K d_G_writesWhatIsReadLater_18 rfl ?_
          refine g_ifnullN (pc := 20) (tgt := 64) K d_G_writesWhatIsReadLater_20 (by decide) ?_
          refine g_sub (L' := [(0, .ref a0), (1, .ref a1), (2, .ref a2), (3, .int x3)]) [1, 2, 3, 4] rfl ?_
          exact gb_G_writesWhatIsReadLater_64 K S T hI σ (b_G_writesWhatIsReadLater_2 σ n) ih a0 a1 a2 x3
        · refine g_astore (pc := 16) (L' := [(4, .ref b2), (0, .ref a0), (1, .ref a1), (2, .ref a2), (3, .int x3)]) K d_G_writesWhatIsReadLater_16 (by decide) rfl ?_
          refine g_aload (pc := 18) (j := 0) K d_G_writesWhatIsReadLater_18 rfl ?_
          refine g_ifnull (pc := 20) K d_G_writesWhatIsReadLater_20 ?_
          refine g_aload (pc := 23) (j := 0) K d_G_writesWhatIsReadLater_23 rfl ?_
          refine g_aload_n (pc := 25) (j := 2) K d_G_writesWhatIsReadLater_25 rfl ?_
          refine g_acmp_eq (pc := 26) (tgt := 64) K d_G_writesWhatIsReadLater_26 (by decide) (fun _ => ?_) (fun _ => ?_)
          · refine g_sub (L' := [(0, .ref a0), (1, .ref a1), (2, .ref a2), (3, .int x3)]) [1, 2, 3, 4] rfl ?_
            exact gb_G_writesWhatIsReadLater_64 K S T hI σ (b_G_writesWhatIsReadLater_2 σ n) ih a0 a1 a2 x3
          · refine g_aload_n (pc := 29) (j := 3) K d_G_writesWhatIsReadLater_29 rfl ?_
            refine g_iload_n (pc := 30) (j := 4) K d_G_writesWhatIsReadLater_30 rfl ?_
            refine g_callV (pc := 31) (ci := 1) (a := a2) (vs := [.int x3]) (st := []) (mkc := mkI σ) K rfl (by decide) cn_R_isPrepared (fun l hl r hr => k_R_isPrepared l hl _ _ _ r hr) mw_425 mw_426 mw_427 ⟨by decide, by decide, by decide, by decide⟩ d_G_writesWhatIsReadLater_31 rfl rfl (Nat.le_of_ble_eq_true rfl) (fun v3 _ => ?_)
            change G Γ (mkI σ) 0 0 34 [(4, .ref b2), (0, .ref a0), (1, .ref a1), (2, .ref a2), (3, .int x3)] [.int v3] σ _
            refine g_if_eq (pc := 34) (tgt := 64) K d_G_writesWhatIsReadLater_34 (by decide) (fun _ => ?_) (fun _ => ?_)
            · refine g_sub (L' := [(0, .ref a0), (1, .ref a1), (2, .ref a2), (3, .int x3)]) [1, 2, 3, 4] rfl ?_
              exact gb_G_writesWhatIsReadLater_64 K S T hI σ (b_G_writesWhatIsReadLater_2 σ n) ih a0 a1 a2 x3
            · refine g_aload (pc := 37) (j := 0) K d_G_writesWhatIsReadLater_37 rfl ?_
              refine g_getI (pc := 39) K fl_G_136 d_G_writesWhatIsReadLater_39 ?_
              refine g_aload_n (pc := 42) (j := 2) K d_G_writesWhatIsReadLater_42 rfl ?_
              refine g_getI (pc := 43) K fl_G_136 d_G_writesWhatIsReadLater_43 ?_
              refine g_icmp_le (pc := 46) (tgt := 64) K d_G_writesWhatIsReadLater_46 (by decide) (fun _ => ?_) (fun _ => ?_)
              · refine g_sub (L' := [(0, .ref a0), (1, .ref a1), (2, .ref a2), (3, .int x3)]) [1, 2, 3, 4] rfl ?_
                exact gb_G_writesWhatIsReadLater_64 K S T hI σ (b_G_writesWhatIsReadLater_2 σ n) ih a0 a1 a2 x3
              · refine g_aload_n (pc := 49) (j := 2) K d_G_writesWhatIsReadLater_49 rfl ?_
                refine g_getI (pc := 50) K fl_G_273 d_G_writesWhatIsReadLater_50 ?_
                refine g_aload (pc := 53) (j := 0) K d_G_writesWhatIsReadLater_53 rfl ?_
                refine g_getI (pc := 55) K fl_G_270 d_G_writesWhatIsReadLater_55 ?_
                refine g_iand (pc := 58) K d_G_writesWhatIsReadLater_58 ?_
                refine g_if_eq (pc := 59) (tgt := 64) K d_G_writesWhatIsReadLater_59 (by decide) (fun _ => ?_) (fun _ => ?_)
                · refine g_sub (L' := [(0, .ref a0), (1, .ref a1), (2, .ref a2), (3, .int x3)]) [1, 2, 3, 4] rfl ?_
                  exact gb_G_writesWhatIsReadLater_64 K S T hI σ (b_G_writesWhatIsReadLater_2 σ n) ih a0 a1 a2 x3
                · refine g_iconst (pc := 62) (v := 1) K d_G_writesWhatIsReadLater_62 (by decide) ?_
                  exact g_iret (pc := 63) K S rfl d_G_writesWhatIsReadLater_63 (by decide) (by decide) rfl
def f_G_writesWhatIsReadLater (σ : Sg) (a0 : Nat) (a1 : Nat) (a2 : Nat) : Option Int32 := (b_G_writesWhatIsReadLater_2 σ 1000 a0 a1 a2 (1 : Int32))
set_option maxRecDepth 100000 in
set_option maxHeartbeats 4000000 in
theorem k_G_writesWhatIsReadLater (l : Launch) (hl : l.stackTraces = false) (σ : Sg) (a0 : Nat) (a1 : Nat) (a2 : Nat) (r : Int32) (h : f_G_writesWhatIsReadLater σ a0 a1 a2 = some r) : Con l y_G_writesWhatIsReadLater (.code y_G_writesWhatIsReadLater prog_1_method_26_code 5 (some .boolean)) rm_G_writesWhatIsReadLater [.ref a0, .ref a1, .ref a2] σ ((mkI σ) r) := by
  refine Con.of (mk := (mkI σ)) (o := f_G_writesWhatIsReadLater σ a0 a1 a2) (z := r) (L0 := [(0, .ref a0), (1, .ref a1), (2, .ref a2)]) (bytes := prog_1_method_26_code) (maxL := 5) (ret := (some .boolean)) (hh := []) hl (by decide +kernel) (Or.inl ⟨rfl, rfl⟩) (by simp [Value.category]) (Nat.le_of_ble_eq_true rfl) rfl (fun Γ K S T hI => ?_) h rfl
  unfold f_G_writesWhatIsReadLater
  refine g_iconst (pc := 0) (v := 1) K d_G_writesWhatIsReadLater_0 (by decide) ?_
  refine g_istore_n (pc := 1) (L' := [(3, .int (1 : Int32)), (0, .ref a0), (1, .ref a1), (2, .ref a2)]) K d_G_writesWhatIsReadLater_1 (by decide) rfl ?_
  refine g_sub (L' := [(0, .ref a0), (1, .ref a1), (2, .ref a2), (3, .int (1 : Int32))]) [1, 2, 3, 0] rfl ?_
  exact gb_G_writesWhatIsReadLater_2 K S T hI σ 1000 a0 a1 a2 (1 : Int32)
-- TapirGroup.check(LTapirGroup$Transaction;LTapirGroup$Replica;)I
def y_G_check : MethodName := ⟨"TapirGroup", "check", "(LTapirGroup$Transaction;LTapirGroup$Replica;)I"⟩
abbrev rm_G_check : Room := { frames := 4, cells := 0, slots := 0, locals := 88 }
theorem d_G_check_0 : decode prog_1_method_24_code 0 = .ok (.aload_n 2, 1) := by decide +kernel
theorem d_G_check_1 : decode prog_1_method_24_code 1 = .ok (.aload_n 1, 1) := by decide +kernel
theorem d_G_check_2 : decode prog_1_method_24_code 2 = .ok (.invokevirtual 253, 3) := by decide +kernel
theorem d_G_check_5 : decode prog_1_method_24_code 5 = .ok (.ifCond .eq 5, 3) := by decide +kernel
theorem d_G_check_8 : decode prog_1_method_24_code 8 = .ok (.iconst 2, 1) := by decide +kernel
theorem d_G_check_9 : decode prog_1_method_24_code 9 = .ok (.ireturn, 1) := by decide +kernel
theorem d_G_check_10 : decode prog_1_method_24_code 10 = .ok (.aload_n 0, 1) := by decide +kernel
theorem d_G_check_11 : decode prog_1_method_24_code 11 = .ok (.aload_n 1, 1) := by decide +kernel
theorem d_G_check_12 : decode prog_1_method_24_code 12 = .ok (.aload_n 2, 1) := by decide +kernel
theorem d_G_check_13 : decode prog_1_method_24_code 13 = .ok (.invokevirtual 257, 3) := by decide +kernel
theorem d_G_check_16 : decode prog_1_method_24_code 16 = .ok (.ifCond .eq 5, 3) := by decide +kernel
theorem d_G_check_19 : decode prog_1_method_24_code 19 = .ok (.iconst 1, 1) := by decide +kernel
theorem d_G_check_20 : decode prog_1_method_24_code 20 = .ok (.ireturn, 1) := by decide +kernel
theorem d_G_check_21 : decode prog_1_method_24_code 21 = .ok (.aload_n 2, 1) := by decide +kernel
theorem d_G_check_22 : decode prog_1_method_24_code 22 = .ok (.aload_n 1, 1) := by decide +kernel
theorem d_G_check_23 : decode prog_1_method_24_code 23 = .ok (.invokevirtual 261, 3) := by decide +kernel
theorem d_G_check_26 : decode prog_1_method_24_code 26 = .ok (.ifCond .ne 12, 3) := by decide +kernel
theorem d_G_check_29 : decode prog_1_method_24_code 29 = .ok (.aload_n 0, 1) := by decide +kernel
theorem d_G_check_30 : decode prog_1_method_24_code 30 = .ok (.aload_n 1, 1) := by decide +kernel
theorem d_G_check_31 : decode prog_1_method_24_code 31 = .ok (.aload_n 2, 1) := by decide +kernel
theorem d_G_check_32 : decode prog_1_method_24_code 32 = .ok (.invokevirtual 264, 3) := by decide +kernel
theorem d_G_check_35 : decode prog_1_method_24_code 35 = .ok (.ifCond .eq 5, 3) := by decide +kernel
theorem d_G_check_38 : decode prog_1_method_24_code 38 = .ok (.iconst 3, 1) := by decide +kernel
theorem d_G_check_39 : decode prog_1_method_24_code 39 = .ok (.ireturn, 1) := by decide +kernel
theorem d_G_check_40 : decode prog_1_method_24_code 40 = .ok (.iconst 0, 1) := by decide +kernel
theorem d_G_check_41 : decode prog_1_method_24_code 41 = .ok (.ireturn, 1) := by decide +kernel
theorem cn_G_check : CN y_G_check (.code y_G_check prog_1_method_24_code 3 (some .int)) prog_1_method_24_code 3 (some .int) [] 2 := ⟨Or.inl ⟨rfl, rfl⟩, mw_415, mw_1, ⟨by decide +kernel, by decide +kernel⟩, by decide +kernel⟩
def b_G_check_38 (σ : Sg)   : Option Int32 := (some (3 : Int32))
set_option maxRecDepth 100000 in
set_option maxHeartbeats 4000000 in
theorem gb_G_check_38 {Γ : GX} (K : Cx Γ "TapirGroup" prog_1_method_24_code 3 rm_G_check) (S : Std Γ (some .int)) (T : Tb Γ []) (hI : y_G_check.name = "<init>" → Ini Γ) (σ : Sg)  : G Γ (mkI σ) 0 0 38 [] [] σ (b_G_check_38 σ ) := by
  unfold b_G_check_38
  refine g_iconst (pc := 38) (v := 3) K d_G_check_38 (by decide) ?_
  exact g_iret (pc := 39) K S rfl d_G_check_39 (by decide) (by decide) rfl
def f_G_check (σ : Sg) (a0 : Nat) (a1 : Nat) (a2 : Nat) : Option Int32 := (if a2 < σ.1 ∧ kd a2 = 1 then (f_R_hasStaleRead σ a2 a1).bind (fun v1 => (if v1 = 0 then (if a0 < σ.1 ∧ kd a0 = 3 then (f_G_readsWhatIsPrepared σ a0 a1 a2).bind (fun v2 => (if v2 = 0 then (if a2 < σ.1 ∧ kd a2 = 1 then (f_R_hasLaterUse σ a2 a1).bind (fun v3 => (if v3 = 0 then (if a0 < σ.1 ∧ kd a0 = 3 then (f_G_writesWhatIsReadLater σ a0 a1 a2).bind (fun v4 => (if v4 = 0 then (some (0 : Int32)) else (b_G_check_38 σ))) else none) else (b_G_check_38 σ))) else none) else (some (1 : Int32)))) else none) else (some (2 : Int32)))) else none)
set_option maxRecDepth 100000 in
set_option maxHeartbeats 4000000 in
theorem k_G_check (l : Launch) (hl : l.stackTraces = false) (σ : Sg) (a0 : Nat) (a1 : Nat) (a2 : Nat) (r : Int32) (h : f_G_check σ a0 a1 a2 = some r) : Con l y_G_check (.code y_G_check prog_1_method_24_code 3 (some .int)) rm_G_check [.ref a0, .ref a1, .ref a2] σ ((mkI σ) r) := by
  refine Con.of (mk := (mkI σ)) (o := f_G_check σ a0 a1 a2) (z := r) (L0 := [(0, .ref a0), (1, .ref a1), (2, .ref a2)]) (bytes := prog_1_method_24_code) (maxL := 3) (ret := (some .int)) (hh := []) hl (by decide +kernel) (Or.inl ⟨rfl, rfl⟩) (by simp [Value.category]) (Nat.le_of_ble_eq_true rfl) rfl (fun Γ K S T hI => ?_) h rfl
  unfold f_G_check
  refine g_aload_n (pc := 0) (j := 2) K d_G_check_0 rfl ?_
  refine g_aload_n (pc := 1) (j := 1) K d_G_check_1 rfl ?_
  refine g_callV (pc := 2) (ci := 1) (a := a2) (vs := [.ref a1]) (st := []) (mkc := mkI σ) K rfl (by decide) cn_R_hasStaleRead (fun l hl r hr => k_R_hasStaleRead l hl _ _ _ r hr) mw_416 mw_417 mw_418 ⟨by decide, by decide, by decide, by decide⟩ d_G_check_2 rfl rfl (Nat.le_of_ble_eq_true rfl) (fun v1 _ => ?_)
  change G Γ (mkI σ) 0 0 5 [(0, .ref a0), (1, .ref a1), (2, .ref a2)] [.int v1] σ _
  refine g_if_eq (pc := 5) (tgt := 10) K d_G_check_5 (by decide) (fun _ => ?_) (fun _ => ?_)
  · refine g_aload_n (pc := 10) (j := 0) K d_G_check_10 rfl ?_
    refine g_aload_n (pc := 11) (j := 1) K d_G_check_11 rfl ?_
    refine g_aload_n (pc := 12) (j := 2) K d_G_check_12 rfl ?_
    refine g_callV (pc := 13) (ci := 3) (a := a0) (vs := [.ref a1, .ref a2]) (st := []) (mkc := mkI σ) K rfl (by decide) cn_G_readsWhatIsPrepared (fun l hl r hr => k_G_readsWhatIsPrepared l hl _ _ _ _ r hr) mw_421 mw_423 ms_4 ⟨by decide, by decide, by decide, by decide⟩ d_G_check_13 rfl rfl (Nat.le_of_ble_eq_true rfl) (fun v2 _ => ?_)
    change G Γ (mkI σ) 0 0 16 [(0, .ref a0), (1, .ref a1), (2, .ref a2)] [.int v2] σ _
    refine g_if_eq (pc := 16) (tgt := 21) K d_G_check_16 (by decide) (fun _ => ?_) (fun _ => ?_)
    · refine g_aload_n (pc := 21) (j := 2) K d_G_check_21 rfl ?_
      refine g_aload_n (pc := 22) (j := 1) K d_G_check_22 rfl ?_
      refine g_callV (pc := 23) (ci := 1) (a := a2) (vs := [.ref a1]) (st := []) (mkc := mkI σ) K rfl (by decide) cn_R_hasLaterUse (fun l hl r hr => k_R_hasLaterUse l hl _ _ _ r hr) mw_438 mw_439 mw_440 ⟨by decide, by decide, by decide, by decide⟩ d_G_check_23 rfl rfl (Nat.le_of_ble_eq_true rfl) (fun v3 _ => ?_)
      change G Γ (mkI σ) 0 0 26 [(0, .ref a0), (1, .ref a1), (2, .ref a2)] [.int v3] σ _
      refine g_if_ne (pc := 26) (tgt := 38) K d_G_check_26 (by decide) (fun _ => ?_) (fun _ => ?_)
      · refine g_sub (L' := []) [] rfl ?_
        exact gb_G_check_38 K S T hI σ
      · refine g_aload_n (pc := 29) (j := 0) K d_G_check_29 rfl ?_
        refine g_aload_n (pc := 30) (j := 1) K d_G_check_30 rfl ?_
        refine g_aload_n (pc := 31) (j := 2) K d_G_check_31 rfl ?_
        refine g_callV (pc := 32) (ci := 3) (a := a0) (vs := [.ref a1, .ref a2]) (st := []) (mkc := mkI σ) K rfl (by decide) cn_G_writesWhatIsReadLater (fun l hl r hr => k_G_writesWhatIsReadLater l hl _ _ _ _ r hr) mw_443 mw_445 ms_5 ⟨by decide, by decide, by decide, by decide⟩ d_G_check_32 rfl rfl (Nat.le_of_ble_eq_true rfl) (fun v4 _ => ?_)
        change G Γ (mkI σ) 0 0 35 [(0, .ref a0), (1, .ref a1), (2, .ref a2)] [.int v4] σ _
        refine g_if_eq (pc := 35) (tgt := 40) K d_G_check_35 (by decide) (fun _ => ?_) (fun _ => ?_)
        · refine g_iconst (pc := 40) (v := 0) K d_G_check_40 (by decide) ?_
          exact g_iret (pc := 41) K S rfl d_G_check_41 (by decide) (by decide) rfl
        · refine g_sub (L' := []) [] rfl ?_
          exact gb_G_check_38 K S T hI σ
    · refine g_iconst (pc := 19) (v := 1) K d_G_check_19 (by decide) ?_
      exact g_iret (pc := 20) K S rfl d_G_check_20 (by decide) (by decide) rfl
  · refine g_iconst (pc := 8) (v := 2) K d_G_check_8 (by decide) ?_
    exact g_iret (pc := 9) K S rfl d_G_check_9 (by decide) (by decide) rfl
-- TapirGroup.prepare(II)I
def y_G_prepare : MethodName := ⟨"TapirGroup", "prepare", "(II)I"⟩
abbrev rm_G_prepare : Room := { frames := 6, cells := 1, slots := 6, locals := 110 }
theorem d_G_prepare_0 : decode prog_1_method_6_code 0 = .ok (.iload_n 1, 1) := by decide +kernel
theorem d_G_prepare_1 : decode prog_1_method_6_code 1 = .ok (.invokestatic 33, 3) := by decide +kernel
theorem d_G_prepare_4 : decode prog_1_method_6_code 4 = .ok (.ifCond .eq 10, 3) := by decide +kernel
theorem d_G_prepare_7 : decode prog_1_method_6_code 7 = .ok (.iload_n 2, 1) := by decide +kernel
theorem d_G_prepare_8 : decode prog_1_method_6_code 8 = .ok (.invokestatic 63, 3) := by decide +kernel
theorem d_G_prepare_11 : decode prog_1_method_6_code 11 = .ok (.ifCond .ne 13, 3) := by decide +kernel
theorem d_G_prepare_14 : decode prog_1_method_6_code 14 = .ok (.new 37, 3) := by decide +kernel
theorem d_G_prepare_17 : decode prog_1_method_6_code 17 = .ok (.dup, 1) := by decide +kernel
theorem d_G_prepare_18 : decode prog_1_method_6_code 18 = .ok (.ldc 148, 2) := by decide +kernel
theorem d_G_prepare_20 : decode prog_1_method_6_code 20 = .ok (.invokespecial 41, 3) := by decide +kernel
theorem d_G_prepare_23 : decode prog_1_method_6_code 23 = .ok (.athrow, 1) := by decide +kernel
theorem d_G_prepare_24 : decode prog_1_method_6_code 24 = .ok (.aload_n 0, 1) := by decide +kernel
theorem d_G_prepare_25 : decode prog_1_method_6_code 25 = .ok (.getfield 17, 3) := by decide +kernel
theorem d_G_prepare_28 : decode prog_1_method_6_code 28 = .ok (.iload_n 1, 1) := by decide +kernel
theorem d_G_prepare_29 : decode prog_1_method_6_code 29 = .ok (.aaload, 1) := by decide +kernel
theorem d_G_prepare_30 : decode prog_1_method_6_code 30 = .ok (.getfield 44, 3) := by decide +kernel
theorem d_G_prepare_33 : decode prog_1_method_6_code 33 = .ok (.astore_n 3, 1) := by decide +kernel
theorem d_G_prepare_34 : decode prog_1_method_6_code 34 = .ok (.aload_n 3, 1) := by decide +kernel
theorem d_G_prepare_35 : decode prog_1_method_6_code 35 = .ok (.ifnull 16, 3) := by decide +kernel
theorem d_G_prepare_38 : decode prog_1_method_6_code 38 = .ok (.aload_n 0, 1) := by decide +kernel
theorem d_G_prepare_39 : decode prog_1_method_6_code 39 = .ok (.getfield 17, 3) := by decide +kernel
theorem d_G_prepare_42 : decode prog_1_method_6_code 42 = .ok (.iload_n 1, 1) := by decide +kernel
theorem d_G_prepare_43 : decode prog_1_method_6_code 43 = .ok (.aaload, 1) := by decide +kernel
theorem d_G_prepare_44 : decode prog_1_method_6_code 44 = .ok (.getfield 68, 3) := by decide +kernel
theorem d_G_prepare_47 : decode prog_1_method_6_code 47 = .ok (.iconst 2, 1) := by decide +kernel
theorem d_G_prepare_48 : decode prog_1_method_6_code 48 = .ok (.if_icmp .eq 13, 3) := by decide +kernel
theorem d_G_prepare_51 : decode prog_1_method_6_code 51 = .ok (.new 48, 3) := by decide +kernel
theorem d_G_prepare_54 : decode prog_1_method_6_code 54 = .ok (.dup, 1) := by decide +kernel
theorem d_G_prepare_55 : decode prog_1_method_6_code 55 = .ok (.ldc 150, 2) := by decide +kernel
theorem d_G_prepare_57 : decode prog_1_method_6_code 57 = .ok (.invokespecial 52, 3) := by decide +kernel
theorem d_G_prepare_60 : decode prog_1_method_6_code 60 = .ok (.athrow, 1) := by decide +kernel
theorem d_G_prepare_61 : decode prog_1_method_6_code 61 = .ok (.aload_n 0, 1) := by decide +kernel
theorem d_G_prepare_62 : decode prog_1_method_6_code 62 = .ok (.iload_n 2, 1) := by decide +kernel
theorem d_G_prepare_63 : decode prog_1_method_6_code 63 = .ok (.invokevirtual 86, 3) := by decide +kernel
theorem d_G_prepare_66 : decode prog_1_method_6_code 66 = .ok (.ifCond .ne 13, 3) := by decide +kernel
theorem d_G_prepare_69 : decode prog_1_method_6_code 69 = .ok (.new 89, 3) := by decide +kernel
theorem d_G_prepare_72 : decode prog_1_method_6_code 72 = .ok (.dup, 1) := by decide +kernel
theorem d_G_prepare_73 : decode prog_1_method_6_code 73 = .ok (.ldc 91, 2) := by decide +kernel
theorem d_G_prepare_75 : decode prog_1_method_6_code 75 = .ok (.invokespecial 93, 3) := by decide +kernel
theorem d_G_prepare_78 : decode prog_1_method_6_code 78 = .ok (.athrow, 1) := by decide +kernel
theorem d_G_prepare_79 : decode prog_1_method_6_code 79 = .ok (.aload_n 0, 1) := by decide +kernel
theorem d_G_prepare_80 : decode prog_1_method_6_code 80 = .ok (.getfield 11, 3) := by decide +kernel
theorem d_G_prepare_83 : decode prog_1_method_6_code 83 = .ok (.iload_n 2, 1) := by decide +kernel
theorem d_G_prepare_84 : decode prog_1_method_6_code 84 = .ok (.aaload, 1) := by decide +kernel
theorem d_G_prepare_85 : decode prog_1_method_6_code 85 = .ok (.astore 4, 2) := by decide +kernel
theorem d_G_prepare_87 : decode prog_1_method_6_code 87 = .ok (.aload 4, 2) := by decide +kernel
theorem d_G_prepare_89 : decode prog_1_method_6_code 89 = .ok (.aload_n 3, 1) := by decide +kernel
theorem d_G_prepare_90 : decode prog_1_method_6_code 90 = .ok (.getfield 142, 3) := by decide +kernel
theorem d_G_prepare_93 : decode prog_1_method_6_code 93 = .ok (.invokevirtual 152, 3) := by decide +kernel
theorem d_G_prepare_96 : decode prog_1_method_6_code 96 = .ok (.ifCond .ne 20, 3) := by decide +kernel
theorem d_G_prepare_99 : decode prog_1_method_6_code 99 = .ok (.aload 4, 2) := by decide +kernel
theorem d_G_prepare_101 : decode prog_1_method_6_code 101 = .ok (.getfield 155, 3) := by decide +kernel
theorem d_G_prepare_104 : decode prog_1_method_6_code 104 = .ok (.aload_n 3, 1) := by decide +kernel
theorem d_G_prepare_105 : decode prog_1_method_6_code 105 = .ok (.getfield 142, 3) := by decide +kernel
theorem d_G_prepare_108 : decode prog_1_method_6_code 108 = .ok (.aload_n 0, 1) := by decide +kernel
theorem d_G_prepare_109 : decode prog_1_method_6_code 109 = .ok (.aload_n 3, 1) := by decide +kernel
theorem d_G_prepare_110 : decode prog_1_method_6_code 110 = .ok (.aload 4, 2) := by decide +kernel
theorem d_G_prepare_112 : decode prog_1_method_6_code 112 = .ok (.invokevirtual 158, 3) := by decide +kernel
theorem d_G_prepare_115 : decode prog_1_method_6_code 115 = .ok (.iastore, 1) := by decide +kernel
theorem d_G_prepare_116 : decode prog_1_method_6_code 116 = .ok (.aload 4, 2) := by decide +kernel
theorem d_G_prepare_118 : decode prog_1_method_6_code 118 = .ok (.aload_n 3, 1) := by decide +kernel
theorem d_G_prepare_119 : decode prog_1_method_6_code 119 = .ok (.getfield 142, 3) := by decide +kernel
theorem d_G_prepare_122 : decode prog_1_method_6_code 122 = .ok (.invokevirtual 162, 3) := by decide +kernel
theorem d_G_prepare_125 : decode prog_1_method_6_code 125 = .ok (.istore 5, 2) := by decide +kernel
theorem d_G_prepare_127 : decode prog_1_method_6_code 127 = .ok (.aload_n 0, 1) := by decide +kernel
theorem d_G_prepare_128 : decode prog_1_method_6_code 128 = .ok (.getfield 17, 3) := by decide +kernel
theorem d_G_prepare_131 : decode prog_1_method_6_code 131 = .ok (.iload_n 1, 1) := by decide +kernel
theorem d_G_prepare_132 : decode prog_1_method_6_code 132 = .ok (.aaload, 1) := by decide +kernel
theorem d_G_prepare_133 : decode prog_1_method_6_code 133 = .ok (.getfield 166, 3) := by decide +kernel
theorem d_G_prepare_136 : decode prog_1_method_6_code 136 = .ok (.iload_n 2, 1) := by decide +kernel
theorem d_G_prepare_137 : decode prog_1_method_6_code 137 = .ok (.iload 5, 2) := by decide +kernel
theorem d_G_prepare_139 : decode prog_1_method_6_code 139 = .ok (.iastore, 1) := by decide +kernel
theorem d_G_prepare_140 : decode prog_1_method_6_code 140 = .ok (.iload 5, 2) := by decide +kernel
theorem d_G_prepare_142 : decode prog_1_method_6_code 142 = .ok (.ireturn, 1) := by decide +kernel
theorem cn_G_prepare : CN y_G_prepare (.code y_G_prepare prog_1_method_6_code 6 (some .int)) prog_1_method_6_code 6 (some .int) [] 2 := ⟨Or.inl ⟨rfl, rfl⟩, mw_405, mw_1, ⟨by decide +kernel, by decide +kernel⟩, by decide +kernel⟩
def b_G_prepare_14  (σ : Sg)  : Option Rs := (some ((.inr "java/lang/IllegalArgumentException", σ) : Rs))
set_option maxRecDepth 100000 in
set_option maxHeartbeats 4000000 in
theorem gb_G_prepare_14 {Γ : GX} (K : Cx Γ "TapirGroup" prog_1_method_6_code 6 rm_G_prepare) (S : Std Γ (some .int)) (T : Tb Γ []) (hI : y_G_prepare.name = "<init>" → Ini Γ) (σ : Sg)  : G Γ mkR 0 0 14 [] [] σ (b_G_prepare_14 σ ) := by
  unfold b_G_prepare_14
  exact g_throw (pc := 14) K S T tw_G_37_148_41 (fun _ h => nomatch h) d_G_prepare_14 d_G_prepare_17 d_G_prepare_18 d_G_prepare_20 d_G_prepare_23 (by decide) (by decide) (by decide) (by decide) rfl
def b_G_prepare_51  (σ : Sg)  : Option Rs := (some ((.inr "java/lang/IllegalStateException", σ) : Rs))
set_option maxRecDepth 100000 in
set_option maxHeartbeats 4000000 in
theorem gb_G_prepare_51 {Γ : GX} (K : Cx Γ "TapirGroup" prog_1_method_6_code 6 rm_G_prepare) (S : Std Γ (some .int)) (T : Tb Γ []) (hI : y_G_prepare.name = "<init>" → Ini Γ) (σ : Sg)  : G Γ mkR 0 0 51 [] [] σ (b_G_prepare_51 σ ) := by
  unfold b_G_prepare_51
  exact g_throw (pc := 51) K S T tw_G_48_150_52 (fun _ h => nomatch h) d_G_prepare_51 d_G_prepare_54 d_G_prepare_55 d_G_prepare_57 d_G_prepare_60 (by decide) (by decide) (by decide) (by decide) rfl
def b_G_prepare_116  (σ : Sg) (a0 : Nat) (x1 : Int32) (x2 : Int32) (a3 : Nat) (a4 : Nat) : Option Rs := (if a3 < σ.1 ∧ kd a3 = 2 then (if a4 < σ.1 ∧ kd a4 = 1 then (f_R_resultOf σ a4 (g_i σ a3 0)).bind (fun v15 => (if a0 < σ.1 ∧ kd a0 = 3 then rc (g_r σ a0 1) none (fun b16 => (if (b16 < σ.1 ∧ kd b16 = 14) ∧ inb x1 (ln b16) = true then rc (g_r σ b16 x1.toNatClampNeg) none (fun b17 => (if b17 < σ.1 ∧ kd b17 = 0 then rc (g_r σ b17 5) none (fun b18 => (if (b18 < σ.1 ∧ kd b18 = 10) ∧ inb x2 (ln b18) = true then (wi (s_i σ b18 x2.toNatClampNeg v15) (fun s19 => (some ((.inl (some (.int v15)), s19) : Rs)))) else none)) else none)) else none)) else none)) else none) else none)
set_option maxRecDepth 100000 in
set_option maxHeartbeats 4000000 in
theorem gb_G_prepare_116 {Γ : GX} (K : Cx Γ "TapirGroup" prog_1_method_6_code 6 rm_G_prepare) (S : Std Γ (some .int)) (T : Tb Γ []) (hI : y_G_prepare.name = "<init>" → Ini Γ) (σ : Sg) (a0 : Nat) (x1 : Int32) (x2 : Int32) (a3 : Nat) (a4 : Nat) : G Γ mkR 0 0 116 [(0, .ref a0), (1, .int x1), (2, .int x2), (3, .ref a3), (4, .ref a4)] [] σ (b_G_prepare_116 σ a0 x1 x2 a3 a4) := by
  unfold b_G_prepare_116
  refine g_aload (pc := 116) (j := 4) K d_G_prepare_116 rfl ?_
  refine g_aload_n (pc := 118) (j := 3) K d_G_prepare_118 rfl ?_
  refine g_getI (pc := 119) K fl_G_142 d_G_prepare_119 ?_
  refine g_callV (pc := 122) (ci := 1) (a := a4) (vs := [.int (g_i σ a3 0)]) (st := []) (mkc := mkI σ) K rfl (by decide) cn_R_resultOf (fun l hl r hr => k_R_resultOf l hl _ _ _ r hr) mw_447 mw_430 mw_431 ⟨by decide, by decide, by decide, by decide⟩ d_G_prepare_122 rfl rfl (Nat.le_of_ble_eq_true rfl) (fun v15 _ => ?_)
  change G Γ mkR 0 0 125 [(0, .ref a0), (1, .int x1), (2, .int x2), (3, .ref a3), (4, .ref a4)] [.int v15] σ _
  refine g_istore (pc := 125) (L' := [(5, .int v15), (0, .ref a0), (1, .int x1), (2, .int x2), (3, .ref a3), (4, .ref a4)]) K d_G_prepare_125 (by decide) rfl ?_
  refine g_aload_n (pc := 127) (j := 1) K d_G_prepare_127 rfl ?_
  refine g_getR (pc := 128) K fl_G_17 d_G_prepare_128 (fun _ => ?_) (fun b16 _ => ?_)
  · exact g_none
  · refine g_iload_n (pc := 131) (j := 2) K d_G_prepare_131 rfl ?_
    refine g_aald (pc := 132) (kq := 14) (t0 := 4) K (by decide) (fun _ => rfl) d_G_prepare_132 (fun _ => ?_) (fun b17 _ => ?_)
    · exact g_none
    · refine g_getR (pc := 133) K fl_G_166 d_G_prepare_133 (fun _ => ?_) (fun b18 _ => ?_)
      · exact g_none
      · refine g_iload_n (pc := 136) (j := 3) K d_G_prepare_136 rfl ?_
        refine g_iload (pc := 137) (j := 0) K d_G_prepare_137 rfl ?_
        refine g_iast (pc := 139) K d_G_prepare_139 ?_
        refine g_wi (fun s19 _ => ?_)
        refine g_iload (pc := 140) (j := 0) K d_G_prepare_140 rfl ?_
        exact g_iret (pc := 142) K S rfl d_G_prepare_142 (by decide) (by decide) rfl
def f_G_prepare (σ : Sg) (a0 : Nat) (x1 : Int32) (x2 : Int32) : Option Rs := ((f_G_isClient σ x1).bind (fun v1 => (if v1 = 0 then (b_G_prepare_14 σ) else ((f_G_isReplica σ x2).bind (fun v2 => (if v2 = 0 then (b_G_prepare_14 σ) else (if a0 < σ.1 ∧ kd a0 = 3 then rc (g_r σ a0 1) none (fun b3 => (if (b3 < σ.1 ∧ kd b3 = 14) ∧ inb x1 (ln b3) = true then rc (g_r σ b3 x1.toNatClampNeg) none (fun b4 => (if b4 < σ.1 ∧ kd b4 = 0 then rc (g_r σ b4 0) (b_G_prepare_51 σ) (fun b5 => (if a0 < σ.1 ∧ kd a0 = 3 then rc (g_r σ a0 1) none (fun b6 => (if (b6 < σ.1 ∧ kd b6 = 14) ∧ inb x1 (ln b6) = true then rc (g_r σ b6 x1.toNatClampNeg) none (fun b7 => (if b7 < σ.1 ∧ kd b7 = 0 then (if (g_i σ b7 1) = (2 : Int32) then (if a0 < σ.1 ∧ kd a0 = 3 then (f_G_serves σ a0 x2).bind (fun v8 => (if v8 = 0 then (some ((.inr "java/lang/UnsupportedOperationException", σ) : Rs)) else (if a0 < σ.1 ∧ kd a0 = 3 then rc (g_r σ a0 0) none (fun b9 => (if (b9 < σ.1 ∧ kd b9 = 13) ∧ inb x2 (ln b9) = true then rc (g_r σ b9 x2.toNatClampNeg) none (fun b10 => (if b5 < σ.1 ∧ kd b5 = 2 then (if b10 < σ.1 ∧ kd b10 = 1 then (f_R_knows σ b10 (g_i σ b5 0)).bind (fun v11 => (if v11 = 0 then (if b10 < σ.1 ∧ kd b10 = 1 then rc (g_r σ b10 5) none (fun b12 => (if b5 < σ.1 ∧ kd b5 = 2 then (if a0 < σ.1 ∧ kd a0 = 3 then (f_G_check σ a0 b5 b10).bind (fun v13 => (if (b12 < σ.1 ∧ kd b12 = 10) ∧ inb (g_i σ b5 0) (ln b12) = true then (wi (s_i σ b12 (g_i σ b5 0).toNatClampNeg v13) (fun s14 => (b_G_prepare_116 s14 a0 x1 x2 b5 b10))) else none)) else none) else none)) else none) else (b_G_prepare_116 σ a0 x1 x2 b5 b10))) else none) else none)) else none)) else none))) else none) else (b_G_prepare_51 σ)) else none)) else none)) else none)) else none)) else none)) else none)))))))
set_option maxRecDepth 100000 in
set_option maxHeartbeats 4000000 in
theorem k_G_prepare (l : Launch) (hl : l.stackTraces = false) (σ : Sg) (a0 : Nat) (x1 : Int32) (x2 : Int32) (r : Rs) (h : f_G_prepare σ a0 x1 x2 = some r) : Con l y_G_prepare (.code y_G_prepare prog_1_method_6_code 6 (some .int)) rm_G_prepare [.ref a0, .int x1, .int x2] σ (mkR r) := by
  refine Con.of (mk := mkR) (o := f_G_prepare σ a0 x1 x2) (z := r) (L0 := [(0, .ref a0), (1, .int x1), (2, .int x2)]) (bytes := prog_1_method_6_code) (maxL := 6) (ret := (some .int)) (hh := []) hl (by decide +kernel) (Or.inl ⟨rfl, rfl⟩) (by simp [Value.category]) (Nat.le_of_ble_eq_true rfl) rfl (fun Γ K S T hI => ?_) h rfl
  unfold f_G_prepare
  refine g_iload_n (pc := 0) (j := 1) K d_G_prepare_0 rfl ?_
  refine g_callS (pc := 1) (vs := [.int x1]) (st := []) (mkc := mkI σ) K cn_G_isClient (fun l hl r hr => k_G_isClient l hl _ _ r hr) mw_112 mw_113 ⟨by decide, by decide, by decide, by decide⟩ d_G_prepare_1 rfl rfl (Nat.le_of_ble_eq_true rfl) (fun v1 _ => ?_)
  change G Γ mkR 0 0 4 [(0, .ref a0), (1, .int x1), (2, .int x2)] [.int v1] σ _
  refine g_if_eq (pc := 4) (tgt := 14) K d_G_prepare_4 (by decide) (fun _ => ?_) (fun _ => ?_)
  · refine g_sub (L' := []) [] rfl ?_
    exact gb_G_prepare_14 K S T hI σ
  · refine g_iload_n (pc := 7) (j := 2) K d_G_prepare_7 rfl ?_
    refine g_callS (pc := 8) (vs := [.int x2]) (st := []) (mkc := mkI σ) K cn_G_isReplica (fun l hl r hr => k_G_isReplica l hl _ _ r hr) mw_146 mw_147 ⟨by decide, by decide, by decide, by decide⟩ d_G_prepare_8 rfl rfl (Nat.le_of_ble_eq_true rfl) (fun v2 _ => ?_)
    change G Γ mkR 0 0 11 [(0, .ref a0), (1, .int x1), (2, .int x2)] [.int v2] σ _
    refine g_if_ne (pc := 11) (tgt := 24) K d_G_prepare_11 (by decide) (fun _ => ?_) (fun _ => ?_)
    · refine g_aload_n (pc := 24) (j := 0) K d_G_prepare_24 rfl ?_
      refine g_getR (pc := 25) K fl_G_17 d_G_prepare_25 (fun _ => ?_) (fun b3 _ => ?_)
      · exact g_none
      · refine g_iload_n (pc := 28) (j := 1) K d_G_prepare_28 rfl ?_
        refine g_aald (pc := 29) (kq := 14) (t0 := 4) K (by decide) (fun _ => rfl) d_G_prepare_29 (fun _ => ?_) (fun b4 _ => ?_)
        · exact g_none
        · refine g_getR (pc := 30) K fl_G_44 d_G_prepare_30 (fun _ => ?_) (fun b5 _ => ?_)
          · refine g_astore_nN (pc := 33) (L' := [(3, .null), (0, .ref a0), (1, .int x1), (2, .int x2)]) K d_G_prepare_33 (by decide) rfl ?_
            refine g_aload_nN (pc := 34) (j := 0) K d_G_prepare_34 rfl ?_
            refine g_ifnullN (pc := 35) (tgt := 51) K d_G_prepare_35 (by decide) ?_
            refine g_sub (L' := []) [] rfl ?_
            exact gb_G_prepare_51 K S T hI σ
          · refine g_astore_n (pc := 33) (L' := [(3, .ref b5), (0, .ref a0), (1, .int x1), (2, .int x2)]) K d_G_prepare_33 (by decide) rfl ?_
            refine g_aload_n (pc := 34) (j := 0) K d_G_prepare_34 rfl ?_
            refine g_ifnull (pc := 35) K d_G_prepare_35 ?_
            refine g_aload_n (pc := 38) (j := 1) K d_G_prepare_38 rfl ?_
            refine g_getR (pc := 39) K fl_G_17 d_G_prepare_39 (fun _ => ?_) (fun b6 _ => ?_)
            · exact g_none
            · refine g_iload_n (pc := 42) (j := 2) K d_G_prepare_42 rfl ?_
              refine g_aald (pc := 43) (kq := 14) (t0 := 4) K (by decide) (fun _ => rfl) d_G_prepare_43 (fun _ => ?_) (fun b7 _ => ?_)
              · exact g_none
              · refine g_getI (pc := 44) K fl_G_68 d_G_prepare_44 ?_
                refine g_iconst (pc := 47) (v := 2) K d_G_prepare_47 (by decide) ?_
                refine g_icmp_eq (pc := 48) (tgt := 61) K d_G_prepare_48 (by decide) (fun _ => ?_) (fun _ => ?_)
                · refine g_aload_n (pc := 61) (j := 1) K d_G_prepare_61 rfl ?_
                  refine g_iload_n (pc := 62) (j := 3) K d_G_prepare_62 rfl ?_
                  refine g_callV (pc := 63) (ci := 3) (a := a0) (vs := [.int x2]) (st := []) (mkc := mkI σ) K rfl (by decide) cn_G_serves (fun l hl r hr => k_G_serves l hl _ _ _ r hr) mw_324 mw_326 ms_2 ⟨by decide, by decide, by decide, by decide⟩ d_G_prepare_63 rfl rfl (Nat.le_of_ble_eq_true rfl) (fun v8 _ => ?_)
                  change G Γ mkR 0 0 66 [(3, .ref b5), (0, .ref a0), (1, .int x1), (2, .int x2)] [.int v8] σ _
                  refine g_if_ne (pc := 66) (tgt := 79) K d_G_prepare_66 (by decide) (fun _ => ?_) (fun _ => ?_)
                  · refine g_aload_n (pc := 79) (j := 1) K d_G_prepare_79 rfl ?_
                    refine g_getR (pc := 80) K fl_G_11 d_G_prepare_80 (fun _ => ?_) (fun b9 _ => ?_)
                    · exact g_none
                    · refine g_iload_n (pc := 83) (j := 3) K d_G_prepare_83 rfl ?_
                      refine g_aald (pc := 84) (kq := 13) (t0 := 3) K (by decide) (fun _ => rfl) d_G_prepare_84 (fun _ => ?_) (fun b10 _ => ?_)
                      · exact g_none
                      · refine g_astore (pc := 85) (L' := [(4, .ref b10), (3, .ref b5), (0, .ref a0), (1, .int x1), (2, .int x2)]) K d_G_prepare_85 (by decide) rfl ?_
                        refine g_aload (pc := 87) (j := 0) K d_G_prepare_87 rfl ?_
                        refine g_aload_n (pc := 89) (j := 1) K d_G_prepare_89 rfl ?_
                        refine g_getI (pc := 90) K fl_G_142 d_G_prepare_90 ?_
                        refine g_callV (pc := 93) (ci := 1) (a := b10) (vs := [.int (g_i σ b5 0)]) (st := []) (mkc := mkI σ) K rfl (by decide) cn_R_knows (fun l hl r hr => k_R_knows l hl _ _ _ r hr) mw_408 mw_409 mw_410 ⟨by decide, by decide, by decide, by decide⟩ d_G_prepare_93 rfl rfl (Nat.le_of_ble_eq_true rfl) (fun v11 _ => ?_)
                        change G Γ mkR 0 0 96 [(4, .ref b10), (3, .ref b5), (0, .ref a0), (1, .int x1), (2, .int x2)] [.int v11] σ _
                        refine g_if_ne (pc := 96) (tgt := 116) K d_G_prepare_96 (by decide) (fun _ => ?_) (fun _ => ?_)
                        · refine g_sub (L' := [(0, .ref a0), (1, .int x1), (2, .int x2), (3, .ref b5), (4, .ref b10)]) [2, 3, 4, 1, 0] rfl ?_
                          exact gb_G_prepare_116 K S T hI σ a0 x1 x2 b5 b10
                        · refine g_aload (pc := 99) (j := 0) K d_G_prepare_99 rfl ?_
                          refine g_getR (pc := 101) K fl_G_155 d_G_prepare_101 (fun _ => ?_) (fun b12 _ => ?_)
                          · exact g_none
                          · refine g_aload_n (pc := 104) (j := 1) K d_G_prepare_104 rfl ?_
                            refine g_getI (pc := 105) K fl_G_142 d_G_prepare_105 ?_
                            refine g_aload_n (pc := 108) (j := 2) K d_G_prepare_108 rfl ?_
                            refine g_aload_n (pc := 109) (j := 1) K d_G_prepare_109 rfl ?_
                            refine g_aload (pc := 110) (j := 0) K d_G_prepare_110 rfl ?_
                            refine g_callV (pc := 112) (ci := 3) (a := a0) (vs := [.ref b5, .ref b10]) (st := [.int (g_i σ b5 0), .ref b12]) (mkc := mkI σ) K rfl (by decide) cn_G_check (fun l hl r hr => k_G_check l hl _ _ _ _ r hr) mw_412 mw_414 ms_3 ⟨by decide, by decide, by decide, by decide⟩ d_G_prepare_112 rfl rfl (Nat.le_of_ble_eq_true rfl) (fun v13 _ => ?_)
                            change G Γ mkR 0 0 115 [(4, .ref b10), (3, .ref b5), (0, .ref a0), (1, .int x1), (2, .int x2)] [.int v13, .int (g_i σ b5 0), .ref b12] σ _
                            refine g_iast (pc := 115) K d_G_prepare_115 ?_
                            refine g_wi (fun s14 _ => ?_)
                            refine g_sub (L' := [(0, .ref a0), (1, .int x1), (2, .int x2), (3, .ref b5), (4, .ref b10)]) [2, 3, 4, 1, 0] rfl ?_
                            exact gb_G_prepare_116 K S T hI s14 a0 x1 x2 b5 b10
                  · exact g_throw (pc := 69) K S T tw_G_89_91_93 (fun _ h => nomatch h) d_G_prepare_69 d_G_prepare_72 d_G_prepare_73 d_G_prepare_75 d_G_prepare_78 (by decide) (by decide) (by decide) (by decide) rfl
                · refine g_sub (L' := []) [] rfl ?_
                  exact gb_G_prepare_51 K S T hI σ
    · refine g_sub (L' := []) [] rfl ?_
      exact gb_G_prepare_14 K S T hI σ
-- TapirGroupLaw.prepare(LTapirGroup;II[J)I
def y_L_prepare : MethodName := ⟨"TapirGroupLaw", "prepare", "(LTapirGroup;II[J)I"⟩
abbrev rm_L_prepare : Room := { frames := 7, cells := 1, slots := 6, locals := 135 }
theorem d_L_prepare_0 : decode method_7_code 0 = .ok (.aload_n 3, 1) := by decide +kernel
theorem d_L_prepare_1 : decode method_7_code 1 = .ok (.iconst 0, 1) := by decide +kernel
theorem d_L_prepare_2 : decode method_7_code 2 = .ok (.aload_n 0, 1) := by decide +kernel
theorem d_L_prepare_3 : decode method_7_code 3 = .ok (.iload_n 1, 1) := by decide +kernel
theorem d_L_prepare_4 : decode method_7_code 4 = .ok (.iload_n 2, 1) := by decide +kernel
theorem d_L_prepare_5 : decode method_7_code 5 = .ok (.invokevirtual 33, 3) := by decide +kernel
theorem d_L_prepare_8 : decode method_7_code 8 = .ok (.i2l, 1) := by decide +kernel
theorem d_L_prepare_9 : decode method_7_code 9 = .ok (.lastore, 1) := by decide +kernel
theorem d_L_prepare_10 : decode method_7_code 10 = .ok (.goto 15, 3) := by decide +kernel
theorem d_L_prepare_13 : decode method_7_code 13 = .ok (.astore 4, 2) := by decide +kernel
theorem d_L_prepare_15 : decode method_7_code 15 = .ok (.iconst 1, 1) := by decide +kernel
theorem d_L_prepare_16 : decode method_7_code 16 = .ok (.ireturn, 1) := by decide +kernel
theorem d_L_prepare_17 : decode method_7_code 17 = .ok (.astore 4, 2) := by decide +kernel
theorem d_L_prepare_19 : decode method_7_code 19 = .ok (.iconst 2, 1) := by decide +kernel
theorem d_L_prepare_20 : decode method_7_code 20 = .ok (.ireturn, 1) := by decide +kernel
theorem d_L_prepare_21 : decode method_7_code 21 = .ok (.astore 4, 2) := by decide +kernel
theorem d_L_prepare_23 : decode method_7_code 23 = .ok (.iconst 3, 1) := by decide +kernel
theorem d_L_prepare_24 : decode method_7_code 24 = .ok (.ireturn, 1) := by decide +kernel
theorem d_L_prepare_25 : decode method_7_code 25 = .ok (.iconst 0, 1) := by decide +kernel
theorem d_L_prepare_26 : decode method_7_code 26 = .ok (.ireturn, 1) := by decide +kernel
theorem cn_L_prepare : CN y_L_prepare (.codeWith y_L_prepare method_7_code 5 (some .int) [(0, 10, 13, 13), (0, 10, 17, 15), (0, 10, 21, 21)]) method_7_code 5 (some .int) [(0, 10, 13, 13), (0, 10, 17, 15), (0, 10, 21, 21)] 4 := ⟨Or.inr rfl, mw_401, mw_0, ⟨by decide +kernel, by decide +kernel⟩, by decide +kernel⟩
def f_L_prepare (σ : Sg) (a0 : Nat) (x1 : Int32) (x2 : Int32) (a3 : Nat) : Option (Int32 × Sg) := (if a0 < σ.1 ∧ kd a0 = 3 then (f_G_prepare σ a0 x1 x2).bind (fun w1 => (onI w1.1 (fun x2 => (if (a3 < w1.2.1 ∧ kd a3 = 12) ∧ inb (0 : Int32) (ln a3) = true then (wi (s_l w1.2 a3 (0 : Int32).toNatClampNeg ((x2).toInt64)) (fun s3 => (some ((0 : Int32), s3)))) else none)) (fun E => (if E = "java/lang/IllegalArgumentException" then (some ((1 : Int32), w1.2)) else (if E = "java/lang/IllegalStateException" then (some ((2 : Int32), w1.2)) else (if E = "java/lang/UnsupportedOperationException" then (some ((3 : Int32), w1.2)) else none)))))) else none)
set_option maxRecDepth 100000 in
set_option maxHeartbeats 4000000 in
theorem k_L_prepare (l : Launch) (hl : l.stackTraces = false) (σ : Sg) (a0 : Nat) (x1 : Int32) (x2 : Int32) (a3 : Nat) (r : (Int32 × Sg)) (h : f_L_prepare σ a0 x1 x2 a3 = some r) : Con l y_L_prepare (.codeWith y_L_prepare method_7_code 5 (some .int) [(0, 10, 13, 13), (0, 10, 17, 15), (0, 10, 21, 21)]) rm_L_prepare [.ref a0, .int x1, .int x2, .ref a3] σ (mkW r) := by
  refine Con.of (mk := mkW) (o := f_L_prepare σ a0 x1 x2 a3) (z := r) (L0 := [(0, .ref a0), (1, .int x1), (2, .int x2), (3, .ref a3)]) (bytes := method_7_code) (maxL := 5) (ret := (some .int)) (hh := [(0, 10, 13, 13), (0, 10, 17, 15), (0, 10, 21, 21)]) hl (by decide +kernel) (Or.inr rfl) (by simp [Value.category]) (Nat.le_of_ble_eq_true rfl) rfl (fun Γ K S T hI => ?_) h rfl
  unfold f_L_prepare
  refine g_aload_n (pc := 0) (j := 3) K d_L_prepare_0 rfl ?_
  refine g_iconst (pc := 1) (v := 0) K d_L_prepare_1 (by decide) ?_
  refine g_aload_n (pc := 2) (j := 0) K d_L_prepare_2 rfl ?_
  refine g_iload_n (pc := 3) (j := 1) K d_L_prepare_3 rfl ?_
  refine g_iload_n (pc := 4) (j := 2) K d_L_prepare_4 rfl ?_
  refine g_callV (pc := 5) (ci := 3) (a := a0) (vs := [.int x1, .int x2]) (st := [.int (0 : Int32), .ref a3]) (mkc := mkR) K rfl (by decide) cn_G_prepare (fun l hl r hr => k_G_prepare l hl _ _ _ _ r hr) mw_402 mw_403 mw_404 ⟨by decide, by decide, by decide, by decide⟩ d_L_prepare_5 rfl rfl (Nat.le_of_ble_eq_true rfl) (fun w1 _ => ?_)
  refine g_onI (fun x2 => ?_) (fun E => ?_)
  · refine g_i2l (pc := 8) K d_L_prepare_8 ?_
    refine g_last (pc := 9) K d_L_prepare_9 ?_
    refine g_wi (fun s3 _ => ?_)
    refine g_goto (pc := 10) (tgt := 25) K d_L_prepare_10 (by decide) ?_
    refine g_iconst (pc := 25) (v := 0) K d_L_prepare_25 (by decide) ?_
    exact g_iret (pc := 26) K S rfl d_L_prepare_26 (by decide) (by decide) rfl
  · refine gt_ite (fun h => ?_) (fun _ => ?_)
    · subst h
      refine g_catch2 (L' := [(0, .ref a0), (1, .int x1), (2, .int x2), (3, .ref a3)]) K T [] (0, 10, 13, 13) [(0, 10, 17, 15), (0, 10, 21, 21)] rfl (fun _ h => nomatch h) (by decide) (by decide) mw_170 mw_177 (by decide) d_L_prepare_13 rfl ?_
      refine g_iconst (pc := 15) (v := 1) K d_L_prepare_15 (by decide) ?_
      exact g_iret (pc := 16) K S rfl d_L_prepare_16 (by decide) (by decide) rfl
    refine gt_ite (fun h => ?_) (fun _ => ?_)
    · subst h
      refine g_catch2 (L' := [(0, .ref a0), (1, .int x1), (2, .int x2), (3, .ref a3)]) K T [(0, 10, 13, 13)] (0, 10, 17, 15) [(0, 10, 21, 21)] rfl (by intro z hz; rcases List.mem_cons.mp hz with rfl | hz; exact ⟨by decide, by decide, "java/lang/IllegalArgumentException", mw_170, by decide +kernel⟩; cases hz) (by decide) (by decide) mw_171 mw_246 (by decide) d_L_prepare_17 rfl ?_
      refine g_iconst (pc := 19) (v := 2) K d_L_prepare_19 (by decide) ?_
      exact g_iret (pc := 20) K S rfl d_L_prepare_20 (by decide) (by decide) rfl
    refine gt_ite (fun h => ?_) (fun _ => ?_)
    · subst h
      refine g_catch2 (L' := [(0, .ref a0), (1, .int x1), (2, .int x2), (3, .ref a3)]) K T [(0, 10, 13, 13), (0, 10, 17, 15)] (0, 10, 21, 21) [] rfl (by intro z hz; rcases List.mem_cons.mp hz with rfl | hz; exact ⟨by decide, by decide, "java/lang/IllegalArgumentException", mw_170, by decide +kernel⟩; rcases List.mem_cons.mp hz with rfl | hz; exact ⟨by decide, by decide, "java/lang/IllegalStateException", mw_171, by decide +kernel⟩; cases hz) (by decide) (by decide) mw_308 mw_329 (by decide) d_L_prepare_21 rfl ?_
      refine g_iconst (pc := 23) (v := 3) K d_L_prepare_23 (by decide) ?_
      exact g_iret (pc := 24) K S rfl d_L_prepare_24 (by decide) (by decide) rfl
    exact gt_none
-- TapirGroup$Client.resultByAnswers()I
def y_C_resultByAnswers : MethodName := ⟨"TapirGroup$Client", "resultByAnswers", "()I"⟩
abbrev rm_C_resultByAnswers : Room := { frames := 1, cells := 0, slots := 0, locals := 23 }
theorem d_C_resultByAnswers_0 : decode prog_2_method_14_code 0 = .ok (.aload_n 0, 1) := by decide +kernel
theorem d_C_resultByAnswers_1 : decode prog_2_method_14_code 1 = .ok (.iconst 2, 1) := by decide +kernel
theorem d_C_resultByAnswers_2 : decode prog_2_method_14_code 2 = .ok (.invokevirtual 47, 3) := by decide +kernel
theorem d_C_resultByAnswers_5 : decode prog_2_method_14_code 5 = .ok (.ifCond .le 5, 3) := by decide +kernel
theorem d_C_resultByAnswers_8 : decode prog_2_method_14_code 8 = .ok (.iconst 2, 1) := by decide +kernel
theorem d_C_resultByAnswers_9 : decode prog_2_method_14_code 9 = .ok (.ireturn, 1) := by decide +kernel
theorem d_C_resultByAnswers_10 : decode prog_2_method_14_code 10 = .ok (.aload_n 0, 1) := by decide +kernel
theorem d_C_resultByAnswers_11 : decode prog_2_method_14_code 11 = .ok (.iconst 0, 1) := by decide +kernel
theorem d_C_resultByAnswers_12 : decode prog_2_method_14_code 12 = .ok (.invokevirtual 47, 3) := by decide +kernel
theorem d_C_resultByAnswers_15 : decode prog_2_method_14_code 15 = .ok (.iconst 2, 1) := by decide +kernel
theorem d_C_resultByAnswers_16 : decode prog_2_method_14_code 16 = .ok (.if_icmp .lt 5, 3) := by decide +kernel
theorem d_C_resultByAnswers_19 : decode prog_2_method_14_code 19 = .ok (.iconst 0, 1) := by decide +kernel
theorem d_C_resultByAnswers_20 : decode prog_2_method_14_code 20 = .ok (.ireturn, 1) := by decide +kernel
theorem d_C_resultByAnswers_21 : decode prog_2_method_14_code 21 = .ok (.aload_n 0, 1) := by decide +kernel
theorem d_C_resultByAnswers_22 : decode prog_2_method_14_code 22 = .ok (.iconst 1, 1) := by decide +kernel
theorem d_C_resultByAnswers_23 : decode prog_2_method_14_code 23 = .ok (.invokevirtual 47, 3) := by decide +kernel
theorem d_C_resultByAnswers_26 : decode prog_2_method_14_code 26 = .ok (.iconst 2, 1) := by decide +kernel
theorem d_C_resultByAnswers_27 : decode prog_2_method_14_code 27 = .ok (.if_icmp .lt 5, 3) := by decide +kernel
theorem d_C_resultByAnswers_30 : decode prog_2_method_14_code 30 = .ok (.iconst 2, 1) := by decide +kernel
theorem d_C_resultByAnswers_31 : decode prog_2_method_14_code 31 = .ok (.ireturn, 1) := by decide +kernel
theorem d_C_resultByAnswers_32 : decode prog_2_method_14_code 32 = .ok (.aload_n 0, 1) := by decide +kernel
theorem d_C_resultByAnswers_33 : decode prog_2_method_14_code 33 = .ok (.iconst 3, 1) := by decide +kernel
theorem d_C_resultByAnswers_34 : decode prog_2_method_14_code 34 = .ok (.invokevirtual 47, 3) := by decide +kernel
theorem d_C_resultByAnswers_37 : decode prog_2_method_14_code 37 = .ok (.ifCond .le 7, 3) := by decide +kernel
theorem d_C_resultByAnswers_40 : decode prog_2_method_14_code 40 = .ok (.iconst 3, 1) := by decide +kernel
theorem d_C_resultByAnswers_41 : decode prog_2_method_14_code 41 = .ok (.goto 4, 3) := by decide +kernel
theorem d_C_resultByAnswers_44 : decode prog_2_method_14_code 44 = .ok (.iconst 2, 1) := by decide +kernel
theorem d_C_resultByAnswers_45 : decode prog_2_method_14_code 45 = .ok (.ireturn, 1) := by decide +kernel
theorem cn_C_resultByAnswers : CN y_C_resultByAnswers (.code y_C_resultByAnswers prog_2_method_14_code 1 (some .int)) prog_2_method_14_code 1 (some .int) [] 0 := ⟨Or.inl ⟨rfl, rfl⟩, mw_459, mw_4, ⟨by decide +kernel, by decide +kernel⟩, by decide +kernel⟩
def b_C_resultByAnswers_45 (σ : Sg)  (t0 : Int32) : Option Int32 := (some t0)
set_option maxRecDepth 100000 in
set_option maxHeartbeats 4000000 in
theorem gb_C_resultByAnswers_45 {Γ : GX} (K : Cx Γ "TapirGroup$Client" prog_2_method_14_code 1 rm_C_resultByAnswers) (S : Std Γ (some .int)) (T : Tb Γ []) (hI : y_C_resultByAnswers.name = "<init>" → Ini Γ) (σ : Sg) (t0 : Int32) : G Γ (mkI σ) 0 0 45 [] [.int t0] σ (b_C_resultByAnswers_45 σ t0) := by
  unfold b_C_resultByAnswers_45
  exact g_iret (pc := 45) K S rfl d_C_resultByAnswers_45 (by decide) (by decide) rfl
def f_C_resultByAnswers (σ : Sg) (a0 : Nat) : Option Int32 := (if a0 < σ.1 ∧ kd a0 = 0 then (f_C_answersWith σ a0 (2 : Int32)).bind (fun v1 => (if v1 ≤ 0 then (if a0 < σ.1 ∧ kd a0 = 0 then (f_C_answersWith σ a0 (0 : Int32)).bind (fun v2 => (if v2 < (2 : Int32) then (if a0 < σ.1 ∧ kd a0 = 0 then (f_C_answersWith σ a0 (1 : Int32)).bind (fun v3 => (if v3 < (2 : Int32) then (if a0 < σ.1 ∧ kd a0 = 0 then (f_C_answersWith σ a0 (3 : Int32)).bind (fun v4 => (if v4 ≤ 0 then (b_C_resultByAnswers_45 σ (2 : Int32)) else (b_C_resultByAnswers_45 σ (3 : Int32)))) else none) else (some (2 : Int32)))) else none) else (some (0 : Int32)))) else none) else (some (2 : Int32)))) else none)
set_option maxRecDepth 100000 in
set_option maxHeartbeats 4000000 in
theorem k_C_resultByAnswers (l : Launch) (hl : l.stackTraces = false) (σ : Sg) (a0 : Nat) (r : Int32) (h : f_C_resultByAnswers σ a0 = some r) : Con l y_C_resultByAnswers (.code y_C_resultByAnswers prog_2_method_14_code 1 (some .int)) rm_C_resultByAnswers [.ref a0] σ ((mkI σ) r) := by
  refine Con.of (mk := (mkI σ)) (o := f_C_resultByAnswers σ a0) (z := r) (L0 := [(0, .ref a0)]) (bytes := prog_2_method_14_code) (maxL := 1) (ret := (some .int)) (hh := []) hl (by decide +kernel) (Or.inl ⟨rfl, rfl⟩) (by simp [Value.category]) (Nat.le_of_ble_eq_true rfl) rfl (fun Γ K S T hI => ?_) h rfl
  unfold f_C_resultByAnswers
  refine g_aload_n (pc := 0) (j := 0) K d_C_resultByAnswers_0 rfl ?_
  refine g_iconst (pc := 1) (v := 2) K d_C_resultByAnswers_1 (by decide) ?_
  refine g_callV (pc := 2) (ci := 0) (a := a0) (vs := [.int (2 : Int32)]) (st := []) (mkc := mkI σ) K rfl (by decide) cn_C_answersWith (fun l hl r hr => k_C_answersWith l hl _ _ _ r hr) mw_133 mw_134 mw_135 ⟨by decide, by decide, by decide, by decide⟩ d_C_resultByAnswers_2 rfl rfl (Nat.le_of_ble_eq_true rfl) (fun v1 _ => ?_)
  change G Γ (mkI σ) 0 0 5 [(0, .ref a0)] [.int v1] σ _
  refine g_if_le (pc := 5) (tgt := 10) K d_C_resultByAnswers_5 (by decide) (fun _ => ?_) (fun _ => ?_)
  · refine g_aload_n (pc := 10) (j := 0) K d_C_resultByAnswers_10 rfl ?_
    refine g_iconst (pc := 11) (v := 0) K d_C_resultByAnswers_11 (by decide) ?_
    refine g_callV (pc := 12) (ci := 0) (a := a0) (vs := [.int (0 : Int32)]) (st := []) (mkc := mkI σ) K rfl (by decide) cn_C_answersWith (fun l hl r hr => k_C_answersWith l hl _ _ _ r hr) mw_133 mw_134 mw_135 ⟨by decide, by decide, by decide, by decide⟩ d_C_resultByAnswers_12 rfl rfl (Nat.le_of_ble_eq_true rfl) (fun v2 _ => ?_)
    change G Γ (mkI σ) 0 0 15 [(0, .ref a0)] [.int v2] σ _
    refine g_iconst (pc := 15) (v := 2) K d_C_resultByAnswers_15 (by decide) ?_
    refine g_icmp_lt (pc := 16) (tgt := 21) K d_C_resultByAnswers_16 (by decide) (fun _ => ?_) (fun _ => ?_)
    · refine g_aload_n (pc := 21) (j := 0) K d_C_resultByAnswers_21 rfl ?_
      refine g_iconst (pc := 22) (v := 1) K d_C_resultByAnswers_22 (by decide) ?_
      refine g_callV (pc := 23) (ci := 0) (a := a0) (vs := [.int (1 : Int32)]) (st := []) (mkc := mkI σ) K rfl (by decide) cn_C_answersWith (fun l hl r hr => k_C_answersWith l hl _ _ _ r hr) mw_133 mw_134 mw_135 ⟨by decide, by decide, by decide, by decide⟩ d_C_resultByAnswers_23 rfl rfl (Nat.le_of_ble_eq_true rfl) (fun v3 _ => ?_)
      change G Γ (mkI σ) 0 0 26 [(0, .ref a0)] [.int v3] σ _
      refine g_iconst (pc := 26) (v := 2) K d_C_resultByAnswers_26 (by decide) ?_
      refine g_icmp_lt (pc := 27) (tgt := 32) K d_C_resultByAnswers_27 (by decide) (fun _ => ?_) (fun _ => ?_)
      · refine g_aload_n (pc := 32) (j := 0) K d_C_resultByAnswers_32 rfl ?_
        refine g_iconst (pc := 33) (v := 3) K d_C_resultByAnswers_33 (by decide) ?_
        refine g_callV (pc := 34) (ci := 0) (a := a0) (vs := [.int (3 : Int32)]) (st := []) (mkc := mkI σ) K rfl (by decide) cn_C_answersWith (fun l hl r hr => k_C_answersWith l hl _ _ _ r hr) mw_133 mw_134 mw_135 ⟨by decide, by decide, by decide, by decide⟩ d_C_resultByAnswers_34 rfl rfl (Nat.le_of_ble_eq_true rfl) (fun v4 _ => ?_)
        change G Γ (mkI σ) 0 0 37 [(0, .ref a0)] [.int v4] σ _
        refine g_if_le (pc := 37) (tgt := 44) K d_C_resultByAnswers_37 (by decide) (fun _ => ?_) (fun _ => ?_)
        · refine g_iconst (pc := 44) (v := 2) K d_C_resultByAnswers_44 (by decide) ?_
          refine g_sub (L' := []) [] rfl ?_
          exact gb_C_resultByAnswers_45 K S T hI σ (2 : Int32)
        · refine g_iconst (pc := 40) (v := 3) K d_C_resultByAnswers_40 (by decide) ?_
          refine g_goto (pc := 41) (tgt := 45) K d_C_resultByAnswers_41 (by decide) ?_
          refine g_sub (L' := []) [] rfl ?_
          exact gb_C_resultByAnswers_45 K S T hI σ (3 : Int32)
      · refine g_iconst (pc := 30) (v := 2) K d_C_resultByAnswers_30 (by decide) ?_
        exact g_iret (pc := 31) K S rfl d_C_resultByAnswers_31 (by decide) (by decide) rfl
    · refine g_iconst (pc := 19) (v := 0) K d_C_resultByAnswers_19 (by decide) ?_
      exact g_iret (pc := 20) K S rfl d_C_resultByAnswers_20 (by decide) (by decide) rfl
  · refine g_iconst (pc := 8) (v := 2) K d_C_resultByAnswers_8 (by decide) ?_
    exact g_iret (pc := 9) K S rfl d_C_resultByAnswers_9 (by decide) (by decide) rfl
