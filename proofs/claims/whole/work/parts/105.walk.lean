-- TapirGroup$Replica.hasStaleRead(LTapirGroup$Transaction;)Z
def y_R_hasStaleRead : MethodName := ⟨"TapirGroup$Replica", "hasStaleRead", "(LTapirGroup$Transaction;)Z"⟩
abbrev rm_R_hasStaleRead : Room := { frames := 1, cells := 0, slots := 0, locals := 21 }
theorem d_R_hasStaleRead_0 : decode prog_3_method_9_code 0 = .ok (.iconst 0, 1) := by decide +kernel
theorem d_R_hasStaleRead_1 : decode prog_3_method_9_code 1 = .ok (.istore_n 2, 1) := by decide +kernel
theorem d_R_hasStaleRead_2 : decode prog_3_method_9_code 2 = .ok (.iload_n 2, 1) := by decide +kernel
theorem d_R_hasStaleRead_3 : decode prog_3_method_9_code 3 = .ok (.bipush 6, 2) := by decide +kernel
theorem d_R_hasStaleRead_5 : decode prog_3_method_9_code 5 = .ok (.if_icmp .ge 47, 3) := by decide +kernel
theorem d_R_hasStaleRead_8 : decode prog_3_method_9_code 8 = .ok (.aload_n 1, 1) := by decide +kernel
theorem d_R_hasStaleRead_9 : decode prog_3_method_9_code 9 = .ok (.iload_n 2, 1) := by decide +kernel
theorem d_R_hasStaleRead_10 : decode prog_3_method_9_code 10 = .ok (.invokevirtual 50, 3) := by decide +kernel
theorem d_R_hasStaleRead_13 : decode prog_3_method_9_code 13 = .ok (.ifCond .eq 33, 3) := by decide +kernel
theorem d_R_hasStaleRead_16 : decode prog_3_method_9_code 16 = .ok (.aload_n 0, 1) := by decide +kernel
theorem d_R_hasStaleRead_17 : decode prog_3_method_9_code 17 = .ok (.getfield 19, 3) := by decide +kernel
theorem d_R_hasStaleRead_20 : decode prog_3_method_9_code 20 = .ok (.iload_n 2, 1) := by decide +kernel
theorem d_R_hasStaleRead_21 : decode prog_3_method_9_code 21 = .ok (.iaload, 1) := by decide +kernel
theorem d_R_hasStaleRead_22 : decode prog_3_method_9_code 22 = .ok (.aload_n 1, 1) := by decide +kernel
theorem d_R_hasStaleRead_23 : decode prog_3_method_9_code 23 = .ok (.getfield 55, 3) := by decide +kernel
theorem d_R_hasStaleRead_26 : decode prog_3_method_9_code 26 = .ok (.iload_n 2, 1) := by decide +kernel
theorem d_R_hasStaleRead_27 : decode prog_3_method_9_code 27 = .ok (.iaload, 1) := by decide +kernel
theorem d_R_hasStaleRead_28 : decode prog_3_method_9_code 28 = .ok (.if_icmp .gt 16, 3) := by decide +kernel
theorem d_R_hasStaleRead_31 : decode prog_3_method_9_code 31 = .ok (.aload_n 1, 1) := by decide +kernel
theorem d_R_hasStaleRead_32 : decode prog_3_method_9_code 32 = .ok (.getfield 55, 3) := by decide +kernel
theorem d_R_hasStaleRead_35 : decode prog_3_method_9_code 35 = .ok (.iload_n 2, 1) := by decide +kernel
theorem d_R_hasStaleRead_36 : decode prog_3_method_9_code 36 = .ok (.iaload, 1) := by decide +kernel
theorem d_R_hasStaleRead_37 : decode prog_3_method_9_code 37 = .ok (.aload_n 1, 1) := by decide +kernel
theorem d_R_hasStaleRead_38 : decode prog_3_method_9_code 38 = .ok (.getfield 58, 3) := by decide +kernel
theorem d_R_hasStaleRead_41 : decode prog_3_method_9_code 41 = .ok (.if_icmp .lt 5, 3) := by decide +kernel
theorem d_R_hasStaleRead_44 : decode prog_3_method_9_code 44 = .ok (.iconst 1, 1) := by decide +kernel
theorem d_R_hasStaleRead_45 : decode prog_3_method_9_code 45 = .ok (.ireturn, 1) := by decide +kernel
theorem d_R_hasStaleRead_46 : decode prog_3_method_9_code 46 = .ok (.iinc 2 1, 3) := by decide +kernel
theorem d_R_hasStaleRead_49 : decode prog_3_method_9_code 49 = .ok (.goto (-47), 3) := by decide +kernel
theorem d_R_hasStaleRead_52 : decode prog_3_method_9_code 52 = .ok (.iconst 0, 1) := by decide +kernel
theorem d_R_hasStaleRead_53 : decode prog_3_method_9_code 53 = .ok (.ireturn, 1) := by decide +kernel
theorem cn_R_hasStaleRead : CN y_R_hasStaleRead (.code y_R_hasStaleRead prog_3_method_9_code 3 (some .boolean)) prog_3_method_9_code 3 (some .boolean) [] 1 := ⟨Or.inl ⟨rfl, rfl⟩, mw_419, mw_2, ⟨by decide +kernel, by decide +kernel⟩, by decide +kernel⟩
def b_R_hasStaleRead_46 (σ : Sg) (k : Nat → Nat → Int32 → Option Int32) (a0 : Nat) (a1 : Nat) (x2 : Int32) : Option Int32 := (k a0 a1 (x2 + 1))
set_option maxRecDepth 100000 in
set_option maxHeartbeats 4000000 in
theorem gb_R_hasStaleRead_46 {Γ : GX} (K : Cx Γ "TapirGroup$Replica" prog_3_method_9_code 3 rm_R_hasStaleRead) (S : Std Γ (some .boolean)) (T : Tb Γ []) (hI : y_R_hasStaleRead.name = "<init>" → Ini Γ) (σ : Sg) (k : Nat → Nat → Int32 → Option Int32) (hk : ∀ (a0 : Nat) (a1 : Nat) (x2 : Int32), G Γ (mkI σ) 0 0 2 [(0, .ref a0), (1, .ref a1), (2, .int x2)] [] σ (k a0 a1 x2)) (a0 : Nat) (a1 : Nat) (x2 : Int32) : G Γ (mkI σ) 0 0 46 [(0, .ref a0), (1, .ref a1), (2, .int x2)] [] σ (b_R_hasStaleRead_46 σ k a0 a1 x2) := by
  unfold b_R_hasStaleRead_46
  refine g_iinc (pc := 46) (j := 2) (v := (x2 + 1)) (L' := [(2, .int (x2 + 1)), (0, .ref a0), (1, .ref a1)]) K d_R_hasStaleRead_46 rfl (by rfl) (by decide) rfl ?_
  refine g_goto (pc := 49) (tgt := 2) K d_R_hasStaleRead_49 (by decide) ?_
  refine g_sub (L' := [(0, .ref a0), (1, .ref a1), (2, .int (x2 + 1))]) [1, 2, 0] rfl ?_
  exact hk a0 a1 (x2 + 1)
def b_R_hasStaleRead_44 (σ : Sg)   : Option Int32 := (some (1 : Int32))
set_option maxRecDepth 100000 in
set_option maxHeartbeats 4000000 in
theorem gb_R_hasStaleRead_44 {Γ : GX} (K : Cx Γ "TapirGroup$Replica" prog_3_method_9_code 3 rm_R_hasStaleRead) (S : Std Γ (some .boolean)) (T : Tb Γ []) (hI : y_R_hasStaleRead.name = "<init>" → Ini Γ) (σ : Sg)  : G Γ (mkI σ) 0 0 44 [] [] σ (b_R_hasStaleRead_44 σ ) := by
  unfold b_R_hasStaleRead_44
  refine g_iconst (pc := 44) (v := 1) K d_R_hasStaleRead_44 (by decide) ?_
  exact g_iret (pc := 45) K S rfl d_R_hasStaleRead_45 (by decide) (by decide) rfl
def b_R_hasStaleRead_2 (σ : Sg) : Nat → Nat → Nat → Int32 → Option Int32
  | 0 => fun _ _ _ => none
  | n + 1 => fun a0 a1 x2 => (if (6 : Int32) ≤ x2 then (some (0 : Int32)) else (if a1 < σ.1 ∧ kd a1 = 2 then (f_T_hasRead σ a1 x2).bind (fun v1 => (if v1 = 0 then (b_R_hasStaleRead_46 σ (b_R_hasStaleRead_2 σ n) a0 a1 x2) else (if a0 < σ.1 ∧ kd a0 = 1 then rc (g_r σ a0 2) none (fun b2 => (if (b2 < σ.1 ∧ kd b2 = 10) ∧ inb x2 (ln b2) = true then (if a1 < σ.1 ∧ kd a1 = 2 then rc (g_r σ a1 4) none (fun b3 => (if (b3 < σ.1 ∧ kd b3 = 10) ∧ inb x2 (ln b3) = true then (if (g_i σ b3 x2.toNatClampNeg) < (g_i σ b2 x2.toNatClampNeg) then (b_R_hasStaleRead_44 σ) else (if a1 < σ.1 ∧ kd a1 = 2 then rc (g_r σ a1 4) none (fun b4 => (if (b4 < σ.1 ∧ kd b4 = 10) ∧ inb x2 (ln b4) = true then (if a1 < σ.1 ∧ kd a1 = 2 then (if (g_i σ b4 x2.toNatClampNeg) < (g_i σ a1 1) then (b_R_hasStaleRead_46 σ (b_R_hasStaleRead_2 σ n) a0 a1 x2) else (b_R_hasStaleRead_44 σ)) else none) else none)) else none)) else none)) else none) else none)) else none))) else none))
set_option maxRecDepth 100000 in
set_option maxHeartbeats 4000000 in
theorem gb_R_hasStaleRead_2 {Γ : GX} (K : Cx Γ "TapirGroup$Replica" prog_3_method_9_code 3 rm_R_hasStaleRead) (S : Std Γ (some .boolean)) (T : Tb Γ []) (hI : y_R_hasStaleRead.name = "<init>" → Ini Γ) (σ : Sg) (n : Nat) : ∀ (a0 : Nat) (a1 : Nat) (x2 : Int32), G Γ (mkI σ) 0 0 2 [(0, .ref a0), (1, .ref a1), (2, .int x2)] [] σ (b_R_hasStaleRead_2 σ n a0 a1 x2) := by
  induction n with
  | zero =>
    intro a0 a1 x2
    exact g_none
  | succ n ih =>
    intro a0 a1 x2
    rw [b_R_hasStaleRead_2]
    refine g_iload_n (pc := 2) (j := 2) K d_R_hasStaleRead_2 rfl ?_
    refine g_bipush (pc := 3) (v := 6) K d_R_hasStaleRead_3 (by decide) ?_
    refine g_icmp_ge (pc := 5) (tgt := 52) K d_R_hasStaleRead_5 (by decide) (fun _ => ?_) (fun _ => ?_)
    · refine g_iconst (pc := 52) (v := 0) K d_R_hasStaleRead_52 (by decide) ?_
      exact g_iret (pc := 53) K S rfl d_R_hasStaleRead_53 (by decide) (by decide) rfl
    · refine g_aload_n (pc := 8) (j := 1) K d_R_hasStaleRead_8 rfl ?_
      refine g_iload_n (pc := 9) (j := 2) K d_R_hasStaleRead_9 rfl ?_
      refine g_callV (pc := 10) (ci := 2) (a := a1) (vs := [.int x2]) (st := []) (mkc := mkI σ) K rfl (by decide) cn_T_hasRead (fun l hl r hr => k_T_hasRead l hl _ _ _ r hr) mw_420 mw_321 mw_322 ⟨by decide, by decide, by decide, by decide⟩ d_R_hasStaleRead_10 rfl rfl (Nat.le_of_ble_eq_true rfl) (fun v1 _ => ?_)
      change G Γ (mkI σ) 0 0 13 [(0, .ref a0), (1, .ref a1), (2, .int x2)] [.int v1] σ _
      refine g_if_eq (pc := 13) (tgt := 46) K d_R_hasStaleRead_13 (by decide) (fun _ => ?_) (fun _ => ?_)
      · exact gb_R_hasStaleRead_46 K S T hI σ (b_R_hasStaleRead_2 σ n) ih a0 a1 x2
      · refine g_aload_n (pc := 16) (j := 0) K d_R_hasStaleRead_16 rfl ?_
        refine g_getR (pc := 17) K fl_R_19 d_R_hasStaleRead_17 (fun _ => ?_) (fun b2 _ => ?_)
        · exact g_none
        · refine g_iload_n (pc := 20) (j := 2) K d_R_hasStaleRead_20 rfl ?_
          refine g_iald (pc := 21) K d_R_hasStaleRead_21 ?_
          refine g_aload_n (pc := 22) (j := 1) K d_R_hasStaleRead_22 rfl ?_
          refine g_getR (pc := 23) K fl_R_55 d_R_hasStaleRead_23 (fun _ => ?_) (fun b3 _ => ?_)
          · exact g_none
          · refine g_iload_n (pc := 26) (j := 2) K d_R_hasStaleRead_26 rfl ?_
            refine g_iald (pc := 27) K d_R_hasStaleRead_27 ?_
            refine g_icmp_gt (pc := 28) (tgt := 44) K d_R_hasStaleRead_28 (by decide) (fun _ => ?_) (fun _ => ?_)
            · refine g_sub (L' := []) [] rfl ?_
              exact gb_R_hasStaleRead_44 K S T hI σ
            · refine g_aload_n (pc := 31) (j := 1) K d_R_hasStaleRead_31 rfl ?_
              refine g_getR (pc := 32) K fl_R_55 d_R_hasStaleRead_32 (fun _ => ?_) (fun b4 _ => ?_)
              · exact g_none
              · refine g_iload_n (pc := 35) (j := 2) K d_R_hasStaleRead_35 rfl ?_
                refine g_iald (pc := 36) K d_R_hasStaleRead_36 ?_
                refine g_aload_n (pc := 37) (j := 1) K d_R_hasStaleRead_37 rfl ?_
                refine g_getI (pc := 38) K fl_R_58 d_R_hasStaleRead_38 ?_
                refine g_icmp_lt (pc := 41) (tgt := 46) K d_R_hasStaleRead_41 (by decide) (fun _ => ?_) (fun _ => ?_)
                · exact gb_R_hasStaleRead_46 K S T hI σ (b_R_hasStaleRead_2 σ n) ih a0 a1 x2
                · refine g_sub (L' := []) [] rfl ?_
                  exact gb_R_hasStaleRead_44 K S T hI σ
def f_R_hasStaleRead (σ : Sg) (a0 : Nat) (a1 : Nat) : Option Int32 := (b_R_hasStaleRead_2 σ 1000 a0 a1 (0 : Int32))
set_option maxRecDepth 100000 in
set_option maxHeartbeats 4000000 in
theorem k_R_hasStaleRead (l : Launch) (hl : l.stackTraces = false) (σ : Sg) (a0 : Nat) (a1 : Nat) (r : Int32) (h : f_R_hasStaleRead σ a0 a1 = some r) : Con l y_R_hasStaleRead (.code y_R_hasStaleRead prog_3_method_9_code 3 (some .boolean)) rm_R_hasStaleRead [.ref a0, .ref a1] σ ((mkI σ) r) := by
  refine Con.of (mk := (mkI σ)) (o := f_R_hasStaleRead σ a0 a1) (z := r) (L0 := [(0, .ref a0), (1, .ref a1)]) (bytes := prog_3_method_9_code) (maxL := 3) (ret := (some .boolean)) (hh := []) hl (by decide +kernel) (Or.inl ⟨rfl, rfl⟩) (by simp [Value.category]) (Nat.le_of_ble_eq_true rfl) rfl (fun Γ K S T hI => ?_) h rfl
  unfold f_R_hasStaleRead
  refine g_iconst (pc := 0) (v := 0) K d_R_hasStaleRead_0 (by decide) ?_
  refine g_istore_n (pc := 1) (L' := [(2, .int (0 : Int32)), (0, .ref a0), (1, .ref a1)]) K d_R_hasStaleRead_1 (by decide) rfl ?_
  refine g_sub (L' := [(0, .ref a0), (1, .ref a1), (2, .int (0 : Int32))]) [1, 2, 0] rfl ?_
  exact gb_R_hasStaleRead_2 K S T hI σ 1000 a0 a1 (0 : Int32)
-- TapirGroup$Replica.resultOf(I)I
def y_R_resultOf : MethodName := ⟨"TapirGroup$Replica", "resultOf", "(I)I"⟩
abbrev rm_R_resultOf : Room := { frames := 1, cells := 0, slots := 0, locals := 21 }
theorem d_R_resultOf_0 : decode prog_3_method_4_code 0 = .ok (.aload_n 0, 1) := by decide +kernel
theorem d_R_resultOf_1 : decode prog_3_method_4_code 1 = .ok (.iload_n 1, 1) := by decide +kernel
theorem d_R_resultOf_2 : decode prog_3_method_4_code 2 = .ok (.invokevirtual 38, 3) := by decide +kernel
theorem d_R_resultOf_5 : decode prog_3_method_4_code 5 = .ok (.ifCond .eq 14, 3) := by decide +kernel
theorem d_R_resultOf_8 : decode prog_3_method_4_code 8 = .ok (.aload_n 0, 1) := by decide +kernel
theorem d_R_resultOf_9 : decode prog_3_method_4_code 9 = .ok (.getfield 29, 3) := by decide +kernel
theorem d_R_resultOf_12 : decode prog_3_method_4_code 12 = .ok (.iload_n 1, 1) := by decide +kernel
theorem d_R_resultOf_13 : decode prog_3_method_4_code 13 = .ok (.iaload, 1) := by decide +kernel
theorem d_R_resultOf_14 : decode prog_3_method_4_code 14 = .ok (.iconst 3, 1) := by decide +kernel
theorem d_R_resultOf_15 : decode prog_3_method_4_code 15 = .ok (.iand, 1) := by decide +kernel
theorem d_R_resultOf_16 : decode prog_3_method_4_code 16 = .ok (.goto 4, 3) := by decide +kernel
theorem d_R_resultOf_19 : decode prog_3_method_4_code 19 = .ok (.iconst (-1), 1) := by decide +kernel
theorem d_R_resultOf_20 : decode prog_3_method_4_code 20 = .ok (.ireturn, 1) := by decide +kernel
theorem cn_R_resultOf : CN y_R_resultOf (.code y_R_resultOf prog_3_method_4_code 2 (some .int)) prog_3_method_4_code 2 (some .int) [] 1 := ⟨Or.inl ⟨rfl, rfl⟩, mw_432, mw_2, ⟨by decide +kernel, by decide +kernel⟩, by decide +kernel⟩
def b_R_resultOf_20 (σ : Sg)  (t0 : Int32) : Option Int32 := (some t0)
set_option maxRecDepth 100000 in
set_option maxHeartbeats 4000000 in
theorem gb_R_resultOf_20 {Γ : GX} (K : Cx Γ "TapirGroup$Replica" prog_3_method_4_code 2 rm_R_resultOf) (S : Std Γ (some .int)) (T : Tb Γ []) (hI : y_R_resultOf.name = "<init>" → Ini Γ) (σ : Sg) (t0 : Int32) : G Γ (mkI σ) 0 0 20 [] [.int t0] σ (b_R_resultOf_20 σ t0) := by
  unfold b_R_resultOf_20
  exact g_iret (pc := 20) K S rfl d_R_resultOf_20 (by decide) (by decide) rfl
def f_R_resultOf (σ : Sg) (a0 : Nat) (x1 : Int32) : Option Int32 := (if a0 < σ.1 ∧ kd a0 = 1 then (f_R_knows σ a0 x1).bind (fun v1 => (if v1 = 0 then (b_R_resultOf_20 σ (-1 : Int32)) else (if a0 < σ.1 ∧ kd a0 = 1 then rc (g_r σ a0 5) none (fun b2 => (if (b2 < σ.1 ∧ kd b2 = 10) ∧ inb x1 (ln b2) = true then (b_R_resultOf_20 σ ((g_i σ b2 x1.toNatClampNeg) &&& (3 : Int32))) else none)) else none))) else none)
set_option maxRecDepth 100000 in
set_option maxHeartbeats 4000000 in
theorem k_R_resultOf (l : Launch) (hl : l.stackTraces = false) (σ : Sg) (a0 : Nat) (x1 : Int32) (r : Int32) (h : f_R_resultOf σ a0 x1 = some r) : Con l y_R_resultOf (.code y_R_resultOf prog_3_method_4_code 2 (some .int)) rm_R_resultOf [.ref a0, .int x1] σ ((mkI σ) r) := by
  refine Con.of (mk := (mkI σ)) (o := f_R_resultOf σ a0 x1) (z := r) (L0 := [(0, .ref a0), (1, .int x1)]) (bytes := prog_3_method_4_code) (maxL := 2) (ret := (some .int)) (hh := []) hl (by decide +kernel) (Or.inl ⟨rfl, rfl⟩) (by simp [Value.category]) (Nat.le_of_ble_eq_true rfl) rfl (fun Γ K S T hI => ?_) h rfl
  unfold f_R_resultOf
  refine g_aload_n (pc := 0) (j := 0) K d_R_resultOf_0 rfl ?_
  refine g_iload_n (pc := 1) (j := 1) K d_R_resultOf_1 rfl ?_
  refine g_callV (pc := 2) (ci := 1) (a := a0) (vs := [.int x1]) (st := []) (mkc := mkI σ) K rfl (by decide) cn_R_knows (fun l hl r hr => k_R_knows l hl _ _ _ r hr) mw_433 mw_409 mw_410 ⟨by decide, by decide, by decide, by decide⟩ d_R_resultOf_2 rfl rfl (Nat.le_of_ble_eq_true rfl) (fun v1 _ => ?_)
  change G Γ (mkI σ) 0 0 5 [(0, .ref a0), (1, .int x1)] [.int v1] σ _
  refine g_if_eq (pc := 5) (tgt := 19) K d_R_resultOf_5 (by decide) (fun _ => ?_) (fun _ => ?_)
  · refine g_iconst (pc := 19) (v := -1) K d_R_resultOf_19 (by decide) ?_
    refine g_sub (L' := []) [] rfl ?_
    exact gb_R_resultOf_20 K S T hI σ (-1 : Int32)
  · refine g_aload_n (pc := 8) (j := 0) K d_R_resultOf_8 rfl ?_
    refine g_getR (pc := 9) K fl_R_29 d_R_resultOf_9 (fun _ => ?_) (fun b2 _ => ?_)
    · exact g_none
    · refine g_iload_n (pc := 12) (j := 1) K d_R_resultOf_12 rfl ?_
      refine g_iald (pc := 13) K d_R_resultOf_13 ?_
      refine g_iconst (pc := 14) (v := 3) K d_R_resultOf_14 (by decide) ?_
      refine g_iand (pc := 15) K d_R_resultOf_15 ?_
      refine g_goto (pc := 16) (tgt := 20) K d_R_resultOf_16 (by decide) ?_
      refine g_sub (L' := []) [] rfl ?_
      exact gb_R_resultOf_20 K S T hI σ ((g_i σ b2 x1.toNatClampNeg) &&& (3 : Int32))
-- TapirGroup$Replica.has(II)Z
def y_R_has : MethodName := ⟨"TapirGroup$Replica", "has", "(II)Z"⟩
abbrev rm_R_has : Room := { frames := 1, cells := 0, slots := 0, locals := 21 }
theorem d_R_has_0 : decode prog_3_method_3_code 0 = .ok (.aload_n 0, 1) := by decide +kernel
theorem d_R_has_1 : decode prog_3_method_3_code 1 = .ok (.iload_n 1, 1) := by decide +kernel
theorem d_R_has_2 : decode prog_3_method_3_code 2 = .ok (.invokevirtual 38, 3) := by decide +kernel
theorem d_R_has_5 : decode prog_3_method_3_code 5 = .ok (.ifCond .eq 18, 3) := by decide +kernel
theorem d_R_has_8 : decode prog_3_method_3_code 8 = .ok (.aload_n 0, 1) := by decide +kernel
theorem d_R_has_9 : decode prog_3_method_3_code 9 = .ok (.getfield 29, 3) := by decide +kernel
theorem d_R_has_12 : decode prog_3_method_3_code 12 = .ok (.iload_n 1, 1) := by decide +kernel
theorem d_R_has_13 : decode prog_3_method_3_code 13 = .ok (.iaload, 1) := by decide +kernel
theorem d_R_has_14 : decode prog_3_method_3_code 14 = .ok (.iload_n 2, 1) := by decide +kernel
theorem d_R_has_15 : decode prog_3_method_3_code 15 = .ok (.iand, 1) := by decide +kernel
theorem d_R_has_16 : decode prog_3_method_3_code 16 = .ok (.ifCond .eq 7, 3) := by decide +kernel
theorem d_R_has_19 : decode prog_3_method_3_code 19 = .ok (.iconst 1, 1) := by decide +kernel
theorem d_R_has_20 : decode prog_3_method_3_code 20 = .ok (.goto 4, 3) := by decide +kernel
theorem d_R_has_23 : decode prog_3_method_3_code 23 = .ok (.iconst 0, 1) := by decide +kernel
theorem d_R_has_24 : decode prog_3_method_3_code 24 = .ok (.ireturn, 1) := by decide +kernel
theorem cn_R_has : CN y_R_has (.code y_R_has prog_3_method_3_code 3 (some .boolean)) prog_3_method_3_code 3 (some .boolean) [] 2 := ⟨Or.inl ⟨rfl, rfl⟩, mw_437, mw_2, ⟨by decide +kernel, by decide +kernel⟩, by decide +kernel⟩
def b_R_has_24 (σ : Sg)  (t0 : Int32) : Option Int32 := (if t0 = 0 ∨ t0 = 1 then some t0 else none)
set_option maxRecDepth 100000 in
set_option maxHeartbeats 4000000 in
theorem gb_R_has_24 {Γ : GX} (K : Cx Γ "TapirGroup$Replica" prog_3_method_3_code 3 rm_R_has) (S : Std Γ (some .boolean)) (T : Tb Γ []) (hI : y_R_has.name = "<init>" → Ini Γ) (σ : Sg) (t0 : Int32) : G Γ (mkI σ) 0 0 24 [] [.int t0] σ (b_R_has_24 σ t0) := by
  unfold b_R_has_24
  exact g_zret (pc := 24) K S d_R_has_24 (by decide) (by decide) rfl
def b_R_has_23 (σ : Sg)   : Option Int32 := (b_R_has_24 σ (0 : Int32))
set_option maxRecDepth 100000 in
set_option maxHeartbeats 4000000 in
theorem gb_R_has_23 {Γ : GX} (K : Cx Γ "TapirGroup$Replica" prog_3_method_3_code 3 rm_R_has) (S : Std Γ (some .boolean)) (T : Tb Γ []) (hI : y_R_has.name = "<init>" → Ini Γ) (σ : Sg)  : G Γ (mkI σ) 0 0 23 [] [] σ (b_R_has_23 σ ) := by
  unfold b_R_has_23
  refine g_iconst (pc := 23) (v := 0) K d_R_has_23 (by decide) ?_
  exact gb_R_has_24 K S T hI σ (0 : Int32)
def f_R_has (σ : Sg) (a0 : Nat) (x1 : Int32) (x2 : Int32) : Option Int32 := (if a0 < σ.1 ∧ kd a0 = 1 then (f_R_knows σ a0 x1).bind (fun v1 => (if v1 = 0 then (b_R_has_23 σ) else (if a0 < σ.1 ∧ kd a0 = 1 then rc (g_r σ a0 5) none (fun b2 => (if (b2 < σ.1 ∧ kd b2 = 10) ∧ inb x1 (ln b2) = true then (if ((g_i σ b2 x1.toNatClampNeg) &&& x2) = 0 then (b_R_has_23 σ) else (b_R_has_24 σ (1 : Int32))) else none)) else none))) else none)
set_option maxRecDepth 100000 in
set_option maxHeartbeats 4000000 in
theorem k_R_has (l : Launch) (hl : l.stackTraces = false) (σ : Sg) (a0 : Nat) (x1 : Int32) (x2 : Int32) (r : Int32) (h : f_R_has σ a0 x1 x2 = some r) : Con l y_R_has (.code y_R_has prog_3_method_3_code 3 (some .boolean)) rm_R_has [.ref a0, .int x1, .int x2] σ ((mkI σ) r) := by
  refine Con.of (mk := (mkI σ)) (o := f_R_has σ a0 x1 x2) (z := r) (L0 := [(0, .ref a0), (1, .int x1), (2, .int x2)]) (bytes := prog_3_method_3_code) (maxL := 3) (ret := (some .boolean)) (hh := []) hl (by decide +kernel) (Or.inl ⟨rfl, rfl⟩) (by simp [Value.category]) (Nat.le_of_ble_eq_true rfl) rfl (fun Γ K S T hI => ?_) h rfl
  unfold f_R_has
  refine g_aload_n (pc := 0) (j := 0) K d_R_has_0 rfl ?_
  refine g_iload_n (pc := 1) (j := 1) K d_R_has_1 rfl ?_
  refine g_callV (pc := 2) (ci := 1) (a := a0) (vs := [.int x1]) (st := []) (mkc := mkI σ) K rfl (by decide) cn_R_knows (fun l hl r hr => k_R_knows l hl _ _ _ r hr) mw_433 mw_409 mw_410 ⟨by decide, by decide, by decide, by decide⟩ d_R_has_2 rfl rfl (Nat.le_of_ble_eq_true rfl) (fun v1 _ => ?_)
  change G Γ (mkI σ) 0 0 5 [(0, .ref a0), (1, .int x1), (2, .int x2)] [.int v1] σ _
  refine g_if_eq (pc := 5) (tgt := 23) K d_R_has_5 (by decide) (fun _ => ?_) (fun _ => ?_)
  · refine g_sub (L' := []) [] rfl ?_
    exact gb_R_has_23 K S T hI σ
  · refine g_aload_n (pc := 8) (j := 0) K d_R_has_8 rfl ?_
    refine g_getR (pc := 9) K fl_R_29 d_R_has_9 (fun _ => ?_) (fun b2 _ => ?_)
    · exact g_none
    · refine g_iload_n (pc := 12) (j := 1) K d_R_has_12 rfl ?_
      refine g_iald (pc := 13) K d_R_has_13 ?_
      refine g_iload_n (pc := 14) (j := 2) K d_R_has_14 rfl ?_
      refine g_iand (pc := 15) K d_R_has_15 ?_
      refine g_if_eq (pc := 16) (tgt := 23) K d_R_has_16 (by decide) (fun _ => ?_) (fun _ => ?_)
      · refine g_sub (L' := []) [] rfl ?_
        exact gb_R_has_23 K S T hI σ
      · refine g_iconst (pc := 19) (v := 1) K d_R_has_19 (by decide) ?_
        refine g_goto (pc := 20) (tgt := 24) K d_R_has_20 (by decide) ?_
        refine g_sub (L' := []) [] rfl ?_
        exact gb_R_has_24 K S T hI σ (1 : Int32)
-- TapirGroup$Replica.isPrepared(I)Z
def y_R_isPrepared : MethodName := ⟨"TapirGroup$Replica", "isPrepared", "(I)Z"⟩
abbrev rm_R_isPrepared : Room := { frames := 2, cells := 0, slots := 0, locals := 43 }
theorem d_R_isPrepared_0 : decode prog_3_method_5_code 0 = .ok (.aload_n 0, 1) := by decide +kernel
theorem d_R_isPrepared_1 : decode prog_3_method_5_code 1 = .ok (.iload_n 1, 1) := by decide +kernel
theorem d_R_isPrepared_2 : decode prog_3_method_5_code 2 = .ok (.invokevirtual 42, 3) := by decide +kernel
theorem d_R_isPrepared_5 : decode prog_3_method_5_code 5 = .ok (.ifCond .ne 17, 3) := by decide +kernel
theorem d_R_isPrepared_8 : decode prog_3_method_5_code 8 = .ok (.aload_n 0, 1) := by decide +kernel
theorem d_R_isPrepared_9 : decode prog_3_method_5_code 9 = .ok (.iload_n 1, 1) := by decide +kernel
theorem d_R_isPrepared_10 : decode prog_3_method_5_code 10 = .ok (.bipush 24, 2) := by decide +kernel
theorem d_R_isPrepared_12 : decode prog_3_method_5_code 12 = .ok (.invokevirtual 46, 3) := by decide +kernel
theorem d_R_isPrepared_15 : decode prog_3_method_5_code 15 = .ok (.ifCond .ne 7, 3) := by decide +kernel
theorem d_R_isPrepared_18 : decode prog_3_method_5_code 18 = .ok (.iconst 1, 1) := by decide +kernel
theorem d_R_isPrepared_19 : decode prog_3_method_5_code 19 = .ok (.goto 4, 3) := by decide +kernel
theorem d_R_isPrepared_22 : decode prog_3_method_5_code 22 = .ok (.iconst 0, 1) := by decide +kernel
theorem d_R_isPrepared_23 : decode prog_3_method_5_code 23 = .ok (.ireturn, 1) := by decide +kernel
theorem cn_R_isPrepared : CN y_R_isPrepared (.code y_R_isPrepared prog_3_method_5_code 2 (some .boolean)) prog_3_method_5_code 2 (some .boolean) [] 1 := ⟨Or.inl ⟨rfl, rfl⟩, mw_428, mw_2, ⟨by decide +kernel, by decide +kernel⟩, by decide +kernel⟩
def b_R_isPrepared_23 (σ : Sg)  (t0 : Int32) : Option Int32 := (if t0 = 0 ∨ t0 = 1 then some t0 else none)
set_option maxRecDepth 100000 in
set_option maxHeartbeats 4000000 in
theorem gb_R_isPrepared_23 {Γ : GX} (K : Cx Γ "TapirGroup$Replica" prog_3_method_5_code 2 rm_R_isPrepared) (S : Std Γ (some .boolean)) (T : Tb Γ []) (hI : y_R_isPrepared.name = "<init>" → Ini Γ) (σ : Sg) (t0 : Int32) : G Γ (mkI σ) 0 0 23 [] [.int t0] σ (b_R_isPrepared_23 σ t0) := by
  unfold b_R_isPrepared_23
  exact g_zret (pc := 23) K S d_R_isPrepared_23 (by decide) (by decide) rfl
def b_R_isPrepared_22 (σ : Sg)   : Option Int32 := (b_R_isPrepared_23 σ (0 : Int32))
set_option maxRecDepth 100000 in
set_option maxHeartbeats 4000000 in
theorem gb_R_isPrepared_22 {Γ : GX} (K : Cx Γ "TapirGroup$Replica" prog_3_method_5_code 2 rm_R_isPrepared) (S : Std Γ (some .boolean)) (T : Tb Γ []) (hI : y_R_isPrepared.name = "<init>" → Ini Γ) (σ : Sg)  : G Γ (mkI σ) 0 0 22 [] [] σ (b_R_isPrepared_22 σ ) := by
  unfold b_R_isPrepared_22
  refine g_iconst (pc := 22) (v := 0) K d_R_isPrepared_22 (by decide) ?_
  exact gb_R_isPrepared_23 K S T hI σ (0 : Int32)
def f_R_isPrepared (σ : Sg) (a0 : Nat) (x1 : Int32) : Option Int32 := (if a0 < σ.1 ∧ kd a0 = 1 then (f_R_resultOf σ a0 x1).bind (fun v1 => (if v1 = 0 then (if a0 < σ.1 ∧ kd a0 = 1 then (f_R_has σ a0 x1 (24 : Int32)).bind (fun v2 => (if v2 = 0 then (b_R_isPrepared_23 σ (1 : Int32)) else (b_R_isPrepared_22 σ))) else none) else (b_R_isPrepared_22 σ))) else none)
set_option maxRecDepth 100000 in
set_option maxHeartbeats 4000000 in
theorem k_R_isPrepared (l : Launch) (hl : l.stackTraces = false) (σ : Sg) (a0 : Nat) (x1 : Int32) (r : Int32) (h : f_R_isPrepared σ a0 x1 = some r) : Con l y_R_isPrepared (.code y_R_isPrepared prog_3_method_5_code 2 (some .boolean)) rm_R_isPrepared [.ref a0, .int x1] σ ((mkI σ) r) := by
  refine Con.of (mk := (mkI σ)) (o := f_R_isPrepared σ a0 x1) (z := r) (L0 := [(0, .ref a0), (1, .int x1)]) (bytes := prog_3_method_5_code) (maxL := 2) (ret := (some .boolean)) (hh := []) hl (by decide +kernel) (Or.inl ⟨rfl, rfl⟩) (by simp [Value.category]) (Nat.le_of_ble_eq_true rfl) rfl (fun Γ K S T hI => ?_) h rfl
  unfold f_R_isPrepared
  refine g_aload_n (pc := 0) (j := 0) K d_R_isPrepared_0 rfl ?_
  refine g_iload_n (pc := 1) (j := 1) K d_R_isPrepared_1 rfl ?_
  refine g_callV (pc := 2) (ci := 1) (a := a0) (vs := [.int x1]) (st := []) (mkc := mkI σ) K rfl (by decide) cn_R_resultOf (fun l hl r hr => k_R_resultOf l hl _ _ _ r hr) mw_429 mw_430 mw_431 ⟨by decide, by decide, by decide, by decide⟩ d_R_isPrepared_2 rfl rfl (Nat.le_of_ble_eq_true rfl) (fun v1 _ => ?_)
  change G Γ (mkI σ) 0 0 5 [(0, .ref a0), (1, .int x1)] [.int v1] σ _
  refine g_if_ne (pc := 5) (tgt := 22) K d_R_isPrepared_5 (by decide) (fun _ => ?_) (fun _ => ?_)
  · refine g_sub (L' := []) [] rfl ?_
    exact gb_R_isPrepared_22 K S T hI σ
  · refine g_aload_n (pc := 8) (j := 0) K d_R_isPrepared_8 rfl ?_
    refine g_iload_n (pc := 9) (j := 1) K d_R_isPrepared_9 rfl ?_
    refine g_bipush (pc := 10) (v := 24) K d_R_isPrepared_10 (by decide) ?_
    refine g_callV (pc := 12) (ci := 1) (a := a0) (vs := [.int x1, .int (24 : Int32)]) (st := []) (mkc := mkI σ) K rfl (by decide) cn_R_has (fun l hl r hr => k_R_has l hl _ _ _ _ r hr) mw_434 mw_435 mw_436 ⟨by decide, by decide, by decide, by decide⟩ d_R_isPrepared_12 rfl rfl (Nat.le_of_ble_eq_true rfl) (fun v2 _ => ?_)
    change G Γ (mkI σ) 0 0 15 [(0, .ref a0), (1, .int x1)] [.int v2] σ _
    refine g_if_ne (pc := 15) (tgt := 22) K d_R_isPrepared_15 (by decide) (fun _ => ?_) (fun _ => ?_)
    · refine g_sub (L' := []) [] rfl ?_
      exact gb_R_isPrepared_22 K S T hI σ
    · refine g_iconst (pc := 18) (v := 1) K d_R_isPrepared_18 (by decide) ?_
      refine g_goto (pc := 19) (tgt := 23) K d_R_isPrepared_19 (by decide) ?_
      refine g_sub (L' := []) [] rfl ?_
      exact gb_R_isPrepared_23 K S T hI σ (1 : Int32)
-- TapirGroup.readsWhatIsPrepared(LTapirGroup$Transaction;LTapirGroup$Replica;)Z
def y_G_readsWhatIsPrepared : MethodName := ⟨"TapirGroup", "readsWhatIsPrepared", "(LTapirGroup$Transaction;LTapirGroup$Replica;)Z"⟩
abbrev rm_G_readsWhatIsPrepared : Room := { frames := 3, cells := 0, slots := 0, locals := 64 }
theorem d_G_readsWhatIsPrepared_0 : decode prog_1_method_25_code 0 = .ok (.iconst 1, 1) := by decide +kernel
theorem d_G_readsWhatIsPrepared_1 : decode prog_1_method_25_code 1 = .ok (.istore_n 3, 1) := by decide +kernel
theorem d_G_readsWhatIsPrepared_2 : decode prog_1_method_25_code 2 = .ok (.iload_n 3, 1) := by decide +kernel
theorem d_G_readsWhatIsPrepared_3 : decode prog_1_method_25_code 3 = .ok (.aload_n 0, 1) := by decide +kernel
theorem d_G_readsWhatIsPrepared_4 : decode prog_1_method_25_code 4 = .ok (.getfield 27, 3) := by decide +kernel
theorem d_G_readsWhatIsPrepared_7 : decode prog_1_method_25_code 7 = .ok (.if_icmp .gt 51, 3) := by decide +kernel
theorem d_G_readsWhatIsPrepared_10 : decode prog_1_method_25_code 10 = .ok (.aload_n 0, 1) := by decide +kernel
theorem d_G_readsWhatIsPrepared_11 : decode prog_1_method_25_code 11 = .ok (.getfield 23, 3) := by decide +kernel
theorem d_G_readsWhatIsPrepared_14 : decode prog_1_method_25_code 14 = .ok (.iload_n 3, 1) := by decide +kernel
theorem d_G_readsWhatIsPrepared_15 : decode prog_1_method_25_code 15 = .ok (.aaload, 1) := by decide +kernel
theorem d_G_readsWhatIsPrepared_16 : decode prog_1_method_25_code 16 = .ok (.astore 4, 2) := by decide +kernel
theorem d_G_readsWhatIsPrepared_18 : decode prog_1_method_25_code 18 = .ok (.aload 4, 2) := by decide +kernel
theorem d_G_readsWhatIsPrepared_20 : decode prog_1_method_25_code 20 = .ok (.ifnull 32, 3) := by decide +kernel
theorem d_G_readsWhatIsPrepared_23 : decode prog_1_method_25_code 23 = .ok (.aload 4, 2) := by decide +kernel
theorem d_G_readsWhatIsPrepared_25 : decode prog_1_method_25_code 25 = .ok (.aload_n 1, 1) := by decide +kernel
theorem d_G_readsWhatIsPrepared_26 : decode prog_1_method_25_code 26 = .ok (.if_acmp .eq 26, 3) := by decide +kernel
theorem d_G_readsWhatIsPrepared_29 : decode prog_1_method_25_code 29 = .ok (.aload_n 2, 1) := by decide +kernel
theorem d_G_readsWhatIsPrepared_30 : decode prog_1_method_25_code 30 = .ok (.iload_n 3, 1) := by decide +kernel
theorem d_G_readsWhatIsPrepared_31 : decode prog_1_method_25_code 31 = .ok (.invokevirtual 267, 3) := by decide +kernel
theorem d_G_readsWhatIsPrepared_34 : decode prog_1_method_25_code 34 = .ok (.ifCond .eq 18, 3) := by decide +kernel
theorem d_G_readsWhatIsPrepared_37 : decode prog_1_method_25_code 37 = .ok (.aload_n 1, 1) := by decide +kernel
theorem d_G_readsWhatIsPrepared_38 : decode prog_1_method_25_code 38 = .ok (.getfield 270, 3) := by decide +kernel
theorem d_G_readsWhatIsPrepared_41 : decode prog_1_method_25_code 41 = .ok (.aload 4, 2) := by decide +kernel
theorem d_G_readsWhatIsPrepared_43 : decode prog_1_method_25_code 43 = .ok (.getfield 273, 3) := by decide +kernel
theorem d_G_readsWhatIsPrepared_46 : decode prog_1_method_25_code 46 = .ok (.iand, 1) := by decide +kernel
theorem d_G_readsWhatIsPrepared_47 : decode prog_1_method_25_code 47 = .ok (.ifCond .eq 5, 3) := by decide +kernel
theorem d_G_readsWhatIsPrepared_50 : decode prog_1_method_25_code 50 = .ok (.iconst 1, 1) := by decide +kernel
theorem d_G_readsWhatIsPrepared_51 : decode prog_1_method_25_code 51 = .ok (.ireturn, 1) := by decide +kernel
theorem d_G_readsWhatIsPrepared_52 : decode prog_1_method_25_code 52 = .ok (.iinc 3 1, 3) := by decide +kernel
theorem d_G_readsWhatIsPrepared_55 : decode prog_1_method_25_code 55 = .ok (.goto (-53), 3) := by decide +kernel
theorem d_G_readsWhatIsPrepared_58 : decode prog_1_method_25_code 58 = .ok (.iconst 0, 1) := by decide +kernel
theorem d_G_readsWhatIsPrepared_59 : decode prog_1_method_25_code 59 = .ok (.ireturn, 1) := by decide +kernel
theorem cn_G_readsWhatIsPrepared : CN y_G_readsWhatIsPrepared (.code y_G_readsWhatIsPrepared prog_1_method_25_code 5 (some .boolean)) prog_1_method_25_code 5 (some .boolean) [] 2 := ⟨Or.inl ⟨rfl, rfl⟩, mw_424, mw_1, ⟨by decide +kernel, by decide +kernel⟩, by decide +kernel⟩
def b_G_readsWhatIsPrepared_52 (σ : Sg) (k : Nat → Nat → Nat → Int32 → Option Int32) (a0 : Nat) (a1 : Nat) (a2 : Nat) (x3 : Int32) : Option Int32 := (k a0 a1 a2 (x3 + 1))
set_option maxRecDepth 100000 in
set_option maxHeartbeats 4000000 in
theorem gb_G_readsWhatIsPrepared_52 {Γ : GX} (K : Cx Γ "TapirGroup" prog_1_method_25_code 5 rm_G_readsWhatIsPrepared) (S : Std Γ (some .boolean)) (T : Tb Γ []) (hI : y_G_readsWhatIsPrepared.name = "<init>" → Ini Γ) (σ : Sg) (k : Nat → Nat → Nat → Int32 → Option Int32) (hk : ∀ (a0 : Nat) (a1 : Nat) (a2 : Nat) (x3 : Int32), G Γ (mkI σ) 0 0 2 [(0, .ref a0), (1, .ref a1), (2, .ref a2), (3, .int x3)] [] σ (k a0 a1 a2 x3)) (a0 : Nat) (a1 : Nat) (a2 : Nat) (x3 : Int32) : G Γ (mkI σ) 0 0 52 [(0, .ref a0), (1, .ref a1), (2, .ref a2), (3, .int x3)] [] σ (b_G_readsWhatIsPrepared_52 σ k a0 a1 a2 x3) := by
  unfold b_G_readsWhatIsPrepared_52
  refine g_iinc (pc := 52) (j := 3) (v := (x3 + 1)) (L' := [(3, .int (x3 + 1)), (0, .ref a0), (1, .ref a1), (2, .ref a2)]) K d_G_readsWhatIsPrepared_52 rfl (by rfl) (by decide) rfl ?_
  refine g_goto (pc := 55) (tgt := 2) K d_G_readsWhatIsPrepared_55 (by decide) ?_
  refine g_sub (L' := [(0, .ref a0), (1, .ref a1), (2, .ref a2), (3, .int (x3 + 1))]) [1, 2, 3, 0] rfl ?_
  exact hk a0 a1 a2 (x3 + 1)
def b_G_readsWhatIsPrepared_2 (σ : Sg) : Nat → Nat → Nat → Nat → Int32 → Option Int32
  | 0 => fun _ _ _ _ => none
  | n + 1 => fun a0 a1 a2 x3 => (if a0 < σ.1 ∧ kd a0 = 3 then (if (g_i σ a0 3) < x3 then (some (0 : Int32)) else (if a0 < σ.1 ∧ kd a0 = 3 then rc (g_r σ a0 2) none (fun b1 => (if (b1 < σ.1 ∧ kd b1 = 15) ∧ inb x3 (ln b1) = true then rc (g_r σ b1 x3.toNatClampNeg) (b_G_readsWhatIsPrepared_52 σ (b_G_readsWhatIsPrepared_2 σ n) a0 a1 a2 x3) (fun b2 => (if b2 < σ.1 ∧ a1 < σ.1 then (if b2 = a1 then (b_G_readsWhatIsPrepared_52 σ (b_G_readsWhatIsPrepared_2 σ n) a0 a1 a2 x3) else (if a2 < σ.1 ∧ kd a2 = 1 then (f_R_isPrepared σ a2 x3).bind (fun v3 => (if v3 = 0 then (b_G_readsWhatIsPrepared_52 σ (b_G_readsWhatIsPrepared_2 σ n) a0 a1 a2 x3) else (if a1 < σ.1 ∧ kd a1 = 2 then (if b2 < σ.1 ∧ kd b2 = 2 then (if ((g_i σ a1 2) &&& (g_i σ b2 3)) = 0 then (b_G_readsWhatIsPrepared_52 σ (b_G_readsWhatIsPrepared_2 σ n) a0 a1 a2 x3) else (some (1 : Int32))) else none) else none))) else none)) else none)) else none)) else none)) else none)
set_option maxRecDepth 100000 in
set_option maxHeartbeats 4000000 in
theorem gb_G_readsWhatIsPrepared_2 {Γ : GX} (K : Cx Γ "TapirGroup" prog_1_method_25_code 5 rm_G_readsWhatIsPrepared) (S : Std Γ (some .boolean)) (T : Tb Γ []) (hI : y_G_readsWhatIsPrepared.name = "<init>" → Ini Γ) (σ : Sg) (n : Nat) : ∀ (a0 : Nat) (a1 : Nat) (a2 : Nat) (x3 : Int32), G Γ (mkI σ) 0 0 2 [(0, .ref a0), (1, .ref a1), (2, .ref a2), (3, .int x3)] [] σ (b_G_readsWhatIsPrepared_2 σ n a0 a1 a2 x3) := by
  induction n with
  | zero =>
    intro a0 a1 a2 x3
    exact g_none
  | succ n ih =>
    intro a0 a1 a2 x3
    rw [b_G_readsWhatIsPrepared_2]
    refine g_iload_n (pc := 2) (j := 3) K d_G_readsWhatIsPrepared_2 rfl ?_
    refine g_aload_n (pc := 3) (j := 0) K d_G_readsWhatIsPrepared_3 rfl ?_
    refine g_getI (pc := 4) K fl_G_27 d_G_readsWhatIsPrepared_4 ?_
    refine g_icmp_gt (pc := 7) (tgt := 58) K d_G_readsWhatIsPrepared_7 (by decide) (fun _ => ?_) (fun _ => ?_)
    · refine g_iconst (pc := 58) (v := 0) K d_G_readsWhatIsPrepared_58 (by decide) ?_
      exact g_iret (pc := 59) K S rfl d_G_readsWhatIsPrepared_59 (by decide) (by decide) rfl
    · refine g_aload_n (pc := 10) (j := 0) K d_G_readsWhatIsPrepared_10 rfl ?_
      refine g_getR (pc := 11) K fl_G_23 d_G_readsWhatIsPrepared_11 (fun _ => ?_) (fun b1 _ => ?_)
      · exact g_none
      · refine g_iload_n (pc := 14) (j := 3) K d_G_readsWhatIsPrepared_14 rfl ?_
        refine g_aald (pc := 15) (kq := 15) (t0 := 5) K (by decide) (fun _ => rfl) d_G_readsWhatIsPrepared_15 (fun _ => ?_) (fun b2 _ => ?_)
        · refine g_astoreN (pc := 16) (L' := [(4, .null), (0, .ref a0), (1, .ref a1), (2, .ref a2), (3, .int x3)]) K d_G_readsWhatIsPrepared_16 (by decide) rfl ?_
          refine g_aloadN (pc := 18) (j := 0) K d_G_readsWhatIsPrepared_18 rfl ?_
          refine g_ifnullN (pc := 20) (tgt := 52) K d_G_readsWhatIsPrepared_20 (by decide) ?_
          refine g_sub (L' := [(0, .ref a0), (1, .ref a1), (2, .ref a2), (3, .int x3)]) [1, 2, 3, 4] rfl ?_
          exact gb_G_readsWhatIsPrepared_52 K S T hI σ (b_G_readsWhatIsPrepared_2 σ n) ih a0 a1 a2 x3
        · refine g_astore (pc := 16) (L' := [(4, .ref b2), (0, .ref a0), (1, .ref a1), (2, .ref a2), (3, .int x3)]) K d_G_readsWhatIsPrepared_16 (by decide) rfl ?_
          refine g_aload (pc := 18) (j := 0) K d_G_readsWhatIsPrepared_18 rfl ?_
          refine g_ifnull (pc := 20) K d_G_readsWhatIsPrepared_20 ?_
          refine g_aload (pc := 23) (j := 0) K d_G_readsWhatIsPrepared_23 rfl ?_
          refine g_aload_n (pc := 25) (j := 2) K d_G_readsWhatIsPrepared_25 rfl ?_
          refine g_acmp_eq (pc := 26) (tgt := 52) K d_G_readsWhatIsPrepared_26 (by decide) (fun _ => ?_) (fun _ => ?_)
          · refine g_sub (L' := [(0, .ref a0), (1, .ref a1), (2, .ref a2), (3, .int x3)]) [1, 2, 3, 4] rfl ?_
            exact gb_G_readsWhatIsPrepared_52 K S T hI σ (b_G_readsWhatIsPrepared_2 σ n) ih a0 a1 a2 x3
          · refine g_aload_n (pc := 29) (j := 3) K d_G_readsWhatIsPrepared_29 rfl ?_
            refine g_iload_n (pc := 30) (j := 4) K d_G_readsWhatIsPrepared_30 rfl ?_
            refine g_callV (pc := 31) (ci := 1) (a := a2) (vs := [.int x3]) (st := []) (mkc := mkI σ) K rfl (by decide) cn_R_isPrepared (fun l hl r hr => k_R_isPrepared l hl _ _ _ r hr) mw_425 mw_426 mw_427 ⟨by decide, by decide, by decide, by decide⟩ d_G_readsWhatIsPrepared_31 rfl rfl (Nat.le_of_ble_eq_true rfl) (fun v3 _ => ?_)
            change G Γ (mkI σ) 0 0 34 [(4, .ref b2), (0, .ref a0), (1, .ref a1), (2, .ref a2), (3, .int x3)] [.int v3] σ _
            refine g_if_eq (pc := 34) (tgt := 52) K d_G_readsWhatIsPrepared_34 (by decide) (fun _ => ?_) (fun _ => ?_)
            · refine g_sub (L' := [(0, .ref a0), (1, .ref a1), (2, .ref a2), (3, .int x3)]) [1, 2, 3, 4] rfl ?_
              exact gb_G_readsWhatIsPrepared_52 K S T hI σ (b_G_readsWhatIsPrepared_2 σ n) ih a0 a1 a2 x3
            · refine g_aload_n (pc := 37) (j := 2) K d_G_readsWhatIsPrepared_37 rfl ?_
              refine g_getI (pc := 38) K fl_G_270 d_G_readsWhatIsPrepared_38 ?_
              refine g_aload (pc := 41) (j := 0) K d_G_readsWhatIsPrepared_41 rfl ?_
              refine g_getI (pc := 43) K fl_G_273 d_G_readsWhatIsPrepared_43 ?_
              refine g_iand (pc := 46) K d_G_readsWhatIsPrepared_46 ?_
              refine g_if_eq (pc := 47) (tgt := 52) K d_G_readsWhatIsPrepared_47 (by decide) (fun _ => ?_) (fun _ => ?_)
              · refine g_sub (L' := [(0, .ref a0), (1, .ref a1), (2, .ref a2), (3, .int x3)]) [1, 2, 3, 4] rfl ?_
                exact gb_G_readsWhatIsPrepared_52 K S T hI σ (b_G_readsWhatIsPrepared_2 σ n) ih a0 a1 a2 x3
              · refine g_iconst (pc := 50) (v := 1) K d_G_readsWhatIsPrepared_50 (by decide) ?_
                exact g_iret (pc := 51) K S rfl d_G_readsWhatIsPrepared_51 (by decide) (by decide) rfl
def f_G_readsWhatIsPrepared (σ : Sg) (a0 : Nat) (a1 : Nat) (a2 : Nat) : Option Int32 := (b_G_readsWhatIsPrepared_2 σ 1000 a0 a1 a2 (1 : Int32))
set_option maxRecDepth 100000 in
set_option maxHeartbeats 4000000 in
theorem k_G_readsWhatIsPrepared (l : Launch) (hl : l.stackTraces = false) (σ : Sg) (a0 : Nat) (a1 : Nat) (a2 : Nat) (r : Int32) (h : f_G_readsWhatIsPrepared σ a0 a1 a2 = some r) : Con l y_G_readsWhatIsPrepared (.code y_G_readsWhatIsPrepared prog_1_method_25_code 5 (some .boolean)) rm_G_readsWhatIsPrepared [.ref a0, .ref a1, .ref a2] σ ((mkI σ) r) := by
  refine Con.of (mk := (mkI σ)) (o := f_G_readsWhatIsPrepared σ a0 a1 a2) (z := r) (L0 := [(0, .ref a0), (1, .ref a1), (2, .ref a2)]) (bytes := prog_1_method_25_code) (maxL := 5) (ret := (some .boolean)) (hh := []) hl (by decide +kernel) (Or.inl ⟨rfl, rfl⟩) (by simp [Value.category]) (Nat.le_of_ble_eq_true rfl) rfl (fun Γ K S T hI => ?_) h rfl
  unfold f_G_readsWhatIsPrepared
  refine g_iconst (pc := 0) (v := 1) K d_G_readsWhatIsPrepared_0 (by decide) ?_
  refine g_istore_n (pc := 1) (L' := [(3, .int (1 : Int32)), (0, .ref a0), (1, .ref a1), (2, .ref a2)]) K d_G_readsWhatIsPrepared_1 (by decide) rfl ?_
  refine g_sub (L' := [(0, .ref a0), (1, .ref a1), (2, .ref a2), (3, .int (1 : Int32))]) [1, 2, 3, 0] rfl ?_
  exact gb_G_readsWhatIsPrepared_2 K S T hI σ 1000 a0 a1 a2 (1 : Int32)
-- TapirGroup$Replica.hasLaterUse(LTapirGroup$Transaction;)Z
def y_R_hasLaterUse : MethodName := ⟨"TapirGroup$Replica", "hasLaterUse", "(LTapirGroup$Transaction;)Z"⟩
abbrev rm_R_hasLaterUse : Room := { frames := 1, cells := 0, slots := 0, locals := 21 }
theorem d_R_hasLaterUse_0 : decode prog_3_method_10_code 0 = .ok (.iconst 0, 1) := by decide +kernel
theorem d_R_hasLaterUse_1 : decode prog_3_method_10_code 1 = .ok (.istore_n 2, 1) := by decide +kernel
theorem d_R_hasLaterUse_2 : decode prog_3_method_10_code 2 = .ok (.iload_n 2, 1) := by decide +kernel
theorem d_R_hasLaterUse_3 : decode prog_3_method_10_code 3 = .ok (.bipush 6, 2) := by decide +kernel
theorem d_R_hasLaterUse_5 : decode prog_3_method_10_code 5 = .ok (.if_icmp .ge 45, 3) := by decide +kernel
theorem d_R_hasLaterUse_8 : decode prog_3_method_10_code 8 = .ok (.aload_n 1, 1) := by decide +kernel
theorem d_R_hasLaterUse_9 : decode prog_3_method_10_code 9 = .ok (.iload_n 2, 1) := by decide +kernel
theorem d_R_hasLaterUse_10 : decode prog_3_method_10_code 10 = .ok (.invokevirtual 61, 3) := by decide +kernel
theorem d_R_hasLaterUse_13 : decode prog_3_method_10_code 13 = .ok (.ifCond .eq 31, 3) := by decide +kernel
theorem d_R_hasLaterUse_16 : decode prog_3_method_10_code 16 = .ok (.aload_n 0, 1) := by decide +kernel
theorem d_R_hasLaterUse_17 : decode prog_3_method_10_code 17 = .ok (.getfield 19, 3) := by decide +kernel
theorem d_R_hasLaterUse_20 : decode prog_3_method_10_code 20 = .ok (.iload_n 2, 1) := by decide +kernel
theorem d_R_hasLaterUse_21 : decode prog_3_method_10_code 21 = .ok (.iaload, 1) := by decide +kernel
theorem d_R_hasLaterUse_22 : decode prog_3_method_10_code 22 = .ok (.aload_n 1, 1) := by decide +kernel
theorem d_R_hasLaterUse_23 : decode prog_3_method_10_code 23 = .ok (.getfield 58, 3) := by decide +kernel
theorem d_R_hasLaterUse_26 : decode prog_3_method_10_code 26 = .ok (.if_icmp .gt 16, 3) := by decide +kernel
theorem d_R_hasLaterUse_29 : decode prog_3_method_10_code 29 = .ok (.aload_n 0, 1) := by decide +kernel
theorem d_R_hasLaterUse_30 : decode prog_3_method_10_code 30 = .ok (.getfield 26, 3) := by decide +kernel
theorem d_R_hasLaterUse_33 : decode prog_3_method_10_code 33 = .ok (.iload_n 2, 1) := by decide +kernel
theorem d_R_hasLaterUse_34 : decode prog_3_method_10_code 34 = .ok (.iaload, 1) := by decide +kernel
theorem d_R_hasLaterUse_35 : decode prog_3_method_10_code 35 = .ok (.aload_n 1, 1) := by decide +kernel
theorem d_R_hasLaterUse_36 : decode prog_3_method_10_code 36 = .ok (.getfield 58, 3) := by decide +kernel
theorem d_R_hasLaterUse_39 : decode prog_3_method_10_code 39 = .ok (.if_icmp .le 5, 3) := by decide +kernel
theorem d_R_hasLaterUse_42 : decode prog_3_method_10_code 42 = .ok (.iconst 1, 1) := by decide +kernel
theorem d_R_hasLaterUse_43 : decode prog_3_method_10_code 43 = .ok (.ireturn, 1) := by decide +kernel
theorem d_R_hasLaterUse_44 : decode prog_3_method_10_code 44 = .ok (.iinc 2 1, 3) := by decide +kernel
theorem d_R_hasLaterUse_47 : decode prog_3_method_10_code 47 = .ok (.goto (-45), 3) := by decide +kernel
theorem d_R_hasLaterUse_50 : decode prog_3_method_10_code 50 = .ok (.iconst 0, 1) := by decide +kernel
theorem d_R_hasLaterUse_51 : decode prog_3_method_10_code 51 = .ok (.ireturn, 1) := by decide +kernel
theorem cn_R_hasLaterUse : CN y_R_hasLaterUse (.code y_R_hasLaterUse prog_3_method_10_code 3 (some .boolean)) prog_3_method_10_code 3 (some .boolean) [] 1 := ⟨Or.inl ⟨rfl, rfl⟩, mw_441, mw_2, ⟨by decide +kernel, by decide +kernel⟩, by decide +kernel⟩
def b_R_hasLaterUse_44 (σ : Sg) (k : Nat → Nat → Int32 → Option Int32) (a0 : Nat) (a1 : Nat) (x2 : Int32) : Option Int32 := (k a0 a1 (x2 + 1))
set_option maxRecDepth 100000 in
set_option maxHeartbeats 4000000 in
theorem gb_R_hasLaterUse_44 {Γ : GX} (K : Cx Γ "TapirGroup$Replica" prog_3_method_10_code 3 rm_R_hasLaterUse) (S : Std Γ (some .boolean)) (T : Tb Γ []) (hI : y_R_hasLaterUse.name = "<init>" → Ini Γ) (σ : Sg) (k : Nat → Nat → Int32 → Option Int32) (hk : ∀ (a0 : Nat) (a1 : Nat) (x2 : Int32), G Γ (mkI σ) 0 0 2 [(0, .ref a0), (1, .ref a1), (2, .int x2)] [] σ (k a0 a1 x2)) (a0 : Nat) (a1 : Nat) (x2 : Int32) : G Γ (mkI σ) 0 0 44 [(0, .ref a0), (1, .ref a1), (2, .int x2)] [] σ (b_R_hasLaterUse_44 σ k a0 a1 x2) := by
  unfold b_R_hasLaterUse_44
  refine g_iinc (pc := 44) (j := 2) (v := (x2 + 1)) (L' := [(2, .int (x2 + 1)), (0, .ref a0), (1, .ref a1)]) K d_R_hasLaterUse_44 rfl (by rfl) (by decide) rfl ?_
  refine g_goto (pc := 47) (tgt := 2) K d_R_hasLaterUse_47 (by decide) ?_
  refine g_sub (L' := [(0, .ref a0), (1, .ref a1), (2, .int (x2 + 1))]) [1, 2, 0] rfl ?_
  exact hk a0 a1 (x2 + 1)
def b_R_hasLaterUse_42 (σ : Sg)   : Option Int32 := (some (1 : Int32))
set_option maxRecDepth 100000 in
set_option maxHeartbeats 4000000 in
theorem gb_R_hasLaterUse_42 {Γ : GX} (K : Cx Γ "TapirGroup$Replica" prog_3_method_10_code 3 rm_R_hasLaterUse) (S : Std Γ (some .boolean)) (T : Tb Γ []) (hI : y_R_hasLaterUse.name = "<init>" → Ini Γ) (σ : Sg)  : G Γ (mkI σ) 0 0 42 [] [] σ (b_R_hasLaterUse_42 σ ) := by
  unfold b_R_hasLaterUse_42
  refine g_iconst (pc := 42) (v := 1) K d_R_hasLaterUse_42 (by decide) ?_
  exact g_iret (pc := 43) K S rfl d_R_hasLaterUse_43 (by decide) (by decide) rfl
def b_R_hasLaterUse_2 (σ : Sg) : Nat → Nat → Nat → Int32 → Option Int32
  | 0 => fun _ _ _ => none
  | n + 1 => fun a0 a1 x2 => (if (6 : Int32) ≤ x2 then (some (0 : Int32)) else (if a1 < σ.1 ∧ kd a1 = 2 then (f_T_hasWritten σ a1 x2).bind (fun v1 => (if v1 = 0 then (b_R_hasLaterUse_44 σ (b_R_hasLaterUse_2 σ n) a0 a1 x2) else (if a0 < σ.1 ∧ kd a0 = 1 then rc (g_r σ a0 2) none (fun b2 => (if (b2 < σ.1 ∧ kd b2 = 10) ∧ inb x2 (ln b2) = true then (if a1 < σ.1 ∧ kd a1 = 2 then (if (g_i σ a1 1) < (g_i σ b2 x2.toNatClampNeg) then (b_R_hasLaterUse_42 σ) else (if a0 < σ.1 ∧ kd a0 = 1 then rc (g_r σ a0 4) none (fun b3 => (if (b3 < σ.1 ∧ kd b3 = 10) ∧ inb x2 (ln b3) = true then (if a1 < σ.1 ∧ kd a1 = 2 then (if (g_i σ b3 x2.toNatClampNeg) ≤ (g_i σ a1 1) then (b_R_hasLaterUse_44 σ (b_R_hasLaterUse_2 σ n) a0 a1 x2) else (b_R_hasLaterUse_42 σ)) else none) else none)) else none)) else none) else none)) else none))) else none))
set_option maxRecDepth 100000 in
set_option maxHeartbeats 4000000 in
theorem gb_R_hasLaterUse_2 {Γ : GX} (K : Cx Γ "TapirGroup$Replica" prog_3_method_10_code 3 rm_R_hasLaterUse) (S : Std Γ (some .boolean)) (T : Tb Γ []) (hI : y_R_hasLaterUse.name = "<init>" → Ini Γ) (σ : Sg) (n : Nat) : ∀ (a0 : Nat) (a1 : Nat) (x2 : Int32), G Γ (mkI σ) 0 0 2 [(0, .ref a0), (1, .ref a1), (2, .int x2)] [] σ (b_R_hasLaterUse_2 σ n a0 a1 x2) := by
  induction n with
  | zero =>
    intro a0 a1 x2
    exact g_none
  | succ n ih =>
    intro a0 a1 x2
    rw [b_R_hasLaterUse_2]
    refine g_iload_n (pc := 2) (j := 2) K d_R_hasLaterUse_2 rfl ?_
    refine g_bipush (pc := 3) (v := 6) K d_R_hasLaterUse_3 (by decide) ?_
    refine g_icmp_ge (pc := 5) (tgt := 50) K d_R_hasLaterUse_5 (by decide) (fun _ => ?_) (fun _ => ?_)
    · refine g_iconst (pc := 50) (v := 0) K d_R_hasLaterUse_50 (by decide) ?_
      exact g_iret (pc := 51) K S rfl d_R_hasLaterUse_51 (by decide) (by decide) rfl
    · refine g_aload_n (pc := 8) (j := 1) K d_R_hasLaterUse_8 rfl ?_
      refine g_iload_n (pc := 9) (j := 2) K d_R_hasLaterUse_9 rfl ?_
      refine g_callV (pc := 10) (ci := 2) (a := a1) (vs := [.int x2]) (st := []) (mkc := mkI σ) K rfl (by decide) cn_T_hasWritten (fun l hl r hr => k_T_hasWritten l hl _ _ _ r hr) mw_442 mw_317 mw_318 ⟨by decide, by decide, by decide, by decide⟩ d_R_hasLaterUse_10 rfl rfl (Nat.le_of_ble_eq_true rfl) (fun v1 _ => ?_)
      change G Γ (mkI σ) 0 0 13 [(0, .ref a0), (1, .ref a1), (2, .int x2)] [.int v1] σ _
      refine g_if_eq (pc := 13) (tgt := 44) K d_R_hasLaterUse_13 (by decide) (fun _ => ?_) (fun _ => ?_)
      · exact gb_R_hasLaterUse_44 K S T hI σ (b_R_hasLaterUse_2 σ n) ih a0 a1 x2
      · refine g_aload_n (pc := 16) (j := 0) K d_R_hasLaterUse_16 rfl ?_
        refine g_getR (pc := 17) K fl_R_19 d_R_hasLaterUse_17 (fun _ => ?_) (fun b2 _ => ?_)
        · exact g_none
        · refine g_iload_n (pc := 20) (j := 2) K d_R_hasLaterUse_20 rfl ?_
          refine g_iald (pc := 21) K d_R_hasLaterUse_21 ?_
          refine g_aload_n (pc := 22) (j := 1) K d_R_hasLaterUse_22 rfl ?_
          refine g_getI (pc := 23) K fl_R_58 d_R_hasLaterUse_23 ?_
          refine g_icmp_gt (pc := 26) (tgt := 42) K d_R_hasLaterUse_26 (by decide) (fun _ => ?_) (fun _ => ?_)
          · refine g_sub (L' := []) [] rfl ?_
            exact gb_R_hasLaterUse_42 K S T hI σ
          · refine g_aload_n (pc := 29) (j := 0) K d_R_hasLaterUse_29 rfl ?_
            refine g_getR (pc := 30) K fl_R_26 d_R_hasLaterUse_30 (fun _ => ?_) (fun b3 _ => ?_)
            · exact g_none
            · refine g_iload_n (pc := 33) (j := 2) K d_R_hasLaterUse_33 rfl ?_
              refine g_iald (pc := 34) K d_R_hasLaterUse_34 ?_
              refine g_aload_n (pc := 35) (j := 1) K d_R_hasLaterUse_35 rfl ?_
              refine g_getI (pc := 36) K fl_R_58 d_R_hasLaterUse_36 ?_
              refine g_icmp_le (pc := 39) (tgt := 44) K d_R_hasLaterUse_39 (by decide) (fun _ => ?_) (fun _ => ?_)
              · exact gb_R_hasLaterUse_44 K S T hI σ (b_R_hasLaterUse_2 σ n) ih a0 a1 x2
              · refine g_sub (L' := []) [] rfl ?_
                exact gb_R_hasLaterUse_42 K S T hI σ
def f_R_hasLaterUse (σ : Sg) (a0 : Nat) (a1 : Nat) : Option Int32 := (b_R_hasLaterUse_2 σ 1000 a0 a1 (0 : Int32))
set_option maxRecDepth 100000 in
set_option maxHeartbeats 4000000 in
theorem k_R_hasLaterUse (l : Launch) (hl : l.stackTraces = false) (σ : Sg) (a0 : Nat) (a1 : Nat) (r : Int32) (h : f_R_hasLaterUse σ a0 a1 = some r) : Con l y_R_hasLaterUse (.code y_R_hasLaterUse prog_3_method_10_code 3 (some .boolean)) rm_R_hasLaterUse [.ref a0, .ref a1] σ ((mkI σ) r) := by
  refine Con.of (mk := (mkI σ)) (o := f_R_hasLaterUse σ a0 a1) (z := r) (L0 := [(0, .ref a0), (1, .ref a1)]) (bytes := prog_3_method_10_code) (maxL := 3) (ret := (some .boolean)) (hh := []) hl (by decide +kernel) (Or.inl ⟨rfl, rfl⟩) (by simp [Value.category]) (Nat.le_of_ble_eq_true rfl) rfl (fun Γ K S T hI => ?_) h rfl
  unfold f_R_hasLaterUse
  refine g_iconst (pc := 0) (v := 0) K d_R_hasLaterUse_0 (by decide) ?_
  refine g_istore_n (pc := 1) (L' := [(2, .int (0 : Int32)), (0, .ref a0), (1, .ref a1)]) K d_R_hasLaterUse_1 (by decide) rfl ?_
  refine g_sub (L' := [(0, .ref a0), (1, .ref a1), (2, .int (0 : Int32))]) [1, 2, 0] rfl ?_
  exact gb_R_hasLaterUse_2 K S T hI σ 1000 a0 a1 (0 : Int32)
