-- TapirGroupModel.isPrepared(II)Z
def y_M_isPrepared : MethodName := ⟨"TapirGroupModel", "isPrepared", "(II)Z"⟩
abbrev rm_M_isPrepared : Room := { frames := 0, cells := 0, slots := 0, locals := 0 }
theorem d_M_isPrepared_0 : decode prog_6_method_17_code 0 = .ok (.bipush 61, 2) := by decide +kernel
theorem d_M_isPrepared_2 : decode prog_6_method_17_code 2 = .ok (.iload_n 2, 1) := by decide +kernel
theorem d_M_isPrepared_3 : decode prog_6_method_17_code 3 = .ok (.imul, 1) := by decide +kernel
theorem d_M_isPrepared_4 : decode prog_6_method_17_code 4 = .ok (.iload_n 1, 1) := by decide +kernel
theorem d_M_isPrepared_5 : decode prog_6_method_17_code 5 = .ok (.iadd, 1) := by decide +kernel
theorem d_M_isPrepared_6 : decode prog_6_method_17_code 6 = .ok (.istore_n 3, 1) := by decide +kernel
theorem d_M_isPrepared_7 : decode prog_6_method_17_code 7 = .ok (.aload_n 0, 1) := by decide +kernel
theorem d_M_isPrepared_8 : decode prog_6_method_17_code 8 = .ok (.getfield 68, 3) := by decide +kernel
theorem d_M_isPrepared_11 : decode prog_6_method_17_code 11 = .ok (.iload_n 3, 1) := by decide +kernel
theorem d_M_isPrepared_12 : decode prog_6_method_17_code 12 = .ok (.iaload, 1) := by decide +kernel
theorem d_M_isPrepared_13 : decode prog_6_method_17_code 13 = .ok (.ifCond .ne 25, 3) := by decide +kernel
theorem d_M_isPrepared_16 : decode prog_6_method_17_code 16 = .ok (.aload_n 0, 1) := by decide +kernel
theorem d_M_isPrepared_17 : decode prog_6_method_17_code 17 = .ok (.getfield 74, 3) := by decide +kernel
theorem d_M_isPrepared_20 : decode prog_6_method_17_code 20 = .ok (.iload_n 3, 1) := by decide +kernel
theorem d_M_isPrepared_21 : decode prog_6_method_17_code 21 = .ok (.baload, 1) := by decide +kernel
theorem d_M_isPrepared_22 : decode prog_6_method_17_code 22 = .ok (.ifCond .ne 16, 3) := by decide +kernel
theorem d_M_isPrepared_25 : decode prog_6_method_17_code 25 = .ok (.aload_n 0, 1) := by decide +kernel
theorem d_M_isPrepared_26 : decode prog_6_method_17_code 26 = .ok (.getfield 77, 3) := by decide +kernel
theorem d_M_isPrepared_29 : decode prog_6_method_17_code 29 = .ok (.iload_n 3, 1) := by decide +kernel
theorem d_M_isPrepared_30 : decode prog_6_method_17_code 30 = .ok (.baload, 1) := by decide +kernel
theorem d_M_isPrepared_31 : decode prog_6_method_17_code 31 = .ok (.ifCond .ne 7, 3) := by decide +kernel
theorem d_M_isPrepared_34 : decode prog_6_method_17_code 34 = .ok (.iconst 1, 1) := by decide +kernel
theorem d_M_isPrepared_35 : decode prog_6_method_17_code 35 = .ok (.goto 4, 3) := by decide +kernel
theorem d_M_isPrepared_38 : decode prog_6_method_17_code 38 = .ok (.iconst 0, 1) := by decide +kernel
theorem d_M_isPrepared_39 : decode prog_6_method_17_code 39 = .ok (.ireturn, 1) := by decide +kernel
theorem cn_M_isPrepared : CN y_M_isPrepared (.code y_M_isPrepared prog_6_method_17_code 4 (some .boolean)) prog_6_method_17_code 4 (some .boolean) [] 2 := ⟨Or.inl ⟨rfl, rfl⟩, mw_724, mw_5, ⟨by decide +kernel, by decide +kernel⟩, by decide +kernel⟩
def b_M_isPrepared_39 (σ : Sg)  (t0 : Int32) : Option Int32 := (if t0 = 0 ∨ t0 = 1 then some t0 else none)
set_option maxRecDepth 100000 in
set_option maxHeartbeats 4000000 in
theorem gb_M_isPrepared_39 {Γ : GX} (K : Cx Γ "TapirGroupModel" prog_6_method_17_code 4 rm_M_isPrepared) (S : Std Γ (some .boolean)) (T : Tb Γ []) (hI : y_M_isPrepared.name = "<init>" → Ini Γ) (σ : Sg) (t0 : Int32) : G Γ (mkI σ) 0 0 39 [] [.int t0] σ (b_M_isPrepared_39 σ t0) := by
  unfold b_M_isPrepared_39
  exact g_zret (pc := 39) K S d_M_isPrepared_39 (by decide) (by decide) rfl
def b_M_isPrepared_38 (σ : Sg)   : Option Int32 := (b_M_isPrepared_39 σ (0 : Int32))
set_option maxRecDepth 100000 in
set_option maxHeartbeats 4000000 in
theorem gb_M_isPrepared_38 {Γ : GX} (K : Cx Γ "TapirGroupModel" prog_6_method_17_code 4 rm_M_isPrepared) (S : Std Γ (some .boolean)) (T : Tb Γ []) (hI : y_M_isPrepared.name = "<init>" → Ini Γ) (σ : Sg)  : G Γ (mkI σ) 0 0 38 [] [] σ (b_M_isPrepared_38 σ ) := by
  unfold b_M_isPrepared_38
  refine g_iconst (pc := 38) (v := 0) K d_M_isPrepared_38 (by decide) ?_
  exact gb_M_isPrepared_39 K S T hI σ (0 : Int32)
def f_M_isPrepared (σ : Sg) (a0 : Nat) (x1 : Int32) (x2 : Int32) : Option Int32 := (wn (((61 : Int32) * x2) + x1) (fun y1 => (if a0 < σ.1 ∧ kd a0 = 4 then rc (g_r σ a0 21) none (fun b2 => (if (b2 < σ.1 ∧ kd b2 = 10) ∧ inb y1 (ln b2) = true then (if (g_i σ b2 y1.toNatClampNeg) = 0 then (if a0 < σ.1 ∧ kd a0 = 4 then rc (g_r σ a0 23) none (fun b3 => (if (b3 < σ.1 ∧ kd b3 = 11) ∧ inb y1 (ln b3) = true then (if (g_i σ b3 y1.toNatClampNeg) = 0 then (if a0 < σ.1 ∧ kd a0 = 4 then rc (g_r σ a0 24) none (fun b4 => (if (b4 < σ.1 ∧ kd b4 = 11) ∧ inb y1 (ln b4) = true then (if (g_i σ b4 y1.toNatClampNeg) = 0 then (b_M_isPrepared_39 σ (1 : Int32)) else (b_M_isPrepared_38 σ)) else none)) else none) else (b_M_isPrepared_38 σ)) else none)) else none) else (b_M_isPrepared_38 σ)) else none)) else none)))
set_option maxRecDepth 100000 in
set_option maxHeartbeats 4000000 in
theorem k_M_isPrepared (l : Launch) (hl : l.stackTraces = false) (σ : Sg) (a0 : Nat) (x1 : Int32) (x2 : Int32) (r : Int32) (h : f_M_isPrepared σ a0 x1 x2 = some r) : Con l y_M_isPrepared (.code y_M_isPrepared prog_6_method_17_code 4 (some .boolean)) rm_M_isPrepared [.ref a0, .int x1, .int x2] σ ((mkI σ) r) := by
  refine Con.of (mk := (mkI σ)) (o := f_M_isPrepared σ a0 x1 x2) (z := r) (L0 := [(0, .ref a0), (1, .int x1), (2, .int x2)]) (bytes := prog_6_method_17_code) (maxL := 4) (ret := (some .boolean)) (hh := []) hl (by decide +kernel) (Or.inl ⟨rfl, rfl⟩) (by simp [Value.category]) (Nat.le_of_ble_eq_true rfl) rfl (fun Γ K S T hI => ?_) h rfl
  unfold f_M_isPrepared
  refine g_bipush (pc := 0) (v := 61) K d_M_isPrepared_0 (by decide) ?_
  refine g_iload_n (pc := 2) (j := 2) K d_M_isPrepared_2 rfl ?_
  refine g_imul (pc := 3) K d_M_isPrepared_3 ?_
  refine g_iload_n (pc := 4) (j := 1) K d_M_isPrepared_4 rfl ?_
  refine g_iadd (pc := 5) K d_M_isPrepared_5 ?_
  refine g_wn (fun y1 _ => ?_)
  refine g_istore_n (pc := 6) (L' := [(3, .int y1), (0, .ref a0), (1, .int x1), (2, .int x2)]) K d_M_isPrepared_6 (by decide) rfl ?_
  refine g_aload_n (pc := 7) (j := 1) K d_M_isPrepared_7 rfl ?_
  refine g_getR (pc := 8) K fl_M_68 d_M_isPrepared_8 (fun _ => ?_) (fun b2 _ => ?_)
  · exact g_none
  · refine g_iload_n (pc := 11) (j := 0) K d_M_isPrepared_11 rfl ?_
    refine g_iald (pc := 12) K d_M_isPrepared_12 ?_
    refine g_if_ne (pc := 13) (tgt := 38) K d_M_isPrepared_13 (by decide) (fun _ => ?_) (fun _ => ?_)
    · refine g_sub (L' := []) [] rfl ?_
      exact gb_M_isPrepared_38 K S T hI σ
    · refine g_aload_n (pc := 16) (j := 1) K d_M_isPrepared_16 rfl ?_
      refine g_getR (pc := 17) K fl_M_74 d_M_isPrepared_17 (fun _ => ?_) (fun b3 _ => ?_)
      · exact g_none
      · refine g_iload_n (pc := 20) (j := 0) K d_M_isPrepared_20 rfl ?_
        refine g_zald (pc := 21) K d_M_isPrepared_21 ?_
        refine g_if_ne (pc := 22) (tgt := 38) K d_M_isPrepared_22 (by decide) (fun _ => ?_) (fun _ => ?_)
        · refine g_sub (L' := []) [] rfl ?_
          exact gb_M_isPrepared_38 K S T hI σ
        · refine g_aload_n (pc := 25) (j := 1) K d_M_isPrepared_25 rfl ?_
          refine g_getR (pc := 26) K fl_M_77 d_M_isPrepared_26 (fun _ => ?_) (fun b4 _ => ?_)
          · exact g_none
          · refine g_iload_n (pc := 29) (j := 0) K d_M_isPrepared_29 rfl ?_
            refine g_zald (pc := 30) K d_M_isPrepared_30 ?_
            refine g_if_ne (pc := 31) (tgt := 38) K d_M_isPrepared_31 (by decide) (fun _ => ?_) (fun _ => ?_)
            · refine g_sub (L' := []) [] rfl ?_
              exact gb_M_isPrepared_38 K S T hI σ
            · refine g_iconst (pc := 34) (v := 1) K d_M_isPrepared_34 (by decide) ?_
              refine g_goto (pc := 35) (tgt := 39) K d_M_isPrepared_35 (by decide) ?_
              refine g_sub (L' := []) [] rfl ?_
              exact gb_M_isPrepared_39 K S T hI σ (1 : Int32)
-- TapirGroupModel.isWrittenByAnother(III)Z
def y_M_isWrittenByAnother : MethodName := ⟨"TapirGroupModel", "isWrittenByAnother", "(III)Z"⟩
abbrev rm_M_isWrittenByAnother : Room := { frames := 1, cells := 0, slots := 0, locals := 25 }
theorem d_M_isWrittenByAnother_0 : decode prog_6_method_18_code 0 = .ok (.iconst 1, 1) := by decide +kernel
theorem d_M_isWrittenByAnother_1 : decode prog_6_method_18_code 1 = .ok (.istore 4, 2) := by decide +kernel
theorem d_M_isWrittenByAnother_3 : decode prog_6_method_18_code 3 = .ok (.iload 4, 2) := by decide +kernel
theorem d_M_isWrittenByAnother_5 : decode prog_6_method_18_code 5 = .ok (.aload_n 0, 1) := by decide +kernel
theorem d_M_isWrittenByAnother_6 : decode prog_6_method_18_code 6 = .ok (.getfield 96, 3) := by decide +kernel
theorem d_M_isWrittenByAnother_9 : decode prog_6_method_18_code 9 = .ok (.if_icmp .gt 38, 3) := by decide +kernel
theorem d_M_isWrittenByAnother_12 : decode prog_6_method_18_code 12 = .ok (.iload 4, 2) := by decide +kernel
theorem d_M_isWrittenByAnother_14 : decode prog_6_method_18_code 14 = .ok (.iload_n 1, 1) := by decide +kernel
theorem d_M_isWrittenByAnother_15 : decode prog_6_method_18_code 15 = .ok (.if_icmp .eq 26, 3) := by decide +kernel
theorem d_M_isWrittenByAnother_18 : decode prog_6_method_18_code 18 = .ok (.aload_n 0, 1) := by decide +kernel
theorem d_M_isWrittenByAnother_19 : decode prog_6_method_18_code 19 = .ok (.iload 4, 2) := by decide +kernel
theorem d_M_isWrittenByAnother_21 : decode prog_6_method_18_code 21 = .ok (.iload_n 3, 1) := by decide +kernel
theorem d_M_isWrittenByAnother_22 : decode prog_6_method_18_code 22 = .ok (.invokevirtual 124, 3) := by decide +kernel
theorem d_M_isWrittenByAnother_25 : decode prog_6_method_18_code 25 = .ok (.ifCond .eq 16, 3) := by decide +kernel
theorem d_M_isWrittenByAnother_28 : decode prog_6_method_18_code 28 = .ok (.aload_n 0, 1) := by decide +kernel
theorem d_M_isWrittenByAnother_29 : decode prog_6_method_18_code 29 = .ok (.iload 4, 2) := by decide +kernel
theorem d_M_isWrittenByAnother_31 : decode prog_6_method_18_code 31 = .ok (.iload_n 2, 1) := by decide +kernel
theorem d_M_isWrittenByAnother_32 : decode prog_6_method_18_code 32 = .ok (.iconst 0, 1) := by decide +kernel
theorem d_M_isWrittenByAnother_33 : decode prog_6_method_18_code 33 = .ok (.invokevirtual 116, 3) := by decide +kernel
theorem d_M_isWrittenByAnother_36 : decode prog_6_method_18_code 36 = .ok (.ifCond .lt 5, 3) := by decide +kernel
theorem d_M_isWrittenByAnother_39 : decode prog_6_method_18_code 39 = .ok (.iconst 1, 1) := by decide +kernel
theorem d_M_isWrittenByAnother_40 : decode prog_6_method_18_code 40 = .ok (.ireturn, 1) := by decide +kernel
theorem d_M_isWrittenByAnother_41 : decode prog_6_method_18_code 41 = .ok (.iinc 4 1, 3) := by decide +kernel
theorem d_M_isWrittenByAnother_44 : decode prog_6_method_18_code 44 = .ok (.goto (-41), 3) := by decide +kernel
theorem d_M_isWrittenByAnother_47 : decode prog_6_method_18_code 47 = .ok (.iconst 0, 1) := by decide +kernel
theorem d_M_isWrittenByAnother_48 : decode prog_6_method_18_code 48 = .ok (.ireturn, 1) := by decide +kernel
theorem cn_M_isWrittenByAnother : CN y_M_isWrittenByAnother (.code y_M_isWrittenByAnother prog_6_method_18_code 5 (some .boolean)) prog_6_method_18_code 5 (some .boolean) [] 3 := ⟨Or.inl ⟨rfl, rfl⟩, mw_720, mw_5, ⟨by decide +kernel, by decide +kernel⟩, by decide +kernel⟩
def b_M_isWrittenByAnother_41 (σ : Sg) (k : Nat → Int32 → Int32 → Int32 → Int32 → Option Int32) (a0 : Nat) (x1 : Int32) (x2 : Int32) (x3 : Int32) (x4 : Int32) : Option Int32 := (k a0 x1 x2 x3 (x4 + 1))
set_option maxRecDepth 100000 in
set_option maxHeartbeats 4000000 in
theorem gb_M_isWrittenByAnother_41 {Γ : GX} (K : Cx Γ "TapirGroupModel" prog_6_method_18_code 5 rm_M_isWrittenByAnother) (S : Std Γ (some .boolean)) (T : Tb Γ []) (hI : y_M_isWrittenByAnother.name = "<init>" → Ini Γ) (σ : Sg) (k : Nat → Int32 → Int32 → Int32 → Int32 → Option Int32) (hk : ∀ (a0 : Nat) (x1 : Int32) (x2 : Int32) (x3 : Int32) (x4 : Int32), G Γ (mkI σ) 0 0 3 [(0, .ref a0), (1, .int x1), (2, .int x2), (3, .int x3), (4, .int x4)] [] σ (k a0 x1 x2 x3 x4)) (a0 : Nat) (x1 : Int32) (x2 : Int32) (x3 : Int32) (x4 : Int32) : G Γ (mkI σ) 0 0 41 [(0, .ref a0), (1, .int x1), (2, .int x2), (3, .int x3), (4, .int x4)] [] σ (b_M_isWrittenByAnother_41 σ k a0 x1 x2 x3 x4) := by
  unfold b_M_isWrittenByAnother_41
  refine g_iinc (pc := 41) (j := 4) (v := (x4 + 1)) (L' := [(4, .int (x4 + 1)), (0, .ref a0), (1, .int x1), (2, .int x2), (3, .int x3)]) K d_M_isWrittenByAnother_41 rfl (by rfl) (by decide) rfl ?_
  refine g_goto (pc := 44) (tgt := 3) K d_M_isWrittenByAnother_44 (by decide) ?_
  refine g_sub (L' := [(0, .ref a0), (1, .int x1), (2, .int x2), (3, .int x3), (4, .int (x4 + 1))]) [1, 2, 3, 4, 0] rfl ?_
  exact hk a0 x1 x2 x3 (x4 + 1)
def b_M_isWrittenByAnother_3 (σ : Sg) : Nat → Nat → Int32 → Int32 → Int32 → Int32 → Option Int32
  | 0 => fun _ _ _ _ _ => none
  | n + 1 => fun a0 x1 x2 x3 x4 => (if a0 < σ.1 ∧ kd a0 = 4 then (if (g_i σ a0 1) < x4 then (some (0 : Int32)) else (if x4 = x1 then (b_M_isWrittenByAnother_41 σ (b_M_isWrittenByAnother_3 σ n) a0 x1 x2 x3 x4) else (if a0 < σ.1 ∧ kd a0 = 4 then (f_M_isPrepared σ a0 x4 x3).bind (fun v1 => (if v1 = 0 then (b_M_isWrittenByAnother_41 σ (b_M_isWrittenByAnother_3 σ n) a0 x1 x2 x3 x4) else (if a0 < σ.1 ∧ kd a0 = 4 then (f_M_placeOf σ a0 x4 x2 (0 : Int32)).bind (fun v2 => (if v2 < 0 then (b_M_isWrittenByAnother_41 σ (b_M_isWrittenByAnother_3 σ n) a0 x1 x2 x3 x4) else (some (1 : Int32)))) else none))) else none))) else none)
set_option maxRecDepth 100000 in
set_option maxHeartbeats 4000000 in
theorem gb_M_isWrittenByAnother_3 {Γ : GX} (K : Cx Γ "TapirGroupModel" prog_6_method_18_code 5 rm_M_isWrittenByAnother) (S : Std Γ (some .boolean)) (T : Tb Γ []) (hI : y_M_isWrittenByAnother.name = "<init>" → Ini Γ) (σ : Sg) (n : Nat) : ∀ (a0 : Nat) (x1 : Int32) (x2 : Int32) (x3 : Int32) (x4 : Int32), G Γ (mkI σ) 0 0 3 [(0, .ref a0), (1, .int x1), (2, .int x2), (3, .int x3), (4, .int x4)] [] σ (b_M_isWrittenByAnother_3 σ n a0 x1 x2 x3 x4) := by
  induction n with
  | zero =>
    intro a0 x1 x2 x3 x4
    exact g_none
  | succ n ih =>
    intro a0 x1 x2 x3 x4
    rw [b_M_isWrittenByAnother_3]
    refine g_iload (pc := 3) (j := 4) K d_M_isWrittenByAnother_3 rfl ?_
    refine g_aload_n (pc := 5) (j := 0) K d_M_isWrittenByAnother_5 rfl ?_
    refine g_getI (pc := 6) K fl_M_96 d_M_isWrittenByAnother_6 ?_
    refine g_icmp_gt (pc := 9) (tgt := 47) K d_M_isWrittenByAnother_9 (by decide) (fun _ => ?_) (fun _ => ?_)
    · refine g_iconst (pc := 47) (v := 0) K d_M_isWrittenByAnother_47 (by decide) ?_
      exact g_iret (pc := 48) K S rfl d_M_isWrittenByAnother_48 (by decide) (by decide) rfl
    · refine g_iload (pc := 12) (j := 4) K d_M_isWrittenByAnother_12 rfl ?_
      refine g_iload_n (pc := 14) (j := 1) K d_M_isWrittenByAnother_14 rfl ?_
      refine g_icmp_eq (pc := 15) (tgt := 41) K d_M_isWrittenByAnother_15 (by decide) (fun _ => ?_) (fun _ => ?_)
      · exact gb_M_isWrittenByAnother_41 K S T hI σ (b_M_isWrittenByAnother_3 σ n) ih a0 x1 x2 x3 x4
      · refine g_aload_n (pc := 18) (j := 0) K d_M_isWrittenByAnother_18 rfl ?_
        refine g_iload (pc := 19) (j := 4) K d_M_isWrittenByAnother_19 rfl ?_
        refine g_iload_n (pc := 21) (j := 3) K d_M_isWrittenByAnother_21 rfl ?_
        refine g_callV (pc := 22) (ci := 4) (a := a0) (vs := [.int x4, .int x3]) (st := []) (mkc := mkI σ) K rfl (by decide) cn_M_isPrepared (fun l hl r hr => k_M_isPrepared l hl _ _ _ _ r hr) mw_721 mw_723 ms_23 ⟨by decide, by decide, by decide, by decide⟩ d_M_isWrittenByAnother_22 rfl rfl (Nat.le_of_ble_eq_true rfl) (fun v1 _ => ?_)
        change G Γ (mkI σ) 0 0 25 [(0, .ref a0), (1, .int x1), (2, .int x2), (3, .int x3), (4, .int x4)] [.int v1] σ _
        refine g_if_eq (pc := 25) (tgt := 41) K d_M_isWrittenByAnother_25 (by decide) (fun _ => ?_) (fun _ => ?_)
        · exact gb_M_isWrittenByAnother_41 K S T hI σ (b_M_isWrittenByAnother_3 σ n) ih a0 x1 x2 x3 x4
        · refine g_aload_n (pc := 28) (j := 0) K d_M_isWrittenByAnother_28 rfl ?_
          refine g_iload (pc := 29) (j := 4) K d_M_isWrittenByAnother_29 rfl ?_
          refine g_iload_n (pc := 31) (j := 2) K d_M_isWrittenByAnother_31 rfl ?_
          refine g_iconst (pc := 32) (v := 0) K d_M_isWrittenByAnother_32 (by decide) ?_
          refine g_callV (pc := 33) (ci := 4) (a := a0) (vs := [.int x4, .int x2, .int (0 : Int32)]) (st := []) (mkc := mkI σ) K rfl (by decide) cn_M_placeOf (fun l hl r hr => k_M_placeOf l hl _ _ _ _ _ r hr) mw_688 mw_690 ms_18 ⟨by decide, by decide, by decide, by decide⟩ d_M_isWrittenByAnother_33 rfl rfl (Nat.le_of_ble_eq_true rfl) (fun v2 _ => ?_)
          change G Γ (mkI σ) 0 0 36 [(0, .ref a0), (1, .int x1), (2, .int x2), (3, .int x3), (4, .int x4)] [.int v2] σ _
          refine g_if_lt (pc := 36) (tgt := 41) K d_M_isWrittenByAnother_36 (by decide) (fun _ => ?_) (fun _ => ?_)
          · exact gb_M_isWrittenByAnother_41 K S T hI σ (b_M_isWrittenByAnother_3 σ n) ih a0 x1 x2 x3 x4
          · refine g_iconst (pc := 39) (v := 1) K d_M_isWrittenByAnother_39 (by decide) ?_
            exact g_iret (pc := 40) K S rfl d_M_isWrittenByAnother_40 (by decide) (by decide) rfl
def f_M_isWrittenByAnother (σ : Sg) (a0 : Nat) (x1 : Int32) (x2 : Int32) (x3 : Int32) : Option Int32 := (b_M_isWrittenByAnother_3 σ 1000 a0 x1 x2 x3 (1 : Int32))
set_option maxRecDepth 100000 in
set_option maxHeartbeats 4000000 in
theorem k_M_isWrittenByAnother (l : Launch) (hl : l.stackTraces = false) (σ : Sg) (a0 : Nat) (x1 : Int32) (x2 : Int32) (x3 : Int32) (r : Int32) (h : f_M_isWrittenByAnother σ a0 x1 x2 x3 = some r) : Con l y_M_isWrittenByAnother (.code y_M_isWrittenByAnother prog_6_method_18_code 5 (some .boolean)) rm_M_isWrittenByAnother [.ref a0, .int x1, .int x2, .int x3] σ ((mkI σ) r) := by
  refine Con.of (mk := (mkI σ)) (o := f_M_isWrittenByAnother σ a0 x1 x2 x3) (z := r) (L0 := [(0, .ref a0), (1, .int x1), (2, .int x2), (3, .int x3)]) (bytes := prog_6_method_18_code) (maxL := 5) (ret := (some .boolean)) (hh := []) hl (by decide +kernel) (Or.inl ⟨rfl, rfl⟩) (by simp [Value.category]) (Nat.le_of_ble_eq_true rfl) rfl (fun Γ K S T hI => ?_) h rfl
  unfold f_M_isWrittenByAnother
  refine g_iconst (pc := 0) (v := 1) K d_M_isWrittenByAnother_0 (by decide) ?_
  refine g_istore (pc := 1) (L' := [(4, .int (1 : Int32)), (0, .ref a0), (1, .int x1), (2, .int x2), (3, .int x3)]) K d_M_isWrittenByAnother_1 (by decide) rfl ?_
  refine g_sub (L' := [(0, .ref a0), (1, .int x1), (2, .int x2), (3, .int x3), (4, .int (1 : Int32))]) [1, 2, 3, 4, 0] rfl ?_
  exact gb_M_isWrittenByAnother_3 K S T hI σ 1000 a0 x1 x2 x3 (1 : Int32)
-- TapirGroupModel.isReadByLater(III)Z
def y_M_isReadByLater : MethodName := ⟨"TapirGroupModel", "isReadByLater", "(III)Z"⟩
abbrev rm_M_isReadByLater : Room := { frames := 1, cells := 0, slots := 0, locals := 25 }
theorem d_M_isReadByLater_0 : decode prog_6_method_19_code 0 = .ok (.iconst 1, 1) := by decide +kernel
theorem d_M_isReadByLater_1 : decode prog_6_method_19_code 1 = .ok (.istore 4, 2) := by decide +kernel
theorem d_M_isReadByLater_3 : decode prog_6_method_19_code 3 = .ok (.iload 4, 2) := by decide +kernel
theorem d_M_isReadByLater_5 : decode prog_6_method_19_code 5 = .ok (.aload_n 0, 1) := by decide +kernel
theorem d_M_isReadByLater_6 : decode prog_6_method_19_code 6 = .ok (.getfield 96, 3) := by decide +kernel
theorem d_M_isReadByLater_9 : decode prog_6_method_19_code 9 = .ok (.if_icmp .gt 54, 3) := by decide +kernel
theorem d_M_isReadByLater_12 : decode prog_6_method_19_code 12 = .ok (.iload 4, 2) := by decide +kernel
theorem d_M_isReadByLater_14 : decode prog_6_method_19_code 14 = .ok (.iload_n 1, 1) := by decide +kernel
theorem d_M_isReadByLater_15 : decode prog_6_method_19_code 15 = .ok (.if_icmp .eq 42, 3) := by decide +kernel
theorem d_M_isReadByLater_18 : decode prog_6_method_19_code 18 = .ok (.aload_n 0, 1) := by decide +kernel
theorem d_M_isReadByLater_19 : decode prog_6_method_19_code 19 = .ok (.iload 4, 2) := by decide +kernel
theorem d_M_isReadByLater_21 : decode prog_6_method_19_code 21 = .ok (.iload_n 3, 1) := by decide +kernel
theorem d_M_isReadByLater_22 : decode prog_6_method_19_code 22 = .ok (.invokevirtual 124, 3) := by decide +kernel
theorem d_M_isReadByLater_25 : decode prog_6_method_19_code 25 = .ok (.ifCond .eq 32, 3) := by decide +kernel
theorem d_M_isReadByLater_28 : decode prog_6_method_19_code 28 = .ok (.aload_n 0, 1) := by decide +kernel
theorem d_M_isReadByLater_29 : decode prog_6_method_19_code 29 = .ok (.getfield 7, 3) := by decide +kernel
theorem d_M_isReadByLater_32 : decode prog_6_method_19_code 32 = .ok (.iload 4, 2) := by decide +kernel
theorem d_M_isReadByLater_34 : decode prog_6_method_19_code 34 = .ok (.iaload, 1) := by decide +kernel
theorem d_M_isReadByLater_35 : decode prog_6_method_19_code 35 = .ok (.aload_n 0, 1) := by decide +kernel
theorem d_M_isReadByLater_36 : decode prog_6_method_19_code 36 = .ok (.getfield 7, 3) := by decide +kernel
theorem d_M_isReadByLater_39 : decode prog_6_method_19_code 39 = .ok (.iload_n 1, 1) := by decide +kernel
theorem d_M_isReadByLater_40 : decode prog_6_method_19_code 40 = .ok (.iaload, 1) := by decide +kernel
theorem d_M_isReadByLater_41 : decode prog_6_method_19_code 41 = .ok (.if_icmp .le 16, 3) := by decide +kernel
theorem d_M_isReadByLater_44 : decode prog_6_method_19_code 44 = .ok (.aload_n 0, 1) := by decide +kernel
theorem d_M_isReadByLater_45 : decode prog_6_method_19_code 45 = .ok (.iload 4, 2) := by decide +kernel
theorem d_M_isReadByLater_47 : decode prog_6_method_19_code 47 = .ok (.iload_n 2, 1) := by decide +kernel
theorem d_M_isReadByLater_48 : decode prog_6_method_19_code 48 = .ok (.iconst 1, 1) := by decide +kernel
theorem d_M_isReadByLater_49 : decode prog_6_method_19_code 49 = .ok (.invokevirtual 116, 3) := by decide +kernel
theorem d_M_isReadByLater_52 : decode prog_6_method_19_code 52 = .ok (.ifCond .lt 5, 3) := by decide +kernel
theorem d_M_isReadByLater_55 : decode prog_6_method_19_code 55 = .ok (.iconst 1, 1) := by decide +kernel
theorem d_M_isReadByLater_56 : decode prog_6_method_19_code 56 = .ok (.ireturn, 1) := by decide +kernel
theorem d_M_isReadByLater_57 : decode prog_6_method_19_code 57 = .ok (.iinc 4 1, 3) := by decide +kernel
theorem d_M_isReadByLater_60 : decode prog_6_method_19_code 60 = .ok (.goto (-57), 3) := by decide +kernel
theorem d_M_isReadByLater_63 : decode prog_6_method_19_code 63 = .ok (.aload_n 0, 1) := by decide +kernel
theorem d_M_isReadByLater_64 : decode prog_6_method_19_code 64 = .ok (.getfield 65, 3) := by decide +kernel
theorem d_M_isReadByLater_67 : decode prog_6_method_19_code 67 = .ok (.bipush 6, 2) := by decide +kernel
theorem d_M_isReadByLater_69 : decode prog_6_method_19_code 69 = .ok (.iload_n 3, 1) := by decide +kernel
theorem d_M_isReadByLater_70 : decode prog_6_method_19_code 70 = .ok (.imul, 1) := by decide +kernel
theorem d_M_isReadByLater_71 : decode prog_6_method_19_code 71 = .ok (.iload_n 2, 1) := by decide +kernel
theorem d_M_isReadByLater_72 : decode prog_6_method_19_code 72 = .ok (.iadd, 1) := by decide +kernel
theorem d_M_isReadByLater_73 : decode prog_6_method_19_code 73 = .ok (.iaload, 1) := by decide +kernel
theorem d_M_isReadByLater_74 : decode prog_6_method_19_code 74 = .ok (.aload_n 0, 1) := by decide +kernel
theorem d_M_isReadByLater_75 : decode prog_6_method_19_code 75 = .ok (.getfield 7, 3) := by decide +kernel
theorem d_M_isReadByLater_78 : decode prog_6_method_19_code 78 = .ok (.iload_n 1, 1) := by decide +kernel
theorem d_M_isReadByLater_79 : decode prog_6_method_19_code 79 = .ok (.iaload, 1) := by decide +kernel
theorem d_M_isReadByLater_80 : decode prog_6_method_19_code 80 = .ok (.if_icmp .le 7, 3) := by decide +kernel
theorem d_M_isReadByLater_83 : decode prog_6_method_19_code 83 = .ok (.iconst 1, 1) := by decide +kernel
theorem d_M_isReadByLater_84 : decode prog_6_method_19_code 84 = .ok (.goto 4, 3) := by decide +kernel
theorem d_M_isReadByLater_87 : decode prog_6_method_19_code 87 = .ok (.iconst 0, 1) := by decide +kernel
theorem d_M_isReadByLater_88 : decode prog_6_method_19_code 88 = .ok (.ireturn, 1) := by decide +kernel
theorem cn_M_isReadByLater : CN y_M_isReadByLater (.code y_M_isReadByLater prog_6_method_19_code 5 (some .boolean)) prog_6_method_19_code 5 (some .boolean) [] 3 := ⟨Or.inl ⟨rfl, rfl⟩, mw_728, mw_5, ⟨by decide +kernel, by decide +kernel⟩, by decide +kernel⟩
def b_M_isReadByLater_88 (σ : Sg)  (t0 : Int32) : Option Int32 := (if t0 = 0 ∨ t0 = 1 then some t0 else none)
set_option maxRecDepth 100000 in
set_option maxHeartbeats 4000000 in
theorem gb_M_isReadByLater_88 {Γ : GX} (K : Cx Γ "TapirGroupModel" prog_6_method_19_code 5 rm_M_isReadByLater) (S : Std Γ (some .boolean)) (T : Tb Γ []) (hI : y_M_isReadByLater.name = "<init>" → Ini Γ) (σ : Sg) (t0 : Int32) : G Γ (mkI σ) 0 0 88 [] [.int t0] σ (b_M_isReadByLater_88 σ t0) := by
  unfold b_M_isReadByLater_88
  exact g_zret (pc := 88) K S d_M_isReadByLater_88 (by decide) (by decide) rfl
def b_M_isReadByLater_57 (σ : Sg) (k : Nat → Int32 → Int32 → Int32 → Int32 → Option Int32) (a0 : Nat) (x1 : Int32) (x2 : Int32) (x3 : Int32) (x4 : Int32) : Option Int32 := (k a0 x1 x2 x3 (x4 + 1))
set_option maxRecDepth 100000 in
set_option maxHeartbeats 4000000 in
theorem gb_M_isReadByLater_57 {Γ : GX} (K : Cx Γ "TapirGroupModel" prog_6_method_19_code 5 rm_M_isReadByLater) (S : Std Γ (some .boolean)) (T : Tb Γ []) (hI : y_M_isReadByLater.name = "<init>" → Ini Γ) (σ : Sg) (k : Nat → Int32 → Int32 → Int32 → Int32 → Option Int32) (hk : ∀ (a0 : Nat) (x1 : Int32) (x2 : Int32) (x3 : Int32) (x4 : Int32), G Γ (mkI σ) 0 0 3 [(0, .ref a0), (1, .int x1), (2, .int x2), (3, .int x3), (4, .int x4)] [] σ (k a0 x1 x2 x3 x4)) (a0 : Nat) (x1 : Int32) (x2 : Int32) (x3 : Int32) (x4 : Int32) : G Γ (mkI σ) 0 0 57 [(0, .ref a0), (1, .int x1), (2, .int x2), (3, .int x3), (4, .int x4)] [] σ (b_M_isReadByLater_57 σ k a0 x1 x2 x3 x4) := by
  unfold b_M_isReadByLater_57
  refine g_iinc (pc := 57) (j := 4) (v := (x4 + 1)) (L' := [(4, .int (x4 + 1)), (0, .ref a0), (1, .int x1), (2, .int x2), (3, .int x3)]) K d_M_isReadByLater_57 rfl (by rfl) (by decide) rfl ?_
  refine g_goto (pc := 60) (tgt := 3) K d_M_isReadByLater_60 (by decide) ?_
  refine g_sub (L' := [(0, .ref a0), (1, .int x1), (2, .int x2), (3, .int x3), (4, .int (x4 + 1))]) [1, 2, 3, 4, 0] rfl ?_
  exact hk a0 x1 x2 x3 (x4 + 1)
def b_M_isReadByLater_3 (σ : Sg) : Nat → Nat → Int32 → Int32 → Int32 → Int32 → Option Int32
  | 0 => fun _ _ _ _ _ => none
  | n + 1 => fun a0 x1 x2 x3 x4 => (if a0 < σ.1 ∧ kd a0 = 4 then (if (g_i σ a0 1) < x4 then (if a0 < σ.1 ∧ kd a0 = 4 then rc (g_r σ a0 20) none (fun b1 => (if (b1 < σ.1 ∧ kd b1 = 10) ∧ inb (((6 : Int32) * x3) + x2) (ln b1) = true then (if a0 < σ.1 ∧ kd a0 = 4 then rc (g_r σ a0 2) none (fun b2 => (if (b2 < σ.1 ∧ kd b2 = 10) ∧ inb x1 (ln b2) = true then (if (g_i σ b1 (((6 : Int32) * x3) + x2).toNatClampNeg) ≤ (g_i σ b2 x1.toNatClampNeg) then (b_M_isReadByLater_88 σ (0 : Int32)) else (b_M_isReadByLater_88 σ (1 : Int32))) else none)) else none) else none)) else none) else (if x4 = x1 then (b_M_isReadByLater_57 σ (b_M_isReadByLater_3 σ n) a0 x1 x2 x3 x4) else (if a0 < σ.1 ∧ kd a0 = 4 then (f_M_isPrepared σ a0 x4 x3).bind (fun v3 => (if v3 = 0 then (b_M_isReadByLater_57 σ (b_M_isReadByLater_3 σ n) a0 x1 x2 x3 x4) else (if a0 < σ.1 ∧ kd a0 = 4 then rc (g_r σ a0 2) none (fun b4 => (if (b4 < σ.1 ∧ kd b4 = 10) ∧ inb x4 (ln b4) = true then (if a0 < σ.1 ∧ kd a0 = 4 then rc (g_r σ a0 2) none (fun b5 => (if (b5 < σ.1 ∧ kd b5 = 10) ∧ inb x1 (ln b5) = true then (if (g_i σ b4 x4.toNatClampNeg) ≤ (g_i σ b5 x1.toNatClampNeg) then (b_M_isReadByLater_57 σ (b_M_isReadByLater_3 σ n) a0 x1 x2 x3 x4) else (if a0 < σ.1 ∧ kd a0 = 4 then (f_M_placeOf σ a0 x4 x2 (1 : Int32)).bind (fun v6 => (if v6 < 0 then (b_M_isReadByLater_57 σ (b_M_isReadByLater_3 σ n) a0 x1 x2 x3 x4) else (some (1 : Int32)))) else none)) else none)) else none) else none)) else none))) else none))) else none)
set_option maxRecDepth 100000 in
set_option maxHeartbeats 4000000 in
theorem gb_M_isReadByLater_3 {Γ : GX} (K : Cx Γ "TapirGroupModel" prog_6_method_19_code 5 rm_M_isReadByLater) (S : Std Γ (some .boolean)) (T : Tb Γ []) (hI : y_M_isReadByLater.name = "<init>" → Ini Γ) (σ : Sg) (n : Nat) : ∀ (a0 : Nat) (x1 : Int32) (x2 : Int32) (x3 : Int32) (x4 : Int32), G Γ (mkI σ) 0 0 3 [(0, .ref a0), (1, .int x1), (2, .int x2), (3, .int x3), (4, .int x4)] [] σ (b_M_isReadByLater_3 σ n a0 x1 x2 x3 x4) := by
  induction n with
  | zero =>
    intro a0 x1 x2 x3 x4
    exact g_none
  | succ n ih =>
    intro a0 x1 x2 x3 x4
    rw [b_M_isReadByLater_3]
    refine g_iload (pc := 3) (j := 4) K d_M_isReadByLater_3 rfl ?_
    refine g_aload_n (pc := 5) (j := 0) K d_M_isReadByLater_5 rfl ?_
    refine g_getI (pc := 6) K fl_M_96 d_M_isReadByLater_6 ?_
    refine g_icmp_gt (pc := 9) (tgt := 63) K d_M_isReadByLater_9 (by decide) (fun _ => ?_) (fun _ => ?_)
    · refine g_aload_n (pc := 63) (j := 0) K d_M_isReadByLater_63 rfl ?_
      refine g_getR (pc := 64) K fl_M_65 d_M_isReadByLater_64 (fun _ => ?_) (fun b1 _ => ?_)
      · exact g_none
      · refine g_bipush (pc := 67) (v := 6) K d_M_isReadByLater_67 (by decide) ?_
        refine g_iload_n (pc := 69) (j := 3) K d_M_isReadByLater_69 rfl ?_
        refine g_imul (pc := 70) K d_M_isReadByLater_70 ?_
        refine g_iload_n (pc := 71) (j := 2) K d_M_isReadByLater_71 rfl ?_
        refine g_iadd (pc := 72) K d_M_isReadByLater_72 ?_
        refine g_iald (pc := 73) K d_M_isReadByLater_73 ?_
        refine g_aload_n (pc := 74) (j := 0) K d_M_isReadByLater_74 rfl ?_
        refine g_getR (pc := 75) K fl_M_7 d_M_isReadByLater_75 (fun _ => ?_) (fun b2 _ => ?_)
        · exact g_none
        · refine g_iload_n (pc := 78) (j := 1) K d_M_isReadByLater_78 rfl ?_
          refine g_iald (pc := 79) K d_M_isReadByLater_79 ?_
          refine g_icmp_le (pc := 80) (tgt := 87) K d_M_isReadByLater_80 (by decide) (fun _ => ?_) (fun _ => ?_)
          · refine g_iconst (pc := 87) (v := 0) K d_M_isReadByLater_87 (by decide) ?_
            refine g_sub (L' := []) [] rfl ?_
            exact gb_M_isReadByLater_88 K S T hI σ (0 : Int32)
          · refine g_iconst (pc := 83) (v := 1) K d_M_isReadByLater_83 (by decide) ?_
            refine g_goto (pc := 84) (tgt := 88) K d_M_isReadByLater_84 (by decide) ?_
            refine g_sub (L' := []) [] rfl ?_
            exact gb_M_isReadByLater_88 K S T hI σ (1 : Int32)
    · refine g_iload (pc := 12) (j := 4) K d_M_isReadByLater_12 rfl ?_
      refine g_iload_n (pc := 14) (j := 1) K d_M_isReadByLater_14 rfl ?_
      refine g_icmp_eq (pc := 15) (tgt := 57) K d_M_isReadByLater_15 (by decide) (fun _ => ?_) (fun _ => ?_)
      · exact gb_M_isReadByLater_57 K S T hI σ (b_M_isReadByLater_3 σ n) ih a0 x1 x2 x3 x4
      · refine g_aload_n (pc := 18) (j := 0) K d_M_isReadByLater_18 rfl ?_
        refine g_iload (pc := 19) (j := 4) K d_M_isReadByLater_19 rfl ?_
        refine g_iload_n (pc := 21) (j := 3) K d_M_isReadByLater_21 rfl ?_
        refine g_callV (pc := 22) (ci := 4) (a := a0) (vs := [.int x4, .int x3]) (st := []) (mkc := mkI σ) K rfl (by decide) cn_M_isPrepared (fun l hl r hr => k_M_isPrepared l hl _ _ _ _ r hr) mw_721 mw_723 ms_23 ⟨by decide, by decide, by decide, by decide⟩ d_M_isReadByLater_22 rfl rfl (Nat.le_of_ble_eq_true rfl) (fun v3 _ => ?_)
        change G Γ (mkI σ) 0 0 25 [(0, .ref a0), (1, .int x1), (2, .int x2), (3, .int x3), (4, .int x4)] [.int v3] σ _
        refine g_if_eq (pc := 25) (tgt := 57) K d_M_isReadByLater_25 (by decide) (fun _ => ?_) (fun _ => ?_)
        · exact gb_M_isReadByLater_57 K S T hI σ (b_M_isReadByLater_3 σ n) ih a0 x1 x2 x3 x4
        · refine g_aload_n (pc := 28) (j := 0) K d_M_isReadByLater_28 rfl ?_
          refine g_getR (pc := 29) K fl_M_7 d_M_isReadByLater_29 (fun _ => ?_) (fun b4 _ => ?_)
          · exact g_none
          · refine g_iload (pc := 32) (j := 4) K d_M_isReadByLater_32 rfl ?_
            refine g_iald (pc := 34) K d_M_isReadByLater_34 ?_
            refine g_aload_n (pc := 35) (j := 0) K d_M_isReadByLater_35 rfl ?_
            refine g_getR (pc := 36) K fl_M_7 d_M_isReadByLater_36 (fun _ => ?_) (fun b5 _ => ?_)
            · exact g_none
            · refine g_iload_n (pc := 39) (j := 1) K d_M_isReadByLater_39 rfl ?_
              refine g_iald (pc := 40) K d_M_isReadByLater_40 ?_
              refine g_icmp_le (pc := 41) (tgt := 57) K d_M_isReadByLater_41 (by decide) (fun _ => ?_) (fun _ => ?_)
              · exact gb_M_isReadByLater_57 K S T hI σ (b_M_isReadByLater_3 σ n) ih a0 x1 x2 x3 x4
              · refine g_aload_n (pc := 44) (j := 0) K d_M_isReadByLater_44 rfl ?_
                refine g_iload (pc := 45) (j := 4) K d_M_isReadByLater_45 rfl ?_
                refine g_iload_n (pc := 47) (j := 2) K d_M_isReadByLater_47 rfl ?_
                refine g_iconst (pc := 48) (v := 1) K d_M_isReadByLater_48 (by decide) ?_
                refine g_callV (pc := 49) (ci := 4) (a := a0) (vs := [.int x4, .int x2, .int (1 : Int32)]) (st := []) (mkc := mkI σ) K rfl (by decide) cn_M_placeOf (fun l hl r hr => k_M_placeOf l hl _ _ _ _ _ r hr) mw_688 mw_690 ms_18 ⟨by decide, by decide, by decide, by decide⟩ d_M_isReadByLater_49 rfl rfl (Nat.le_of_ble_eq_true rfl) (fun v6 _ => ?_)
                change G Γ (mkI σ) 0 0 52 [(0, .ref a0), (1, .int x1), (2, .int x2), (3, .int x3), (4, .int x4)] [.int v6] σ _
                refine g_if_lt (pc := 52) (tgt := 57) K d_M_isReadByLater_52 (by decide) (fun _ => ?_) (fun _ => ?_)
                · exact gb_M_isReadByLater_57 K S T hI σ (b_M_isReadByLater_3 σ n) ih a0 x1 x2 x3 x4
                · refine g_iconst (pc := 55) (v := 1) K d_M_isReadByLater_55 (by decide) ?_
                  exact g_iret (pc := 56) K S rfl d_M_isReadByLater_56 (by decide) (by decide) rfl
def f_M_isReadByLater (σ : Sg) (a0 : Nat) (x1 : Int32) (x2 : Int32) (x3 : Int32) : Option Int32 := (b_M_isReadByLater_3 σ 1000 a0 x1 x2 x3 (1 : Int32))
set_option maxRecDepth 100000 in
set_option maxHeartbeats 4000000 in
theorem k_M_isReadByLater (l : Launch) (hl : l.stackTraces = false) (σ : Sg) (a0 : Nat) (x1 : Int32) (x2 : Int32) (x3 : Int32) (r : Int32) (h : f_M_isReadByLater σ a0 x1 x2 x3 = some r) : Con l y_M_isReadByLater (.code y_M_isReadByLater prog_6_method_19_code 5 (some .boolean)) rm_M_isReadByLater [.ref a0, .int x1, .int x2, .int x3] σ ((mkI σ) r) := by
  refine Con.of (mk := (mkI σ)) (o := f_M_isReadByLater σ a0 x1 x2 x3) (z := r) (L0 := [(0, .ref a0), (1, .int x1), (2, .int x2), (3, .int x3)]) (bytes := prog_6_method_19_code) (maxL := 5) (ret := (some .boolean)) (hh := []) hl (by decide +kernel) (Or.inl ⟨rfl, rfl⟩) (by simp [Value.category]) (Nat.le_of_ble_eq_true rfl) rfl (fun Γ K S T hI => ?_) h rfl
  unfold f_M_isReadByLater
  refine g_iconst (pc := 0) (v := 1) K d_M_isReadByLater_0 (by decide) ?_
  refine g_istore (pc := 1) (L' := [(4, .int (1 : Int32)), (0, .ref a0), (1, .int x1), (2, .int x2), (3, .int x3)]) K d_M_isReadByLater_1 (by decide) rfl ?_
  refine g_sub (L' := [(0, .ref a0), (1, .int x1), (2, .int x2), (3, .int x3), (4, .int (1 : Int32))]) [1, 2, 3, 4, 0] rfl ?_
  exact gb_M_isReadByLater_3 K S T hI σ 1000 a0 x1 x2 x3 (1 : Int32)
