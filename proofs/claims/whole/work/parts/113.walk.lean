-- TapirGroupModel.isClient(I)Z
def y_M_isClient : MethodName := ⟨"TapirGroupModel", "isClient", "(I)Z"⟩
abbrev rm_M_isClient : Room := { frames := 1, cells := 0, slots := 0, locals := 22 }
theorem d_M_isClient_0 : decode prog_6_method_5_code 0 = .ok (.iload_n 0, 1) := by decide +kernel
theorem d_M_isClient_1 : decode prog_6_method_5_code 1 = .ok (.iconst 0, 1) := by decide +kernel
theorem d_M_isClient_2 : decode prog_6_method_5_code 2 = .ok (.iconst 3, 1) := by decide +kernel
theorem d_M_isClient_3 : decode prog_6_method_5_code 3 = .ok (.invokestatic 84, 3) := by decide +kernel
theorem d_M_isClient_6 : decode prog_6_method_5_code 6 = .ok (.ireturn, 1) := by decide +kernel
theorem cn_M_isClient : CN y_M_isClient (.code y_M_isClient prog_6_method_5_code 1 (some .boolean)) prog_6_method_5_code 1 (some .boolean) [] 1 := ⟨Or.inl ⟨rfl, rfl⟩, mw_662, mw_5, ⟨by decide +kernel, by decide +kernel⟩, by decide +kernel⟩
def f_M_isClient (σ : Sg) (x0 : Int32) : Option Int32 := ((f_M_in σ x0 (0 : Int32) (3 : Int32)).bind (fun v1 => (if v1 = 0 ∨ v1 = 1 then some v1 else none)))
set_option maxRecDepth 100000 in
set_option maxHeartbeats 4000000 in
theorem k_M_isClient (l : Launch) (hl : l.stackTraces = false) (σ : Sg) (x0 : Int32) (r : Int32) (h : f_M_isClient σ x0 = some r) : Con l y_M_isClient (.code y_M_isClient prog_6_method_5_code 1 (some .boolean)) rm_M_isClient [.int x0] σ ((mkI σ) r) := by
  refine Con.of (mk := (mkI σ)) (o := f_M_isClient σ x0) (z := r) (L0 := [(0, .int x0)]) (bytes := prog_6_method_5_code) (maxL := 1) (ret := (some .boolean)) (hh := []) hl (by decide +kernel) (Or.inl ⟨rfl, rfl⟩) (by simp [Value.category]) (Nat.le_of_ble_eq_true rfl) rfl (fun Γ K S T hI => ?_) h rfl
  unfold f_M_isClient
  refine g_iload_n (pc := 0) (j := 0) K d_M_isClient_0 rfl ?_
  refine g_iconst (pc := 1) (v := 0) K d_M_isClient_1 (by decide) ?_
  refine g_iconst (pc := 2) (v := 3) K d_M_isClient_2 (by decide) ?_
  refine g_callS (pc := 3) (vs := [.int x0, .int (0 : Int32), .int (3 : Int32)]) (st := []) (mkc := mkI σ) K cn_M_in (fun l hl r hr => k_M_in l hl _ _ _ _ r hr) mw_663 mw_664 ⟨by decide, by decide, by decide, by decide⟩ d_M_isClient_3 rfl rfl (Nat.le_of_ble_eq_true rfl) (fun v1 _ => ?_)
  change G Γ (mkI σ) 0 0 6 [(0, .int x0)] [.int v1] σ _
  exact g_zret (pc := 6) K S d_M_isClient_6 (by decide) (by decide) rfl
-- TapirGroupModel.says(I)Z
def y_M_says : MethodName := ⟨"TapirGroupModel", "says", "(I)Z"⟩
abbrev rm_M_says : Room := { frames := 0, cells := 0, slots := 0, locals := 0 }
theorem d_M_says_0 : decode prog_6_method_3_code 0 = .ok (.aload_n 0, 1) := by decide +kernel
theorem d_M_says_1 : decode prog_6_method_3_code 1 = .ok (.iload_n 1, 1) := by decide +kernel
theorem d_M_says_2 : decode prog_6_method_3_code 2 = .ok (.putfield 80, 3) := by decide +kernel
theorem d_M_says_5 : decode prog_6_method_3_code 5 = .ok (.iload_n 1, 1) := by decide +kernel
theorem d_M_says_6 : decode prog_6_method_3_code 6 = .ok (.ifCond .ne 7, 3) := by decide +kernel
theorem d_M_says_9 : decode prog_6_method_3_code 9 = .ok (.iconst 1, 1) := by decide +kernel
theorem d_M_says_10 : decode prog_6_method_3_code 10 = .ok (.goto 4, 3) := by decide +kernel
theorem d_M_says_13 : decode prog_6_method_3_code 13 = .ok (.iconst 0, 1) := by decide +kernel
theorem d_M_says_14 : decode prog_6_method_3_code 14 = .ok (.ireturn, 1) := by decide +kernel
theorem cn_M_says : CN y_M_says (.code y_M_says prog_6_method_3_code 2 (some .boolean)) prog_6_method_3_code 2 (some .boolean) [] 1 := ⟨Or.inl ⟨rfl, rfl⟩, mw_669, mw_5, ⟨by decide +kernel, by decide +kernel⟩, by decide +kernel⟩
def b_M_says_14  (σ : Sg) (t0 : Int32) : Option (Int32 × Sg) := (if t0 = 0 ∨ t0 = 1 then some (t0, σ) else none)
set_option maxRecDepth 100000 in
set_option maxHeartbeats 4000000 in
theorem gb_M_says_14 {Γ : GX} (K : Cx Γ "TapirGroupModel" prog_6_method_3_code 2 rm_M_says) (S : Std Γ (some .boolean)) (T : Tb Γ []) (hI : y_M_says.name = "<init>" → Ini Γ) (σ : Sg) (t0 : Int32) : G Γ mkW 0 0 14 [] [.int t0] σ (b_M_says_14 σ t0) := by
  unfold b_M_says_14
  exact g_zret (pc := 14) K S d_M_says_14 (by decide) (by decide) rfl
def f_M_says (σ : Sg) (a0 : Nat) (x1 : Int32) : Option (Int32 × Sg) := (if a0 < σ.1 ∧ kd a0 = 4 then (wi (s_i σ a0 0 x1) (fun s1 => (if x1 = 0 then (b_M_says_14 s1 (1 : Int32)) else (b_M_says_14 s1 (0 : Int32))))) else none)
set_option maxRecDepth 100000 in
set_option maxHeartbeats 4000000 in
theorem k_M_says (l : Launch) (hl : l.stackTraces = false) (σ : Sg) (a0 : Nat) (x1 : Int32) (r : (Int32 × Sg)) (h : f_M_says σ a0 x1 = some r) : Con l y_M_says (.code y_M_says prog_6_method_3_code 2 (some .boolean)) rm_M_says [.ref a0, .int x1] σ (mkW r) := by
  refine Con.of (mk := mkW) (o := f_M_says σ a0 x1) (z := r) (L0 := [(0, .ref a0), (1, .int x1)]) (bytes := prog_6_method_3_code) (maxL := 2) (ret := (some .boolean)) (hh := []) hl (by decide +kernel) (Or.inl ⟨rfl, rfl⟩) (by simp [Value.category]) (Nat.le_of_ble_eq_true rfl) rfl (fun Γ K S T hI => ?_) h rfl
  unfold f_M_says
  refine g_aload_n (pc := 0) (j := 0) K d_M_says_0 rfl ?_
  refine g_iload_n (pc := 1) (j := 1) K d_M_says_1 rfl ?_
  refine g_putI (pc := 2) K fl_M_80 d_M_says_2 ?_
  refine g_wi (fun s1 _ => ?_)
  refine g_iload_n (pc := 5) (j := 1) K d_M_says_5 rfl ?_
  refine g_if_ne (pc := 6) (tgt := 13) K d_M_says_6 (by decide) (fun _ => ?_) (fun _ => ?_)
  · refine g_iconst (pc := 13) (v := 0) K d_M_says_13 (by decide) ?_
    refine g_sub (L' := []) [] rfl ?_
    exact gb_M_says_14 K S T hI s1 (0 : Int32)
  · refine g_iconst (pc := 9) (v := 1) K d_M_says_9 (by decide) ?_
    refine g_goto (pc := 10) (tgt := 14) K d_M_says_10 (by decide) ?_
    refine g_sub (L' := []) [] rfl ?_
    exact gb_M_says_14 K S T hI s1 (1 : Int32)
-- TapirGroupModel.forget(I)V
def y_M_forget : MethodName := ⟨"TapirGroupModel", "forget", "(I)V"⟩
abbrev rm_M_forget : Room := { frames := 0, cells := 0, slots := 0, locals := 0 }
theorem d_M_forget_0 : decode prog_6_method_11_code 0 = .ok (.iconst 0, 1) := by decide +kernel
theorem d_M_forget_1 : decode prog_6_method_11_code 1 = .ok (.istore_n 2, 1) := by decide +kernel
theorem d_M_forget_2 : decode prog_6_method_11_code 2 = .ok (.iload_n 2, 1) := by decide +kernel
theorem d_M_forget_3 : decode prog_6_method_11_code 3 = .ok (.iconst 3, 1) := by decide +kernel
theorem d_M_forget_4 : decode prog_6_method_11_code 4 = .ok (.if_icmp .ge 31, 3) := by decide +kernel
theorem d_M_forget_7 : decode prog_6_method_11_code 7 = .ok (.aload_n 0, 1) := by decide +kernel
theorem d_M_forget_8 : decode prog_6_method_11_code 8 = .ok (.getfield 46, 3) := by decide +kernel
theorem d_M_forget_11 : decode prog_6_method_11_code 11 = .ok (.iconst 3, 1) := by decide +kernel
theorem d_M_forget_12 : decode prog_6_method_11_code 12 = .ok (.iload_n 1, 1) := by decide +kernel
theorem d_M_forget_13 : decode prog_6_method_11_code 13 = .ok (.imul, 1) := by decide +kernel
theorem d_M_forget_14 : decode prog_6_method_11_code 14 = .ok (.iload_n 2, 1) := by decide +kernel
theorem d_M_forget_15 : decode prog_6_method_11_code 15 = .ok (.iadd, 1) := by decide +kernel
theorem d_M_forget_16 : decode prog_6_method_11_code 16 = .ok (.iconst (-1), 1) := by decide +kernel
theorem d_M_forget_17 : decode prog_6_method_11_code 17 = .ok (.iastore, 1) := by decide +kernel
theorem d_M_forget_18 : decode prog_6_method_11_code 18 = .ok (.aload_n 0, 1) := by decide +kernel
theorem d_M_forget_19 : decode prog_6_method_11_code 19 = .ok (.getfield 49, 3) := by decide +kernel
theorem d_M_forget_22 : decode prog_6_method_11_code 22 = .ok (.iconst 3, 1) := by decide +kernel
theorem d_M_forget_23 : decode prog_6_method_11_code 23 = .ok (.iload_n 1, 1) := by decide +kernel
theorem d_M_forget_24 : decode prog_6_method_11_code 24 = .ok (.imul, 1) := by decide +kernel
theorem d_M_forget_25 : decode prog_6_method_11_code 25 = .ok (.iload_n 2, 1) := by decide +kernel
theorem d_M_forget_26 : decode prog_6_method_11_code 26 = .ok (.iadd, 1) := by decide +kernel
theorem d_M_forget_27 : decode prog_6_method_11_code 27 = .ok (.iconst 0, 1) := by decide +kernel
theorem d_M_forget_28 : decode prog_6_method_11_code 28 = .ok (.bastore, 1) := by decide +kernel
theorem d_M_forget_29 : decode prog_6_method_11_code 29 = .ok (.iinc 2 1, 3) := by decide +kernel
theorem d_M_forget_32 : decode prog_6_method_11_code 32 = .ok (.goto (-30), 3) := by decide +kernel
theorem d_M_forget_35 : decode prog_6_method_11_code 35 = .ok (.return_, 1) := by decide +kernel
theorem cn_M_forget : CN y_M_forget (.code y_M_forget prog_6_method_11_code 3 none) prog_6_method_11_code 3 none [] 1 := ⟨Or.inl ⟨rfl, rfl⟩, mw_673, mw_5, ⟨by decide +kernel, by decide +kernel⟩, by decide +kernel⟩
def b_M_forget_2 : Nat → Sg → Nat → Int32 → Int32 → Option Sg
  | 0 => fun _ _ _ _ => none
  | n + 1 => fun σ a0 x1 x2 => (if (3 : Int32) ≤ x2 then (some σ) else (if a0 < σ.1 ∧ kd a0 = 4 then rc (g_r σ a0 14) none (fun b1 => (if (b1 < σ.1 ∧ kd b1 = 10) ∧ inb (((3 : Int32) * x1) + x2) (ln b1) = true then (wi (s_i σ b1 (((3 : Int32) * x1) + x2).toNatClampNeg (-1 : Int32)) (fun s2 => (if a0 < s2.1 ∧ kd a0 = 4 then rc (g_r s2 a0 15) none (fun b3 => (if ((b3 < s2.1 ∧ kd b3 = 11) ∧ inb (((3 : Int32) * x1) + x2) (ln b3) = true) ∧ ((0 : Int32) = 0 ∨ (0 : Int32) = 1) then (wi (s_i s2 b3 (((3 : Int32) * x1) + x2).toNatClampNeg (0 : Int32)) (fun s4 => (b_M_forget_2 n s4 a0 x1 (x2 + 1)))) else none)) else none))) else none)) else none))
set_option maxRecDepth 100000 in
set_option maxHeartbeats 4000000 in
theorem gb_M_forget_2 {Γ : GX} (K : Cx Γ "TapirGroupModel" prog_6_method_11_code 3 rm_M_forget) (S : Std Γ none) (T : Tb Γ []) (hI : y_M_forget.name = "<init>" → Ini Γ) (n : Nat) : ∀ (σ : Sg) (a0 : Nat) (x1 : Int32) (x2 : Int32), G Γ mkV 0 0 2 [(0, .ref a0), (1, .int x1), (2, .int x2)] [] σ (b_M_forget_2 n σ a0 x1 x2) := by
  induction n with
  | zero =>
    intro σ a0 x1 x2
    exact g_none
  | succ n ih =>
    intro σ a0 x1 x2
    rw [b_M_forget_2]
    refine g_iload_n (pc := 2) (j := 2) K d_M_forget_2 rfl ?_
    refine g_iconst (pc := 3) (v := 3) K d_M_forget_3 (by decide) ?_
    refine g_icmp_ge (pc := 4) (tgt := 35) K d_M_forget_4 (by decide) (fun _ => ?_) (fun _ => ?_)
    · exact g_vret (pc := 35) K S d_M_forget_35 (by decide) (by decide) rfl
    · refine g_aload_n (pc := 7) (j := 0) K d_M_forget_7 rfl ?_
      refine g_getR (pc := 8) K fl_M_46 d_M_forget_8 (fun _ => ?_) (fun b1 _ => ?_)
      · exact g_none
      · refine g_iconst (pc := 11) (v := 3) K d_M_forget_11 (by decide) ?_
        refine g_iload_n (pc := 12) (j := 1) K d_M_forget_12 rfl ?_
        refine g_imul (pc := 13) K d_M_forget_13 ?_
        refine g_iload_n (pc := 14) (j := 2) K d_M_forget_14 rfl ?_
        refine g_iadd (pc := 15) K d_M_forget_15 ?_
        refine g_iconst (pc := 16) (v := -1) K d_M_forget_16 (by decide) ?_
        refine g_iast (pc := 17) K d_M_forget_17 ?_
        refine g_wi (fun s2 _ => ?_)
        refine g_aload_n (pc := 18) (j := 0) K d_M_forget_18 rfl ?_
        refine g_getR (pc := 19) K fl_M_49 d_M_forget_19 (fun _ => ?_) (fun b3 _ => ?_)
        · exact g_none
        · refine g_iconst (pc := 22) (v := 3) K d_M_forget_22 (by decide) ?_
          refine g_iload_n (pc := 23) (j := 1) K d_M_forget_23 rfl ?_
          refine g_imul (pc := 24) K d_M_forget_24 ?_
          refine g_iload_n (pc := 25) (j := 2) K d_M_forget_25 rfl ?_
          refine g_iadd (pc := 26) K d_M_forget_26 ?_
          refine g_iconst (pc := 27) (v := 0) K d_M_forget_27 (by decide) ?_
          refine g_zast (pc := 28) K d_M_forget_28 ?_
          refine g_wi (fun s4 _ => ?_)
          refine g_iinc (pc := 29) (j := 2) (v := (x2 + 1)) (L' := [(2, .int (x2 + 1)), (0, .ref a0), (1, .int x1)]) K d_M_forget_29 rfl (by rfl) (by decide) rfl ?_
          refine g_goto (pc := 32) (tgt := 2) K d_M_forget_32 (by decide) ?_
          refine g_sub (L' := [(0, .ref a0), (1, .int x1), (2, .int (x2 + 1))]) [1, 2, 0] rfl ?_
          exact ih s4 a0 x1 (x2 + 1)
def f_M_forget (σ : Sg) (a0 : Nat) (x1 : Int32) : Option Sg := (b_M_forget_2 1000 σ a0 x1 (0 : Int32))
set_option maxRecDepth 100000 in
set_option maxHeartbeats 4000000 in
theorem k_M_forget (l : Launch) (hl : l.stackTraces = false) (σ : Sg) (a0 : Nat) (x1 : Int32) (r : Sg) (h : f_M_forget σ a0 x1 = some r) : Con l y_M_forget (.code y_M_forget prog_6_method_11_code 3 none) rm_M_forget [.ref a0, .int x1] σ (mkV r) := by
  refine Con.of (mk := mkV) (o := f_M_forget σ a0 x1) (z := r) (L0 := [(0, .ref a0), (1, .int x1)]) (bytes := prog_6_method_11_code) (maxL := 3) (ret := none) (hh := []) hl (by decide +kernel) (Or.inl ⟨rfl, rfl⟩) (by simp [Value.category]) (Nat.le_of_ble_eq_true rfl) rfl (fun Γ K S T hI => ?_) h rfl
  unfold f_M_forget
  refine g_iconst (pc := 0) (v := 0) K d_M_forget_0 (by decide) ?_
  refine g_istore_n (pc := 1) (L' := [(2, .int (0 : Int32)), (0, .ref a0), (1, .int x1)]) K d_M_forget_1 (by decide) rfl ?_
  refine g_sub (L' := [(0, .ref a0), (1, .int x1), (2, .int (0 : Int32))]) [1, 2, 0] rfl ?_
  exact gb_M_forget_2 K S T hI 1000 σ a0 x1 (0 : Int32)
-- TapirGroupModel.begin(I)I
def y_M_begin : MethodName := ⟨"TapirGroupModel", "begin", "(I)I"⟩
abbrev rm_M_begin : Room := { frames := 2, cells := 0, slots := 0, locals := 42 }
theorem d_M_begin_0 : decode prog_6_method_12_code 0 = .ok (.aload_n 0, 1) := by decide +kernel
theorem d_M_begin_1 : decode prog_6_method_12_code 1 = .ok (.iload_n 1, 1) := by decide +kernel
theorem d_M_begin_2 : decode prog_6_method_12_code 2 = .ok (.invokestatic 88, 3) := by decide +kernel
theorem d_M_begin_5 : decode prog_6_method_12_code 5 = .ok (.ifCond .ne 7, 3) := by decide +kernel
theorem d_M_begin_8 : decode prog_6_method_12_code 8 = .ok (.iconst 1, 1) := by decide +kernel
theorem d_M_begin_9 : decode prog_6_method_12_code 9 = .ok (.goto 26, 3) := by decide +kernel
theorem d_M_begin_12 : decode prog_6_method_12_code 12 = .ok (.aload_n 0, 1) := by decide +kernel
theorem d_M_begin_13 : decode prog_6_method_12_code 13 = .ok (.getfield 34, 3) := by decide +kernel
theorem d_M_begin_16 : decode prog_6_method_12_code 16 = .ok (.iload_n 1, 1) := by decide +kernel
theorem d_M_begin_17 : decode prog_6_method_12_code 17 = .ok (.iaload, 1) := by decide +kernel
theorem d_M_begin_18 : decode prog_6_method_12_code 18 = .ok (.ifCond .ne 12, 3) := by decide +kernel
theorem d_M_begin_21 : decode prog_6_method_12_code 21 = .ok (.aload_n 0, 1) := by decide +kernel
theorem d_M_begin_22 : decode prog_6_method_12_code 22 = .ok (.getfield 96, 3) := by decide +kernel
theorem d_M_begin_25 : decode prog_6_method_12_code 25 = .ok (.bipush 60, 2) := by decide +kernel
theorem d_M_begin_27 : decode prog_6_method_12_code 27 = .ok (.if_icmp .ne 7, 3) := by decide +kernel
theorem d_M_begin_30 : decode prog_6_method_12_code 30 = .ok (.iconst 2, 1) := by decide +kernel
theorem d_M_begin_31 : decode prog_6_method_12_code 31 = .ok (.goto 4, 3) := by decide +kernel
theorem d_M_begin_34 : decode prog_6_method_12_code 34 = .ok (.iconst 0, 1) := by decide +kernel
theorem d_M_begin_35 : decode prog_6_method_12_code 35 = .ok (.invokevirtual 99, 3) := by decide +kernel
theorem d_M_begin_38 : decode prog_6_method_12_code 38 = .ok (.ifCond .ne 5, 3) := by decide +kernel
theorem d_M_begin_41 : decode prog_6_method_12_code 41 = .ok (.iconst 0, 1) := by decide +kernel
theorem d_M_begin_42 : decode prog_6_method_12_code 42 = .ok (.ireturn, 1) := by decide +kernel
theorem d_M_begin_43 : decode prog_6_method_12_code 43 = .ok (.aload_n 0, 1) := by decide +kernel
theorem d_M_begin_44 : decode prog_6_method_12_code 44 = .ok (.dup, 1) := by decide +kernel
theorem d_M_begin_45 : decode prog_6_method_12_code 45 = .ok (.getfield 96, 3) := by decide +kernel
theorem d_M_begin_48 : decode prog_6_method_12_code 48 = .ok (.iconst 1, 1) := by decide +kernel
theorem d_M_begin_49 : decode prog_6_method_12_code 49 = .ok (.iadd, 1) := by decide +kernel
theorem d_M_begin_50 : decode prog_6_method_12_code 50 = .ok (.putfield 96, 3) := by decide +kernel
theorem d_M_begin_53 : decode prog_6_method_12_code 53 = .ok (.aload_n 0, 1) := by decide +kernel
theorem d_M_begin_54 : decode prog_6_method_12_code 54 = .ok (.getfield 34, 3) := by decide +kernel
theorem d_M_begin_57 : decode prog_6_method_12_code 57 = .ok (.iload_n 1, 1) := by decide +kernel
theorem d_M_begin_58 : decode prog_6_method_12_code 58 = .ok (.iconst 1, 1) := by decide +kernel
theorem d_M_begin_59 : decode prog_6_method_12_code 59 = .ok (.iastore, 1) := by decide +kernel
theorem d_M_begin_60 : decode prog_6_method_12_code 60 = .ok (.aload_n 0, 1) := by decide +kernel
theorem d_M_begin_61 : decode prog_6_method_12_code 61 = .ok (.getfield 37, 3) := by decide +kernel
theorem d_M_begin_64 : decode prog_6_method_12_code 64 = .ok (.iload_n 1, 1) := by decide +kernel
theorem d_M_begin_65 : decode prog_6_method_12_code 65 = .ok (.aload_n 0, 1) := by decide +kernel
theorem d_M_begin_66 : decode prog_6_method_12_code 66 = .ok (.getfield 96, 3) := by decide +kernel
theorem d_M_begin_69 : decode prog_6_method_12_code 69 = .ok (.iastore, 1) := by decide +kernel
theorem d_M_begin_70 : decode prog_6_method_12_code 70 = .ok (.aload_n 0, 1) := by decide +kernel
theorem d_M_begin_71 : decode prog_6_method_12_code 71 = .ok (.iload_n 1, 1) := by decide +kernel
theorem d_M_begin_72 : decode prog_6_method_12_code 72 = .ok (.invokevirtual 102, 3) := by decide +kernel
theorem d_M_begin_75 : decode prog_6_method_12_code 75 = .ok (.aload_n 0, 1) := by decide +kernel
theorem d_M_begin_76 : decode prog_6_method_12_code 76 = .ok (.getfield 96, 3) := by decide +kernel
theorem d_M_begin_79 : decode prog_6_method_12_code 79 = .ok (.ireturn, 1) := by decide +kernel
theorem cn_M_begin : CN y_M_begin (.code y_M_begin prog_6_method_12_code 2 (some .int)) prog_6_method_12_code 2 (some .int) [] 1 := ⟨Or.inl ⟨rfl, rfl⟩, mw_659, mw_5, ⟨by decide +kernel, by decide +kernel⟩, by decide +kernel⟩
def b_M_begin_35  (σ : Sg) (a0 : Nat) (x1 : Int32) (t0 : Nat) (t1 : Int32) : Option (Int32 × Sg) := (if t0 < σ.1 ∧ kd t0 = 4 then (f_M_says σ t0 t1).bind (fun w3 => (if w3.1 = 0 then (some ((0 : Int32), w3.2)) else (if a0 < w3.2.1 ∧ kd a0 = 4 then (if a0 < w3.2.1 ∧ kd a0 = 4 then (wi (s_i w3.2 a0 1 ((g_i w3.2 a0 1) + (1 : Int32))) (fun s4 => (if a0 < s4.1 ∧ kd a0 = 4 then rc (g_r s4 a0 10) none (fun b5 => (if (b5 < s4.1 ∧ kd b5 = 10) ∧ inb x1 (ln b5) = true then (wi (s_i s4 b5 x1.toNatClampNeg (1 : Int32)) (fun s6 => (if a0 < s6.1 ∧ kd a0 = 4 then rc (g_r s6 a0 11) none (fun b7 => (if a0 < s6.1 ∧ kd a0 = 4 then (if (b7 < s6.1 ∧ kd b7 = 10) ∧ inb x1 (ln b7) = true then (wi (s_i s6 b7 x1.toNatClampNeg (g_i s6 a0 1)) (fun s8 => (if a0 < s8.1 ∧ kd a0 = 4 then (f_M_forget s8 a0 x1).bind (fun s9 => (if a0 < s9.1 ∧ kd a0 = 4 then (some ((g_i s9 a0 1), s9)) else none)) else none))) else none) else none)) else none))) else none)) else none))) else none) else none))) else none)
set_option maxRecDepth 100000 in
set_option maxHeartbeats 4000000 in
theorem gb_M_begin_35 {Γ : GX} (K : Cx Γ "TapirGroupModel" prog_6_method_12_code 2 rm_M_begin) (S : Std Γ (some .int)) (T : Tb Γ []) (hI : y_M_begin.name = "<init>" → Ini Γ) (σ : Sg) (a0 : Nat) (x1 : Int32) (t0 : Nat) (t1 : Int32) : G Γ mkW 0 0 35 [(0, .ref a0), (1, .int x1)] [.int t1, .ref t0] σ (b_M_begin_35 σ a0 x1 t0 t1) := by
  unfold b_M_begin_35
  refine g_callV (pc := 35) (ci := 4) (a := t0) (vs := [.int t1]) (st := []) (mkc := mkW) K rfl (by decide) cn_M_says (fun l hl r hr => k_M_says l hl _ _ _ r hr) mw_666 mw_668 ms_15 ⟨by decide, by decide, by decide, by decide⟩ d_M_begin_35 rfl rfl (Nat.le_of_ble_eq_true rfl) (fun w3 _ => ?_)
  change G Γ mkW 0 0 38 [(0, .ref a0), (1, .int x1)] [.int w3.1] w3.2 _
  refine g_if_ne (pc := 38) (tgt := 43) K d_M_begin_38 (by decide) (fun _ => ?_) (fun _ => ?_)
  · refine g_aload_n (pc := 43) (j := 0) K d_M_begin_43 rfl ?_
    refine g_dup (pc := 44) K d_M_begin_44 rfl ?_
    refine g_getI (pc := 45) K fl_M_96 d_M_begin_45 ?_
    refine g_iconst (pc := 48) (v := 1) K d_M_begin_48 (by decide) ?_
    refine g_iadd (pc := 49) K d_M_begin_49 ?_
    refine g_putI (pc := 50) K fl_M_96 d_M_begin_50 ?_
    refine g_wi (fun s4 _ => ?_)
    refine g_aload_n (pc := 53) (j := 0) K d_M_begin_53 rfl ?_
    refine g_getR (pc := 54) K fl_M_34 d_M_begin_54 (fun _ => ?_) (fun b5 _ => ?_)
    · exact g_none
    · refine g_iload_n (pc := 57) (j := 1) K d_M_begin_57 rfl ?_
      refine g_iconst (pc := 58) (v := 1) K d_M_begin_58 (by decide) ?_
      refine g_iast (pc := 59) K d_M_begin_59 ?_
      refine g_wi (fun s6 _ => ?_)
      refine g_aload_n (pc := 60) (j := 0) K d_M_begin_60 rfl ?_
      refine g_getR (pc := 61) K fl_M_37 d_M_begin_61 (fun _ => ?_) (fun b7 _ => ?_)
      · exact g_none
      · refine g_iload_n (pc := 64) (j := 1) K d_M_begin_64 rfl ?_
        refine g_aload_n (pc := 65) (j := 0) K d_M_begin_65 rfl ?_
        refine g_getI (pc := 66) K fl_M_96 d_M_begin_66 ?_
        refine g_iast (pc := 69) K d_M_begin_69 ?_
        refine g_wi (fun s8 _ => ?_)
        refine g_aload_n (pc := 70) (j := 0) K d_M_begin_70 rfl ?_
        refine g_iload_n (pc := 71) (j := 1) K d_M_begin_71 rfl ?_
        refine g_callV (pc := 72) (ci := 4) (a := a0) (vs := [.int x1]) (st := []) (mkc := mkV) K rfl (by decide) cn_M_forget (fun l hl r hr => k_M_forget l hl _ _ _ r hr) mw_670 mw_672 ms_16 ⟨by decide, by decide, by decide, by decide⟩ d_M_begin_72 rfl rfl (Nat.le_of_ble_eq_true rfl) (fun s9 _ => ?_)
        change G Γ mkW 0 0 75 [(0, .ref a0), (1, .int x1)] [] s9 _
        refine g_aload_n (pc := 75) (j := 0) K d_M_begin_75 rfl ?_
        refine g_getI (pc := 76) K fl_M_96 d_M_begin_76 ?_
        exact g_iret (pc := 79) K S rfl d_M_begin_79 (by decide) (by decide) rfl
  · refine g_iconst (pc := 41) (v := 0) K d_M_begin_41 (by decide) ?_
    exact g_iret (pc := 42) K S rfl d_M_begin_42 (by decide) (by decide) rfl
def b_M_begin_30  (σ : Sg) (a0 : Nat) (x1 : Int32) (t0 : Nat) : Option (Int32 × Sg) := (b_M_begin_35 σ a0 x1 t0 (2 : Int32))
set_option maxRecDepth 100000 in
set_option maxHeartbeats 4000000 in
theorem gb_M_begin_30 {Γ : GX} (K : Cx Γ "TapirGroupModel" prog_6_method_12_code 2 rm_M_begin) (S : Std Γ (some .int)) (T : Tb Γ []) (hI : y_M_begin.name = "<init>" → Ini Γ) (σ : Sg) (a0 : Nat) (x1 : Int32) (t0 : Nat) : G Γ mkW 0 0 30 [(0, .ref a0), (1, .int x1)] [.ref t0] σ (b_M_begin_30 σ a0 x1 t0) := by
  unfold b_M_begin_30
  refine g_iconst (pc := 30) (v := 2) K d_M_begin_30 (by decide) ?_
  refine g_goto (pc := 31) (tgt := 35) K d_M_begin_31 (by decide) ?_
  exact gb_M_begin_35 K S T hI σ a0 x1 t0 (2 : Int32)
def f_M_begin (σ : Sg) (a0 : Nat) (x1 : Int32) : Option (Int32 × Sg) := ((f_M_isClient σ x1).bind (fun v1 => (if v1 = 0 then (b_M_begin_35 σ a0 x1 a0 (1 : Int32)) else (if a0 < σ.1 ∧ kd a0 = 4 then rc (g_r σ a0 10) none (fun b2 => (if (b2 < σ.1 ∧ kd b2 = 10) ∧ inb x1 (ln b2) = true then (if (g_i σ b2 x1.toNatClampNeg) = 0 then (if a0 < σ.1 ∧ kd a0 = 4 then (if (g_i σ a0 1) = (60 : Int32) then (b_M_begin_30 σ a0 x1 a0) else (b_M_begin_35 σ a0 x1 a0 (0 : Int32))) else none) else (b_M_begin_30 σ a0 x1 a0)) else none)) else none))))
set_option maxRecDepth 100000 in
set_option maxHeartbeats 4000000 in
theorem k_M_begin (l : Launch) (hl : l.stackTraces = false) (σ : Sg) (a0 : Nat) (x1 : Int32) (r : (Int32 × Sg)) (h : f_M_begin σ a0 x1 = some r) : Con l y_M_begin (.code y_M_begin prog_6_method_12_code 2 (some .int)) rm_M_begin [.ref a0, .int x1] σ (mkW r) := by
  refine Con.of (mk := mkW) (o := f_M_begin σ a0 x1) (z := r) (L0 := [(0, .ref a0), (1, .int x1)]) (bytes := prog_6_method_12_code) (maxL := 2) (ret := (some .int)) (hh := []) hl (by decide +kernel) (Or.inl ⟨rfl, rfl⟩) (by simp [Value.category]) (Nat.le_of_ble_eq_true rfl) rfl (fun Γ K S T hI => ?_) h rfl
  unfold f_M_begin
  refine g_aload_n (pc := 0) (j := 0) K d_M_begin_0 rfl ?_
  refine g_iload_n (pc := 1) (j := 1) K d_M_begin_1 rfl ?_
  refine g_callS (pc := 2) (vs := [.int x1]) (st := [.ref a0]) (mkc := mkI σ) K cn_M_isClient (fun l hl r hr => k_M_isClient l hl _ _ r hr) mw_660 mw_661 ⟨by decide, by decide, by decide, by decide⟩ d_M_begin_2 rfl rfl (Nat.le_of_ble_eq_true rfl) (fun v1 _ => ?_)
  change G Γ mkW 0 0 5 [(0, .ref a0), (1, .int x1)] [.int v1, .ref a0] σ _
  refine g_if_ne (pc := 5) (tgt := 12) K d_M_begin_5 (by decide) (fun _ => ?_) (fun _ => ?_)
  · refine g_aload_n (pc := 12) (j := 0) K d_M_begin_12 rfl ?_
    refine g_getR (pc := 13) K fl_M_34 d_M_begin_13 (fun _ => ?_) (fun b2 _ => ?_)
    · exact g_none
    · refine g_iload_n (pc := 16) (j := 1) K d_M_begin_16 rfl ?_
      refine g_iald (pc := 17) K d_M_begin_17 ?_
      refine g_if_ne (pc := 18) (tgt := 30) K d_M_begin_18 (by decide) (fun _ => ?_) (fun _ => ?_)
      · exact gb_M_begin_30 K S T hI σ a0 x1 a0
      · refine g_aload_n (pc := 21) (j := 0) K d_M_begin_21 rfl ?_
        refine g_getI (pc := 22) K fl_M_96 d_M_begin_22 ?_
        refine g_bipush (pc := 25) (v := 60) K d_M_begin_25 (by decide) ?_
        refine g_icmp_ne (pc := 27) (tgt := 34) K d_M_begin_27 (by decide) (fun _ => ?_) (fun _ => ?_)
        · refine g_iconst (pc := 34) (v := 0) K d_M_begin_34 (by decide) ?_
          exact gb_M_begin_35 K S T hI σ a0 x1 a0 (0 : Int32)
        · exact gb_M_begin_30 K S T hI σ a0 x1 a0
  · refine g_iconst (pc := 8) (v := 1) K d_M_begin_8 (by decide) ?_
    refine g_goto (pc := 9) (tgt := 35) K d_M_begin_9 (by decide) ?_
    exact gb_M_begin_35 K S T hI σ a0 x1 a0 (1 : Int32)
-- TapirGroupModel.isKey(I)Z
def y_M_isKey : MethodName := ⟨"TapirGroupModel", "isKey", "(I)Z"⟩
abbrev rm_M_isKey : Room := { frames := 1, cells := 0, slots := 0, locals := 22 }
theorem d_M_isKey_0 : decode prog_6_method_6_code 0 = .ok (.iload_n 0, 1) := by decide +kernel
theorem d_M_isKey_1 : decode prog_6_method_6_code 1 = .ok (.iconst 0, 1) := by decide +kernel
theorem d_M_isKey_2 : decode prog_6_method_6_code 2 = .ok (.iconst 5, 1) := by decide +kernel
theorem d_M_isKey_3 : decode prog_6_method_6_code 3 = .ok (.invokestatic 84, 3) := by decide +kernel
theorem d_M_isKey_6 : decode prog_6_method_6_code 6 = .ok (.ireturn, 1) := by decide +kernel
theorem cn_M_isKey : CN y_M_isKey (.code y_M_isKey prog_6_method_6_code 1 (some .boolean)) prog_6_method_6_code 1 (some .boolean) [] 1 := ⟨Or.inl ⟨rfl, rfl⟩, mw_680, mw_5, ⟨by decide +kernel, by decide +kernel⟩, by decide +kernel⟩
def f_M_isKey (σ : Sg) (x0 : Int32) : Option Int32 := ((f_M_in σ x0 (0 : Int32) (5 : Int32)).bind (fun v1 => (if v1 = 0 ∨ v1 = 1 then some v1 else none)))
set_option maxRecDepth 100000 in
set_option maxHeartbeats 4000000 in
theorem k_M_isKey (l : Launch) (hl : l.stackTraces = false) (σ : Sg) (x0 : Int32) (r : Int32) (h : f_M_isKey σ x0 = some r) : Con l y_M_isKey (.code y_M_isKey prog_6_method_6_code 1 (some .boolean)) rm_M_isKey [.int x0] σ ((mkI σ) r) := by
  refine Con.of (mk := (mkI σ)) (o := f_M_isKey σ x0) (z := r) (L0 := [(0, .int x0)]) (bytes := prog_6_method_6_code) (maxL := 1) (ret := (some .boolean)) (hh := []) hl (by decide +kernel) (Or.inl ⟨rfl, rfl⟩) (by simp [Value.category]) (Nat.le_of_ble_eq_true rfl) rfl (fun Γ K S T hI => ?_) h rfl
  unfold f_M_isKey
  refine g_iload_n (pc := 0) (j := 0) K d_M_isKey_0 rfl ?_
  refine g_iconst (pc := 1) (v := 0) K d_M_isKey_1 (by decide) ?_
  refine g_iconst (pc := 2) (v := 5) K d_M_isKey_2 (by decide) ?_
  refine g_callS (pc := 3) (vs := [.int x0, .int (0 : Int32), .int (5 : Int32)]) (st := []) (mkc := mkI σ) K cn_M_in (fun l hl r hr => k_M_in l hl _ _ _ _ r hr) mw_663 mw_664 ⟨by decide, by decide, by decide, by decide⟩ d_M_isKey_3 rfl rfl (Nat.le_of_ble_eq_true rfl) (fun v1 _ => ?_)
  change G Γ (mkI σ) 0 0 6 [(0, .int x0)] [.int v1] σ _
  exact g_zret (pc := 6) K S d_M_isKey_6 (by decide) (by decide) rfl
-- TapirGroupModel.isReplica(I)Z
def y_M_isReplica : MethodName := ⟨"TapirGroupModel", "isReplica", "(I)Z"⟩
abbrev rm_M_isReplica : Room := { frames := 1, cells := 0, slots := 0, locals := 22 }
theorem d_M_isReplica_0 : decode prog_6_method_7_code 0 = .ok (.iload_n 0, 1) := by decide +kernel
theorem d_M_isReplica_1 : decode prog_6_method_7_code 1 = .ok (.iconst 0, 1) := by decide +kernel
theorem d_M_isReplica_2 : decode prog_6_method_7_code 2 = .ok (.iconst 2, 1) := by decide +kernel
theorem d_M_isReplica_3 : decode prog_6_method_7_code 3 = .ok (.invokestatic 84, 3) := by decide +kernel
theorem d_M_isReplica_6 : decode prog_6_method_7_code 6 = .ok (.ireturn, 1) := by decide +kernel
theorem cn_M_isReplica : CN y_M_isReplica (.code y_M_isReplica prog_6_method_7_code 1 (some .boolean)) prog_6_method_7_code 1 (some .boolean) [] 1 := ⟨Or.inl ⟨rfl, rfl⟩, mw_683, mw_5, ⟨by decide +kernel, by decide +kernel⟩, by decide +kernel⟩
def f_M_isReplica (σ : Sg) (x0 : Int32) : Option Int32 := ((f_M_in σ x0 (0 : Int32) (2 : Int32)).bind (fun v1 => (if v1 = 0 ∨ v1 = 1 then some v1 else none)))
set_option maxRecDepth 100000 in
set_option maxHeartbeats 4000000 in
theorem k_M_isReplica (l : Launch) (hl : l.stackTraces = false) (σ : Sg) (x0 : Int32) (r : Int32) (h : f_M_isReplica σ x0 = some r) : Con l y_M_isReplica (.code y_M_isReplica prog_6_method_7_code 1 (some .boolean)) rm_M_isReplica [.int x0] σ ((mkI σ) r) := by
  refine Con.of (mk := (mkI σ)) (o := f_M_isReplica σ x0) (z := r) (L0 := [(0, .int x0)]) (bytes := prog_6_method_7_code) (maxL := 1) (ret := (some .boolean)) (hh := []) hl (by decide +kernel) (Or.inl ⟨rfl, rfl⟩) (by simp [Value.category]) (Nat.le_of_ble_eq_true rfl) rfl (fun Γ K S T hI => ?_) h rfl
  unfold f_M_isReplica
  refine g_iload_n (pc := 0) (j := 0) K d_M_isReplica_0 rfl ?_
  refine g_iconst (pc := 1) (v := 0) K d_M_isReplica_1 (by decide) ?_
  refine g_iconst (pc := 2) (v := 2) K d_M_isReplica_2 (by decide) ?_
  refine g_callS (pc := 3) (vs := [.int x0, .int (0 : Int32), .int (2 : Int32)]) (st := []) (mkc := mkI σ) K cn_M_in (fun l hl r hr => k_M_in l hl _ _ _ _ r hr) mw_663 mw_664 ⟨by decide, by decide, by decide, by decide⟩ d_M_isReplica_3 rfl rfl (Nat.le_of_ble_eq_true rfl) (fun v1 _ => ?_)
  change G Γ (mkI σ) 0 0 6 [(0, .int x0)] [.int v1] σ _
  exact g_zret (pc := 6) K S d_M_isReplica_6 (by decide) (by decide) rfl
-- TapirGroupModel.stateOf(I)I
def y_M_stateOf : MethodName := ⟨"TapirGroupModel", "stateOf", "(I)I"⟩
abbrev rm_M_stateOf : Room := { frames := 2, cells := 0, slots := 0, locals := 42 }
theorem d_M_stateOf_0 : decode prog_6_method_8_code 0 = .ok (.iload_n 1, 1) := by decide +kernel
theorem d_M_stateOf_1 : decode prog_6_method_8_code 1 = .ok (.invokestatic 88, 3) := by decide +kernel
theorem d_M_stateOf_4 : decode prog_6_method_8_code 4 = .ok (.ifCond .eq 12, 3) := by decide +kernel
theorem d_M_stateOf_7 : decode prog_6_method_8_code 7 = .ok (.aload_n 0, 1) := by decide +kernel
theorem d_M_stateOf_8 : decode prog_6_method_8_code 8 = .ok (.getfield 34, 3) := by decide +kernel
theorem d_M_stateOf_11 : decode prog_6_method_8_code 11 = .ok (.iload_n 1, 1) := by decide +kernel
theorem d_M_stateOf_12 : decode prog_6_method_8_code 12 = .ok (.iaload, 1) := by decide +kernel
theorem d_M_stateOf_13 : decode prog_6_method_8_code 13 = .ok (.goto 4, 3) := by decide +kernel
theorem d_M_stateOf_16 : decode prog_6_method_8_code 16 = .ok (.iconst 0, 1) := by decide +kernel
theorem d_M_stateOf_17 : decode prog_6_method_8_code 17 = .ok (.ireturn, 1) := by decide +kernel
theorem cn_M_stateOf : CN y_M_stateOf (.code y_M_stateOf prog_6_method_8_code 2 (some .int)) prog_6_method_8_code 2 (some .int) [] 1 := ⟨Or.inl ⟨rfl, rfl⟩, mw_687, mw_5, ⟨by decide +kernel, by decide +kernel⟩, by decide +kernel⟩
def b_M_stateOf_17 (σ : Sg)  (t0 : Int32) : Option Int32 := (some t0)
set_option maxRecDepth 100000 in
set_option maxHeartbeats 4000000 in
theorem gb_M_stateOf_17 {Γ : GX} (K : Cx Γ "TapirGroupModel" prog_6_method_8_code 2 rm_M_stateOf) (S : Std Γ (some .int)) (T : Tb Γ []) (hI : y_M_stateOf.name = "<init>" → Ini Γ) (σ : Sg) (t0 : Int32) : G Γ (mkI σ) 0 0 17 [] [.int t0] σ (b_M_stateOf_17 σ t0) := by
  unfold b_M_stateOf_17
  exact g_iret (pc := 17) K S rfl d_M_stateOf_17 (by decide) (by decide) rfl
def f_M_stateOf (σ : Sg) (a0 : Nat) (x1 : Int32) : Option Int32 := ((f_M_isClient σ x1).bind (fun v1 => (if v1 = 0 then (b_M_stateOf_17 σ (0 : Int32)) else (if a0 < σ.1 ∧ kd a0 = 4 then rc (g_r σ a0 10) none (fun b2 => (if (b2 < σ.1 ∧ kd b2 = 10) ∧ inb x1 (ln b2) = true then (b_M_stateOf_17 σ (g_i σ b2 x1.toNatClampNeg)) else none)) else none))))
set_option maxRecDepth 100000 in
set_option maxHeartbeats 4000000 in
theorem k_M_stateOf (l : Launch) (hl : l.stackTraces = false) (σ : Sg) (a0 : Nat) (x1 : Int32) (r : Int32) (h : f_M_stateOf σ a0 x1 = some r) : Con l y_M_stateOf (.code y_M_stateOf prog_6_method_8_code 2 (some .int)) rm_M_stateOf [.ref a0, .int x1] σ ((mkI σ) r) := by
  refine Con.of (mk := (mkI σ)) (o := f_M_stateOf σ a0 x1) (z := r) (L0 := [(0, .ref a0), (1, .int x1)]) (bytes := prog_6_method_8_code) (maxL := 2) (ret := (some .int)) (hh := []) hl (by decide +kernel) (Or.inl ⟨rfl, rfl⟩) (by simp [Value.category]) (Nat.le_of_ble_eq_true rfl) rfl (fun Γ K S T hI => ?_) h rfl
  unfold f_M_stateOf
  refine g_iload_n (pc := 0) (j := 1) K d_M_stateOf_0 rfl ?_
  refine g_callS (pc := 1) (vs := [.int x1]) (st := []) (mkc := mkI σ) K cn_M_isClient (fun l hl r hr => k_M_isClient l hl _ _ r hr) mw_660 mw_661 ⟨by decide, by decide, by decide, by decide⟩ d_M_stateOf_1 rfl rfl (Nat.le_of_ble_eq_true rfl) (fun v1 _ => ?_)
  change G Γ (mkI σ) 0 0 4 [(0, .ref a0), (1, .int x1)] [.int v1] σ _
  refine g_if_eq (pc := 4) (tgt := 16) K d_M_stateOf_4 (by decide) (fun _ => ?_) (fun _ => ?_)
  · refine g_iconst (pc := 16) (v := 0) K d_M_stateOf_16 (by decide) ?_
    refine g_sub (L' := []) [] rfl ?_
    exact gb_M_stateOf_17 K S T hI σ (0 : Int32)
  · refine g_aload_n (pc := 7) (j := 0) K d_M_stateOf_7 rfl ?_
    refine g_getR (pc := 8) K fl_M_34 d_M_stateOf_8 (fun _ => ?_) (fun b2 _ => ?_)
    · exact g_none
    · refine g_iload_n (pc := 11) (j := 1) K d_M_stateOf_11 rfl ?_
      refine g_iald (pc := 12) K d_M_stateOf_12 ?_
      refine g_goto (pc := 13) (tgt := 17) K d_M_stateOf_13 (by decide) ?_
      refine g_sub (L' := []) [] rfl ?_
      exact gb_M_stateOf_17 K S T hI σ (g_i σ b2 x1.toNatClampNeg)
-- TapirGroupModel.placeOf(IIZ)I
def y_M_placeOf : MethodName := ⟨"TapirGroupModel", "placeOf", "(IIZ)I"⟩
abbrev rm_M_placeOf : Room := { frames := 0, cells := 0, slots := 0, locals := 0 }
theorem d_M_placeOf_0 : decode prog_6_method_13_code 0 = .ok (.iload_n 3, 1) := by decide +kernel
theorem d_M_placeOf_1 : decode prog_6_method_13_code 1 = .ok (.ifCond .eq 12, 3) := by decide +kernel
theorem d_M_placeOf_4 : decode prog_6_method_13_code 4 = .ok (.aload_n 0, 1) := by decide +kernel
theorem d_M_placeOf_5 : decode prog_6_method_13_code 5 = .ok (.getfield 13, 3) := by decide +kernel
theorem d_M_placeOf_8 : decode prog_6_method_13_code 8 = .ok (.iload_n 1, 1) := by decide +kernel
theorem d_M_placeOf_9 : decode prog_6_method_13_code 9 = .ok (.iaload, 1) := by decide +kernel
theorem d_M_placeOf_10 : decode prog_6_method_13_code 10 = .ok (.goto 9, 3) := by decide +kernel
theorem d_M_placeOf_13 : decode prog_6_method_13_code 13 = .ok (.aload_n 0, 1) := by decide +kernel
theorem d_M_placeOf_14 : decode prog_6_method_13_code 14 = .ok (.getfield 25, 3) := by decide +kernel
theorem d_M_placeOf_17 : decode prog_6_method_13_code 17 = .ok (.iload_n 1, 1) := by decide +kernel
theorem d_M_placeOf_18 : decode prog_6_method_13_code 18 = .ok (.iaload, 1) := by decide +kernel
theorem d_M_placeOf_19 : decode prog_6_method_13_code 19 = .ok (.istore 4, 2) := by decide +kernel
theorem d_M_placeOf_21 : decode prog_6_method_13_code 21 = .ok (.iconst 4, 1) := by decide +kernel
theorem d_M_placeOf_22 : decode prog_6_method_13_code 22 = .ok (.iload_n 1, 1) := by decide +kernel
theorem d_M_placeOf_23 : decode prog_6_method_13_code 23 = .ok (.imul, 1) := by decide +kernel
theorem d_M_placeOf_24 : decode prog_6_method_13_code 24 = .ok (.istore 5, 2) := by decide +kernel
theorem d_M_placeOf_26 : decode prog_6_method_13_code 26 = .ok (.iload 5, 2) := by decide +kernel
theorem d_M_placeOf_28 : decode prog_6_method_13_code 28 = .ok (.iconst 4, 1) := by decide +kernel
theorem d_M_placeOf_29 : decode prog_6_method_13_code 29 = .ok (.iload_n 1, 1) := by decide +kernel
theorem d_M_placeOf_30 : decode prog_6_method_13_code 30 = .ok (.imul, 1) := by decide +kernel
theorem d_M_placeOf_31 : decode prog_6_method_13_code 31 = .ok (.iload 4, 2) := by decide +kernel
theorem d_M_placeOf_33 : decode prog_6_method_13_code 33 = .ok (.iadd, 1) := by decide +kernel
theorem d_M_placeOf_34 : decode prog_6_method_13_code 34 = .ok (.if_icmp .ge 37, 3) := by decide +kernel
theorem d_M_placeOf_37 : decode prog_6_method_13_code 37 = .ok (.iload_n 3, 1) := by decide +kernel
theorem d_M_placeOf_38 : decode prog_6_method_13_code 38 = .ok (.ifCond .eq 13, 3) := by decide +kernel
theorem d_M_placeOf_41 : decode prog_6_method_13_code 41 = .ok (.aload_n 0, 1) := by decide +kernel
theorem d_M_placeOf_42 : decode prog_6_method_13_code 42 = .ok (.getfield 16, 3) := by decide +kernel
theorem d_M_placeOf_45 : decode prog_6_method_13_code 45 = .ok (.iload 5, 2) := by decide +kernel
theorem d_M_placeOf_47 : decode prog_6_method_13_code 47 = .ok (.iaload, 1) := by decide +kernel
theorem d_M_placeOf_48 : decode prog_6_method_13_code 48 = .ok (.goto 10, 3) := by decide +kernel
theorem d_M_placeOf_51 : decode prog_6_method_13_code 51 = .ok (.aload_n 0, 1) := by decide +kernel
theorem d_M_placeOf_52 : decode prog_6_method_13_code 52 = .ok (.getfield 28, 3) := by decide +kernel
theorem d_M_placeOf_55 : decode prog_6_method_13_code 55 = .ok (.iload 5, 2) := by decide +kernel
theorem d_M_placeOf_57 : decode prog_6_method_13_code 57 = .ok (.iaload, 1) := by decide +kernel
theorem d_M_placeOf_58 : decode prog_6_method_13_code 58 = .ok (.iload_n 2, 1) := by decide +kernel
theorem d_M_placeOf_59 : decode prog_6_method_13_code 59 = .ok (.if_icmp .ne 6, 3) := by decide +kernel
theorem d_M_placeOf_62 : decode prog_6_method_13_code 62 = .ok (.iload 5, 2) := by decide +kernel
theorem d_M_placeOf_64 : decode prog_6_method_13_code 64 = .ok (.ireturn, 1) := by decide +kernel
theorem d_M_placeOf_65 : decode prog_6_method_13_code 65 = .ok (.iinc 5 1, 3) := by decide +kernel
theorem d_M_placeOf_68 : decode prog_6_method_13_code 68 = .ok (.goto (-42), 3) := by decide +kernel
theorem d_M_placeOf_71 : decode prog_6_method_13_code 71 = .ok (.iconst (-1), 1) := by decide +kernel
theorem d_M_placeOf_72 : decode prog_6_method_13_code 72 = .ok (.ireturn, 1) := by decide +kernel
theorem cn_M_placeOf : CN y_M_placeOf (.code y_M_placeOf prog_6_method_13_code 6 (some .int)) prog_6_method_13_code 6 (some .int) [] 3 := ⟨Or.inl ⟨rfl, rfl⟩, mw_691, mw_5, ⟨by decide +kernel, by decide +kernel⟩, by decide +kernel⟩
def b_M_placeOf_58 (σ : Sg) (k : Nat → Int32 → Int32 → Int32 → Int32 → Int32 → Option Int32) (a0 : Nat) (x1 : Int32) (x2 : Int32) (x3 : Int32) (x4 : Int32) (x5 : Int32) (t0 : Int32) : Option Int32 := (if t0 = x2 then (some x5) else (k a0 x1 x2 x3 x4 (x5 + 1)))
set_option maxRecDepth 100000 in
set_option maxHeartbeats 4000000 in
theorem gb_M_placeOf_58 {Γ : GX} (K : Cx Γ "TapirGroupModel" prog_6_method_13_code 6 rm_M_placeOf) (S : Std Γ (some .int)) (T : Tb Γ []) (hI : y_M_placeOf.name = "<init>" → Ini Γ) (σ : Sg) (k : Nat → Int32 → Int32 → Int32 → Int32 → Int32 → Option Int32) (hk : ∀ (a0 : Nat) (x1 : Int32) (x2 : Int32) (x3 : Int32) (x4 : Int32) (x5 : Int32), G Γ (mkI σ) 0 0 26 [(0, .ref a0), (1, .int x1), (2, .int x2), (3, .int x3), (4, .int x4), (5, .int x5)] [] σ (k a0 x1 x2 x3 x4 x5)) (a0 : Nat) (x1 : Int32) (x2 : Int32) (x3 : Int32) (x4 : Int32) (x5 : Int32) (t0 : Int32) : G Γ (mkI σ) 0 0 58 [(0, .ref a0), (1, .int x1), (2, .int x2), (3, .int x3), (4, .int x4), (5, .int x5)] [.int t0] σ (b_M_placeOf_58 σ k a0 x1 x2 x3 x4 x5 t0) := by
  unfold b_M_placeOf_58
  refine g_iload_n (pc := 58) (j := 2) K d_M_placeOf_58 rfl ?_
  refine g_icmp_ne (pc := 59) (tgt := 65) K d_M_placeOf_59 (by decide) (fun _ => ?_) (fun _ => ?_)
  · refine g_iinc (pc := 65) (j := 5) (v := (x5 + 1)) (L' := [(5, .int (x5 + 1)), (0, .ref a0), (1, .int x1), (2, .int x2), (3, .int x3), (4, .int x4)]) K d_M_placeOf_65 rfl (by rfl) (by decide) rfl ?_
    refine g_goto (pc := 68) (tgt := 26) K d_M_placeOf_68 (by decide) ?_
    refine g_sub (L' := [(0, .ref a0), (1, .int x1), (2, .int x2), (3, .int x3), (4, .int x4), (5, .int (x5 + 1))]) [1, 2, 3, 4, 5, 0] rfl ?_
    exact hk a0 x1 x2 x3 x4 (x5 + 1)
  · refine g_iload (pc := 62) (j := 5) K d_M_placeOf_62 rfl ?_
    exact g_iret (pc := 64) K S rfl d_M_placeOf_64 (by decide) (by decide) rfl
def b_M_placeOf_26 (σ : Sg) : Nat → Nat → Int32 → Int32 → Int32 → Int32 → Int32 → Option Int32
  | 0 => fun _ _ _ _ _ _ => none
  | n + 1 => fun a0 x1 x2 x3 x4 x5 => (if (((4 : Int32) * x1) + x4) ≤ x5 then (some (-1 : Int32)) else (if x3 = 0 then (if a0 < σ.1 ∧ kd a0 = 4 then rc (g_r σ a0 8) none (fun b4 => (if (b4 < σ.1 ∧ kd b4 = 10) ∧ inb x5 (ln b4) = true then (b_M_placeOf_58 σ (b_M_placeOf_26 σ n) a0 x1 x2 x3 x4 x5 (g_i σ b4 x5.toNatClampNeg)) else none)) else none) else (if a0 < σ.1 ∧ kd a0 = 4 then rc (g_r σ a0 4) none (fun b5 => (if (b5 < σ.1 ∧ kd b5 = 10) ∧ inb x5 (ln b5) = true then (b_M_placeOf_58 σ (b_M_placeOf_26 σ n) a0 x1 x2 x3 x4 x5 (g_i σ b5 x5.toNatClampNeg)) else none)) else none)))
set_option maxRecDepth 100000 in
set_option maxHeartbeats 4000000 in
theorem gb_M_placeOf_26 {Γ : GX} (K : Cx Γ "TapirGroupModel" prog_6_method_13_code 6 rm_M_placeOf) (S : Std Γ (some .int)) (T : Tb Γ []) (hI : y_M_placeOf.name = "<init>" → Ini Γ) (σ : Sg) (n : Nat) : ∀ (a0 : Nat) (x1 : Int32) (x2 : Int32) (x3 : Int32) (x4 : Int32) (x5 : Int32), G Γ (mkI σ) 0 0 26 [(0, .ref a0), (1, .int x1), (2, .int x2), (3, .int x3), (4, .int x4), (5, .int x5)] [] σ (b_M_placeOf_26 σ n a0 x1 x2 x3 x4 x5) := by
  induction n with
  | zero =>
    intro a0 x1 x2 x3 x4 x5
    exact g_none
  | succ n ih =>
    intro a0 x1 x2 x3 x4 x5
    rw [b_M_placeOf_26]
    refine g_iload (pc := 26) (j := 5) K d_M_placeOf_26 rfl ?_
    refine g_iconst (pc := 28) (v := 4) K d_M_placeOf_28 (by decide) ?_
    refine g_iload_n (pc := 29) (j := 1) K d_M_placeOf_29 rfl ?_
    refine g_imul (pc := 30) K d_M_placeOf_30 ?_
    refine g_iload (pc := 31) (j := 4) K d_M_placeOf_31 rfl ?_
    refine g_iadd (pc := 33) K d_M_placeOf_33 ?_
    refine g_icmp_ge (pc := 34) (tgt := 71) K d_M_placeOf_34 (by decide) (fun _ => ?_) (fun _ => ?_)
    · refine g_iconst (pc := 71) (v := -1) K d_M_placeOf_71 (by decide) ?_
      exact g_iret (pc := 72) K S rfl d_M_placeOf_72 (by decide) (by decide) rfl
    · refine g_iload_n (pc := 37) (j := 3) K d_M_placeOf_37 rfl ?_
      refine g_if_eq (pc := 38) (tgt := 51) K d_M_placeOf_38 (by decide) (fun _ => ?_) (fun _ => ?_)
      · refine g_aload_n (pc := 51) (j := 0) K d_M_placeOf_51 rfl ?_
        refine g_getR (pc := 52) K fl_M_28 d_M_placeOf_52 (fun _ => ?_) (fun b4 _ => ?_)
        · exact g_none
        · refine g_iload (pc := 55) (j := 5) K d_M_placeOf_55 rfl ?_
          refine g_iald (pc := 57) K d_M_placeOf_57 ?_
          exact gb_M_placeOf_58 K S T hI σ (b_M_placeOf_26 σ n) ih a0 x1 x2 x3 x4 x5 (g_i σ b4 x5.toNatClampNeg)
      · refine g_aload_n (pc := 41) (j := 0) K d_M_placeOf_41 rfl ?_
        refine g_getR (pc := 42) K fl_M_16 d_M_placeOf_42 (fun _ => ?_) (fun b5 _ => ?_)
        · exact g_none
        · refine g_iload (pc := 45) (j := 5) K d_M_placeOf_45 rfl ?_
          refine g_iald (pc := 47) K d_M_placeOf_47 ?_
          refine g_goto (pc := 48) (tgt := 58) K d_M_placeOf_48 (by decide) ?_
          exact gb_M_placeOf_58 K S T hI σ (b_M_placeOf_26 σ n) ih a0 x1 x2 x3 x4 x5 (g_i σ b5 x5.toNatClampNeg)
def b_M_placeOf_19 (σ : Sg)  (a0 : Nat) (x1 : Int32) (x2 : Int32) (x3 : Int32) (t0 : Int32) : Option Int32 := (wn ((4 : Int32) * x1) (fun y3 => (b_M_placeOf_26 σ 1000 a0 x1 x2 x3 t0 y3)))
set_option maxRecDepth 100000 in
set_option maxHeartbeats 4000000 in
theorem gb_M_placeOf_19 {Γ : GX} (K : Cx Γ "TapirGroupModel" prog_6_method_13_code 6 rm_M_placeOf) (S : Std Γ (some .int)) (T : Tb Γ []) (hI : y_M_placeOf.name = "<init>" → Ini Γ) (σ : Sg) (a0 : Nat) (x1 : Int32) (x2 : Int32) (x3 : Int32) (t0 : Int32) : G Γ (mkI σ) 0 0 19 [(0, .ref a0), (1, .int x1), (2, .int x2), (3, .int x3)] [.int t0] σ (b_M_placeOf_19 σ a0 x1 x2 x3 t0) := by
  unfold b_M_placeOf_19
  refine g_istore (pc := 19) (L' := [(4, .int t0), (0, .ref a0), (1, .int x1), (2, .int x2), (3, .int x3)]) K d_M_placeOf_19 (by decide) rfl ?_
  refine g_iconst (pc := 21) (v := 4) K d_M_placeOf_21 (by decide) ?_
  refine g_iload_n (pc := 22) (j := 2) K d_M_placeOf_22 rfl ?_
  refine g_imul (pc := 23) K d_M_placeOf_23 ?_
  refine g_wn (fun y3 _ => ?_)
  refine g_istore (pc := 24) (L' := [(5, .int y3), (4, .int t0), (0, .ref a0), (1, .int x1), (2, .int x2), (3, .int x3)]) K d_M_placeOf_24 (by decide) rfl ?_
  refine g_sub (L' := [(0, .ref a0), (1, .int x1), (2, .int x2), (3, .int x3), (4, .int t0), (5, .int y3)]) [2, 3, 4, 5, 1, 0] rfl ?_
  exact gb_M_placeOf_26 K S T hI σ 1000 a0 x1 x2 x3 t0 y3
def f_M_placeOf (σ : Sg) (a0 : Nat) (x1 : Int32) (x2 : Int32) (x3 : Int32) : Option Int32 := (if x3 = 0 then (if a0 < σ.1 ∧ kd a0 = 4 then rc (g_r σ a0 7) none (fun b1 => (if (b1 < σ.1 ∧ kd b1 = 10) ∧ inb x1 (ln b1) = true then (b_M_placeOf_19 σ a0 x1 x2 x3 (g_i σ b1 x1.toNatClampNeg)) else none)) else none) else (if a0 < σ.1 ∧ kd a0 = 4 then rc (g_r σ a0 3) none (fun b2 => (if (b2 < σ.1 ∧ kd b2 = 10) ∧ inb x1 (ln b2) = true then (b_M_placeOf_19 σ a0 x1 x2 x3 (g_i σ b2 x1.toNatClampNeg)) else none)) else none))
set_option maxRecDepth 100000 in
set_option maxHeartbeats 4000000 in
theorem k_M_placeOf (l : Launch) (hl : l.stackTraces = false) (σ : Sg) (a0 : Nat) (x1 : Int32) (x2 : Int32) (x3 : Int32) (r : Int32) (h : f_M_placeOf σ a0 x1 x2 x3 = some r) : Con l y_M_placeOf (.code y_M_placeOf prog_6_method_13_code 6 (some .int)) rm_M_placeOf [.ref a0, .int x1, .int x2, .int x3] σ ((mkI σ) r) := by
  refine Con.of (mk := (mkI σ)) (o := f_M_placeOf σ a0 x1 x2 x3) (z := r) (L0 := [(0, .ref a0), (1, .int x1), (2, .int x2), (3, .int x3)]) (bytes := prog_6_method_13_code) (maxL := 6) (ret := (some .int)) (hh := []) hl (by decide +kernel) (Or.inl ⟨rfl, rfl⟩) (by simp [Value.category]) (Nat.le_of_ble_eq_true rfl) rfl (fun Γ K S T hI => ?_) h rfl
  unfold f_M_placeOf
  refine g_iload_n (pc := 0) (j := 3) K d_M_placeOf_0 rfl ?_
  refine g_if_eq (pc := 1) (tgt := 13) K d_M_placeOf_1 (by decide) (fun _ => ?_) (fun _ => ?_)
  · refine g_aload_n (pc := 13) (j := 0) K d_M_placeOf_13 rfl ?_
    refine g_getR (pc := 14) K fl_M_25 d_M_placeOf_14 (fun _ => ?_) (fun b1 _ => ?_)
    · exact g_none
    · refine g_iload_n (pc := 17) (j := 1) K d_M_placeOf_17 rfl ?_
      refine g_iald (pc := 18) K d_M_placeOf_18 ?_
      exact gb_M_placeOf_19 K S T hI σ a0 x1 x2 x3 (g_i σ b1 x1.toNatClampNeg)
  · refine g_aload_n (pc := 4) (j := 0) K d_M_placeOf_4 rfl ?_
    refine g_getR (pc := 5) K fl_M_13 d_M_placeOf_5 (fun _ => ?_) (fun b2 _ => ?_)
    · exact g_none
    · refine g_iload_n (pc := 8) (j := 1) K d_M_placeOf_8 rfl ?_
      refine g_iald (pc := 9) K d_M_placeOf_9 ?_
      refine g_goto (pc := 10) (tgt := 19) K d_M_placeOf_10 (by decide) ?_
      exact gb_M_placeOf_19 K S T hI σ a0 x1 x2 x3 (g_i σ b2 x1.toNatClampNeg)
-- TapirGroupModel.groupView()I
def y_M_groupView : MethodName := ⟨"TapirGroupModel", "groupView", "()I"⟩
abbrev rm_M_groupView : Room := { frames := 0, cells := 0, slots := 0, locals := 0 }
theorem d_M_groupView_0 : decode prog_6_method_9_code 0 = .ok (.iconst 0, 1) := by decide +kernel
theorem d_M_groupView_1 : decode prog_6_method_9_code 1 = .ok (.istore_n 1, 1) := by decide +kernel
theorem d_M_groupView_2 : decode prog_6_method_9_code 2 = .ok (.iconst 0, 1) := by decide +kernel
theorem d_M_groupView_3 : decode prog_6_method_9_code 3 = .ok (.istore_n 2, 1) := by decide +kernel
theorem d_M_groupView_4 : decode prog_6_method_9_code 4 = .ok (.iload_n 2, 1) := by decide +kernel
theorem d_M_groupView_5 : decode prog_6_method_9_code 5 = .ok (.iconst 3, 1) := by decide +kernel
theorem d_M_groupView_6 : decode prog_6_method_9_code 6 = .ok (.if_icmp .ge 30, 3) := by decide +kernel
theorem d_M_groupView_9 : decode prog_6_method_9_code 9 = .ok (.aload_n 0, 1) := by decide +kernel
theorem d_M_groupView_10 : decode prog_6_method_9_code 10 = .ok (.getfield 56, 3) := by decide +kernel
theorem d_M_groupView_13 : decode prog_6_method_9_code 13 = .ok (.iload_n 2, 1) := by decide +kernel
theorem d_M_groupView_14 : decode prog_6_method_9_code 14 = .ok (.iaload, 1) := by decide +kernel
theorem d_M_groupView_15 : decode prog_6_method_9_code 15 = .ok (.iload_n 1, 1) := by decide +kernel
theorem d_M_groupView_16 : decode prog_6_method_9_code 16 = .ok (.if_icmp .le 12, 3) := by decide +kernel
theorem d_M_groupView_19 : decode prog_6_method_9_code 19 = .ok (.aload_n 0, 1) := by decide +kernel
theorem d_M_groupView_20 : decode prog_6_method_9_code 20 = .ok (.getfield 56, 3) := by decide +kernel
theorem d_M_groupView_23 : decode prog_6_method_9_code 23 = .ok (.iload_n 2, 1) := by decide +kernel
theorem d_M_groupView_24 : decode prog_6_method_9_code 24 = .ok (.iaload, 1) := by decide +kernel
theorem d_M_groupView_25 : decode prog_6_method_9_code 25 = .ok (.goto 4, 3) := by decide +kernel
theorem d_M_groupView_28 : decode prog_6_method_9_code 28 = .ok (.iload_n 1, 1) := by decide +kernel
theorem d_M_groupView_29 : decode prog_6_method_9_code 29 = .ok (.istore_n 1, 1) := by decide +kernel
theorem d_M_groupView_30 : decode prog_6_method_9_code 30 = .ok (.iinc 2 1, 3) := by decide +kernel
theorem d_M_groupView_33 : decode prog_6_method_9_code 33 = .ok (.goto (-29), 3) := by decide +kernel
theorem d_M_groupView_36 : decode prog_6_method_9_code 36 = .ok (.iload_n 1, 1) := by decide +kernel
theorem d_M_groupView_37 : decode prog_6_method_9_code 37 = .ok (.ireturn, 1) := by decide +kernel
theorem cn_M_groupView : CN y_M_groupView (.code y_M_groupView prog_6_method_9_code 3 (some .int)) prog_6_method_9_code 3 (some .int) [] 0 := ⟨Or.inl ⟨rfl, rfl⟩, mw_699, mw_5, ⟨by decide +kernel, by decide +kernel⟩, by decide +kernel⟩
def b_M_groupView_29 (σ : Sg) (k : Nat → Int32 → Int32 → Option Int32) (a0 : Nat) (x2 : Int32) (t0 : Int32) : Option Int32 := (k a0 t0 (x2 + 1))
set_option maxRecDepth 100000 in
set_option maxHeartbeats 4000000 in
theorem gb_M_groupView_29 {Γ : GX} (K : Cx Γ "TapirGroupModel" prog_6_method_9_code 3 rm_M_groupView) (S : Std Γ (some .int)) (T : Tb Γ []) (hI : y_M_groupView.name = "<init>" → Ini Γ) (σ : Sg) (k : Nat → Int32 → Int32 → Option Int32) (hk : ∀ (a0 : Nat) (x1 : Int32) (x2 : Int32), G Γ (mkI σ) 0 0 4 [(0, .ref a0), (1, .int x1), (2, .int x2)] [] σ (k a0 x1 x2)) (a0 : Nat) (x2 : Int32) (t0 : Int32) : G Γ (mkI σ) 0 0 29 [(0, .ref a0), (2, .int x2)] [.int t0] σ (b_M_groupView_29 σ k a0 x2 t0) := by
  unfold b_M_groupView_29
  refine g_istore_n (pc := 29) (L' := [(1, .int t0), (0, .ref a0), (2, .int x2)]) K d_M_groupView_29 (by decide) rfl ?_
  refine g_iinc (pc := 30) (j := 2) (v := (x2 + 1)) (L' := [(2, .int (x2 + 1)), (1, .int t0), (0, .ref a0)]) K d_M_groupView_30 rfl (by rfl) (by decide) rfl ?_
  refine g_goto (pc := 33) (tgt := 4) K d_M_groupView_33 (by decide) ?_
  refine g_sub (L' := [(0, .ref a0), (1, .int t0), (2, .int (x2 + 1))]) [2, 1, 0] rfl ?_
  exact hk a0 t0 (x2 + 1)
def b_M_groupView_4 (σ : Sg) : Nat → Nat → Int32 → Int32 → Option Int32
  | 0 => fun _ _ _ => none
  | n + 1 => fun a0 x1 x2 => (if (3 : Int32) ≤ x2 then (some x1) else (if a0 < σ.1 ∧ kd a0 = 4 then rc (g_r σ a0 17) none (fun b1 => (if (b1 < σ.1 ∧ kd b1 = 10) ∧ inb x2 (ln b1) = true then (if (g_i σ b1 x2.toNatClampNeg) ≤ x1 then (b_M_groupView_29 σ (b_M_groupView_4 σ n) a0 x2 x1) else (if a0 < σ.1 ∧ kd a0 = 4 then rc (g_r σ a0 17) none (fun b2 => (if (b2 < σ.1 ∧ kd b2 = 10) ∧ inb x2 (ln b2) = true then (b_M_groupView_29 σ (b_M_groupView_4 σ n) a0 x2 (g_i σ b2 x2.toNatClampNeg)) else none)) else none)) else none)) else none))
set_option maxRecDepth 100000 in
set_option maxHeartbeats 4000000 in
theorem gb_M_groupView_4 {Γ : GX} (K : Cx Γ "TapirGroupModel" prog_6_method_9_code 3 rm_M_groupView) (S : Std Γ (some .int)) (T : Tb Γ []) (hI : y_M_groupView.name = "<init>" → Ini Γ) (σ : Sg) (n : Nat) : ∀ (a0 : Nat) (x1 : Int32) (x2 : Int32), G Γ (mkI σ) 0 0 4 [(0, .ref a0), (1, .int x1), (2, .int x2)] [] σ (b_M_groupView_4 σ n a0 x1 x2) := by
  induction n with
  | zero =>
    intro a0 x1 x2
    exact g_none
  | succ n ih =>
    intro a0 x1 x2
    rw [b_M_groupView_4]
    refine g_iload_n (pc := 4) (j := 2) K d_M_groupView_4 rfl ?_
    refine g_iconst (pc := 5) (v := 3) K d_M_groupView_5 (by decide) ?_
    refine g_icmp_ge (pc := 6) (tgt := 36) K d_M_groupView_6 (by decide) (fun _ => ?_) (fun _ => ?_)
    · refine g_iload_n (pc := 36) (j := 1) K d_M_groupView_36 rfl ?_
      exact g_iret (pc := 37) K S rfl d_M_groupView_37 (by decide) (by decide) rfl
    · refine g_aload_n (pc := 9) (j := 0) K d_M_groupView_9 rfl ?_
      refine g_getR (pc := 10) K fl_M_56 d_M_groupView_10 (fun _ => ?_) (fun b1 _ => ?_)
      · exact g_none
      · refine g_iload_n (pc := 13) (j := 2) K d_M_groupView_13 rfl ?_
        refine g_iald (pc := 14) K d_M_groupView_14 ?_
        refine g_iload_n (pc := 15) (j := 1) K d_M_groupView_15 rfl ?_
        refine g_icmp_le (pc := 16) (tgt := 28) K d_M_groupView_16 (by decide) (fun _ => ?_) (fun _ => ?_)
        · refine g_iload_n (pc := 28) (j := 1) K d_M_groupView_28 rfl ?_
          refine g_sub (L' := [(0, .ref a0), (2, .int x2)]) [0, 2] rfl ?_
          exact gb_M_groupView_29 K S T hI σ (b_M_groupView_4 σ n) ih a0 x2 x1
        · refine g_aload_n (pc := 19) (j := 0) K d_M_groupView_19 rfl ?_
          refine g_getR (pc := 20) K fl_M_56 d_M_groupView_20 (fun _ => ?_) (fun b2 _ => ?_)
          · exact g_none
          · refine g_iload_n (pc := 23) (j := 2) K d_M_groupView_23 rfl ?_
            refine g_iald (pc := 24) K d_M_groupView_24 ?_
            refine g_goto (pc := 25) (tgt := 29) K d_M_groupView_25 (by decide) ?_
            refine g_sub (L' := [(0, .ref a0), (2, .int x2)]) [0, 2] rfl ?_
            exact gb_M_groupView_29 K S T hI σ (b_M_groupView_4 σ n) ih a0 x2 (g_i σ b2 x2.toNatClampNeg)
def f_M_groupView (σ : Sg) (a0 : Nat) : Option Int32 := (b_M_groupView_4 σ 1000 a0 (0 : Int32) (0 : Int32))
set_option maxRecDepth 100000 in
set_option maxHeartbeats 4000000 in
theorem k_M_groupView (l : Launch) (hl : l.stackTraces = false) (σ : Sg) (a0 : Nat) (r : Int32) (h : f_M_groupView σ a0 = some r) : Con l y_M_groupView (.code y_M_groupView prog_6_method_9_code 3 (some .int)) rm_M_groupView [.ref a0] σ ((mkI σ) r) := by
  refine Con.of (mk := (mkI σ)) (o := f_M_groupView σ a0) (z := r) (L0 := [(0, .ref a0)]) (bytes := prog_6_method_9_code) (maxL := 3) (ret := (some .int)) (hh := []) hl (by decide +kernel) (Or.inl ⟨rfl, rfl⟩) (by simp [Value.category]) (Nat.le_of_ble_eq_true rfl) rfl (fun Γ K S T hI => ?_) h rfl
  unfold f_M_groupView
  refine g_iconst (pc := 0) (v := 0) K d_M_groupView_0 (by decide) ?_
  refine g_istore_n (pc := 1) (L' := [(1, .int (0 : Int32)), (0, .ref a0)]) K d_M_groupView_1 (by decide) rfl ?_
  refine g_iconst (pc := 2) (v := 0) K d_M_groupView_2 (by decide) ?_
  refine g_istore_n (pc := 3) (L' := [(2, .int (0 : Int32)), (1, .int (0 : Int32)), (0, .ref a0)]) K d_M_groupView_3 (by decide) rfl ?_
  refine g_sub (L' := [(0, .ref a0), (1, .int (0 : Int32)), (2, .int (0 : Int32))]) [2, 1, 0] rfl ?_
  exact gb_M_groupView_4 K S T hI σ 1000 a0 (0 : Int32) (0 : Int32)
-- TapirGroupModel.serves(I)Z
def y_M_serves : MethodName := ⟨"TapirGroupModel", "serves", "(I)Z"⟩
abbrev rm_M_serves : Room := { frames := 1, cells := 0, slots := 0, locals := 22 }
theorem d_M_serves_0 : decode prog_6_method_10_code 0 = .ok (.aload_n 0, 1) := by decide +kernel
theorem d_M_serves_1 : decode prog_6_method_10_code 1 = .ok (.getfield 53, 3) := by decide +kernel
theorem d_M_serves_4 : decode prog_6_method_10_code 4 = .ok (.iload_n 1, 1) := by decide +kernel
theorem d_M_serves_5 : decode prog_6_method_10_code 5 = .ok (.baload, 1) := by decide +kernel
theorem d_M_serves_6 : decode prog_6_method_10_code 6 = .ok (.ifCond .eq 20, 3) := by decide +kernel
theorem d_M_serves_9 : decode prog_6_method_10_code 9 = .ok (.aload_n 0, 1) := by decide +kernel
theorem d_M_serves_10 : decode prog_6_method_10_code 10 = .ok (.getfield 56, 3) := by decide +kernel
theorem d_M_serves_13 : decode prog_6_method_10_code 13 = .ok (.iload_n 1, 1) := by decide +kernel
theorem d_M_serves_14 : decode prog_6_method_10_code 14 = .ok (.iaload, 1) := by decide +kernel
theorem d_M_serves_15 : decode prog_6_method_10_code 15 = .ok (.aload_n 0, 1) := by decide +kernel
theorem d_M_serves_16 : decode prog_6_method_10_code 16 = .ok (.invokevirtual 92, 3) := by decide +kernel
theorem d_M_serves_19 : decode prog_6_method_10_code 19 = .ok (.if_icmp .ne 7, 3) := by decide +kernel
theorem d_M_serves_22 : decode prog_6_method_10_code 22 = .ok (.iconst 1, 1) := by decide +kernel
theorem d_M_serves_23 : decode prog_6_method_10_code 23 = .ok (.goto 4, 3) := by decide +kernel
theorem d_M_serves_26 : decode prog_6_method_10_code 26 = .ok (.iconst 0, 1) := by decide +kernel
theorem d_M_serves_27 : decode prog_6_method_10_code 27 = .ok (.ireturn, 1) := by decide +kernel
theorem cn_M_serves : CN y_M_serves (.code y_M_serves prog_6_method_10_code 2 (some .boolean)) prog_6_method_10_code 2 (some .boolean) [] 1 := ⟨Or.inl ⟨rfl, rfl⟩, mw_695, mw_5, ⟨by decide +kernel, by decide +kernel⟩, by decide +kernel⟩
def b_M_serves_27 (σ : Sg)  (t0 : Int32) : Option Int32 := (if t0 = 0 ∨ t0 = 1 then some t0 else none)
set_option maxRecDepth 100000 in
set_option maxHeartbeats 4000000 in
theorem gb_M_serves_27 {Γ : GX} (K : Cx Γ "TapirGroupModel" prog_6_method_10_code 2 rm_M_serves) (S : Std Γ (some .boolean)) (T : Tb Γ []) (hI : y_M_serves.name = "<init>" → Ini Γ) (σ : Sg) (t0 : Int32) : G Γ (mkI σ) 0 0 27 [] [.int t0] σ (b_M_serves_27 σ t0) := by
  unfold b_M_serves_27
  exact g_zret (pc := 27) K S d_M_serves_27 (by decide) (by decide) rfl
def b_M_serves_26 (σ : Sg)   : Option Int32 := (b_M_serves_27 σ (0 : Int32))
set_option maxRecDepth 100000 in
set_option maxHeartbeats 4000000 in
theorem gb_M_serves_26 {Γ : GX} (K : Cx Γ "TapirGroupModel" prog_6_method_10_code 2 rm_M_serves) (S : Std Γ (some .boolean)) (T : Tb Γ []) (hI : y_M_serves.name = "<init>" → Ini Γ) (σ : Sg)  : G Γ (mkI σ) 0 0 26 [] [] σ (b_M_serves_26 σ ) := by
  unfold b_M_serves_26
  refine g_iconst (pc := 26) (v := 0) K d_M_serves_26 (by decide) ?_
  exact gb_M_serves_27 K S T hI σ (0 : Int32)
def f_M_serves (σ : Sg) (a0 : Nat) (x1 : Int32) : Option Int32 := (if a0 < σ.1 ∧ kd a0 = 4 then rc (g_r σ a0 16) none (fun b1 => (if (b1 < σ.1 ∧ kd b1 = 11) ∧ inb x1 (ln b1) = true then (if (g_i σ b1 x1.toNatClampNeg) = 0 then (b_M_serves_26 σ) else (if a0 < σ.1 ∧ kd a0 = 4 then rc (g_r σ a0 17) none (fun b2 => (if (b2 < σ.1 ∧ kd b2 = 10) ∧ inb x1 (ln b2) = true then (if a0 < σ.1 ∧ kd a0 = 4 then (f_M_groupView σ a0).bind (fun v3 => (if (g_i σ b2 x1.toNatClampNeg) = v3 then (b_M_serves_27 σ (1 : Int32)) else (b_M_serves_26 σ))) else none) else none)) else none)) else none)) else none)
set_option maxRecDepth 100000 in
set_option maxHeartbeats 4000000 in
theorem k_M_serves (l : Launch) (hl : l.stackTraces = false) (σ : Sg) (a0 : Nat) (x1 : Int32) (r : Int32) (h : f_M_serves σ a0 x1 = some r) : Con l y_M_serves (.code y_M_serves prog_6_method_10_code 2 (some .boolean)) rm_M_serves [.ref a0, .int x1] σ ((mkI σ) r) := by
  refine Con.of (mk := (mkI σ)) (o := f_M_serves σ a0 x1) (z := r) (L0 := [(0, .ref a0), (1, .int x1)]) (bytes := prog_6_method_10_code) (maxL := 2) (ret := (some .boolean)) (hh := []) hl (by decide +kernel) (Or.inl ⟨rfl, rfl⟩) (by simp [Value.category]) (Nat.le_of_ble_eq_true rfl) rfl (fun Γ K S T hI => ?_) h rfl
  unfold f_M_serves
  refine g_aload_n (pc := 0) (j := 0) K d_M_serves_0 rfl ?_
  refine g_getR (pc := 1) K fl_M_53 d_M_serves_1 (fun _ => ?_) (fun b1 _ => ?_)
  · exact g_none
  · refine g_iload_n (pc := 4) (j := 1) K d_M_serves_4 rfl ?_
    refine g_zald (pc := 5) K d_M_serves_5 ?_
    refine g_if_eq (pc := 6) (tgt := 26) K d_M_serves_6 (by decide) (fun _ => ?_) (fun _ => ?_)
    · refine g_sub (L' := []) [] rfl ?_
      exact gb_M_serves_26 K S T hI σ
    · refine g_aload_n (pc := 9) (j := 0) K d_M_serves_9 rfl ?_
      refine g_getR (pc := 10) K fl_M_56 d_M_serves_10 (fun _ => ?_) (fun b2 _ => ?_)
      · exact g_none
      · refine g_iload_n (pc := 13) (j := 1) K d_M_serves_13 rfl ?_
        refine g_iald (pc := 14) K d_M_serves_14 ?_
        refine g_aload_n (pc := 15) (j := 0) K d_M_serves_15 rfl ?_
        refine g_callV (pc := 16) (ci := 4) (a := a0) (vs := []) (st := [.int (g_i σ b2 x1.toNatClampNeg)]) (mkc := mkI σ) K rfl (by decide) cn_M_groupView (fun l hl r hr => k_M_groupView l hl _ _ r hr) mw_696 mw_698 ms_20 ⟨by decide, by decide, by decide, by decide⟩ d_M_serves_16 rfl rfl (Nat.le_of_ble_eq_true rfl) (fun v3 _ => ?_)
        change G Γ (mkI σ) 0 0 19 [(0, .ref a0), (1, .int x1)] [.int v3, .int (g_i σ b2 x1.toNatClampNeg)] σ _
        refine g_icmp_ne (pc := 19) (tgt := 26) K d_M_serves_19 (by decide) (fun _ => ?_) (fun _ => ?_)
        · refine g_sub (L' := []) [] rfl ?_
          exact gb_M_serves_26 K S T hI σ
        · refine g_iconst (pc := 22) (v := 1) K d_M_serves_22 (by decide) ?_
          refine g_goto (pc := 23) (tgt := 27) K d_M_serves_23 (by decide) ?_
          refine g_sub (L' := []) [] rfl ?_
          exact gb_M_serves_27 K S T hI σ (1 : Int32)
