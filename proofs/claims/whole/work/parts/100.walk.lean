-- java/util/Arrays.fill([II)V
def y_J_fill : MethodName := ⟨"java/util/Arrays", "fill", "([II)V"⟩
abbrev rm_J_fill : Room := { frames := 0, cells := 0, slots := 0, locals := 0 }
theorem d_J_fill_0 : decode prog_17_method_103_code 0 = .ok (.iconst 0, 1) := by decide +kernel
theorem d_J_fill_1 : decode prog_17_method_103_code 1 = .ok (.istore_n 2, 1) := by decide +kernel
theorem d_J_fill_2 : decode prog_17_method_103_code 2 = .ok (.aload_n 0, 1) := by decide +kernel
theorem d_J_fill_3 : decode prog_17_method_103_code 3 = .ok (.arraylength, 1) := by decide +kernel
theorem d_J_fill_4 : decode prog_17_method_103_code 4 = .ok (.istore_n 3, 1) := by decide +kernel
theorem d_J_fill_5 : decode prog_17_method_103_code 5 = .ok (.iload_n 2, 1) := by decide +kernel
theorem d_J_fill_6 : decode prog_17_method_103_code 6 = .ok (.iload_n 3, 1) := by decide +kernel
theorem d_J_fill_7 : decode prog_17_method_103_code 7 = .ok (.if_icmp .ge 13, 3) := by decide +kernel
theorem d_J_fill_10 : decode prog_17_method_103_code 10 = .ok (.aload_n 0, 1) := by decide +kernel
theorem d_J_fill_11 : decode prog_17_method_103_code 11 = .ok (.iload_n 2, 1) := by decide +kernel
theorem d_J_fill_12 : decode prog_17_method_103_code 12 = .ok (.iload_n 1, 1) := by decide +kernel
theorem d_J_fill_13 : decode prog_17_method_103_code 13 = .ok (.iastore, 1) := by decide +kernel
theorem d_J_fill_14 : decode prog_17_method_103_code 14 = .ok (.iinc 2 1, 3) := by decide +kernel
theorem d_J_fill_17 : decode prog_17_method_103_code 17 = .ok (.goto (-12), 3) := by decide +kernel
theorem d_J_fill_20 : decode prog_17_method_103_code 20 = .ok (.return_, 1) := by decide +kernel
theorem cn_J_fill : CN y_J_fill (.code y_J_fill prog_17_method_103_code 4 none) prog_17_method_103_code 4 none [] 2 := ⟨Or.inl ⟨rfl, rfl⟩, mw_37, mw_3, ⟨by decide +kernel, by decide +kernel⟩, by decide +kernel⟩
def b_J_fill_5 : Nat → Sg → Nat → Int32 → Int32 → Int32 → Option Sg
  | 0 => fun _ _ _ _ _ => none
  | n + 1 => fun σ a0 x1 x2 x3 => (if x3 ≤ x2 then (some σ) else (if (a0 < σ.1 ∧ kd a0 = 10) ∧ inb x2 (ln a0) = true then (wi (s_i σ a0 x2.toNatClampNeg x1) (fun s2 => (b_J_fill_5 n s2 a0 x1 (x2 + 1) x3))) else none))
set_option maxRecDepth 100000 in
set_option maxHeartbeats 4000000 in
theorem gb_J_fill_5 {Γ : GX} (K : Cx Γ "java/util/Arrays" prog_17_method_103_code 4 rm_J_fill) (S : Std Γ none) (T : Tb Γ []) (hI : y_J_fill.name = "<init>" → Ini Γ) (n : Nat) : ∀ (σ : Sg) (a0 : Nat) (x1 : Int32) (x2 : Int32) (x3 : Int32), G Γ mkV 0 0 5 [(0, .ref a0), (1, .int x1), (2, .int x2), (3, .int x3)] [] σ (b_J_fill_5 n σ a0 x1 x2 x3) := by
  induction n with
  | zero =>
    intro σ a0 x1 x2 x3
    exact g_none
  | succ n ih =>
    intro σ a0 x1 x2 x3
    rw [b_J_fill_5]
    refine g_iload_n (pc := 5) (j := 2) K d_J_fill_5 rfl ?_
    refine g_iload_n (pc := 6) (j := 3) K d_J_fill_6 rfl ?_
    refine g_icmp_ge (pc := 7) (tgt := 20) K d_J_fill_7 (by decide) (fun _ => ?_) (fun _ => ?_)
    · exact g_vret (pc := 20) K S d_J_fill_20 (by decide) (by decide) rfl
    · refine g_aload_n (pc := 10) (j := 0) K d_J_fill_10 rfl ?_
      refine g_iload_n (pc := 11) (j := 2) K d_J_fill_11 rfl ?_
      refine g_iload_n (pc := 12) (j := 1) K d_J_fill_12 rfl ?_
      refine g_iast (pc := 13) K d_J_fill_13 ?_
      refine g_wi (fun s2 _ => ?_)
      refine g_iinc (pc := 14) (j := 2) (v := (x2 + 1)) (L' := [(2, .int (x2 + 1)), (0, .ref a0), (1, .int x1), (3, .int x3)]) K d_J_fill_14 rfl (by rfl) (by decide) rfl ?_
      refine g_goto (pc := 17) (tgt := 5) K d_J_fill_17 (by decide) ?_
      refine g_sub (L' := [(0, .ref a0), (1, .int x1), (2, .int (x2 + 1)), (3, .int x3)]) [1, 2, 0, 3] rfl ?_
      exact ih s2 a0 x1 (x2 + 1) x3
def f_J_fill (σ : Sg) (a0 : Nat) (x1 : Int32) : Option Sg := (if a0 < σ.1 ∧ kd a0 = 10 then (wn (nI (ln a0)) (fun y1 => (b_J_fill_5 1000 σ a0 x1 (0 : Int32) y1))) else none)
set_option maxRecDepth 100000 in
set_option maxHeartbeats 4000000 in
theorem k_J_fill (l : Launch) (hl : l.stackTraces = false) (σ : Sg) (a0 : Nat) (x1 : Int32) (r : Sg) (h : f_J_fill σ a0 x1 = some r) : Con l y_J_fill (.code y_J_fill prog_17_method_103_code 4 none) rm_J_fill [.ref a0, .int x1] σ (mkV r) := by
  refine Con.of (mk := mkV) (o := f_J_fill σ a0 x1) (z := r) (L0 := [(0, .ref a0), (1, .int x1)]) (bytes := prog_17_method_103_code) (maxL := 4) (ret := none) (hh := []) hl (by decide +kernel) (Or.inl ⟨rfl, rfl⟩) (by simp [Value.category]) (Nat.le_of_ble_eq_true rfl) rfl (fun Γ K S T hI => ?_) h rfl
  unfold f_J_fill
  refine g_iconst (pc := 0) (v := 0) K d_J_fill_0 (by decide) ?_
  refine g_istore_n (pc := 1) (L' := [(2, .int (0 : Int32)), (0, .ref a0), (1, .int x1)]) K d_J_fill_1 (by decide) rfl ?_
  refine g_aload_n (pc := 2) (j := 1) K d_J_fill_2 rfl ?_
  refine g_alen (pc := 3) K d_J_fill_3 ?_
  refine g_wn (fun y1 _ => ?_)
  refine g_istore_n (pc := 4) (L' := [(3, .int y1), (2, .int (0 : Int32)), (0, .ref a0), (1, .int x1)]) K d_J_fill_4 (by decide) rfl ?_
  refine g_sub (L' := [(0, .ref a0), (1, .int x1), (2, .int (0 : Int32)), (3, .int y1)]) [2, 3, 1, 0] rfl ?_
  exact gb_J_fill_5 K S T hI 1000 σ a0 x1 (0 : Int32) y1
-- TapirGroup$Replica.<init>()V
def y_R_init : MethodName := ⟨"TapirGroup$Replica", "<init>", "()V"⟩
abbrev rm_R_init : Room := { frames := 1, cells := 4, slots := 79, locals := 23 }
theorem d_R_init_0 : decode prog_3_method_1_code 0 = .ok (.aload_n 0, 1) := by decide +kernel
theorem d_R_init_1 : decode prog_3_method_1_code 1 = .ok (.invokespecial 3, 3) := by decide +kernel
theorem d_R_init_4 : decode prog_3_method_1_code 4 = .ok (.aload_n 0, 1) := by decide +kernel
theorem d_R_init_5 : decode prog_3_method_1_code 5 = .ok (.iconst 1, 1) := by decide +kernel
theorem d_R_init_6 : decode prog_3_method_1_code 6 = .ok (.putfield 9, 3) := by decide +kernel
theorem d_R_init_9 : decode prog_3_method_1_code 9 = .ok (.aload_n 0, 1) := by decide +kernel
theorem d_R_init_10 : decode prog_3_method_1_code 10 = .ok (.iconst 0, 1) := by decide +kernel
theorem d_R_init_11 : decode prog_3_method_1_code 11 = .ok (.putfield 15, 3) := by decide +kernel
theorem d_R_init_14 : decode prog_3_method_1_code 14 = .ok (.aload_n 0, 1) := by decide +kernel
theorem d_R_init_15 : decode prog_3_method_1_code 15 = .ok (.bipush 6, 2) := by decide +kernel
theorem d_R_init_17 : decode prog_3_method_1_code 17 = .ok (.newarray .int, 2) := by decide +kernel
theorem d_R_init_19 : decode prog_3_method_1_code 19 = .ok (.putfield 19, 3) := by decide +kernel
theorem d_R_init_22 : decode prog_3_method_1_code 22 = .ok (.aload_n 0, 1) := by decide +kernel
theorem d_R_init_23 : decode prog_3_method_1_code 23 = .ok (.bipush 6, 2) := by decide +kernel
theorem d_R_init_25 : decode prog_3_method_1_code 25 = .ok (.newarray .int, 2) := by decide +kernel
theorem d_R_init_27 : decode prog_3_method_1_code 27 = .ok (.putfield 23, 3) := by decide +kernel
theorem d_R_init_30 : decode prog_3_method_1_code 30 = .ok (.aload_n 0, 1) := by decide +kernel
theorem d_R_init_31 : decode prog_3_method_1_code 31 = .ok (.bipush 6, 2) := by decide +kernel
theorem d_R_init_33 : decode prog_3_method_1_code 33 = .ok (.newarray .int, 2) := by decide +kernel
theorem d_R_init_35 : decode prog_3_method_1_code 35 = .ok (.putfield 26, 3) := by decide +kernel
theorem d_R_init_38 : decode prog_3_method_1_code 38 = .ok (.aload_n 0, 1) := by decide +kernel
theorem d_R_init_39 : decode prog_3_method_1_code 39 = .ok (.bipush 61, 2) := by decide +kernel
theorem d_R_init_41 : decode prog_3_method_1_code 41 = .ok (.newarray .int, 2) := by decide +kernel
theorem d_R_init_43 : decode prog_3_method_1_code 43 = .ok (.putfield 29, 3) := by decide +kernel
theorem d_R_init_46 : decode prog_3_method_1_code 46 = .ok (.aload_n 0, 1) := by decide +kernel
theorem d_R_init_47 : decode prog_3_method_1_code 47 = .ok (.getfield 29, 3) := by decide +kernel
theorem d_R_init_50 : decode prog_3_method_1_code 50 = .ok (.iconst (-1), 1) := by decide +kernel
theorem d_R_init_51 : decode prog_3_method_1_code 51 = .ok (.invokestatic 32, 3) := by decide +kernel
theorem d_R_init_54 : decode prog_3_method_1_code 54 = .ok (.return_, 1) := by decide +kernel
theorem cn_R_init : CN y_R_init (.code y_R_init prog_3_method_1_code 1 none) prog_3_method_1_code 1 none [] 0 := ⟨Or.inl ⟨rfl, rfl⟩, mw_33, mw_2, ⟨by decide +kernel, by decide +kernel⟩, by decide +kernel⟩
def f_R_init (σ : Sg) (a0 : Nat) : Option Sg := (if (a0 < σ.1 ∧ kd a0 = 1) ∧ ((1 : Int32) = 0 ∨ (1 : Int32) = 1) then (wi (s_i σ a0 0 (1 : Int32)) (fun s1 => (if a0 < s1.1 ∧ kd a0 = 1 then (wi (s_i s1 a0 1 (0 : Int32)) (fun s2 => (if (kd s2.1 = 10 ∧ ln s2.1 = 6) ∧ s2.1 < SCR then (wi (s_n s2) (fun s3 => (if (a0 < s3.1 ∧ kd a0 = 1) ∧ s2.1 < s3.1 then (wi (s_r s3 a0 2 (some s2.1)) (fun s4 => (if (kd s4.1 = 10 ∧ ln s4.1 = 6) ∧ s4.1 < SCR then (wi (s_n s4) (fun s5 => (if (a0 < s5.1 ∧ kd a0 = 1) ∧ s4.1 < s5.1 then (wi (s_r s5 a0 3 (some s4.1)) (fun s6 => (if (kd s6.1 = 10 ∧ ln s6.1 = 6) ∧ s6.1 < SCR then (wi (s_n s6) (fun s7 => (if (a0 < s7.1 ∧ kd a0 = 1) ∧ s6.1 < s7.1 then (wi (s_r s7 a0 4 (some s6.1)) (fun s8 => (if (kd s8.1 = 10 ∧ ln s8.1 = 61) ∧ s8.1 < SCR then (wi (s_n s8) (fun s9 => (if (a0 < s9.1 ∧ kd a0 = 1) ∧ s8.1 < s9.1 then (wi (s_r s9 a0 5 (some s8.1)) (fun s10 => (if a0 < s10.1 ∧ kd a0 = 1 then rc (g_r s10 a0 5) none (fun b11 => ((f_J_fill s10 b11 (-1 : Int32)).bind (fun s12 => (some s12)))) else none))) else none))) else none))) else none))) else none))) else none))) else none))) else none))) else none))) else none))) else none)
set_option maxRecDepth 100000 in
set_option maxHeartbeats 4000000 in
theorem k_R_init (l : Launch) (hl : l.stackTraces = false) (σ : Sg) (a0 : Nat) (r : Sg) (h : f_R_init σ a0 = some r) : Con l y_R_init (.code y_R_init prog_3_method_1_code 1 none) rm_R_init [.ref a0] σ (mkV r) := by
  refine Con.of (mk := mkV) (o := f_R_init σ a0) (z := r) (L0 := [(0, .ref a0)]) (bytes := prog_3_method_1_code) (maxL := 1) (ret := none) (hh := []) hl (by decide +kernel) (Or.inl ⟨rfl, rfl⟩) (by simp [Value.category]) (Nat.le_of_ble_eq_true rfl) rfl (fun Γ K S T hI => ?_) h rfl
  unfold f_R_init
  refine g_aload_n (pc := 0) (j := 0) K d_R_init_0 rfl ?_
  refine g_objInit (pc := 1) K mw_34 mw_22 mw_23 (by decide) (by decide) (Nat.le_of_ble_eq_true rfl) d_R_init_1 ?_
  refine g_aload_n (pc := 4) (j := 0) K d_R_init_4 rfl ?_
  refine g_iconst (pc := 5) (v := 1) K d_R_init_5 (by decide) ?_
  refine g_putZ (pc := 6) K fl_R_9 d_R_init_6 ?_
  refine g_wi (fun s1 _ => ?_)
  refine g_aload_n (pc := 9) (j := 0) K d_R_init_9 rfl ?_
  refine g_iconst (pc := 10) (v := 0) K d_R_init_10 (by decide) ?_
  refine g_putI (pc := 11) K fl_R_15 d_R_init_11 ?_
  refine g_wi (fun s2 _ => ?_)
  refine g_aload_n (pc := 14) (j := 0) K d_R_init_14 rfl ?_
  refine g_bipush (pc := 15) (v := 6) K d_R_init_15 (by decide) ?_
  refine g_newI (pc := 17) (N := 6) K mw_63 d_R_init_17 (by decide) (by decide) (by decide) (by decide) (by decide) ?_
  refine g_wi (fun s3 _ => ?_)
  refine g_putRF (pc := 19) K (hI rfl) (fun _ _ _ h => by cases h; rfl) fl_R_19 d_R_init_19 ?_
  refine g_wi (fun s4 _ => ?_)
  refine g_aload_n (pc := 22) (j := 0) K d_R_init_22 rfl ?_
  refine g_bipush (pc := 23) (v := 6) K d_R_init_23 (by decide) ?_
  refine g_newI (pc := 25) (N := 6) K mw_63 d_R_init_25 (by decide) (by decide) (by decide) (by decide) (by decide) ?_
  refine g_wi (fun s5 _ => ?_)
  refine g_putRF (pc := 27) K (hI rfl) (fun _ _ _ h => by cases h; rfl) fl_R_23 d_R_init_27 ?_
  refine g_wi (fun s6 _ => ?_)
  refine g_aload_n (pc := 30) (j := 0) K d_R_init_30 rfl ?_
  refine g_bipush (pc := 31) (v := 6) K d_R_init_31 (by decide) ?_
  refine g_newI (pc := 33) (N := 6) K mw_63 d_R_init_33 (by decide) (by decide) (by decide) (by decide) (by decide) ?_
  refine g_wi (fun s7 _ => ?_)
  refine g_putRF (pc := 35) K (hI rfl) (fun _ _ _ h => by cases h; rfl) fl_R_26 d_R_init_35 ?_
  refine g_wi (fun s8 _ => ?_)
  refine g_aload_n (pc := 38) (j := 0) K d_R_init_38 rfl ?_
  refine g_bipush (pc := 39) (v := 61) K d_R_init_39 (by decide) ?_
  refine g_newI (pc := 41) (N := 61) K mw_63 d_R_init_41 (by decide) (by decide) (by decide) (by decide) (by decide) ?_
  refine g_wi (fun s9 _ => ?_)
  refine g_putRF (pc := 43) K (hI rfl) (fun _ _ _ h => by cases h; rfl) fl_R_29 d_R_init_43 ?_
  refine g_wi (fun s10 _ => ?_)
  refine g_aload_n (pc := 46) (j := 0) K d_R_init_46 rfl ?_
  refine g_getR (pc := 47) K fl_R_29 d_R_init_47 (fun _ => ?_) (fun b11 _ => ?_)
  · exact g_none
  · refine g_iconst (pc := 50) (v := -1) K d_R_init_50 (by decide) ?_
    refine g_callS (pc := 51) (vs := [.ref b11, .int (-1 : Int32)]) (st := []) (mkc := mkV) K cn_J_fill (fun l hl r hr => k_J_fill l hl _ _ _ r hr) mw_35 mw_36 ⟨by decide, by decide, by decide, by decide⟩ d_R_init_51 rfl rfl (Nat.le_of_ble_eq_true rfl) (fun s12 _ => ?_)
    change G Γ mkV 4 79 54 [(0, .ref a0)] [] s12 _
    exact g_vret (pc := 54) K S d_R_init_54 (by decide) (by decide) rfl
-- TapirGroup$Client.<init>()V
def y_C_init : MethodName := ⟨"TapirGroup$Client", "<init>", "()V"⟩
abbrev rm_C_init : Room := { frames := 1, cells := 1, slots := 3, locals := 23 }
theorem d_C_init_0 : decode prog_2_method_1_code 0 = .ok (.aload_n 0, 1) := by decide +kernel
theorem d_C_init_1 : decode prog_2_method_1_code 1 = .ok (.invokespecial 3, 3) := by decide +kernel
theorem d_C_init_4 : decode prog_2_method_1_code 4 = .ok (.aload_n 0, 1) := by decide +kernel
theorem d_C_init_5 : decode prog_2_method_1_code 5 = .ok (.aconst_null, 1) := by decide +kernel
theorem d_C_init_6 : decode prog_2_method_1_code 6 = .ok (.putfield 9, 3) := by decide +kernel
theorem d_C_init_9 : decode prog_2_method_1_code 9 = .ok (.aload_n 0, 1) := by decide +kernel
theorem d_C_init_10 : decode prog_2_method_1_code 10 = .ok (.iconst 0, 1) := by decide +kernel
theorem d_C_init_11 : decode prog_2_method_1_code 11 = .ok (.putfield 15, 3) := by decide +kernel
theorem d_C_init_14 : decode prog_2_method_1_code 14 = .ok (.aload_n 0, 1) := by decide +kernel
theorem d_C_init_15 : decode prog_2_method_1_code 15 = .ok (.iconst 0, 1) := by decide +kernel
theorem d_C_init_16 : decode prog_2_method_1_code 16 = .ok (.putfield 19, 3) := by decide +kernel
theorem d_C_init_19 : decode prog_2_method_1_code 19 = .ok (.aload_n 0, 1) := by decide +kernel
theorem d_C_init_20 : decode prog_2_method_1_code 20 = .ok (.iconst (-1), 1) := by decide +kernel
theorem d_C_init_21 : decode prog_2_method_1_code 21 = .ok (.putfield 22, 3) := by decide +kernel
theorem d_C_init_24 : decode prog_2_method_1_code 24 = .ok (.aload_n 0, 1) := by decide +kernel
theorem d_C_init_25 : decode prog_2_method_1_code 25 = .ok (.iconst 0, 1) := by decide +kernel
theorem d_C_init_26 : decode prog_2_method_1_code 26 = .ok (.putfield 25, 3) := by decide +kernel
theorem d_C_init_29 : decode prog_2_method_1_code 29 = .ok (.aload_n 0, 1) := by decide +kernel
theorem d_C_init_30 : decode prog_2_method_1_code 30 = .ok (.iconst 3, 1) := by decide +kernel
theorem d_C_init_31 : decode prog_2_method_1_code 31 = .ok (.newarray .int, 2) := by decide +kernel
theorem d_C_init_33 : decode prog_2_method_1_code 33 = .ok (.putfield 28, 3) := by decide +kernel
theorem d_C_init_36 : decode prog_2_method_1_code 36 = .ok (.aload_n 0, 1) := by decide +kernel
theorem d_C_init_37 : decode prog_2_method_1_code 37 = .ok (.getfield 28, 3) := by decide +kernel
theorem d_C_init_40 : decode prog_2_method_1_code 40 = .ok (.iconst (-1), 1) := by decide +kernel
theorem d_C_init_41 : decode prog_2_method_1_code 41 = .ok (.invokestatic 32, 3) := by decide +kernel
theorem d_C_init_44 : decode prog_2_method_1_code 44 = .ok (.return_, 1) := by decide +kernel
theorem cn_C_init : CN y_C_init (.code y_C_init prog_2_method_1_code 1 none) prog_2_method_1_code 1 none [] 0 := ⟨Or.inl ⟨rfl, rfl⟩, mw_67, mw_4, ⟨by decide +kernel, by decide +kernel⟩, by decide +kernel⟩
def f_C_init (σ : Sg) (a0 : Nat) : Option Sg := (if a0 < σ.1 ∧ kd a0 = 0 then (wi (s_r σ a0 0 none) (fun s1 => (if a0 < s1.1 ∧ kd a0 = 0 then (wi (s_i s1 a0 1 (0 : Int32)) (fun s2 => (if a0 < s2.1 ∧ kd a0 = 0 then (wi (s_i s2 a0 2 (0 : Int32)) (fun s3 => (if a0 < s3.1 ∧ kd a0 = 0 then (wi (s_i s3 a0 3 (-1 : Int32)) (fun s4 => (if a0 < s4.1 ∧ kd a0 = 0 then (wi (s_i s4 a0 4 (0 : Int32)) (fun s5 => (if (kd s5.1 = 10 ∧ ln s5.1 = 3) ∧ s5.1 < SCR then (wi (s_n s5) (fun s6 => (if (a0 < s6.1 ∧ kd a0 = 0) ∧ s5.1 < s6.1 then (wi (s_r s6 a0 5 (some s5.1)) (fun s7 => (if a0 < s7.1 ∧ kd a0 = 0 then rc (g_r s7 a0 5) none (fun b8 => ((f_J_fill s7 b8 (-1 : Int32)).bind (fun s9 => (some s9)))) else none))) else none))) else none))) else none))) else none))) else none))) else none))) else none)
set_option maxRecDepth 100000 in
set_option maxHeartbeats 4000000 in
theorem k_C_init (l : Launch) (hl : l.stackTraces = false) (σ : Sg) (a0 : Nat) (r : Sg) (h : f_C_init σ a0 = some r) : Con l y_C_init (.code y_C_init prog_2_method_1_code 1 none) rm_C_init [.ref a0] σ (mkV r) := by
  refine Con.of (mk := mkV) (o := f_C_init σ a0) (z := r) (L0 := [(0, .ref a0)]) (bytes := prog_2_method_1_code) (maxL := 1) (ret := none) (hh := []) hl (by decide +kernel) (Or.inl ⟨rfl, rfl⟩) (by simp [Value.category]) (Nat.le_of_ble_eq_true rfl) rfl (fun Γ K S T hI => ?_) h rfl
  unfold f_C_init
  refine g_aload_n (pc := 0) (j := 0) K d_C_init_0 rfl ?_
  refine g_objInit (pc := 1) K mw_68 mw_22 mw_23 (by decide) (by decide) (Nat.le_of_ble_eq_true rfl) d_C_init_1 ?_
  refine g_aload_n (pc := 4) (j := 0) K d_C_init_4 rfl ?_
  refine g_null (pc := 5) K d_C_init_5 ?_
  refine g_putN (pc := 6) K fl_C_9 d_C_init_6 ?_
  refine g_wi (fun s1 _ => ?_)
  refine g_aload_n (pc := 9) (j := 0) K d_C_init_9 rfl ?_
  refine g_iconst (pc := 10) (v := 0) K d_C_init_10 (by decide) ?_
  refine g_putI (pc := 11) K fl_C_15 d_C_init_11 ?_
  refine g_wi (fun s2 _ => ?_)
  refine g_aload_n (pc := 14) (j := 0) K d_C_init_14 rfl ?_
  refine g_iconst (pc := 15) (v := 0) K d_C_init_15 (by decide) ?_
  refine g_putI (pc := 16) K fl_C_19 d_C_init_16 ?_
  refine g_wi (fun s3 _ => ?_)
  refine g_aload_n (pc := 19) (j := 0) K d_C_init_19 rfl ?_
  refine g_iconst (pc := 20) (v := -1) K d_C_init_20 (by decide) ?_
  refine g_putI (pc := 21) K fl_C_22 d_C_init_21 ?_
  refine g_wi (fun s4 _ => ?_)
  refine g_aload_n (pc := 24) (j := 0) K d_C_init_24 rfl ?_
  refine g_iconst (pc := 25) (v := 0) K d_C_init_25 (by decide) ?_
  refine g_putI (pc := 26) K fl_C_25 d_C_init_26 ?_
  refine g_wi (fun s5 _ => ?_)
  refine g_aload_n (pc := 29) (j := 0) K d_C_init_29 rfl ?_
  refine g_iconst (pc := 30) (v := 3) K d_C_init_30 (by decide) ?_
  refine g_newI (pc := 31) (N := 3) K mw_63 d_C_init_31 (by decide) (by decide) (by decide) (by decide) (by decide) ?_
  refine g_wi (fun s6 _ => ?_)
  refine g_putRF (pc := 33) K (hI rfl) (fun _ _ _ h => by cases h; rfl) fl_C_28 d_C_init_33 ?_
  refine g_wi (fun s7 _ => ?_)
  refine g_aload_n (pc := 36) (j := 0) K d_C_init_36 rfl ?_
  refine g_getR (pc := 37) K fl_C_28 d_C_init_37 (fun _ => ?_) (fun b8 _ => ?_)
  · exact g_none
  · refine g_iconst (pc := 40) (v := -1) K d_C_init_40 (by decide) ?_
    refine g_callS (pc := 41) (vs := [.ref b8, .int (-1 : Int32)]) (st := []) (mkc := mkV) K cn_J_fill (fun l hl r hr => k_J_fill l hl _ _ _ r hr) mw_69 mw_36 ⟨by decide, by decide, by decide, by decide⟩ d_C_init_41 rfl rfl (Nat.le_of_ble_eq_true rfl) (fun s9 _ => ?_)
    change G Γ mkV 1 3 44 [(0, .ref a0)] [] s9 _
    exact g_vret (pc := 44) K S d_C_init_44 (by decide) (by decide) rfl
-- TapirGroup.<init>()V
def y_G_init : MethodName := ⟨"TapirGroup", "<init>", "()V"⟩
abbrev rm_G_init : Room := { frames := 2, cells := 26, slots := 359, locals := 43 }
theorem d_G_init_0 : decode prog_1_method_1_code 0 = .ok (.aload_n 0, 1) := by decide +kernel
theorem d_G_init_1 : decode prog_1_method_1_code 1 = .ok (.invokespecial 1, 3) := by decide +kernel
theorem d_G_init_4 : decode prog_1_method_1_code 4 = .ok (.aload_n 0, 1) := by decide +kernel
theorem d_G_init_5 : decode prog_1_method_1_code 5 = .ok (.iconst 3, 1) := by decide +kernel
theorem d_G_init_6 : decode prog_1_method_1_code 6 = .ok (.anewarray 9, 3) := by decide +kernel
theorem d_G_init_9 : decode prog_1_method_1_code 9 = .ok (.putfield 11, 3) := by decide +kernel
theorem d_G_init_12 : decode prog_1_method_1_code 12 = .ok (.aload_n 0, 1) := by decide +kernel
theorem d_G_init_13 : decode prog_1_method_1_code 13 = .ok (.iconst 4, 1) := by decide +kernel
theorem d_G_init_14 : decode prog_1_method_1_code 14 = .ok (.anewarray 15, 3) := by decide +kernel
theorem d_G_init_17 : decode prog_1_method_1_code 17 = .ok (.putfield 17, 3) := by decide +kernel
theorem d_G_init_20 : decode prog_1_method_1_code 20 = .ok (.aload_n 0, 1) := by decide +kernel
theorem d_G_init_21 : decode prog_1_method_1_code 21 = .ok (.bipush 61, 2) := by decide +kernel
theorem d_G_init_23 : decode prog_1_method_1_code 23 = .ok (.anewarray 21, 3) := by decide +kernel
theorem d_G_init_26 : decode prog_1_method_1_code 26 = .ok (.putfield 23, 3) := by decide +kernel
theorem d_G_init_29 : decode prog_1_method_1_code 29 = .ok (.aload_n 0, 1) := by decide +kernel
theorem d_G_init_30 : decode prog_1_method_1_code 30 = .ok (.iconst 0, 1) := by decide +kernel
theorem d_G_init_31 : decode prog_1_method_1_code 31 = .ok (.putfield 27, 3) := by decide +kernel
theorem d_G_init_34 : decode prog_1_method_1_code 34 = .ok (.iconst 0, 1) := by decide +kernel
theorem d_G_init_35 : decode prog_1_method_1_code 35 = .ok (.istore_n 1, 1) := by decide +kernel
theorem d_G_init_36 : decode prog_1_method_1_code 36 = .ok (.iload_n 1, 1) := by decide +kernel
theorem d_G_init_37 : decode prog_1_method_1_code 37 = .ok (.iconst 3, 1) := by decide +kernel
theorem d_G_init_38 : decode prog_1_method_1_code 38 = .ok (.if_icmp .ge 22, 3) := by decide +kernel
theorem d_G_init_41 : decode prog_1_method_1_code 41 = .ok (.aload_n 0, 1) := by decide +kernel
theorem d_G_init_42 : decode prog_1_method_1_code 42 = .ok (.getfield 11, 3) := by decide +kernel
theorem d_G_init_45 : decode prog_1_method_1_code 45 = .ok (.iload_n 1, 1) := by decide +kernel
theorem d_G_init_46 : decode prog_1_method_1_code 46 = .ok (.new 9, 3) := by decide +kernel
theorem d_G_init_49 : decode prog_1_method_1_code 49 = .ok (.dup, 1) := by decide +kernel
theorem d_G_init_50 : decode prog_1_method_1_code 50 = .ok (.invokespecial 31, 3) := by decide +kernel
theorem d_G_init_53 : decode prog_1_method_1_code 53 = .ok (.aastore, 1) := by decide +kernel
theorem d_G_init_54 : decode prog_1_method_1_code 54 = .ok (.iinc 1 1, 3) := by decide +kernel
theorem d_G_init_57 : decode prog_1_method_1_code 57 = .ok (.goto (-21), 3) := by decide +kernel
theorem d_G_init_60 : decode prog_1_method_1_code 60 = .ok (.iconst 0, 1) := by decide +kernel
theorem d_G_init_61 : decode prog_1_method_1_code 61 = .ok (.istore_n 1, 1) := by decide +kernel
theorem d_G_init_62 : decode prog_1_method_1_code 62 = .ok (.iload_n 1, 1) := by decide +kernel
theorem d_G_init_63 : decode prog_1_method_1_code 63 = .ok (.iconst 4, 1) := by decide +kernel
theorem d_G_init_64 : decode prog_1_method_1_code 64 = .ok (.if_icmp .ge 22, 3) := by decide +kernel
theorem d_G_init_67 : decode prog_1_method_1_code 67 = .ok (.aload_n 0, 1) := by decide +kernel
theorem d_G_init_68 : decode prog_1_method_1_code 68 = .ok (.getfield 17, 3) := by decide +kernel
theorem d_G_init_71 : decode prog_1_method_1_code 71 = .ok (.iload_n 1, 1) := by decide +kernel
theorem d_G_init_72 : decode prog_1_method_1_code 72 = .ok (.new 15, 3) := by decide +kernel
theorem d_G_init_75 : decode prog_1_method_1_code 75 = .ok (.dup, 1) := by decide +kernel
theorem d_G_init_76 : decode prog_1_method_1_code 76 = .ok (.invokespecial 32, 3) := by decide +kernel
theorem d_G_init_79 : decode prog_1_method_1_code 79 = .ok (.aastore, 1) := by decide +kernel
theorem d_G_init_80 : decode prog_1_method_1_code 80 = .ok (.iinc 1 1, 3) := by decide +kernel
theorem d_G_init_83 : decode prog_1_method_1_code 83 = .ok (.goto (-21), 3) := by decide +kernel
theorem d_G_init_86 : decode prog_1_method_1_code 86 = .ok (.return_, 1) := by decide +kernel
theorem cn_G_init : CN y_G_init (.code y_G_init prog_1_method_1_code 2 none) prog_1_method_1_code 2 none [] 0 := ⟨Or.inl ⟨rfl, rfl⟩, mw_20, mw_1, ⟨by decide +kernel, by decide +kernel⟩, by decide +kernel⟩
def f_G_init (σ : Sg) (a0 : Nat) : Option Sg := (if (kd σ.1 = 13 ∧ ln σ.1 = 3) ∧ σ.1 < SCR then (wi (s_n σ) (fun s1 => (if (a0 < s1.1 ∧ kd a0 = 3) ∧ σ.1 < s1.1 then (wi (s_r s1 a0 0 (some σ.1)) (fun s2 => (if (kd s2.1 = 14 ∧ ln s2.1 = 4) ∧ s2.1 < SCR then (wi (s_n s2) (fun s3 => (if (a0 < s3.1 ∧ kd a0 = 3) ∧ s2.1 < s3.1 then (wi (s_r s3 a0 1 (some s2.1)) (fun s4 => (if (kd s4.1 = 15 ∧ ln s4.1 = 61) ∧ s4.1 < SCR then (wi (s_n s4) (fun s5 => (if (a0 < s5.1 ∧ kd a0 = 3) ∧ s4.1 < s5.1 then (wi (s_r s5 a0 2 (some s4.1)) (fun s6 => (if a0 < s6.1 ∧ kd a0 = 3 then (wi (s_i s6 a0 3 (0 : Int32)) (fun s7 => (if (3 : Int32) ≤ (0 : Int32) then none else (if a0 < s7.1 ∧ kd a0 = 3 then rc (g_r s7 a0 0) none (fun b8 => (if kd s7.1 = 1 ∧ s7.1 < SCR then (wi (s_n s7) (fun s9 => ((f_R_init s9 s7.1).bind (fun s10 => (if ((b8 < s10.1 ∧ kd b8 = 13) ∧ inb (0 : Int32) (ln b8) = true) ∧ s7.1 < s10.1 ∧ kd s7.1 = 1 then (wi (s_r s10 b8 (0 : Int32).toNatClampNeg (some s7.1)) (fun s11 => (if (3 : Int32) ≤ (1 : Int32) then none else (if a0 < s11.1 ∧ kd a0 = 3 then rc (g_r s11 a0 0) none (fun b12 => (if kd s11.1 = 1 ∧ s11.1 < SCR then (wi (s_n s11) (fun s13 => ((f_R_init s13 s11.1).bind (fun s14 => (if ((b12 < s14.1 ∧ kd b12 = 13) ∧ inb (1 : Int32) (ln b12) = true) ∧ s11.1 < s14.1 ∧ kd s11.1 = 1 then (wi (s_r s14 b12 (1 : Int32).toNatClampNeg (some s11.1)) (fun s15 => (if (3 : Int32) ≤ (2 : Int32) then none else (if a0 < s15.1 ∧ kd a0 = 3 then rc (g_r s15 a0 0) none (fun b16 => (if kd s15.1 = 1 ∧ s15.1 < SCR then (wi (s_n s15) (fun s17 => ((f_R_init s17 s15.1).bind (fun s18 => (if ((b16 < s18.1 ∧ kd b16 = 13) ∧ inb (2 : Int32) (ln b16) = true) ∧ s15.1 < s18.1 ∧ kd s15.1 = 1 then (wi (s_r s18 b16 (2 : Int32).toNatClampNeg (some s15.1)) (fun s19 => (if (3 : Int32) ≤ (3 : Int32) then (if (4 : Int32) ≤ (0 : Int32) then none else (if a0 < s19.1 ∧ kd a0 = 3 then rc (g_r s19 a0 1) none (fun b20 => (if kd s19.1 = 0 ∧ s19.1 < SCR then (wi (s_n s19) (fun s21 => ((f_C_init s21 s19.1).bind (fun s22 => (if ((b20 < s22.1 ∧ kd b20 = 14) ∧ inb (0 : Int32) (ln b20) = true) ∧ s19.1 < s22.1 ∧ kd s19.1 = 0 then (wi (s_r s22 b20 (0 : Int32).toNatClampNeg (some s19.1)) (fun s23 => (if (4 : Int32) ≤ (1 : Int32) then none else (if a0 < s23.1 ∧ kd a0 = 3 then rc (g_r s23 a0 1) none (fun b24 => (if kd s23.1 = 0 ∧ s23.1 < SCR then (wi (s_n s23) (fun s25 => ((f_C_init s25 s23.1).bind (fun s26 => (if ((b24 < s26.1 ∧ kd b24 = 14) ∧ inb (1 : Int32) (ln b24) = true) ∧ s23.1 < s26.1 ∧ kd s23.1 = 0 then (wi (s_r s26 b24 (1 : Int32).toNatClampNeg (some s23.1)) (fun s27 => (if (4 : Int32) ≤ (2 : Int32) then none else (if a0 < s27.1 ∧ kd a0 = 3 then rc (g_r s27 a0 1) none (fun b28 => (if kd s27.1 = 0 ∧ s27.1 < SCR then (wi (s_n s27) (fun s29 => ((f_C_init s29 s27.1).bind (fun s30 => (if ((b28 < s30.1 ∧ kd b28 = 14) ∧ inb (2 : Int32) (ln b28) = true) ∧ s27.1 < s30.1 ∧ kd s27.1 = 0 then (wi (s_r s30 b28 (2 : Int32).toNatClampNeg (some s27.1)) (fun s31 => (if (4 : Int32) ≤ (3 : Int32) then none else (if a0 < s31.1 ∧ kd a0 = 3 then rc (g_r s31 a0 1) none (fun b32 => (if kd s31.1 = 0 ∧ s31.1 < SCR then (wi (s_n s31) (fun s33 => ((f_C_init s33 s31.1).bind (fun s34 => (if ((b32 < s34.1 ∧ kd b32 = 14) ∧ inb (3 : Int32) (ln b32) = true) ∧ s31.1 < s34.1 ∧ kd s31.1 = 0 then (wi (s_r s34 b32 (3 : Int32).toNatClampNeg (some s31.1)) (fun s35 => (if (4 : Int32) ≤ (4 : Int32) then (some s35) else none))) else none))))) else none)) else none)))) else none))))) else none)) else none)))) else none))))) else none)) else none)))) else none))))) else none)) else none)) else none))) else none))))) else none)) else none)))) else none))))) else none)) else none)))) else none))))) else none)) else none)))) else none))) else none))) else none))) else none))) else none))) else none))) else none)
set_option maxRecDepth 100000 in
set_option maxHeartbeats 4000000 in
theorem k_G_init (l : Launch) (hl : l.stackTraces = false) (σ : Sg) (a0 : Nat) (r : Sg) (h : f_G_init σ a0 = some r) : Con l y_G_init (.code y_G_init prog_1_method_1_code 2 none) rm_G_init [.ref a0] σ (mkV r) := by
  refine Con.of (mk := mkV) (o := f_G_init σ a0) (z := r) (L0 := [(0, .ref a0)]) (bytes := prog_1_method_1_code) (maxL := 2) (ret := none) (hh := []) hl (by decide +kernel) (Or.inl ⟨rfl, rfl⟩) (by simp [Value.category]) (Nat.le_of_ble_eq_true rfl) rfl (fun Γ K S T hI => ?_) h rfl
  unfold f_G_init
  refine g_aload_n (pc := 0) (j := 0) K d_G_init_0 rfl ?_
  refine g_objInit (pc := 1) K mw_21 mw_22 mw_23 (by decide) (by decide) (Nat.le_of_ble_eq_true rfl) d_G_init_1 ?_
  refine g_aload_n (pc := 4) (j := 0) K d_G_init_4 rfl ?_
  refine g_iconst (pc := 5) (v := 3) K d_G_init_5 (by decide) ?_
  refine g_newQ (pc := 6) (N := 3) (kq := 13) (t0 := 3) K (by decide) (fun _ => rfl) mw_24 (by decide +kernel) d_G_init_6 (by decide) (by decide) (by decide) (by decide) (by decide) ?_
  refine g_wi (fun s1 _ => ?_)
  refine g_putRF (pc := 9) K (hI rfl) (fun _ _ _ h => by cases h; rfl) fl_G_11 d_G_init_9 ?_
  refine g_wi (fun s2 _ => ?_)
  refine g_aload_n (pc := 12) (j := 0) K d_G_init_12 rfl ?_
  refine g_iconst (pc := 13) (v := 4) K d_G_init_13 (by decide) ?_
  refine g_newQ (pc := 14) (N := 4) (kq := 14) (t0 := 4) K (by decide) (fun _ => rfl) mw_26 (by decide +kernel) d_G_init_14 (by decide) (by decide) (by decide) (by decide) (by decide) ?_
  refine g_wi (fun s3 _ => ?_)
  refine g_putRF (pc := 17) K (hI rfl) (fun _ _ _ h => by cases h; rfl) fl_G_17 d_G_init_17 ?_
  refine g_wi (fun s4 _ => ?_)
  refine g_aload_n (pc := 20) (j := 0) K d_G_init_20 rfl ?_
  refine g_bipush (pc := 21) (v := 61) K d_G_init_21 (by decide) ?_
  refine g_newQ (pc := 23) (N := 61) (kq := 15) (t0 := 5) K (by decide) (fun _ => rfl) mw_28 (by decide +kernel) d_G_init_23 (by decide) (by decide) (by decide) (by decide) (by decide) ?_
  refine g_wi (fun s5 _ => ?_)
  refine g_putRF (pc := 26) K (hI rfl) (fun _ _ _ h => by cases h; rfl) fl_G_23 d_G_init_26 ?_
  refine g_wi (fun s6 _ => ?_)
  refine g_aload_n (pc := 29) (j := 0) K d_G_init_29 rfl ?_
  refine g_iconst (pc := 30) (v := 0) K d_G_init_30 (by decide) ?_
  refine g_putI (pc := 31) K fl_G_27 d_G_init_31 ?_
  refine g_wi (fun s7 _ => ?_)
  refine g_iconst (pc := 34) (v := 0) K d_G_init_34 (by decide) ?_
  refine g_istore_n (pc := 35) (L' := [(1, .int (0 : Int32)), (0, .ref a0)]) K d_G_init_35 (by decide) rfl ?_
  refine g_iload_n (pc := 36) (j := 0) K d_G_init_36 rfl ?_
  refine g_iconst (pc := 37) (v := 3) K d_G_init_37 (by decide) ?_
  refine g_icmp_ge (pc := 38) (tgt := 60) K d_G_init_38 (by decide) (fun _ => ?_) (fun _ => ?_)
  · exact g_none
  · refine g_aload_n (pc := 41) (j := 1) K d_G_init_41 rfl ?_
    refine g_getR (pc := 42) K fl_G_11 d_G_init_42 (fun _ => ?_) (fun b8 _ => ?_)
    · exact g_none
    · refine g_iload_n (pc := 45) (j := 0) K d_G_init_45 rfl ?_
      refine g_new (pc := 46) (N := 6) K cf_1 mw_24 mw_30 mw_2 d_G_init_46 (by decide) (by decide) ?_
      refine g_wi (fun s9 _ => ?_)
      refine g_dup (pc := 49) K d_G_init_49 rfl ?_
      refine g_callI (pc := 50) (a := s7.1) (vs := []) (st := [.ref s7.1, .int (0 : Int32), .ref b8]) (mkc := mkV) K cn_R_init rfl (fun l hl r hr => k_R_init l hl _ _ r hr) mw_31 mw_32 ⟨by decide, by decide, by decide, by decide⟩ d_G_init_50 rfl rfl (Nat.le_of_ble_eq_true rfl) (fun s10 _ => ?_)
      change G Γ mkV 8 153 53 [(1, .int (0 : Int32)), (0, .ref a0)] [.ref s7.1, .int (0 : Int32), .ref b8] s10 _
      refine g_aast (pc := 53) (kq := 13) (t0 := 3) (cb := 1) K (by decide) (by decide) (fun _ => rfl) rfl d_G_init_53 ?_
      refine g_wi (fun s11 _ => ?_)
      refine g_iinc (pc := 54) (j := 0) (v := (1 : Int32)) (L' := [(1, .int (1 : Int32)), (0, .ref a0)]) K d_G_init_54 rfl (by decide) (by decide) rfl ?_
      refine g_goto (pc := 57) (tgt := 36) K d_G_init_57 (by decide) ?_
      refine g_iload_n (pc := 36) (j := 0) K d_G_init_36 rfl ?_
      refine g_iconst (pc := 37) (v := 3) K d_G_init_37 (by decide) ?_
      refine g_icmp_ge (pc := 38) (tgt := 60) K d_G_init_38 (by decide) (fun _ => ?_) (fun _ => ?_)
      · exact g_none
      · refine g_aload_n (pc := 41) (j := 1) K d_G_init_41 rfl ?_
        refine g_getR (pc := 42) K fl_G_11 d_G_init_42 (fun _ => ?_) (fun b12 _ => ?_)
        · exact g_none
        · refine g_iload_n (pc := 45) (j := 0) K d_G_init_45 rfl ?_
          refine g_new (pc := 46) (N := 6) K cf_1 mw_24 mw_30 mw_2 d_G_init_46 (by decide) (by decide) ?_
          refine g_wi (fun s13 _ => ?_)
          refine g_dup (pc := 49) K d_G_init_49 rfl ?_
          refine g_callI (pc := 50) (a := s11.1) (vs := []) (st := [.ref s11.1, .int (1 : Int32), .ref b12]) (mkc := mkV) K cn_R_init rfl (fun l hl r hr => k_R_init l hl _ _ r hr) mw_31 mw_32 ⟨by decide, by decide, by decide, by decide⟩ d_G_init_50 rfl rfl (Nat.le_of_ble_eq_true rfl) (fun s14 _ => ?_)
          change G Γ mkV 13 238 53 [(1, .int (1 : Int32)), (0, .ref a0)] [.ref s11.1, .int (1 : Int32), .ref b12] s14 _
          refine g_aast (pc := 53) (kq := 13) (t0 := 3) (cb := 1) K (by decide) (by decide) (fun _ => rfl) rfl d_G_init_53 ?_
          refine g_wi (fun s15 _ => ?_)
          refine g_iinc (pc := 54) (j := 0) (v := (2 : Int32)) (L' := [(1, .int (2 : Int32)), (0, .ref a0)]) K d_G_init_54 rfl (by decide) (by decide) rfl ?_
          refine g_goto (pc := 57) (tgt := 36) K d_G_init_57 (by decide) ?_
          refine g_iload_n (pc := 36) (j := 0) K d_G_init_36 rfl ?_
          refine g_iconst (pc := 37) (v := 3) K d_G_init_37 (by decide) ?_
          refine g_icmp_ge (pc := 38) (tgt := 60) K d_G_init_38 (by decide) (fun _ => ?_) (fun _ => ?_)
          · exact g_none
          · refine g_aload_n (pc := 41) (j := 1) K d_G_init_41 rfl ?_
            refine g_getR (pc := 42) K fl_G_11 d_G_init_42 (fun _ => ?_) (fun b16 _ => ?_)
            · exact g_none
            · refine g_iload_n (pc := 45) (j := 0) K d_G_init_45 rfl ?_
              refine g_new (pc := 46) (N := 6) K cf_1 mw_24 mw_30 mw_2 d_G_init_46 (by decide) (by decide) ?_
              refine g_wi (fun s17 _ => ?_)
              refine g_dup (pc := 49) K d_G_init_49 rfl ?_
              refine g_callI (pc := 50) (a := s15.1) (vs := []) (st := [.ref s15.1, .int (2 : Int32), .ref b16]) (mkc := mkV) K cn_R_init rfl (fun l hl r hr => k_R_init l hl _ _ r hr) mw_31 mw_32 ⟨by decide, by decide, by decide, by decide⟩ d_G_init_50 rfl rfl (Nat.le_of_ble_eq_true rfl) (fun s18 _ => ?_)
              change G Γ mkV 18 323 53 [(1, .int (2 : Int32)), (0, .ref a0)] [.ref s15.1, .int (2 : Int32), .ref b16] s18 _
              refine g_aast (pc := 53) (kq := 13) (t0 := 3) (cb := 1) K (by decide) (by decide) (fun _ => rfl) rfl d_G_init_53 ?_
              refine g_wi (fun s19 _ => ?_)
              refine g_iinc (pc := 54) (j := 0) (v := (3 : Int32)) (L' := [(1, .int (3 : Int32)), (0, .ref a0)]) K d_G_init_54 rfl (by decide) (by decide) rfl ?_
              refine g_goto (pc := 57) (tgt := 36) K d_G_init_57 (by decide) ?_
              refine g_iload_n (pc := 36) (j := 0) K d_G_init_36 rfl ?_
              refine g_iconst (pc := 37) (v := 3) K d_G_init_37 (by decide) ?_
              refine g_icmp_ge (pc := 38) (tgt := 60) K d_G_init_38 (by decide) (fun _ => ?_) (fun _ => ?_)
              · refine g_iconst (pc := 60) (v := 0) K d_G_init_60 (by decide) ?_
                refine g_istore_n (pc := 61) (L' := [(1, .int (0 : Int32)), (0, .ref a0)]) K d_G_init_61 (by decide) rfl ?_
                refine g_iload_n (pc := 62) (j := 0) K d_G_init_62 rfl ?_
                refine g_iconst (pc := 63) (v := 4) K d_G_init_63 (by decide) ?_
                refine g_icmp_ge (pc := 64) (tgt := 86) K d_G_init_64 (by decide) (fun _ => ?_) (fun _ => ?_)
                · exact g_none
                · refine g_aload_n (pc := 67) (j := 1) K d_G_init_67 rfl ?_
                  refine g_getR (pc := 68) K fl_G_17 d_G_init_68 (fun _ => ?_) (fun b20 _ => ?_)
                  · exact g_none
                  · refine g_iload_n (pc := 71) (j := 0) K d_G_init_71 rfl ?_
                    refine g_new (pc := 72) (N := 6) K cf_0 mw_26 mw_64 mw_4 d_G_init_72 (by decide) (by decide) ?_
                    refine g_wi (fun s21 _ => ?_)
                    refine g_dup (pc := 75) K d_G_init_75 rfl ?_
                    refine g_callI (pc := 76) (a := s19.1) (vs := []) (st := [.ref s19.1, .int (0 : Int32), .ref b20]) (mkc := mkV) K cn_C_init rfl (fun l hl r hr => k_C_init l hl _ _ r hr) mw_65 mw_66 ⟨by decide, by decide, by decide, by decide⟩ d_G_init_76 rfl rfl (Nat.le_of_ble_eq_true rfl) (fun s22 _ => ?_)
                    change G Γ mkV 20 332 79 [(1, .int (0 : Int32)), (0, .ref a0)] [.ref s19.1, .int (0 : Int32), .ref b20] s22 _
                    refine g_aast (pc := 79) (kq := 14) (t0 := 4) (cb := 0) K (by decide) (by decide) (fun _ => rfl) rfl d_G_init_79 ?_
                    refine g_wi (fun s23 _ => ?_)
                    refine g_iinc (pc := 80) (j := 0) (v := (1 : Int32)) (L' := [(1, .int (1 : Int32)), (0, .ref a0)]) K d_G_init_80 rfl (by decide) (by decide) rfl ?_
                    refine g_goto (pc := 83) (tgt := 62) K d_G_init_83 (by decide) ?_
                    refine g_iload_n (pc := 62) (j := 0) K d_G_init_62 rfl ?_
                    refine g_iconst (pc := 63) (v := 4) K d_G_init_63 (by decide) ?_
                    refine g_icmp_ge (pc := 64) (tgt := 86) K d_G_init_64 (by decide) (fun _ => ?_) (fun _ => ?_)
                    · exact g_none
                    · refine g_aload_n (pc := 67) (j := 1) K d_G_init_67 rfl ?_
                      refine g_getR (pc := 68) K fl_G_17 d_G_init_68 (fun _ => ?_) (fun b24 _ => ?_)
                      · exact g_none
                      · refine g_iload_n (pc := 71) (j := 0) K d_G_init_71 rfl ?_
                        refine g_new (pc := 72) (N := 6) K cf_0 mw_26 mw_64 mw_4 d_G_init_72 (by decide) (by decide) ?_
                        refine g_wi (fun s25 _ => ?_)
                        refine g_dup (pc := 75) K d_G_init_75 rfl ?_
                        refine g_callI (pc := 76) (a := s23.1) (vs := []) (st := [.ref s23.1, .int (1 : Int32), .ref b24]) (mkc := mkV) K cn_C_init rfl (fun l hl r hr => k_C_init l hl _ _ r hr) mw_65 mw_66 ⟨by decide, by decide, by decide, by decide⟩ d_G_init_76 rfl rfl (Nat.le_of_ble_eq_true rfl) (fun s26 _ => ?_)
                        change G Γ mkV 22 341 79 [(1, .int (1 : Int32)), (0, .ref a0)] [.ref s23.1, .int (1 : Int32), .ref b24] s26 _
                        refine g_aast (pc := 79) (kq := 14) (t0 := 4) (cb := 0) K (by decide) (by decide) (fun _ => rfl) rfl d_G_init_79 ?_
                        refine g_wi (fun s27 _ => ?_)
                        refine g_iinc (pc := 80) (j := 0) (v := (2 : Int32)) (L' := [(1, .int (2 : Int32)), (0, .ref a0)]) K d_G_init_80 rfl (by decide) (by decide) rfl ?_
                        refine g_goto (pc := 83) (tgt := 62) K d_G_init_83 (by decide) ?_
                        refine g_iload_n (pc := 62) (j := 0) K d_G_init_62 rfl ?_
                        refine g_iconst (pc := 63) (v := 4) K d_G_init_63 (by decide) ?_
                        refine g_icmp_ge (pc := 64) (tgt := 86) K d_G_init_64 (by decide) (fun _ => ?_) (fun _ => ?_)
                        · exact g_none
                        · refine g_aload_n (pc := 67) (j := 1) K d_G_init_67 rfl ?_
                          refine g_getR (pc := 68) K fl_G_17 d_G_init_68 (fun _ => ?_) (fun b28 _ => ?_)
                          · exact g_none
                          · refine g_iload_n (pc := 71) (j := 0) K d_G_init_71 rfl ?_
                            refine g_new (pc := 72) (N := 6) K cf_0 mw_26 mw_64 mw_4 d_G_init_72 (by decide) (by decide) ?_
                            refine g_wi (fun s29 _ => ?_)
                            refine g_dup (pc := 75) K d_G_init_75 rfl ?_
                            refine g_callI (pc := 76) (a := s27.1) (vs := []) (st := [.ref s27.1, .int (2 : Int32), .ref b28]) (mkc := mkV) K cn_C_init rfl (fun l hl r hr => k_C_init l hl _ _ r hr) mw_65 mw_66 ⟨by decide, by decide, by decide, by decide⟩ d_G_init_76 rfl rfl (Nat.le_of_ble_eq_true rfl) (fun s30 _ => ?_)
                            change G Γ mkV 24 350 79 [(1, .int (2 : Int32)), (0, .ref a0)] [.ref s27.1, .int (2 : Int32), .ref b28] s30 _
                            refine g_aast (pc := 79) (kq := 14) (t0 := 4) (cb := 0) K (by decide) (by decide) (fun _ => rfl) rfl d_G_init_79 ?_
                            refine g_wi (fun s31 _ => ?_)
                            refine g_iinc (pc := 80) (j := 0) (v := (3 : Int32)) (L' := [(1, .int (3 : Int32)), (0, .ref a0)]) K d_G_init_80 rfl (by decide) (by decide) rfl ?_
                            refine g_goto (pc := 83) (tgt := 62) K d_G_init_83 (by decide) ?_
                            refine g_iload_n (pc := 62) (j := 0) K d_G_init_62 rfl ?_
                            refine g_iconst (pc := 63) (v := 4) K d_G_init_63 (by decide) ?_
                            refine g_icmp_ge (pc := 64) (tgt := 86) K d_G_init_64 (by decide) (fun _ => ?_) (fun _ => ?_)
                            · exact g_none
                            · refine g_aload_n (pc := 67) (j := 1) K d_G_init_67 rfl ?_
                              refine g_getR (pc := 68) K fl_G_17 d_G_init_68 (fun _ => ?_) (fun b32 _ => ?_)
                              · exact g_none
                              · refine g_iload_n (pc := 71) (j := 0) K d_G_init_71 rfl ?_
                                refine g_new (pc := 72) (N := 6) K cf_0 mw_26 mw_64 mw_4 d_G_init_72 (by decide) (by decide) ?_
                                refine g_wi (fun s33 _ => ?_)
                                refine g_dup (pc := 75) K d_G_init_75 rfl ?_
                                refine g_callI (pc := 76) (a := s31.1) (vs := []) (st := [.ref s31.1, .int (3 : Int32), .ref b32]) (mkc := mkV) K cn_C_init rfl (fun l hl r hr => k_C_init l hl _ _ r hr) mw_65 mw_66 ⟨by decide, by decide, by decide, by decide⟩ d_G_init_76 rfl rfl (Nat.le_of_ble_eq_true rfl) (fun s34 _ => ?_)
                                change G Γ mkV 26 359 79 [(1, .int (3 : Int32)), (0, .ref a0)] [.ref s31.1, .int (3 : Int32), .ref b32] s34 _
                                refine g_aast (pc := 79) (kq := 14) (t0 := 4) (cb := 0) K (by decide) (by decide) (fun _ => rfl) rfl d_G_init_79 ?_
                                refine g_wi (fun s35 _ => ?_)
                                refine g_iinc (pc := 80) (j := 0) (v := (4 : Int32)) (L' := [(1, .int (4 : Int32)), (0, .ref a0)]) K d_G_init_80 rfl (by decide) (by decide) rfl ?_
                                refine g_goto (pc := 83) (tgt := 62) K d_G_init_83 (by decide) ?_
                                refine g_iload_n (pc := 62) (j := 0) K d_G_init_62 rfl ?_
                                refine g_iconst (pc := 63) (v := 4) K d_G_init_63 (by decide) ?_
                                refine g_icmp_ge (pc := 64) (tgt := 86) K d_G_init_64 (by decide) (fun _ => ?_) (fun _ => ?_)
                                · exact g_vret (pc := 86) K S d_G_init_86 (by decide) (by decide) rfl
                                · exact g_none
              · exact g_none
-- TapirGroup.isClient(I)Z
def y_G_isClient : MethodName := ⟨"TapirGroup", "isClient", "(I)Z"⟩
abbrev rm_G_isClient : Room := { frames := 0, cells := 0, slots := 0, locals := 0 }
theorem d_G_isClient_0 : decode prog_1_method_17_code 0 = .ok (.iload_n 0, 1) := by decide +kernel
theorem d_G_isClient_1 : decode prog_1_method_17_code 1 = .ok (.ifCond .lt 12, 3) := by decide +kernel
theorem d_G_isClient_4 : decode prog_1_method_17_code 4 = .ok (.iload_n 0, 1) := by decide +kernel
theorem d_G_isClient_5 : decode prog_1_method_17_code 5 = .ok (.iconst 4, 1) := by decide +kernel
theorem d_G_isClient_6 : decode prog_1_method_17_code 6 = .ok (.if_icmp .ge 7, 3) := by decide +kernel
theorem d_G_isClient_9 : decode prog_1_method_17_code 9 = .ok (.iconst 1, 1) := by decide +kernel
theorem d_G_isClient_10 : decode prog_1_method_17_code 10 = .ok (.goto 4, 3) := by decide +kernel
theorem d_G_isClient_13 : decode prog_1_method_17_code 13 = .ok (.iconst 0, 1) := by decide +kernel
theorem d_G_isClient_14 : decode prog_1_method_17_code 14 = .ok (.ireturn, 1) := by decide +kernel
theorem cn_G_isClient : CN y_G_isClient (.code y_G_isClient prog_1_method_17_code 1 (some .boolean)) prog_1_method_17_code 1 (some .boolean) [] 1 := ⟨Or.inl ⟨rfl, rfl⟩, mw_114, mw_1, ⟨by decide +kernel, by decide +kernel⟩, by decide +kernel⟩
def b_G_isClient_14 (σ : Sg)  (t0 : Int32) : Option Int32 := (if t0 = 0 ∨ t0 = 1 then some t0 else none)
set_option maxRecDepth 100000 in
set_option maxHeartbeats 4000000 in
theorem gb_G_isClient_14 {Γ : GX} (K : Cx Γ "TapirGroup" prog_1_method_17_code 1 rm_G_isClient) (S : Std Γ (some .boolean)) (T : Tb Γ []) (hI : y_G_isClient.name = "<init>" → Ini Γ) (σ : Sg) (t0 : Int32) : G Γ (mkI σ) 0 0 14 [] [.int t0] σ (b_G_isClient_14 σ t0) := by
  unfold b_G_isClient_14
  exact g_zret (pc := 14) K S d_G_isClient_14 (by decide) (by decide) rfl
def b_G_isClient_13 (σ : Sg)   : Option Int32 := (b_G_isClient_14 σ (0 : Int32))
set_option maxRecDepth 100000 in
set_option maxHeartbeats 4000000 in
theorem gb_G_isClient_13 {Γ : GX} (K : Cx Γ "TapirGroup" prog_1_method_17_code 1 rm_G_isClient) (S : Std Γ (some .boolean)) (T : Tb Γ []) (hI : y_G_isClient.name = "<init>" → Ini Γ) (σ : Sg)  : G Γ (mkI σ) 0 0 13 [] [] σ (b_G_isClient_13 σ ) := by
  unfold b_G_isClient_13
  refine g_iconst (pc := 13) (v := 0) K d_G_isClient_13 (by decide) ?_
  exact gb_G_isClient_14 K S T hI σ (0 : Int32)
def f_G_isClient (σ : Sg) (x0 : Int32) : Option Int32 := (if x0 < 0 then (b_G_isClient_13 σ) else (if (4 : Int32) ≤ x0 then (b_G_isClient_13 σ) else (b_G_isClient_14 σ (1 : Int32))))
set_option maxRecDepth 100000 in
set_option maxHeartbeats 4000000 in
theorem k_G_isClient (l : Launch) (hl : l.stackTraces = false) (σ : Sg) (x0 : Int32) (r : Int32) (h : f_G_isClient σ x0 = some r) : Con l y_G_isClient (.code y_G_isClient prog_1_method_17_code 1 (some .boolean)) rm_G_isClient [.int x0] σ ((mkI σ) r) := by
  refine Con.of (mk := (mkI σ)) (o := f_G_isClient σ x0) (z := r) (L0 := [(0, .int x0)]) (bytes := prog_1_method_17_code) (maxL := 1) (ret := (some .boolean)) (hh := []) hl (by decide +kernel) (Or.inl ⟨rfl, rfl⟩) (by simp [Value.category]) (Nat.le_of_ble_eq_true rfl) rfl (fun Γ K S T hI => ?_) h rfl
  unfold f_G_isClient
  refine g_iload_n (pc := 0) (j := 0) K d_G_isClient_0 rfl ?_
  refine g_if_lt (pc := 1) (tgt := 13) K d_G_isClient_1 (by decide) (fun _ => ?_) (fun _ => ?_)
  · refine g_sub (L' := []) [] rfl ?_
    exact gb_G_isClient_13 K S T hI σ
  · refine g_iload_n (pc := 4) (j := 0) K d_G_isClient_4 rfl ?_
    refine g_iconst (pc := 5) (v := 4) K d_G_isClient_5 (by decide) ?_
    refine g_icmp_ge (pc := 6) (tgt := 13) K d_G_isClient_6 (by decide) (fun _ => ?_) (fun _ => ?_)
    · refine g_sub (L' := []) [] rfl ?_
      exact gb_G_isClient_13 K S T hI σ
    · refine g_iconst (pc := 9) (v := 1) K d_G_isClient_9 (by decide) ?_
      refine g_goto (pc := 10) (tgt := 14) K d_G_isClient_10 (by decide) ?_
      refine g_sub (L' := []) [] rfl ?_
      exact gb_G_isClient_14 K S T hI σ (1 : Int32)
-- java/lang/Integer.bitCount(I)I
def y_J_bitCount : MethodName := ⟨"java/lang/Integer", "bitCount", "(I)I"⟩
abbrev rm_J_bitCount : Room := { frames := 0, cells := 0, slots := 0, locals := 0 }
theorem d_J_bitCount_0 : decode prog_11_method_49_code 0 = .ok (.iload_n 0, 1) := by decide +kernel
theorem d_J_bitCount_1 : decode prog_11_method_49_code 1 = .ok (.iload_n 0, 1) := by decide +kernel
theorem d_J_bitCount_2 : decode prog_11_method_49_code 2 = .ok (.iconst 1, 1) := by decide +kernel
theorem d_J_bitCount_3 : decode prog_11_method_49_code 3 = .ok (.iushr, 1) := by decide +kernel
theorem d_J_bitCount_4 : decode prog_11_method_49_code 4 = .ok (.ldc_w 265, 3) := by decide +kernel
theorem d_J_bitCount_7 : decode prog_11_method_49_code 7 = .ok (.iand, 1) := by decide +kernel
theorem d_J_bitCount_8 : decode prog_11_method_49_code 8 = .ok (.isub, 1) := by decide +kernel
theorem d_J_bitCount_9 : decode prog_11_method_49_code 9 = .ok (.istore_n 0, 1) := by decide +kernel
theorem d_J_bitCount_10 : decode prog_11_method_49_code 10 = .ok (.iload_n 0, 1) := by decide +kernel
theorem d_J_bitCount_11 : decode prog_11_method_49_code 11 = .ok (.ldc_w 266, 3) := by decide +kernel
theorem d_J_bitCount_14 : decode prog_11_method_49_code 14 = .ok (.iand, 1) := by decide +kernel
theorem d_J_bitCount_15 : decode prog_11_method_49_code 15 = .ok (.iload_n 0, 1) := by decide +kernel
theorem d_J_bitCount_16 : decode prog_11_method_49_code 16 = .ok (.iconst 2, 1) := by decide +kernel
theorem d_J_bitCount_17 : decode prog_11_method_49_code 17 = .ok (.iushr, 1) := by decide +kernel
theorem d_J_bitCount_18 : decode prog_11_method_49_code 18 = .ok (.ldc_w 266, 3) := by decide +kernel
theorem d_J_bitCount_21 : decode prog_11_method_49_code 21 = .ok (.iand, 1) := by decide +kernel
theorem d_J_bitCount_22 : decode prog_11_method_49_code 22 = .ok (.iadd, 1) := by decide +kernel
theorem d_J_bitCount_23 : decode prog_11_method_49_code 23 = .ok (.istore_n 0, 1) := by decide +kernel
theorem d_J_bitCount_24 : decode prog_11_method_49_code 24 = .ok (.iload_n 0, 1) := by decide +kernel
theorem d_J_bitCount_25 : decode prog_11_method_49_code 25 = .ok (.iload_n 0, 1) := by decide +kernel
theorem d_J_bitCount_26 : decode prog_11_method_49_code 26 = .ok (.iconst 4, 1) := by decide +kernel
theorem d_J_bitCount_27 : decode prog_11_method_49_code 27 = .ok (.iushr, 1) := by decide +kernel
theorem d_J_bitCount_28 : decode prog_11_method_49_code 28 = .ok (.iadd, 1) := by decide +kernel
theorem d_J_bitCount_29 : decode prog_11_method_49_code 29 = .ok (.ldc_w 267, 3) := by decide +kernel
theorem d_J_bitCount_32 : decode prog_11_method_49_code 32 = .ok (.iand, 1) := by decide +kernel
theorem d_J_bitCount_33 : decode prog_11_method_49_code 33 = .ok (.istore_n 0, 1) := by decide +kernel
theorem d_J_bitCount_34 : decode prog_11_method_49_code 34 = .ok (.iload_n 0, 1) := by decide +kernel
theorem d_J_bitCount_35 : decode prog_11_method_49_code 35 = .ok (.iload_n 0, 1) := by decide +kernel
theorem d_J_bitCount_36 : decode prog_11_method_49_code 36 = .ok (.bipush 8, 2) := by decide +kernel
theorem d_J_bitCount_38 : decode prog_11_method_49_code 38 = .ok (.iushr, 1) := by decide +kernel
theorem d_J_bitCount_39 : decode prog_11_method_49_code 39 = .ok (.iadd, 1) := by decide +kernel
theorem d_J_bitCount_40 : decode prog_11_method_49_code 40 = .ok (.istore_n 0, 1) := by decide +kernel
theorem d_J_bitCount_41 : decode prog_11_method_49_code 41 = .ok (.iload_n 0, 1) := by decide +kernel
theorem d_J_bitCount_42 : decode prog_11_method_49_code 42 = .ok (.iload_n 0, 1) := by decide +kernel
theorem d_J_bitCount_43 : decode prog_11_method_49_code 43 = .ok (.bipush 16, 2) := by decide +kernel
theorem d_J_bitCount_45 : decode prog_11_method_49_code 45 = .ok (.iushr, 1) := by decide +kernel
theorem d_J_bitCount_46 : decode prog_11_method_49_code 46 = .ok (.iadd, 1) := by decide +kernel
theorem d_J_bitCount_47 : decode prog_11_method_49_code 47 = .ok (.istore_n 0, 1) := by decide +kernel
theorem d_J_bitCount_48 : decode prog_11_method_49_code 48 = .ok (.iload_n 0, 1) := by decide +kernel
theorem d_J_bitCount_49 : decode prog_11_method_49_code 49 = .ok (.bipush 63, 2) := by decide +kernel
theorem d_J_bitCount_51 : decode prog_11_method_49_code 51 = .ok (.iand, 1) := by decide +kernel
theorem d_J_bitCount_52 : decode prog_11_method_49_code 52 = .ok (.ireturn, 1) := by decide +kernel
theorem cn_J_bitCount : CN y_J_bitCount (.code y_J_bitCount prog_11_method_49_code 1 (some .int)) prog_11_method_49_code 1 (some .int) [] 1 := ⟨Or.inl ⟨rfl, rfl⟩, mw_121, mw_14, ⟨by decide +kernel, by decide +kernel⟩, by decide +kernel⟩
def f_J_bitCount (σ : Sg) (x0 : Int32) : Option Int32 := (wn (x0 - ((x0.toUInt32 >>> ((1 : Int32).toUInt32 &&& Int32.toUInt32 31)).toInt32 &&& (1431655765 : Int32))) (fun y1 => (wn ((y1 &&& (858993459 : Int32)) + ((y1.toUInt32 >>> ((2 : Int32).toUInt32 &&& Int32.toUInt32 31)).toInt32 &&& (858993459 : Int32))) (fun y2 => (wn ((y2 + (y2.toUInt32 >>> ((4 : Int32).toUInt32 &&& Int32.toUInt32 31)).toInt32) &&& (252645135 : Int32)) (fun y3 => (wn (y3 + (y3.toUInt32 >>> ((8 : Int32).toUInt32 &&& Int32.toUInt32 31)).toInt32) (fun y4 => (wn (y4 + (y4.toUInt32 >>> ((16 : Int32).toUInt32 &&& Int32.toUInt32 31)).toInt32) (fun y5 => (some (y5 &&& (63 : Int32)))))))))))))
set_option maxRecDepth 100000 in
set_option maxHeartbeats 4000000 in
theorem k_J_bitCount (l : Launch) (hl : l.stackTraces = false) (σ : Sg) (x0 : Int32) (r : Int32) (h : f_J_bitCount σ x0 = some r) : Con l y_J_bitCount (.code y_J_bitCount prog_11_method_49_code 1 (some .int)) rm_J_bitCount [.int x0] σ ((mkI σ) r) := by
  refine Con.of (mk := (mkI σ)) (o := f_J_bitCount σ x0) (z := r) (L0 := [(0, .int x0)]) (bytes := prog_11_method_49_code) (maxL := 1) (ret := (some .int)) (hh := []) hl (by decide +kernel) (Or.inl ⟨rfl, rfl⟩) (by simp [Value.category]) (Nat.le_of_ble_eq_true rfl) rfl (fun Γ K S T hI => ?_) h rfl
  unfold f_J_bitCount
  refine g_iload_n (pc := 0) (j := 0) K d_J_bitCount_0 rfl ?_
  refine g_iload_n (pc := 1) (j := 0) K d_J_bitCount_1 rfl ?_
  refine g_iconst (pc := 2) (v := 1) K d_J_bitCount_2 (by decide) ?_
  refine g_iushr (pc := 3) K d_J_bitCount_3 ?_
  refine g_ldcw (pc := 4) (v := 1431655765) K mw_122 d_J_bitCount_4 ?_
  refine g_iand (pc := 7) K d_J_bitCount_7 ?_
  refine g_isub (pc := 8) K d_J_bitCount_8 ?_
  refine g_wn (fun y1 _ => ?_)
  refine g_istore_n (pc := 9) (L' := [(0, .int y1)]) K d_J_bitCount_9 (by decide) rfl ?_
  refine g_iload_n (pc := 10) (j := 0) K d_J_bitCount_10 rfl ?_
  refine g_ldcw (pc := 11) (v := 858993459) K mw_123 d_J_bitCount_11 ?_
  refine g_iand (pc := 14) K d_J_bitCount_14 ?_
  refine g_iload_n (pc := 15) (j := 0) K d_J_bitCount_15 rfl ?_
  refine g_iconst (pc := 16) (v := 2) K d_J_bitCount_16 (by decide) ?_
  refine g_iushr (pc := 17) K d_J_bitCount_17 ?_
  refine g_ldcw (pc := 18) (v := 858993459) K mw_123 d_J_bitCount_18 ?_
  refine g_iand (pc := 21) K d_J_bitCount_21 ?_
  refine g_iadd (pc := 22) K d_J_bitCount_22 ?_
  refine g_wn (fun y2 _ => ?_)
  refine g_istore_n (pc := 23) (L' := [(0, .int y2)]) K d_J_bitCount_23 (by decide) rfl ?_
  refine g_iload_n (pc := 24) (j := 0) K d_J_bitCount_24 rfl ?_
  refine g_iload_n (pc := 25) (j := 0) K d_J_bitCount_25 rfl ?_
  refine g_iconst (pc := 26) (v := 4) K d_J_bitCount_26 (by decide) ?_
  refine g_iushr (pc := 27) K d_J_bitCount_27 ?_
  refine g_iadd (pc := 28) K d_J_bitCount_28 ?_
  refine g_ldcw (pc := 29) (v := 252645135) K mw_124 d_J_bitCount_29 ?_
  refine g_iand (pc := 32) K d_J_bitCount_32 ?_
  refine g_wn (fun y3 _ => ?_)
  refine g_istore_n (pc := 33) (L' := [(0, .int y3)]) K d_J_bitCount_33 (by decide) rfl ?_
  refine g_iload_n (pc := 34) (j := 0) K d_J_bitCount_34 rfl ?_
  refine g_iload_n (pc := 35) (j := 0) K d_J_bitCount_35 rfl ?_
  refine g_bipush (pc := 36) (v := 8) K d_J_bitCount_36 (by decide) ?_
  refine g_iushr (pc := 38) K d_J_bitCount_38 ?_
  refine g_iadd (pc := 39) K d_J_bitCount_39 ?_
  refine g_wn (fun y4 _ => ?_)
  refine g_istore_n (pc := 40) (L' := [(0, .int y4)]) K d_J_bitCount_40 (by decide) rfl ?_
  refine g_iload_n (pc := 41) (j := 0) K d_J_bitCount_41 rfl ?_
  refine g_iload_n (pc := 42) (j := 0) K d_J_bitCount_42 rfl ?_
  refine g_bipush (pc := 43) (v := 16) K d_J_bitCount_43 (by decide) ?_
  refine g_iushr (pc := 45) K d_J_bitCount_45 ?_
  refine g_iadd (pc := 46) K d_J_bitCount_46 ?_
  refine g_wn (fun y5 _ => ?_)
  refine g_istore_n (pc := 47) (L' := [(0, .int y5)]) K d_J_bitCount_47 (by decide) rfl ?_
  refine g_iload_n (pc := 48) (j := 0) K d_J_bitCount_48 rfl ?_
  refine g_bipush (pc := 49) (v := 63) K d_J_bitCount_49 (by decide) ?_
  refine g_iand (pc := 51) K d_J_bitCount_51 ?_
  exact g_iret (pc := 52) K S rfl d_J_bitCount_52 (by decide) (by decide) rfl
-- TapirGroup$Transaction.readCount()I
def y_T_readCount : MethodName := ⟨"TapirGroup$Transaction", "readCount", "()I"⟩
abbrev rm_T_readCount : Room := { frames := 1, cells := 0, slots := 0, locals := 20 }
theorem d_T_readCount_0 : decode prog_4_method_4_code 0 = .ok (.aload_n 0, 1) := by decide +kernel
theorem d_T_readCount_1 : decode prog_4_method_4_code 1 = .ok (.getfield 15, 3) := by decide +kernel
theorem d_T_readCount_4 : decode prog_4_method_4_code 4 = .ok (.invokestatic 34, 3) := by decide +kernel
theorem d_T_readCount_7 : decode prog_4_method_4_code 7 = .ok (.ireturn, 1) := by decide +kernel
theorem cn_T_readCount : CN y_T_readCount (.code y_T_readCount prog_4_method_4_code 1 (some .int)) prog_4_method_4_code 1 (some .int) [] 0 := ⟨Or.inl ⟨rfl, rfl⟩, mw_118, mw_11, ⟨by decide +kernel, by decide +kernel⟩, by decide +kernel⟩
def f_T_readCount (σ : Sg) (a0 : Nat) : Option Int32 := (if a0 < σ.1 ∧ kd a0 = 2 then ((f_J_bitCount σ (g_i σ a0 2)).bind (fun v1 => (some v1))) else none)
set_option maxRecDepth 100000 in
set_option maxHeartbeats 4000000 in
theorem k_T_readCount (l : Launch) (hl : l.stackTraces = false) (σ : Sg) (a0 : Nat) (r : Int32) (h : f_T_readCount σ a0 = some r) : Con l y_T_readCount (.code y_T_readCount prog_4_method_4_code 1 (some .int)) rm_T_readCount [.ref a0] σ ((mkI σ) r) := by
  refine Con.of (mk := (mkI σ)) (o := f_T_readCount σ a0) (z := r) (L0 := [(0, .ref a0)]) (bytes := prog_4_method_4_code) (maxL := 1) (ret := (some .int)) (hh := []) hl (by decide +kernel) (Or.inl ⟨rfl, rfl⟩) (by simp [Value.category]) (Nat.le_of_ble_eq_true rfl) rfl (fun Γ K S T hI => ?_) h rfl
  unfold f_T_readCount
  refine g_aload_n (pc := 0) (j := 0) K d_T_readCount_0 rfl ?_
  refine g_getI (pc := 1) K fl_T_15 d_T_readCount_1 ?_
  refine g_callS (pc := 4) (vs := [.int (g_i σ a0 2)]) (st := []) (mkc := mkI σ) K cn_J_bitCount (fun l hl r hr => k_J_bitCount l hl _ _ r hr) mw_119 mw_120 ⟨by decide, by decide, by decide, by decide⟩ d_T_readCount_4 rfl rfl (Nat.le_of_ble_eq_true rfl) (fun v1 _ => ?_)
  change G Γ (mkI σ) 0 0 7 [(0, .ref a0)] [.int v1] σ _
  exact g_iret (pc := 7) K S rfl d_T_readCount_7 (by decide) (by decide) rfl
-- TapirGroup$Transaction.writeCount()I
def y_T_writeCount : MethodName := ⟨"TapirGroup$Transaction", "writeCount", "()I"⟩
abbrev rm_T_writeCount : Room := { frames := 1, cells := 0, slots := 0, locals := 20 }
theorem d_T_writeCount_0 : decode prog_4_method_5_code 0 = .ok (.aload_n 0, 1) := by decide +kernel
theorem d_T_writeCount_1 : decode prog_4_method_5_code 1 = .ok (.getfield 18, 3) := by decide +kernel
theorem d_T_writeCount_4 : decode prog_4_method_5_code 4 = .ok (.invokestatic 34, 3) := by decide +kernel
theorem d_T_writeCount_7 : decode prog_4_method_5_code 7 = .ok (.ireturn, 1) := by decide +kernel
theorem cn_T_writeCount : CN y_T_writeCount (.code y_T_writeCount prog_4_method_5_code 1 (some .int)) prog_4_method_5_code 1 (some .int) [] 0 := ⟨Or.inl ⟨rfl, rfl⟩, mw_128, mw_11, ⟨by decide +kernel, by decide +kernel⟩, by decide +kernel⟩
def f_T_writeCount (σ : Sg) (a0 : Nat) : Option Int32 := (if a0 < σ.1 ∧ kd a0 = 2 then ((f_J_bitCount σ (g_i σ a0 3)).bind (fun v1 => (some v1))) else none)
set_option maxRecDepth 100000 in
set_option maxHeartbeats 4000000 in
theorem k_T_writeCount (l : Launch) (hl : l.stackTraces = false) (σ : Sg) (a0 : Nat) (r : Int32) (h : f_T_writeCount σ a0 = some r) : Con l y_T_writeCount (.code y_T_writeCount prog_4_method_5_code 1 (some .int)) rm_T_writeCount [.ref a0] σ ((mkI σ) r) := by
  refine Con.of (mk := (mkI σ)) (o := f_T_writeCount σ a0) (z := r) (L0 := [(0, .ref a0)]) (bytes := prog_4_method_5_code) (maxL := 1) (ret := (some .int)) (hh := []) hl (by decide +kernel) (Or.inl ⟨rfl, rfl⟩) (by simp [Value.category]) (Nat.le_of_ble_eq_true rfl) rfl (fun Γ K S T hI => ?_) h rfl
  unfold f_T_writeCount
  refine g_aload_n (pc := 0) (j := 0) K d_T_writeCount_0 rfl ?_
  refine g_getI (pc := 1) K fl_T_18 d_T_writeCount_1 ?_
  refine g_callS (pc := 4) (vs := [.int (g_i σ a0 3)]) (st := []) (mkc := mkI σ) K cn_J_bitCount (fun l hl r hr => k_J_bitCount l hl _ _ r hr) mw_119 mw_120 ⟨by decide, by decide, by decide, by decide⟩ d_T_writeCount_4 rfl rfl (Nat.le_of_ble_eq_true rfl) (fun v1 _ => ?_)
  change G Γ (mkI σ) 0 0 7 [(0, .ref a0)] [.int v1] σ _
  exact g_iret (pc := 7) K S rfl d_T_writeCount_7 (by decide) (by decide) rfl
