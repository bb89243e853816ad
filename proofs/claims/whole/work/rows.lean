section
-- ===== PART A: goes FIRST, ahead of the names: the tables' words, and 'selects' of the private methods out of them =====
/-- a private method of a class that the tables say can be made, by its rows of tables_1 -/
def lw_okq (q : MethodName × Nat) : Prop := (q.1.cls ≠ "java/lang/invoke/MethodHandle" ∧ q.1.cls ≠ "java/lang/invoke/VarHandle") ∧ Cond.instantiable q.1.cls q.2 ∈ tables_1 ∧ Cond.privateMethod q.1 ∈ tables_1 ∧ Cond.instanceMethod q.1 ∈ tables_1
theorem lw_p0 : lw_okq (⟨"TapirGroup", "groupView", "()I"⟩, 4) := ⟨⟨by decide +kernel, by decide +kernel⟩, List.mem_of_getElem? (i := 17) (by decide +kernel), List.mem_of_getElem? (i := 161) (by decide +kernel), List.mem_of_getElem? (i := 162) (by decide +kernel)⟩
theorem lw_p1 : lw_okq (⟨"java/lang/Throwable", "fillInStackTrace", "(I)Ljava/lang/Throwable;"⟩, 6) := ⟨⟨by decide +kernel, by decide +kernel⟩, List.mem_of_getElem? (i := 216) (by decide +kernel), List.mem_of_getElem? (i := 214) (by decide +kernel), List.mem_of_getElem? (i := 215) (by decide +kernel)⟩
theorem lw_p2 : lw_okq (⟨"TapirGroup", "serves", "(I)Z"⟩, 4) := ⟨⟨by decide +kernel, by decide +kernel⟩, List.mem_of_getElem? (i := 17) (by decide +kernel), List.mem_of_getElem? (i := 325) (by decide +kernel), List.mem_of_getElem? (i := 326) (by decide +kernel)⟩
theorem lw_p3 : lw_okq (⟨"TapirGroup", "check", "(LTapirGroup$Transaction;LTapirGroup$Replica;)I"⟩, 4) := ⟨⟨by decide +kernel, by decide +kernel⟩, List.mem_of_getElem? (i := 17) (by decide +kernel), List.mem_of_getElem? (i := 413) (by decide +kernel), List.mem_of_getElem? (i := 414) (by decide +kernel)⟩
theorem lw_p4 : lw_okq (⟨"TapirGroup", "readsWhatIsPrepared", "(LTapirGroup$Transaction;LTapirGroup$Replica;)Z"⟩, 4) := ⟨⟨by decide +kernel, by decide +kernel⟩, List.mem_of_getElem? (i := 17) (by decide +kernel), List.mem_of_getElem? (i := 422) (by decide +kernel), List.mem_of_getElem? (i := 423) (by decide +kernel)⟩
theorem lw_p5 : lw_okq (⟨"TapirGroup", "writesWhatIsReadLater", "(LTapirGroup$Transaction;LTapirGroup$Replica;)Z"⟩, 4) := ⟨⟨by decide +kernel, by decide +kernel⟩, List.mem_of_getElem? (i := 17) (by decide +kernel), List.mem_of_getElem? (i := 444) (by decide +kernel), List.mem_of_getElem? (i := 445) (by decide +kernel)⟩
theorem lw_p6 : lw_okq (⟨"TapirGroup", "upCount", "()I"⟩, 4) := ⟨⟨by decide +kernel, by decide +kernel⟩, List.mem_of_getElem? (i := 17) (by decide +kernel), List.mem_of_getElem? (i := 533) (by decide +kernel), List.mem_of_getElem? (i := 534) (by decide +kernel)⟩
theorem lw_p7 : lw_okq (⟨"TapirGroup", "newestViewUp", "()I"⟩, 4) := ⟨⟨by decide +kernel, by decide +kernel⟩, List.mem_of_getElem? (i := 17) (by decide +kernel), List.mem_of_getElem? (i := 538) (by decide +kernel), List.mem_of_getElem? (i := 539) (by decide +kernel)⟩
theorem lw_p8 : lw_okq (⟨"TapirGroup", "mergeRecords", "(II)V"⟩, 4) := ⟨⟨by decide +kernel, by decide +kernel⟩, List.mem_of_getElem? (i := 17) (by decide +kernel), List.mem_of_getElem? (i := 542) (by decide +kernel), List.mem_of_getElem? (i := 543) (by decide +kernel)⟩
theorem lw_p9 : lw_okq (⟨"TapirGroup", "someUpHas", "(II)Z"⟩, 4) := ⟨⟨by decide +kernel, by decide +kernel⟩, List.mem_of_getElem? (i := 17) (by decide +kernel), List.mem_of_getElem? (i := 546) (by decide +kernel), List.mem_of_getElem? (i := 547) (by decide +kernel)⟩
theorem lw_p10 : lw_okq (⟨"TapirGroup", "markAtAllUp", "(III)V"⟩, 4) := ⟨⟨by decide +kernel, by decide +kernel⟩, List.mem_of_getElem? (i := 17) (by decide +kernel), List.mem_of_getElem? (i := 550) (by decide +kernel), List.mem_of_getElem? (i := 551) (by decide +kernel)⟩
theorem lw_p11 : lw_okq (⟨"TapirGroup", "someUpKnows", "(I)Z"⟩, 4) := ⟨⟨by decide +kernel, by decide +kernel⟩, List.mem_of_getElem? (i := 17) (by decide +kernel), List.mem_of_getElem? (i := 554) (by decide +kernel), List.mem_of_getElem? (i := 555) (by decide +kernel)⟩
theorem lw_p12 : lw_okq (⟨"TapirGroup", "mergedResult", "(II)I"⟩, 4) := ⟨⟨by decide +kernel, by decide +kernel⟩, List.mem_of_getElem? (i := 17) (by decide +kernel), List.mem_of_getElem? (i := 558) (by decide +kernel), List.mem_of_getElem? (i := 559) (by decide +kernel)⟩
theorem lw_p13 : lw_okq (⟨"TapirGroup", "upCountWith", "(II)I"⟩, 4) := ⟨⟨by decide +kernel, by decide +kernel⟩, List.mem_of_getElem? (i := 17) (by decide +kernel), List.mem_of_getElem? (i := 562) (by decide +kernel), List.mem_of_getElem? (i := 563) (by decide +kernel)⟩
theorem lw_p14 : lw_okq (⟨"TapirGroup", "mergeKey", "(I)V"⟩, 4) := ⟨⟨by decide +kernel, by decide +kernel⟩, List.mem_of_getElem? (i := 17) (by decide +kernel), List.mem_of_getElem? (i := 566) (by decide +kernel), List.mem_of_getElem? (i := 567) (by decide +kernel)⟩
theorem lw_p15 : lw_okq (⟨"TapirGroupModel", "says", "(I)Z"⟩, 25) := ⟨⟨by decide +kernel, by decide +kernel⟩, List.mem_of_getElem? (i := 570) (by decide +kernel), List.mem_of_getElem? (i := 667) (by decide +kernel), List.mem_of_getElem? (i := 668) (by decide +kernel)⟩
def lw_privs_1 : List (MethodName × Nat) := [(⟨"TapirGroup", "groupView", "()I"⟩, 4), (⟨"java/lang/Throwable", "fillInStackTrace", "(I)Ljava/lang/Throwable;"⟩, 6), (⟨"TapirGroup", "serves", "(I)Z"⟩, 4), (⟨"TapirGroup", "check", "(LTapirGroup$Transaction;LTapirGroup$Replica;)I"⟩, 4), (⟨"TapirGroup", "readsWhatIsPrepared", "(LTapirGroup$Transaction;LTapirGroup$Replica;)Z"⟩, 4), (⟨"TapirGroup", "writesWhatIsReadLater", "(LTapirGroup$Transaction;LTapirGroup$Replica;)Z"⟩, 4), (⟨"TapirGroup", "upCount", "()I"⟩, 4), (⟨"TapirGroup", "newestViewUp", "()I"⟩, 4), (⟨"TapirGroup", "mergeRecords", "(II)V"⟩, 4), (⟨"TapirGroup", "someUpHas", "(II)Z"⟩, 4), (⟨"TapirGroup", "markAtAllUp", "(III)V"⟩, 4), (⟨"TapirGroup", "someUpKnows", "(I)Z"⟩, 4), (⟨"TapirGroup", "mergedResult", "(II)I"⟩, 4), (⟨"TapirGroup", "upCountWith", "(II)I"⟩, 4), (⟨"TapirGroup", "mergeKey", "(I)V"⟩, 4), (⟨"TapirGroupModel", "says", "(I)Z"⟩, 25)]
theorem lw_r1 : ∀ q ∈ lw_privs_1, lw_okq q := List.forall_mem_cons.mpr ⟨lw_p0, List.forall_mem_cons.mpr ⟨lw_p1, List.forall_mem_cons.mpr ⟨lw_p2, List.forall_mem_cons.mpr ⟨lw_p3, List.forall_mem_cons.mpr ⟨lw_p4, List.forall_mem_cons.mpr ⟨lw_p5, List.forall_mem_cons.mpr ⟨lw_p6, List.forall_mem_cons.mpr ⟨lw_p7, List.forall_mem_cons.mpr ⟨lw_p8, List.forall_mem_cons.mpr ⟨lw_p9, List.forall_mem_cons.mpr ⟨lw_p10, List.forall_mem_cons.mpr ⟨lw_p11, List.forall_mem_cons.mpr ⟨lw_p12, List.forall_mem_cons.mpr ⟨lw_p13, List.forall_mem_cons.mpr ⟨lw_p14, List.forall_mem_cons.mpr ⟨lw_p15, fun _ h => absurd h List.not_mem_nil⟩⟩⟩⟩⟩⟩⟩⟩⟩⟩⟩⟩⟩⟩⟩⟩
theorem lw_p16 : lw_okq (⟨"TapirGroupModel", "forget", "(I)V"⟩, 25) := ⟨⟨by decide +kernel, by decide +kernel⟩, List.mem_of_getElem? (i := 570) (by decide +kernel), List.mem_of_getElem? (i := 671) (by decide +kernel), List.mem_of_getElem? (i := 672) (by decide +kernel)⟩
theorem lw_p17 : lw_okq (⟨"TapirGroupModel", "stateOf", "(I)I"⟩, 25) := ⟨⟨by decide +kernel, by decide +kernel⟩, List.mem_of_getElem? (i := 570) (by decide +kernel), List.mem_of_getElem? (i := 685) (by decide +kernel), List.mem_of_getElem? (i := 686) (by decide +kernel)⟩
theorem lw_p18 : lw_okq (⟨"TapirGroupModel", "placeOf", "(IIZ)I"⟩, 25) := ⟨⟨by decide +kernel, by decide +kernel⟩, List.mem_of_getElem? (i := 570) (by decide +kernel), List.mem_of_getElem? (i := 689) (by decide +kernel), List.mem_of_getElem? (i := 690) (by decide +kernel)⟩
theorem lw_p19 : lw_okq (⟨"TapirGroupModel", "serves", "(I)Z"⟩, 25) := ⟨⟨by decide +kernel, by decide +kernel⟩, List.mem_of_getElem? (i := 570) (by decide +kernel), List.mem_of_getElem? (i := 693) (by decide +kernel), List.mem_of_getElem? (i := 694) (by decide +kernel)⟩
theorem lw_p20 : lw_okq (⟨"TapirGroupModel", "groupView", "()I"⟩, 25) := ⟨⟨by decide +kernel, by decide +kernel⟩, List.mem_of_getElem? (i := 570) (by decide +kernel), List.mem_of_getElem? (i := 697) (by decide +kernel), List.mem_of_getElem? (i := 698) (by decide +kernel)⟩
theorem lw_p21 : lw_okq (⟨"TapirGroupModel", "check", "(II)I"⟩, 25) := ⟨⟨by decide +kernel, by decide +kernel⟩, List.mem_of_getElem? (i := 570) (by decide +kernel), List.mem_of_getElem? (i := 714) (by decide +kernel), List.mem_of_getElem? (i := 715) (by decide +kernel)⟩
theorem lw_p22 : lw_okq (⟨"TapirGroupModel", "isWrittenByAnother", "(III)Z"⟩, 25) := ⟨⟨by decide +kernel, by decide +kernel⟩, List.mem_of_getElem? (i := 570) (by decide +kernel), List.mem_of_getElem? (i := 718) (by decide +kernel), List.mem_of_getElem? (i := 719) (by decide +kernel)⟩
theorem lw_p23 : lw_okq (⟨"TapirGroupModel", "isPrepared", "(II)Z"⟩, 25) := ⟨⟨by decide +kernel, by decide +kernel⟩, List.mem_of_getElem? (i := 570) (by decide +kernel), List.mem_of_getElem? (i := 722) (by decide +kernel), List.mem_of_getElem? (i := 723) (by decide +kernel)⟩
theorem lw_p24 : lw_okq (⟨"TapirGroupModel", "isReadByLater", "(III)Z"⟩, 25) := ⟨⟨by decide +kernel, by decide +kernel⟩, List.mem_of_getElem? (i := 570) (by decide +kernel), List.mem_of_getElem? (i := 726) (by decide +kernel), List.mem_of_getElem? (i := 727) (by decide +kernel)⟩
theorem lw_p25 : lw_okq (⟨"TapirGroupModel", "count", "(II)I"⟩, 25) := ⟨⟨by decide +kernel, by decide +kernel⟩, List.mem_of_getElem? (i := 570) (by decide +kernel), List.mem_of_getElem? (i := 734) (by decide +kernel), List.mem_of_getElem? (i := 735) (by decide +kernel)⟩
theorem lw_p26 : lw_okq (⟨"TapirGroupModel", "byRule", "(I)I"⟩, 25) := ⟨⟨by decide +kernel, by decide +kernel⟩, List.mem_of_getElem? (i := 570) (by decide +kernel), List.mem_of_getElem? (i := 738) (by decide +kernel), List.mem_of_getElem? (i := 739) (by decide +kernel)⟩
theorem lw_p27 : lw_okq (⟨"TapirGroupModel", "confirmations", "(I)I"⟩, 25) := ⟨⟨by decide +kernel, by decide +kernel⟩, List.mem_of_getElem? (i := 570) (by decide +kernel), List.mem_of_getElem? (i := 746) (by decide +kernel), List.mem_of_getElem? (i := 747) (by decide +kernel)⟩
theorem lw_p28 : lw_okq (⟨"TapirGroupModel", "make", "(III)V"⟩, 25) := ⟨⟨by decide +kernel, by decide +kernel⟩, List.mem_of_getElem? (i := 570) (by decide +kernel), List.mem_of_getElem? (i := 754) (by decide +kernel), List.mem_of_getElem? (i := 755) (by decide +kernel)⟩
theorem lw_p29 : lw_okq (⟨"TapirGroupModel", "apply", "(II)V"⟩, 25) := ⟨⟨by decide +kernel, by decide +kernel⟩, List.mem_of_getElem? (i := 570) (by decide +kernel), List.mem_of_getElem? (i := 758) (by decide +kernel), List.mem_of_getElem? (i := 759) (by decide +kernel)⟩
theorem lw_p30 : lw_okq (⟨"TapirGroupModel", "recordsOf", "(II)I"⟩, 25) := ⟨⟨by decide +kernel, by decide +kernel⟩, List.mem_of_getElem? (i := 570) (by decide +kernel), List.mem_of_getElem? (i := 774) (by decide +kernel), List.mem_of_getElem? (i := 775) (by decide +kernel)⟩
theorem lw_p31 : lw_okq (⟨"TapirGroupModel", "merge", "(II)V"⟩, 25) := ⟨⟨by decide +kernel, by decide +kernel⟩, List.mem_of_getElem? (i := 570) (by decide +kernel), List.mem_of_getElem? (i := 778) (by decide +kernel), List.mem_of_getElem? (i := 779) (by decide +kernel)⟩
def lw_privs_2 : List (MethodName × Nat) := [(⟨"TapirGroupModel", "forget", "(I)V"⟩, 25), (⟨"TapirGroupModel", "stateOf", "(I)I"⟩, 25), (⟨"TapirGroupModel", "placeOf", "(IIZ)I"⟩, 25), (⟨"TapirGroupModel", "serves", "(I)Z"⟩, 25), (⟨"TapirGroupModel", "groupView", "()I"⟩, 25), (⟨"TapirGroupModel", "check", "(II)I"⟩, 25), (⟨"TapirGroupModel", "isWrittenByAnother", "(III)Z"⟩, 25), (⟨"TapirGroupModel", "isPrepared", "(II)Z"⟩, 25), (⟨"TapirGroupModel", "isReadByLater", "(III)Z"⟩, 25), (⟨"TapirGroupModel", "count", "(II)I"⟩, 25), (⟨"TapirGroupModel", "byRule", "(I)I"⟩, 25), (⟨"TapirGroupModel", "confirmations", "(I)I"⟩, 25), (⟨"TapirGroupModel", "make", "(III)V"⟩, 25), (⟨"TapirGroupModel", "apply", "(II)V"⟩, 25), (⟨"TapirGroupModel", "recordsOf", "(II)I"⟩, 25), (⟨"TapirGroupModel", "merge", "(II)V"⟩, 25)]
theorem lw_r2 : ∀ q ∈ lw_privs_2, lw_okq q := List.forall_mem_cons.mpr ⟨lw_p16, List.forall_mem_cons.mpr ⟨lw_p17, List.forall_mem_cons.mpr ⟨lw_p18, List.forall_mem_cons.mpr ⟨lw_p19, List.forall_mem_cons.mpr ⟨lw_p20, List.forall_mem_cons.mpr ⟨lw_p21, List.forall_mem_cons.mpr ⟨lw_p22, List.forall_mem_cons.mpr ⟨lw_p23, List.forall_mem_cons.mpr ⟨lw_p24, List.forall_mem_cons.mpr ⟨lw_p25, List.forall_mem_cons.mpr ⟨lw_p26, List.forall_mem_cons.mpr ⟨lw_p27, List.forall_mem_cons.mpr ⟨lw_p28, List.forall_mem_cons.mpr ⟨lw_p29, List.forall_mem_cons.mpr ⟨lw_p30, List.forall_mem_cons.mpr ⟨lw_p31, fun _ h => absurd h List.not_mem_nil⟩⟩⟩⟩⟩⟩⟩⟩⟩⟩⟩⟩⟩⟩⟩⟩
theorem lw_p32 : lw_okq (⟨"TapirGroupModel", "isAppliedAtSome", "(I)Z"⟩, 25) := ⟨⟨by decide +kernel, by decide +kernel⟩, List.mem_of_getElem? (i := 570) (by decide +kernel), List.mem_of_getElem? (i := 782) (by decide +kernel), List.mem_of_getElem? (i := 783) (by decide +kernel)⟩
theorem lw_p33 : lw_okq (⟨"TapirGroupModel", "isDroppedAtSome", "(I)Z"⟩, 25) := ⟨⟨by decide +kernel, by decide +kernel⟩, List.mem_of_getElem? (i := 570) (by decide +kernel), List.mem_of_getElem? (i := 786) (by decide +kernel), List.mem_of_getElem? (i := 787) (by decide +kernel)⟩
theorem lw_p34 : lw_okq (⟨"TapirGroupModel", "finalAtSome", "(I)I"⟩, 25) := ⟨⟨by decide +kernel, by decide +kernel⟩, List.mem_of_getElem? (i := 570) (by decide +kernel), List.mem_of_getElem? (i := 790) (by decide +kernel), List.mem_of_getElem? (i := 791) (by decide +kernel)⟩
theorem lw_p35 : lw_okq (⟨"TapirGroupModel", "viewUp", "()I"⟩, 25) := ⟨⟨by decide +kernel, by decide +kernel⟩, List.mem_of_getElem? (i := 570) (by decide +kernel), List.mem_of_getElem? (i := 794) (by decide +kernel), List.mem_of_getElem? (i := 795) (by decide +kernel)⟩
theorem lw_p36 : lw_okq (⟨"TapirGroupModel", "settle", "(II)V"⟩, 25) := ⟨⟨by decide +kernel, by decide +kernel⟩, List.mem_of_getElem? (i := 570) (by decide +kernel), List.mem_of_getElem? (i := 798) (by decide +kernel), List.mem_of_getElem? (i := 799) (by decide +kernel)⟩
theorem lw_p37 : lw_okq (⟨"TapirGroupModel", "mergeKey", "(I)V"⟩, 25) := ⟨⟨by decide +kernel, by decide +kernel⟩, List.mem_of_getElem? (i := 570) (by decide +kernel), List.mem_of_getElem? (i := 802) (by decide +kernel), List.mem_of_getElem? (i := 803) (by decide +kernel)⟩
theorem lw_p38 : lw_okq (⟨"TapirGroupModel", "firstUp", "()I"⟩, 25) := ⟨⟨by decide +kernel, by decide +kernel⟩, List.mem_of_getElem? (i := 570) (by decide +kernel), List.mem_of_getElem? (i := 806) (by decide +kernel), List.mem_of_getElem? (i := 807) (by decide +kernel)⟩
def lw_privs_3 : List (MethodName × Nat) := [(⟨"TapirGroupModel", "isAppliedAtSome", "(I)Z"⟩, 25), (⟨"TapirGroupModel", "isDroppedAtSome", "(I)Z"⟩, 25), (⟨"TapirGroupModel", "finalAtSome", "(I)I"⟩, 25), (⟨"TapirGroupModel", "viewUp", "()I"⟩, 25), (⟨"TapirGroupModel", "settle", "(II)V"⟩, 25), (⟨"TapirGroupModel", "mergeKey", "(I)V"⟩, 25), (⟨"TapirGroupModel", "firstUp", "()I"⟩, 25)]
theorem lw_r3 : ∀ q ∈ lw_privs_3, lw_okq q := List.forall_mem_cons.mpr ⟨lw_p32, List.forall_mem_cons.mpr ⟨lw_p33, List.forall_mem_cons.mpr ⟨lw_p34, List.forall_mem_cons.mpr ⟨lw_p35, List.forall_mem_cons.mpr ⟨lw_p36, List.forall_mem_cons.mpr ⟨lw_p37, List.forall_mem_cons.mpr ⟨lw_p38, fun _ h => absurd h List.not_mem_nil⟩⟩⟩⟩⟩⟩⟩
def lw_privs : List (MethodName × Nat) := lw_privs_1 ++ (lw_privs_2 ++ (lw_privs_3))
def lw_tbl : List Cond := k2_sels lw_privs ++ tables_1
theorem lw_privs_ok : ∀ q ∈ lw_privs, lw_okq q := by
  show ∀ q ∈ lw_privs_1 ++ (lw_privs_2 ++ (lw_privs_3)), lw_okq q
  exact List.forall_mem_append.mpr ⟨lw_r1, List.forall_mem_append.mpr ⟨lw_r2, lw_r3⟩⟩
-- the names: classes with their fields, kinds and lengths of the named cells
def R0 : String := "TapirGroup$Client"
def T0 : u_T := fun k => match k with
  | 0 => ("TapirGroup$Client", "transaction", "LTapirGroup$Transaction;", false)
  | 1 => ("TapirGroup$Client", "state", "I", false)
  | 2 => ("TapirGroup$Client", "latestTime", "I", false)
  | 3 => ("TapirGroup$Client", "slowResult", "I", false)
  | 4 => ("TapirGroup$Client", "confirmedBy", "I", false)
  | _ => ("TapirGroup$Client", "answers", "[I", true)
def ty0 : Nat → FieldType := fun k => match k with
  | 0 => .object "TapirGroup$Transaction"
  | 1 => .int
  | 2 => .int
  | 3 => .int
  | 4 => .int
  | _ => .array .int
def R1 : String := "TapirGroup$Replica"
def T1 : u_T := fun k => match k with
  | 0 => ("TapirGroup$Replica", "up", "Z", false)
  | 1 => ("TapirGroup$Replica", "view", "I", false)
  | 2 => ("TapirGroup$Replica", "version", "[I", true)
  | 3 => ("TapirGroup$Replica", "value", "[I", true)
  | 4 => ("TapirGroup$Replica", "lastRead", "[I", true)
  | _ => ("TapirGroup$Replica", "records", "[I", true)
def ty1 : Nat → FieldType := fun k => match k with
  | 0 => .boolean
  | 1 => .int
  | 2 => .array .int
  | 3 => .array .int
  | 4 => .array .int
  | _ => .array .int
def R2 : String := "TapirGroup$Transaction"
def T2 : u_T := fun k => match k with
  | 0 => ("TapirGroup$Transaction", "number", "I", true)
  | 1 => ("TapirGroup$Transaction", "timestamp", "I", false)
  | 2 => ("TapirGroup$Transaction", "readKeys", "I", false)
  | 3 => ("TapirGroup$Transaction", "writtenKeys", "I", false)
  | 4 => ("TapirGroup$Transaction", "seenVersion", "[I", true)
  | 5 => ("TapirGroup$Transaction", "seenValue", "[I", true)
  | _ => ("TapirGroup$Transaction", "written", "[I", true)
def ty2 : Nat → FieldType := fun k => match k with
  | 0 => .int
  | 1 => .int
  | 2 => .int
  | 3 => .int
  | 4 => .array .int
  | 5 => .array .int
  | _ => .array .int
def R3 : String := "TapirGroup"
def T3 : u_T := fun k => match k with
  | 0 => ("TapirGroup", "replicas", "[LTapirGroup$Replica;", true)
  | 1 => ("TapirGroup", "clients", "[LTapirGroup$Client;", true)
  | 2 => ("TapirGroup", "transactions", "[LTapirGroup$Transaction;", true)
  | _ => ("TapirGroup", "begun", "I", false)
def ty3 : Nat → FieldType := fun k => match k with
  | 0 => .array (.object "TapirGroup$Replica")
  | 1 => .array (.object "TapirGroup$Client")
  | 2 => .array (.object "TapirGroup$Transaction")
  | _ => .int
def R4 : String := "TapirGroupModel"
def T4 : u_T := fun k => match k with
  | 0 => ("TapirGroupModel", "thrown", "I", false)
  | 1 => ("TapirGroupModel", "many", "I", false)
  | 2 => ("TapirGroupModel", "stamp", "[I", true)
  | 3 => ("TapirGroupModel", "reads", "[I", true)
  | 4 => ("TapirGroupModel", "readKey", "[I", true)
  | 5 => ("TapirGroupModel", "readVersion", "[I", true)
  | 6 => ("TapirGroupModel", "readValue", "[I", true)
  | 7 => ("TapirGroupModel", "writes", "[I", true)
  | 8 => ("TapirGroupModel", "writeKey", "[I", true)
  | 9 => ("TapirGroupModel", "writeValue", "[I", true)
  | 10 => ("TapirGroupModel", "states", "[I", true)
  | 11 => ("TapirGroupModel", "current", "[I", true)
  | 12 => ("TapirGroupModel", "slow", "[I", true)
  | 13 => ("TapirGroupModel", "latestTime", "[I", true)
  | 14 => ("TapirGroupModel", "answers", "[I", true)
  | 15 => ("TapirGroupModel", "confirmed", "[Z", true)
  | 16 => ("TapirGroupModel", "up", "[Z", true)
  | 17 => ("TapirGroupModel", "views", "[I", true)
  | 18 => ("TapirGroupModel", "version", "[I", true)
  | 19 => ("TapirGroupModel", "value", "[I", true)
  | 20 => ("TapirGroupModel", "readBy", "[I", true)
  | 21 => ("TapirGroupModel", "result", "[I", true)
  | 22 => ("TapirGroupModel", "isFinal", "[Z", true)
  | 23 => ("TapirGroupModel", "applied", "[Z", true)
  | _ => ("TapirGroupModel", "dropped", "[Z", true)
def ty4 : Nat → FieldType := fun k => match k with
  | 0 => .int
  | 1 => .int
  | 2 => .array .int
  | 3 => .array .int
  | 4 => .array .int
  | 5 => .array .int
  | 6 => .array .int
  | 7 => .array .int
  | 8 => .array .int
  | 9 => .array .int
  | 10 => .array .int
  | 11 => .array .int
  | 12 => .array .int
  | 13 => .array .int
  | 14 => .array .int
  | 15 => .array .boolean
  | 16 => .array .boolean
  | 17 => .array .int
  | 18 => .array .int
  | 19 => .array .int
  | 20 => .array .int
  | 21 => .array .int
  | 22 => .array .boolean
  | 23 => .array .boolean
  | _ => .array .boolean
abbrev vwCl : List vw_C := [(R0, T0, 6), (R1, T1, 6), (R2, T2, 7), (R3, T3, 4), (R4, T4, 25)]
def nf (ci : Nat) : Nat := [6, 6, 7, 4, 25].getD ci 0
def rfL : List (List Bool) := [[true, false, false, false, false, true], [false, false, true, true, true, true], [false, false, false, false, true, true, true], [true, true, true, false], [false, false, true, true, true, true, true, true, true, true, true, true, true, true, true, true, true, true, true, true, true, true, true, true, true]]
def rf (ci j : Nat) : Bool := (rfL.getD ci []).getD j false
def kdL : List Nat := [3, 13, 14, 15, 1, 10, 10, 10, 10, 1, 10, 10, 10, 10, 1, 10, 10, 10, 10, 0, 10, 0, 10, 0, 10, 0, 10, 4, 10, 10, 10, 10, 10, 10, 10, 10, 10, 10, 10, 10, 10, 11, 11, 10, 10, 10, 10, 10, 11, 11, 11, 12]
def lnL : List Nat := [0, 3, 4, 61, 0, 6, 6, 6, 61, 0, 6, 6, 6, 61, 0, 6, 6, 6, 61, 0, 3, 0, 3, 0, 3, 0, 3, 0, 61, 61, 244, 244, 244, 61, 244, 244, 4, 4, 4, 4, 12, 12, 3, 3, 18, 18, 18, 183, 183, 183, 183, 1]
def kd (a : Nat) : Nat := if a < 52 then kdL.getD a 99 else if (a - 52) % 4 = 0 then 2 else 10
def ln (a : Nat) : Nat := if a < 52 then lnL.getD a 0 else 6
def tyL (dA : Nat → ClassId) : List (ClassId × FieldType) := [(dA 10, .int), (dA 11, .boolean), (dA 12, .long), (dA 13, .object "TapirGroup$Replica"), (dA 14, .object "TapirGroup$Client"), (dA 15, .object "TapirGroup$Transaction")]
/-- the words of the tables that go with every method -/
def TB : List Cond := lw_tbl.filter goodWord
theorem TB_good : ∀ w ∈ TB, goodWord w = true := fun _ hw => (List.mem_filter.mp hw).2
theorem TB_tbl : ∀ w ∈ TB, w ∈ lw_tbl := fun _ hw => (List.mem_filter.mp hw).1
theorem tb_m {w : Cond} (i : Nat) (h : lw_tbl[i]? = some w) (hg : goodWord w = true) : w ∈ TB := List.mem_filter.mpr ⟨List.mem_of_getElem? h, hg⟩
theorem tb_all {ws : List Cond} (ps : List Nat) (h : ps.map (fun i => lw_tbl[i]?) = ws.map some) (hg : ws.all goodWord = true) : ∀ w ∈ ws, w ∈ TB := by
  intro w hw
  have h1 : some w ∈ ws.map some := List.mem_map.mpr ⟨w, hw, rfl⟩
  rw [← h] at h1
  obtain ⟨i, -, hi⟩ := List.mem_map.mp h1
  exact tb_m i hi (List.all_eq_true.mp hg w hw)
theorem uw0 : ∀ w ∈ u_ws R0 T0 6, w ∈ TB := tb_all [121, 123, 125, 127, 129, 131] (by decide +kernel) (by decide +kernel)
theorem tyok0 : ∀ k, k < 6 → parseFieldDescriptor (T0 k).2.2.1 = some (ty0 k) := by decide +kernel
theorem nm0 : ∀ a, a < 6 → ∀ b, b < 6 → a ≠ b → (T0 a).2.1 ≠ (T0 b).2.1 := by decide +kernel
theorem df0 : ∀ j, j < 6 → defaultValue (ty0 j) = if rf 0 j = true then .null else .int 0 := by decide +kernel
theorem uw1 : ∀ w ∈ u_ws R1 T1 6, w ∈ TB := tb_all [89, 91, 93, 95, 97, 99] (by decide +kernel) (by decide +kernel)
theorem tyok1 : ∀ k, k < 6 → parseFieldDescriptor (T1 k).2.2.1 = some (ty1 k) := by decide +kernel
theorem nm1 : ∀ a, a < 6 → ∀ b, b < 6 → a ≠ b → (T1 a).2.1 ≠ (T1 b).2.1 := by decide +kernel
theorem df1 : ∀ j, j < 6 → defaultValue (ty1 j) = if rf 1 j = true then .null else .int 0 := by decide +kernel
theorem uw2 : ∀ w ∈ u_ws R2 T2 7, w ∈ TB := tb_all [321, 323, 325, 327, 329, 331, 333] (by decide +kernel) (by decide +kernel)
theorem tyok2 : ∀ k, k < 7 → parseFieldDescriptor (T2 k).2.2.1 = some (ty2 k) := by decide +kernel
theorem nm2 : ∀ a, a < 7 → ∀ b, b < 7 → a ≠ b → (T2 a).2.1 ≠ (T2 b).2.1 := by decide +kernel
theorem df2 : ∀ j, j < 7 → defaultValue (ty2 j) = if rf 2 j = true then .null else .int 0 := by decide +kernel
theorem uw3 : ∀ w ∈ u_ws R3 T3 4, w ∈ TB := tb_all [138, 140, 142, 144] (by decide +kernel) (by decide +kernel)
theorem tyok3 : ∀ k, k < 4 → parseFieldDescriptor (T3 k).2.2.1 = some (ty3 k) := by decide +kernel
theorem nm3 : ∀ a, a < 4 → ∀ b, b < 4 → a ≠ b → (T3 a).2.1 ≠ (T3 b).2.1 := by decide +kernel
theorem df3 : ∀ j, j < 4 → defaultValue (ty3 j) = if rf 3 j = true then .null else .int 0 := by decide +kernel
theorem uw4 : ∀ w ∈ u_ws R4 T4 25, w ∈ TB := tb_all [639, 641, 643, 645, 647, 649, 651, 653, 655, 657, 659, 661, 663, 665, 667, 669, 671, 673, 675, 677, 679, 681, 683, 685, 687] (by decide +kernel) (by decide +kernel)
theorem tyok4 : ∀ k, k < 25 → parseFieldDescriptor (T4 k).2.2.1 = some (ty4 k) := by decide +kernel
theorem nm4 : ∀ a, a < 25 → ∀ b, b < 25 → a ≠ b → (T4 a).2.1 ≠ (T4 b).2.1 := by decide +kernel
theorem df4 : ∀ j, j < 25 → defaultValue (ty4 j) = if rf 4 j = true then .null else .int 0 := by decide +kernel
def strs : List (String × Nat × String) := [("TapirGroup", 39, "no such client"), ("TapirGroup", 50, "it has a transaction, or there were 60"), ("TapirGroup", 66, "no such client, key or replica"), ("TapirGroup", 71, "its transaction is not running"), ("TapirGroup", 91, "the replica does not serve"), ("TapirGroup", 100, "four keys are read"), ("TapirGroup", 113, "no such client or key"), ("TapirGroup", 118, "four others are written"), ("TapirGroup", 125, "no such client or time"), ("TapirGroup", 134, "it can't be proposed, or not with this time"), ("TapirGroup", 148, "no such client or replica"), ("TapirGroup", 150, "it is not proposed"), ("TapirGroup", 172, "it is not proposed, or has too few answers"), ("TapirGroup", 186, "it is not slow"), ("TapirGroup", 207, "it is not decided"), ("TapirGroup", 218, "no such replica"), ("TapirGroup", 227, "fewer than two are up")]
def ncs : List (String × String) := [("java/lang/IllegalStateException", "java/lang/IllegalArgumentException"), ("java/lang/UnsupportedOperationException", "java/lang/IllegalArgumentException"), ("java/lang/IndexOutOfBoundsException", "java/lang/IllegalArgumentException"), ("java/lang/IllegalArgumentException", "java/lang/IllegalStateException"), ("java/lang/UnsupportedOperationException", "java/lang/IllegalStateException"), ("java/lang/IndexOutOfBoundsException", "java/lang/IllegalStateException"), ("java/lang/IllegalArgumentException", "java/lang/UnsupportedOperationException"), ("java/lang/IllegalStateException", "java/lang/UnsupportedOperationException"), ("java/lang/IndexOutOfBoundsException", "java/lang/UnsupportedOperationException"), ("java/lang/IllegalArgumentException", "java/lang/IndexOutOfBoundsException"), ("java/lang/IllegalStateException", "java/lang/IndexOutOfBoundsException"), ("java/lang/UnsupportedOperationException", "java/lang/IndexOutOfBoundsException")]
def exs : List String := ["java/lang/IllegalArgumentException", "java/lang/IllegalStateException", "java/lang/UnsupportedOperationException", "java/lang/IndexOutOfBoundsException"]
def dcl : List MethodName := [⟨"java/lang/Throwable", "<init>", "(Ljava/lang/String;)V"⟩, ⟨"java/lang/Exception", "<init>", "(Ljava/lang/String;)V"⟩, ⟨"java/lang/RuntimeException", "<init>", "(Ljava/lang/String;)V"⟩]
def aov : List String := ["TapirGroup$Replica", "TapirGroup$Client", "TapirGroup$Transaction"]
/-- where a static field lies, and what it holds: its class's statics cell in Hl -/
def ZS (n d : String) (Hl : Heap) (U : State) : Prop := ∃ (c : ClassId) (k : Class) (i : Nat) (f : Field) (a : Nat) (cell : Cell) (v : Value), U.vm.findClass "java/lang/Throwable" = some c ∧ U.fieldFound? "java/lang/Throwable" n d = some (c, k, i, f) ∧ f.isStatic = true ∧ k.init = .initialized ∧ k.statics = some a ∧ Hl[a]? = some cell ∧ cell.vm.isStatics = true ∧ cell.cls = c ∧ f.slot < cell.slots.size ∧ k.staticTypes[f.slot]? = some f.type ∧ cell.slots[f.slot]? = some v ∧ v.isRef = true
theorem ZS.moved {n d : String} {Hl : Heap} {u U : State} (hvm : u.vm.Alike U.vm) (h : ZS n d Hl u) : ZS n d Hl U := by
  obtain ⟨c, k, i, f, a, cell, v, h1, h2, h3, h4, h5, h6, h7, h8, h9, h10, h11, h12⟩ := h
  obtain ⟨k', hi', he⟩ := State.fieldFound?_setVm hvm h2
  exact ⟨c, k', i, f, a, cell, v, by rw [hvm.findClass]; exact h1, hi', h3, by rw [he]; exact h4, by rw [he]; exact h5, h6, h7, h8, h9, by rw [he]; exact h10, h11, h12⟩
theorem ZS.lays {n d : String} {Hl : Heap} {U : State} {args : Array Value} (h : ZS n d Hl U) (hH : ∀ q : Nat, q < Hl.size → U.heap[q]? = Hl[q]?) : (Cond.laysStatic "java/lang/Throwable" n d).before args U = true := by
  obtain ⟨c, k, i, f, a, cell, v, h1, h2, h3, h4, h5, h6, h7, h8, h9, h10, h11, h12⟩ := h
  show (Cond.laysStatic "java/lang/Throwable" n d).holds args U none U [] = true
  exact Cond.laysStatic_of h1 h2 h3 h5 (by rw [hH a (Array.getElem?_eq_some_iff.mp h6).1]; exact h6) h7 h8 h9 h10
theorem ZS.isRef {n d : String} {Hl : Heap} {U : State} {args : Array Value} (h : ZS n d Hl U) (hH : ∀ q : Nat, q < Hl.size → U.heap[q]? = Hl[q]?) : (Cond.isRef (.static "java/lang/Throwable" n d)).before args U = true := by
  obtain ⟨c, k, i, f, a, cell, v, h1, h2, h3, h4, h5, h6, h7, h8, h9, h10, h11, h12⟩ := h
  have h6' : U.heap[a]? = some cell := by rw [hH a (Array.getElem?_eq_some_iff.mp h6).1]; exact h6
  have he : (Term.static "java/lang/Throwable" n d).eval args U none [] U = some v := by
    simp [Term.eval, State.fieldNamed?, h2, h3, h5, h6', h7, h11]
  simp only [Cond.before, Cond.holds, Cond.value, he]
  cases v <;> simp_all [Value.isRef]
def stD : String := "[Ljava/lang/StackTraceElement;"
def liD : String := "Ljava/util/List;"
/-- what every frame knows of the launch: classes and arrays, Throwable's two statics, the texts, the classes that aren't each other's -/
def Fx (D : va_G) (dA : Nat → ClassId) (Hl : Heap) (U : State) : Prop := va_K D vwCl (tyL dA) U ∧ ZS "UNASSIGNED_STACK" stD Hl U ∧ ZS "SUPPRESSED_SENTINEL" liD Hl U ∧ (∀ q ∈ strs, ∃ a, vk_R q.1 q.2.1 q.2.2 a U) ∧ (∀ q ∈ ncs, va_Nc q.1 q.2 U) ∧ (∀ q ∈ dcl, va_Nw (.declares q) U) ∧ (∀ q ∈ exs, va_Nw (.castable q q) U) ∧ (∀ q ∈ aov, va_AO q U)
theorem Fx.warm {D : va_G} {dA : Nat → ClassId} {Hl : Heap} {s U : State} (h : Fx D dA Hl s) (hW : s.WarmedH U.vm) : Fx D dA Hl U :=
  ⟨va_K.moved hW.alike h.1, h.2.1.moved hW.alike, h.2.2.1.moved hW.alike, fun q hq => by obtain ⟨a, ha⟩ := h.2.2.2.1 q hq; exact ⟨a, vk_R.warm hW ha⟩, fun q hq => va_Nc.moved hW.alike (h.2.2.2.2.1 q hq), fun q hq => va_Nw.warmD hW (h.2.2.2.2.2.1 q hq), fun q hq => va_Nw.warmC hW (h.2.2.2.2.2.2.1 q hq), fun q hq => va_AO.moved hW.alike (h.2.2.2.2.2.2.2 q hq)⟩
theorem Fx.nc {D : va_G} {dA : Nat → ClassId} {Hl : Heap} {s : State} (h : Fx D dA Hl s) : ∀ q ∈ ncs, va_Nc q.1 q.2 s := h.2.2.2.2.1
theorem Fx.ao {D : va_G} {dA : Nat → ClassId} {Hl : Heap} {s : State} (h : Fx D dA Hl s) : ∀ q ∈ aov, va_AO q s := h.2.2.2.2.2.2.2
end
section
/-! The state of class and reference as one heap of names: name k is the k-th cell that the program makes (exceptions aside). Numbers, references and longs lie in three tables by name and place. -/
abbrev Sg : Type := Nat × (Nat → Nat → Int32) × (Nat → Nat → Option Nat) × (Nat → Nat → Int64)
def SCR : Nat := 1000000
def g_i (σ : Sg) (a k : Nat) : Int32 := σ.2.1 a k
def g_r (σ : Sg) (a k : Nat) : Option Nat := σ.2.2.1 a k
def g_l (σ : Sg) (a k : Nat) : Int64 := σ.2.2.2 a k
def s_i (σ : Sg) (a k : Nat) (x : Int32) : Sg := (σ.1, (fun b j => if b = a ∧ j = k then x else σ.2.1 b j), σ.2.2.1, σ.2.2.2)
def s_r (σ : Sg) (a k : Nat) (x : Option Nat) : Sg := (σ.1, σ.2.1, (fun b j => if b = a ∧ j = k then x else σ.2.2.1 b j), σ.2.2.2)
def s_l (σ : Sg) (a k : Nat) (x : Int64) : Sg := (σ.1, σ.2.1, σ.2.2.1, (fun b j => if b = a ∧ j = k then x else σ.2.2.2 b j))
/-- one cell more, blank -/
def s_n (σ : Sg) : Sg := (σ.1 + 1, (fun b j => if b = σ.1 then 0 else σ.2.1 b j), (fun b j => if b = σ.1 then none else σ.2.2.1 b j), (fun b j => if b = σ.1 then 0 else σ.2.2.2 b j))
theorem g_n_s_i (σ : Sg) (a k : Nat) (x : Int32) : (s_i σ a k x).1 = σ.1 := rfl
theorem g_n_s_r (σ : Sg) (a k : Nat) (x : Option Nat) : (s_r σ a k x).1 = σ.1 := rfl
theorem g_n_s_l (σ : Sg) (a k : Nat) (x : Int64) : (s_l σ a k x).1 = σ.1 := rfl
theorem g_n_s_n (σ : Sg) : (s_n σ).1 = σ.1 + 1 := rfl
theorem g_i_s_i (σ : Sg) (a k : Nat) (x : Int32) (b j : Nat) : g_i (s_i σ a k x) b j = if b = a ∧ j = k then x else g_i σ b j := rfl
theorem g_r_s_i (σ : Sg) (a k : Nat) (x : Int32) (b j : Nat) : g_r (s_i σ a k x) b j = g_r σ b j := rfl
theorem g_l_s_i (σ : Sg) (a k : Nat) (x : Int32) (b j : Nat) : g_l (s_i σ a k x) b j = g_l σ b j := rfl
theorem g_i_s_r (σ : Sg) (a k : Nat) (x : Option Nat) (b j : Nat) : g_i (s_r σ a k x) b j = g_i σ b j := rfl
theorem g_r_s_r (σ : Sg) (a k : Nat) (x : Option Nat) (b j : Nat) : g_r (s_r σ a k x) b j = if b = a ∧ j = k then x else g_r σ b j := rfl
theorem g_l_s_r (σ : Sg) (a k : Nat) (x : Option Nat) (b j : Nat) : g_l (s_r σ a k x) b j = g_l σ b j := rfl
theorem g_i_s_l (σ : Sg) (a k : Nat) (x : Int64) (b j : Nat) : g_i (s_l σ a k x) b j = g_i σ b j := rfl
theorem g_r_s_l (σ : Sg) (a k : Nat) (x : Int64) (b j : Nat) : g_r (s_l σ a k x) b j = g_r σ b j := rfl
theorem g_l_s_l (σ : Sg) (a k : Nat) (x : Int64) (b j : Nat) : g_l (s_l σ a k x) b j = if b = a ∧ j = k then x else g_l σ b j := rfl
theorem g_i_s_n (σ : Sg) (b j : Nat) : g_i (s_n σ) b j = if b = σ.1 then 0 else g_i σ b j := rfl
theorem g_r_s_n (σ : Sg) (b j : Nat) : g_r (s_n σ) b j = if b = σ.1 then none else g_r σ b j := rfl
theorem g_l_s_n (σ : Sg) (b j : Nat) : g_l (s_n σ) b j = if b = σ.1 then 0 else g_l σ b j := rfl
/-- a value with names for addresses, as the machine has it -/
def tr (ν : Nat → Nat) (v : Value) : Value := match v with
  | .ref k => .ref (ν k)
  | v => v
def okv (n : Nat) (v : Value) : Prop := match v with
  | .ref k => k < n ∨ k = SCR
  | _ => True
def oks (n : Nat) (st : List Value) : Prop := ∀ v ∈ st, okv n v
theorem oks_nil {n : Nat} : oks n [] := fun v h => nomatch h
theorem oks_cons {n : Nat} {v : Value} {st : List Value} (h : okv n v) (hs : oks n st) : oks n (v :: st) := fun w hw => (List.mem_cons.mp hw).elim (fun e => by rw [e]; exact h) (hs w)
theorem oks_tail {n : Nat} {v : Value} {st : List Value} (h : oks n (v :: st)) : oks n st := fun w hw => h w (List.mem_cons_of_mem _ hw)
theorem oks_head {n : Nat} {v : Value} {st : List Value} (h : oks n (v :: st)) : okv n v := h v List.mem_cons_self
theorem oks_app {n : Nat} {a b : List Value} (ha : oks n a) (hb : oks n b) : oks n (a ++ b) := fun w hw => (List.mem_append.mp hw).elim (ha w) (hb w)
theorem oks_left {n : Nat} {a b : List Value} (h : oks n (a ++ b)) : oks n a := fun w hw => h w (List.mem_append_left _ hw)
theorem oks_right {n : Nat} {a b : List Value} (h : oks n (a ++ b)) : oks n b := fun w hw => h w (List.mem_append_right _ hw)
theorem oks_rev {n : Nat} {a : List Value} (h : oks n a) : oks n a.reverse := fun w hw => h w (List.mem_reverse.mp hw)
theorem okv_mono {n n' : Nat} (hn : n ≤ n') {v : Value} (h : okv n v) : okv n' v := by
  cases v <;> first | exact trivial | exact (show _ from h).elim (fun q => Or.inl (Nat.lt_of_lt_of_le q hn)) Or.inr
theorem oks_mono {n n' : Nat} (hn : n ≤ n') {st : List Value} (h : oks n st) : oks n' st := fun v hv => okv_mono hn (h v hv)
theorem tr_cat (ν : Nat → Nat) (v : Value) : (tr ν v).category = v.category := by cases v <;> rfl
theorem tr_rf (ν : Nat → Nat) (o : Option Nat) : tr ν (va_rf o) = va_rf (o.map ν) := by cases o <;> rfl
/-- ν goes on from ν0: the names below n, and the script's -/
def ext (ν0 : Nat → Nat) (n : Nat) (ν : Nat → Nat) : Prop := ∀ k, k < n ∨ k = SCR → ν k = ν0 k
theorem ext_refl {ν : Nat → Nat} {n : Nat} : ext ν n ν := fun _ _ => rfl
theorem ext_trans {ν0 ν1 ν2 : Nat → Nat} {n n' : Nat} (hn : n ≤ n') (h1 : ext ν0 n ν1) (h2 : ext ν1 n' ν2) : ext ν0 n ν2 := fun k hk => (h2 k (hk.elim (fun q => Or.inl (Nat.lt_of_lt_of_le q hn)) Or.inr)).trans (h1 k hk)
theorem ext_tr {ν0 ν : Nat → Nat} {n : Nat} (h : ext ν0 n ν) {v : Value} (hv : okv n v) : tr ν v = tr ν0 v := by
  cases v <;> first | rfl | exact congrArg Value.ref (h _ hv)
theorem ext_map {ν0 ν : Nat → Nat} {n : Nat} (h : ext ν0 n ν) {st : List Value} (hv : oks n st) : st.map (tr ν) = st.map (tr ν0) := List.map_congr_left fun v hw => ext_tr h (hv v hw)
theorem ext_loc {ν0 ν : Nat → Nat} {n : Nat} (h : ext ν0 n ν) {L : List (Nat × Value)} (hv : oks n (L.map Prod.snd)) : L.map (fun q => (q.1, tr ν q.2)) = L.map (fun q => (q.1, tr ν0 q.2)) :=
  List.map_congr_left fun q hw => by rw [ext_tr h (hv q.2 (List.mem_map.mpr ⟨q, hw, rfl⟩))]
/-- a field's value -/
def fl (ν : Nat → Nat) (σ : Sg) (a j : Nat) : Value := if rf (kd a) j = true then va_rf ((g_r σ a j).map ν) else .int (g_i σ a j)
/-- what the cell of name a holds: kinds below 10 are the classes of vwCl; 10 int[], 11 boolean[], 12 long[], further ones arrays of references -/
def en (ν : Nat → Nat) (dA : Nat → ClassId) (σ : Sg) (a : Nat) : va_E :=
  if kd a < 10 then .inr (kd a, (List.range (nf (kd a))).map (fl ν σ a))
  else .inl (dA (kd a), ln a, if kd a < 12 then .inl (g_i σ a) else if kd a = 12 then .inr (.inl (g_l σ a)) else .inr (.inr (.inr (.inr (fun j => (g_r σ a j).map ν)))))
def wl (ν : Nat → Nat) (dA : Nat → ClassId) (σ : Sg) : va_W := (List.range σ.1).map (fun k => (ν k, en ν dA σ k))
theorem wl_len (ν : Nat → Nat) (dA : Nat → ClassId) (σ : Sg) : (wl ν dA σ).length = σ.1 := by simp [wl]
theorem wl_at {ν : Nat → Nat} {dA : Nat → ClassId} {σ : Sg} {k : Nat} (h : k < σ.1) : (wl ν dA σ)[k]? = some (ν k, en ν dA σ k) := by
  simp [wl, List.getElem?_map, List.getElem?_range h]
theorem wl_inv {ν : Nat → Nat} {dA : Nat → ClassId} {σ : Sg} {k : Nat} {q : Nat × va_E} (h : (wl ν dA σ)[k]? = some q) : k < σ.1 ∧ q = (ν k, en ν dA σ k) := by
  have hk : k < σ.1 := by
    have := (List.getElem?_eq_some_iff.mp h).1
    rwa [wl_len] at this
  rw [wl_at hk] at h
  exact ⟨hk, (Option.some.inj h).symm⟩
theorem wl_set {ν : Nat → Nat} {dA : Nat → ClassId} {σ σ' : Sg} {k : Nat} {e : va_E} (h : k < σ.1) (hn : σ'.1 = σ.1) (he : en ν dA σ' k = e) (ho : ∀ j, j ≠ k → en ν dA σ' j = en ν dA σ j) : (wl ν dA σ).set k (ν k, e) = wl ν dA σ' := by
  apply List.ext_getElem?
  intro j
  by_cases hj : j < σ.1
  · rw [wl_at (σ := σ') (by rw [hn]; exact hj)]
    by_cases hjk : j = k
    · subst hjk
      rw [List.getElem?_set_self (by rw [wl_len]; exact h), he]
    · rw [List.getElem?_set_ne (Ne.symm hjk), wl_at hj, ho j hjk]
  · rw [List.getElem?_eq_none (by rw [List.length_set, wl_len]; omega), List.getElem?_eq_none (by rw [wl_len, hn]; omega)]
theorem wl_push {ν ν' : Nat → Nat} {dA : Nat → ClassId} {σ σ' : Sg} {q : Nat} {e : va_E} (hn : σ'.1 = σ.1 + 1) (hν : ∀ k, k < σ.1 → ν' k = ν k) (hq : ν' σ.1 = q) (he : en ν' dA σ' σ.1 = e) (ho : ∀ j, j < σ.1 → en ν' dA σ' j = en ν dA σ j) : wl ν dA σ ++ [(q, e)] = wl ν' dA σ' := by
  simp only [wl, hn, List.range_succ, List.map_append, List.map_cons, List.map_nil, hq, he]
  congr 1
  apply List.map_congr_left
  intro k hk
  rw [List.mem_range] at hk
  rw [hν k hk, ho k hk]
theorem en_cg {ν ν' : Nat → Nat} {dA : Nat → ClassId} {σ σ' : Sg} {b : Nat} (hi : g_i σ' b = g_i σ b) (hr : ∀ k, (g_r σ' b k).map ν' = (g_r σ b k).map ν) (hl : g_l σ' b = g_l σ b) : en ν' dA σ' b = en ν dA σ b := by
  have hf : fl ν' σ' b = fl ν σ b := by funext j; simp only [fl, hi, hr]
  have hq : (fun j => (g_r σ' b j).map ν') = fun j => (g_r σ b j).map ν := by funext j; exact hr j
  simp only [en, hf, hi, hl, hq]
theorem en_o {ν : Nat → Nat} {dA : Nat → ClassId} {σ : Sg} {a ci : Nat} (h : kd a = ci) (h10 : ci < 10) : en ν dA σ a = .inr (ci, (List.range (nf ci)).map (fl ν σ a)) := by
  simp only [en, h, h10, if_true]
theorem en_i {ν : Nat → Nat} {dA : Nat → ClassId} {σ : Sg} {a ci : Nat} (h : kd a = ci) (h1 : 10 ≤ ci) (h2 : ci < 12) : en ν dA σ a = .inl (dA ci, ln a, .inl (g_i σ a)) := by
  simp only [en, h, Nat.not_lt.mpr h1, h2, if_true, if_false]
theorem en_l {ν : Nat → Nat} {dA : Nat → ClassId} {σ : Sg} {a : Nat} (h : kd a = 12) : en ν dA σ a = .inl (dA 12, ln a, .inr (.inl (g_l σ a))) := by
  simp [en, h]
theorem en_q {ν : Nat → Nat} {dA : Nat → ClassId} {σ : Sg} {a ci : Nat} (h : kd a = ci) (h1 : 12 < ci) : en ν dA σ a = .inl (dA ci, ln a, .inr (.inr (.inr (.inr (fun j => (g_r σ a j).map ν))))) := by
  have a1 : ¬ ci < 10 := by omega
  have a2 : ¬ ci < 12 := by omega
  have a3 : ¬ ci = 12 := by omega
  simp only [en, h, a1, a2, a3, if_false]
theorem fl_set {ν : Nat → Nat} {σ σ' : Sg} {a k N : Nat} {v : Value} (hv : fl ν σ' a k = v) (ho : ∀ j, j ≠ k → fl ν σ' a j = fl ν σ a j) : ((List.range N).map (fl ν σ a)).set k v = (List.range N).map (fl ν σ' a) := by
  apply List.ext_getElem?
  intro j
  by_cases hj : j < N
  · by_cases hjk : j = k
    · subst hjk
      rw [List.getElem?_set_self (by simpa using hj)]
      simp [List.getElem?_range hj, hv]
    · rw [List.getElem?_set_ne (Ne.symm hjk)]
      simp [List.getElem?_range hj, ho j hjk]
  · rw [List.getElem?_eq_none (by simp; omega), List.getElem?_eq_none (by simp; omega)]
theorem fl_at {ν : Nat → Nat} {σ : Sg} {a k N : Nat} (h : k < N) : ((List.range N).map (fl ν σ a))[k]? = some (fl ν σ a k) := by
  simp [List.getElem?_range h]
theorem gi_ne {σ : Sg} {a b k : Nat} {x : Int32} (h : b ≠ a) : g_i (s_i σ a k x) b = g_i σ b := by
  funext j; simp [g_i_s_i, h]
theorem gr_ne {σ : Sg} {a b k : Nat} {x : Option Nat} (h : b ≠ a) : g_r (s_r σ a k x) b = g_r σ b := by
  funext j; simp [g_r_s_r, h]
theorem gl_ne {σ : Sg} {a b k : Nat} {x : Int64} (h : b ≠ a) : g_l (s_l σ a k x) b = g_l σ b := by
  funext j; simp [g_l_s_l, h]
/-- the references that cells hold are names of cells -/
def shut (σ : Sg) : Prop := ∀ a k b, a < σ.1 → g_r σ a k = some b → b < σ.1
def Wd (D : va_G) (dA : Nat → ClassId) (n0 : Nat) (ν : Nat → Nat) (σ : Sg) (H : Heap) : Prop :=
  va_P D vwCl (wl ν dA σ) H ∧ va_D (fun q => n0 ≤ q) (wl ν dA σ) ∧ shut σ ∧ σ.1 ≤ SCR
end
section
/-! One row an instruction, over whole worlds: G says that from here the machine comes to the method's end, with the result that o names (nothing, if o is none). -/
abbrev Rs : Type := (Option Value ⊕ String) × Sg
abbrev GX : Type := Program × Launch × Env × Room × State × MethodId × Array Value × List Frame × Method × Code × va_G × (Nat → ClassId) × Heap × (Nat → Nat) × Nat × (Rs → State → Prop)
def okL (n : Nat) (L : List (Nat × Value)) : Prop := ∀ q ∈ L, okv n q.2 ∧ q.2.category = 1
def trL (ν : Nat → Nat) (L : List (Nat × Value)) : List (Nat × Value) := L.map fun q => (q.1, tr ν q.2)
def G {ρ : Type} (Γ : GX) (mk : ρ → Rs) (cells slots pc : Nat) (L : List (Nat × Value)) (st : List Value) (σ : Sg) (o : Option ρ) : Prop := match Γ with
  | (p, l, e, R, s, m, args, below, meth, c, D, dA, Hl, ν0, N0, Qr) => ∀ r, o = some r → ∀ (ν : Nat → Nat) (H : Heap) (ls : Array Slot) (locs : List Loc), ext ν0 N0 ν → N0 ≤ σ.1 → Wd D dA Hl.size ν σ H → va_S (fun q => Hl.size ≤ q) Hl H locs → okL σ.1 L → oks σ.1 st → lv_has ls c.maxLocals (trL ν L) → W p l e R s m args below meth c H locs cells slots (Qr (mk r)) (F0 m pc ls (st.map (tr ν)))
/-- what holds in the method's frame: its code, the words of the tables, the facts of the start, its room -/
def Cx (Γ : GX) (own : String) (cc : ByteArray) (nL : Nat) (rm : Room) : Prop := match Γ with
  | (p, l, e, R, s, m, args, below, meth, c, D, dA, Hl, ν0, N0, Qr) => p.tables.exec = Jvm.exec ∧ c.code = cc ∧ c.maxLocals = nL ∧ s.vm.findClass own = some m.cls ∧ (∀ w ∈ TB, w.before args s = true) ∧ Fx D dA Hl s ∧ meth.locks = false ∧ l.stackTraces = false ∧ R = rm
theorem trL_at {ν : Nat → Nat} {L : List (Nat × Value)} {k i : Nat} {v : Value} (h : L[k]? = some (i, v)) : (trL ν L)[k]? = some (i, tr ν v) := by
  rw [trL, List.getElem?_map, h]; rfl
theorem okL_at {n : Nat} {L : List (Nat × Value)} {k i : Nat} {v : Value} (h : okL n L) (hk : L[k]? = some (i, v)) : okv n v ∧ v.category = 1 := h _ (List.mem_of_getElem? hk)
theorem okL_oks {n : Nat} {L : List (Nat × Value)} (h : okL n L) : oks n (L.map Prod.snd) := fun v hv => by
  obtain ⟨q, hq, rfl⟩ := List.mem_map.mp hv
  exact (h q hq).1
theorem okL_mono {n n' : Nat} (hn : n ≤ n') {L : List (Nat × Value)} (h : okL n L) : okL n' L := fun q hq => ⟨okv_mono hn (h q hq).1, (h q hq).2⟩
theorem ext_trL {ν0 ν : Nat → Nat} {n : Nat} (h : ext ν0 n ν) {L : List (Nat × Value)} (hv : okL n L) : trL ν L = trL ν0 L := List.map_congr_left fun q hw => by rw [ext_tr h (hv q hw).1]
/-- a store into the locals -/
def putL (L : List (Nat × Value)) (i : Nat) (v : Value) : List (Nat × Value) := (i, v) :: L.filter (fun q => !(q.1 == i))
theorem okL_put {n : Nat} {L : List (Nat × Value)} {i : Nat} {v : Value} (h : okL n L) (hv : okv n v) (hc : v.category = 1) : okL n (putL L i v) := fun q hq => by
  rcases List.mem_cons.mp hq with e | hq
  · rw [e]; exact ⟨hv, hc⟩
  · exact h q (List.mem_filter.mp hq).1
theorem trL_put {ν : Nat → Nat} {n : Nat} {L : List (Nat × Value)} {i : Nat} {v : Value} (h : okL n L) : (i, tr ν v) :: (trL ν L).filter (fun q => !(q.1 == i) && !(q.1 + 1 == i && q.2.category == 2)) = trL ν (putL L i v) := by
  unfold trL putL
  rw [List.map_cons, List.filter_map]
  congr 2
  apply List.filter_congr
  intro q hq
  have h1 : (tr ν q.2).category = 1 := (tr_cat ν q.2).trans (h q hq).2
  simp [Function.comp, h1]
section GR
variable {ρ : Type} {mk : ρ → Rs} {Γ : GX} {own : String} {cc : ByteArray} {nL : Nat} {rm : Room} {cells slots pc : Nat} {L : List (Nat × Value)} {st : List Value} {σ : Sg} {o : Option ρ}
theorem g_none : G Γ mk cells slots pc L st σ none := by
  obtain ⟨p, l, e, R, s, m, args, below, meth, c, D, dA, Hl, ν0, N0, Qr⟩ := Γ
  intro r hr
  cases hr
theorem g_if {c : Prop} [Decidable c] (k : c → G Γ mk cells slots pc L st σ o) : G Γ mk cells slots pc L st σ (if c then o else none) := by
  by_cases h : c
  · rw [if_pos h]; exact k h
  · rw [if_neg h]; exact g_none
theorem g_ite {c : Prop} [Decidable c] {o1 o2 : Option ρ} (k1 : c → G Γ mk cells slots pc L st σ o1) (k2 : ¬ c → G Γ mk cells slots pc L st σ o2) : G Γ mk cells slots pc L st σ (if c then o1 else o2) := by
  by_cases h : c
  · rw [if_pos h]; exact k1 h
  · rw [if_neg h]; exact k2 h
theorem g_widen {k n : Nat} (h1 : cells ≤ k) (h2 : slots ≤ n) (kk : G Γ mk k n pc L st σ o) : G Γ mk cells slots pc L st σ o := by
  obtain ⟨p, l, e, R, s, m, args, below, meth, c, D, dA, Hl, ν0, N0, Qr⟩ := Γ
  intro r hr ν H ls locs a1 a2 a3 a4 a5 a6 a7
  exact W.widen h1 h2 (kk r hr ν H ls locs a1 a2 a3 a4 a5 a6 a7)
theorem g_sub {L' : List (Nat × Value)} (ks : List Nat) (hl : ks.filterMap (fun k => L[k]?) = L') (kk : G Γ mk cells slots pc L' st σ o) : G Γ mk cells slots pc L st σ o := by
  have hin : ∀ q ∈ L', q ∈ L := fun q hq => by
    rw [← hl] at hq
    obtain ⟨k, -, hk⟩ := List.mem_filterMap.mp hq
    exact List.mem_of_getElem? hk
  obtain ⟨p, l, e, R, s, m, args, below, meth, c, D, dA, Hl, ν0, N0, Qr⟩ := Γ
  intro r hr ν H ls locs a1 a2 a3 a4 a5 a6 a7
  refine kk r hr ν H ls locs a1 a2 a3 a4 (fun q hq => a5 q (hin q hq)) a6 ⟨a7.1, a7.2.1, fun q hq => ?_⟩
  obtain ⟨z, hz, rfl⟩ := List.mem_map.mp hq
  exact a7.2.2 _ (List.mem_map.mpr ⟨z, hin z hz, rfl⟩)
theorem g_iconst (K : Cx Γ own cc nL rm) {n : Int} {v : Int32} (d : decode cc pc = .ok (.iconst n, 1)) (hv : Int32.ofInt n = v) (k : G Γ mk cells slots (pc + 1) L (.int v :: st) σ o) : G Γ mk cells slots pc L (st) σ o := by
  obtain ⟨p, l, e, R, s, m, args, below, meth, c, D, dA, Hl, ν0, N0, Qr⟩ := Γ
  obtain ⟨hx, hb, hml, hown, hts, hF, hlk, htr, hR⟩ := K
  intro r hr ν H ls locs a1 a2 a3 a4 a5 a6 a7
  exact lv_iconst hx hb d hv (k r hr ν H ls locs a1 a2 a3 a4 a5 (oks_cons trivial a6) a7)
theorem g_bipush (K : Cx Γ own cc nL rm) {n : Int} {v : Int32} (d : decode cc pc = .ok (.bipush n, 2)) (hv : (Int8.ofInt n).toInt32 = v) (k : G Γ mk cells slots (pc + 2) L (.int v :: st) σ o) : G Γ mk cells slots pc L (st) σ o := by
  obtain ⟨p, l, e, R, s, m, args, below, meth, c, D, dA, Hl, ν0, N0, Qr⟩ := Γ
  obtain ⟨hx, hb, hml, hown, hts, hF, hlk, htr, hR⟩ := K
  intro r hr ν H ls locs a1 a2 a3 a4 a5 a6 a7
  exact lv_bipush hx hb d hv (k r hr ν H ls locs a1 a2 a3 a4 a5 (oks_cons trivial a6) a7)
theorem g_sipush (K : Cx Γ own cc nL rm) {n : Int} {v : Int32} (d : decode cc pc = .ok (.sipush n, 3)) (hv : (Int16.ofInt n).toInt32 = v) (k : G Γ mk cells slots (pc + 3) L (.int v :: st) σ o) : G Γ mk cells slots pc L (st) σ o := by
  obtain ⟨p, l, e, R, s, m, args, below, meth, c, D, dA, Hl, ν0, N0, Qr⟩ := Γ
  obtain ⟨hx, hb, hml, hown, hts, hF, hlk, htr, hR⟩ := K
  intro r hr ν H ls locs a1 a2 a3 a4 a5 a6 a7
  exact lv_sipush hx hb d hv (k r hr ν H ls locs a1 a2 a3 a4 a5 (oks_cons trivial a6) a7)
theorem g_lconst (K : Cx Γ own cc nL rm) {n : Fin 2} {v : Int64} (d : decode cc pc = .ok (.lconst n, 1)) (hv : Int64.ofNat (n : Nat) = v) (k : G Γ mk cells slots (pc + 1) L (.long v :: st) σ o) : G Γ mk cells slots pc L (st) σ o := by
  obtain ⟨p, l, e, R, s, m, args, below, meth, c, D, dA, Hl, ν0, N0, Qr⟩ := Γ
  obtain ⟨hx, hb, hml, hown, hts, hF, hlk, htr, hR⟩ := K
  intro r hr ν H ls locs a1 a2 a3 a4 a5 a6 a7
  exact lv_lconst hx hb d hv (k r hr ν H ls locs a1 a2 a3 a4 a5 (oks_cons trivial a6) a7)
theorem g_ldc (K : Cx Γ own cc nL rm) {i : Nat} {v : Int32} (hc : Cond.constant own i v ∈ TB) (d : decode cc pc = .ok (.ldc i, 2)) (k : G Γ mk cells slots (pc + 2) L (.int v :: st) σ o) : G Γ mk cells slots pc L (st) σ o := by
  obtain ⟨p, l, e, R, s, m, args, below, meth, c, D, dA, Hl, ν0, N0, Qr⟩ := Γ
  obtain ⟨hx, hb, hml, hown, hts, hF, hlk, htr, hR⟩ := K
  intro r hr ν H ls locs a1 a2 a3 a4 a5 a6 a7
  exact lv_ldc hx hb hown (hts _ hc) d (k r hr ν H ls locs a1 a2 a3 a4 a5 (oks_cons trivial a6) a7)
theorem g_null (K : Cx Γ own cc nL rm) (d : decode cc pc = .ok (.aconst_null, 1)) (k : G Γ mk cells slots (pc + 1) L (.null :: st) σ o) : G Γ mk cells slots pc L (st) σ o := by
  obtain ⟨p, l, e, R, s, m, args, below, meth, c, D, dA, Hl, ν0, N0, Qr⟩ := Γ
  obtain ⟨hx, hb, hml, hown, hts, hF, hlk, htr, hR⟩ := K
  intro r hr ν H ls locs a1 a2 a3 a4 a5 a6 a7
  exact lv_null hx hb d (k r hr ν H ls locs a1 a2 a3 a4 a5 (oks_cons trivial a6) a7)
theorem g_iload_n (K : Cx Γ own cc nL rm) {i : Fin 4} {j : Nat} {x : Int32} (d : decode cc pc = .ok (.iload_n i, 1)) (hL : L[j]? = some ((i : Nat), .int x)) (k : G Γ mk cells slots (pc + 1) L (.int x :: st) σ o) : G Γ mk cells slots pc L (st) σ o := by
  obtain ⟨p, l, e, R, s, m, args, below, meth, c, D, dA, Hl, ν0, N0, Qr⟩ := Γ
  obtain ⟨hx, hb, hml, hown, hts, hF, hlk, htr, hR⟩ := K
  intro r hr ν H ls locs a1 a2 a3 a4 a5 a6 a7
  exact lv_iload_n hx hb d rfl (lv_at a7 j (trL_at hL)) (k r hr ν H ls locs a1 a2 a3 a4 a5 (oks_cons trivial a6) a7)
theorem g_iload (K : Cx Γ own cc nL rm) {i j : Nat} {x : Int32} (d : decode cc pc = .ok (.iload i, 2)) (hL : L[j]? = some (i, .int x)) (k : G Γ mk cells slots (pc + 2) L (.int x :: st) σ o) : G Γ mk cells slots pc L (st) σ o := by
  obtain ⟨p, l, e, R, s, m, args, below, meth, c, D, dA, Hl, ν0, N0, Qr⟩ := Γ
  obtain ⟨hx, hb, hml, hown, hts, hF, hlk, htr, hR⟩ := K
  intro r hr ν H ls locs a1 a2 a3 a4 a5 a6 a7
  exact lv_iload hx hb d (lv_at a7 j (trL_at hL)) (k r hr ν H ls locs a1 a2 a3 a4 a5 (oks_cons trivial a6) a7)
theorem g_aload_n (K : Cx Γ own cc nL rm) {i : Fin 4} {j : Nat} {x : Nat} (d : decode cc pc = .ok (.aload_n i, 1)) (hL : L[j]? = some ((i : Nat), .ref x)) (k : G Γ mk cells slots (pc + 1) L (.ref x :: st) σ o) : G Γ mk cells slots pc L (st) σ o := by
  obtain ⟨p, l, e, R, s, m, args, below, meth, c, D, dA, Hl, ν0, N0, Qr⟩ := Γ
  obtain ⟨hx, hb, hml, hown, hts, hF, hlk, htr, hR⟩ := K
  intro r hr ν H ls locs a1 a2 a3 a4 a5 a6 a7
  exact lv_aload_n hx hb d rfl (lv_at a7 j (trL_at hL)) (k r hr ν H ls locs a1 a2 a3 a4 a5 (oks_cons (okL_at a5 hL).1 a6) a7)
theorem g_aload (K : Cx Γ own cc nL rm) {i j : Nat} {x : Nat} (d : decode cc pc = .ok (.aload i, 2)) (hL : L[j]? = some (i, .ref x)) (k : G Γ mk cells slots (pc + 2) L (.ref x :: st) σ o) : G Γ mk cells slots pc L (st) σ o := by
  obtain ⟨p, l, e, R, s, m, args, below, meth, c, D, dA, Hl, ν0, N0, Qr⟩ := Γ
  obtain ⟨hx, hb, hml, hown, hts, hF, hlk, htr, hR⟩ := K
  intro r hr ν H ls locs a1 a2 a3 a4 a5 a6 a7
  exact lv_aload hx hb d (lv_at a7 j (trL_at hL)) (k r hr ν H ls locs a1 a2 a3 a4 a5 (oks_cons (okL_at a5 hL).1 a6) a7)
theorem g_aload_nN (K : Cx Γ own cc nL rm) {i : Fin 4} {j : Nat} (d : decode cc pc = .ok (.aload_n i, 1)) (hL : L[j]? = some ((i : Nat), .null)) (k : G Γ mk cells slots (pc + 1) L (.null :: st) σ o) : G Γ mk cells slots pc L (st) σ o := by
  obtain ⟨p, l, e, R, s, m, args, below, meth, c, D, dA, Hl, ν0, N0, Qr⟩ := Γ
  obtain ⟨hx, hb, hml, hown, hts, hF, hlk, htr, hR⟩ := K
  intro r hr ν H ls locs a1 a2 a3 a4 a5 a6 a7
  exact lv_aload_nN hx hb d rfl (lv_at a7 j (trL_at hL)) (k r hr ν H ls locs a1 a2 a3 a4 a5 (oks_cons trivial a6) a7)
theorem g_aloadN (K : Cx Γ own cc nL rm) {i j : Nat} (d : decode cc pc = .ok (.aload i, 2)) (hL : L[j]? = some (i, .null)) (k : G Γ mk cells slots (pc + 2) L (.null :: st) σ o) : G Γ mk cells slots pc L (st) σ o := by
  obtain ⟨p, l, e, R, s, m, args, below, meth, c, D, dA, Hl, ν0, N0, Qr⟩ := Γ
  obtain ⟨hx, hb, hml, hown, hts, hF, hlk, htr, hR⟩ := K
  intro r hr ν H ls locs a1 a2 a3 a4 a5 a6 a7
  exact lv_aloadN hx hb d (lv_at a7 j (trL_at hL)) (k r hr ν H ls locs a1 a2 a3 a4 a5 (oks_cons trivial a6) a7)
theorem g_istore_n (K : Cx Γ own cc nL rm) {i : Fin 4} {x : Int32} {L' : List (Nat × Value)} (d : decode cc pc = .ok (.istore_n i, 1)) (hn : (i : Nat) < nL) (hl : putL L i (.int x) = L') (k : G Γ mk cells slots (pc + 1) L' st σ o) : G Γ mk cells slots pc L (.int x :: st) σ o := by
  obtain ⟨p, l, e, R, s, m, args, below, meth, c, D, dA, Hl, ν0, N0, Qr⟩ := Γ
  obtain ⟨hx, hb, hml, hown, hts, hF, hlk, htr, hR⟩ := K
  intro r hr ν H ls locs a1 a2 a3 a4 a5 a6 a7
  subst hl
  exact lv_istore_n hx hb d rfl a7 (by rw [hml]; exact hn) (trL_put (v := .int x) a5) (fun ls' h' => k r hr ν H ls' locs a1 a2 a3 a4 (okL_put a5 (trivial) rfl) (oks_tail a6) h')
theorem g_istore (K : Cx Γ own cc nL rm) {i : Nat} {x : Int32} {L' : List (Nat × Value)} (d : decode cc pc = .ok (.istore i, 2)) (hn : (i : Nat) < nL) (hl : putL L i (.int x) = L') (k : G Γ mk cells slots (pc + 2) L' st σ o) : G Γ mk cells slots pc L (.int x :: st) σ o := by
  obtain ⟨p, l, e, R, s, m, args, below, meth, c, D, dA, Hl, ν0, N0, Qr⟩ := Γ
  obtain ⟨hx, hb, hml, hown, hts, hF, hlk, htr, hR⟩ := K
  intro r hr ν H ls locs a1 a2 a3 a4 a5 a6 a7
  subst hl
  exact lv_istore hx hb d a7 (by rw [hml]; exact hn) (trL_put (v := .int x) a5) (fun ls' h' => k r hr ν H ls' locs a1 a2 a3 a4 (okL_put a5 (trivial) rfl) (oks_tail a6) h')
theorem g_astore_n (K : Cx Γ own cc nL rm) {i : Fin 4} {x : Nat} {L' : List (Nat × Value)} (d : decode cc pc = .ok (.astore_n i, 1)) (hn : (i : Nat) < nL) (hl : putL L i (.ref x) = L') (k : G Γ mk cells slots (pc + 1) L' st σ o) : G Γ mk cells slots pc L (.ref x :: st) σ o := by
  obtain ⟨p, l, e, R, s, m, args, below, meth, c, D, dA, Hl, ν0, N0, Qr⟩ := Γ
  obtain ⟨hx, hb, hml, hown, hts, hF, hlk, htr, hR⟩ := K
  intro r hr ν H ls locs a1 a2 a3 a4 a5 a6 a7
  subst hl
  exact lv_astore_n hx hb d rfl a7 (by rw [hml]; exact hn) (trL_put (v := .ref x) a5) (fun ls' h' => k r hr ν H ls' locs a1 a2 a3 a4 (okL_put a5 (oks_head a6) rfl) (oks_tail a6) h')
theorem g_astore (K : Cx Γ own cc nL rm) {i x : Nat} {L' : List (Nat × Value)} (d : decode cc pc = .ok (.astore i, 2)) (hn : (i : Nat) < nL) (hl : putL L i (.ref x) = L') (k : G Γ mk cells slots (pc + 2) L' st σ o) : G Γ mk cells slots pc L (.ref x :: st) σ o := by
  obtain ⟨p, l, e, R, s, m, args, below, meth, c, D, dA, Hl, ν0, N0, Qr⟩ := Γ
  obtain ⟨hx, hb, hml, hown, hts, hF, hlk, htr, hR⟩ := K
  intro r hr ν H ls locs a1 a2 a3 a4 a5 a6 a7
  subst hl
  exact lv_astore hx hb d a7 (by rw [hml]; exact hn) (trL_put (v := .ref x) a5) (fun ls' h' => k r hr ν H ls' locs a1 a2 a3 a4 (okL_put a5 (oks_head a6) rfl) (oks_tail a6) h')
theorem g_astore_nN (K : Cx Γ own cc nL rm) {i : Fin 4} {L' : List (Nat × Value)} (d : decode cc pc = .ok (.astore_n i, 1)) (hn : (i : Nat) < nL) (hl : putL L i (.null) = L') (k : G Γ mk cells slots (pc + 1) L' st σ o) : G Γ mk cells slots pc L (.null :: st) σ o := by
  obtain ⟨p, l, e, R, s, m, args, below, meth, c, D, dA, Hl, ν0, N0, Qr⟩ := Γ
  obtain ⟨hx, hb, hml, hown, hts, hF, hlk, htr, hR⟩ := K
  intro r hr ν H ls locs a1 a2 a3 a4 a5 a6 a7
  subst hl
  exact lv_astore_nN hx hb d rfl a7 (by rw [hml]; exact hn) (trL_put (v := .null) a5) (fun ls' h' => k r hr ν H ls' locs a1 a2 a3 a4 (okL_put a5 (trivial) rfl) (oks_tail a6) h')
theorem g_astoreN (K : Cx Γ own cc nL rm) {i : Nat} {L' : List (Nat × Value)} (d : decode cc pc = .ok (.astore i, 2)) (hn : (i : Nat) < nL) (hl : putL L i (.null) = L') (k : G Γ mk cells slots (pc + 2) L' st σ o) : G Γ mk cells slots pc L (.null :: st) σ o := by
  obtain ⟨p, l, e, R, s, m, args, below, meth, c, D, dA, Hl, ν0, N0, Qr⟩ := Γ
  obtain ⟨hx, hb, hml, hown, hts, hF, hlk, htr, hR⟩ := K
  intro r hr ν H ls locs a1 a2 a3 a4 a5 a6 a7
  subst hl
  exact lv_astoreN hx hb d a7 (by rw [hml]; exact hn) (trL_put (v := .null) a5) (fun ls' h' => k r hr ν H ls' locs a1 a2 a3 a4 (okL_put a5 (trivial) rfl) (oks_tail a6) h')
theorem g_iinc (K : Cx Γ own cc nL rm) {i j : Nat} {n : Int} {x v : Int32} {L' : List (Nat × Value)} (d : decode cc pc = .ok (.iinc i n, 3)) (hL : L[j]? = some (i, .int x)) (hv : x + Int32.ofInt n = v) (hn : i < nL) (hl : putL L i (.int v) = L') (k : G Γ mk cells slots (pc + 3) L' st σ o) : G Γ mk cells slots pc L st σ o := by
  obtain ⟨p, l, e, R, s, m, args, below, meth, c, D, dA, Hl, ν0, N0, Qr⟩ := Γ
  obtain ⟨hx, hb, hml, hown, hts, hF, hlk, htr, hR⟩ := K
  intro r hr ν H ls locs a1 a2 a3 a4 a5 a6 a7
  subst hl
  exact lv_iinc hx hb d a7 (trL_at hL) hv (by rw [hml]; exact hn) (trL_put (v := .int v) a5) (fun ls' h' => k r hr ν H ls' locs a1 a2 a3 a4 (okL_put a5 trivial rfl) a6 h')
theorem g_iadd (K : Cx Γ own cc nL rm) {x y : Int32} (d : decode cc pc = .ok (.iadd, 1)) (k : G Γ mk cells slots (pc + 1) L (.int (x + y) :: st) σ o) : G Γ mk cells slots pc L (.int y :: .int x :: st) σ o := by
  obtain ⟨p, l, e, R, s, m, args, below, meth, c, D, dA, Hl, ν0, N0, Qr⟩ := Γ
  obtain ⟨hx, hb, hml, hown, hts, hF, hlk, htr, hR⟩ := K
  intro r hr ν H ls locs a1 a2 a3 a4 a5 a6 a7
  exact lv_iadd hx hb d (k r hr ν H ls locs a1 a2 a3 a4 a5 (oks_cons trivial (oks_tail (oks_tail a6))) a7)
theorem g_isub (K : Cx Γ own cc nL rm) {x y : Int32} (d : decode cc pc = .ok (.isub, 1)) (k : G Γ mk cells slots (pc + 1) L (.int (x - y) :: st) σ o) : G Γ mk cells slots pc L (.int y :: .int x :: st) σ o := by
  obtain ⟨p, l, e, R, s, m, args, below, meth, c, D, dA, Hl, ν0, N0, Qr⟩ := Γ
  obtain ⟨hx, hb, hml, hown, hts, hF, hlk, htr, hR⟩ := K
  intro r hr ν H ls locs a1 a2 a3 a4 a5 a6 a7
  exact lv_isub hx hb d (k r hr ν H ls locs a1 a2 a3 a4 a5 (oks_cons trivial (oks_tail (oks_tail a6))) a7)
theorem g_imul (K : Cx Γ own cc nL rm) {x y : Int32} (d : decode cc pc = .ok (.imul, 1)) (k : G Γ mk cells slots (pc + 1) L (.int (x * y) :: st) σ o) : G Γ mk cells slots pc L (.int y :: .int x :: st) σ o := by
  obtain ⟨p, l, e, R, s, m, args, below, meth, c, D, dA, Hl, ν0, N0, Qr⟩ := Γ
  obtain ⟨hx, hb, hml, hown, hts, hF, hlk, htr, hR⟩ := K
  intro r hr ν H ls locs a1 a2 a3 a4 a5 a6 a7
  exact lv_imul hx hb d (k r hr ν H ls locs a1 a2 a3 a4 a5 (oks_cons trivial (oks_tail (oks_tail a6))) a7)
theorem g_iand (K : Cx Γ own cc nL rm) {x y : Int32} (d : decode cc pc = .ok (.iand, 1)) (k : G Γ mk cells slots (pc + 1) L (.int (x &&& y) :: st) σ o) : G Γ mk cells slots pc L (.int y :: .int x :: st) σ o := by
  obtain ⟨p, l, e, R, s, m, args, below, meth, c, D, dA, Hl, ν0, N0, Qr⟩ := Γ
  obtain ⟨hx, hb, hml, hown, hts, hF, hlk, htr, hR⟩ := K
  intro r hr ν H ls locs a1 a2 a3 a4 a5 a6 a7
  exact lv_iand hx hb d (k r hr ν H ls locs a1 a2 a3 a4 a5 (oks_cons trivial (oks_tail (oks_tail a6))) a7)
theorem g_ior (K : Cx Γ own cc nL rm) {x y : Int32} (d : decode cc pc = .ok (.ior, 1)) (k : G Γ mk cells slots (pc + 1) L (.int (x ||| y) :: st) σ o) : G Γ mk cells slots pc L (.int y :: .int x :: st) σ o := by
  obtain ⟨p, l, e, R, s, m, args, below, meth, c, D, dA, Hl, ν0, N0, Qr⟩ := Γ
  obtain ⟨hx, hb, hml, hown, hts, hF, hlk, htr, hR⟩ := K
  intro r hr ν H ls locs a1 a2 a3 a4 a5 a6 a7
  exact lv_ior hx hb d (k r hr ν H ls locs a1 a2 a3 a4 a5 (oks_cons trivial (oks_tail (oks_tail a6))) a7)
theorem g_ixor (K : Cx Γ own cc nL rm) {x y : Int32} (d : decode cc pc = .ok (.ixor, 1)) (k : G Γ mk cells slots (pc + 1) L (.int (x ^^^ y) :: st) σ o) : G Γ mk cells slots pc L (.int y :: .int x :: st) σ o := by
  obtain ⟨p, l, e, R, s, m, args, below, meth, c, D, dA, Hl, ν0, N0, Qr⟩ := Γ
  obtain ⟨hx, hb, hml, hown, hts, hF, hlk, htr, hR⟩ := K
  intro r hr ν H ls locs a1 a2 a3 a4 a5 a6 a7
  exact lv_ixor hx hb d (k r hr ν H ls locs a1 a2 a3 a4 a5 (oks_cons trivial (oks_tail (oks_tail a6))) a7)
theorem g_ishl (K : Cx Γ own cc nL rm) {x y : Int32} (d : decode cc pc = .ok (.ishl, 1)) (k : G Γ mk cells slots (pc + 1) L (.int (x <<< (y &&& 31)) :: st) σ o) : G Γ mk cells slots pc L (.int y :: .int x :: st) σ o := by
  obtain ⟨p, l, e, R, s, m, args, below, meth, c, D, dA, Hl, ν0, N0, Qr⟩ := Γ
  obtain ⟨hx, hb, hml, hown, hts, hF, hlk, htr, hR⟩ := K
  intro r hr ν H ls locs a1 a2 a3 a4 a5 a6 a7
  exact lv_ishl hx hb d (k r hr ν H ls locs a1 a2 a3 a4 a5 (oks_cons trivial (oks_tail (oks_tail a6))) a7)
theorem g_ishr (K : Cx Γ own cc nL rm) {x y : Int32} (d : decode cc pc = .ok (.ishr, 1)) (k : G Γ mk cells slots (pc + 1) L (.int (x >>> (y &&& 31)) :: st) σ o) : G Γ mk cells slots pc L (.int y :: .int x :: st) σ o := by
  obtain ⟨p, l, e, R, s, m, args, below, meth, c, D, dA, Hl, ν0, N0, Qr⟩ := Γ
  obtain ⟨hx, hb, hml, hown, hts, hF, hlk, htr, hR⟩ := K
  intro r hr ν H ls locs a1 a2 a3 a4 a5 a6 a7
  exact lv_ishr hx hb d (k r hr ν H ls locs a1 a2 a3 a4 a5 (oks_cons trivial (oks_tail (oks_tail a6))) a7)
theorem g_iushr (K : Cx Γ own cc nL rm) {x y : Int32} (d : decode cc pc = .ok (.iushr, 1)) (k : G Γ mk cells slots (pc + 1) L (.int (x.toUInt32 >>> (y.toUInt32 &&& Int32.toUInt32 31)).toInt32 :: st) σ o) : G Γ mk cells slots pc L (.int y :: .int x :: st) σ o := by
  obtain ⟨p, l, e, R, s, m, args, below, meth, c, D, dA, Hl, ν0, N0, Qr⟩ := Γ
  obtain ⟨hx, hb, hml, hown, hts, hF, hlk, htr, hR⟩ := K
  intro r hr ν H ls locs a1 a2 a3 a4 a5 a6 a7
  exact lv_iushr hx hb d rfl (k r hr ν H ls locs a1 a2 a3 a4 a5 (oks_cons trivial (oks_tail (oks_tail a6))) a7)
theorem g_i2l (K : Cx Γ own cc nL rm) {x : Int32} (d : decode cc pc = .ok (.i2l, 1)) (k : G Γ mk cells slots (pc + 1) L (.long x.toInt64 :: st) σ o) : G Γ mk cells slots pc L (.int x :: st) σ o := by
  obtain ⟨p, l, e, R, s, m, args, below, meth, c, D, dA, Hl, ν0, N0, Qr⟩ := Γ
  obtain ⟨hx, hb, hml, hown, hts, hF, hlk, htr, hR⟩ := K
  intro r hr ν H ls locs a1 a2 a3 a4 a5 a6 a7
  exact lv_i2l hx hb d rfl (k r hr ν H ls locs a1 a2 a3 a4 a5 (oks_cons trivial (oks_tail a6)) a7)
theorem g_lcmp (K : Cx Γ own cc nL rm) {x y : Int64} (d : decode cc pc = .ok (.lcmp, 1)) (k : G Γ mk cells slots (pc + 1) L (.int (lg_cmp x y) :: st) σ o) : G Γ mk cells slots pc L (.long y :: .long x :: st) σ o := by
  obtain ⟨p, l, e, R, s, m, args, below, meth, c, D, dA, Hl, ν0, N0, Qr⟩ := Γ
  obtain ⟨hx, hb, hml, hown, hts, hF, hlk, htr, hR⟩ := K
  intro r hr ν H ls locs a1 a2 a3 a4 a5 a6 a7
  exact W.lcmp hx hb d (k r hr ν H ls locs a1 a2 a3 a4 a5 (oks_cons trivial (oks_tail (oks_tail a6))) a7)
theorem g_dup (K : Cx Γ own cc nL rm) {v : Value} (d : decode cc pc = .ok (.dup, 1)) (hc : v.category = 1) (k : G Γ mk cells slots (pc + 1) L (v :: v :: st) σ o) : G Γ mk cells slots pc L (v :: st) σ o := by
  obtain ⟨p, l, e, R, s, m, args, below, meth, c, D, dA, Hl, ν0, N0, Qr⟩ := Γ
  obtain ⟨hx, hb, hml, hown, hts, hF, hlk, htr, hR⟩ := K
  intro r hr ν H ls locs a1 a2 a3 a4 a5 a6 a7
  exact lv_dup hx hb d ((tr_cat ν v).trans hc) (k r hr ν H ls locs a1 a2 a3 a4 a5 (oks_cons (oks_head a6) a6) a7)
theorem g_pop (K : Cx Γ own cc nL rm) {v : Value} (d : decode cc pc = .ok (.pop, 1)) (hc : v.category = 1) (k : G Γ mk cells slots (pc + 1) L (st) σ o) : G Γ mk cells slots pc L (v :: st) σ o := by
  obtain ⟨p, l, e, R, s, m, args, below, meth, c, D, dA, Hl, ν0, N0, Qr⟩ := Γ
  obtain ⟨hx, hb, hml, hown, hts, hF, hlk, htr, hR⟩ := K
  intro r hr ν H ls locs a1 a2 a3 a4 a5 a6 a7
  exact lv_pop hx hb d ((tr_cat ν v).trans hc) (k r hr ν H ls locs a1 a2 a3 a4 a5 (oks_tail a6) a7)
theorem g_dup_x1 (K : Cx Γ own cc nL rm) {v w : Value} (d : decode cc pc = .ok (.dup_x1, 1)) (hc : v.category = 1) (hc2 : w.category = 1) (k : G Γ mk cells slots (pc + 1) L (v :: w :: v :: st) σ o) : G Γ mk cells slots pc L (v :: w :: st) σ o := by
  obtain ⟨p, l, e, R, s, m, args, below, meth, c, D, dA, Hl, ν0, N0, Qr⟩ := Γ
  obtain ⟨hx, hb, hml, hown, hts, hF, hlk, htr, hR⟩ := K
  intro r hr ν H ls locs a1 a2 a3 a4 a5 a6 a7
  exact lv_dup_x1 hx hb d ((tr_cat ν v).trans hc) ((tr_cat ν w).trans hc2) (k r hr ν H ls locs a1 a2 a3 a4 a5 (oks_cons (oks_head a6) (oks_cons (oks_head (oks_tail a6)) (oks_cons (oks_head a6) (oks_tail (oks_tail a6))))) a7)
theorem g_dup2 (K : Cx Γ own cc nL rm) {v w : Value} (d : decode cc pc = .ok (.dup2, 1)) (hc : v.category = 1) (hc2 : w.category = 1) (k : G Γ mk cells slots (pc + 1) L (v :: w :: v :: w :: st) σ o) : G Γ mk cells slots pc L (v :: w :: st) σ o := by
  obtain ⟨p, l, e, R, s, m, args, below, meth, c, D, dA, Hl, ν0, N0, Qr⟩ := Γ
  obtain ⟨hx, hb, hml, hown, hts, hF, hlk, htr, hR⟩ := K
  intro r hr ν H ls locs a1 a2 a3 a4 a5 a6 a7
  exact lv_dup2_11 hx hb d ((tr_cat ν v).trans hc) ((tr_cat ν w).trans hc2) (k r hr ν H ls locs a1 a2 a3 a4 a5 (oks_cons (oks_head a6) (oks_cons (oks_head (oks_tail a6)) a6)) a7)
-- branches below
theorem g_if_eq (K : Cx Γ own cc nL rm) {x : Int32} {off : Int} {tgt : Nat} {o1 o2 : Option ρ} (d : decode cc pc = .ok (.ifCond .eq off, 3)) (ht : (pc : Int) + off = (tgt : Int)) (kt : x = 0 → G Γ mk cells slots tgt L st σ o1) (kf : ¬ x = 0 → G Γ mk cells slots (pc + 3) L st σ o2) : G Γ mk cells slots pc L (.int x :: st) σ (if x = 0 then o1 else o2) := by
  obtain ⟨p, l, e, R, s, m, args, below, meth, c, D, dA, Hl, ν0, N0, Qr⟩ := Γ
  obtain ⟨hx, hb, hml, hown, hts, hF, hlk, htr, hR⟩ := K
  intro r hr ν H ls locs a1 a2 a3 a4 a5 a6 a7
  refine lv_if_eq hx hb d ht (fun h => kt h r ?_ ν H ls locs a1 a2 a3 a4 a5 (oks_tail a6) a7) (fun h => kf h r ?_ ν H ls locs a1 a2 a3 a4 a5 (oks_tail a6) a7)
  · first | (rw [if_pos h] at hr; exact hr) | (rw [if_neg h] at hr; exact hr)
  · first | (rw [if_neg h] at hr; exact hr) | (rw [if_pos h] at hr; exact hr)
theorem g_icmp_eq (K : Cx Γ own cc nL rm) {x y : Int32} {off : Int} {tgt : Nat} {o1 o2 : Option ρ} (d : decode cc pc = .ok (.if_icmp .eq off, 3)) (ht : (pc : Int) + off = (tgt : Int)) (kt : x = y → G Γ mk cells slots tgt L st σ o1) (kf : ¬ x = y → G Γ mk cells slots (pc + 3) L st σ o2) : G Γ mk cells slots pc L (.int y :: .int x :: st) σ (if x = y then o1 else o2) := by
  obtain ⟨p, l, e, R, s, m, args, below, meth, c, D, dA, Hl, ν0, N0, Qr⟩ := Γ
  obtain ⟨hx, hb, hml, hown, hts, hF, hlk, htr, hR⟩ := K
  intro r hr ν H ls locs a1 a2 a3 a4 a5 a6 a7
  refine lv_icmp_eq hx hb d ht (fun h => kt h r ?_ ν H ls locs a1 a2 a3 a4 a5 (oks_tail (oks_tail a6)) a7) (fun h => kf h r ?_ ν H ls locs a1 a2 a3 a4 a5 (oks_tail (oks_tail a6)) a7)
  · first | (rw [if_pos h] at hr; exact hr) | (rw [if_neg h] at hr; exact hr)
  · first | (rw [if_neg h] at hr; exact hr) | (rw [if_pos h] at hr; exact hr)
theorem g_if_ne (K : Cx Γ own cc nL rm) {x : Int32} {off : Int} {tgt : Nat} {o1 o2 : Option ρ} (d : decode cc pc = .ok (.ifCond .ne off, 3)) (ht : (pc : Int) + off = (tgt : Int)) (kt : ¬ x = 0 → G Γ mk cells slots tgt L st σ o1) (kf : x = 0 → G Γ mk cells slots (pc + 3) L st σ o2) : G Γ mk cells slots pc L (.int x :: st) σ (if x = 0 then o2 else o1) := by
  obtain ⟨p, l, e, R, s, m, args, below, meth, c, D, dA, Hl, ν0, N0, Qr⟩ := Γ
  obtain ⟨hx, hb, hml, hown, hts, hF, hlk, htr, hR⟩ := K
  intro r hr ν H ls locs a1 a2 a3 a4 a5 a6 a7
  refine lv_if_ne hx hb d ht (fun h => kt h r ?_ ν H ls locs a1 a2 a3 a4 a5 (oks_tail a6) a7) (fun h => kf h r ?_ ν H ls locs a1 a2 a3 a4 a5 (oks_tail a6) a7)
  · first | (rw [if_pos h] at hr; exact hr) | (rw [if_neg h] at hr; exact hr)
  · first | (rw [if_neg h] at hr; exact hr) | (rw [if_pos h] at hr; exact hr)
theorem g_icmp_ne (K : Cx Γ own cc nL rm) {x y : Int32} {off : Int} {tgt : Nat} {o1 o2 : Option ρ} (d : decode cc pc = .ok (.if_icmp .ne off, 3)) (ht : (pc : Int) + off = (tgt : Int)) (kt : ¬ x = y → G Γ mk cells slots tgt L st σ o1) (kf : x = y → G Γ mk cells slots (pc + 3) L st σ o2) : G Γ mk cells slots pc L (.int y :: .int x :: st) σ (if x = y then o2 else o1) := by
  obtain ⟨p, l, e, R, s, m, args, below, meth, c, D, dA, Hl, ν0, N0, Qr⟩ := Γ
  obtain ⟨hx, hb, hml, hown, hts, hF, hlk, htr, hR⟩ := K
  intro r hr ν H ls locs a1 a2 a3 a4 a5 a6 a7
  refine lv_icmp_ne hx hb d ht (fun h => kt h r ?_ ν H ls locs a1 a2 a3 a4 a5 (oks_tail (oks_tail a6)) a7) (fun h => kf h r ?_ ν H ls locs a1 a2 a3 a4 a5 (oks_tail (oks_tail a6)) a7)
  · first | (rw [if_pos h] at hr; exact hr) | (rw [if_neg h] at hr; exact hr)
  · first | (rw [if_neg h] at hr; exact hr) | (rw [if_pos h] at hr; exact hr)
theorem g_if_lt (K : Cx Γ own cc nL rm) {x : Int32} {off : Int} {tgt : Nat} {o1 o2 : Option ρ} (d : decode cc pc = .ok (.ifCond .lt off, 3)) (ht : (pc : Int) + off = (tgt : Int)) (kt : x < 0 → G Γ mk cells slots tgt L st σ o1) (kf : ¬ x < 0 → G Γ mk cells slots (pc + 3) L st σ o2) : G Γ mk cells slots pc L (.int x :: st) σ (if x < 0 then o1 else o2) := by
  obtain ⟨p, l, e, R, s, m, args, below, meth, c, D, dA, Hl, ν0, N0, Qr⟩ := Γ
  obtain ⟨hx, hb, hml, hown, hts, hF, hlk, htr, hR⟩ := K
  intro r hr ν H ls locs a1 a2 a3 a4 a5 a6 a7
  refine lv_if_lt hx hb d ht (fun h => kt h r ?_ ν H ls locs a1 a2 a3 a4 a5 (oks_tail a6) a7) (fun h => kf h r ?_ ν H ls locs a1 a2 a3 a4 a5 (oks_tail a6) a7)
  · first | (rw [if_pos h] at hr; exact hr) | (rw [if_neg h] at hr; exact hr)
  · first | (rw [if_neg h] at hr; exact hr) | (rw [if_pos h] at hr; exact hr)
theorem g_icmp_lt (K : Cx Γ own cc nL rm) {x y : Int32} {off : Int} {tgt : Nat} {o1 o2 : Option ρ} (d : decode cc pc = .ok (.if_icmp .lt off, 3)) (ht : (pc : Int) + off = (tgt : Int)) (kt : x < y → G Γ mk cells slots tgt L st σ o1) (kf : ¬ x < y → G Γ mk cells slots (pc + 3) L st σ o2) : G Γ mk cells slots pc L (.int y :: .int x :: st) σ (if x < y then o1 else o2) := by
  obtain ⟨p, l, e, R, s, m, args, below, meth, c, D, dA, Hl, ν0, N0, Qr⟩ := Γ
  obtain ⟨hx, hb, hml, hown, hts, hF, hlk, htr, hR⟩ := K
  intro r hr ν H ls locs a1 a2 a3 a4 a5 a6 a7
  refine lv_icmp_lt hx hb d ht (fun h => kt h r ?_ ν H ls locs a1 a2 a3 a4 a5 (oks_tail (oks_tail a6)) a7) (fun h => kf h r ?_ ν H ls locs a1 a2 a3 a4 a5 (oks_tail (oks_tail a6)) a7)
  · first | (rw [if_pos h] at hr; exact hr) | (rw [if_neg h] at hr; exact hr)
  · first | (rw [if_neg h] at hr; exact hr) | (rw [if_pos h] at hr; exact hr)
theorem g_if_ge (K : Cx Γ own cc nL rm) {x : Int32} {off : Int} {tgt : Nat} {o1 o2 : Option ρ} (d : decode cc pc = .ok (.ifCond .ge off, 3)) (ht : (pc : Int) + off = (tgt : Int)) (kt : 0 ≤ x → G Γ mk cells slots tgt L st σ o1) (kf : ¬ 0 ≤ x → G Γ mk cells slots (pc + 3) L st σ o2) : G Γ mk cells slots pc L (.int x :: st) σ (if 0 ≤ x then o1 else o2) := by
  obtain ⟨p, l, e, R, s, m, args, below, meth, c, D, dA, Hl, ν0, N0, Qr⟩ := Γ
  obtain ⟨hx, hb, hml, hown, hts, hF, hlk, htr, hR⟩ := K
  intro r hr ν H ls locs a1 a2 a3 a4 a5 a6 a7
  refine lv_if_ge hx hb d ht (fun h => kt h r ?_ ν H ls locs a1 a2 a3 a4 a5 (oks_tail a6) a7) (fun h => kf h r ?_ ν H ls locs a1 a2 a3 a4 a5 (oks_tail a6) a7)
  · first | (rw [if_pos h] at hr; exact hr) | (rw [if_neg h] at hr; exact hr)
  · first | (rw [if_neg h] at hr; exact hr) | (rw [if_pos h] at hr; exact hr)
theorem g_icmp_ge (K : Cx Γ own cc nL rm) {x y : Int32} {off : Int} {tgt : Nat} {o1 o2 : Option ρ} (d : decode cc pc = .ok (.if_icmp .ge off, 3)) (ht : (pc : Int) + off = (tgt : Int)) (kt : y ≤ x → G Γ mk cells slots tgt L st σ o1) (kf : ¬ y ≤ x → G Γ mk cells slots (pc + 3) L st σ o2) : G Γ mk cells slots pc L (.int y :: .int x :: st) σ (if y ≤ x then o1 else o2) := by
  obtain ⟨p, l, e, R, s, m, args, below, meth, c, D, dA, Hl, ν0, N0, Qr⟩ := Γ
  obtain ⟨hx, hb, hml, hown, hts, hF, hlk, htr, hR⟩ := K
  intro r hr ν H ls locs a1 a2 a3 a4 a5 a6 a7
  refine lv_icmp_ge hx hb d ht (fun h => kt h r ?_ ν H ls locs a1 a2 a3 a4 a5 (oks_tail (oks_tail a6)) a7) (fun h => kf h r ?_ ν H ls locs a1 a2 a3 a4 a5 (oks_tail (oks_tail a6)) a7)
  · first | (rw [if_pos h] at hr; exact hr) | (rw [if_neg h] at hr; exact hr)
  · first | (rw [if_neg h] at hr; exact hr) | (rw [if_pos h] at hr; exact hr)
theorem g_if_gt (K : Cx Γ own cc nL rm) {x : Int32} {off : Int} {tgt : Nat} {o1 o2 : Option ρ} (d : decode cc pc = .ok (.ifCond .gt off, 3)) (ht : (pc : Int) + off = (tgt : Int)) (kt : 0 < x → G Γ mk cells slots tgt L st σ o1) (kf : ¬ 0 < x → G Γ mk cells slots (pc + 3) L st σ o2) : G Γ mk cells slots pc L (.int x :: st) σ (if 0 < x then o1 else o2) := by
  obtain ⟨p, l, e, R, s, m, args, below, meth, c, D, dA, Hl, ν0, N0, Qr⟩ := Γ
  obtain ⟨hx, hb, hml, hown, hts, hF, hlk, htr, hR⟩ := K
  intro r hr ν H ls locs a1 a2 a3 a4 a5 a6 a7
  refine lv_if_gt hx hb d ht (fun h => kt h r ?_ ν H ls locs a1 a2 a3 a4 a5 (oks_tail a6) a7) (fun h => kf h r ?_ ν H ls locs a1 a2 a3 a4 a5 (oks_tail a6) a7)
  · first | (rw [if_pos h] at hr; exact hr) | (rw [if_neg h] at hr; exact hr)
  · first | (rw [if_neg h] at hr; exact hr) | (rw [if_pos h] at hr; exact hr)
theorem g_icmp_gt (K : Cx Γ own cc nL rm) {x y : Int32} {off : Int} {tgt : Nat} {o1 o2 : Option ρ} (d : decode cc pc = .ok (.if_icmp .gt off, 3)) (ht : (pc : Int) + off = (tgt : Int)) (kt : y < x → G Γ mk cells slots tgt L st σ o1) (kf : ¬ y < x → G Γ mk cells slots (pc + 3) L st σ o2) : G Γ mk cells slots pc L (.int y :: .int x :: st) σ (if y < x then o1 else o2) := by
  obtain ⟨p, l, e, R, s, m, args, below, meth, c, D, dA, Hl, ν0, N0, Qr⟩ := Γ
  obtain ⟨hx, hb, hml, hown, hts, hF, hlk, htr, hR⟩ := K
  intro r hr ν H ls locs a1 a2 a3 a4 a5 a6 a7
  refine lv_icmp_gt hx hb d ht (fun h => kt h r ?_ ν H ls locs a1 a2 a3 a4 a5 (oks_tail (oks_tail a6)) a7) (fun h => kf h r ?_ ν H ls locs a1 a2 a3 a4 a5 (oks_tail (oks_tail a6)) a7)
  · first | (rw [if_pos h] at hr; exact hr) | (rw [if_neg h] at hr; exact hr)
  · first | (rw [if_neg h] at hr; exact hr) | (rw [if_pos h] at hr; exact hr)
theorem g_if_le (K : Cx Γ own cc nL rm) {x : Int32} {off : Int} {tgt : Nat} {o1 o2 : Option ρ} (d : decode cc pc = .ok (.ifCond .le off, 3)) (ht : (pc : Int) + off = (tgt : Int)) (kt : x ≤ 0 → G Γ mk cells slots tgt L st σ o1) (kf : ¬ x ≤ 0 → G Γ mk cells slots (pc + 3) L st σ o2) : G Γ mk cells slots pc L (.int x :: st) σ (if x ≤ 0 then o1 else o2) := by
  obtain ⟨p, l, e, R, s, m, args, below, meth, c, D, dA, Hl, ν0, N0, Qr⟩ := Γ
  obtain ⟨hx, hb, hml, hown, hts, hF, hlk, htr, hR⟩ := K
  intro r hr ν H ls locs a1 a2 a3 a4 a5 a6 a7
  refine lv_if_le hx hb d ht (fun h => kt h r ?_ ν H ls locs a1 a2 a3 a4 a5 (oks_tail a6) a7) (fun h => kf h r ?_ ν H ls locs a1 a2 a3 a4 a5 (oks_tail a6) a7)
  · first | (rw [if_pos h] at hr; exact hr) | (rw [if_neg h] at hr; exact hr)
  · first | (rw [if_neg h] at hr; exact hr) | (rw [if_pos h] at hr; exact hr)
theorem g_icmp_le (K : Cx Γ own cc nL rm) {x y : Int32} {off : Int} {tgt : Nat} {o1 o2 : Option ρ} (d : decode cc pc = .ok (.if_icmp .le off, 3)) (ht : (pc : Int) + off = (tgt : Int)) (kt : x ≤ y → G Γ mk cells slots tgt L st σ o1) (kf : ¬ x ≤ y → G Γ mk cells slots (pc + 3) L st σ o2) : G Γ mk cells slots pc L (.int y :: .int x :: st) σ (if x ≤ y then o1 else o2) := by
  obtain ⟨p, l, e, R, s, m, args, below, meth, c, D, dA, Hl, ν0, N0, Qr⟩ := Γ
  obtain ⟨hx, hb, hml, hown, hts, hF, hlk, htr, hR⟩ := K
  intro r hr ν H ls locs a1 a2 a3 a4 a5 a6 a7
  refine lv_icmp_le hx hb d ht (fun h => kt h r ?_ ν H ls locs a1 a2 a3 a4 a5 (oks_tail (oks_tail a6)) a7) (fun h => kf h r ?_ ν H ls locs a1 a2 a3 a4 a5 (oks_tail (oks_tail a6)) a7)
  · first | (rw [if_pos h] at hr; exact hr) | (rw [if_neg h] at hr; exact hr)
  · first | (rw [if_neg h] at hr; exact hr) | (rw [if_pos h] at hr; exact hr)
theorem g_goto (K : Cx Γ own cc nL rm) {off : Int} {tgt : Nat} (d : decode cc pc = .ok (.goto off, 3)) (ht : (pc : Int) + off = (tgt : Int)) (k : G Γ mk cells slots tgt L st σ o) : G Γ mk cells slots pc L st σ o := by
  obtain ⟨p, l, e, R, s, m, args, below, meth, c, D, dA, Hl, ν0, N0, Qr⟩ := Γ
  obtain ⟨hx, hb, hml, hown, hts, hF, hlk, htr, hR⟩ := K
  intro r hr ν H ls locs a1 a2 a3 a4 a5 a6 a7
  exact lv_goto hx hb d ht (k r hr ν H ls locs a1 a2 a3 a4 a5 a6 a7)
theorem g_ifnull (K : Cx Γ own cc nL rm) {a : Nat} {off : Int} (d : decode cc pc = .ok (.ifnull off, 3)) (k : G Γ mk cells slots (pc + 3) L st σ o) : G Γ mk cells slots pc L (.ref a :: st) σ o := by
  obtain ⟨p, l, e, R, s, m, args, below, meth, c, D, dA, Hl, ν0, N0, Qr⟩ := Γ
  obtain ⟨hx, hb, hml, hown, hts, hF, hlk, htr, hR⟩ := K
  intro r hr ν H ls locs a1 a2 a3 a4 a5 a6 a7
  exact lv_ifnull hx hb d (k r hr ν H ls locs a1 a2 a3 a4 a5 (oks_tail a6) a7)
theorem g_ifnullN (K : Cx Γ own cc nL rm) {off : Int} {tgt : Nat} (d : decode cc pc = .ok (.ifnull off, 3)) (ht : (pc : Int) + off = (tgt : Int)) (k : G Γ mk cells slots tgt L st σ o) : G Γ mk cells slots pc L (.null :: st) σ o := by
  obtain ⟨p, l, e, R, s, m, args, below, meth, c, D, dA, Hl, ν0, N0, Qr⟩ := Γ
  obtain ⟨hx, hb, hml, hown, hts, hF, hlk, htr, hR⟩ := K
  intro r hr ν H ls locs a1 a2 a3 a4 a5 a6 a7
  exact lv_ifnullN hx hb d ht (k r hr ν H ls locs a1 a2 a3 a4 a5 (oks_tail a6) a7)
theorem g_ifnonnull (K : Cx Γ own cc nL rm) {a : Nat} {off : Int} {tgt : Nat} (d : decode cc pc = .ok (.ifnonnull off, 3)) (ht : (pc : Int) + off = (tgt : Int)) (k : G Γ mk cells slots tgt L st σ o) : G Γ mk cells slots pc L (.ref a :: st) σ o := by
  obtain ⟨p, l, e, R, s, m, args, below, meth, c, D, dA, Hl, ν0, N0, Qr⟩ := Γ
  obtain ⟨hx, hb, hml, hown, hts, hF, hlk, htr, hR⟩ := K
  intro r hr ν H ls locs a1 a2 a3 a4 a5 a6 a7
  exact lv_ifnonnull hx hb d ht (k r hr ν H ls locs a1 a2 a3 a4 a5 (oks_tail a6) a7)
theorem g_ifnonnullN (K : Cx Γ own cc nL rm) {off : Int} (d : decode cc pc = .ok (.ifnonnull off, 3)) (k : G Γ mk cells slots (pc + 3) L st σ o) : G Γ mk cells slots pc L (.null :: st) σ o := by
  obtain ⟨p, l, e, R, s, m, args, below, meth, c, D, dA, Hl, ν0, N0, Qr⟩ := Γ
  obtain ⟨hx, hb, hml, hown, hts, hF, hlk, htr, hR⟩ := K
  intro r hr ν H ls locs a1 a2 a3 a4 a5 a6 a7
  exact lv_ifnonnullN hx hb d (k r hr ν H ls locs a1 a2 a3 a4 a5 (oks_tail a6) a7)
theorem g_tableIn (K : Cx Γ own cc nL rm) {dflt lo hi : Int} {offs : Array Int} {len : Nat} {x : Int32} {off : Int} {tgt : Nat} (d : decode cc pc = .ok (.tableswitch dflt lo hi offs, len)) (h1 : ¬ x.toInt < lo) (h2 : ¬ hi < x.toInt) (ho : offs[(x.toInt - lo).toNat]? = some off) (ht : (pc : Int) + off = (tgt : Int)) (k : G Γ mk cells slots tgt L st σ o) : G Γ mk cells slots pc L (.int x :: st) σ o := by
  obtain ⟨p, l, e, R, s, m, args, below, meth, c, D, dA, Hl, ν0, N0, Qr⟩ := Γ
  obtain ⟨hx, hb, hml, hown, hts, hF, hlk, htr, hR⟩ := K
  intro r hr ν H ls locs a1 a2 a3 a4 a5 a6 a7
  exact lv_tableIn hx hb d h1 h2 ho ht (k r hr ν H ls locs a1 a2 a3 a4 a5 (oks_tail a6) a7)
theorem g_tableOut (K : Cx Γ own cc nL rm) {dflt lo hi : Int} {offs : Array Int} {len : Nat} {x : Int32} {tgt : Nat} (d : decode cc pc = .ok (.tableswitch dflt lo hi offs, len)) (h : x.toInt < lo ∨ hi < x.toInt) (ht : (pc : Int) + dflt = (tgt : Int)) (k : G Γ mk cells slots tgt L st σ o) : G Γ mk cells slots pc L (.int x :: st) σ o := by
  obtain ⟨p, l, e, R, s, m, args, below, meth, c, D, dA, Hl, ν0, N0, Qr⟩ := Γ
  obtain ⟨hx, hb, hml, hown, hts, hF, hlk, htr, hR⟩ := K
  intro r hr ν H ls locs a1 a2 a3 a4 a5 a6 a7
  exact lv_tableOut hx hb d h ht (k r hr ν H ls locs a1 a2 a3 a4 a5 (oks_tail a6) a7)
end GR
end
section
/-! Rows of the heap: fields, arrays, new cells. -/
def inb (i : Int32) (n : Nat) : Bool := decide (¬ (i < 0 ∨ n ≤ i.toNatClampNeg))
theorem inb_in {i : Int32} {n : Nat} (h : inb i n = true) : vp_in i n := show ¬ (i < 0 ∨ n ≤ i.toNatClampNeg) from of_decide_eq_true h
def rc {β : Type} (x : Option Nat) (o1 : β) (o2 : Nat → β) : β := match x with
  | none => o1
  | some b => o2 b
/-- a class's facts: its row in vwCl, its fields laid out, their types -/
def CF (ci : Nat) (C : String) (T : u_T) (N : Nat) (ty : Nat → FieldType) : Prop := vwCl[ci]? = some (C, T, N) ∧ nf ci = N ∧ ci < 10 ∧ (∀ w ∈ u_ws C T N, w ∈ TB) ∧ (∀ k, k < N → parseFieldDescriptor (T k).2.2.1 = some (ty k)) ∧ (∀ a, a < N → ∀ b, b < N → a ≠ b → (T a).2.1 ≠ (T b).2.1) ∧ (∀ j, j < N → defaultValue (ty j) = if rf ci j = true then .null else .int 0)
/-- a field that the pool of own names at idx: field j of class ci -/
def FL (own : String) (idx ci j : Nat) (ref : Bool) (ty : FieldType) (fin : Bool) : Prop := ∃ (C : String) (T : u_T) (N : Nat) (tys : Nat → FieldType), CF ci C T N tys ∧ j < N ∧ Cond.fieldLink own idx (T j).1 (T j).2.1 (T j).2.2.1 ∈ TB ∧ rf ci j = ref ∧ parseFieldDescriptor (T j).2.2.1 = some ty ∧ (T j).2.2.2 = fin ∧ (fin = true → (T j).1 = own)
theorem wd_put {D : va_G} {dA : Nat → ClassId} {n0 : Nat} {ν : Nat → Nat} {σ σ' : Sg} {H H1 : Heap} {a : Nat} {e : va_E} (h : Wd D dA n0 ν σ H) (hn : σ'.1 = σ.1) (ha : a < σ.1) (he : en ν dA σ' a = e) (ho : ∀ j, j ≠ a → en ν dA σ' j = en ν dA σ j) (hs : shut σ') (h1 : va_P D vwCl ((wl ν dA σ).set a (ν a, e)) H1) (h2 : va_D (fun q => n0 ≤ q) ((wl ν dA σ).set a (ν a, e))) : Wd D dA n0 ν σ' H1 := by
  rw [wl_set ha hn he ho] at h1 h2
  exact ⟨h1, h2, hs, by rw [hn]; exact h.2.2.2⟩
theorem shut_r {σ : Sg} {a j : Nat} {x : Option Nat} (h : shut σ) (hx : ∀ b, x = some b → b < σ.1) : shut (s_r σ a j x) := by
  intro a' k b ha hb
  rw [g_r_s_r] at hb
  by_cases q : a' = a ∧ k = j
  · rw [if_pos q] at hb; exact hx b hb
  · rw [if_neg q] at hb; exact h a' k b ha hb
theorem en_si {ν : Nat → Nat} {dA : Nat → ClassId} {σ : Sg} {a k : Nat} {x : Int32} : ∀ j, j ≠ a → en ν dA (s_i σ a k x) j = en ν dA σ j := fun j hj => en_cg (gi_ne hj) (fun _ => rfl) rfl
theorem en_sr {ν : Nat → Nat} {dA : Nat → ClassId} {σ : Sg} {a k : Nat} {x : Option Nat} : ∀ j, j ≠ a → en ν dA (s_r σ a k x) j = en ν dA σ j := fun j hj => en_cg rfl (fun q => by rw [gr_ne hj]) rfl
theorem en_sl {ν : Nat → Nat} {dA : Nat → ClassId} {σ : Sg} {a k : Nat} {x : Int64} : ∀ j, j ≠ a → en ν dA (s_l σ a k x) j = en ν dA σ j := fun j hj => en_cg rfl (fun _ => rfl) (gl_ne hj)
theorem gi_upd {σ : Sg} {a k : Nat} {x : Int32} : g_i (s_i σ a k x) a = upd (g_i σ a) k x := by
  funext j; simp [g_i_s_i, upd]
theorem gl_upd {σ : Sg} {a k : Nat} {x : Int64} : g_l (s_l σ a k x) a = vp_updL (g_l σ a) k x := by
  funext j; simp [g_l_s_l, vp_updL]
/-- one cell more: the world with it -/
def nu1 (ν : Nat → Nat) (n q : Nat) : Nat → Nat := fun k => if k = n then q else ν k
theorem nu1_lt {ν : Nat → Nat} {n q k : Nat} (h : k < n) : nu1 ν n q k = ν k := if_neg (Nat.ne_of_lt h)
theorem nu1_ext {ν : Nat → Nat} {n q : Nat} (h : n < SCR) : ext ν n (nu1 ν n q) := fun k hk => if_neg (by omega)
theorem wd_new {D : va_G} {dA : Nat → ClassId} {n0 q : Nat} {ν : Nat → Nat} {σ : Sg} {H H1 : Heap} {e : va_E} (h : Wd D dA n0 ν σ H) (hlt : σ.1 < SCR) (he : en (nu1 ν σ.1 q) dA (s_n σ) σ.1 = e) (h1 : va_P D vwCl (wl ν dA σ ++ [(q, e)]) H1) (h2 : va_D (fun q => n0 ≤ q) (wl ν dA σ ++ [(q, e)])) : Wd D dA n0 (nu1 ν σ.1 q) (s_n σ) H1 := by
  have hw : wl ν dA σ ++ [(q, e)] = wl (nu1 ν σ.1 q) dA (s_n σ) := by
    refine wl_push rfl (fun k hk => nu1_lt hk) (if_pos rfl) he (fun j hj => ?_)
    have hne : ¬ j = σ.1 := Nat.ne_of_lt hj
    refine en_cg ?_ (fun k => ?_) ?_
    · funext k; simp [g_i_s_n, hne]
    · rw [g_r_s_n, if_neg hne]
      cases hb : g_r σ j k with
      | none => rfl
      | some b => exact congrArg some (nu1_lt (h.2.2.1 j k b hj hb))
    · funext k; simp [g_l_s_n, hne]
  rw [hw] at h1 h2
  refine ⟨h1, h2, fun a k b ha hb => ?_, hlt⟩
  have ha' : a < σ.1 + 1 := ha
  rw [g_r_s_n] at hb
  by_cases q1 : a = σ.1
  · rw [if_pos q1] at hb; cases hb
  · rw [if_neg q1] at hb
    exact Nat.lt_succ_of_lt (h.2.2.1 a k b (by omega) hb)
def Ini (Γ : GX) : Prop := match Γ with
  | (p, l, e, R, s, m, args, below, meth, c, D, dA, Hl, ν0, N0, Qr) => meth.name = "<init>"
def Scr (Γ : GX) (n : Nat) (xs : Nat → Int32) : Prop := match Γ with
  | (p, l, e, R, s, m, args, below, meth, c, D, dA, Hl, ν0, N0, Qr) => va_X (ν0 SCR) n xs s Hl ∧ ν0 SCR < Hl.size
section GH
variable {ρ : Type} {mk : ρ → Rs} {Γ : GX} {own : String} {cc : ByteArray} {nL : Nat} {rm : Room} {cells slots pc : Nat} {L : List (Nat × Value)} {st : List Value} {σ : Sg} {o : Option ρ}
theorem g_acmp_eq (K : Cx Γ own cc nL rm) {a b : Nat} {off : Int} {tgt : Nat} {o1 o2 : Option ρ} (d : decode cc pc = .ok (.if_acmp .eq off, 3)) (ht : (pc : Int) + off = (tgt : Int)) (kt : a = b → G Γ mk cells slots tgt L st σ o1) (kf : ¬ a = b → G Γ mk cells slots (pc + 3) L st σ o2) : G Γ mk cells slots pc L (.ref b :: .ref a :: st) σ (if a < σ.1 ∧ b < σ.1 then (if a = b then o1 else o2) else none) := by
  refine g_if fun hc => ?_
  obtain ⟨p, l, e, R, s, m, args, below, meth, c, D, dA, Hl, ν0, N0, Qr⟩ := Γ
  obtain ⟨hx, hb, hml, hown, hts, hX, hlk, htr, hR⟩ := K
  intro r hr ν H ls locs a1 a2 a3 a4 a5 a6 a7
  refine lv_acmp_eq (rx := some (ν a)) (ry := some (ν b)) hx hb d ht (fun h => ?_) (fun h => ?_)
  · have hab : a = b := a3.2.1.1 a b _ _ (wl_at hc.1) (wl_at hc.2) (Option.some.inj h)
    rw [if_pos hab] at hr
    exact kt hab r hr ν H ls locs a1 a2 a3 a4 a5 (oks_tail (oks_tail a6)) a7
  · have hab : ¬ a = b := fun q => h (by rw [q])
    rw [if_neg hab] at hr
    exact kf hab r hr ν H ls locs a1 a2 a3 a4 a5 (oks_tail (oks_tail a6)) a7
theorem g_acmp_ne (K : Cx Γ own cc nL rm) {a b : Nat} {off : Int} {tgt : Nat} {o1 o2 : Option ρ} (d : decode cc pc = .ok (.if_acmp .ne off, 3)) (ht : (pc : Int) + off = (tgt : Int)) (kt : ¬ a = b → G Γ mk cells slots tgt L st σ o1) (kf : a = b → G Γ mk cells slots (pc + 3) L st σ o2) : G Γ mk cells slots pc L (.ref b :: .ref a :: st) σ (if a < σ.1 ∧ b < σ.1 then (if a = b then o2 else o1) else none) := by
  refine g_if fun hc => ?_
  obtain ⟨p, l, e, R, s, m, args, below, meth, c, D, dA, Hl, ν0, N0, Qr⟩ := Γ
  obtain ⟨hx, hb, hml, hown, hts, hX, hlk, htr, hR⟩ := K
  intro r hr ν H ls locs a1 a2 a3 a4 a5 a6 a7
  refine lv_acmp_ne (rx := some (ν a)) (ry := some (ν b)) hx hb d ht (fun h => ?_) (fun h => ?_)
  · have hab : ¬ a = b := fun q => h (by rw [q])
    rw [if_neg hab] at hr
    exact kt hab r hr ν H ls locs a1 a2 a3 a4 a5 (oks_tail (oks_tail a6)) a7
  · have hab : a = b := a3.2.1.1 a b _ _ (wl_at hc.1) (wl_at hc.2) (Option.some.inj h)
    rw [if_pos hab] at hr
    exact kf hab r hr ν H ls locs a1 a2 a3 a4 a5 (oks_tail (oks_tail a6)) a7
theorem g_getI (K : Cx Γ own cc nL rm) {idx ci j a : Nat} {ty : FieldType} {fin : Bool} (hF : FL own idx ci j false ty fin) (d : decode cc pc = .ok (.getfield idx, 3)) (k : G Γ mk cells slots (pc + 3) L (.int (g_i σ a j) :: st) σ o) : G Γ mk cells slots pc L (.ref a :: st) σ (if a < σ.1 ∧ kd a = ci then o else none) := by
  refine g_if fun hc => ?_
  obtain ⟨C, T, N, tys, ⟨c1, c2, c3, c4, c5, c6, c7⟩, f1, f2, f3, f4, f5, f6⟩ := hF
  obtain ⟨p, l, e, R, s, m, args, below, meth, c, D, dA, Hl, ν0, N0, Qr⟩ := Γ
  obtain ⟨hx, hb, hml, hown, hts, hX, hlk, htr, hR⟩ := K
  intro r hr ν H ls locs a1 a2 a3 a4 a5 a6 a7
  have he : (wl ν dA σ)[a]? = some (ν a, .inr (ci, (List.range (nf ci)).map (fl ν σ a))) := by rw [wl_at hc.1, en_o hc.2 c3]
  refine va_get (D := D) hx hb hts c4 hown hX.1 a3.1 a he c1 j f1 (hts _ f2) (fun x h => h) (v := .int (g_i σ a j)) ?_ d (k r hr ν H ls locs a1 a2 a3 a4 a5 (oks_cons trivial (oks_tail a6)) a7)
  rw [c2, fl_at f1]
  simp [fl, hc.2, f3]
theorem g_getR (K : Cx Γ own cc nL rm) {idx ci j a : Nat} {ty : FieldType} {fin : Bool} {o1 : Option ρ} {o2 : Nat → Option ρ} (hF : FL own idx ci j true ty fin) (d : decode cc pc = .ok (.getfield idx, 3)) (k1 : g_r σ a j = none → G Γ mk cells slots (pc + 3) L (.null :: st) σ o1) (k2 : ∀ b, g_r σ a j = some b → G Γ mk cells slots (pc + 3) L (.ref b :: st) σ (o2 b)) : G Γ mk cells slots pc L (.ref a :: st) σ (if a < σ.1 ∧ kd a = ci then rc (g_r σ a j) o1 o2 else none) := by
  refine g_if fun hc => ?_
  obtain ⟨C, T, N, tys, ⟨c1, c2, c3, c4, c5, c6, c7⟩, f1, f2, f3, f4, f5, f6⟩ := hF
  obtain ⟨p, l, e, R, s, m, args, below, meth, c, D, dA, Hl, ν0, N0, Qr⟩ := Γ
  obtain ⟨hx, hb, hml, hown, hts, hX, hlk, htr, hR⟩ := K
  intro r hr ν H ls locs a1 a2 a3 a4 a5 a6 a7
  have he : (wl ν dA σ)[a]? = some (ν a, .inr (ci, (List.range (nf ci)).map (fl ν σ a))) := by rw [wl_at hc.1, en_o hc.2 c3]
  cases hg : g_r σ a j with
  | none =>
    rw [hg] at hr
    refine va_get (D := D) hx hb hts c4 hown hX.1 a3.1 a he c1 j f1 (hts _ f2) (fun x h => h) (v := .null) ?_ d (k1 hg r hr ν H ls locs a1 a2 a3 a4 a5 (oks_cons trivial (oks_tail a6)) a7)
    rw [c2, fl_at f1]
    simp [fl, hc.2, f3, hg, va_rf]
  | some b =>
    rw [hg] at hr
    refine va_get (D := D) hx hb hts c4 hown hX.1 a3.1 a he c1 j f1 (hts _ f2) (fun x h => h) (v := .ref (ν b)) ?_ d (k2 b hg r hr ν H ls locs a1 a2 a3 a4 a5 (oks_cons (Or.inl (a3.2.2.1 a j b hc.1 hg)) (oks_tail a6)) a7)
    rw [c2, fl_at f1]
    simp [fl, hc.2, f3, hg, va_rf]
theorem g_putI (K : Cx Γ own cc nL rm) {idx ci j a : Nat} {x : Int32} (hF : FL own idx ci j false .int false) (d : decode cc pc = .ok (.putfield idx, 3)) (k : G Γ mk cells slots (pc + 3) L st (s_i σ a j x) o) : G Γ mk cells slots pc L (.int x :: .ref a :: st) σ (if a < σ.1 ∧ kd a = ci then o else none) := by
  refine g_if fun hc0 => ?_
  have hc : a < σ.1 ∧ kd a = ci := hc0
  obtain ⟨C, T, N, tys, ⟨c1, c2, c3, c4, c5, c6, c7⟩, f1, f2, f3, f4, f5, f6⟩ := hF
  obtain ⟨p, l, e, R, s, m, args, below, meth, c, D, dA, Hl, ν0, N0, Qr⟩ := Γ
  obtain ⟨hx, hb, hml, hown, hts, hX, hlk, htr, hR⟩ := K
  intro r hr ν H ls locs a1 a2 a3 a4 a5 a6 a7
  have he : (wl ν dA σ)[a]? = some (ν a, .inr (ci, (List.range (nf ci)).map (fl ν σ a))) := by rw [wl_at hc.1, en_o hc.2 c3]
  refine va_put (D := D) hx hb hts c4 tys c5 c6 hown hX.1 a3.1 a3.2.1 a4 a he c1 j f1 (hts _ f2) (fun x h => h) f5 f4 rfl rfl (by simp [c2, f1]) d (fun H1 locs1 b1 b2 b3 => ?_)
  refine k r hr ν H1 ls locs1 a1 a2 (wd_put a3 rfl hc.1 ?_ en_si a3.2.2.1 b1 b2) b3 a5 (oks_tail (oks_tail a6)) a7
  rw [en_o hc.2 c3]
  congr 2
  refine (fl_set ?_ (fun q hq => ?_)).symm
  · simp [fl, hc.2, f3, g_i_s_i, tr]
  · simp [fl, g_i_s_i, g_r_s_i, hq]
theorem g_putIF (K : Cx Γ own cc nL rm) (hI : Ini Γ) {idx ci j a : Nat} {x : Int32} (hF : FL own idx ci j false .int true) (d : decode cc pc = .ok (.putfield idx, 3)) (k : G Γ mk cells slots (pc + 3) L st (s_i σ a j x) o) : G Γ mk cells slots pc L (.int x :: .ref a :: st) σ (if a < σ.1 ∧ kd a = ci then o else none) := by
  refine g_if fun hc0 => ?_
  have hc : a < σ.1 ∧ kd a = ci := hc0
  obtain ⟨C, T, N, tys, ⟨c1, c2, c3, c4, c5, c6, c7⟩, f1, f2, f3, f4, f5, f6⟩ := hF
  obtain ⟨p, l, e, R, s, m, args, below, meth, c, D, dA, Hl, ν0, N0, Qr⟩ := Γ
  obtain ⟨hx, hb, hml, hown, hts, hX, hlk, htr, hR⟩ := K
  intro r hr ν H ls locs a1 a2 a3 a4 a5 a6 a7
  have he : (wl ν dA σ)[a]? = some (ν a, .inr (ci, (List.range (nf ci)).map (fl ν σ a))) := by rw [wl_at hc.1, en_o hc.2 c3]
  refine va_putF (D := D) hx hb hts c4 tys c5 c6 hown hX.1 a3.1 a3.2.1 a4 a he c1 j f1 (hts _ f2) (fun x h => h) f5 hI (f6 rfl) f4 rfl rfl (by simp [c2, f1]) d (fun H1 locs1 b1 b2 b3 => ?_)
  refine k r hr ν H1 ls locs1 a1 a2 (wd_put a3 rfl hc.1 ?_ en_si a3.2.2.1 b1 b2) b3 a5 (oks_tail (oks_tail a6)) a7
  rw [en_o hc.2 c3]
  congr 2
  refine (fl_set ?_ (fun q hq => ?_)).symm
  · simp [fl, hc.2, f3, g_i_s_i, tr]
  · simp [fl, g_i_s_i, g_r_s_i, hq]
theorem g_putZ (K : Cx Γ own cc nL rm) {idx ci j a : Nat} {x : Int32} (hF : FL own idx ci j false .boolean false) (d : decode cc pc = .ok (.putfield idx, 3)) (k : G Γ mk cells slots (pc + 3) L st (s_i σ a j x) o) : G Γ mk cells slots pc L (.int x :: .ref a :: st) σ (if (a < σ.1 ∧ kd a = ci) ∧ (x = 0 ∨ x = 1) then o else none) := by
  refine g_if fun hc0 => ?_
  have hc : a < σ.1 ∧ kd a = ci := hc0.1
  obtain ⟨C, T, N, tys, ⟨c1, c2, c3, c4, c5, c6, c7⟩, f1, f2, f3, f4, f5, f6⟩ := hF
  obtain ⟨p, l, e, R, s, m, args, below, meth, c, D, dA, Hl, ν0, N0, Qr⟩ := Γ
  obtain ⟨hx, hb, hml, hown, hts, hX, hlk, htr, hR⟩ := K
  intro r hr ν H ls locs a1 a2 a3 a4 a5 a6 a7
  have he : (wl ν dA σ)[a]? = some (ν a, .inr (ci, (List.range (nf ci)).map (fl ν σ a))) := by rw [wl_at hc.1, en_o hc.2 c3]
  refine va_put (D := D) hx hb hts c4 tys c5 c6 hown hX.1 a3.1 a3.2.1 a4 a he c1 j f1 (hts _ f2) (fun x h => h) f5 f4 (by rcases hc0.2 with h | h <;> rw [h] <;> rfl) (by rcases hc0.2 with h | h <;> rw [h] <;> rfl) (by simp [c2, f1]) d (fun H1 locs1 b1 b2 b3 => ?_)
  refine k r hr ν H1 ls locs1 a1 a2 (wd_put a3 rfl hc.1 ?_ en_si a3.2.2.1 b1 b2) b3 a5 (oks_tail (oks_tail a6)) a7
  rw [en_o hc.2 c3]
  congr 2
  refine (fl_set ?_ (fun q hq => ?_)).symm
  · simp [fl, hc.2, f3, g_i_s_i, tr]
  · simp [fl, g_i_s_i, g_r_s_i, hq]
theorem g_putR (K : Cx Γ own cc nL rm) {idx ci j a : Nat} {b : Nat} {C9 : String} (hF : FL own idx ci j true (.object C9) false) (d : decode cc pc = .ok (.putfield idx, 3)) (k : G Γ mk cells slots (pc + 3) L st (s_r σ a j (some b)) o) : G Γ mk cells slots pc L (.ref b :: .ref a :: st) σ (if (a < σ.1 ∧ kd a = ci) ∧ b < σ.1 then o else none) := by
  refine g_if fun hc0 => ?_
  have hc : a < σ.1 ∧ kd a = ci := hc0.1
  obtain ⟨C, T, N, tys, ⟨c1, c2, c3, c4, c5, c6, c7⟩, f1, f2, f3, f4, f5, f6⟩ := hF
  obtain ⟨p, l, e, R, s, m, args, below, meth, c, D, dA, Hl, ν0, N0, Qr⟩ := Γ
  obtain ⟨hx, hb, hml, hown, hts, hX, hlk, htr, hR⟩ := K
  intro r hr ν H ls locs a1 a2 a3 a4 a5 a6 a7
  have he : (wl ν dA σ)[a]? = some (ν a, .inr (ci, (List.range (nf ci)).map (fl ν σ a))) := by rw [wl_at hc.1, en_o hc.2 c3]
  refine va_put (D := D) hx hb hts c4 tys c5 c6 hown hX.1 a3.1 a3.2.1 a4 a he c1 j f1 (hts _ f2) (fun x h => h) f5 f4 rfl rfl (by simp [c2, f1]) d (fun H1 locs1 b1 b2 b3 => ?_)
  refine k r hr ν H1 ls locs1 a1 a2 (wd_put a3 rfl hc.1 ?_ en_sr (shut_r a3.2.2.1 (fun z hz => by cases hz; exact hc0.2)) b1 b2) b3 a5 (oks_tail (oks_tail a6)) a7
  rw [en_o hc.2 c3]
  congr 2
  refine (fl_set ?_ (fun q hq => ?_)).symm
  · simp [fl, hc.2, f3, g_r_s_r, va_rf, tr]
  · simp [fl, g_i_s_r, g_r_s_r, hq]
theorem g_putN (K : Cx Γ own cc nL rm) {idx ci j a : Nat} {C9 : String} (hF : FL own idx ci j true (.object C9) false) (d : decode cc pc = .ok (.putfield idx, 3)) (k : G Γ mk cells slots (pc + 3) L st (s_r σ a j none) o) : G Γ mk cells slots pc L (.null :: .ref a :: st) σ (if a < σ.1 ∧ kd a = ci then o else none) := by
  refine g_if fun hc0 => ?_
  have hc : a < σ.1 ∧ kd a = ci := hc0
  obtain ⟨C, T, N, tys, ⟨c1, c2, c3, c4, c5, c6, c7⟩, f1, f2, f3, f4, f5, f6⟩ := hF
  obtain ⟨p, l, e, R, s, m, args, below, meth, c, D, dA, Hl, ν0, N0, Qr⟩ := Γ
  obtain ⟨hx, hb, hml, hown, hts, hX, hlk, htr, hR⟩ := K
  intro r hr ν H ls locs a1 a2 a3 a4 a5 a6 a7
  have he : (wl ν dA σ)[a]? = some (ν a, .inr (ci, (List.range (nf ci)).map (fl ν σ a))) := by rw [wl_at hc.1, en_o hc.2 c3]
  refine va_put (D := D) hx hb hts c4 tys c5 c6 hown hX.1 a3.1 a3.2.1 a4 a he c1 j f1 (hts _ f2) (fun x h => h) f5 f4 rfl rfl (by simp [c2, f1]) d (fun H1 locs1 b1 b2 b3 => ?_)
  refine k r hr ν H1 ls locs1 a1 a2 (wd_put a3 rfl hc.1 ?_ en_sr (shut_r a3.2.2.1 (fun z hz => by cases hz)) b1 b2) b3 a5 (oks_tail (oks_tail a6)) a7
  rw [en_o hc.2 c3]
  congr 2
  refine (fl_set ?_ (fun q hq => ?_)).symm
  · simp [fl, hc.2, f3, g_r_s_r, va_rf, tr]
  · simp [fl, g_i_s_r, g_r_s_r, hq]
theorem g_putRF (K : Cx Γ own cc nL rm) (hI : Ini Γ) {idx ci j a : Nat} {b : Nat} {C9 : FieldType} (hF : FL own idx ci j true (.array C9) true) (d : decode cc pc = .ok (.putfield idx, 3)) (k : G Γ mk cells slots (pc + 3) L st (s_r σ a j (some b)) o) : G Γ mk cells slots pc L (.ref b :: .ref a :: st) σ (if (a < σ.1 ∧ kd a = ci) ∧ b < σ.1 then o else none) := by
  refine g_if fun hc0 => ?_
  have hc : a < σ.1 ∧ kd a = ci := hc0.1
  obtain ⟨C, T, N, tys, ⟨c1, c2, c3, c4, c5, c6, c7⟩, f1, f2, f3, f4, f5, f6⟩ := hF
  obtain ⟨p, l, e, R, s, m, args, below, meth, c, D, dA, Hl, ν0, N0, Qr⟩ := Γ
  obtain ⟨hx, hb, hml, hown, hts, hX, hlk, htr, hR⟩ := K
  intro r hr ν H ls locs a1 a2 a3 a4 a5 a6 a7
  have he : (wl ν dA σ)[a]? = some (ν a, .inr (ci, (List.range (nf ci)).map (fl ν σ a))) := by rw [wl_at hc.1, en_o hc.2 c3]
  refine va_putF (D := D) hx hb hts c4 tys c5 c6 hown hX.1 a3.1 a3.2.1 a4 a he c1 j f1 (hts _ f2) (fun x h => h) f5 hI (f6 rfl) f4 rfl rfl (by simp [c2, f1]) d (fun H1 locs1 b1 b2 b3 => ?_)
  refine k r hr ν H1 ls locs1 a1 a2 (wd_put a3 rfl hc.1 ?_ en_sr (shut_r a3.2.2.1 (fun z hz => by cases hz; exact hc0.2)) b1 b2) b3 a5 (oks_tail (oks_tail a6)) a7
  rw [en_o hc.2 c3]
  congr 2
  refine (fl_set ?_ (fun q hq => ?_)).symm
  · simp [fl, hc.2, f3, g_r_s_r, va_rf, tr]
  · simp [fl, g_i_s_r, g_r_s_r, hq]
theorem g_iald (K : Cx Γ own cc nL rm) {a : Nat} {i : Int32} (d : decode cc pc = .ok (.iaload, 1)) (k : G Γ mk cells slots (pc + 1) L (.int (g_i σ a i.toNatClampNeg) :: st) σ o) : G Γ mk cells slots pc L (.int i :: .ref a :: st) σ (if (a < σ.1 ∧ kd a = 10) ∧ inb i (ln a) = true then o else none) := by
  refine g_if fun hc => ?_
  obtain ⟨p, l, e, R, s, m, args, below, meth, c, D, dA, Hl, ν0, N0, Qr⟩ := Γ
  obtain ⟨hx, hb, hml, hown, hts, hX, hlk, htr, hR⟩ := K
  intro r hr ν H ls locs a1 a2 a3 a4 a5 a6 a7
  have he : (wl ν dA σ)[a]? = some (ν a, .inl (dA 10, ln a, .inl (g_i σ a))) := by rw [wl_at hc.1.1, en_i hc.1.2 (by decide) (by decide)]
  exact va_iald (D := D) hx hb hX.1 a3.1 a 0 he rfl (inb_in hc.2) d (k r hr ν H ls locs a1 a2 a3 a4 a5 (oks_cons trivial (oks_tail (oks_tail a6))) a7)
theorem g_zald (K : Cx Γ own cc nL rm) {a : Nat} {i : Int32} (d : decode cc pc = .ok (.baload, 1)) (k : G Γ mk cells slots (pc + 1) L (.int (g_i σ a i.toNatClampNeg) :: st) σ o) : G Γ mk cells slots pc L (.int i :: .ref a :: st) σ (if (a < σ.1 ∧ kd a = 11) ∧ inb i (ln a) = true then o else none) := by
  refine g_if fun hc => ?_
  obtain ⟨p, l, e, R, s, m, args, below, meth, c, D, dA, Hl, ν0, N0, Qr⟩ := Γ
  obtain ⟨hx, hb, hml, hown, hts, hX, hlk, htr, hR⟩ := K
  intro r hr ν H ls locs a1 a2 a3 a4 a5 a6 a7
  have he : (wl ν dA σ)[a]? = some (ν a, .inl (dA 11, ln a, .inl (g_i σ a))) := by rw [wl_at hc.1.1, en_i hc.1.2 (by decide) (by decide)]
  exact va_zald (D := D) hx hb hX.1 a3.1 a 1 he rfl (inb_in hc.2) d (k r hr ν H ls locs a1 a2 a3 a4 a5 (oks_cons trivial (oks_tail (oks_tail a6))) a7)
theorem g_iast (K : Cx Γ own cc nL rm) {a : Nat} {i x : Int32} (d : decode cc pc = .ok (.iastore, 1)) (k : G Γ mk cells slots (pc + 1) L st (s_i σ a i.toNatClampNeg x) o) : G Γ mk cells slots pc L (.int x :: .int i :: .ref a :: st) σ (if (a < σ.1 ∧ kd a = 10) ∧ inb i (ln a) = true then o else none) := by
  refine g_if fun hc0 => ?_
  have hc : (a < σ.1 ∧ kd a = 10) ∧ inb i (ln a) = true := hc0
  obtain ⟨p, l, e, R, s, m, args, below, meth, c, D, dA, Hl, ν0, N0, Qr⟩ := Γ
  obtain ⟨hx, hb, hml, hown, hts, hX, hlk, htr, hR⟩ := K
  intro r hr ν H ls locs a1 a2 a3 a4 a5 a6 a7
  have he : (wl ν dA σ)[a]? = some (ν a, .inl (dA 10, ln a, .inl (g_i σ a))) := by rw [wl_at hc.1.1, en_i hc.1.2 (by decide) (by decide)]
  refine va_iast (D := D) hx hb hX.1 a3.1 a3.2.1 a4 a 0 he rfl (inb_in hc.2) d (fun H1 locs1 b1 b2 b3 => ?_)
  refine k r hr ν H1 ls locs1 a1 a2 (wd_put a3 rfl hc.1.1 ?_ en_si a3.2.2.1 b1 b2) b3 a5 (oks_tail (oks_tail (oks_tail a6))) a7
  rw [en_i hc.1.2 (by decide) (by decide), gi_upd]
theorem g_zast (K : Cx Γ own cc nL rm) {a : Nat} {i x : Int32} (d : decode cc pc = .ok (.bastore, 1)) (k : G Γ mk cells slots (pc + 1) L st (s_i σ a i.toNatClampNeg x) o) : G Γ mk cells slots pc L (.int x :: .int i :: .ref a :: st) σ (if ((a < σ.1 ∧ kd a = 11) ∧ inb i (ln a) = true) ∧ (x = 0 ∨ x = 1) then o else none) := by
  refine g_if fun hc0 => ?_
  have hc : (a < σ.1 ∧ kd a = 11) ∧ inb i (ln a) = true := hc0.1
  obtain ⟨p, l, e, R, s, m, args, below, meth, c, D, dA, Hl, ν0, N0, Qr⟩ := Γ
  obtain ⟨hx, hb, hml, hown, hts, hX, hlk, htr, hR⟩ := K
  intro r hr ν H ls locs a1 a2 a3 a4 a5 a6 a7
  have hnar : vp_nar .boolean x = x := by rcases hc0.2 with h | h <;> rw [h] <;> rfl
  have he : (wl ν dA σ)[a]? = some (ν a, .inl (dA 11, ln a, .inl (g_i σ a))) := by rw [wl_at hc.1.1, en_i hc.1.2 (by decide) (by decide)]
  refine va_zast (D := D) hx hb hX.1 a3.1 a3.2.1 a4 a 1 he rfl (inb_in hc.2) d (fun H1 locs1 b1 b2 b3 => ?_)
  rw [hnar] at b1 b2
  refine k r hr ν H1 ls locs1 a1 a2 (wd_put a3 rfl hc.1.1 ?_ en_si a3.2.2.1 b1 b2) b3 a5 (oks_tail (oks_tail (oks_tail a6))) a7
  rw [en_i hc.1.2 (by decide) (by decide), gi_upd]
theorem g_lald (K : Cx Γ own cc nL rm) {a : Nat} {i : Int32} (d : decode cc pc = .ok (.laload, 1)) (k : G Γ mk cells slots (pc + 1) L (.long (g_l σ a i.toNatClampNeg) :: st) σ o) : G Γ mk cells slots pc L (.int i :: .ref a :: st) σ (if (a < σ.1 ∧ kd a = 12) ∧ inb i (ln a) = true then o else none) := by
  refine g_if fun hc => ?_
  obtain ⟨p, l, e, R, s, m, args, below, meth, c, D, dA, Hl, ν0, N0, Qr⟩ := Γ
  obtain ⟨hx, hb, hml, hown, hts, hX, hlk, htr, hR⟩ := K
  intro r hr ν H ls locs a1 a2 a3 a4 a5 a6 a7
  have he : (wl ν dA σ)[a]? = some (ν a, .inl (dA 12, ln a, .inr (.inl (g_l σ a)))) := by rw [wl_at hc.1.1, en_l hc.1.2]
  exact va_lald (D := D) hx hb hX.1 a3.1 a 2 he rfl (inb_in hc.2) d (k r hr ν H ls locs a1 a2 a3 a4 a5 (oks_cons trivial (oks_tail (oks_tail a6))) a7)
theorem g_last (K : Cx Γ own cc nL rm) {a : Nat} {i : Int32} {x : Int64} (d : decode cc pc = .ok (.lastore, 1)) (k : G Γ mk cells slots (pc + 1) L st (s_l σ a i.toNatClampNeg x) o) : G Γ mk cells slots pc L (.long x :: .int i :: .ref a :: st) σ (if (a < σ.1 ∧ kd a = 12) ∧ inb i (ln a) = true then o else none) := by
  refine g_if fun hc => ?_
  obtain ⟨p, l, e, R, s, m, args, below, meth, c, D, dA, Hl, ν0, N0, Qr⟩ := Γ
  obtain ⟨hx, hb, hml, hown, hts, hX, hlk, htr, hR⟩ := K
  intro r hr ν H ls locs a1 a2 a3 a4 a5 a6 a7
  have he : (wl ν dA σ)[a]? = some (ν a, .inl (dA 12, ln a, .inr (.inl (g_l σ a)))) := by rw [wl_at hc.1.1, en_l hc.1.2]
  refine va_last (D := D) hx hb hX.1 a3.1 a3.2.1 a4 a 2 he rfl (inb_in hc.2) d (fun H1 locs1 b1 b2 b3 => ?_)
  refine k r hr ν H1 ls locs1 a1 a2 (wd_put a3 rfl hc.1.1 ?_ en_sl a3.2.2.1 b1 b2) b3 a5 (oks_tail (oks_tail (oks_tail a6))) a7
  rw [en_l hc.1.2, gl_upd]
theorem g_aald (K : Cx Γ own cc nL rm) {a kq t0 : Nat} {i : Int32} {C : String} {o1 : Option ρ} {o2 : Nat → Option ρ} (hq : 12 < kq) (ht : ∀ dA : Nat → ClassId, (tyL dA)[t0]? = some (dA kq, .object C)) (d : decode cc pc = .ok (.aaload, 1)) (k1 : g_r σ a i.toNatClampNeg = none → G Γ mk cells slots (pc + 1) L (.null :: st) σ o1) (k2 : ∀ b, g_r σ a i.toNatClampNeg = some b → G Γ mk cells slots (pc + 1) L (.ref b :: st) σ (o2 b)) : G Γ mk cells slots pc L (.int i :: .ref a :: st) σ (if (a < σ.1 ∧ kd a = kq) ∧ inb i (ln a) = true then rc (g_r σ a i.toNatClampNeg) o1 o2 else none) := by
  refine g_if fun hc => ?_
  obtain ⟨p, l, e, R, s, m, args, below, meth, c, D, dA, Hl, ν0, N0, Qr⟩ := Γ
  obtain ⟨hx, hb, hml, hown, hts, hX, hlk, htr, hR⟩ := K
  intro r hr ν H ls locs a1 a2 a3 a4 a5 a6 a7
  have he : (wl ν dA σ)[a]? = some (ν a, .inl (dA kq, ln a, .inr (.inr (.inr (.inr (fun j => (g_r σ a j).map ν)))))) := by rw [wl_at hc.1.1, en_q hc.1.2 hq]
  refine va_aldq (D := D) hx hb hX.1 a3.1 a t0 he (ht dA) (inb_in hc.2) d ?_
  cases hg : g_r σ a i.toNatClampNeg with
  | none =>
    rw [hg] at hr
    exact k1 hg r hr ν H ls locs a1 a2 a3 a4 a5 (oks_cons trivial (oks_tail (oks_tail a6))) a7
  | some b =>
    rw [hg] at hr
    exact k2 b hg r hr ν H ls locs a1 a2 a3 a4 a5 (oks_cons (Or.inl (a3.2.2.1 a _ b hc.1.1 hg)) (oks_tail (oks_tail a6))) a7
theorem g_aast (K : Cx Γ own cc nL rm) {a b kq t0 cb : Nat} {i : Int32} {T : u_T} {N : Nat} {C : String} (hq : 12 < kq) (h10 : cb < 10) (ht : ∀ dA : Nat → ClassId, (tyL dA)[t0]? = some (dA kq, .object C)) (hcl : vwCl[cb]? = some (C, T, N)) (d : decode cc pc = .ok (.aastore, 1)) (k : G Γ mk cells slots (pc + 1) L st (s_r σ a i.toNatClampNeg (some b)) o) : G Γ mk cells slots pc L (.ref b :: .int i :: .ref a :: st) σ (if ((a < σ.1 ∧ kd a = kq) ∧ inb i (ln a) = true) ∧ b < σ.1 ∧ kd b = cb then o else none) := by
  refine g_if fun hc => ?_
  obtain ⟨p, l, e, R, s, m, args, below, meth, c, D, dA, Hl, ν0, N0, Qr⟩ := Γ
  obtain ⟨hx, hb, hml, hown, hts, hX, hlk, htr, hR⟩ := K
  intro r hr ν H ls locs a1 a2 a3 a4 a5 a6 a7
  have he : (wl ν dA σ)[a]? = some (ν a, .inl (dA kq, ln a, .inr (.inr (.inr (.inr (fun j => (g_r σ a j).map ν)))))) := by rw [wl_at hc.1.1.1, en_q hc.1.1.2 hq]
  have hv : (wl ν dA σ)[b]? = some (ν b, .inr (cb, (List.range (nf cb)).map (fl ν σ b))) := by rw [wl_at hc.2.1, en_o hc.2.2 h10]
  refine va_astq (D := D) (r := (C, T, N)) hx hb hX.1 a3.1 a3.2.1 a4 a t0 b cb he (ht dA) hv hcl (inb_in hc.1.2) d (fun H1 locs1 b1 b2 b3 => ?_)
  refine k r hr ν H1 ls locs1 a1 a2 (wd_put a3 rfl hc.1.1.1 ?_ en_sr (shut_r a3.2.2.1 (fun z hz => by cases hz; exact hc.2.1)) b1 b2) b3 a5 (oks_tail (oks_tail (oks_tail a6))) a7
  have hf : (fun j => (g_r (s_r σ a i.toNatClampNeg (some b)) a j).map ν) = va_up (fun j => (g_r σ a j).map ν) i.toNatClampNeg (some (ν b)) := by
    funext j
    by_cases hj : j = i.toNatClampNeg
    · simp [g_r_s_r, va_up, hj]
    · simp [g_r_s_r, va_up, hj]
  rw [en_q hc.1.1.2 hq, hf]
theorem g_sld (K : Cx Γ own cc nL rm) {n : Nat} {xs : Nat → Int32} (hS : Scr Γ n xs) {i : Int32} (d : decode cc pc = .ok (.iaload, 1)) (k : G Γ mk cells slots (pc + 1) L (.int (xs i.toNatClampNeg) :: st) σ o) : G Γ mk cells slots pc L (.int i :: .ref SCR :: st) σ (if inb i n = true then o else none) := by
  refine g_if fun hc => ?_
  obtain ⟨p, l, e, R, s, m, args, below, meth, c, D, dA, Hl, ν0, N0, Qr⟩ := Γ
  obtain ⟨hx, hb, hml, hown, hts, hX, hlk, htr, hR⟩ := K
  intro r hr ν H ls locs a1 a2 a3 a4 a5 a6 a7
  have hν : ν SCR = ν0 SCR := a1 SCR (Or.inr rfl)
  have e9 : tr ν (.ref SCR) = .ref (ν0 SCR) := congrArg Value.ref hν
  show W p l e R s m args below meth c H locs cells slots (Qr (mk r)) (F0 m pc ls (.int i :: tr ν (.ref SCR) :: st.map (tr ν)))
  rw [e9]
  exact va_sld (A := fun q => Hl.size ≤ q) hx hb hS.1 hS.2 (Nat.not_le.mpr hS.2) a4 (inb_in hc) d (k r hr ν H ls locs a1 a2 a3 a4 a5 (oks_cons trivial (oks_tail (oks_tail a6))) a7)
theorem g_slen (K : Cx Γ own cc nL rm) {n : Nat} {xs : Nat → Int32} (hS : Scr Γ n xs) (d : decode cc pc = .ok (.arraylength, 1)) (k : G Γ mk cells slots (pc + 1) L (.int (nI n) :: st) σ o) : G Γ mk cells slots pc L (.ref SCR :: st) σ o := by
  obtain ⟨p, l, e, R, s, m, args, below, meth, c, D, dA, Hl, ν0, N0, Qr⟩ := Γ
  obtain ⟨hx, hb, hml, hown, hts, hX, hlk, htr, hR⟩ := K
  intro r hr ν H ls locs a1 a2 a3 a4 a5 a6 a7
  have hν : ν SCR = ν0 SCR := a1 SCR (Or.inr rfl)
  have e9 : tr ν (.ref SCR) = .ref (ν0 SCR) := congrArg Value.ref hν
  show W p l e R s m args below meth c H locs cells slots (Qr (mk r)) (F0 m pc ls (tr ν (.ref SCR) :: st.map (tr ν)))
  rw [e9]
  exact va_slen (A := fun q => Hl.size ≤ q) hx hb hS.1 hS.2 (Nat.not_le.mpr hS.2) a4 d (k r hr ν H ls locs a1 a2 a3 a4 a5 (oks_cons trivial (oks_tail a6)) a7)
theorem g_new (K : Cx Γ own cc nL rm) {idx ci N : Nat} {C : String} {T : u_T} {ty : Nat → FieldType} (hC : CF ci C T N ty) (hk : Cond.classLink own idx C ∈ TB) (hi : Cond.instantiable C N ∈ TB) (hn : Cond.initialized C ∈ TB) (d : decode cc pc = .ok (.new idx, 3)) (h1 : cells + 1 ≤ rm.cells) (h2 : slots + N ≤ rm.slots) (k : G Γ mk (cells + 1) (slots + N) (pc + 3) L (.ref σ.1 :: st) (s_n σ) o) : G Γ mk cells slots pc L st σ (if kd σ.1 = ci ∧ σ.1 < SCR then o else none) := by
  refine g_if fun hc => ?_
  obtain ⟨c1, c2, c3, c4, c5, c6, c7⟩ := hC
  obtain ⟨p, l, e, R, s, m, args, below, meth, c, D, dA, Hl, ν0, N0, Qr⟩ := Γ
  obtain ⟨hx, hb, hml, hown, hts, hX, hlk, htr, hR⟩ := K
  intro r hr ν H ls locs a1 a2 a3 a4 a5 a6 a7
  refine va_new (D := D) (A := fun q => Hl.size ≤ q) (H0 := Hl) (fs := (List.range N).map (fun j => if rf ci j = true then Value.null else Value.int 0)) hx hb hts c4 ty c5 hown (hts _ hk) (hts _ hi) (hts _ hn) hX.1 a3.1 a3.2.1 a4 (fun q h => h) c1 (fun j hj => ?_) (by rw [hR]; exact h1) (by rw [hR]; exact h2) d (fun q H1 b1 b2 b3 => ?_)
  · rw [c7 j hj]
    simp [vp_V, List.getD_eq_getElem?_getD, hj]
  · have hx1 := nu1_ext (ν := ν) (q := q) hc.2
    have hw := wd_new a3 hc.2 (e := .inr (ci, (List.range N).map (fun j => if rf ci j = true then Value.null else Value.int 0))) (by
      have hf : fl (nu1 ν σ.1 q) (s_n σ) σ.1 = fun j => if rf ci j = true then Value.null else Value.int 0 := by
        funext j
        simp [fl, hc.1, g_r_s_n, g_i_s_n, va_rf]
      rw [en_o hc.1 c3, c2, hf]) b1 b2
    have hk := k r hr (nu1 ν σ.1 q) H1 ls locs (ext_trans a2 a1 hx1) (Nat.le_succ_of_le a2) hw b3 (okL_mono (Nat.le_succ _) a5) (oks_cons (Or.inl (Nat.lt_succ_self _)) (oks_mono (Nat.le_succ _) a6)) (by rw [ext_trL hx1 a5]; exact a7)
    have e1 : (Value.ref σ.1 :: st).map (tr (nu1 ν σ.1 q)) = .ref q :: st.map (tr ν) := by
      rw [List.map_cons, ext_map hx1 a6]
      show Value.ref (nu1 ν σ.1 q σ.1) :: _ = _
      rw [show nu1 ν σ.1 q σ.1 = q from if_pos rfl]
    rw [e1] at hk
    exact hk
theorem g_newI (K : Cx Γ own cc nL rm) {n : Int32} {N : Nat} (ha : Cond.arrayClass .int ∈ TB) (d : decode cc pc = .ok (.newarray .int, 2)) (h0 : ¬ n < 0) (hN : n.toNatClampNeg = N) (hB : N * 8 ≤ 536870912) (h1 : cells + 1 ≤ rm.cells) (h2 : slots + N ≤ rm.slots) (k : G Γ mk (cells + 1) (slots + N) (pc + 2) L (.ref σ.1 :: st) (s_n σ) o) : G Γ mk cells slots pc L (.int n :: st) σ (if (kd σ.1 = 10 ∧ ln σ.1 = N) ∧ σ.1 < SCR then o else none) := by
  refine g_if fun hc => ?_
  obtain ⟨p, l, e, R, s, m, args, below, meth, c, D, dA, Hl, ν0, N0, Qr⟩ := Γ
  obtain ⟨hx, hb, hml, hown, hts, hX, hlk, htr, hR⟩ := K
  intro r hr ν H ls locs a1 a2 a3 a4 a5 a6 a7
  refine va_newa (D := D) (A := fun q => Hl.size ≤ q) (H0 := Hl) (a0 := (N, .inl (fun _ => 0))) (atype := .int) (ty := .int) hx hb (hts _ ha) rfl hX.1 a3.1 a3.2.1 a4 (fun q h => h) (fun _ => rfl) h0 hN (Nat.le_trans (Nat.mul_le_mul_left _ (by decide)) hB) (by rw [hR]; exact h1) (by rw [hR]; exact h2) d (fun q cA H1 b0 b1 b2 b3 => ?_)
  have hcA : cA = dA 10 := by
    have e1 := (hX.1.2 0 _ rfl).2
    have e2 := (b0.2 (tyL dA).length (cA, .int) (by rw [List.getElem?_append_right (Nat.le_refl _), Nat.sub_self]; rfl)).2
    exact Option.some.inj ((show s.vm.findClass _ = some cA from e2).symm.trans (show s.vm.findClass _ = some (dA 10) from e1))
  subst hcA
  have hx1 := nu1_ext (ν := ν) (q := q) hc.2
  have hw := wd_new a3 hc.2 (e := .inl (dA 10, N, .inl (fun _ => 0))) (by
    have hf : g_i (s_n σ) σ.1 = fun _ => 0 := by
      funext j
      simp [g_i_s_n]
    rw [en_i hc.1.1 (by decide) (by decide), hc.1.2, hf]) b1 b2
  have hk := k r hr (nu1 ν σ.1 q) H1 ls locs (ext_trans a2 a1 hx1) (Nat.le_succ_of_le a2) hw b3 (okL_mono (Nat.le_succ _) a5) (oks_cons (Or.inl (Nat.lt_succ_self _)) (oks_mono (Nat.le_succ _) (oks_tail a6))) (by rw [ext_trL hx1 a5]; exact a7)
  have e1 : (Value.ref σ.1 :: st).map (tr (nu1 ν σ.1 q)) = .ref q :: st.map (tr ν) := by
    rw [List.map_cons, ext_map hx1 (oks_tail a6)]
    show Value.ref (nu1 ν σ.1 q σ.1) :: _ = _
    rw [show nu1 ν σ.1 q σ.1 = q from if_pos rfl]
  rw [e1] at hk
  exact hk
theorem g_newZ (K : Cx Γ own cc nL rm) {n : Int32} {N : Nat} (ha : Cond.arrayClass .boolean ∈ TB) (d : decode cc pc = .ok (.newarray .boolean, 2)) (h0 : ¬ n < 0) (hN : n.toNatClampNeg = N) (hB : N * 8 ≤ 536870912) (h1 : cells + 1 ≤ rm.cells) (h2 : slots + N ≤ rm.slots) (k : G Γ mk (cells + 1) (slots + N) (pc + 2) L (.ref σ.1 :: st) (s_n σ) o) : G Γ mk cells slots pc L (.int n :: st) σ (if (kd σ.1 = 11 ∧ ln σ.1 = N) ∧ σ.1 < SCR then o else none) := by
  refine g_if fun hc => ?_
  obtain ⟨p, l, e, R, s, m, args, below, meth, c, D, dA, Hl, ν0, N0, Qr⟩ := Γ
  obtain ⟨hx, hb, hml, hown, hts, hX, hlk, htr, hR⟩ := K
  intro r hr ν H ls locs a1 a2 a3 a4 a5 a6 a7
  refine va_newa (D := D) (A := fun q => Hl.size ≤ q) (H0 := Hl) (a0 := (N, .inl (fun _ => 0))) (atype := .boolean) (ty := .boolean) hx hb (hts _ ha) rfl hX.1 a3.1 a3.2.1 a4 (fun q h => h) (fun _ => rfl) h0 hN (Nat.le_trans (Nat.mul_le_mul_left _ (by decide)) hB) (by rw [hR]; exact h1) (by rw [hR]; exact h2) d (fun q cA H1 b0 b1 b2 b3 => ?_)
  have hcA : cA = dA 11 := by
    have e1 := (hX.1.2 1 _ rfl).2
    have e2 := (b0.2 (tyL dA).length (cA, .boolean) (by rw [List.getElem?_append_right (Nat.le_refl _), Nat.sub_self]; rfl)).2
    exact Option.some.inj ((show s.vm.findClass _ = some cA from e2).symm.trans (show s.vm.findClass _ = some (dA 11) from e1))
  subst hcA
  have hx1 := nu1_ext (ν := ν) (q := q) hc.2
  have hw := wd_new a3 hc.2 (e := .inl (dA 11, N, .inl (fun _ => 0))) (by
    have hf : g_i (s_n σ) σ.1 = fun _ => 0 := by
      funext j
      simp [g_i_s_n]
    rw [en_i hc.1.1 (by decide) (by decide), hc.1.2, hf]) b1 b2
  have hk := k r hr (nu1 ν σ.1 q) H1 ls locs (ext_trans a2 a1 hx1) (Nat.le_succ_of_le a2) hw b3 (okL_mono (Nat.le_succ _) a5) (oks_cons (Or.inl (Nat.lt_succ_self _)) (oks_mono (Nat.le_succ _) (oks_tail a6))) (by rw [ext_trL hx1 a5]; exact a7)
  have e1 : (Value.ref σ.1 :: st).map (tr (nu1 ν σ.1 q)) = .ref q :: st.map (tr ν) := by
    rw [List.map_cons, ext_map hx1 (oks_tail a6)]
    show Value.ref (nu1 ν σ.1 q σ.1) :: _ = _
    rw [show nu1 ν σ.1 q σ.1 = q from if_pos rfl]
  rw [e1] at hk
  exact hk
theorem g_newL (K : Cx Γ own cc nL rm) {n : Int32} {N : Nat} (ha : Cond.arrayClass .long ∈ TB) (d : decode cc pc = .ok (.newarray .long, 2)) (h0 : ¬ n < 0) (hN : n.toNatClampNeg = N) (hB : N * 8 ≤ 536870912) (h1 : cells + 1 ≤ rm.cells) (h2 : slots + N ≤ rm.slots) (k : G Γ mk (cells + 1) (slots + N) (pc + 2) L (.ref σ.1 :: st) (s_n σ) o) : G Γ mk cells slots pc L (.int n :: st) σ (if (kd σ.1 = 12 ∧ ln σ.1 = N) ∧ σ.1 < SCR then o else none) := by
  refine g_if fun hc => ?_
  obtain ⟨p, l, e, R, s, m, args, below, meth, c, D, dA, Hl, ν0, N0, Qr⟩ := Γ
  obtain ⟨hx, hb, hml, hown, hts, hX, hlk, htr, hR⟩ := K
  intro r hr ν H ls locs a1 a2 a3 a4 a5 a6 a7
  refine va_newa (D := D) (A := fun q => Hl.size ≤ q) (H0 := Hl) (a0 := (N, .inr (.inl (fun _ => 0)))) (atype := .long) (ty := .long) hx hb (hts _ ha) rfl hX.1 a3.1 a3.2.1 a4 (fun q h => h) (fun _ => rfl) h0 hN (Nat.le_trans (Nat.mul_le_mul_left _ (by decide)) hB) (by rw [hR]; exact h1) (by rw [hR]; exact h2) d (fun q cA H1 b0 b1 b2 b3 => ?_)
  have hcA : cA = dA 12 := by
    have e1 := (hX.1.2 2 _ rfl).2
    have e2 := (b0.2 (tyL dA).length (cA, .long) (by rw [List.getElem?_append_right (Nat.le_refl _), Nat.sub_self]; rfl)).2
    exact Option.some.inj ((show s.vm.findClass _ = some cA from e2).symm.trans (show s.vm.findClass _ = some (dA 12) from e1))
  subst hcA
  have hx1 := nu1_ext (ν := ν) (q := q) hc.2
  have hw := wd_new a3 hc.2 (e := .inl (dA 12, N, .inr (.inl (fun _ => 0)))) (by
    have hf : g_l (s_n σ) σ.1 = fun _ => 0 := by
      funext j
      simp [g_l_s_n]
    rw [en_l hc.1.1, hc.1.2, hf]) b1 b2
  have hk := k r hr (nu1 ν σ.1 q) H1 ls locs (ext_trans a2 a1 hx1) (Nat.le_succ_of_le a2) hw b3 (okL_mono (Nat.le_succ _) a5) (oks_cons (Or.inl (Nat.lt_succ_self _)) (oks_mono (Nat.le_succ _) (oks_tail a6))) (by rw [ext_trL hx1 a5]; exact a7)
  have e1 : (Value.ref σ.1 :: st).map (tr (nu1 ν σ.1 q)) = .ref q :: st.map (tr ν) := by
    rw [List.map_cons, ext_map hx1 (oks_tail a6)]
    show Value.ref (nu1 ν σ.1 q σ.1) :: _ = _
    rw [show nu1 ν σ.1 q σ.1 = q from if_pos rfl]
  rw [e1] at hk
  exact hk
theorem g_newQ (K : Cx Γ own cc nL rm) {n : Int32} {N idx kq t0 : Nat} {C : String} (hq : 12 < kq) (ht : ∀ dA : Nat → ClassId, (tyL dA)[t0]? = some (dA kq, .object C)) (hcl : Cond.classLink own idx C ∈ TB) (ha : C ∈ aov) (d : decode cc pc = .ok (.anewarray idx, 3)) (h0 : ¬ n < 0) (hN : n.toNatClampNeg = N) (hB : N * 4 ≤ 536870912) (h1 : cells + 1 ≤ rm.cells) (h2 : slots + N ≤ rm.slots) (k : G Γ mk (cells + 1) (slots + N) (pc + 3) L (.ref σ.1 :: st) (s_n σ) o) : G Γ mk cells slots pc L (.int n :: st) σ (if (kd σ.1 = kq ∧ ln σ.1 = N) ∧ σ.1 < SCR then o else none) := by
  refine g_if fun hc => ?_
  obtain ⟨p, l, e, R, s, m, args, below, meth, c, D, dA, Hl, ν0, N0, Qr⟩ := Γ
  obtain ⟨hx, hb, hml, hown, hts, hX, hlk, htr, hR⟩ := K
  intro r hr ν H ls locs a1 a2 a3 a4 a5 a6 a7
  refine va_newq (D := D) (A := fun q => Hl.size ≤ q) (H0 := Hl) hx hb hown (hts _ hcl) (hX.ao _ ha) hX.1 a3.1 a3.2.1 a4 (fun q h => h) h0 hN hB (by rw [hR]; exact h1) (by rw [hR]; exact h2) d (fun q cA H1 b0 b1 b2 b3 => ?_)
  have hcA : cA = dA kq := by
    obtain ⟨_, _, -, -, -, e1⟩ := (hX.1.2 t0 _ (ht dA)).2
    obtain ⟨_, _, -, -, -, e2⟩ := (b0.2 (tyL dA).length (cA, .object C) (by rw [List.getElem?_append_right (Nat.le_refl _), Nat.sub_self]; rfl)).2
    exact Option.some.inj (e2.symm.trans e1)
  subst hcA
  have hx1 := nu1_ext (ν := ν) (q := q) hc.2
  have hw := wd_new a3 hc.2 (e := .inl (dA kq, N, .inr (.inr (.inr (.inr (fun _ => none)))))) (by
    have hf : (fun j => (g_r (s_n σ) σ.1 j).map (nu1 ν σ.1 q)) = fun _ => none := by
      funext j
      simp [g_r_s_n]
    rw [en_q hc.1.1 hq, hc.1.2, hf]) b1 b2
  have hk := k r hr (nu1 ν σ.1 q) H1 ls locs (ext_trans a2 a1 hx1) (Nat.le_succ_of_le a2) hw b3 (okL_mono (Nat.le_succ _) a5) (oks_cons (Or.inl (Nat.lt_succ_self _)) (oks_mono (Nat.le_succ _) (oks_tail a6))) (by rw [ext_trL hx1 a5]; exact a7)
  have e1 : (Value.ref σ.1 :: st).map (tr (nu1 ν σ.1 q)) = .ref q :: st.map (tr ν) := by
    rw [List.map_cons, ext_map hx1 (oks_tail a6)]
    show Value.ref (nu1 ν σ.1 q σ.1) :: _ = _
    rw [show nu1 ν σ.1 q σ.1 = q from if_pos rfl]
  rw [e1] at hk
  exact hk
theorem g_objInit (K : Cx Γ own cc nL rm) {idx a : Nat} (h1 : Cond.methodLink own idx objectInit ∈ TB) (h2 : Cond.instanceMethod objectInit ∈ TB) (h3 : Cond.code objectInit ⟨#[0xb1]⟩ 1 none ∈ TB) (hf : 1 ≤ rm.frames) (hl : 20 ≤ rm.locals) (hst : (st.map fun v => v.category).sum ≤ 8) (d : decode cc pc = .ok (.invokespecial idx, 3)) (k : G Γ mk cells slots (pc + 3) L st σ o) : G Γ mk cells slots pc L (.ref a :: st) σ o := by
  obtain ⟨p, l, e, R, s, m, args, below, meth, c, D, dA, Hl, ν0, N0, Qr⟩ := Γ
  obtain ⟨hx, hb, hml, hown, hts, hX, hlk, htr, hR⟩ := K
  intro r hr ν H ls locs a1 a2 a3 a4 a5 a6 a7
  refine W.objInit hx hb hown (hts _ h1) (hts _ h2) (hts _ h3) rfl a7.1 rfl d (by rw [hR]; exact hf) ?_ (k r hr ν H ls locs a1 a2 a3 a4 a5 (oks_tail a6) a7)
  have e1 : ((st.map (tr ν)).map fun v => v.category).sum = (st.map fun v => v.category).sum := by
    rw [List.map_map]
    congr 1
    exact List.map_congr_left fun v _ => tr_cat ν v
  have e2 := lv_room (m := m) (pc := pc) (ls := ls) (rest := []) (st := st.map (tr ν)) (by rw [e1]; exact hst)
  rw [hR]
  have e3 : 2 * (F0 m pc ls ((Value.ref a :: st).map (tr ν))).monitorRoom + ((st.map (tr ν)).map fun v => v.category).sum ≤ 8 := e2
  omega
end GH
end
section
/-! Contracts over whole worlds, with two ends: an answer, or an exception of a class; entry, return, calls. -/
def Pz (D : va_G) (dA : Nat → ClassId) (Hl : Heap) (ν0 : Nat → Nat) (vs : List Value) (σ : Sg) : Array Value → State → Prop := fun a U =>
  a = (vs.map (tr ν0)).toArray ∧ oks σ.1 vs ∧ Wd D dA Hl.size ν0 σ U.heap ∧ va_S (fun q => Hl.size ≤ q) Hl U.heap [] ∧ Fx D dA Hl U
def Qz (D : va_G) (dA : Nat → ClassId) (Hl : Heap) (ν0 : Nat → Nat) (N0 : Nat) (r : Rs) (mc ms : Nat) : Array Value → State → Outcome → State → Prop := fun _ st o t =>
  ∃ (ν : Nat → Nat) (Lc : List Loc), ext ν0 N0 ν ∧ N0 ≤ r.2.1 ∧ Wd D dA Hl.size ν r.2 t.heap ∧ va_S (fun q => Hl.size ≤ q) Hl t.heap Lc ∧ st.WarmedH t.vm ∧ st.sameButNew ({ t with vm := st.vm } : State) Lc mc ms ∧
    ((∃ v, r.1 = .inl v ∧ o = .returned (v.map (tr ν)) ∧ ∀ w, v = some w → okv r.2.1 w) ∨ (∃ (E : String) (q : Nat) (ce : Cell), r.1 = .inr E ∧ o = .threw q ∧ t.heap[q]? = some ce ∧ ce.vm = .none ∧ st.vm.findClass E = some ce.cls))
def Con (l : Launch) (y : MethodName) (cw : Cond) (rm : Room) (vs : List Value) (σ : Sg) (r : Rs) : Prop :=
  ∀ (D : va_G) (dA : Nat → ClassId) (Hl : Heap) (ν0 : Nat → Nat), MetFree l y (headSpec (cw :: TB) rm) (Pz D dA Hl ν0 vs σ) (fun _ _ _ _ _ => True) (Qz D dA Hl ν0 σ.1 r rm.cells rm.slots)
/-- the word of a method's code, with or without an exception table -/
def CW (y : MethodName) (cw : Cond) (bytes : ByteArray) (maxL : Nat) (ret : Option FieldType) (hh : List (Nat × Nat × Nat × Nat)) : Prop := (cw = .code y bytes maxL ret ∧ hh = []) ∨ cw = .codeWith y bytes maxL ret hh
theorem CW.spec {y : MethodName} {cw : Cond} {bytes : ByteArray} {maxL : Nat} {ret : Option FieldType} {hh : List (Nat × Nat × Nat × Nat)} (h : CW y cw bytes maxL ret hh) {args : Array Value} {s : State} (hw : cw.before args s = true) :
    ∃ m meth c, s.methodNamed? y = some m ∧ s.vm.method? m = some meth ∧ meth.code = some c ∧ c.code = bytes ∧ c.maxLocals = maxL ∧ c.exceptionTable.toList.map (fun h => (h.startPc, h.endPc, h.handlerPc, h.catchType)) = hh ∧ meth.sig.returnType = ret ∧ meth.locks = false ∧ parseMethodDescriptor y.desc = some meth.sig := by
  rcases h with ⟨rfl, rfl⟩ | rfl
  · obtain ⟨m, hn⟩ := Cond.code_named hw
    obtain ⟨meth, c, h1, h2, h3, h4, h5, h6, h7, h8⟩ := Cond.code_spec hn hw
    have h9 : c.exceptionTable = #[] := by simpa using h7
    exact ⟨m, meth, c, hn, h1, h2, h3, h4, by rw [h9]; rfl, h5, h6, h8⟩
  · exact Cond.codeWith_spec hw
def Std (Γ : GX) (ret : Option FieldType) : Prop := match Γ with
  | (p, l, e, R, s, m, args, below, meth, c, D, dA, Hl, ν0, N0, Qr) => meth.sig.returnType = ret ∧ Qr = fun r t => ∃ o, t.status = .running ∧ Ended t below o ∧ Qz D dA Hl ν0 N0 r R.cells R.slots args s o t
def Tb (Γ : GX) (hh : List (Nat × Nat × Nat × Nat)) : Prop := match Γ with
  | (p, l, e, R, s, m, args, below, meth, c, D, dA, Hl, ν0, N0, Qr) => c.exceptionTable.toList.map (fun h => (h.startPc, h.endPc, h.handlerPc, h.catchType)) = hh
theorem lv_args_tr {ν : Nat → Nat} : ∀ (vs : List Value) (i : Nat), lv_args i (vs.map (tr ν)) = trL ν (lv_args i vs)
  | [], _ => rfl
  | v :: vs, i => by
    show (i, tr ν v) :: lv_args (if (tr ν v).category = 2 then i + 2 else i + 1) (vs.map (tr ν)) = (i, tr ν v) :: trL ν (lv_args (if v.category = 2 then i + 2 else i + 1) vs)
    rw [tr_cat, lv_args_tr]
theorem lv_args_mem : ∀ (vs : List Value) (i : Nat) (q : Nat × Value), q ∈ lv_args i vs → q.2 ∈ vs
  | [], _, _, h => nomatch h
  | v :: vs, i, q, h => (List.mem_cons.mp h).elim (fun e => by rw [e]; exact List.mem_cons_self) (fun h => List.mem_cons_of_mem _ (lv_args_mem vs _ q h))
theorem lg_sl_len : ∀ vs : List Value, (∀ v ∈ vs, v.category = 1) → (lg_sl vs).length = vs.length
  | [], _ => rfl
  | v :: vs, h => by
    have h1 := h v List.mem_cons_self
    have h2 := lg_sl_len vs (fun w hw => h w (List.mem_cons_of_mem _ hw))
    unfold lg_sl at h2 ⊢
    simp [h1, h2]
theorem Con.of {ρ : Type} {mk : ρ → Rs} {o : Option ρ} {z : ρ} {l : Launch} {y : MethodName} {cw : Cond} {rm : Room} {vs : List Value} {σ : Sg} {r : Rs} {bytes : ByteArray} {maxL : Nat} {ret : Option FieldType} {hh : List (Nat × Nat × Nat × Nat)} {L0 : List (Nat × Value)}
    (hl : l.stackTraces = false) (hy : plainFor y = true) (hcw : CW y cw bytes maxL ret hh) (hcat : ∀ v ∈ vs, v.category = 1) (hlen : vs.length ≤ maxL) (hL : lv_args 0 vs = L0)
    (body : ∀ Γ, Cx Γ y.cls bytes maxL rm → Std Γ ret → Tb Γ hh → (y.name = "<init>" → Ini Γ) → G Γ mk 0 0 0 L0 [] σ o) (hr : o = some z) (hz : mk z = r) : Con l y cw rm vs σ r := by
  intro D dA Hl ν0
  refine MetFree.of_bodySF (code := bytes) (maxLocals := maxL) (ret := ret) hy ?_ ?_
  · intro args s m h hn
    obtain ⟨m9, meth, c, hn9, h1, h2, h3, h4, -, h5, h6, -⟩ := hcw.spec (atoms_spec (ws := cw :: TB) h _ List.mem_cons_self)
    cases hn.symm.trans hn9
    exact ⟨meth, c, h1, h2, h3, h4, h5, h6⟩
  · intro p e s m args below meth c s₁ B hml hP _
    obtain ⟨ha, hok, hW, hS, hF⟩ := hP
    have hh0 : s₁.heap = s.heap := by rw [B.state]; rfl
    have hts := atoms_spec (ws := cw :: TB) B.pre
    have X₀ : Stand p l e rm s m args below meth c s₁ [] 0 0 := Stand.of_body B
    have htab : c.exceptionTable.toList.map (fun h => (h.startPc, h.endPc, h.handlerPc, h.catchType)) = hh := by
      obtain ⟨m9, meth9, c9, hn9, h1, h2, -, -, h5, -, -, -⟩ := hcw.spec (hts _ List.mem_cons_self)
      cases B.named.symm.trans hn9
      cases B.method.symm.trans h1
      cases X₀.code.symm.trans h2
      exact h5
    have hg := body (p, l, e, rm, s, m, args, below, meth, c, D, dA, Hl, ν0, σ.1, fun r t => ∃ o, t.status = .running ∧ Ended t below o ∧ Qz D dA Hl ν0 σ.1 r rm.cells rm.slots args s o t)
      ⟨B.exec, B.bytes, hml, findClass_of_methodNamed B.named, fun w hw => hts w (List.mem_cons_of_mem _ hw), hF, B.notSynchronized, hl, rfl⟩ ⟨B.returns, rfl⟩ htab (fun hq => (name_of_methodNamed B.named B.method).1.trans hq)
    have hcat' : ∀ v ∈ vs.map (tr ν0), v.category = 1 := fun v hv => by
      obtain ⟨w, hw, rfl⟩ := List.mem_map.mp hv
      rw [tr_cat]; exact hcat w hw
    have hlv := lv_entry (vs.map (tr ν0)) (n := maxL) (by rw [lg_sl_len _ hcat', List.length_map]; exact hlen)
    rw [lv_args_tr, hL] at hlv
    have hokL : okL σ.1 L0 := fun q hq => by
      rw [← hL] at hq
      have := lv_args_mem vs 0 q hq
      exact ⟨hok _ this, hcat _ this⟩
    have hw := hg z hr ν0 s.heap _ [] ext_refl (Nat.le_refl _) hW hS hokL oks_nil (by rw [hml]; exact hlv)
    rw [hz] at hw
    obtain ⟨t, q1, o9, q2, q3, q4⟩ := hw s₁ hh0 X₀
    refine ⟨t, o9, ?_, q2, q3, q4⟩
    rw [ha, lg_entry_eq]
    exact q1
section GC
variable {ρ : Type} {mk : ρ → Rs} {Γ : GX} {own : String} {cc : ByteArray} {nL : Nat} {rm : Room} {cells slots pc : Nat} {L : List (Nat × Value)} {st : List Value} {σ : Sg} {z : ρ}
theorem g_iret (K : Cx Γ own cc nL rm) {ty : FieldType} {x : Int32} (S : Std Γ (some ty)) (hn : narrow ty (.int x) = .int x) (d : decode cc pc = .ok (.ireturn, 1)) (hc : cells ≤ rm.cells) (hs : slots ≤ rm.slots) (hz : mk z = (.inl (some (.int x)), σ)) : G Γ mk cells slots pc L [.int x] σ (some z) := by
  obtain ⟨p, l, e, R, s, m, args, below, meth, c, D, dA, Hl, ν0, N0, Qr⟩ := Γ
  obtain ⟨hx, hb, hml, hown, hts, hX, hlk, htr, hR⟩ := K
  intro r hr ν H ls locs a1 a2 a3 a4 a5 a6 a7
  cases hr
  rw [hz]
  obtain ⟨hret, hQ⟩ := S
  subst hQ
  subst hR
  refine W.widen hc hs ?_
  have h := W.zret (Qc := fun _ _ o t => o = .returned (some (.int x)) ∧ t.heap = H) (free := fun q => Hl.size ≤ q) (v := x) hx hb hret hn (fun t ht hW => ⟨rfl, ht⟩) a4.2.2 d (hlocks := hlk) (p := p) (l := l) (e := e) (R := R) (s := s) (m := m) (args := args) (below := below) (meth := meth) (c := c) (H := H) (locs := locs) (cells := R.cells) (slots := R.slots) (ls := ls)
  intro T hT X
  obtain ⟨t, q1, o9, q2, q3, ⟨q4, q5⟩, L9, q6, q7⟩ := h T hT X
  exact ⟨t, q1, o9, q2, q3, ν, L9, a1, a2, by rw [q5]; exact a3, ⟨by rw [q5]; exact a4.1, by rw [q5]; exact a4.2.1, q7⟩, q6.2.1, q6.2.2, Or.inl ⟨_, rfl, q4, fun w hw => by cases hw; trivial⟩⟩
theorem g_zret (K : Cx Γ own cc nL rm) {x : Int32} (S : Std Γ (some .boolean)) (d : decode cc pc = .ok (.ireturn, 1)) (hc : cells ≤ rm.cells) (hs : slots ≤ rm.slots) (hz : mk z = (.inl (some (.int x)), σ)) : G Γ mk cells slots pc L [.int x] σ (if x = 0 ∨ x = 1 then some z else none) :=
  g_if fun h => g_iret K S (by rcases h with h | h <;> rw [h] <;> rfl) d hc hs hz
theorem g_vret (K : Cx Γ own cc nL rm) (S : Std Γ none) (d : decode cc pc = .ok (.return_, 1)) (hc : cells ≤ rm.cells) (hs : slots ≤ rm.slots) (hz : mk z = (.inl none, σ)) : G Γ mk cells slots pc L [] σ (some z) := by
  obtain ⟨p, l, e, R, s, m, args, below, meth, c, D, dA, Hl, ν0, N0, Qr⟩ := Γ
  obtain ⟨hx, hb, hml, hown, hts, hX, hlk, htr, hR⟩ := K
  intro r hr ν H ls locs a1 a2 a3 a4 a5 a6 a7
  cases hr
  rw [hz]
  obtain ⟨hret, hQ⟩ := S
  subst hQ
  subst hR
  refine W.widen hc hs ?_
  have h := W.vret (Qc := fun _ _ o t => o = .returned none ∧ t.heap = H) (free := fun q => Hl.size ≤ q) hx hb hret (fun t ht hW => ⟨rfl, ht⟩) a4.2.2 d (hlocks := hlk) (p := p) (l := l) (e := e) (R := R) (s := s) (m := m) (args := args) (below := below) (meth := meth) (c := c) (H := H) (locs := locs) (cells := R.cells) (slots := R.slots) (ls := ls)
  intro T hT X
  obtain ⟨t, q1, o9, q2, q3, ⟨q4, q5⟩, L9, q6, q7⟩ := h T hT X
  exact ⟨t, q1, o9, q2, q3, ν, L9, a1, a2, by rw [q5]; exact a3, ⟨by rw [q5]; exact a4.1, by rw [q5]; exact a4.2.1, q7⟩, q6.2.1, q6.2.2, Or.inl ⟨_, rfl, q4, fun w hw => by cases hw⟩⟩
end GC
/-- a call's way, behind the invocation: what the callee's contract gives, seen in the caller's frame -/
theorem x_run {p : Program} {l : Launch} {e : Env} {R : Room} {s : State} {m : MethodId} {sargs : Array Value} {below : List Frame} {meth : Method} {c : Code} {U : State} {Ls : List Loc} {c0 s0 : Nat} (X : Stand p l e R s m sargs below meth c U Ls c0 s0)
    {g : JFrame} (hg : g.method = m) (hsize : g.locals.size = c.maxLocals) {ig : Instr} {len : Nat} (hdg : decode c.code g.pc = .ok (ig, len)) (hW : 2 * g.monitorRoom + (g.stack.map fun v => v.category).sum ≤ 8)
    {y : MethodName} {mk : MethodId} (hn : U.methodNamed? y = some mk) {a : Array Value} {ws : List Cond} {rm : Room} {Pc : Array Value → State → Prop} {Q : Array Value → State → Outcome → State → Prop}
    (hM : MetFree l y (headSpec ws rm) Pc (fun _ _ _ _ _ => True) Q) (hPc : Pc a (U.calling g mk a)) (h1 : ∀ w ∈ ws, w.before a U = true) {methY : Method} {cY : Code} {maxL : Nat} (hmY : U.vm.method? mk = some methY) (hcY : methY.code = some cY) (hlY : cY.maxLocals = maxL)
    (h3 : (Cond.initialized y.cls).before a U = true) (hfr : rm.frames + 1 ≤ R.frames) (hlo : 8 + (maxL + 11) + rm.locals ≤ R.locals) (h4 : c0 + rm.cells ≤ R.cells) (h5 : s0 + rm.slots ≤ R.slots) :
    ∃ (o : Outcome) (t : State), Q a (U.calling g mk a) o t ∧ ∀ L, (U.calling g mk a).WarmedH t.vm → (U.calling g mk a).sameButNew ({ t with vm := (U.calling g mk a).vm } : State) L rm.cells rm.slots →
      ∃ T' : State, T'.heap = t.heap ∧ T'.vm = t.vm ∧ Stand p l e R s m sargs below meth c T' (Ls ++ L) (c0 + rm.cells) (s0 + rm.slots) ∧
        (∀ v, o = .returned v → Steps p.tables e below (doInvoke e (U.setTop g) [] mk a).1 (T'.setTop { g with pc := g.pc + len, stack := v.toList ++ g.stack })) ∧
        (∀ q, o = .threw q → Steps p.tables e below (doInvoke e (U.setTop g) [] mk a).1 ((T'.setTop g).pushFrame (.throwing q))) := by
  subst hg
  obtain ⟨kY, hkY, -⟩ := className_of_methodNamed hn
  have hinitY : kY.init = .initialized := Cond.initialized_spec (findClass_of_methodNamed hn) hkY h3
  have h : At U g.method c below := X.here
  have hpre : (headSpec ws rm).pre.before a U = true := atoms_intro h1
  have hlo' : 8 + (maxL + 11) + (headSpec ws rm).room.locals ≤ R.locals := hlo
  have happ : (headSpec ws rm).appliesLoose y e.platform (U.calling g mk a) = true :=
    Spec.appliesLoose_calling (g := g) h hdg hn hkY hinitY (X.room_calling (g := g) (R' := (headSpec ws rm).room) hsize hmY hcY hfr (by rw [hlY]; omega) h4 h5) hpre
  obtain ⟨mid, hmid⟩ := h.above
  have hfrm : (U.setTop g).frames = (.java g :: mid) ++ below := by rw [State.frames_setTop' g h.top, hmid]; rfl
  obtain ⟨o, t, hsteps, -, hend, hq⟩ := Steps.callFree hM p X.admits X.cas X.clock (acts := []) hfrm happ hPc trivial
  refine ⟨o, t, hq, fun L hW2 hsm => ?_⟩
  rw [State.frames_setTop' g h.top] at hend
  obtain ⟨g₀, hg0⟩ := Option.isSome_iff_exists.mp h.top
  obtain ⟨r, hr⟩ := State.topJava?_eq_some.mp hg0
  obtain ⟨e2, q2, q3, q4, q5, q6⟩ := id hsm
  have e3 : t = ({ (U.calling g mk a).setFrames t.frames with heap := t.heap, slotsUsed := t.slotsUsed } : State).setVm t.vm := by
    have h9 : t = ({ t with vm := (U.calling g mk a).vm } : State).setVm t.vm := rfl
    rw [e2] at h9
    exact h9
  have hW' : U.WarmedH t.vm := hW2
  have hr' : (({ U with heap := t.heap, slotsUsed := t.slotsUsed } : State).setVm t.vm).frames = .java g₀ :: r := hr
  have hsame : U.sameButNew ({ U with heap := t.heap, slotsUsed := t.slotsUsed } : State) L rm.cells rm.slots := by
    refine ⟨?_, q2, q3, q4, q5, q6⟩
    obtain ⟨t9, ht9, -⟩ := State.frames_cons hr
    show ({ U with heap := t.heap, slotsUsed := t.slotsUsed } : State) = { U.setFrames U.frames with heap := t.heap, slotsUsed := t.slotsUsed }
    rw [State.setFrames_self ht9]
  refine ⟨({ U with heap := t.heap, slotsUsed := t.slotsUsed } : State).setVm t.vm, rfl, rfl,
    ⟨X.admits, X.cas, X.clock, X.frames, X.room, X.hears, X.method, X.code, (X.here.setHeapUsed t.heap t.slotsUsed).setVm hW'.alike, X.tail, State.WarmedH.trans X.warmed hW', X.limits, X.bytes, X.same.trans (hsame.setVm s.vm)⟩, fun v hv => ?_, fun q hv => ?_⟩
  · subst hv
    obtain ⟨c₂, i₂, len₂, hc₂, hd₂, hf₂⟩ := hend
    have hcc : c₂ = c := by
      have h9 : t.code? g.method = U.code? g.method := by rw [State.code?_eq, State.code?_eq, hW'.alike.method?]
      exact Option.some.inj (hc₂.symm.trans (h9.trans h.code))
    subst hcc
    have hlen : len₂ = len := by rw [hdg] at hd₂; cases hd₂; rfl
    subst hlen
    have hst : t = (({ U with heap := t.heap, slotsUsed := t.slotsUsed } : State).setVm t.vm).setTop { g with pc := g.pc + len₂, stack := v.toList ++ g.stack } := by
      refine e3.trans ?_
      rw [hf₂, State.calling_eq h.top, State.setFrames_setFrames, State.setTop_of_frames _ hr', hr]
      rfl
    rw [← hst]
    exact hsteps
  · subst hv
    have hf₂ : t.frames = .throwing q :: .java g :: U.frames.tail := hend
    have hst : t = ((({ U with heap := t.heap, slotsUsed := t.slotsUsed } : State).setVm t.vm).setTop g).pushFrame (.throwing q) := by
      refine e3.trans ?_
      rw [hf₂, State.calling_eq h.top, State.setFrames_setFrames, State.pushFrame, State.frames_setTop _ hr', State.setTop_of_frames _ hr', State.setFrames_setFrames, hr]
      rfl
    rw [← hst]
    exact hsteps
/-- an exception of class E is under way in this frame -/
def GT {ρ : Type} (Γ : GX) (mk : ρ → Rs) (cells slots pc : Nat) (L : List (Nat × Value)) (st : List Value) (E : String) (σ : Sg) (o : Option ρ) : Prop := match Γ with
  | (p, l, e, R, s, m, args, below, meth, c, D, dA, Hl, ν0, N0, Qr) => ∀ r, o = some r → ∀ (ν : Nat → Nat) (H : Heap) (ls : Array Slot) (locs : List Loc) (q : Nat) (ce : Cell), ext ν0 N0 ν → N0 ≤ σ.1 → Wd D dA Hl.size ν σ H → va_S (fun q => Hl.size ≤ q) Hl H locs → okL σ.1 L → lv_has ls c.maxLocals (trL ν L) → H[q]? = some ce → ce.vm = .none → s.vm.findClass E = some ce.cls →
    ∀ T : State, T.heap = H → Stand p l e R s m args below meth c T locs cells slots → ∃ t, Steps p.tables e below ((T.setTop (F0 m pc ls (st.map (tr ν)))).pushFrame (.throwing q)) t ∧ Qr (mk r) t
def GRs {ρ : Type} (Γ : GX) (mk : ρ → Rs) (cells slots pc len : Nat) (L : List (Nat × Value)) (st : List Value) (r : Rs) (o : Option ρ) : Prop := match r.1 with
  | .inl v => G Γ mk cells slots (pc + len) L (v.toList ++ st) r.2 o
  | .inr E => GT Γ mk cells slots pc L st E r.2 o
theorem sum_tr {ν : Nat → Nat} {st : List Value} : ((st.map (tr ν)).map fun v => v.category).sum = (st.map fun v => v.category).sum := by
  rw [List.map_map]
  congr 1
  exact List.map_congr_left fun v _ => tr_cat ν v
section GC2
variable {Γ : GX} {own : String} {cc : ByteArray} {nL : Nat} {rm : Room} {cells slots pc : Nat} {L : List (Nat × Value)} {st st0 : List Value} {σ : Sg}
variable {ρ : Type} {mk : ρ → Rs} {ρc : Type} {fo : Option ρc} {mkc : ρc → Rs} {o' : ρc → Option ρ} {idx maxL : Nat} {y : MethodName} {cw : Cond} {bytes : ByteArray} {ret : Option FieldType} {hh : List (Nat × Nat × Nat × Nat)} {rmc : Room} {vs : List Value}
/-- what a call asks of rooms and words -/
def CR (rm rmc : Room) (cells slots maxL : Nat) : Prop := rmc.frames + 1 ≤ rm.frames ∧ 8 + (maxL + 11) + rmc.locals ≤ rm.locals ∧ cells + rmc.cells ≤ rm.cells ∧ slots + rmc.slots ≤ rm.slots
def CN (y : MethodName) (cw : Cond) (bytes : ByteArray) (maxL : Nat) (ret : Option FieldType) (hh : List (Nat × Nat × Nat × Nat)) (n : Nat) : Prop := CW y cw bytes maxL ret hh ∧ cw ∈ TB ∧ Cond.initialized y.cls ∈ TB ∧ (y.cls ≠ "java/lang/invoke/MethodHandle" ∧ y.cls ≠ "java/lang/invoke/VarHandle") ∧ (parseMethodDescriptor y.desc).map (fun d => d.parameters.length) = some n
theorem TB_at {args a' : Array Value} {s U : State} (hW : s.WarmedH U.vm) {w : Cond} (hw : w ∈ TB) (h : w.before args s = true) : w.before a' U = true := word_at hW (good_of_word (TB_good w hw)) h
/-- behind the instruction: the callee runs, the caller goes on or has an exception -/
theorem x_fin {p : Program} {l : Launch} {e : Env} {R : Room} {s : State} {m : MethodId} {args : Array Value} {below : List Frame} {meth : Method} {c : Code} {D : va_G} {dA : Nat → ClassId} {Hl : Heap} {ν0 : Nat → Nat} {N0 : Nat} {Qr : Rs → State → Prop} {n : Nat}
    (hN : CN y cw bytes maxL ret hh n) (hC : ∀ l : Launch, l.stackTraces = false → ∀ r, fo = some r → Con l y cw rmc vs σ (mkc r)) (hts : ∀ w ∈ TB, w.before args s = true) (hX : Fx D dA Hl s) (htr : l.stackTraces = false) (hCR : CR R rmc cells slots maxL)
    (k : ∀ r, fo = some r → GRs (p, l, e, R, s, m, args, below, meth, c, D, dA, Hl, ν0, N0, Qr) mk (cells + rmc.cells) (slots + rmc.slots) pc 3 L st (mkc r) (o' r)) (hst : (st.map fun v => v.category).sum ≤ 8)
    {r : ρ} (hr : fo.bind o' = some r) {ν : Nat → Nat} {H : Heap} {ls : Array Slot} {locs : List Loc} (a1 : ext ν0 N0 ν) (a2 : N0 ≤ σ.1) (a3 : Wd D dA Hl.size ν σ H) (a4 : va_S (fun q => Hl.size ≤ q) Hl H locs) (a5 : okL σ.1 L) (a6 : oks σ.1 st) (av : oks σ.1 vs) (a7 : lv_has ls c.maxLocals (trL ν L))
    {T : State} (hT : T.heap = H) {vm' : Vm} (X₁ : Stand p l e R s m args below meth c (T.setVm vm') locs cells slots) {ig : Instr} (hdg : decode c.code pc = .ok (ig, 3)) {mkY : MethodId} (hn : s.methodNamed? y = some mkY) {S0 : State}
    (hstep : ∀ target, Steps p.tables e below (doInvoke e ((T.setVm vm').setTop (F0 m pc ls (st.map (tr ν)))) [] mkY (vs.map (tr ν)).toArray).1 target → Steps p.tables e below S0 target) :
    ∃ t, Steps p.tables e below S0 t ∧ Qr (mk r) t := by
  obtain ⟨hcw, hin, hini, hmh, hpar⟩ := hN
  cases hfo : fo with
  | none => rw [hfo] at hr; cases hr
  | some z =>
    rw [hfo] at hr
    have hr : o' z = some r := hr
    have hW0 := X₁.warmed
    obtain ⟨m9, methY, cY, hn9, hmY, hcY, -, hlY, -, -, -, -⟩ := hcw.spec (args := args) (s := T.setVm vm') (TB_at hW0 hin (hts _ hin))
    cases (X₁.named hn).symm.trans hn9
    obtain ⟨z1, z2, z3, z4⟩ := hCR
    obtain ⟨o9, t, hq, hrest⟩ := x_run X₁ (g := F0 m pc ls (st.map (tr ν))) rfl a7.1 hdg (lv_room (m := m) (pc := pc) (ls := ls) (rest := st.map (tr ν)) (by rw [sum_tr]; exact hst)) hn9 (a := (vs.map (tr ν)).toArray) (hC l htr z hfo D dA Hl ν)
      ⟨rfl, av, by show Wd D dA Hl.size ν σ T.heap; rw [hT]; exact a3, ⟨by show Hl.size ≤ T.heap.size; rw [hT]; exact a4.1, by show ∀ q : Nat, q < Hl.size → ¬ Hl.size ≤ q → T.heap[q]? = Hl[q]?; rw [hT]; exact a4.2.1, fun _ h => nomatch h⟩, hX.warm hW0⟩
      (fun w hw => (List.mem_cons.mp hw).elim (fun e => by rw [e]; exact TB_at hW0 hin (hts _ hin)) (fun h => TB_at hW0 h (hts _ h))) hmY hcY hlY (TB_at hW0 hini (hts _ hini)) z1 z2 z3 z4
    obtain ⟨ν1, Lc, q1, q2, q3, q4, q5, q6, q7⟩ := hq
    obtain ⟨T', e1, e2, X', hret, hthr⟩ := hrest Lc q5 q6
    have hSs : va_S (fun q => Hl.size ≤ q) Hl T'.heap (locs ++ Lc) := ⟨by rw [e1]; exact q4.1, by rw [e1]; exact q4.2.1, fun l9 hl => (List.mem_append.mp hl).elim (a4.2.2 l9) (q4.2.2 l9)⟩
    have kz := k z hfo
    unfold GRs at kz
    rcases q7 with ⟨v, v1, v2, v3⟩ | ⟨E, q, ce, v1, v2, v3, v4, v5⟩
    · rw [v1] at kz
      obtain ⟨t2, s2, hQ⟩ := kz r hr ν1 T'.heap ls (locs ++ Lc) (ext_trans a2 a1 q1) (Nat.le_trans a2 q2) (by rw [e1]; exact q3) hSs (okL_mono q2 a5) (oks_app (fun w hw => v3 w (by cases v with | none => cases hw | some u => rw [List.mem_singleton.mp hw])) (oks_mono q2 a6)) (by rw [ext_trL q1 a5]; exact a7) T' rfl X'
      refine ⟨t2, hstep _ ((hret _ v2).trans ?_), hQ⟩
      have e4 : (v.toList ++ st).map (tr ν1) = (v.map (tr ν1)).toList ++ st.map (tr ν) := by
        rw [List.map_append, ext_map q1 a6]
        cases v <;> rfl
      rw [e4] at s2
      exact s2
    · rw [v1] at kz
      obtain ⟨t2, s2, hQ⟩ := kz r hr ν1 T'.heap ls (locs ++ Lc) q ce (ext_trans a2 a1 q1) (Nat.le_trans a2 q2) (by rw [e1]; exact q3) hSs (okL_mono q2 a5) (by rw [ext_trL q1 a5]; exact a7) (by rw [e1]; exact v3) v4 (by
        have v6 : (T.setVm vm').vm.findClass E = some ce.cls := v5
        rw [hW0.alike.findClass] at v6
        exact v6) T' rfl X'
      refine ⟨t2, hstep _ ((hthr _ v2).trans ?_), hQ⟩
      rw [ext_map q1 a6] at s2
      exact s2
theorem g_callS (K : Cx Γ own cc nL rm) {n : Nat} (hN : CN y cw bytes maxL ret hh n) (hC : ∀ l : Launch, l.stackTraces = false → ∀ r, fo = some r → Con l y cw rmc vs σ (mkc r)) (hlink : Cond.methodLink own idx y ∈ TB) (hstat : Cond.static y ∈ TB) (hCR : CR rm rmc cells slots maxL) (d : decode cc pc = .ok (.invokestatic idx, 3)) (hn : vs.length = n) (hs : vs.reverse ++ st = st0) (hst : (st.map fun v => v.category).sum ≤ 8)
    (k : ∀ r, fo = some r → GRs Γ mk (cells + rmc.cells) (slots + rmc.slots) pc 3 L st (mkc r) (o' r)) : G Γ mk cells slots pc L st0 σ (fo.bind o') := by
  subst hs
  obtain ⟨p, l, e, R, s, m, args, below, meth, c, D, dA, Hl, ν0, N0, Qr⟩ := Γ
  obtain ⟨hx, hb, hml, hown, hts, hX, hlk, htr, hR⟩ := K
  intro r hr ν H ls locs a1 a2 a3 a4 a5 a6 a7
  subst hR
  intro T hT X
  have hcw := hN.1
  have hmh := hN.2.2.2.1
  obtain ⟨mkY, methY, cY, hnY, hmY, hcY, -, -, -, -, -, hsig⟩ := hcw.spec (hts _ hN.2.1)
  have hstatic : methY.isStatic = true := Cond.static_spec hnY hmY (hts _ hstat)
  obtain ⟨kP, hkP, -⟩ := className_of_methodNamed hnY
  have hinitP : kP.init = .initialized := Cond.initialized_spec (findClass_of_methodNamed hnY) hkP (hts _ hN.2.2.1)
  have hpar : (vs.map (tr ν)).length = methY.sig.parameters.length := by
    have h9 := hN.2.2.2.2
    rw [hsig] at h9
    rw [List.length_map, hn]
    exact (Option.some.inj h9).symm
  obtain ⟨vm₁, X₁, hstep⟩ := X.invokestatic hx hown (hts _ hlink) hnY hmY hstatic hkP hinitP hmh (g := F0 m pc ls ((vs.reverse ++ st).map (tr ν))) rfl (argsL := vs.map (tr ν)) (rest := st.map (tr ν)) hpar (by show (vs.reverse ++ st).map (tr ν) = _; rw [List.map_append, List.map_reverse]) (by rw [hb]; exact d)
  exact x_fin hN hC hts hX htr hCR k hst hr a1 a2 a3 a4 a5 (oks_right a6) (fun v hv => oks_left a6 v (List.mem_reverse.mpr hv)) a7 hT X₁ (by rw [hb]; exact d) hnY (fun target h => hstep _ fun acts => by rw [doInvoke_state]; exact h)
theorem g_callV (K : Cx Γ own cc nL rm) {n ci N a : Nat} {C : String} {T9 : u_T} (hcl : vwCl[ci]? = some (C, T9, N)) (h10 : ci < 10) (hN : CN y cw bytes maxL ret hh n) (hC : ∀ l : Launch, l.stackTraces = false → ∀ r, fo = some r → Con l y cw rmc (.ref a :: vs) σ (mkc r)) (hlink : Cond.methodLink own idx y ∈ TB) (hinst : Cond.instanceMethod y ∈ TB) (hsel : Cond.selects C y y ∈ TB) (hCR : CR rm rmc cells slots maxL) (d : decode cc pc = .ok (.invokevirtual idx, 3)) (hn : vs.length = n) (hs : vs.reverse ++ .ref a :: st = st0) (hst : (st.map fun v => v.category).sum ≤ 8)
    (k : ∀ r, fo = some r → GRs Γ mk (cells + rmc.cells) (slots + rmc.slots) pc 3 L st (mkc r) (o' r)) : G Γ mk cells slots pc L st0 σ (if a < σ.1 ∧ kd a = ci then fo.bind o' else none) := by
  refine g_if fun hc => ?_
  subst hs
  obtain ⟨p, l, e, R, s, m, args, below, meth, c, D, dA, Hl, ν0, N0, Qr⟩ := Γ
  obtain ⟨hx, hb, hml, hown, hts, hX, hlk, htr, hR⟩ := K
  intro r hr ν H ls locs a1 a2 a3 a4 a5 a6 a7
  subst hR
  intro T hT X
  have hcw := hN.1
  have hmh := hN.2.2.2.1
  have he : (wl ν dA σ)[a]? = some (ν a, .inr (ci, (List.range (nf ci)).map (fl ν σ a))) := by rw [wl_at hc.1, en_o hc.2 h10]
  obtain ⟨cellB, hcell, hobj, hcls⟩ := va_recv hX.1 a3.1 hcl he
  obtain ⟨mkY, methY, hnY, hmY, hstM, habM⟩ := Cond.instanceMethod_spec (hts _ hinst)
  obtain ⟨mk9, meth9, cY, hn9, hm9, hcY, -, -, -, -, -, hsig⟩ := hcw.spec (hts _ hN.2.1)
  cases hnY.symm.trans hn9
  cases hmY.symm.trans hm9
  obtain ⟨c2, r2, m2, q1, q2, q3, q4, kP, hkP, hkPi⟩ := Cond.selects_spec (hts _ hsel)
  cases hcls.symm.trans q1
  cases (State.methodFound?_of_named hnY hmh).symm.trans q2
  cases hnY.symm.trans q3
  have hselP : selectMethod e.platform s.vm cellB.cls mkY = .method mkY := by rw [Launch.admits_selectMethod X.admits]; exact q4
  have hpar : (vs.map (tr ν)).length = methY.sig.parameters.length := by
    have h9 := hN.2.2.2.2
    rw [hsig] at h9
    rw [List.length_map, hn]
    exact (Option.some.inj h9).symm
  obtain ⟨vm₁, X₁, hstep⟩ := X.invokevirtual hx hown (hts _ hlink) hnY hmY hstM hkP hkPi hmh (a := ν a) (cell := cellB) (by rw [hT]; exact hcell)
    (fun z h => by rw [h] at hobj; cases hobj) hselP hmY habM hkP hkPi (g := F0 m pc ls ((vs.reverse ++ .ref a :: st).map (tr ν))) rfl (argsL := vs.map (tr ν)) (rest := st.map (tr ν)) hpar (by show (vs.reverse ++ .ref a :: st).map (tr ν) = _; rw [List.map_append, List.map_reverse]; rfl) (by rw [hb]; exact d)
  exact x_fin hN hC hts hX htr hCR k hst hr a1 a2 a3 a4 a5 (oks_tail (oks_right a6)) (oks_cons (oks_head (oks_right a6)) (fun v hv => oks_left a6 v (List.mem_reverse.mpr hv))) a7 hT X₁ (by rw [hb]; exact d) hnY (fun target h => hstep _ fun acts => by rw [doInvoke_state]; exact h)
theorem g_callI (K : Cx Γ own cc nL rm) {n a : Nat} (hN : CN y (.code y bytes maxL none) bytes maxL none [] n) (hname : y.name = "<init>") (hC : ∀ l : Launch, l.stackTraces = false → ∀ r, fo = some r → Con l y (.code y bytes maxL none) rmc (.ref a :: vs) σ (mkc r)) (hlink : Cond.methodLink own idx y ∈ TB) (hinst : Cond.instanceMethod y ∈ TB) (hCR : CR rm rmc cells slots maxL) (d : decode cc pc = .ok (.invokespecial idx, 3)) (hn : vs.length = n) (hs : vs.reverse ++ .ref a :: st = st0) (hst : (st.map fun v => v.category).sum ≤ 8)
    (k : ∀ r, fo = some r → GRs Γ mk (cells + rmc.cells) (slots + rmc.slots) pc 3 L st (mkc r) (o' r)) : G Γ mk cells slots pc L st0 σ (fo.bind o') := by
  subst hs
  obtain ⟨p, l, e, R, s, m, args, below, meth, c, D, dA, Hl, ν0, N0, Qr⟩ := Γ
  obtain ⟨hx, hb, hml, hown, hts, hX, hlk, htr, hR⟩ := K
  intro r hr ν H ls locs a1 a2 a3 a4 a5 a6 a7
  subst hR
  intro T hT X
  have hmh := hN.2.2.2.1
  have hpl : e.platform.magicAccessors = ({} : Platform).magicAccessors := by rw [X.admits.platform]
  obtain ⟨mkY, methY, cY, kP, vm₁, hnY, hmY, hcY, -, -, -, hkP, -, hW₁, hstep⟩ := Steps.initColdArgs (e := e) X.here hx X.warmed hpl hown hname hmh (hts _ hlink) (hts _ hinst) (hts _ hN.2.1) (f := F0 m pc ls ((vs.reverse ++ .ref a :: st).map (tr ν))) rfl (a := ν a) (argsL := vs.map (tr ν)) (rest := st.map (tr ν)) (fun sig h => by
    have h9 := hN.2.2.2.2
    rw [h] at h9
    rw [List.length_map, hn]
    exact (Option.some.inj h9).symm) (by show (vs.reverse ++ .ref a :: st).map (tr ν) = _; rw [List.map_append, List.map_reverse]; rfl) (by rw [hb]; exact d)
  exact x_fin hN hC hts hX htr hCR k hst hr a1 a2 a3 a4 a5 (oks_tail (oks_right a6)) (oks_cons (oks_head (oks_right a6)) (fun v hv => oks_left a6 v (List.mem_reverse.mpr hv))) a7 hT (X.noted hW₁) (by rw [hb]; exact d) hnY (fun target h => hstep _ fun acts => by rw [doInvoke_state]; exact h)
end GC2
end
section
/-! Exceptions: 'throw new E("text")' leaves the method; a callee's exception is caught by a row of the caller's table. -/
section TH
/-- one row of the search for a handler, its class linked or not yet -/
theorem fh_step {Q : Handler → Pre} {E : CtlPost} {e : Env} {d : Bool} {acts : List Action} {s : State} {f : JFrame} {a : Addr} {x : ExceptionTableEntry} {t : List ExceptionTableEntry} {c : ClassId} {cell : Cell} (hx : covers x f.pc = true) (h0 : x.catchType ≠ 0)
    (hl : s.vm.ClassLinks e.platform f.method.cls x.catchType c) (hcell : s.heap[a]? = some cell) (hobj : ∀ k, cell.vm ≠ .statics k) (hk : ∃ k, s.vm.classes[cell.cls]? = some k) (hc : ∃ k, s.vm.classes[c]? = some k) {b : Bool} (hfit : s.vm.assignable cell.cls c = b) :
    wp (findHandler.go f a (x :: t)) Q E e d acts s ↔ (if b = true then Q (.found x.handlerPc) d acts (s.setVm (s.vm.noted f.method.cls x.catchType (.cls c))) else wp (findHandler.go f a t) Q E e d acts (s.setVm (s.vm.noted f.method.cls x.catchType (.cls c)))) := by
  simp only [covers] at hx
  obtain ⟨ha, ht⟩ := (resolveClass_links e.toSetting hl).op (op := VmOp.resolveClass f.method.cls x.catchType) rfl
  have hal : s.vm.Alike (s.vm.noted f.method.cls x.catchType (.cls c)) := (Vm.Alike.refl s.vm).noted _ _ _
  obtain ⟨k1, hk1⟩ := hk
  obtain ⟨k2, hk2⟩ := hc
  obtain ⟨k1', hk1', -⟩ := hal.2.2 _ _ hk1
  obtain ⟨k2', hk2', -⟩ := hal.2.2 _ _ hk2
  have hfit' : (s.vm.noted f.method.cls x.catchType (.cls c)).assignable cell.cls c = b := by rw [hal.assignable]; exact hfit
  cases b <;> simp [findHandler.go, hx, h0, ha, ht, hcell, hobj, hk1', hk2', hfit', VmOp.dirties, VmOp.acts]
/-- the search through rows that don't take it, to one that does -/
theorem fh_go {e : Env} {s0 : State} {f : JFrame} {a : Addr} {cell : Cell} (hobj : ∀ k, cell.vm ≠ .statics k) (hk0 : ∃ k, s0.vm.classes[cell.cls]? = some k) (x : ExceptionTableEntry) (rest : List ExceptionTableEntry) (hx : covers x f.pc = true) (h0 : x.catchType ≠ 0) {cx : ClassId} (hlx : s0.vm.ClassLinks e.platform f.method.cls x.catchType cx) (hfit : s0.vm.assignable cell.cls cx = true) :
    ∀ (pre : List ExceptionTableEntry) (S : State), s0.WarmedH S.vm → S.heap[a]? = some cell → (∀ z ∈ pre, covers z f.pc = true ∧ z.catchType ≠ 0 ∧ ∃ c, s0.vm.ClassLinks e.platform f.method.cls z.catchType c ∧ s0.vm.assignable cell.cls c = false) →
      ∃ vm', s0.WarmedH vm' ∧ ∀ (Q : Handler → Pre) (E : CtlPost) (d : Bool) (acts : List Action), wp (findHandler.go f a (pre ++ x :: rest)) Q E e d acts S ↔ Q (.found x.handlerPc) d acts (S.setVm vm') := by
  obtain ⟨k0, hk0⟩ := hk0
  intro pre
  induction pre with
  | nil =>
    intro S hW hcell _
    obtain ⟨k1, hk1, -⟩ := hW.alike.2.2 _ _ hk0
    obtain ⟨dk, _, _, kt, hd, _, _, _, _, hkt, _, hopen⟩ := hlx.here
    obtain ⟨kt', hkt', -⟩ := hW.alike.2.2 _ _ hkt
    refine ⟨_, hW.noted hd hopen (State.rightAt_cls hlx), fun Q E d acts => ?_⟩
    rw [List.nil_append, fh_step hx h0 (hW.classLinks hlx) hcell hobj ⟨k1, hk1⟩ ⟨kt', hkt'⟩ (b := true) (by rw [hW.alike.assignable]; exact hfit), if_pos rfl]
  | cons z zs ih =>
    intro S hW hcell hp
    obtain ⟨k1, hk1, -⟩ := hW.alike.2.2 _ _ hk0
    obtain ⟨g1, g2, c, hl, hno⟩ := hp z List.mem_cons_self
    obtain ⟨dk, _, _, kt, hd, _, _, _, _, hkt, _, hopen⟩ := hl.here
    obtain ⟨kt', hkt', -⟩ := hW.alike.2.2 _ _ hkt
    obtain ⟨vm', hW', hq⟩ := ih (S.setVm (S.vm.noted f.method.cls z.catchType (.cls c))) (hW.noted hd hopen (State.rightAt_cls hl)) hcell (fun y hy => hp y (List.mem_cons_of_mem _ hy))
    refine ⟨vm', hW', fun Q E d acts => ?_⟩
    rw [List.cons_append, fh_step g1 g2 (hW.classLinks hl) hcell hobj ⟨k1, hk1⟩ ⟨kt', hkt'⟩ (b := false) (by rw [hW.alike.assignable]; exact hno), if_neg (by decide)]
    exact hq Q E d acts
/-- into the handler, with the tables that the search leaves -/
theorem fh_caught {tb : Tables} {e : Env} {s target : State} {g : JFrame} {c : Code} {below : List Frame} {a : Addr} (h : At s g.method c below) {pc : Nat} {vm' : Vm}
    (hfind : ∀ (Q : Handler → Pre) (E : CtlPost) (d : Bool) (acts : List Action), wp (findHandler g a) Q E e d acts ((s.setTop g).pushFrame (.throwing a)) ↔ Q (.found pc) d acts (((s.setTop g).pushFrame (.throwing a)).setVm vm'))
    (hrest : Steps tb e below ((s.setVm vm').setTop { g with pc := pc, stack := [.ref a] }) target) : Steps tb e below ((s.setTop g).pushFrame (.throwing a)) target := by
  obtain ⟨hgo, hw⟩ := h.throwing a
  refine Steps.head hgo hw ?_
  have hstep : ∀ (u : State) (r : List Frame), (∀ (Q : Handler → Pre) (E : CtlPost) (d : Bool) (acts : List Action), wp (findHandler g a) Q E e d acts u ↔ Q (.found pc) d acts (u.setVm vm')) →
      (stepThrowing e u a (.java g :: r)).Is ((u.setVm vm').setFrames (.java { g with pc := pc, stack := [.ref a] } :: r)) [] := by
    intro u r hf
    simp only [stepThrowing, searchFrame, vmDo]
    generalize hr : Sem.go _ e false [] u = res
    obtain ⟨as, rfl, ha⟩ := Sem.eq_ok_of hr (a := Handler.found pc) (s' := u.setVm vm') (acts' := []) (by simp [hf _ _ _ _])
    exact ⟨rfl, ha⟩
  rw [stepThread_throwing (frames_entered h.top _), (hstep ((s.setTop g).pushFrame (.throwing a)) _ hfind).1]
  obtain ⟨g₀, hg⟩ := Option.isSome_iff_exists.mp h.top
  obtain ⟨r, hr⟩ := State.topJava?_eq_some.mp hg
  have hr' : (s.setVm vm').frames = .java g₀ :: r := hr
  have hsv : ∀ (u : State) (F F' : List Frame), ((u.setFrames F).setVm vm').setFrames F' = (u.setVm vm').setFrames F' := fun u F F' => by
    have h1 : (u.setFrames F).setVm vm' = (u.setVm vm').setFrames F := rfl
    rw [h1, State.setFrames_setFrames]
  rw [State.setTop_of_frames _ hr'] at hrest
  rw [hr, List.tail_cons, State.pushFrame, hsv, State.setTop_of_frames _ hr, hsv]
  exact hrest
end TH
def cov (z : Nat × Nat × Nat × Nat) (pc : Nat) : Bool := decide (z.1 ≤ pc) && decide (pc < z.2.1)
section GT1
variable {ρ : Type} {mk : ρ → Rs} {Γ : GX} {own : String} {cc : ByteArray} {nL : Nat} {rm : Room} {cells slots pc : Nat} {L L' : List (Nat × Value)} {st : List Value} {σ : Sg} {o : Option ρ} {hh : List (Nat × Nat × Nat × Nat)} {E : String}
theorem g_catch0 (K : Cx Γ own cc nL rm) (hT : Tb Γ hh) (pre : List (Nat × Nat × Nat × Nat)) (x : Nat × Nat × Nat × Nat) (suf : List (Nat × Nat × Nat × Nat)) (hsplit : hh = pre ++ x :: suf) (hpass : ∀ z ∈ pre, cov z pc = true ∧ z.2.2.2 ≠ 0 ∧ ∃ nm, Cond.classLink own z.2.2.2 nm ∈ TB ∧ (E, nm) ∈ ncs) (hx9 : cov x pc = true) (h0 : x.2.2.2 ≠ 0) (hlink : Cond.classLink own x.2.2.2 E ∈ TB) (hE : Cond.instantiable E 6 ∈ TB) {j : Nat} (hj : j < nL) {len : Nat}
    (hst : ∀ (p : Program) (l : Launch) (e : Env) (R : Room) (s : State) (m : MethodId) (args : Array Value) (below : List Frame) (meth : Method) (c : Code) (H : Heap) (locs : List Loc) (Q : State → Prop) (ls : Array Slot) (q : Nat) (lv : List (Nat × Value)), p.tables.exec = Jvm.exec → c.code = cc → lv_has ls nL lv → (∀ ls' : Array Slot, lv_has ls' nL ((j, Value.ref q) :: lv.filter (fun q => !(q.1 == j) && !(q.1 + 1 == j && q.2.category == 2))) → W p l e R s m args below meth c H locs cells slots Q (F0 m (x.2.2.1 + len) ls' [])) → W p l e R s m args below meth c H locs cells slots Q (F0 m x.2.2.1 ls [.ref q]))
    (hl : L.filter (fun q => !(q.1 == j)) = L') (k : G Γ mk cells slots (x.2.2.1 + len) L' [] σ o) : GT Γ mk cells slots pc L st E σ o := by
  obtain ⟨p, l, e, R, s, m, args, below, meth, c, D, dA, Hl, ν0, N0, Qr⟩ := Γ
  obtain ⟨hx, hb, hml, hown, hts, hX, hlk, htr, hR⟩ := K
  intro r hr ν H ls locs q ce a1 a2 a3 a4 a5 a7 b1 b2 b3 T hTh X
  subst hl
  have hT : c.exceptionTable.toList.map (fun h => (h.startPc, h.endPc, h.handlerPc, h.catchType)) = hh := hT
  rw [hsplit] at hT
  obtain ⟨pre', suf0, hs1, hs2, hs3⟩ := List.map_eq_append_iff.mp hT
  obtain ⟨x', suf', hs4, hs5, hs6⟩ := List.map_eq_cons_iff.mp hs3
  have hpl : e.platform.magicAccessors = ({} : Platform).magicAccessors := by rw [X.admits.platform]
  have hcl : ClassAt s E ce.cls := by
    obtain ⟨cC, h9⟩ := classAt_of (hts _ hE)
    cases Option.some.inj (h9.1.symm.trans b3)
    exact h9
  obtain ⟨c5, hc5, hl5⟩ := Cond.classLink_spec hown (hts _ hlink) e.platform hpl
  cases Option.some.inj (hc5.symm.trans b3)
  have hk0 : ∃ k, s.vm.classes[ce.cls]? = some k := by obtain ⟨-, kC, hk, -⟩ := hcl; exact ⟨kC, hk⟩
  have ex : (x'.startPc, x'.endPc, x'.handlerPc, x'.catchType) = x := hs5
  have hobj : ∀ k, ce.vm ≠ .statics k := fun k hk => by rw [b2] at hk; cases hk
  obtain ⟨vm', hW', hf⟩ := fh_go (e := e) (s0 := s) (f := F0 m pc ls (st.map (tr ν))) (a := q) (cell := ce) hobj hk0 x' suf' (by rw [← ex] at hx9; exact hx9) (by rw [← ex] at h0; exact h0) (cx := ce.cls) (by rw [← ex] at hl5; exact hl5) (va_assign hcl) pre' ((T.setTop (F0 m pc ls (st.map (tr ν)))).pushFrame (.throwing q)) X.warmed (by show T.heap[q]? = some ce; rw [hTh]; exact b1) (fun z hz => by
    have hz' : (z.startPc, z.endPc, z.handlerPc, z.catchType) ∈ pre := by rw [← hs2]; exact List.mem_map.mpr ⟨z, hz, rfl⟩
    obtain ⟨g1, g2, nm, g3, g4⟩ := hpass _ hz'
    obtain ⟨c6, hc6, hl6⟩ := Cond.classLink_spec hown (hts _ g3) e.platform hpl
    obtain ⟨a8, b8, n1, n2, n3⟩ := hX.nc _ g4
    cases Option.some.inj (n1.symm.trans b3)
    cases Option.some.inj (n2.symm.trans hc6)
    exact ⟨g1, g2, _, hl6, n3⟩)
  have X' := X.noted hW'
  have hw : W p l e R s m args below meth c H locs cells slots (Qr (mk r)) (F0 m x.2.2.1 ls [.ref q]) := by
    refine hst p l e R s m args below meth c H locs _ ls q (trL ν L) hx hb (by rw [← hml]; exact a7) (fun ls' h' => ?_)
    refine k r hr ν H ls' locs a1 a2 a3 a4 (fun z hz => a5 z (List.mem_filter.mp hz).1) oks_nil ⟨by rw [hml]; exact h'.1, h'.2.1, fun z hz => ?_⟩
    obtain ⟨w, hw, rfl⟩ := List.mem_map.mp hz
    obtain ⟨hw1, hw2⟩ := List.mem_filter.mp hw
    refine h'.2.2 _ (List.mem_cons_of_mem _ (List.mem_filter.mpr ⟨List.mem_map.mpr ⟨w, hw1, rfl⟩, ?_⟩))
    have h1 : (tr ν w.2).category = 1 := (tr_cat ν w.2).trans (a5 w hw1).2
    simp [h1]
    simpa using hw2
  obtain ⟨t, s9, hQ⟩ := hw (T.setVm vm') hTh X'
  refine ⟨t, ?_, hQ⟩
  refine fh_caught X.here (pc := x.2.2.1) (vm' := vm') (fun Q9 E9 d9 acts9 => ?_) s9
  rw [W.findHandler_eq (meth := meth) (code := c) X.method' X.code, hs1, hs4]
  rw [← ex]
  exact hf Q9 E9 d9 acts9
theorem g_catch1 (K : Cx Γ own cc nL rm) (hT : Tb Γ hh) (pre : List (Nat × Nat × Nat × Nat)) (x : Nat × Nat × Nat × Nat) (suf : List (Nat × Nat × Nat × Nat)) (hsplit : hh = pre ++ x :: suf) (hpass : ∀ z ∈ pre, cov z pc = true ∧ z.2.2.2 ≠ 0 ∧ ∃ nm, Cond.classLink own z.2.2.2 nm ∈ TB ∧ (E, nm) ∈ ncs) (hx9 : cov x pc = true) (h0 : x.2.2.2 ≠ 0) (hlink : Cond.classLink own x.2.2.2 E ∈ TB) (hE : Cond.instantiable E 6 ∈ TB) {j : Fin 4} (hj : (j : Nat) < nL) (d : decode cc x.2.2.1 = .ok (.astore_n j, 1))
    (hl : L.filter (fun q => !(q.1 == (j : Nat))) = L') (k : G Γ mk cells slots (x.2.2.1 + 1) L' [] σ o) : GT Γ mk cells slots pc L st E σ o :=
  g_catch0 K hT pre x suf hsplit hpass hx9 h0 hlink hE hj (len := 1) (fun _ _ _ _ _ _ _ _ _ _ _ _ _ _ _ _ hx hb hlv kk => lv_astore_n hx hb d rfl hlv hj rfl kk) hl k
theorem g_catch2 (K : Cx Γ own cc nL rm) (hT : Tb Γ hh) (pre : List (Nat × Nat × Nat × Nat)) (x : Nat × Nat × Nat × Nat) (suf : List (Nat × Nat × Nat × Nat)) (hsplit : hh = pre ++ x :: suf) (hpass : ∀ z ∈ pre, cov z pc = true ∧ z.2.2.2 ≠ 0 ∧ ∃ nm, Cond.classLink own z.2.2.2 nm ∈ TB ∧ (E, nm) ∈ ncs) (hx9 : cov x pc = true) (h0 : x.2.2.2 ≠ 0) (hlink : Cond.classLink own x.2.2.2 E ∈ TB) (hE : Cond.instantiable E 6 ∈ TB) {j : Nat} (hj : j < nL) (d : decode cc x.2.2.1 = .ok (.astore j, 2))
    (hl : L.filter (fun q => !(q.1 == j)) = L') (k : G Γ mk cells slots (x.2.2.1 + 2) L' [] σ o) : GT Γ mk cells slots pc L st E σ o :=
  g_catch0 K hT pre x suf hsplit hpass hx9 h0 hlink hE hj (len := 2) (fun _ _ _ _ _ _ _ _ _ _ _ _ _ _ _ _ hx hb hlv kk => lv_astore hx hb d hlv hj rfl kk) hl k
end GT1
/-- the same frame, as if the method were called anew in the heap that stands now -/
theorem x_rebase {p : Program} {l : Launch} {e : Env} {R R' : Room} {s : State} {m : MethodId} {args : Array Value} {below : List Frame} {meth : Method} {c : Code} {T : State} {locs : List Loc} {cells slots : Nat} (X : Stand p l e R s m args below meth c T locs cells slots) (hf : R'.frames ≤ R.frames) (hl : R'.locals ≤ R.locals) (hc : cells + R'.cells ≤ R.cells) (hs : slots + R'.slots ≤ R.slots) :
    Stand p l e R' ((T.setVm s.vm).setFrames (.invoking m args :: below)) m args below meth c T [] 0 0 := by
  have htop : (T.setVm s.vm).topJava?.isSome := X.here.top
  have hF : ((T.setVm s.vm).setFrames (.invoking m args :: below)).frames = .invoking m args :: below := State.frames_setFrames _ (State.cur_lt_of_top htop)
  obtain ⟨g₀, hg0⟩ := Option.isSome_iff_exists.mp htop
  obtain ⟨r, hr⟩ := State.topJava?_eq_some.mp hg0
  have hl9 : e.platform.stackLimits (T.setVm s.vm).me = e.platform.stackLimits s.me := X.limits
  have hb9 : (T.setVm s.vm).me.stackBytes = s.me.stackBytes := X.bytes
  refine ⟨X.admits, X.cas, X.clock, hF, ?_, X.hears, X.method, X.code, X.here, X.tail, X.warmed, by rw [State.stackLimits_setFrames]; rfl, by rw [State.stackBytes_setFrames]; rfl, ?_⟩
  · have h := X.room
    have hU : ((T.setVm s.vm).setFrames (.invoking m args :: below)).localsInUse = s.localsInUse := by
      rw [State.localsInUse_invoking hF (meth := meth) (c := c) X.method X.code, State.localsInUse_invoking X.frames X.method X.code]
    simp only [State.hasRoom, Bool.and_eq_true, decide_eq_true_eq] at h ⊢
    obtain ⟨⟨⟨⟨h1, h2, h3, h4, h5, h6⟩, h7⟩, h8⟩, h9⟩ := h
    rw [X.frames, List.length_cons] at h2 h3
    have q1 := X.heapSize
    have q2 := X.used
    simp only [hF, hU, List.length_cons, State.stackLimits_setFrames, State.stackBytes_setFrames, hl9, hb9]
    refine ⟨⟨⟨⟨by omega, by omega, by omega, by omega, by omega, h6⟩, ?_⟩, ?_⟩, X.book⟩
    · show T.heap.size + R'.cells ≤ e.platform.maxCells
      omega
    · show T.slotsUsed + R'.slots ≤ e.platform.maxSlots
      omega
  · have hd : T.heap.toList.drop T.heap.size = [] := List.drop_eq_nil_of_le (Nat.le_of_eq Array.length_toList)
    refine ⟨?_, Nat.le_refl _, Nat.le_refl _, ?_, ?_, fun a c9 h9 => ⟨c9, h9, rfl, rfl, fun _ _ => rfl⟩⟩
    · obtain ⟨t, ht, -⟩ := State.frames_cons hr
      show T.setVm s.vm = { ((T.setVm s.vm).setFrames (.invoking m args :: below)).setFrames (T.setVm s.vm).frames with heap := T.heap, slotsUsed := T.slotsUsed }
      rw [State.setFrames_setFrames, State.setFrames_self ht]
      rfl
    · show T.slotsUsed = T.slotsUsed + ((T.heap.toList.drop T.heap.size).map (·.slots.size)).sum
      rw [hd]
      rfl
    · show ((T.heap.toList.drop T.heap.size).map (·.slots.size)).sum ≤ 0
      rw [hd]
      exact Nat.le_refl _
def zws : List Cond := [Cond.isRef (.static "java/lang/Throwable" "UNASSIGNED_STACK" stD), Cond.isRef (.static "java/lang/Throwable" "SUPPRESSED_SENTINEL" liD), Cond.laysStatic "java/lang/Throwable" "UNASSIGNED_STACK" stD, Cond.laysStatic "java/lang/Throwable" "SUPPRESSED_SENTINEL" liD]
def nms : List String := ["java/lang/RuntimeException", "java/lang/Exception"]
/-- all that a throw of E asks of words -/
def TW (own : String) (ik is ic : Nat) (E text : String) : Prop := Bundle.fit E = true ∧ Cond.classLink own ik E ∈ TB ∧ Cond.initialized E ∈ TB ∧ (own, is, text) ∈ strs ∧ ∀ w ∈ Bundle.ownAtoms own ic E nms, w ∈ TB ∨ w ∈ zws ∨ w ∈ dcl.map Cond.declares ∨ w ∈ exs.map (fun E => Cond.castable E E)
section GT2
variable {ρ : Type} {mk : ρ → Rs} {z : ρ} {Γ : GX} {own : String} {cc : ByteArray} {nL : Nat} {rm : Room} {cells slots pc : Nat} {L : List (Nat × Value)} {σ : Sg} {hh : List (Nat × Nat × Nat × Nat)} {E text : String} {ret : Option FieldType} {ik is ic : Nat}
set_option maxHeartbeats 1000000 in
theorem g_throw (K : Cx Γ own cc nL rm) (S : Std Γ ret) (hT : Tb Γ hh) (hW : TW own ik is ic E text) (hout : ∀ z ∈ hh, cov z (pc + 9) = false)
    (d0 : decode cc pc = .ok (.new ik, 3)) (d3 : decode cc (pc + 3) = .ok (.dup, 1)) (d4 : decode cc (pc + 4) = .ok (.ldc is, 2)) (d6 : decode cc (pc + 6) = .ok (.invokespecial ic, 3)) (d9 : decode cc (pc + 9) = .ok (.athrow, 1))
    (hRf : 6 ≤ rm.frames) (hRl : 90 ≤ rm.locals) (hRc : cells + 1 ≤ rm.cells) (hRs : slots + 6 ≤ rm.slots) (hz : mk z = (.inr E, σ)) : G Γ mk cells slots pc L [] σ (some z) := by
  obtain ⟨w1, w2, w3, w4, w5⟩ := hW
  obtain ⟨p, l, e, R, s, m, args, below, meth, c, D, dA, Hl, ν0, N0, Qr⟩ := Γ
  obtain ⟨hx, hb, hml, hown, hts, hX, hlk, htr, hR⟩ := K
  intro r hr ν H ls locs a1 a2 a3 a4 a5 a6 a7 T hTh X
  cases hr
  rw [hz]
  obtain ⟨hret, hQ⟩ := S
  subst hQ
  subst hR
  have hT : c.exceptionTable.toList.map (fun h => (h.startPc, h.endPc, h.handlerPc, h.catchType)) = hh := hT
  have hout' : ∀ x ∈ c.exceptionTable.toList, covers x (pc + 9) = false := fun x hx => hout (x.startPc, x.endPc, x.handlerPc, x.catchType) (by rw [← hT]; exact List.mem_map.mpr ⟨x, hx, rfl⟩)
  have htr9 : e.platform.stackTraces = false := (show e.platform.stackTraces = l.stackTraces by rw [X.admits.platform]).trans htr
  have Y := x_rebase X (R' := { frames := R.frames, locals := R.locals, cells := 1, slots := 6 }) (Nat.le_refl _) (Nat.le_refl _) hRc hRs
  obtain ⟨s', hs'⟩ : ∃ u, u = (T.setVm s.vm).setFrames (.invoking m args :: below) := ⟨_, rfl⟩
  rw [← hs'] at Y
  have hvm : s'.vm = s.vm := by rw [hs']; rfl
  have hhp : s'.heap = H := by rw [hs']; exact hTh
  have hW0 : s.WarmedH s'.vm := by rw [hvm]; exact State.WarmedH.refl s
  have hX' := hX.warm hW0
  have hH : ∀ q : Nat, q < Hl.size → s'.heap[q]? = Hl[q]? := fun q hq => by rw [hhp]; exact a4.2.1 q hq (Nat.not_le.mpr hq)
  have hat : ∀ w ∈ Bundle.ownAtoms own ic E nms, w.before args s' = true := fun w hw => by
    rcases w5 w hw with h | h | h | h
    · exact TB_at hW0 h (hts _ h)
    · rcases List.mem_cons.mp h with rfl | h
      · exact hX'.2.1.isRef hH
      · rcases List.mem_cons.mp h with rfl | h
        · exact hX'.2.2.1.isRef hH
        · rcases List.mem_cons.mp h with rfl | h
          · exact hX'.2.1.lays hH
          · rcases List.mem_cons.mp h with rfl | h
            · exact hX'.2.2.1.lays hH
            · cases h
    · obtain ⟨q, hq, rfl⟩ := List.mem_map.mp h
      exact va_Nw.use rfl (hX'.2.2.2.2.2.1 q hq)
    · obtain ⟨q, hq, rfl⟩ := List.mem_map.mp h
      exact va_Nw.use rfl (hX'.2.2.2.2.2.2.1 q hq)
  obtain ⟨sa, hstr⟩ := hX'.2.2.2.1 _ w4
  have hown' : s'.vm.findClass own = some m.cls := by rw [hvm]; exact hown
  have hins : (Cond.instantiable E 6).before args s' = true := hat _ (by simp [Bundle.ownAtoms])
  obtain ⟨vm₁, cX, kX, hfX, hkX, -, -, X₁, st1⟩ := Y.newCold hx (own := own) (C := E) (index := ik) (n := 6) hown' (TB_at hW0 w2 (hts _ w2)) hins (TB_at hW0 w3 (hts _ w3)) (g := F0 m pc ls []) rfl (by rw [hb]; exact d0) (Nat.le_refl _) (Nat.le_refl _)
  generalize hT1 : (T.setVm vm₁).pushCell { cls := cX, slots := kX.instanceTypes.map defaultValue, vm := .none } = T1 at X₁ st1
  have hcellA : T1.heap[T.heap.size]? = some (freshCell cX kX) := by rw [← hT1]; exact State.heap_pushCell_size _ _
  have d3' : decode c.code (pc + 3) = .ok (.dup, 1) := by rw [hb]; exact d3
  have d4' : decode c.code (pc + 4) = .ok (.ldc is, 2) := by rw [hb]; exact d4
  have hnm : ∀ n ∈ nms, Bundle.fit n = true := by decide +kernel
  obtain ⟨U, hsteps, hrun, hend, hWU, hsame, ce, hce, hO⟩ := X₁.ctorThrowS hx htr9 (own := own) (cls := E) (names := nms) (ic := ic) hown' w1 hnm hat (fun x hx => nomatch hx) hfX hkX hcellA (by rw [hhp, hTh]; exact Nat.le_refl _) (msg := .ref sa) rfl
    (g := { method := m, pc := pc + 6, locals := ls, stack := .ref sa :: .ref T.heap.size :: .ref T.heap.size :: [], locked := none }) rfl a7.1 rfl rfl (rest := []) rfl
    (by rw [hb]; exact d6) (by rw [hb]; exact d9) hout' (by show 2 + 3 < R.frames; omega) (by
      have h9 : 2 * (F0 m (pc + 6) ls []).monitorRoom + 0 ≤ 8 := lv_room (m := m) (pc := pc + 6) (ls := ls) (rest := []) (st := []) (by decide)
      have h8 : 2 * (F0 m (pc + 6) ls []).monitorRoom + 1 + 81 ≤ R.locals := by omega
      exact h8) hlk
  obtain ⟨e1, e2, e3, e4, e5, e6⟩ := hsame
  have hsz : H.size ≤ U.heap.size := by rw [← hhp]; exact e2
  have hkeep : ∀ q : Nat, q < H.size → U.heap[q]? = H[q]? := by
    intro q hq
    have hq' : q < s'.heap.size := by rw [hhp]; exact hq
    obtain ⟨c9, f1, f2, f3, f4⟩ := e6 q _ (Array.getElem?_eq_getElem hq')
    have hs9 : c9.slots = (s'.heap[q]).slots := Array.ext_getElem? fun i => f4 i (fun h => nomatch h)
    have h9 : c9 = s'.heap[q] := by
      rw [hs9] at f2
      exact f2
    have f5 : U.heap[q]? = some c9 := f1
    rw [f5, h9, ← Array.getElem?_eq_getElem hq', hhp]
  have hWs : s.WarmedH U.vm := State.WarmedH.trans hW0 hWU
  have hcl : s.vm.findClass E = some ce.cls := by
    have h9 := hO.cls
    rw [hvm] at h9
    exact h9
  have hall : s.sameButNew ({ U with vm := s.vm } : State) locs R.cells R.slots := by
    subst hs'
    rw [State.setFrames_setFrames] at e1
    have h2 : (T.setVm s.vm).sameButNew ({ U with vm := s.vm } : State) [] (0 + 1) (0 + 6) := ⟨e1, e2, e3, e4, e5, e6⟩
    have h3 := X.same.trans h2
    rw [List.append_nil] at h3
    exact h3.mono hRc hRs
  refine ⟨U, ?_, .threw T.heap.size, hrun, hend, ν, locs, a1, a2, ⟨a3.1.kept (fun k q hk => hkeep _ (a3.1 k q hk).lt), a3.2⟩, ⟨Nat.le_trans a4.1 hsz, fun q h1 h2 => (hkeep q (Nat.lt_of_lt_of_le h1 a4.1)).trans (a4.2.1 q h1 h2), a4.2.2⟩, hWs, hall, Or.inr ⟨E, T.heap.size, ce, rfl, rfl, hce, hO.vm, hcl⟩⟩
  refine st1 _ ?_
  show Steps p.tables e below (T1.setTop { method := m, pc := pc + 3, locals := ls, stack := .ref T.heap.size :: [], locked := none }) _
  jvm_step X₁.here [X₁.here.top, hx, d3', Value.category]
  exact X₁.ldcString hx (own := own) (text := text) (index := is) (a := sa) hown' hstr.1 hstr.2
    (g := { method := m, pc := pc + 4, locals := ls, stack := .ref T.heap.size :: .ref T.heap.size :: [], locked := none }) rfl d4' _ hsteps
end GT2
end
