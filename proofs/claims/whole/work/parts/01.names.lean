-- ===== PART A: goes FIRST, ahead of the names: the tables' words, and 'selects' of the private methods out of them =====
/-- a private method of a class that the tables say can be made, by its rows of tables_1 -/
def lw_okq (q : MethodName × Nat) : Prop := (q.1.cls ≠ "java/lang/invoke/MethodHandle" ∧ q.1.cls ≠ "java/lang/invoke/VarHandle") ∧ Cond.instantiable q.1.cls q.2 ∈ tables_1 ∧ Cond.privateMethod q.1 ∈ tables_1 ∧ Cond.instanceMethod q.1 ∈ tables_1
theorem lw_p0 : lw_okq (⟨"TapirGroup", "groupView", "()I"⟩, 4) := ⟨⟨by decide +kernel, by decide +kernel⟩, List.mem_of_getElem? (i := 17) (by decide +kernel), List.mem_of_getElem? (i := 161) (by decide +kernel), List.mem_of_getElem? (i := 162) (by decide +kernel)⟩
theorem lw_p1 : lw_okq (⟨"java/lang/Throwable", "fillInStackTrace", "(I)Ljava/lang/Throwable;"⟩, 6) := ⟨⟨by decide +kernel, by decide +kernel⟩, List.mem_of_getElem? (i := 216) (by decide +kernel), List.mem_of_getElem? (i := 214) (by decide +kernel), List.mem_of_getElem? (i := 215) (by decide +kernel)⟩
theorem lw_p2 : lw_okq (⟨"TapirGroup", "serves", "(I)Z"⟩, 4) := ⟨⟨by decide +kernel, by decide +kernel⟩, List.mem_of_getElem? (i := 17) (by decide +kernel), List.mem_of_getElem? (i := 325) (by decide +kernel), List.mem_of_getElem? (i := 326) (by decide +kernel)⟩
theorem lw_p3 : lw_okq (⟨"TapirGroup", "check", "(LTapirGroup$Transaction;LTapirGroup$Replica;)I"⟩, 4) := ⟨⟨by decide +kernel, by decide +kernel⟩, List.mem_of_getElem? (i := 17) (by decide +kernel), List.mem_of_getElem? (i := 413) (by decide +kernel), List.mem_of_getElem? (i := 414) (by decide +kernel)⟩
theorem lw_p4 : lw_okq (⟨"TapirGroup", "readsWhatIsPrepared", "(LTapirGroup$Transaction;LTapirGroup$Replica;)Z"⟩, 4) := ⟨⟨by decide +kernel, by decide +kernel⟩, List.mem_of_getElem? (i := 17) (by decide +kernel), List.mem_of_getElem? (i := 422) (by decide +kernel), List.mem_of_getElem? (i := 423) (by decide +kernel)⟩
theorem lw_p5 : lw_okq (⟨"TapirGroup", "writesWhatIsReadLater", "(LTapirGroup$Transaction;LTapirGroup$Replica;)Z"⟩, 4) := ⟨⟨by decide +kernel, by decide +kernel⟩, List.mem_of_getElem? (i := 17) (by decide +kernel), List.mem_of_getElem? (i := 444) (by decide +kernel), List.mem_of_getElem? (i := 445) (by decide +kernel)⟩
theorem lw_p6 : lw_okq (⟨"TapirGroup", "upCount", "()I"⟩, 4) := ⟨⟨by decide +kernel, by decide +kernel⟩, List.mem_of_getElem? (i := 17) (by decide +kernel), List.mem_of_getElem? (i := 533) (by decide +kernel), List.mem_of_getElem? (i := 534) (by decide +kernel)⟩
theorem lw_p7 : lw_okq (⟨"TapirGroup", "newestViewUp", "()I"⟩, 4) := ⟨⟨by decide +kernel, by decide +kernel⟩, List.mem_of_getElem? (i := 17) (by decide +kernel), List.mem_of_getElem? (i := 538) (by decide +kernel), List.mem_of_getElem? (i := 539) (by decide +kernel)⟩
theorem lw_p8 : lw_okq (⟨"TapirGroup", "mergeRecords", "(II)V"⟩, 4) := ⟨⟨by decide +kernel, by decide +kernel⟩, List.mem_of_getElem? (i := 17) (by decide +kernel), List.mem_of_getElem? (i := 542) (by decide +kernel), List.mem_of_getElem? (i := 543) (by decide +kernel)⟩
theorem lw_p9 : lw_okq (⟨"TapirGroup", "someUpHas", "(II)Z"⟩, 4) := ⟨⟨by decide +kernel, by decide +kernel⟩, List.mem_of_getElem? (i := 17) (by decide +kernel), List.mem_of_getElem? (i := 546) (by decide +kernel), List.mem_of_getElem? (i := 547) (by decide +kernel)⟩
theorem lw_p10 : lw_okq (⟨"TapirGroup", "markAtAllUp", "(III)V"⟩, 4) := ⟨⟨by decide +kernel, by decide +kernel⟩, List.mem_of_getElem? (i := 17) (by decide +kernel), List.mem_of_getElem? (i := 550) (by decide +kernel), List.mem_of_getElem? (i := 551) (by decide +kernel)⟩
theorem lw_p11 : lw_okq (⟨"TapirGroup", "someUpKnows", "(I)Z"⟩, 4) := ⟨⟨by decide +kernel, by decide +kernel⟩, List.mem_of_getElem? (i := 17) (by decide +kernel), List.mem_of_getElem? (i := 554) (by decide +kernel), List.mem_of_getElem? (i := 555) (by decide +kernel)⟩
theorem lw_p12 : lw_okq (⟨"TapirGroup", "mergedResult", "(II)I"⟩, 4) := ⟨⟨by decide +kernel, by decide +kernel⟩, List.mem_of_getElem? (i := 17) (by decide +kernel), List.mem_of_getElem? (i := 558) (by decide +kernel), List.mem_of_getElem? (i := 559) (by decide +kernel)⟩
theorem lw_p13 : lw_okq (⟨"TapirGroup", "upCountWith", "(II)I"⟩, 4) := ⟨⟨by decide +kernel, by decide +kernel⟩, List.mem_of_getElem? (i := 17) (by decide +kernel), List.mem_of_getElem? (i := 562) (by decide +kernel), List.mem_of_getElem? (i := 563) (by decide +kernel)⟩
theorem lw_p14 : lw_okq (⟨"TapirGroup", "mergeKey", "(I)V"⟩, 4) := ⟨⟨by decide +kernel, by decide +kernel⟩, List.mem_of_getElem? (i := 17) (by decide +kernel), List.mem_of_getElem? (i := 566) (by decide +kernel), List.mem_of_getElem? (i := 567) (by decide +kernel)⟩
theorem lw_p15 : lw_okq (⟨"TapirGroupModel", "says", "(I)Z"⟩, 25) := ⟨⟨by decide +kernel, by decide +kernel⟩, List.mem_of_getElem? (i := 570) (by decide +kernel), List.mem_of_getElem? (i := 667) (by decide +kernel), List.mem_of_getElem? (i := 668) (by decide +kernel)⟩
def lw_privs_1 : List (MethodName × Nat) := [(⟨"TapirGroup", "groupView", "()I"⟩, 4), (⟨"java/lang/Throwable", "fillInStackTrace", "(I)Ljava/lang/Throwable;"⟩, 6), (⟨"TapirGroup", "serves", "(I)Z"⟩, 4), (⟨"TapirGroup", "check", "(LTapirGroup$Transaction;LTapirGroup$Replica;)I"⟩, 4), (⟨"TapirGroup", "readsWhatIsPrepared", "(LTapirGroup$Transaction;LTapirGroup$Replica;)Z"⟩, 4), (⟨"TapirGroup", "writesWhatIsReadLater", "(LTapirGroup$Transaction;LTapirGroup$Replica;)Z"⟩, 4), (⟨"TapirGroup", "upCount", "()I"⟩, 4), (⟨"TapirGroup", "newestViewUp", "()I"⟩, 4), (⟨"TapirGroup", "mergeRecords", "(II)V"⟩, 4), (⟨"TapirGroup", "someUpHas", "(II)Z"⟩, 4), (⟨"TapirGroup", "markAtAllUp", "(III)V"⟩, 4), (⟨"TapirGroup", "someUpKnows", "(I)Z"⟩, 4), (⟨"TapirGroup", "mergedResult", "(II)I"⟩, 4), (⟨"TapirGroup", "upCountWith", "(II)I"⟩, 4), (⟨"TapirGroup", "mergeKey", "(I)V"⟩, 4), (⟨"TapirGroupModel", "says", "(I)Z"⟩, 25)]
theorem lw_r1 : ∀ q ∈ lw_privs_1, lw_okq q := List.forall_mem_cons.mpr ⟨lw_p0, List.forall_mem_cons.mpr ⟨lw_p1, List.forall_mem_cons.mpr ⟨lw_p2, List.forall_mem_cons.mpr ⟨lw_p3, List.forall_mem_cons.mpr ⟨lw_p4, List.forall_mem_cons.mpr ⟨lw_p5, List.forall_mem_cons.mpr ⟨lw_p6, List.forall_mem_cons.mpr ⟨lw_p7, List.forall_mem_cons.mpr ⟨lw_p8, List.forall_mem_cons.mpr ⟨lw_p9, List.forall_mem_cons.mpr ⟨lw_p10, List.forall_mem_cons.mpr ⟨lw_p11, List.forall_mem_cons.mpr ⟨lw_p12, List.forall_mem_cons.mpr ⟨lw_p13, List.forall_mem_cons.mpr ⟨lw_p14, List.forall_mem_cons.mpr ⟨lw_p15, fun _ h => absurd h List.not_mem_nil⟩⟩⟩⟩⟩⟩⟩⟩⟩⟩⟩⟩⟩⟩⟩⟩
theorem lw_p16 : lw_okq (⟨"TapirGroupModel", "forget", "(I)V"⟩, 25) := ⟨⟨by decide +kernel, by decide +kernel⟩, List.mem_of_getElem? (i := 570) (by decide +kernel), List.mem_of_getElem? (i := 671) (by decide +kernel), List.mem_of_getElem? (i := 672) (by decide +kernel)⟩
theorem lw_p17 : lw_okq (⟨"TapirGroupModel", "stateOf", "(I)I"⟩, 25) := ⟨⟨by decide +kernel, by decide +kernel⟩, List.mem_of_getElem? (i := 570) (by decide +kernel), List.mem_of_getElem? (i := 685) (by decide +kernel), List.mem_of_getElem? (i := 686) (by decide +kernel)⟩
theorem lw_p18 : lw_okq (⟨"TapirGroupModel", "placeOf", "(IIZ)I"⟩, 25) := ⟨⟨by decide +kernel, by decide +kernel⟩, List.mem_of_getElem? (i := 570) (by decide +kernel), List.mem_of_getElem? (i := 689) (by decide +kernel), List.mem_of_getElem? (i := 690) (by decide +kernel)⟩
theorem lw_p19 : lw_okq (⟨"TapirGroupModel", "serves", "(I)Z"⟩, 25) := ⟨⟨by decide +kernel, by decide +kernel⟩, List.mem_of_getElem? (i := 570) (by decide +kernel), List.mem_of_getElem? (i := 693) (by decide +kernel), List.mem_of_getElem? (i := 694) (by decide +kernel)⟩
theorem lw_p20 : lw_okq (⟨"TapirGroupModel", "groupView", "()I"⟩, 25) := ⟨⟨by decide +kernel, by decide +kernel⟩, List.mem_of_getElem? (i := 570) (by decide +kernel), List.mem_of_getElem? (i := 697) (by decide +kernel), List.mem_of_getElem? (i := 698) (by decide +kernel)⟩
theorem lw_p21 : lw_okq (⟨"TapirGroupModel", "check", "(II)I"⟩, 25) := ⟨⟨by decide +kernel, by decide +kernel⟩, List.mem_of_getElem? (i := 570) (by decide +kernel), List.mem_of_getElem? (i := 714) (by decide +kernel), List.mem_of_getElem? (i := 715) (by decide +kernel)⟩
theorem lw_p22 : lw_okq (⟨"TapirGroupModel", "isWrittenByAnother", "(III)Z"⟩, 25) := ⟨⟨by decide +kernel, by decide +kernel⟩, List.mem_of_getElem? (i := 570) (by decide +kernel), List.mem_of_getElem? (i := 718) (by decide +kernel), List.mem_of_getElem? (i := 719) (by decide +kernel)⟩
theorem lw_p23 : lw_okq (⟨"TapirGroupModel", "isPrepared", "(II)Z"⟩, 25) := ⟨⟨by decide +kernel, by decide +kernel⟩, List.mem_of_getElem? (i := 570) (by decide +kernel), List.mem_of_getElem? (i := 722) (by decide +kernel), List.mem_of_getElem? (i := 723) (by decide +kernel)⟩
theorem lw_p24 : lw_okq (⟨"TapirGroupModel", "isReadByLater", "(III)Z"⟩, 25) := ⟨⟨by decide +kernel, by decide +kernel⟩, List.mem_of_getElem? (i := 570) (by decide +kernel), List.mem_of_getElem? (i := 726) (by decide +kernel), List.mem_of_getElem? (i := 727) (by decide +kernel)⟩
theorem lw_p25 : lw_okq (⟨"TapirGroupModel", "count", "(II)I"⟩, 25) := ⟨⟨by decide +kernel, by decide +kernel⟩, List.mem_of_getElem? (i := 570) (by decide +kernel), List.mem_of_getElem? (i := 734) (by decide +kernel), List.mem_of_getElem? (i := 735) (by decide +kernel)⟩
theorem lw_p26 : lw_okq (⟨"TapirGroupModel", "byRule", "(I)I"⟩, 25) := ⟨⟨by decide +kernel, by decide +kernel⟩, List.mem_of_getElem? (i := 570) (by decide +kernel), List.mem_of_getElem? (i := 738) (by decide +kernel), List.mem_of_getElem? (i := 739) (by decide +kernel)⟩
theorem lw_p27 : lw_okq (⟨"TapirGroupModel", "confirmations", "(I)I"⟩, 25) := ⟨⟨by decide +kernel, by decide +kernel⟩, List.mem_of_getElem? (i := 570) (by decide +kernel), List.mem_of_getElem? (i := 746) (by decide +kernel), List.mem_of_getElem? (i := 747) (by decide +kernel)⟩
theorem lw_p28 : lw_okq (⟨"TapirGroupModel", "make", "(III)V"⟩, 25) := ⟨⟨by decide +kernel, by decide +kernel⟩, List.mem_of_getElem? (i := 570) (by decide +kernel), List.mem_of_getElem? (i := 754) (by decide +kernel), List.mem_of_getElem? (i := 755) (by decide +kernel)⟩
theorem lw_p29 : lw_okq (⟨"TapirGroupModel", "apply", "(II)V"⟩, 25) := ⟨⟨by decide +kernel, by decide +kernel⟩, List.mem_of_getElem? (i := 570) (by decide +kernel), List.mem_of_getElem? (i := 758) (by decide +kernel), List.mem_of_getElem? (i := 759) (by decide +kernel)⟩
theorem lw_p30 : lw_okq (⟨"TapirGroupModel", "recordsOf", "(II)I"⟩, 25) := ⟨⟨by decide +kernel, by decide +kernel⟩, List.mem_of_getElem? (i := 570) (by decide +kernel), List.mem_of_getElem? (i := 774) (by decide +kernel), List.mem_of_getElem? (i := 775) (by decide +kernel)⟩
theorem lw_p31 : lw_okq (⟨"TapirGroupModel", "merge", "(II)V"⟩, 25) := ⟨⟨by decide +kernel, by decide +kernel⟩, List.mem_of_getElem? (i := 570) (by decide +kernel), List.mem_of_getElem? (i := 778) (by decide +kernel), List.mem_of_getElem? (i := 779) (by decide +kernel)⟩
def lw_privs_2 : List (MethodName × Nat) := [(⟨"TapirGroupModel", "forget", "(I)V"⟩, 25), (⟨"TapirGroupModel", "stateOf", "(I)I"⟩, 25), (⟨"TapirGroupModel", "placeOf", "(IIZ)I"⟩, 25), (⟨"TapirGroupModel", "serves", "(I)Z"⟩, 25), (⟨"TapirGroupModel", "groupView", "()I"⟩, 25), (⟨"TapirGroupModel", "check", "(II)I"⟩, 25), (⟨"TapirGroupModel", "isWrittenByAnother", "(III)Z"⟩, 25), (⟨"TapirGroupModel", "isPrepared", "(II)Z"⟩, 25), (⟨"TapirGroupModel", "isReadByLater", "(III)Z"⟩, 25), (⟨"TapirGroupModel", "count", "(II)I"⟩, 25), (⟨"TapirGroupModel", "byRule", "(I)I"⟩, 25), (⟨"TapirGroupModel", "confirmations", "(I)I"⟩, 25), (⟨"TapirGroupModel", "make", "(III)V"⟩, 25), (⟨"TapirGroupModel", "apply", "(II)V"⟩, 25), (⟨"TapirGroupModel", "recordsOf", "(II)I"⟩, 25), (⟨"TapirGroupModel", "merge", "(II)V"⟩, 25)]
theorem lw_r2 : ∀ q ∈ lw_privs_2, lw_okq q := List.forall_mem_cons.mpr ⟨lw_p16, List.forall_mem_cons.mpr ⟨lw_p17, List.forall_mem_cons.mpr ⟨lw_p18, List.forall_mem_cons.mpr ⟨lw_p19, List.forall_mem_cons.mpr ⟨lw_p20, List.forall_mem_cons.mpr ⟨lw_p21, List.forall_mem_cons.mpr ⟨lw_p22, List.forall_mem_cons.mpr ⟨lw_p23, List.forall_mem_cons.mpr ⟨lw_p24, List.forall_mem_cons.mpr ⟨lw_p25, List.forall_mem_cons.mpr ⟨lw_p26, List.forall_mem_cons.mpr ⟨lw_p27, List.forall_mem_cons.mpr ⟨lw_p28, List.forall_mem_cons.mpr ⟨lw_p29, List.forall_mem_cons.mpr ⟨lw_p30, List.forall_mem_cons.mpr ⟨lw_p31, fun _ h => absurd h List.not_mem_nil⟩⟩⟩⟩⟩⟩⟩⟩⟩⟩⟩⟩⟩⟩⟩⟩
theorem lw_p32 : lw_okq (⟨"TapirGroupModel", "isAppliedAtSome", "(I)Z"⟩, 25) := ⟨⟨by decide +kernel, by decide +kernel⟩, List.mem_of_getElem? (i := 570) (by decide +kernel), List.mem_of_getElem? (i := 782) (by decide +kernel), List.mem_of_getElem? (i := 783) (by decide +kernel)⟩
theorem lw_p33 : lw_okq (⟨"TapirGroupModel", "isDroppedAtSome", "(I)Z"⟩, 25) := ⟨⟨by decide +kernel, by decide +kernel⟩, List.mem_of_getElem? (i := 570) (by decide +kernel), List.mem_of_getElem? (i := 786) (by decide +kernel), List.mem_of_getElem? (i := 787) (by decide +kernel)⟩
theorem lw_p34 : lw_okq (⟨"TapirGroupModel", "finalAtSome", "(I)I"⟩, 25) := ⟨⟨by decide +kernel, by decide +kernel⟩, List.mem_of_getElem? (i := 570) (by decide +kernel), List.mem_of_getElem? (i := 790) (by decide +kernel), List.mem_of_getElem? (i := 791) (by decide +kernel)⟩
theorem lw_p35 : lw_okq (⟨"TapirGroupModel", "viewUp", "()I"⟩, 25) := ⟨⟨by decide +kernel, by decide +kernel⟩, List.mem_of_getElem? (i := 570) (by decide +kernel), List.mem_of_getElem? (i := 794) (by decide +kernel), List.mem_of_getElem? (i := 795) (by decide +kernel)⟩
theorem lw_p36 : lw_okq (⟨"TapirGroupModel", "settle", "(II)V"⟩, 25) := ⟨⟨by decide +kernel, by decide +kernel⟩, List.mem_of_getElem? (i := 570) (by decide +kernel), List.mem_of_getElem? (i := 798) (by decide +kernel), List.mem_of_getElem? (i := 799) (by decide +kernel)⟩
theorem lw_p37 : lw_okq (⟨"TapirGroupModel", "mergeKey", "(I)V"⟩, 25) := ⟨⟨by decide +kernel, by decide +kernel⟩, List.mem_of_getElem? (i := 570) (by decide +kernel), List.mem_of_getElem? (i := 802) (by decide +kernel), List.mem_of_getElem? (i := 803) (by decide +kernel)⟩
theorem lw_p38 : lw_okq (⟨"TapirGroupModel", "firstUp", "()I"⟩, 25) := ⟨⟨by decide +kernel, by decide +kernel⟩, List.mem_of_getElem? (i := 570) (by decide +kernel), List.mem_of_getElem? (i := 806) (by decide +kernel), List.mem_of_getElem? (i := 807) (by decide +kernel)⟩
def lw_privs_3 : List (MethodName × Nat) := [(⟨"TapirGroupModel", "isAppliedAtSome", "(I)Z"⟩, 25), (⟨"TapirGroupModel", "isDroppedAtSome", "(I)Z"⟩, 25), (⟨"TapirGroupModel", "finalAtSome", "(I)I"⟩, 25), (⟨"TapirGroupModel", "viewUp", "()I"⟩, 25), (⟨"TapirGroupModel", "settle", "(II)V"⟩, 25), (⟨"TapirGroupModel", "mergeKey", "(I)V"⟩, 25), (⟨"TapirGroupModel", "firstUp", "()I"⟩, 25)]
theorem lw_r3 : ∀ q ∈ lw_privs_3, lw_okq q := List.forall_mem_cons.mpr ⟨lw_p32, List.forall_mem_cons.mpr ⟨lw_p33, List.forall_mem_cons.mpr ⟨lw_p34, List.forall_mem_cons.mpr ⟨lw_p35, List.forall_mem_cons.mpr ⟨lw_p36, List.forall_mem_cons.mpr ⟨lw_p37, List.forall_mem_cons.mpr ⟨lw_p38, fun _ h => absurd h List.not_mem_nil⟩⟩⟩⟩⟩⟩⟩
def lw_privs : List (MethodName × Nat) := lw_privs_1 ++ (lw_privs_2 ++ (lw_privs_3))
def lw_tbl : List Cond := k2_sels lw_privs ++ tables_1
theorem lw_privs_ok : ∀ q ∈ lw_privs, lw_okq q := by
  show ∀ q ∈ lw_privs_1 ++ (lw_privs_2 ++ (lw_privs_3)), lw_okq q
  exact List.forall_mem_append.mpr ⟨lw_r1, List.forall_mem_append.mpr ⟨lw_r2, lw_r3⟩⟩
-- the names: classes with their fields, kinds and lengths of the named cells
def R0 : String := "TapirGroup$Client"
def T0 : u_T := fun k => match k with
  | 0 => ("TapirGroup$Client", "transaction", "LTapirGroup$Transaction;", false)
  | 1 => ("TapirGroup$Client", "state", "I", false)
  | 2 => ("TapirGroup$Client", "latestTime", "I", false)
  | 3 => ("TapirGroup$Client", "slowResult", "I", false)
  | 4 => ("TapirGroup$Client", "confirmedBy", "I", false)
  | _ => ("TapirGroup$Client", "answers", "[I", true)
def ty0 : Nat → FieldType := fun k => match k with
  | 0 => .object "TapirGroup$Transaction"
  | 1 => .int
  | 2 => .int
  | 3 => .int
  | 4 => .int
  | _ => .array .int
def R1 : String := "TapirGroup$Replica"
def T1 : u_T := fun k => match k with
  | 0 => ("TapirGroup$Replica", "up", "Z", false)
  | 1 => ("TapirGroup$Replica", "view", "I", false)
  | 2 => ("TapirGroup$Replica", "version", "[I", true)
  | 3 => ("TapirGroup$Replica", "value", "[I", true)
  | 4 => ("TapirGroup$Replica", "lastRead", "[I", true)
  | _ => ("TapirGroup$Replica", "records", "[I", true)
def ty1 : Nat → FieldType := fun k => match k with
  | 0 => .boolean
  | 1 => .int
  | 2 => .array .int
  | 3 => .array .int
  | 4 => .array .int
  | _ => .array .int
def R2 : String := "TapirGroup$Transaction"
def T2 : u_T := fun k => match k with
  | 0 => ("TapirGroup$Transaction", "number", "I", true)
  | 1 => ("TapirGroup$Transaction", "timestamp", "I", false)
  | 2 => ("TapirGroup$Transaction", "readKeys", "I", false)
  | 3 => ("TapirGroup$Transaction", "writtenKeys", "I", false)
  | 4 => ("TapirGroup$Transaction", "seenVersion", "[I", true)
  | 5 => ("TapirGroup$Transaction", "seenValue", "[I", true)
  | _ => ("TapirGroup$Transaction", "written", "[I", true)
def ty2 : Nat → FieldType := fun k => match k with
  | 0 => .int
  | 1 => .int
  | 2 => .int
  | 3 => .int
  | 4 => .array .int
  | 5 => .array .int
  | _ => .array .int
def R3 : String := "TapirGroup"
def T3 : u_T := fun k => match k with
  | 0 => ("TapirGroup", "replicas", "[LTapirGroup$Replica;", true)
  | 1 => ("TapirGroup", "clients", "[LTapirGroup$Client;", true)
  | 2 => ("TapirGroup", "transactions", "[LTapirGroup$Transaction;", true)
  | _ => ("TapirGroup", "begun", "I", false)
def ty3 : Nat → FieldType := fun k => match k with
  | 0 => .array (.object "TapirGroup$Replica")
  | 1 => .array (.object "TapirGroup$Client")
  | 2 => .array (.object "TapirGroup$Transaction")
  | _ => .int
def R4 : String := "TapirGroupModel"
def T4 : u_T := fun k => match k with
  | 0 => ("TapirGroupModel", "thrown", "I", false)
  | 1 => ("TapirGroupModel", "many", "I", false)
  | 2 => ("TapirGroupModel", "stamp", "[I", true)
  | 3 => ("TapirGroupModel", "reads", "[I", true)
  | 4 => ("TapirGroupModel", "readKey", "[I", true)
  | 5 => ("TapirGroupModel", "readVersion", "[I", true)
  | 6 => ("TapirGroupModel", "readValue", "[I", true)
  | 7 => ("TapirGroupModel", "writes", "[I", true)
  | 8 => ("TapirGroupModel", "writeKey", "[I", true)
  | 9 => ("TapirGroupModel", "writeValue", "[I", true)
  | 10 => ("TapirGroupModel", "states", "[I", true)
  | 11 => ("TapirGroupModel", "current", "[I", true)
  | 12 => ("TapirGroupModel", "slow", "[I", true)
  | 13 => ("TapirGroupModel", "latestTime", "[I", true)
  | 14 => ("TapirGroupModel", "answers", "[I", true)
  | 15 => ("TapirGroupModel", "confirmed", "[Z", true)
  | 16 => ("TapirGroupModel", "up", "[Z", true)
  | 17 => ("TapirGroupModel", "views", "[I", true)
  | 18 => ("TapirGroupModel", "version", "[I", true)
  | 19 => ("TapirGroupModel", "value", "[I", true)
  | 20 => ("TapirGroupModel", "readBy", "[I", true)
  | 21 => ("TapirGroupModel", "result", "[I", true)
  | 22 => ("TapirGroupModel", "isFinal", "[Z", true)
  | 23 => ("TapirGroupModel", "applied", "[Z", true)
  | _ => ("TapirGroupModel", "dropped", "[Z", true)
def ty4 : Nat → FieldType := fun k => match k with
  | 0 => .int
  | 1 => .int
  | 2 => .array .int
  | 3 => .array .int
  | 4 => .array .int
  | 5 => .array .int
  | 6 => .array .int
  | 7 => .array .int
  | 8 => .array .int
  | 9 => .array .int
  | 10 => .array .int
  | 11 => .array .int
  | 12 => .array .int
  | 13 => .array .int
  | 14 => .array .int
  | 15 => .array .boolean
  | 16 => .array .boolean
  | 17 => .array .int
  | 18 => .array .int
  | 19 => .array .int
  | 20 => .array .int
  | 21 => .array .int
  | 22 => .array .boolean
  | 23 => .array .boolean
  | _ => .array .boolean
abbrev vwCl : List vw_C := [(R0, T0, 6), (R1, T1, 6), (R2, T2, 7), (R3, T3, 4), (R4, T4, 25)]
def nf (ci : Nat) : Nat := [6, 6, 7, 4, 25].getD ci 0
def rfL : List (List Bool) := [[true, false, false, false, false, true], [false, false, true, true, true, true], [false, false, false, false, true, true, true], [true, true, true, false], [false, false, true, true, true, true, true, true, true, true, true, true, true, true, true, true, true, true, true, true, true, true, true, true, true]]
def rf (ci j : Nat) : Bool := (rfL.getD ci []).getD j false
def kdL : List Nat := [3, 13, 14, 15, 1, 10, 10, 10, 10, 1, 10, 10, 10, 10, 1, 10, 10, 10, 10, 0, 10, 0, 10, 0, 10, 0, 10, 4, 10, 10, 10, 10, 10, 10, 10, 10, 10, 10, 10, 10, 10, 11, 11, 10, 10, 10, 10, 10, 11, 11, 11, 12]
def lnL : List Nat := [0, 3, 4, 61, 0, 6, 6, 6, 61, 0, 6, 6, 6, 61, 0, 6, 6, 6, 61, 0, 3, 0, 3, 0, 3, 0, 3, 0, 61, 61, 244, 244, 244, 61, 244, 244, 4, 4, 4, 4, 12, 12, 3, 3, 18, 18, 18, 183, 183, 183, 183, 1]
def kd (a : Nat) : Nat := if a < 52 then kdL.getD a 99 else if (a - 52) % 4 = 0 then 2 else 10
def ln (a : Nat) : Nat := if a < 52 then lnL.getD a 0 else 6
def tyL (dA : Nat → ClassId) : List (ClassId × FieldType) := [(dA 10, .int), (dA 11, .boolean), (dA 12, .long), (dA 13, .object "TapirGroup$Replica"), (dA 14, .object "TapirGroup$Client"), (dA 15, .object "TapirGroup$Transaction")]
/-- the words of the tables that go with every method -/
def TB : List Cond := lw_tbl.filter goodWord
theorem TB_good : ∀ w ∈ TB, goodWord w = true := fun _ hw => (List.mem_filter.mp hw).2
theorem TB_tbl : ∀ w ∈ TB, w ∈ lw_tbl := fun _ hw => (List.mem_filter.mp hw).1
theorem tb_m {w : Cond} (i : Nat) (h : lw_tbl[i]? = some w) (hg : goodWord w = true) : w ∈ TB := List.mem_filter.mpr ⟨List.mem_of_getElem? h, hg⟩
theorem tb_all {ws : List Cond} (ps : List Nat) (h : ps.map (fun i => lw_tbl[i]?) = ws.map some) (hg : ws.all goodWord = true) : ∀ w ∈ ws, w ∈ TB := by
  intro w hw
  have h1 : some w ∈ ws.map some := List.mem_map.mpr ⟨w, hw, rfl⟩
  rw [← h] at h1
  obtain ⟨i, -, hi⟩ := List.mem_map.mp h1
  exact tb_m i hi (List.all_eq_true.mp hg w hw)
theorem uw0 : ∀ w ∈ u_ws R0 T0 6, w ∈ TB := tb_all [121, 123, 125, 127, 129, 131] (by decide +kernel) (by decide +kernel)
theorem tyok0 : ∀ k, k < 6 → parseFieldDescriptor (T0 k).2.2.1 = some (ty0 k) := by decide +kernel
theorem nm0 : ∀ a, a < 6 → ∀ b, b < 6 → a ≠ b → (T0 a).2.1 ≠ (T0 b).2.1 := by decide +kernel
theorem df0 : ∀ j, j < 6 → defaultValue (ty0 j) = if rf 0 j = true then .null else .int 0 := by decide +kernel
theorem uw1 : ∀ w ∈ u_ws R1 T1 6, w ∈ TB := tb_all [89, 91, 93, 95, 97, 99] (by decide +kernel) (by decide +kernel)
theorem tyok1 : ∀ k, k < 6 → parseFieldDescriptor (T1 k).2.2.1 = some (ty1 k) := by decide +kernel
theorem nm1 : ∀ a, a < 6 → ∀ b, b < 6 → a ≠ b → (T1 a).2.1 ≠ (T1 b).2.1 := by decide +kernel
theorem df1 : ∀ j, j < 6 → defaultValue (ty1 j) = if rf 1 j = true then .null else .int 0 := by decide +kernel
theorem uw2 : ∀ w ∈ u_ws R2 T2 7, w ∈ TB := tb_all [321, 323, 325, 327, 329, 331, 333] (by decide +kernel) (by decide +kernel)
theorem tyok2 : ∀ k, k < 7 → parseFieldDescriptor (T2 k).2.2.1 = some (ty2 k) := by decide +kernel
theorem nm2 : ∀ a, a < 7 → ∀ b, b < 7 → a ≠ b → (T2 a).2.1 ≠ (T2 b).2.1 := by decide +kernel
theorem df2 : ∀ j, j < 7 → defaultValue (ty2 j) = if rf 2 j = true then .null else .int 0 := by decide +kernel
theorem uw3 : ∀ w ∈ u_ws R3 T3 4, w ∈ TB := tb_all [138, 140, 142, 144] (by decide +kernel) (by decide +kernel)
theorem tyok3 : ∀ k, k < 4 → parseFieldDescriptor (T3 k).2.2.1 = some (ty3 k) := by decide +kernel
theorem nm3 : ∀ a, a < 4 → ∀ b, b < 4 → a ≠ b → (T3 a).2.1 ≠ (T3 b).2.1 := by decide +kernel
theorem df3 : ∀ j, j < 4 → defaultValue (ty3 j) = if rf 3 j = true then .null else .int 0 := by decide +kernel
theorem uw4 : ∀ w ∈ u_ws R4 T4 25, w ∈ TB := tb_all [639, 641, 643, 645, 647, 649, 651, 653, 655, 657, 659, 661, 663, 665, 667, 669, 671, 673, 675, 677, 679, 681, 683, 685, 687] (by decide +kernel) (by decide +kernel)
theorem tyok4 : ∀ k, k < 25 → parseFieldDescriptor (T4 k).2.2.1 = some (ty4 k) := by decide +kernel
theorem nm4 : ∀ a, a < 25 → ∀ b, b < 25 → a ≠ b → (T4 a).2.1 ≠ (T4 b).2.1 := by decide +kernel
theorem df4 : ∀ j, j < 25 → defaultValue (ty4 j) = if rf 4 j = true then .null else .int 0 := by decide +kernel
def strs : List (String × Nat × String) := [("TapirGroup", 39, "no such client"), ("TapirGroup", 50, "it has a transaction, or there were 60"), ("TapirGroup", 66, "no such client, key or replica"), ("TapirGroup", 71, "its transaction is not running"), ("TapirGroup", 91, "the replica does not serve"), ("TapirGroup", 100, "four keys are read"), ("TapirGroup", 113, "no such client or key"), ("TapirGroup", 118, "four others are written"), ("TapirGroup", 125, "no such client or time"), ("TapirGroup", 134, "it can't be proposed, or not with this time"), ("TapirGroup", 148, "no such client or replica"), ("TapirGroup", 150, "it is not proposed"), ("TapirGroup", 172, "it is not proposed, or has too few answers"), ("TapirGroup", 186, "it is not slow"), ("TapirGroup", 207, "it is not decided"), ("TapirGroup", 218, "no such replica"), ("TapirGroup", 227, "fewer than two are up")]
def ncs : List (String × String) := [("java/lang/IllegalStateException", "java/lang/IllegalArgumentException"), ("java/lang/UnsupportedOperationException", "java/lang/IllegalArgumentException"), ("java/lang/IndexOutOfBoundsException", "java/lang/IllegalArgumentException"), ("java/lang/IllegalArgumentException", "java/lang/IllegalStateException"), ("java/lang/UnsupportedOperationException", "java/lang/IllegalStateException"), ("java/lang/IndexOutOfBoundsException", "java/lang/IllegalStateException"), ("java/lang/IllegalArgumentException", "java/lang/UnsupportedOperationException"), ("java/lang/IllegalStateException", "java/lang/UnsupportedOperationException"), ("java/lang/IndexOutOfBoundsException", "java/lang/UnsupportedOperationException"), ("java/lang/IllegalArgumentException", "java/lang/IndexOutOfBoundsException"), ("java/lang/IllegalStateException", "java/lang/IndexOutOfBoundsException"), ("java/lang/UnsupportedOperationException", "java/lang/IndexOutOfBoundsException")]
def exs : List String := ["java/lang/IllegalArgumentException", "java/lang/IllegalStateException", "java/lang/UnsupportedOperationException", "java/lang/IndexOutOfBoundsException"]
def dcl : List MethodName := [⟨"java/lang/Throwable", "<init>", "(Ljava/lang/String;)V"⟩, ⟨"java/lang/Exception", "<init>", "(Ljava/lang/String;)V"⟩, ⟨"java/lang/RuntimeException", "<init>", "(Ljava/lang/String;)V"⟩]
def aov : List String := ["TapirGroup$Replica", "TapirGroup$Client", "TapirGroup$Transaction"]
/-- where a static field lies, and what it holds: its class's statics cell in Hl -/
def ZS (n d : String) (Hl : Heap) (U : State) : Prop := ∃ (c : ClassId) (k : Class) (i : Nat) (f : Field) (a : Nat) (cell : Cell) (v : Value), U.vm.findClass "java/lang/Throwable" = some c ∧ U.fieldFound? "java/lang/Throwable" n d = some (c, k, i, f) ∧ f.isStatic = true ∧ k.init = .initialized ∧ k.statics = some a ∧ Hl[a]? = some cell ∧ cell.vm.isStatics = true ∧ cell.cls = c ∧ f.slot < cell.slots.size ∧ k.staticTypes[f.slot]? = some f.type ∧ cell.slots[f.slot]? = some v ∧ v.isRef = true
theorem ZS.moved {n d : String} {Hl : Heap} {u U : State} (hvm : u.vm.Alike U.vm) (h : ZS n d Hl u) : ZS n d Hl U := by
  obtain ⟨c, k, i, f, a, cell, v, h1, h2, h3, h4, h5, h6, h7, h8, h9, h10, h11, h12⟩ := h
  obtain ⟨k', hi', he⟩ := State.fieldFound?_setVm hvm h2
  exact ⟨c, k', i, f, a, cell, v, by rw [hvm.findClass]; exact h1, hi', h3, by rw [he]; exact h4, by rw [he]; exact h5, h6, h7, h8, h9, by rw [he]; exact h10, h11, h12⟩
theorem ZS.lays {n d : String} {Hl : Heap} {U : State} {args : Array Value} (h : ZS n d Hl U) (hH : ∀ q : Nat, q < Hl.size → U.heap[q]? = Hl[q]?) : (Cond.laysStatic "java/lang/Throwable" n d).before args U = true := by
  obtain ⟨c, k, i, f, a, cell, v, h1, h2, h3, h4, h5, h6, h7, h8, h9, h10, h11, h12⟩ := h
  show (Cond.laysStatic "java/lang/Throwable" n d).holds args U none U [] = true
  exact Cond.laysStatic_of h1 h2 h3 h5 (by rw [hH a (Array.getElem?_eq_some_iff.mp h6).1]; exact h6) h7 h8 h9 h10
theorem ZS.isRef {n d : String} {Hl : Heap} {U : State} {args : Array Value} (h : ZS n d Hl U) (hH : ∀ q : Nat, q < Hl.size → U.heap[q]? = Hl[q]?) : (Cond.isRef (.static "java/lang/Throwable" n d)).before args U = true := by
  obtain ⟨c, k, i, f, a, cell, v, h1, h2, h3, h4, h5, h6, h7, h8, h9, h10, h11, h12⟩ := h
  have h6' : U.heap[a]? = some cell := by rw [hH a (Array.getElem?_eq_some_iff.mp h6).1]; exact h6
  have he : (Term.static "java/lang/Throwable" n d).eval args U none [] U = some v := by
    simp [Term.eval, State.fieldNamed?, h2, h3, h5, h6', h7, h11]
  simp only [Cond.before, Cond.holds, Cond.value, he]
  cases v <;> simp_all [Value.isRef]
def stD : String := "[Ljava/lang/StackTraceElement;"
def liD : String := "Ljava/util/List;"
/-- what every frame knows of the launch: classes and arrays, Throwable's two statics, the texts, the classes that aren't each other's -/
def Fx (D : va_G) (dA : Nat → ClassId) (Hl : Heap) (U : State) : Prop := va_K D vwCl (tyL dA) U ∧ ZS "UNASSIGNED_STACK" stD Hl U ∧ ZS "SUPPRESSED_SENTINEL" liD Hl U ∧ (∀ q ∈ strs, ∃ a, vk_R q.1 q.2.1 q.2.2 a U) ∧ (∀ q ∈ ncs, va_Nc q.1 q.2 U) ∧ (∀ q ∈ dcl, va_Nw (.declares q) U) ∧ (∀ q ∈ exs, va_Nw (.castable q q) U) ∧ (∀ q ∈ aov, va_AO q U)
theorem Fx.warm {D : va_G} {dA : Nat → ClassId} {Hl : Heap} {s U : State} (h : Fx D dA Hl s) (hW : s.WarmedH U.vm) : Fx D dA Hl U :=
  ⟨va_K.moved hW.alike h.1, h.2.1.moved hW.alike, h.2.2.1.moved hW.alike, fun q hq => by obtain ⟨a, ha⟩ := h.2.2.2.1 q hq; exact ⟨a, vk_R.warm hW ha⟩, fun q hq => va_Nc.moved hW.alike (h.2.2.2.2.1 q hq), fun q hq => va_Nw.warmD hW (h.2.2.2.2.2.1 q hq), fun q hq => va_Nw.warmC hW (h.2.2.2.2.2.2.1 q hq), fun q hq => va_AO.moved hW.alike (h.2.2.2.2.2.2.2 q hq)⟩
theorem Fx.nc {D : va_G} {dA : Nat → ClassId} {Hl : Heap} {s : State} (h : Fx D dA Hl s) : ∀ q ∈ ncs, va_Nc q.1 q.2 s := h.2.2.2.2.1
theorem Fx.ao {D : va_G} {dA : Nat → ClassId} {Hl : Heap} {s : State} (h : Fx D dA Hl s) : ∀ q ∈ aov, va_AO q s := h.2.2.2.2.2.2.2
