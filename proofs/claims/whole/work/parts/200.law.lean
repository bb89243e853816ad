theorem mw_16 : (Jvm.Cond.classLink "TapirGroupLaw" (8 : Nat) "TapirGroup") ∈ TB := tb_m 55 (by decide +kernel) (by decide +kernel)
theorem mw_17 : (Jvm.Cond.instantiable "TapirGroup" (4 : Nat)) ∈ TB := tb_m 56 (by decide +kernel) (by decide +kernel)
theorem mw_18 : (Jvm.Cond.methodLink "TapirGroupLaw" (59 : Nat) ({ cls := "TapirGroup", name := "<init>", desc := "()V" } : Jvm.MethodName)) ∈ TB := tb_m 57 (by decide +kernel) (by decide +kernel)
theorem mw_19 : (Jvm.Cond.instanceMethod ({ cls := "TapirGroup", name := "<init>", desc := "()V" } : Jvm.MethodName)) ∈ TB := tb_m 58 (by decide +kernel) (by decide +kernel)
theorem mw_108 : (Jvm.Cond.methodLink "TapirGroupLaw" (109 : Nat) ({ cls := "TapirGroup", name := "client", desc := "(II)I" } : Jvm.MethodName)) ∈ TB := tb_m 147 (by decide +kernel) (by decide +kernel)
theorem mw_109 : (Jvm.Cond.instanceMethod ({ cls := "TapirGroup", name := "client", desc := "(II)I" } : Jvm.MethodName)) ∈ TB := tb_m 148 (by decide +kernel) (by decide +kernel)
theorem mw_110 : (Jvm.Cond.selects "TapirGroup" ({ cls := "TapirGroup", name := "client", desc := "(II)I" } : Jvm.MethodName) ({ cls := "TapirGroup", name := "client", desc := "(II)I" } : Jvm.MethodName)) ∈ TB := tb_m 149 (by decide +kernel) (by decide +kernel)
theorem mw_142 : (Jvm.Cond.methodLink "TapirGroupLaw" (113 : Nat) ({ cls := "TapirGroup", name := "at", desc := "(III)I" } : Jvm.MethodName)) ∈ TB := tb_m 181 (by decide +kernel) (by decide +kernel)
theorem mw_143 : (Jvm.Cond.instanceMethod ({ cls := "TapirGroup", name := "at", desc := "(III)I" } : Jvm.MethodName)) ∈ TB := tb_m 182 (by decide +kernel) (by decide +kernel)
theorem mw_144 : (Jvm.Cond.selects "TapirGroup" ({ cls := "TapirGroup", name := "at", desc := "(III)I" } : Jvm.MethodName) ({ cls := "TapirGroup", name := "at", desc := "(III)I" } : Jvm.MethodName)) ∈ TB := tb_m 183 (by decide +kernel) (by decide +kernel)
theorem mw_152 : (Jvm.Cond.methodLink "TapirGroupLaw" (117 : Nat) ({ cls := "TapirGroup", name := "record", desc := "(II)I" } : Jvm.MethodName)) ∈ TB := tb_m 191 (by decide +kernel) (by decide +kernel)
theorem mw_153 : (Jvm.Cond.instanceMethod ({ cls := "TapirGroup", name := "record", desc := "(II)I" } : Jvm.MethodName)) ∈ TB := tb_m 192 (by decide +kernel) (by decide +kernel)
theorem mw_154 : (Jvm.Cond.selects "TapirGroup" ({ cls := "TapirGroup", name := "record", desc := "(II)I" } : Jvm.MethodName) ({ cls := "TapirGroup", name := "record", desc := "(II)I" } : Jvm.MethodName)) ∈ TB := tb_m 193 (by decide +kernel) (by decide +kernel)
theorem mw_156 : (Jvm.Cond.methodLink "TapirGroupLaw" (121 : Nat) ({ cls := "TapirGroup", name := "state", desc := "(I)I" } : Jvm.MethodName)) ∈ TB := tb_m 195 (by decide +kernel) (by decide +kernel)
theorem mw_157 : (Jvm.Cond.instanceMethod ({ cls := "TapirGroup", name := "state", desc := "(I)I" } : Jvm.MethodName)) ∈ TB := tb_m 196 (by decide +kernel) (by decide +kernel)
theorem mw_158 : (Jvm.Cond.selects "TapirGroup" ({ cls := "TapirGroup", name := "state", desc := "(I)I" } : Jvm.MethodName) ({ cls := "TapirGroup", name := "state", desc := "(I)I" } : Jvm.MethodName)) ∈ TB := tb_m 197 (by decide +kernel) (by decide +kernel)
theorem mw_167 : (Jvm.Cond.methodLink "TapirGroupLaw" (63 : Nat) ({ cls := "TapirGroupLaw", name := "begin", desc := "(LTapirGroup;I[J)I" } : Jvm.MethodName)) ∈ TB := tb_m 206 (by decide +kernel) (by decide +kernel)
theorem mw_168 : (Jvm.Cond.static ({ cls := "TapirGroupLaw", name := "begin", desc := "(LTapirGroup;I[J)I" } : Jvm.MethodName)) ∈ TB := tb_m 207 (by decide +kernel) (by decide +kernel)
theorem mw_305 : (Jvm.Cond.methodLink "TapirGroupLaw" (72 : Nat) ({ cls := "TapirGroupLaw", name := "read", desc := "(LTapirGroup;III[J)I" } : Jvm.MethodName)) ∈ TB := tb_m 344 (by decide +kernel) (by decide +kernel)
theorem mw_306 : (Jvm.Cond.static ({ cls := "TapirGroupLaw", name := "read", desc := "(LTapirGroup;III[J)I" } : Jvm.MethodName)) ∈ TB := tb_m 345 (by decide +kernel) (by decide +kernel)
theorem mw_364 : (Jvm.Cond.methodLink "TapirGroupLaw" (76 : Nat) ({ cls := "TapirGroupLaw", name := "write", desc := "(LTapirGroup;III)I" } : Jvm.MethodName)) ∈ TB := tb_m 403 (by decide +kernel) (by decide +kernel)
theorem mw_365 : (Jvm.Cond.static ({ cls := "TapirGroupLaw", name := "write", desc := "(LTapirGroup;III)I" } : Jvm.MethodName)) ∈ TB := tb_m 404 (by decide +kernel) (by decide +kernel)
theorem mw_377 : (Jvm.Cond.methodLink "TapirGroupLaw" (80 : Nat) ({ cls := "TapirGroupLaw", name := "propose", desc := "(LTapirGroup;II)I" } : Jvm.MethodName)) ∈ TB := tb_m 416 (by decide +kernel) (by decide +kernel)
theorem mw_378 : (Jvm.Cond.static ({ cls := "TapirGroupLaw", name := "propose", desc := "(LTapirGroup;II)I" } : Jvm.MethodName)) ∈ TB := tb_m 417 (by decide +kernel) (by decide +kernel)
theorem mw_399 : (Jvm.Cond.methodLink "TapirGroupLaw" (84 : Nat) ({ cls := "TapirGroupLaw", name := "prepare", desc := "(LTapirGroup;II[J)I" } : Jvm.MethodName)) ∈ TB := tb_m 438 (by decide +kernel) (by decide +kernel)
theorem mw_400 : (Jvm.Cond.static ({ cls := "TapirGroupLaw", name := "prepare", desc := "(LTapirGroup;II[J)I" } : Jvm.MethodName)) ∈ TB := tb_m 439 (by decide +kernel) (by decide +kernel)
theorem mw_448 : (Jvm.Cond.methodLink "TapirGroupLaw" (88 : Nat) ({ cls := "TapirGroupLaw", name := "decide", desc := "(LTapirGroup;I[J)I" } : Jvm.MethodName)) ∈ TB := tb_m 487 (by decide +kernel) (by decide +kernel)
theorem mw_449 : (Jvm.Cond.static ({ cls := "TapirGroupLaw", name := "decide", desc := "(LTapirGroup;I[J)I" } : Jvm.MethodName)) ∈ TB := tb_m 488 (by decide +kernel) (by decide +kernel)
theorem mw_472 : (Jvm.Cond.methodLink "TapirGroupLaw" (91 : Nat) ({ cls := "TapirGroupLaw", name := "confirm", desc := "(LTapirGroup;II[J)I" } : Jvm.MethodName)) ∈ TB := tb_m 511 (by decide +kernel) (by decide +kernel)
theorem mw_473 : (Jvm.Cond.static ({ cls := "TapirGroupLaw", name := "confirm", desc := "(LTapirGroup;II[J)I" } : Jvm.MethodName)) ∈ TB := tb_m 512 (by decide +kernel) (by decide +kernel)
theorem mw_485 : (Jvm.Cond.methodLink "TapirGroupLaw" (94 : Nat) ({ cls := "TapirGroupLaw", name := "finish", desc := "(LTapirGroup;II[J)I" } : Jvm.MethodName)) ∈ TB := tb_m 524 (by decide +kernel) (by decide +kernel)
theorem mw_486 : (Jvm.Cond.static ({ cls := "TapirGroupLaw", name := "finish", desc := "(LTapirGroup;II[J)I" } : Jvm.MethodName)) ∈ TB := tb_m 525 (by decide +kernel) (by decide +kernel)
theorem mw_506 : (Jvm.Cond.methodLink "TapirGroupLaw" (97 : Nat) ({ cls := "TapirGroupLaw", name := "end", desc := "(LTapirGroup;I)I" } : Jvm.MethodName)) ∈ TB := tb_m 545 (by decide +kernel) (by decide +kernel)
theorem mw_507 : (Jvm.Cond.static ({ cls := "TapirGroupLaw", name := "end", desc := "(LTapirGroup;I)I" } : Jvm.MethodName)) ∈ TB := tb_m 546 (by decide +kernel) (by decide +kernel)
theorem mw_517 : (Jvm.Cond.methodLink "TapirGroupLaw" (101 : Nat) ({ cls := "TapirGroupLaw", name := "power", desc := "(LTapirGroup;IZ[J)I" } : Jvm.MethodName)) ∈ TB := tb_m 556 (by decide +kernel) (by decide +kernel)
theorem mw_518 : (Jvm.Cond.static ({ cls := "TapirGroupLaw", name := "power", desc := "(LTapirGroup;IZ[J)I" } : Jvm.MethodName)) ∈ TB := tb_m 557 (by decide +kernel) (by decide +kernel)
theorem mw_525 : (Jvm.Cond.methodLink "TapirGroupLaw" (105 : Nat) ({ cls := "TapirGroupLaw", name := "change", desc := "(LTapirGroup;[J)I" } : Jvm.MethodName)) ∈ TB := tb_m 564 (by decide +kernel) (by decide +kernel)
theorem mw_526 : (Jvm.Cond.static ({ cls := "TapirGroupLaw", name := "change", desc := "(LTapirGroup;[J)I" } : Jvm.MethodName)) ∈ TB := tb_m 565 (by decide +kernel) (by decide +kernel)
theorem mw_569 : (Jvm.Cond.classLink "TapirGroupLaw" (60 : Nat) "TapirGroupModel") ∈ TB := tb_m 608 (by decide +kernel) (by decide +kernel)
theorem mw_570 : (Jvm.Cond.instantiable "TapirGroupModel" (25 : Nat)) ∈ TB := tb_m 609 (by decide +kernel) (by decide +kernel)
theorem mw_571 : (Jvm.Cond.methodLink "TapirGroupLaw" (62 : Nat) ({ cls := "TapirGroupModel", name := "<init>", desc := "()V" } : Jvm.MethodName)) ∈ TB := tb_m 610 (by decide +kernel) (by decide +kernel)
theorem mw_572 : (Jvm.Cond.instanceMethod ({ cls := "TapirGroupModel", name := "<init>", desc := "()V" } : Jvm.MethodName)) ∈ TB := tb_m 611 (by decide +kernel) (by decide +kernel)
theorem mw_652 : (Jvm.Cond.methodLink "TapirGroupLaw" (69 : Nat) ({ cls := "TapirGroupModel", name := "thrown", desc := "()I" } : Jvm.MethodName)) ∈ TB := tb_m 691 (by decide +kernel) (by decide +kernel)
theorem mw_653 : (Jvm.Cond.instanceMethod ({ cls := "TapirGroupModel", name := "thrown", desc := "()I" } : Jvm.MethodName)) ∈ TB := tb_m 692 (by decide +kernel) (by decide +kernel)
theorem mw_654 : (Jvm.Cond.selects "TapirGroupModel" ({ cls := "TapirGroupModel", name := "thrown", desc := "()I" } : Jvm.MethodName) ({ cls := "TapirGroupModel", name := "thrown", desc := "()I" } : Jvm.MethodName)) ∈ TB := tb_m 693 (by decide +kernel) (by decide +kernel)
theorem mw_656 : (Jvm.Cond.methodLink "TapirGroupLaw" (68 : Nat) ({ cls := "TapirGroupModel", name := "begin", desc := "(I)I" } : Jvm.MethodName)) ∈ TB := tb_m 695 (by decide +kernel) (by decide +kernel)
theorem mw_657 : (Jvm.Cond.instanceMethod ({ cls := "TapirGroupModel", name := "begin", desc := "(I)I" } : Jvm.MethodName)) ∈ TB := tb_m 696 (by decide +kernel) (by decide +kernel)
theorem mw_658 : (Jvm.Cond.selects "TapirGroupModel" ({ cls := "TapirGroupModel", name := "begin", desc := "(I)I" } : Jvm.MethodName) ({ cls := "TapirGroupModel", name := "begin", desc := "(I)I" } : Jvm.MethodName)) ∈ TB := tb_m 697 (by decide +kernel) (by decide +kernel)
theorem mw_674 : (Jvm.Cond.methodLink "TapirGroupLaw" (75 : Nat) ({ cls := "TapirGroupModel", name := "read", desc := "(III)I" } : Jvm.MethodName)) ∈ TB := tb_m 713 (by decide +kernel) (by decide +kernel)
theorem mw_675 : (Jvm.Cond.instanceMethod ({ cls := "TapirGroupModel", name := "read", desc := "(III)I" } : Jvm.MethodName)) ∈ TB := tb_m 714 (by decide +kernel) (by decide +kernel)
theorem mw_676 : (Jvm.Cond.selects "TapirGroupModel" ({ cls := "TapirGroupModel", name := "read", desc := "(III)I" } : Jvm.MethodName) ({ cls := "TapirGroupModel", name := "read", desc := "(III)I" } : Jvm.MethodName)) ∈ TB := tb_m 715 (by decide +kernel) (by decide +kernel)
theorem mw_700 : (Jvm.Cond.methodLink "TapirGroupLaw" (79 : Nat) ({ cls := "TapirGroupModel", name := "write", desc := "(III)V" } : Jvm.MethodName)) ∈ TB := tb_m 739 (by decide +kernel) (by decide +kernel)
theorem mw_701 : (Jvm.Cond.instanceMethod ({ cls := "TapirGroupModel", name := "write", desc := "(III)V" } : Jvm.MethodName)) ∈ TB := tb_m 740 (by decide +kernel) (by decide +kernel)
theorem mw_702 : (Jvm.Cond.selects "TapirGroupModel" ({ cls := "TapirGroupModel", name := "write", desc := "(III)V" } : Jvm.MethodName) ({ cls := "TapirGroupModel", name := "write", desc := "(III)V" } : Jvm.MethodName)) ∈ TB := tb_m 741 (by decide +kernel) (by decide +kernel)
theorem mw_704 : (Jvm.Cond.methodLink "TapirGroupLaw" (83 : Nat) ({ cls := "TapirGroupModel", name := "propose", desc := "(II)V" } : Jvm.MethodName)) ∈ TB := tb_m 743 (by decide +kernel) (by decide +kernel)
theorem mw_705 : (Jvm.Cond.instanceMethod ({ cls := "TapirGroupModel", name := "propose", desc := "(II)V" } : Jvm.MethodName)) ∈ TB := tb_m 744 (by decide +kernel) (by decide +kernel)
theorem mw_706 : (Jvm.Cond.selects "TapirGroupModel" ({ cls := "TapirGroupModel", name := "propose", desc := "(II)V" } : Jvm.MethodName) ({ cls := "TapirGroupModel", name := "propose", desc := "(II)V" } : Jvm.MethodName)) ∈ TB := tb_m 745 (by decide +kernel) (by decide +kernel)
theorem mw_709 : (Jvm.Cond.methodLink "TapirGroupLaw" (87 : Nat) ({ cls := "TapirGroupModel", name := "prepare", desc := "(II)I" } : Jvm.MethodName)) ∈ TB := tb_m 748 (by decide +kernel) (by decide +kernel)
theorem mw_710 : (Jvm.Cond.instanceMethod ({ cls := "TapirGroupModel", name := "prepare", desc := "(II)I" } : Jvm.MethodName)) ∈ TB := tb_m 749 (by decide +kernel) (by decide +kernel)
theorem mw_711 : (Jvm.Cond.selects "TapirGroupModel" ({ cls := "TapirGroupModel", name := "prepare", desc := "(II)I" } : Jvm.MethodName) ({ cls := "TapirGroupModel", name := "prepare", desc := "(II)I" } : Jvm.MethodName)) ∈ TB := tb_m 750 (by decide +kernel) (by decide +kernel)
theorem mw_729 : (Jvm.Cond.methodLink "TapirGroupLaw" (90 : Nat) ({ cls := "TapirGroupModel", name := "decide", desc := "(I)I" } : Jvm.MethodName)) ∈ TB := tb_m 768 (by decide +kernel) (by decide +kernel)
theorem mw_730 : (Jvm.Cond.instanceMethod ({ cls := "TapirGroupModel", name := "decide", desc := "(I)I" } : Jvm.MethodName)) ∈ TB := tb_m 769 (by decide +kernel) (by decide +kernel)
theorem mw_731 : (Jvm.Cond.selects "TapirGroupModel" ({ cls := "TapirGroupModel", name := "decide", desc := "(I)I" } : Jvm.MethodName) ({ cls := "TapirGroupModel", name := "decide", desc := "(I)I" } : Jvm.MethodName)) ∈ TB := tb_m 770 (by decide +kernel) (by decide +kernel)
theorem mw_741 : (Jvm.Cond.methodLink "TapirGroupLaw" (93 : Nat) ({ cls := "TapirGroupModel", name := "confirm", desc := "(II)I" } : Jvm.MethodName)) ∈ TB := tb_m 780 (by decide +kernel) (by decide +kernel)
theorem mw_742 : (Jvm.Cond.instanceMethod ({ cls := "TapirGroupModel", name := "confirm", desc := "(II)I" } : Jvm.MethodName)) ∈ TB := tb_m 781 (by decide +kernel) (by decide +kernel)
theorem mw_743 : (Jvm.Cond.selects "TapirGroupModel" ({ cls := "TapirGroupModel", name := "confirm", desc := "(II)I" } : Jvm.MethodName) ({ cls := "TapirGroupModel", name := "confirm", desc := "(II)I" } : Jvm.MethodName)) ∈ TB := tb_m 782 (by decide +kernel) (by decide +kernel)
theorem mw_749 : (Jvm.Cond.methodLink "TapirGroupLaw" (96 : Nat) ({ cls := "TapirGroupModel", name := "finish", desc := "(II)Z" } : Jvm.MethodName)) ∈ TB := tb_m 788 (by decide +kernel) (by decide +kernel)
theorem mw_750 : (Jvm.Cond.instanceMethod ({ cls := "TapirGroupModel", name := "finish", desc := "(II)Z" } : Jvm.MethodName)) ∈ TB := tb_m 789 (by decide +kernel) (by decide +kernel)
theorem mw_751 : (Jvm.Cond.selects "TapirGroupModel" ({ cls := "TapirGroupModel", name := "finish", desc := "(II)Z" } : Jvm.MethodName) ({ cls := "TapirGroupModel", name := "finish", desc := "(II)Z" } : Jvm.MethodName)) ∈ TB := tb_m 790 (by decide +kernel) (by decide +kernel)
theorem mw_761 : (Jvm.Cond.methodLink "TapirGroupLaw" (100 : Nat) ({ cls := "TapirGroupModel", name := "end", desc := "(I)V" } : Jvm.MethodName)) ∈ TB := tb_m 800 (by decide +kernel) (by decide +kernel)
theorem mw_762 : (Jvm.Cond.instanceMethod ({ cls := "TapirGroupModel", name := "end", desc := "(I)V" } : Jvm.MethodName)) ∈ TB := tb_m 801 (by decide +kernel) (by decide +kernel)
theorem mw_763 : (Jvm.Cond.selects "TapirGroupModel" ({ cls := "TapirGroupModel", name := "end", desc := "(I)V" } : Jvm.MethodName) ({ cls := "TapirGroupModel", name := "end", desc := "(I)V" } : Jvm.MethodName)) ∈ TB := tb_m 802 (by decide +kernel) (by decide +kernel)
theorem mw_765 : (Jvm.Cond.methodLink "TapirGroupLaw" (104 : Nat) ({ cls := "TapirGroupModel", name := "power", desc := "(IZ)Z" } : Jvm.MethodName)) ∈ TB := tb_m 804 (by decide +kernel) (by decide +kernel)
theorem mw_766 : (Jvm.Cond.instanceMethod ({ cls := "TapirGroupModel", name := "power", desc := "(IZ)Z" } : Jvm.MethodName)) ∈ TB := tb_m 805 (by decide +kernel) (by decide +kernel)
theorem mw_767 : (Jvm.Cond.selects "TapirGroupModel" ({ cls := "TapirGroupModel", name := "power", desc := "(IZ)Z" } : Jvm.MethodName) ({ cls := "TapirGroupModel", name := "power", desc := "(IZ)Z" } : Jvm.MethodName)) ∈ TB := tb_m 806 (by decide +kernel) (by decide +kernel)
theorem mw_769 : (Jvm.Cond.methodLink "TapirGroupLaw" (108 : Nat) ({ cls := "TapirGroupModel", name := "change", desc := "()I" } : Jvm.MethodName)) ∈ TB := tb_m 808 (by decide +kernel) (by decide +kernel)
theorem mw_770 : (Jvm.Cond.instanceMethod ({ cls := "TapirGroupModel", name := "change", desc := "()I" } : Jvm.MethodName)) ∈ TB := tb_m 809 (by decide +kernel) (by decide +kernel)
theorem mw_771 : (Jvm.Cond.selects "TapirGroupModel" ({ cls := "TapirGroupModel", name := "change", desc := "()I" } : Jvm.MethodName) ({ cls := "TapirGroupModel", name := "change", desc := "()I" } : Jvm.MethodName)) ∈ TB := tb_m 810 (by decide +kernel) (by decide +kernel)
theorem mw_809 : (Jvm.Cond.methodLink "TapirGroupLaw" (112 : Nat) ({ cls := "TapirGroupModel", name := "client", desc := "(II)I" } : Jvm.MethodName)) ∈ TB := tb_m 848 (by decide +kernel) (by decide +kernel)
theorem mw_810 : (Jvm.Cond.instanceMethod ({ cls := "TapirGroupModel", name := "client", desc := "(II)I" } : Jvm.MethodName)) ∈ TB := tb_m 849 (by decide +kernel) (by decide +kernel)
theorem mw_811 : (Jvm.Cond.selects "TapirGroupModel" ({ cls := "TapirGroupModel", name := "client", desc := "(II)I" } : Jvm.MethodName) ({ cls := "TapirGroupModel", name := "client", desc := "(II)I" } : Jvm.MethodName)) ∈ TB := tb_m 850 (by decide +kernel) (by decide +kernel)
theorem mw_813 : (Jvm.Cond.methodLink "TapirGroupLaw" (116 : Nat) ({ cls := "TapirGroupModel", name := "at", desc := "(III)I" } : Jvm.MethodName)) ∈ TB := tb_m 852 (by decide +kernel) (by decide +kernel)
theorem mw_814 : (Jvm.Cond.instanceMethod ({ cls := "TapirGroupModel", name := "at", desc := "(III)I" } : Jvm.MethodName)) ∈ TB := tb_m 853 (by decide +kernel) (by decide +kernel)
theorem mw_815 : (Jvm.Cond.selects "TapirGroupModel" ({ cls := "TapirGroupModel", name := "at", desc := "(III)I" } : Jvm.MethodName) ({ cls := "TapirGroupModel", name := "at", desc := "(III)I" } : Jvm.MethodName)) ∈ TB := tb_m 854 (by decide +kernel) (by decide +kernel)
theorem mw_817 : (Jvm.Cond.methodLink "TapirGroupLaw" (120 : Nat) ({ cls := "TapirGroupModel", name := "record", desc := "(II)I" } : Jvm.MethodName)) ∈ TB := tb_m 856 (by decide +kernel) (by decide +kernel)
theorem mw_818 : (Jvm.Cond.instanceMethod ({ cls := "TapirGroupModel", name := "record", desc := "(II)I" } : Jvm.MethodName)) ∈ TB := tb_m 857 (by decide +kernel) (by decide +kernel)
theorem mw_819 : (Jvm.Cond.selects "TapirGroupModel" ({ cls := "TapirGroupModel", name := "record", desc := "(II)I" } : Jvm.MethodName) ({ cls := "TapirGroupModel", name := "record", desc := "(II)I" } : Jvm.MethodName)) ∈ TB := tb_m 858 (by decide +kernel) (by decide +kernel)
theorem mw_821 : (Jvm.Cond.methodLink "TapirGroupLaw" (124 : Nat) ({ cls := "TapirGroupModel", name := "state", desc := "(I)I" } : Jvm.MethodName)) ∈ TB := tb_m 860 (by decide +kernel) (by decide +kernel)
theorem mw_822 : (Jvm.Cond.instanceMethod ({ cls := "TapirGroupModel", name := "state", desc := "(I)I" } : Jvm.MethodName)) ∈ TB := tb_m 861 (by decide +kernel) (by decide +kernel)
theorem mw_823 : (Jvm.Cond.selects "TapirGroupModel" ({ cls := "TapirGroupModel", name := "state", desc := "(I)I" } : Jvm.MethodName) ({ cls := "TapirGroupModel", name := "state", desc := "(I)I" } : Jvm.MethodName)) ∈ TB := tb_m 862 (by decide +kernel) (by decide +kernel)
theorem mw_825 : (Jvm.Cond.arrayClass Jvm.ClassFile.FieldType.long) ∈ TB := tb_m 864 (by decide +kernel) (by decide +kernel)
/-! The law itself: its end, its walk. -/
def LStd (Γ : GX) : Prop := match Γ with
  | (p, l, e, R, s, m, args, below, meth, c, D, dA, Hl, ν0, N0, Qr) => meth.sig.returnType = some .boolean ∧ Hl = s.heap ∧ Qr = fun r t => ∃ x : Int32, r.1 = .inl (some (.int x)) ∧ ∃ o, t.status = .running ∧ Ended t below o ∧ o = .returned (some (.int x)) ∧ Framed s o t [] 601024 7293034
theorem g_lret {Γ : GX} {own : String} {cc : ByteArray} {nL : Nat} {cells slots pc : Nat} {L : List (Nat × Value)} {σ : Sg} (K : Cx Γ own cc nL room_1) (hS : LStd Γ) {x : Int32} (hn : narrow .boolean (.int x) = .int x) (d : decode cc pc = .ok (.ireturn, 1)) (hc : cells ≤ 601024) (hs : slots ≤ 7293034) : G Γ mkW cells slots pc L [.int x] σ (some (x, σ)) := by
  obtain ⟨p, l, e, R, s, m, args, below, meth, c, D, dA, Hl, ν0, N0, Qr⟩ := Γ
  obtain ⟨hx, hb, hml, hown, hts, hX, hlk, htr, hR⟩ := K
  obtain ⟨h1, h2, h3⟩ := hS
  subst h2
  subst h3
  subst hR
  intro r hr ν H ls locs a1 a2 a3 a4 a5 a6 a7
  cases hr
  refine va_forget (fun q hq => a4.2.2 q hq) ?_
  refine W.widen hc hs ?_
  have h := W.zret (Qc := fun _ _ o t => o = .returned (some (.int x))) (free := fun _ => False) (v := x) hx hb h1 hn (fun t ht hW => rfl) (fun q hq => nomatch hq) d (hlocks := hlk) (p := p) (l := l) (e := e) (R := room_1) (s := s) (m := m) (args := args) (below := below) (meth := meth) (c := c) (H := H) (locs := []) (cells := 601024) (slots := 7293034) (ls := ls)
  intro T hT X
  obtain ⟨t, q1, o9, q2, q3, q4, L9, q6, q7⟩ := h T hT X
  have hL : L9 = [] := by
    cases L9 with
    | nil => rfl
    | cons q r => exact (q7 q List.mem_cons_self).elim
  subst hL
  exact ⟨t, q1, x, rfl, o9, q2, q3, q4, q6⟩
theorem d_L_law_0 : decode code 0 = .ok (.new 8, 3) := by decide +kernel
theorem d_L_law_3 : decode code 3 = .ok (.dup, 1) := by decide +kernel
theorem d_L_law_4 : decode code 4 = .ok (.invokespecial 59, 3) := by decide +kernel
theorem d_L_law_7 : decode code 7 = .ok (.astore_n 1, 1) := by decide +kernel
theorem d_L_law_8 : decode code 8 = .ok (.new 60, 3) := by decide +kernel
theorem d_L_law_11 : decode code 11 = .ok (.dup, 1) := by decide +kernel
theorem d_L_law_12 : decode code 12 = .ok (.invokespecial 62, 3) := by decide +kernel
theorem d_L_law_15 : decode code 15 = .ok (.astore_n 2, 1) := by decide +kernel
theorem d_L_law_16 : decode code 16 = .ok (.iconst 1, 1) := by decide +kernel
theorem d_L_law_17 : decode code 17 = .ok (.newarray .long, 2) := by decide +kernel
theorem d_L_law_19 : decode code 19 = .ok (.astore_n 3, 1) := by decide +kernel
theorem d_L_law_20 : decode code 20 = .ok (.iconst 0, 1) := by decide +kernel
theorem d_L_law_21 : decode code 21 = .ok (.istore 4, 2) := by decide +kernel
theorem d_L_law_23 : decode code 23 = .ok (.iload 4, 2) := by decide +kernel
theorem d_L_law_25 : decode code 25 = .ok (.aload_n 0, 1) := by decide +kernel
theorem d_L_law_26 : decode code 26 = .ok (.arraylength, 1) := by decide +kernel
theorem d_L_law_27 : decode code 27 = .ok (.iconst 4, 1) := by decide +kernel
theorem d_L_law_28 : decode code 28 = .ok (.isub, 1) := by decide +kernel
theorem d_L_law_29 : decode code 29 = .ok (.if_icmp .gt 919, 3) := by decide +kernel
theorem d_L_law_32 : decode code 32 = .ok (.aload_n 0, 1) := by decide +kernel
theorem d_L_law_33 : decode code 33 = .ok (.iload 4, 2) := by decide +kernel
theorem d_L_law_35 : decode code 35 = .ok (.iaload, 1) := by decide +kernel
theorem d_L_law_36 : decode code 36 = .ok (.bipush 15, 2) := by decide +kernel
theorem d_L_law_38 : decode code 38 = .ok (.iand, 1) := by decide +kernel
theorem d_L_law_39 : decode code 39 = .ok (.tableswitch 903 0 14 #[73, 129, 209, 269, 317, 385, 441, 509, 584, 620, 711, 755, 792, 841, 878], 73) := by decide +kernel
theorem d_L_law_112 : decode code 112 = .ok (.aload_n 1, 1) := by decide +kernel
theorem d_L_law_113 : decode code 113 = .ok (.aload_n 0, 1) := by decide +kernel
theorem d_L_law_114 : decode code 114 = .ok (.iload 4, 2) := by decide +kernel
theorem d_L_law_116 : decode code 116 = .ok (.iconst 1, 1) := by decide +kernel
theorem d_L_law_117 : decode code 117 = .ok (.iadd, 1) := by decide +kernel
theorem d_L_law_118 : decode code 118 = .ok (.iaload, 1) := by decide +kernel
theorem d_L_law_119 : decode code 119 = .ok (.aload_n 3, 1) := by decide +kernel
theorem d_L_law_120 : decode code 120 = .ok (.invokestatic 63, 3) := by decide +kernel
theorem d_L_law_123 : decode code 123 = .ok (.istore 5, 2) := by decide +kernel
theorem d_L_law_125 : decode code 125 = .ok (.aload_n 2, 1) := by decide +kernel
theorem d_L_law_126 : decode code 126 = .ok (.aload_n 0, 1) := by decide +kernel
theorem d_L_law_127 : decode code 127 = .ok (.iload 4, 2) := by decide +kernel
theorem d_L_law_129 : decode code 129 = .ok (.iconst 1, 1) := by decide +kernel
theorem d_L_law_130 : decode code 130 = .ok (.iadd, 1) := by decide +kernel
theorem d_L_law_131 : decode code 131 = .ok (.iaload, 1) := by decide +kernel
theorem d_L_law_132 : decode code 132 = .ok (.invokevirtual 68, 3) := by decide +kernel
theorem d_L_law_135 : decode code 135 = .ok (.istore 6, 2) := by decide +kernel
theorem d_L_law_137 : decode code 137 = .ok (.aload_n 2, 1) := by decide +kernel
theorem d_L_law_138 : decode code 138 = .ok (.invokevirtual 69, 3) := by decide +kernel
theorem d_L_law_141 : decode code 141 = .ok (.iload 5, 2) := by decide +kernel
theorem d_L_law_143 : decode code 143 = .ok (.if_icmp .eq 5, 3) := by decide +kernel
theorem d_L_law_146 : decode code 146 = .ok (.iconst 0, 1) := by decide +kernel
theorem d_L_law_147 : decode code 147 = .ok (.ireturn, 1) := by decide +kernel
theorem d_L_law_148 : decode code 148 = .ok (.iload 5, 2) := by decide +kernel
theorem d_L_law_150 : decode code 150 = .ok (.ifCond .ne 15, 3) := by decide +kernel
theorem d_L_law_153 : decode code 153 = .ok (.aload_n 3, 1) := by decide +kernel
theorem d_L_law_154 : decode code 154 = .ok (.iconst 0, 1) := by decide +kernel
theorem d_L_law_155 : decode code 155 = .ok (.laload, 1) := by decide +kernel
theorem d_L_law_156 : decode code 156 = .ok (.iload 6, 2) := by decide +kernel
theorem d_L_law_158 : decode code 158 = .ok (.i2l, 1) := by decide +kernel
theorem d_L_law_159 : decode code 159 = .ok (.lcmp, 1) := by decide +kernel
theorem d_L_law_160 : decode code 160 = .ok (.ifCond .eq 5, 3) := by decide +kernel
theorem d_L_law_163 : decode code 163 = .ok (.iconst 0, 1) := by decide +kernel
theorem d_L_law_164 : decode code 164 = .ok (.ireturn, 1) := by decide +kernel
theorem d_L_law_165 : decode code 165 = .ok (.goto 777, 3) := by decide +kernel
theorem d_L_law_168 : decode code 168 = .ok (.aload_n 1, 1) := by decide +kernel
theorem d_L_law_169 : decode code 169 = .ok (.aload_n 0, 1) := by decide +kernel
theorem d_L_law_170 : decode code 170 = .ok (.iload 4, 2) := by decide +kernel
theorem d_L_law_172 : decode code 172 = .ok (.iconst 1, 1) := by decide +kernel
theorem d_L_law_173 : decode code 173 = .ok (.iadd, 1) := by decide +kernel
theorem d_L_law_174 : decode code 174 = .ok (.iaload, 1) := by decide +kernel
theorem d_L_law_175 : decode code 175 = .ok (.aload_n 0, 1) := by decide +kernel
theorem d_L_law_176 : decode code 176 = .ok (.iload 4, 2) := by decide +kernel
theorem d_L_law_178 : decode code 178 = .ok (.iconst 2, 1) := by decide +kernel
theorem d_L_law_179 : decode code 179 = .ok (.iadd, 1) := by decide +kernel
theorem d_L_law_180 : decode code 180 = .ok (.iaload, 1) := by decide +kernel
theorem d_L_law_181 : decode code 181 = .ok (.aload_n 0, 1) := by decide +kernel
theorem d_L_law_182 : decode code 182 = .ok (.iload 4, 2) := by decide +kernel
theorem d_L_law_184 : decode code 184 = .ok (.iconst 3, 1) := by decide +kernel
theorem d_L_law_185 : decode code 185 = .ok (.iadd, 1) := by decide +kernel
theorem d_L_law_186 : decode code 186 = .ok (.iaload, 1) := by decide +kernel
theorem d_L_law_187 : decode code 187 = .ok (.aload_n 3, 1) := by decide +kernel
theorem d_L_law_188 : decode code 188 = .ok (.invokestatic 72, 3) := by decide +kernel
theorem d_L_law_191 : decode code 191 = .ok (.istore 5, 2) := by decide +kernel
theorem d_L_law_193 : decode code 193 = .ok (.aload_n 2, 1) := by decide +kernel
theorem d_L_law_194 : decode code 194 = .ok (.aload_n 0, 1) := by decide +kernel
theorem d_L_law_195 : decode code 195 = .ok (.iload 4, 2) := by decide +kernel
theorem d_L_law_197 : decode code 197 = .ok (.iconst 1, 1) := by decide +kernel
theorem d_L_law_198 : decode code 198 = .ok (.iadd, 1) := by decide +kernel
theorem d_L_law_199 : decode code 199 = .ok (.iaload, 1) := by decide +kernel
theorem d_L_law_200 : decode code 200 = .ok (.aload_n 0, 1) := by decide +kernel
theorem d_L_law_201 : decode code 201 = .ok (.iload 4, 2) := by decide +kernel
theorem d_L_law_203 : decode code 203 = .ok (.iconst 2, 1) := by decide +kernel
theorem d_L_law_204 : decode code 204 = .ok (.iadd, 1) := by decide +kernel
theorem d_L_law_205 : decode code 205 = .ok (.iaload, 1) := by decide +kernel
theorem d_L_law_206 : decode code 206 = .ok (.aload_n 0, 1) := by decide +kernel
theorem d_L_law_207 : decode code 207 = .ok (.iload 4, 2) := by decide +kernel
theorem d_L_law_209 : decode code 209 = .ok (.iconst 3, 1) := by decide +kernel
theorem d_L_law_210 : decode code 210 = .ok (.iadd, 1) := by decide +kernel
theorem d_L_law_211 : decode code 211 = .ok (.iaload, 1) := by decide +kernel
theorem d_L_law_212 : decode code 212 = .ok (.invokevirtual 75, 3) := by decide +kernel
theorem d_L_law_215 : decode code 215 = .ok (.istore 6, 2) := by decide +kernel
theorem d_L_law_217 : decode code 217 = .ok (.aload_n 2, 1) := by decide +kernel
theorem d_L_law_218 : decode code 218 = .ok (.invokevirtual 69, 3) := by decide +kernel
theorem d_L_law_221 : decode code 221 = .ok (.iload 5, 2) := by decide +kernel
theorem d_L_law_223 : decode code 223 = .ok (.if_icmp .eq 5, 3) := by decide +kernel
theorem d_L_law_226 : decode code 226 = .ok (.iconst 0, 1) := by decide +kernel
theorem d_L_law_227 : decode code 227 = .ok (.ireturn, 1) := by decide +kernel
theorem d_L_law_228 : decode code 228 = .ok (.iload 5, 2) := by decide +kernel
theorem d_L_law_230 : decode code 230 = .ok (.ifCond .ne 15, 3) := by decide +kernel
theorem d_L_law_233 : decode code 233 = .ok (.aload_n 3, 1) := by decide +kernel
theorem d_L_law_234 : decode code 234 = .ok (.iconst 0, 1) := by decide +kernel
theorem d_L_law_235 : decode code 235 = .ok (.laload, 1) := by decide +kernel
theorem d_L_law_236 : decode code 236 = .ok (.iload 6, 2) := by decide +kernel
theorem d_L_law_238 : decode code 238 = .ok (.i2l, 1) := by decide +kernel
theorem d_L_law_239 : decode code 239 = .ok (.lcmp, 1) := by decide +kernel
theorem d_L_law_240 : decode code 240 = .ok (.ifCond .eq 5, 3) := by decide +kernel
theorem d_L_law_243 : decode code 243 = .ok (.iconst 0, 1) := by decide +kernel
theorem d_L_law_244 : decode code 244 = .ok (.ireturn, 1) := by decide +kernel
theorem d_L_law_245 : decode code 245 = .ok (.goto 697, 3) := by decide +kernel
theorem d_L_law_248 : decode code 248 = .ok (.aload_n 1, 1) := by decide +kernel
theorem d_L_law_249 : decode code 249 = .ok (.aload_n 0, 1) := by decide +kernel
theorem d_L_law_250 : decode code 250 = .ok (.iload 4, 2) := by decide +kernel
theorem d_L_law_252 : decode code 252 = .ok (.iconst 1, 1) := by decide +kernel
theorem d_L_law_253 : decode code 253 = .ok (.iadd, 1) := by decide +kernel
theorem d_L_law_254 : decode code 254 = .ok (.iaload, 1) := by decide +kernel
theorem d_L_law_255 : decode code 255 = .ok (.aload_n 0, 1) := by decide +kernel
theorem d_L_law_256 : decode code 256 = .ok (.iload 4, 2) := by decide +kernel
theorem d_L_law_258 : decode code 258 = .ok (.iconst 2, 1) := by decide +kernel
theorem d_L_law_259 : decode code 259 = .ok (.iadd, 1) := by decide +kernel
theorem d_L_law_260 : decode code 260 = .ok (.iaload, 1) := by decide +kernel
theorem d_L_law_261 : decode code 261 = .ok (.aload_n 0, 1) := by decide +kernel
theorem d_L_law_262 : decode code 262 = .ok (.iload 4, 2) := by decide +kernel
theorem d_L_law_264 : decode code 264 = .ok (.iconst 3, 1) := by decide +kernel
theorem d_L_law_265 : decode code 265 = .ok (.iadd, 1) := by decide +kernel
theorem d_L_law_266 : decode code 266 = .ok (.iaload, 1) := by decide +kernel
theorem d_L_law_267 : decode code 267 = .ok (.invokestatic 76, 3) := by decide +kernel
theorem d_L_law_270 : decode code 270 = .ok (.istore 5, 2) := by decide +kernel
theorem d_L_law_272 : decode code 272 = .ok (.aload_n 2, 1) := by decide +kernel
theorem d_L_law_273 : decode code 273 = .ok (.aload_n 0, 1) := by decide +kernel
theorem d_L_law_274 : decode code 274 = .ok (.iload 4, 2) := by decide +kernel
theorem d_L_law_276 : decode code 276 = .ok (.iconst 1, 1) := by decide +kernel
theorem d_L_law_277 : decode code 277 = .ok (.iadd, 1) := by decide +kernel
theorem d_L_law_278 : decode code 278 = .ok (.iaload, 1) := by decide +kernel
theorem d_L_law_279 : decode code 279 = .ok (.aload_n 0, 1) := by decide +kernel
theorem d_L_law_280 : decode code 280 = .ok (.iload 4, 2) := by decide +kernel
theorem d_L_law_282 : decode code 282 = .ok (.iconst 2, 1) := by decide +kernel
theorem d_L_law_283 : decode code 283 = .ok (.iadd, 1) := by decide +kernel
theorem d_L_law_284 : decode code 284 = .ok (.iaload, 1) := by decide +kernel
theorem d_L_law_285 : decode code 285 = .ok (.aload_n 0, 1) := by decide +kernel
theorem d_L_law_286 : decode code 286 = .ok (.iload 4, 2) := by decide +kernel
theorem d_L_law_288 : decode code 288 = .ok (.iconst 3, 1) := by decide +kernel
theorem d_L_law_289 : decode code 289 = .ok (.iadd, 1) := by decide +kernel
theorem d_L_law_290 : decode code 290 = .ok (.iaload, 1) := by decide +kernel
theorem d_L_law_291 : decode code 291 = .ok (.invokevirtual 79, 3) := by decide +kernel
theorem d_L_law_294 : decode code 294 = .ok (.aload_n 2, 1) := by decide +kernel
theorem d_L_law_295 : decode code 295 = .ok (.invokevirtual 69, 3) := by decide +kernel
theorem d_L_law_298 : decode code 298 = .ok (.iload 5, 2) := by decide +kernel
theorem d_L_law_300 : decode code 300 = .ok (.if_icmp .eq 5, 3) := by decide +kernel
theorem d_L_law_303 : decode code 303 = .ok (.iconst 0, 1) := by decide +kernel
theorem d_L_law_304 : decode code 304 = .ok (.ireturn, 1) := by decide +kernel
theorem d_L_law_305 : decode code 305 = .ok (.goto 637, 3) := by decide +kernel
theorem d_L_law_308 : decode code 308 = .ok (.aload_n 1, 1) := by decide +kernel
theorem d_L_law_309 : decode code 309 = .ok (.aload_n 0, 1) := by decide +kernel
theorem d_L_law_310 : decode code 310 = .ok (.iload 4, 2) := by decide +kernel
theorem d_L_law_312 : decode code 312 = .ok (.iconst 1, 1) := by decide +kernel
theorem d_L_law_313 : decode code 313 = .ok (.iadd, 1) := by decide +kernel
theorem d_L_law_314 : decode code 314 = .ok (.iaload, 1) := by decide +kernel
theorem d_L_law_315 : decode code 315 = .ok (.aload_n 0, 1) := by decide +kernel
theorem d_L_law_316 : decode code 316 = .ok (.iload 4, 2) := by decide +kernel
theorem d_L_law_318 : decode code 318 = .ok (.iconst 2, 1) := by decide +kernel
theorem d_L_law_319 : decode code 319 = .ok (.iadd, 1) := by decide +kernel
theorem d_L_law_320 : decode code 320 = .ok (.iaload, 1) := by decide +kernel
theorem d_L_law_321 : decode code 321 = .ok (.invokestatic 80, 3) := by decide +kernel
theorem d_L_law_324 : decode code 324 = .ok (.istore 5, 2) := by decide +kernel
theorem d_L_law_326 : decode code 326 = .ok (.aload_n 2, 1) := by decide +kernel
theorem d_L_law_327 : decode code 327 = .ok (.aload_n 0, 1) := by decide +kernel
theorem d_L_law_328 : decode code 328 = .ok (.iload 4, 2) := by decide +kernel
theorem d_L_law_330 : decode code 330 = .ok (.iconst 1, 1) := by decide +kernel
theorem d_L_law_331 : decode code 331 = .ok (.iadd, 1) := by decide +kernel
theorem d_L_law_332 : decode code 332 = .ok (.iaload, 1) := by decide +kernel
theorem d_L_law_333 : decode code 333 = .ok (.aload_n 0, 1) := by decide +kernel
theorem d_L_law_334 : decode code 334 = .ok (.iload 4, 2) := by decide +kernel
theorem d_L_law_336 : decode code 336 = .ok (.iconst 2, 1) := by decide +kernel
theorem d_L_law_337 : decode code 337 = .ok (.iadd, 1) := by decide +kernel
theorem d_L_law_338 : decode code 338 = .ok (.iaload, 1) := by decide +kernel
theorem d_L_law_339 : decode code 339 = .ok (.invokevirtual 83, 3) := by decide +kernel
theorem d_L_law_342 : decode code 342 = .ok (.aload_n 2, 1) := by decide +kernel
theorem d_L_law_343 : decode code 343 = .ok (.invokevirtual 69, 3) := by decide +kernel
theorem d_L_law_346 : decode code 346 = .ok (.iload 5, 2) := by decide +kernel
theorem d_L_law_348 : decode code 348 = .ok (.if_icmp .eq 5, 3) := by decide +kernel
theorem d_L_law_351 : decode code 351 = .ok (.iconst 0, 1) := by decide +kernel
theorem d_L_law_352 : decode code 352 = .ok (.ireturn, 1) := by decide +kernel
theorem d_L_law_353 : decode code 353 = .ok (.goto 589, 3) := by decide +kernel
theorem d_L_law_356 : decode code 356 = .ok (.aload_n 1, 1) := by decide +kernel
theorem d_L_law_357 : decode code 357 = .ok (.aload_n 0, 1) := by decide +kernel
theorem d_L_law_358 : decode code 358 = .ok (.iload 4, 2) := by decide +kernel
theorem d_L_law_360 : decode code 360 = .ok (.iconst 1, 1) := by decide +kernel
theorem d_L_law_361 : decode code 361 = .ok (.iadd, 1) := by decide +kernel
theorem d_L_law_362 : decode code 362 = .ok (.iaload, 1) := by decide +kernel
theorem d_L_law_363 : decode code 363 = .ok (.aload_n 0, 1) := by decide +kernel
theorem d_L_law_364 : decode code 364 = .ok (.iload 4, 2) := by decide +kernel
theorem d_L_law_366 : decode code 366 = .ok (.iconst 2, 1) := by decide +kernel
theorem d_L_law_367 : decode code 367 = .ok (.iadd, 1) := by decide +kernel
theorem d_L_law_368 : decode code 368 = .ok (.iaload, 1) := by decide +kernel
theorem d_L_law_369 : decode code 369 = .ok (.aload_n 3, 1) := by decide +kernel
theorem d_L_law_370 : decode code 370 = .ok (.invokestatic 84, 3) := by decide +kernel
theorem d_L_law_373 : decode code 373 = .ok (.istore 5, 2) := by decide +kernel
theorem d_L_law_375 : decode code 375 = .ok (.aload_n 2, 1) := by decide +kernel
theorem d_L_law_376 : decode code 376 = .ok (.aload_n 0, 1) := by decide +kernel
theorem d_L_law_377 : decode code 377 = .ok (.iload 4, 2) := by decide +kernel
theorem d_L_law_379 : decode code 379 = .ok (.iconst 1, 1) := by decide +kernel
theorem d_L_law_380 : decode code 380 = .ok (.iadd, 1) := by decide +kernel
theorem d_L_law_381 : decode code 381 = .ok (.iaload, 1) := by decide +kernel
theorem d_L_law_382 : decode code 382 = .ok (.aload_n 0, 1) := by decide +kernel
theorem d_L_law_383 : decode code 383 = .ok (.iload 4, 2) := by decide +kernel
theorem d_L_law_385 : decode code 385 = .ok (.iconst 2, 1) := by decide +kernel
theorem d_L_law_386 : decode code 386 = .ok (.iadd, 1) := by decide +kernel
theorem d_L_law_387 : decode code 387 = .ok (.iaload, 1) := by decide +kernel
theorem d_L_law_388 : decode code 388 = .ok (.invokevirtual 87, 3) := by decide +kernel
theorem d_L_law_391 : decode code 391 = .ok (.istore 6, 2) := by decide +kernel
theorem d_L_law_393 : decode code 393 = .ok (.aload_n 2, 1) := by decide +kernel
theorem d_L_law_394 : decode code 394 = .ok (.invokevirtual 69, 3) := by decide +kernel
theorem d_L_law_397 : decode code 397 = .ok (.iload 5, 2) := by decide +kernel
theorem d_L_law_399 : decode code 399 = .ok (.if_icmp .eq 5, 3) := by decide +kernel
theorem d_L_law_402 : decode code 402 = .ok (.iconst 0, 1) := by decide +kernel
theorem d_L_law_403 : decode code 403 = .ok (.ireturn, 1) := by decide +kernel
theorem d_L_law_404 : decode code 404 = .ok (.iload 5, 2) := by decide +kernel
theorem d_L_law_406 : decode code 406 = .ok (.ifCond .ne 15, 3) := by decide +kernel
theorem d_L_law_409 : decode code 409 = .ok (.aload_n 3, 1) := by decide +kernel
theorem d_L_law_410 : decode code 410 = .ok (.iconst 0, 1) := by decide +kernel
theorem d_L_law_411 : decode code 411 = .ok (.laload, 1) := by decide +kernel
theorem d_L_law_412 : decode code 412 = .ok (.iload 6, 2) := by decide +kernel
theorem d_L_law_414 : decode code 414 = .ok (.i2l, 1) := by decide +kernel
theorem d_L_law_415 : decode code 415 = .ok (.lcmp, 1) := by decide +kernel
theorem d_L_law_416 : decode code 416 = .ok (.ifCond .eq 5, 3) := by decide +kernel
theorem d_L_law_419 : decode code 419 = .ok (.iconst 0, 1) := by decide +kernel
theorem d_L_law_420 : decode code 420 = .ok (.ireturn, 1) := by decide +kernel
theorem d_L_law_421 : decode code 421 = .ok (.goto 521, 3) := by decide +kernel
theorem d_L_law_424 : decode code 424 = .ok (.aload_n 1, 1) := by decide +kernel
theorem d_L_law_425 : decode code 425 = .ok (.aload_n 0, 1) := by decide +kernel
theorem d_L_law_426 : decode code 426 = .ok (.iload 4, 2) := by decide +kernel
theorem d_L_law_428 : decode code 428 = .ok (.iconst 1, 1) := by decide +kernel
theorem d_L_law_429 : decode code 429 = .ok (.iadd, 1) := by decide +kernel
theorem d_L_law_430 : decode code 430 = .ok (.iaload, 1) := by decide +kernel
theorem d_L_law_431 : decode code 431 = .ok (.aload_n 3, 1) := by decide +kernel
theorem d_L_law_432 : decode code 432 = .ok (.invokestatic 88, 3) := by decide +kernel
theorem d_L_law_435 : decode code 435 = .ok (.istore 5, 2) := by decide +kernel
theorem d_L_law_437 : decode code 437 = .ok (.aload_n 2, 1) := by decide +kernel
theorem d_L_law_438 : decode code 438 = .ok (.aload_n 0, 1) := by decide +kernel
theorem d_L_law_439 : decode code 439 = .ok (.iload 4, 2) := by decide +kernel
theorem d_L_law_441 : decode code 441 = .ok (.iconst 1, 1) := by decide +kernel
theorem d_L_law_442 : decode code 442 = .ok (.iadd, 1) := by decide +kernel
theorem d_L_law_443 : decode code 443 = .ok (.iaload, 1) := by decide +kernel
theorem d_L_law_444 : decode code 444 = .ok (.invokevirtual 90, 3) := by decide +kernel
theorem d_L_law_447 : decode code 447 = .ok (.istore 6, 2) := by decide +kernel
theorem d_L_law_449 : decode code 449 = .ok (.aload_n 2, 1) := by decide +kernel
theorem d_L_law_450 : decode code 450 = .ok (.invokevirtual 69, 3) := by decide +kernel
theorem d_L_law_453 : decode code 453 = .ok (.iload 5, 2) := by decide +kernel
theorem d_L_law_455 : decode code 455 = .ok (.if_icmp .eq 5, 3) := by decide +kernel
theorem d_L_law_458 : decode code 458 = .ok (.iconst 0, 1) := by decide +kernel
theorem d_L_law_459 : decode code 459 = .ok (.ireturn, 1) := by decide +kernel
theorem d_L_law_460 : decode code 460 = .ok (.iload 5, 2) := by decide +kernel
theorem d_L_law_462 : decode code 462 = .ok (.ifCond .ne 15, 3) := by decide +kernel
theorem d_L_law_465 : decode code 465 = .ok (.aload_n 3, 1) := by decide +kernel
theorem d_L_law_466 : decode code 466 = .ok (.iconst 0, 1) := by decide +kernel
theorem d_L_law_467 : decode code 467 = .ok (.laload, 1) := by decide +kernel
theorem d_L_law_468 : decode code 468 = .ok (.iload 6, 2) := by decide +kernel
theorem d_L_law_470 : decode code 470 = .ok (.i2l, 1) := by decide +kernel
theorem d_L_law_471 : decode code 471 = .ok (.lcmp, 1) := by decide +kernel
theorem d_L_law_472 : decode code 472 = .ok (.ifCond .eq 5, 3) := by decide +kernel
theorem d_L_law_475 : decode code 475 = .ok (.iconst 0, 1) := by decide +kernel
theorem d_L_law_476 : decode code 476 = .ok (.ireturn, 1) := by decide +kernel
theorem d_L_law_477 : decode code 477 = .ok (.goto 465, 3) := by decide +kernel
theorem d_L_law_480 : decode code 480 = .ok (.aload_n 1, 1) := by decide +kernel
theorem d_L_law_481 : decode code 481 = .ok (.aload_n 0, 1) := by decide +kernel
theorem d_L_law_482 : decode code 482 = .ok (.iload 4, 2) := by decide +kernel
theorem d_L_law_484 : decode code 484 = .ok (.iconst 1, 1) := by decide +kernel
theorem d_L_law_485 : decode code 485 = .ok (.iadd, 1) := by decide +kernel
theorem d_L_law_486 : decode code 486 = .ok (.iaload, 1) := by decide +kernel
theorem d_L_law_487 : decode code 487 = .ok (.aload_n 0, 1) := by decide +kernel
theorem d_L_law_488 : decode code 488 = .ok (.iload 4, 2) := by decide +kernel
theorem d_L_law_490 : decode code 490 = .ok (.iconst 2, 1) := by decide +kernel
theorem d_L_law_491 : decode code 491 = .ok (.iadd, 1) := by decide +kernel
theorem d_L_law_492 : decode code 492 = .ok (.iaload, 1) := by decide +kernel
theorem d_L_law_493 : decode code 493 = .ok (.aload_n 3, 1) := by decide +kernel
theorem d_L_law_494 : decode code 494 = .ok (.invokestatic 91, 3) := by decide +kernel
theorem d_L_law_497 : decode code 497 = .ok (.istore 5, 2) := by decide +kernel
theorem d_L_law_499 : decode code 499 = .ok (.aload_n 2, 1) := by decide +kernel
theorem d_L_law_500 : decode code 500 = .ok (.aload_n 0, 1) := by decide +kernel
theorem d_L_law_501 : decode code 501 = .ok (.iload 4, 2) := by decide +kernel
theorem d_L_law_503 : decode code 503 = .ok (.iconst 1, 1) := by decide +kernel
theorem d_L_law_504 : decode code 504 = .ok (.iadd, 1) := by decide +kernel
theorem d_L_law_505 : decode code 505 = .ok (.iaload, 1) := by decide +kernel
theorem d_L_law_506 : decode code 506 = .ok (.aload_n 0, 1) := by decide +kernel
theorem d_L_law_507 : decode code 507 = .ok (.iload 4, 2) := by decide +kernel
theorem d_L_law_509 : decode code 509 = .ok (.iconst 2, 1) := by decide +kernel
theorem d_L_law_510 : decode code 510 = .ok (.iadd, 1) := by decide +kernel
theorem d_L_law_511 : decode code 511 = .ok (.iaload, 1) := by decide +kernel
theorem d_L_law_512 : decode code 512 = .ok (.invokevirtual 93, 3) := by decide +kernel
theorem d_L_law_515 : decode code 515 = .ok (.istore 6, 2) := by decide +kernel
theorem d_L_law_517 : decode code 517 = .ok (.aload_n 2, 1) := by decide +kernel
theorem d_L_law_518 : decode code 518 = .ok (.invokevirtual 69, 3) := by decide +kernel
theorem d_L_law_521 : decode code 521 = .ok (.iload 5, 2) := by decide +kernel
theorem d_L_law_523 : decode code 523 = .ok (.if_icmp .eq 5, 3) := by decide +kernel
theorem d_L_law_526 : decode code 526 = .ok (.iconst 0, 1) := by decide +kernel
theorem d_L_law_527 : decode code 527 = .ok (.ireturn, 1) := by decide +kernel
theorem d_L_law_528 : decode code 528 = .ok (.iload 5, 2) := by decide +kernel
theorem d_L_law_530 : decode code 530 = .ok (.ifCond .ne 15, 3) := by decide +kernel
theorem d_L_law_533 : decode code 533 = .ok (.aload_n 3, 1) := by decide +kernel
theorem d_L_law_534 : decode code 534 = .ok (.iconst 0, 1) := by decide +kernel
theorem d_L_law_535 : decode code 535 = .ok (.laload, 1) := by decide +kernel
theorem d_L_law_536 : decode code 536 = .ok (.iload 6, 2) := by decide +kernel
theorem d_L_law_538 : decode code 538 = .ok (.i2l, 1) := by decide +kernel
theorem d_L_law_539 : decode code 539 = .ok (.lcmp, 1) := by decide +kernel
theorem d_L_law_540 : decode code 540 = .ok (.ifCond .eq 5, 3) := by decide +kernel
theorem d_L_law_543 : decode code 543 = .ok (.iconst 0, 1) := by decide +kernel
theorem d_L_law_544 : decode code 544 = .ok (.ireturn, 1) := by decide +kernel
theorem d_L_law_545 : decode code 545 = .ok (.goto 397, 3) := by decide +kernel
theorem d_L_law_548 : decode code 548 = .ok (.aload_n 1, 1) := by decide +kernel
theorem d_L_law_549 : decode code 549 = .ok (.aload_n 0, 1) := by decide +kernel
theorem d_L_law_550 : decode code 550 = .ok (.iload 4, 2) := by decide +kernel
theorem d_L_law_552 : decode code 552 = .ok (.iconst 1, 1) := by decide +kernel
theorem d_L_law_553 : decode code 553 = .ok (.iadd, 1) := by decide +kernel
theorem d_L_law_554 : decode code 554 = .ok (.iaload, 1) := by decide +kernel
theorem d_L_law_555 : decode code 555 = .ok (.aload_n 0, 1) := by decide +kernel
theorem d_L_law_556 : decode code 556 = .ok (.iload 4, 2) := by decide +kernel
theorem d_L_law_558 : decode code 558 = .ok (.iconst 2, 1) := by decide +kernel
theorem d_L_law_559 : decode code 559 = .ok (.iadd, 1) := by decide +kernel
theorem d_L_law_560 : decode code 560 = .ok (.iaload, 1) := by decide +kernel
theorem d_L_law_561 : decode code 561 = .ok (.aload_n 3, 1) := by decide +kernel
theorem d_L_law_562 : decode code 562 = .ok (.invokestatic 94, 3) := by decide +kernel
theorem d_L_law_565 : decode code 565 = .ok (.istore 5, 2) := by decide +kernel
theorem d_L_law_567 : decode code 567 = .ok (.aload_n 2, 1) := by decide +kernel
theorem d_L_law_568 : decode code 568 = .ok (.aload_n 0, 1) := by decide +kernel
theorem d_L_law_569 : decode code 569 = .ok (.iload 4, 2) := by decide +kernel
theorem d_L_law_571 : decode code 571 = .ok (.iconst 1, 1) := by decide +kernel
theorem d_L_law_572 : decode code 572 = .ok (.iadd, 1) := by decide +kernel
theorem d_L_law_573 : decode code 573 = .ok (.iaload, 1) := by decide +kernel
theorem d_L_law_574 : decode code 574 = .ok (.aload_n 0, 1) := by decide +kernel
theorem d_L_law_575 : decode code 575 = .ok (.iload 4, 2) := by decide +kernel
theorem d_L_law_577 : decode code 577 = .ok (.iconst 2, 1) := by decide +kernel
theorem d_L_law_578 : decode code 578 = .ok (.iadd, 1) := by decide +kernel
theorem d_L_law_579 : decode code 579 = .ok (.iaload, 1) := by decide +kernel
theorem d_L_law_580 : decode code 580 = .ok (.invokevirtual 96, 3) := by decide +kernel
theorem d_L_law_583 : decode code 583 = .ok (.istore 6, 2) := by decide +kernel
theorem d_L_law_585 : decode code 585 = .ok (.aload_n 2, 1) := by decide +kernel
theorem d_L_law_586 : decode code 586 = .ok (.invokevirtual 69, 3) := by decide +kernel
theorem d_L_law_589 : decode code 589 = .ok (.iload 5, 2) := by decide +kernel
theorem d_L_law_591 : decode code 591 = .ok (.if_icmp .eq 5, 3) := by decide +kernel
theorem d_L_law_594 : decode code 594 = .ok (.iconst 0, 1) := by decide +kernel
theorem d_L_law_595 : decode code 595 = .ok (.ireturn, 1) := by decide +kernel
theorem d_L_law_596 : decode code 596 = .ok (.iload 5, 2) := by decide +kernel
theorem d_L_law_598 : decode code 598 = .ok (.ifCond .ne 22, 3) := by decide +kernel
theorem d_L_law_601 : decode code 601 = .ok (.aload_n 3, 1) := by decide +kernel
theorem d_L_law_602 : decode code 602 = .ok (.iconst 0, 1) := by decide +kernel
theorem d_L_law_603 : decode code 603 = .ok (.laload, 1) := by decide +kernel
theorem d_L_law_604 : decode code 604 = .ok (.iload 6, 2) := by decide +kernel
theorem d_L_law_606 : decode code 606 = .ok (.ifCond .eq 7, 3) := by decide +kernel
theorem d_L_law_609 : decode code 609 = .ok (.lconst 1, 1) := by decide +kernel
theorem d_L_law_610 : decode code 610 = .ok (.goto 4, 3) := by decide +kernel
theorem d_L_law_613 : decode code 613 = .ok (.lconst 0, 1) := by decide +kernel
theorem d_L_law_614 : decode code 614 = .ok (.lcmp, 1) := by decide +kernel
theorem d_L_law_615 : decode code 615 = .ok (.ifCond .eq 5, 3) := by decide +kernel
theorem d_L_law_618 : decode code 618 = .ok (.iconst 0, 1) := by decide +kernel
theorem d_L_law_619 : decode code 619 = .ok (.ireturn, 1) := by decide +kernel
theorem d_L_law_620 : decode code 620 = .ok (.goto 322, 3) := by decide +kernel
theorem d_L_law_623 : decode code 623 = .ok (.aload_n 1, 1) := by decide +kernel
theorem d_L_law_624 : decode code 624 = .ok (.aload_n 0, 1) := by decide +kernel
theorem d_L_law_625 : decode code 625 = .ok (.iload 4, 2) := by decide +kernel
theorem d_L_law_627 : decode code 627 = .ok (.iconst 1, 1) := by decide +kernel
theorem d_L_law_628 : decode code 628 = .ok (.iadd, 1) := by decide +kernel
theorem d_L_law_629 : decode code 629 = .ok (.iaload, 1) := by decide +kernel
theorem d_L_law_630 : decode code 630 = .ok (.invokestatic 97, 3) := by decide +kernel
theorem d_L_law_633 : decode code 633 = .ok (.istore 5, 2) := by decide +kernel
theorem d_L_law_635 : decode code 635 = .ok (.aload_n 2, 1) := by decide +kernel
theorem d_L_law_636 : decode code 636 = .ok (.aload_n 0, 1) := by decide +kernel
theorem d_L_law_637 : decode code 637 = .ok (.iload 4, 2) := by decide +kernel
theorem d_L_law_639 : decode code 639 = .ok (.iconst 1, 1) := by decide +kernel
theorem d_L_law_640 : decode code 640 = .ok (.iadd, 1) := by decide +kernel
theorem d_L_law_641 : decode code 641 = .ok (.iaload, 1) := by decide +kernel
theorem d_L_law_642 : decode code 642 = .ok (.invokevirtual 100, 3) := by decide +kernel
theorem d_L_law_645 : decode code 645 = .ok (.aload_n 2, 1) := by decide +kernel
theorem d_L_law_646 : decode code 646 = .ok (.invokevirtual 69, 3) := by decide +kernel
theorem d_L_law_649 : decode code 649 = .ok (.iload 5, 2) := by decide +kernel
theorem d_L_law_651 : decode code 651 = .ok (.if_icmp .eq 5, 3) := by decide +kernel
theorem d_L_law_654 : decode code 654 = .ok (.iconst 0, 1) := by decide +kernel
theorem d_L_law_655 : decode code 655 = .ok (.ireturn, 1) := by decide +kernel
theorem d_L_law_656 : decode code 656 = .ok (.goto 286, 3) := by decide +kernel
theorem d_L_law_659 : decode code 659 = .ok (.aload_n 1, 1) := by decide +kernel
theorem d_L_law_660 : decode code 660 = .ok (.aload_n 0, 1) := by decide +kernel
theorem d_L_law_661 : decode code 661 = .ok (.iload 4, 2) := by decide +kernel
theorem d_L_law_663 : decode code 663 = .ok (.iconst 1, 1) := by decide +kernel
theorem d_L_law_664 : decode code 664 = .ok (.iadd, 1) := by decide +kernel
theorem d_L_law_665 : decode code 665 = .ok (.iaload, 1) := by decide +kernel
theorem d_L_law_666 : decode code 666 = .ok (.aload_n 0, 1) := by decide +kernel
theorem d_L_law_667 : decode code 667 = .ok (.iload 4, 2) := by decide +kernel
theorem d_L_law_669 : decode code 669 = .ok (.iconst 2, 1) := by decide +kernel
theorem d_L_law_670 : decode code 670 = .ok (.iadd, 1) := by decide +kernel
theorem d_L_law_671 : decode code 671 = .ok (.iaload, 1) := by decide +kernel
theorem d_L_law_672 : decode code 672 = .ok (.ifCond .eq 7, 3) := by decide +kernel
theorem d_L_law_675 : decode code 675 = .ok (.iconst 1, 1) := by decide +kernel
theorem d_L_law_676 : decode code 676 = .ok (.goto 4, 3) := by decide +kernel
theorem d_L_law_679 : decode code 679 = .ok (.iconst 0, 1) := by decide +kernel
theorem d_L_law_680 : decode code 680 = .ok (.aload_n 3, 1) := by decide +kernel
theorem d_L_law_681 : decode code 681 = .ok (.invokestatic 101, 3) := by decide +kernel
theorem d_L_law_684 : decode code 684 = .ok (.istore 5, 2) := by decide +kernel
theorem d_L_law_686 : decode code 686 = .ok (.aload_n 2, 1) := by decide +kernel
theorem d_L_law_687 : decode code 687 = .ok (.aload_n 0, 1) := by decide +kernel
theorem d_L_law_688 : decode code 688 = .ok (.iload 4, 2) := by decide +kernel
theorem d_L_law_690 : decode code 690 = .ok (.iconst 1, 1) := by decide +kernel
theorem d_L_law_691 : decode code 691 = .ok (.iadd, 1) := by decide +kernel
theorem d_L_law_692 : decode code 692 = .ok (.iaload, 1) := by decide +kernel
theorem d_L_law_693 : decode code 693 = .ok (.aload_n 0, 1) := by decide +kernel
theorem d_L_law_694 : decode code 694 = .ok (.iload 4, 2) := by decide +kernel
theorem d_L_law_696 : decode code 696 = .ok (.iconst 2, 1) := by decide +kernel
theorem d_L_law_697 : decode code 697 = .ok (.iadd, 1) := by decide +kernel
theorem d_L_law_698 : decode code 698 = .ok (.iaload, 1) := by decide +kernel
theorem d_L_law_699 : decode code 699 = .ok (.ifCond .eq 7, 3) := by decide +kernel
theorem d_L_law_702 : decode code 702 = .ok (.iconst 1, 1) := by decide +kernel
theorem d_L_law_703 : decode code 703 = .ok (.goto 4, 3) := by decide +kernel
theorem d_L_law_706 : decode code 706 = .ok (.iconst 0, 1) := by decide +kernel
theorem d_L_law_707 : decode code 707 = .ok (.invokevirtual 104, 3) := by decide +kernel
theorem d_L_law_710 : decode code 710 = .ok (.istore 6, 2) := by decide +kernel
theorem d_L_law_712 : decode code 712 = .ok (.aload_n 2, 1) := by decide +kernel
theorem d_L_law_713 : decode code 713 = .ok (.invokevirtual 69, 3) := by decide +kernel
theorem d_L_law_716 : decode code 716 = .ok (.iload 5, 2) := by decide +kernel
theorem d_L_law_718 : decode code 718 = .ok (.if_icmp .eq 5, 3) := by decide +kernel
theorem d_L_law_721 : decode code 721 = .ok (.iconst 0, 1) := by decide +kernel
theorem d_L_law_722 : decode code 722 = .ok (.ireturn, 1) := by decide +kernel
theorem d_L_law_723 : decode code 723 = .ok (.iload 5, 2) := by decide +kernel
theorem d_L_law_725 : decode code 725 = .ok (.ifCond .ne 22, 3) := by decide +kernel
theorem d_L_law_728 : decode code 728 = .ok (.aload_n 3, 1) := by decide +kernel
theorem d_L_law_729 : decode code 729 = .ok (.iconst 0, 1) := by decide +kernel
theorem d_L_law_730 : decode code 730 = .ok (.laload, 1) := by decide +kernel
theorem d_L_law_731 : decode code 731 = .ok (.iload 6, 2) := by decide +kernel
theorem d_L_law_733 : decode code 733 = .ok (.ifCond .eq 7, 3) := by decide +kernel
theorem d_L_law_736 : decode code 736 = .ok (.lconst 1, 1) := by decide +kernel
theorem d_L_law_737 : decode code 737 = .ok (.goto 4, 3) := by decide +kernel
theorem d_L_law_740 : decode code 740 = .ok (.lconst 0, 1) := by decide +kernel
theorem d_L_law_741 : decode code 741 = .ok (.lcmp, 1) := by decide +kernel
theorem d_L_law_742 : decode code 742 = .ok (.ifCond .eq 5, 3) := by decide +kernel
theorem d_L_law_745 : decode code 745 = .ok (.iconst 0, 1) := by decide +kernel
theorem d_L_law_746 : decode code 746 = .ok (.ireturn, 1) := by decide +kernel
theorem d_L_law_747 : decode code 747 = .ok (.goto 195, 3) := by decide +kernel
theorem d_L_law_750 : decode code 750 = .ok (.aload_n 1, 1) := by decide +kernel
theorem d_L_law_751 : decode code 751 = .ok (.aload_n 3, 1) := by decide +kernel
theorem d_L_law_752 : decode code 752 = .ok (.invokestatic 105, 3) := by decide +kernel
theorem d_L_law_755 : decode code 755 = .ok (.istore 5, 2) := by decide +kernel
theorem d_L_law_757 : decode code 757 = .ok (.aload_n 2, 1) := by decide +kernel
theorem d_L_law_758 : decode code 758 = .ok (.invokevirtual 108, 3) := by decide +kernel
theorem d_L_law_761 : decode code 761 = .ok (.istore 6, 2) := by decide +kernel
theorem d_L_law_763 : decode code 763 = .ok (.aload_n 2, 1) := by decide +kernel
theorem d_L_law_764 : decode code 764 = .ok (.invokevirtual 69, 3) := by decide +kernel
theorem d_L_law_767 : decode code 767 = .ok (.iload 5, 2) := by decide +kernel
theorem d_L_law_769 : decode code 769 = .ok (.if_icmp .eq 5, 3) := by decide +kernel
theorem d_L_law_772 : decode code 772 = .ok (.iconst 0, 1) := by decide +kernel
theorem d_L_law_773 : decode code 773 = .ok (.ireturn, 1) := by decide +kernel
theorem d_L_law_774 : decode code 774 = .ok (.iload 5, 2) := by decide +kernel
theorem d_L_law_776 : decode code 776 = .ok (.ifCond .ne 15, 3) := by decide +kernel
theorem d_L_law_779 : decode code 779 = .ok (.aload_n 3, 1) := by decide +kernel
theorem d_L_law_780 : decode code 780 = .ok (.iconst 0, 1) := by decide +kernel
theorem d_L_law_781 : decode code 781 = .ok (.laload, 1) := by decide +kernel
theorem d_L_law_782 : decode code 782 = .ok (.iload 6, 2) := by decide +kernel
theorem d_L_law_784 : decode code 784 = .ok (.i2l, 1) := by decide +kernel
theorem d_L_law_785 : decode code 785 = .ok (.lcmp, 1) := by decide +kernel
theorem d_L_law_786 : decode code 786 = .ok (.ifCond .eq 5, 3) := by decide +kernel
theorem d_L_law_789 : decode code 789 = .ok (.iconst 0, 1) := by decide +kernel
theorem d_L_law_790 : decode code 790 = .ok (.ireturn, 1) := by decide +kernel
theorem d_L_law_791 : decode code 791 = .ok (.goto 151, 3) := by decide +kernel
theorem d_L_law_794 : decode code 794 = .ok (.aload_n 1, 1) := by decide +kernel
theorem d_L_law_795 : decode code 795 = .ok (.aload_n 0, 1) := by decide +kernel
theorem d_L_law_796 : decode code 796 = .ok (.iload 4, 2) := by decide +kernel
theorem d_L_law_798 : decode code 798 = .ok (.iconst 1, 1) := by decide +kernel
theorem d_L_law_799 : decode code 799 = .ok (.iadd, 1) := by decide +kernel
theorem d_L_law_800 : decode code 800 = .ok (.iaload, 1) := by decide +kernel
theorem d_L_law_801 : decode code 801 = .ok (.aload_n 0, 1) := by decide +kernel
theorem d_L_law_802 : decode code 802 = .ok (.iload 4, 2) := by decide +kernel
theorem d_L_law_804 : decode code 804 = .ok (.iconst 2, 1) := by decide +kernel
theorem d_L_law_805 : decode code 805 = .ok (.iadd, 1) := by decide +kernel
theorem d_L_law_806 : decode code 806 = .ok (.iaload, 1) := by decide +kernel
theorem d_L_law_807 : decode code 807 = .ok (.invokevirtual 109, 3) := by decide +kernel
theorem d_L_law_810 : decode code 810 = .ok (.aload_n 2, 1) := by decide +kernel
theorem d_L_law_811 : decode code 811 = .ok (.aload_n 0, 1) := by decide +kernel
theorem d_L_law_812 : decode code 812 = .ok (.iload 4, 2) := by decide +kernel
theorem d_L_law_814 : decode code 814 = .ok (.iconst 1, 1) := by decide +kernel
theorem d_L_law_815 : decode code 815 = .ok (.iadd, 1) := by decide +kernel
theorem d_L_law_816 : decode code 816 = .ok (.iaload, 1) := by decide +kernel
theorem d_L_law_817 : decode code 817 = .ok (.aload_n 0, 1) := by decide +kernel
theorem d_L_law_818 : decode code 818 = .ok (.iload 4, 2) := by decide +kernel
theorem d_L_law_820 : decode code 820 = .ok (.iconst 2, 1) := by decide +kernel
theorem d_L_law_821 : decode code 821 = .ok (.iadd, 1) := by decide +kernel
theorem d_L_law_822 : decode code 822 = .ok (.iaload, 1) := by decide +kernel
theorem d_L_law_823 : decode code 823 = .ok (.invokevirtual 112, 3) := by decide +kernel
theorem d_L_law_826 : decode code 826 = .ok (.if_icmp .eq 116, 3) := by decide +kernel
theorem d_L_law_829 : decode code 829 = .ok (.iconst 0, 1) := by decide +kernel
theorem d_L_law_830 : decode code 830 = .ok (.ireturn, 1) := by decide +kernel
theorem d_L_law_831 : decode code 831 = .ok (.aload_n 1, 1) := by decide +kernel
theorem d_L_law_832 : decode code 832 = .ok (.aload_n 0, 1) := by decide +kernel
theorem d_L_law_833 : decode code 833 = .ok (.iload 4, 2) := by decide +kernel
theorem d_L_law_835 : decode code 835 = .ok (.iconst 1, 1) := by decide +kernel
theorem d_L_law_836 : decode code 836 = .ok (.iadd, 1) := by decide +kernel
theorem d_L_law_837 : decode code 837 = .ok (.iaload, 1) := by decide +kernel
theorem d_L_law_838 : decode code 838 = .ok (.aload_n 0, 1) := by decide +kernel
theorem d_L_law_839 : decode code 839 = .ok (.iload 4, 2) := by decide +kernel
theorem d_L_law_841 : decode code 841 = .ok (.iconst 2, 1) := by decide +kernel
theorem d_L_law_842 : decode code 842 = .ok (.iadd, 1) := by decide +kernel
theorem d_L_law_843 : decode code 843 = .ok (.iaload, 1) := by decide +kernel
theorem d_L_law_844 : decode code 844 = .ok (.aload_n 0, 1) := by decide +kernel
theorem d_L_law_845 : decode code 845 = .ok (.iload 4, 2) := by decide +kernel
theorem d_L_law_847 : decode code 847 = .ok (.iconst 3, 1) := by decide +kernel
theorem d_L_law_848 : decode code 848 = .ok (.iadd, 1) := by decide +kernel
theorem d_L_law_849 : decode code 849 = .ok (.iaload, 1) := by decide +kernel
theorem d_L_law_850 : decode code 850 = .ok (.invokevirtual 113, 3) := by decide +kernel
theorem d_L_law_853 : decode code 853 = .ok (.aload_n 2, 1) := by decide +kernel
theorem d_L_law_854 : decode code 854 = .ok (.aload_n 0, 1) := by decide +kernel
theorem d_L_law_855 : decode code 855 = .ok (.iload 4, 2) := by decide +kernel
theorem d_L_law_857 : decode code 857 = .ok (.iconst 1, 1) := by decide +kernel
theorem d_L_law_858 : decode code 858 = .ok (.iadd, 1) := by decide +kernel
theorem d_L_law_859 : decode code 859 = .ok (.iaload, 1) := by decide +kernel
theorem d_L_law_860 : decode code 860 = .ok (.aload_n 0, 1) := by decide +kernel
theorem d_L_law_861 : decode code 861 = .ok (.iload 4, 2) := by decide +kernel
theorem d_L_law_863 : decode code 863 = .ok (.iconst 2, 1) := by decide +kernel
theorem d_L_law_864 : decode code 864 = .ok (.iadd, 1) := by decide +kernel
theorem d_L_law_865 : decode code 865 = .ok (.iaload, 1) := by decide +kernel
theorem d_L_law_866 : decode code 866 = .ok (.aload_n 0, 1) := by decide +kernel
theorem d_L_law_867 : decode code 867 = .ok (.iload 4, 2) := by decide +kernel
theorem d_L_law_869 : decode code 869 = .ok (.iconst 3, 1) := by decide +kernel
theorem d_L_law_870 : decode code 870 = .ok (.iadd, 1) := by decide +kernel
theorem d_L_law_871 : decode code 871 = .ok (.iaload, 1) := by decide +kernel
theorem d_L_law_872 : decode code 872 = .ok (.invokevirtual 116, 3) := by decide +kernel
theorem d_L_law_875 : decode code 875 = .ok (.if_icmp .eq 67, 3) := by decide +kernel
theorem d_L_law_878 : decode code 878 = .ok (.iconst 0, 1) := by decide +kernel
theorem d_L_law_879 : decode code 879 = .ok (.ireturn, 1) := by decide +kernel
theorem d_L_law_880 : decode code 880 = .ok (.aload_n 1, 1) := by decide +kernel
theorem d_L_law_881 : decode code 881 = .ok (.aload_n 0, 1) := by decide +kernel
theorem d_L_law_882 : decode code 882 = .ok (.iload 4, 2) := by decide +kernel
theorem d_L_law_884 : decode code 884 = .ok (.iconst 1, 1) := by decide +kernel
theorem d_L_law_885 : decode code 885 = .ok (.iadd, 1) := by decide +kernel
theorem d_L_law_886 : decode code 886 = .ok (.iaload, 1) := by decide +kernel
theorem d_L_law_887 : decode code 887 = .ok (.aload_n 0, 1) := by decide +kernel
theorem d_L_law_888 : decode code 888 = .ok (.iload 4, 2) := by decide +kernel
theorem d_L_law_890 : decode code 890 = .ok (.iconst 2, 1) := by decide +kernel
theorem d_L_law_891 : decode code 891 = .ok (.iadd, 1) := by decide +kernel
theorem d_L_law_892 : decode code 892 = .ok (.iaload, 1) := by decide +kernel
theorem d_L_law_893 : decode code 893 = .ok (.invokevirtual 117, 3) := by decide +kernel
theorem d_L_law_896 : decode code 896 = .ok (.aload_n 2, 1) := by decide +kernel
theorem d_L_law_897 : decode code 897 = .ok (.aload_n 0, 1) := by decide +kernel
theorem d_L_law_898 : decode code 898 = .ok (.iload 4, 2) := by decide +kernel
theorem d_L_law_900 : decode code 900 = .ok (.iconst 1, 1) := by decide +kernel
theorem d_L_law_901 : decode code 901 = .ok (.iadd, 1) := by decide +kernel
theorem d_L_law_902 : decode code 902 = .ok (.iaload, 1) := by decide +kernel
theorem d_L_law_903 : decode code 903 = .ok (.aload_n 0, 1) := by decide +kernel
theorem d_L_law_904 : decode code 904 = .ok (.iload 4, 2) := by decide +kernel
theorem d_L_law_906 : decode code 906 = .ok (.iconst 2, 1) := by decide +kernel
theorem d_L_law_907 : decode code 907 = .ok (.iadd, 1) := by decide +kernel
theorem d_L_law_908 : decode code 908 = .ok (.iaload, 1) := by decide +kernel
theorem d_L_law_909 : decode code 909 = .ok (.invokevirtual 120, 3) := by decide +kernel
theorem d_L_law_912 : decode code 912 = .ok (.if_icmp .eq 30, 3) := by decide +kernel
theorem d_L_law_915 : decode code 915 = .ok (.iconst 0, 1) := by decide +kernel
theorem d_L_law_916 : decode code 916 = .ok (.ireturn, 1) := by decide +kernel
theorem d_L_law_917 : decode code 917 = .ok (.aload_n 1, 1) := by decide +kernel
theorem d_L_law_918 : decode code 918 = .ok (.aload_n 0, 1) := by decide +kernel
theorem d_L_law_919 : decode code 919 = .ok (.iload 4, 2) := by decide +kernel
theorem d_L_law_921 : decode code 921 = .ok (.iconst 1, 1) := by decide +kernel
theorem d_L_law_922 : decode code 922 = .ok (.iadd, 1) := by decide +kernel
theorem d_L_law_923 : decode code 923 = .ok (.iaload, 1) := by decide +kernel
theorem d_L_law_924 : decode code 924 = .ok (.invokevirtual 121, 3) := by decide +kernel
theorem d_L_law_927 : decode code 927 = .ok (.aload_n 2, 1) := by decide +kernel
theorem d_L_law_928 : decode code 928 = .ok (.aload_n 0, 1) := by decide +kernel
theorem d_L_law_929 : decode code 929 = .ok (.iload 4, 2) := by decide +kernel
theorem d_L_law_931 : decode code 931 = .ok (.iconst 1, 1) := by decide +kernel
theorem d_L_law_932 : decode code 932 = .ok (.iadd, 1) := by decide +kernel
theorem d_L_law_933 : decode code 933 = .ok (.iaload, 1) := by decide +kernel
theorem d_L_law_934 : decode code 934 = .ok (.invokevirtual 124, 3) := by decide +kernel
theorem d_L_law_937 : decode code 937 = .ok (.if_icmp .eq 5, 3) := by decide +kernel
theorem d_L_law_940 : decode code 940 = .ok (.iconst 0, 1) := by decide +kernel
theorem d_L_law_941 : decode code 941 = .ok (.ireturn, 1) := by decide +kernel
theorem d_L_law_942 : decode code 942 = .ok (.iinc 4 4, 3) := by decide +kernel
theorem d_L_law_945 : decode code 945 = .ok (.goto (-922), 3) := by decide +kernel
theorem d_L_law_948 : decode code 948 = .ok (.iconst 1, 1) := by decide +kernel
theorem d_L_law_949 : decode code 949 = .ok (.ireturn, 1) := by decide +kernel
def b_L_law_942 (Ns : Nat) (xs : Nat → Int32) (k : Sg → Nat → Nat → Nat → Int32 → Option (Int32 × Sg)) (σ : Sg) (a1 : Nat) (a2 : Nat) (a3 : Nat) (x4 : Int32) : Option (Int32 × Sg) := (k σ a1 a2 a3 (x4 + 4))
set_option maxRecDepth 100000 in
set_option maxHeartbeats 8000000 in
theorem gb_L_law_942 {Γ : GX} {Ns : Nat} {xs : Nat → Int32} (K : Cx Γ "TapirGroupLaw" code 7 room_1) (hR : LStd Γ) (hS : Scr Γ Ns xs) (k : Sg → Nat → Nat → Nat → Int32 → Option (Int32 × Sg)) (B Bs : Nat) (hB : B ≤ 601024) (hBs : Bs ≤ 7293034) (hk : ∀ (cells slots : Nat), cells ≤ B → slots ≤ Bs → ∀ (σ : Sg) (a1 : Nat) (a2 : Nat) (a3 : Nat) (x4 : Int32), G Γ mkW cells slots 23 [(0, .ref SCR), (1, .ref a1), (2, .ref a2), (3, .ref a3), (4, .int x4)] [] σ (k σ a1 a2 a3 x4)) (cells slots : Nat) (hc : cells + 0 ≤ B) (hs : slots + 0 ≤ Bs) (σ : Sg) (a1 : Nat) (a2 : Nat) (a3 : Nat) (x4 : Int32) : G Γ mkW cells slots 942 [(0, .ref SCR), (1, .ref a1), (2, .ref a2), (3, .ref a3), (4, .int x4)] [] σ (b_L_law_942 Ns xs k σ a1 a2 a3 x4) := by
  unfold b_L_law_942
  refine g_iinc (pc := 942) (j := 4) (v := (x4 + 4)) (L' := [(4, .int (x4 + 4)), (0, .ref SCR), (1, .ref a1), (2, .ref a2), (3, .ref a3)]) K d_L_law_942 rfl (by rfl) (by decide) rfl ?_
  refine g_goto (pc := 945) (tgt := 23) K d_L_law_945 (by decide) ?_
  refine g_sub (L' := [(0, .ref SCR), (1, .ref a1), (2, .ref a2), (3, .ref a3), (4, .int (x4 + 4))]) [1, 2, 3, 4, 0] rfl ?_
  exact hk cells slots (by omega) (by omega) σ a1 a2 a3 (x4 + 4)
def b_L_law_791 (Ns : Nat) (xs : Nat → Int32) (k : Sg → Nat → Nat → Nat → Int32 → Option (Int32 × Sg)) (σ : Sg) (a1 : Nat) (a2 : Nat) (a3 : Nat) (x4 : Int32) : Option (Int32 × Sg) := (b_L_law_942 Ns xs k σ a1 a2 a3 x4)
set_option maxRecDepth 100000 in
set_option maxHeartbeats 8000000 in
theorem gb_L_law_791 {Γ : GX} {Ns : Nat} {xs : Nat → Int32} (K : Cx Γ "TapirGroupLaw" code 7 room_1) (hR : LStd Γ) (hS : Scr Γ Ns xs) (k : Sg → Nat → Nat → Nat → Int32 → Option (Int32 × Sg)) (B Bs : Nat) (hB : B ≤ 601024) (hBs : Bs ≤ 7293034) (hk : ∀ (cells slots : Nat), cells ≤ B → slots ≤ Bs → ∀ (σ : Sg) (a1 : Nat) (a2 : Nat) (a3 : Nat) (x4 : Int32), G Γ mkW cells slots 23 [(0, .ref SCR), (1, .ref a1), (2, .ref a2), (3, .ref a3), (4, .int x4)] [] σ (k σ a1 a2 a3 x4)) (cells slots : Nat) (hc : cells + 0 ≤ B) (hs : slots + 0 ≤ Bs) (σ : Sg) (a1 : Nat) (a2 : Nat) (a3 : Nat) (x4 : Int32) : G Γ mkW cells slots 791 [(0, .ref SCR), (1, .ref a1), (2, .ref a2), (3, .ref a3), (4, .int x4)] [] σ (b_L_law_791 Ns xs k σ a1 a2 a3 x4) := by
  unfold b_L_law_791
  refine g_goto (pc := 791) (tgt := 942) K d_L_law_791 (by decide) ?_
  exact gb_L_law_942 K hR hS k B Bs hB hBs hk cells slots (by omega) (by omega) σ a1 a2 a3 x4
def b_L_law_747 (Ns : Nat) (xs : Nat → Int32) (k : Sg → Nat → Nat → Nat → Int32 → Option (Int32 × Sg)) (σ : Sg) (a1 : Nat) (a2 : Nat) (a3 : Nat) (x4 : Int32) : Option (Int32 × Sg) := (b_L_law_942 Ns xs k σ a1 a2 a3 x4)
set_option maxRecDepth 100000 in
set_option maxHeartbeats 8000000 in
theorem gb_L_law_747 {Γ : GX} {Ns : Nat} {xs : Nat → Int32} (K : Cx Γ "TapirGroupLaw" code 7 room_1) (hR : LStd Γ) (hS : Scr Γ Ns xs) (k : Sg → Nat → Nat → Nat → Int32 → Option (Int32 × Sg)) (B Bs : Nat) (hB : B ≤ 601024) (hBs : Bs ≤ 7293034) (hk : ∀ (cells slots : Nat), cells ≤ B → slots ≤ Bs → ∀ (σ : Sg) (a1 : Nat) (a2 : Nat) (a3 : Nat) (x4 : Int32), G Γ mkW cells slots 23 [(0, .ref SCR), (1, .ref a1), (2, .ref a2), (3, .ref a3), (4, .int x4)] [] σ (k σ a1 a2 a3 x4)) (cells slots : Nat) (hc : cells + 0 ≤ B) (hs : slots + 0 ≤ Bs) (σ : Sg) (a1 : Nat) (a2 : Nat) (a3 : Nat) (x4 : Int32) : G Γ mkW cells slots 747 [(0, .ref SCR), (1, .ref a1), (2, .ref a2), (3, .ref a3), (4, .int x4)] [] σ (b_L_law_747 Ns xs k σ a1 a2 a3 x4) := by
  unfold b_L_law_747
  refine g_goto (pc := 747) (tgt := 942) K d_L_law_747 (by decide) ?_
  exact gb_L_law_942 K hR hS k B Bs hB hBs hk cells slots (by omega) (by omega) σ a1 a2 a3 x4
def b_L_law_741 (Ns : Nat) (xs : Nat → Int32) (k : Sg → Nat → Nat → Nat → Int32 → Option (Int32 × Sg)) (σ : Sg) (a1 : Nat) (a2 : Nat) (a3 : Nat) (x4 : Int32) (t0 : Int64) (t1 : Int64) : Option (Int32 × Sg) := (if (lg_cmp t0 t1) = 0 then (b_L_law_747 Ns xs k σ a1 a2 a3 x4) else (some ((0 : Int32), σ)))
set_option maxRecDepth 100000 in
set_option maxHeartbeats 8000000 in
theorem gb_L_law_741 {Γ : GX} {Ns : Nat} {xs : Nat → Int32} (K : Cx Γ "TapirGroupLaw" code 7 room_1) (hR : LStd Γ) (hS : Scr Γ Ns xs) (k : Sg → Nat → Nat → Nat → Int32 → Option (Int32 × Sg)) (B Bs : Nat) (hB : B ≤ 601024) (hBs : Bs ≤ 7293034) (hk : ∀ (cells slots : Nat), cells ≤ B → slots ≤ Bs → ∀ (σ : Sg) (a1 : Nat) (a2 : Nat) (a3 : Nat) (x4 : Int32), G Γ mkW cells slots 23 [(0, .ref SCR), (1, .ref a1), (2, .ref a2), (3, .ref a3), (4, .int x4)] [] σ (k σ a1 a2 a3 x4)) (cells slots : Nat) (hc : cells + 0 ≤ B) (hs : slots + 0 ≤ Bs) (σ : Sg) (a1 : Nat) (a2 : Nat) (a3 : Nat) (x4 : Int32) (t0 : Int64) (t1 : Int64) : G Γ mkW cells slots 741 [(0, .ref SCR), (1, .ref a1), (2, .ref a2), (3, .ref a3), (4, .int x4)] [.long t1, .long t0] σ (b_L_law_741 Ns xs k σ a1 a2 a3 x4 t0 t1) := by
  unfold b_L_law_741
  refine g_lcmp (pc := 741) K d_L_law_741 ?_
  refine g_if_eq (pc := 742) (tgt := 747) K d_L_law_742 (by decide) (fun _ => ?_) (fun _ => ?_)
  · exact gb_L_law_747 K hR hS k B Bs hB hBs hk cells slots (by omega) (by omega) σ a1 a2 a3 x4
  · refine g_iconst (pc := 745) (v := 0) K d_L_law_745 (by decide) ?_
    exact g_lret (pc := 746) K hR rfl d_L_law_746 (by omega) (by omega)
def b_L_law_707 (Ns : Nat) (xs : Nat → Int32) (k : Sg → Nat → Nat → Nat → Int32 → Option (Int32 × Sg)) (σ : Sg) (a1 : Nat) (a2 : Nat) (a3 : Nat) (x4 : Int32) (x5 : Int32) (t0 : Nat) (t1 : Int32) (t2 : Int32) : Option (Int32 × Sg) := (if t0 < σ.1 ∧ kd t0 = 4 then (f_M_power σ t0 t1 t2).bind (fun w1 => (if a2 < w1.2.1 ∧ kd a2 = 4 then (f_M_thrown w1.2 a2).bind (fun v2 => (if v2 = x5 then (if x5 = 0 then (if (a3 < w1.2.1 ∧ kd a3 = 12) ∧ inb (0 : Int32) (ln a3) = true then (if w1.1 = 0 then (b_L_law_741 Ns xs k w1.2 a1 a2 a3 x4 (g_l w1.2 a3 (0 : Int32).toNatClampNeg) (0 : Int64)) else (b_L_law_741 Ns xs k w1.2 a1 a2 a3 x4 (g_l w1.2 a3 (0 : Int32).toNatClampNeg) (1 : Int64))) else none) else (b_L_law_747 Ns xs k w1.2 a1 a2 a3 x4)) else (some ((0 : Int32), w1.2)))) else none)) else none)
set_option maxRecDepth 100000 in
set_option maxHeartbeats 8000000 in
theorem gb_L_law_707 {Γ : GX} {Ns : Nat} {xs : Nat → Int32} (K : Cx Γ "TapirGroupLaw" code 7 room_1) (hR : LStd Γ) (hS : Scr Γ Ns xs) (k : Sg → Nat → Nat → Nat → Int32 → Option (Int32 × Sg)) (B Bs : Nat) (hB : B ≤ 601024) (hBs : Bs ≤ 7293034) (hk : ∀ (cells slots : Nat), cells ≤ B → slots ≤ Bs → ∀ (σ : Sg) (a1 : Nat) (a2 : Nat) (a3 : Nat) (x4 : Int32), G Γ mkW cells slots 23 [(0, .ref SCR), (1, .ref a1), (2, .ref a2), (3, .ref a3), (4, .int x4)] [] σ (k σ a1 a2 a3 x4)) (cells slots : Nat) (hc : cells + 0 ≤ B) (hs : slots + 0 ≤ Bs) (σ : Sg) (a1 : Nat) (a2 : Nat) (a3 : Nat) (x4 : Int32) (x5 : Int32) (t0 : Nat) (t1 : Int32) (t2 : Int32) : G Γ mkW cells slots 707 [(0, .ref SCR), (1, .ref a1), (2, .ref a2), (3, .ref a3), (4, .int x4), (5, .int x5)] [.int t2, .int t1, .ref t0] σ (b_L_law_707 Ns xs k σ a1 a2 a3 x4 x5 t0 t1 t2) := by
  unfold b_L_law_707
  refine g_callV (pc := 707) (ci := 4) (a := t0) (vs := [.int t1, .int t2]) (st := []) (mkc := mkW) K rfl (by decide) cn_M_power (fun l hl r hr => k_M_power l hl _ _ _ _ r hr) mw_765 mw_766 mw_767 ⟨by decide, by decide, (by show cells + 0 ≤ 601024; omega), (by show slots + 0 ≤ 7293034; omega)⟩ d_L_law_707 rfl rfl (Nat.le_of_ble_eq_true rfl) (fun w1 _ => ?_)
  change G Γ mkW cells slots 710 [(0, .ref SCR), (1, .ref a1), (2, .ref a2), (3, .ref a3), (4, .int x4), (5, .int x5)] [.int w1.1] w1.2 _
  refine g_istore (pc := 710) (L' := [(6, .int w1.1), (0, .ref SCR), (1, .ref a1), (2, .ref a2), (3, .ref a3), (4, .int x4), (5, .int x5)]) K d_L_law_710 (by decide) rfl ?_
  refine g_aload_n (pc := 712) (j := 3) K d_L_law_712 rfl ?_
  refine g_callV (pc := 713) (ci := 4) (a := a2) (vs := []) (st := []) (mkc := mkI w1.2) K rfl (by decide) cn_M_thrown (fun l hl r hr => k_M_thrown l hl _ _ r hr) mw_652 mw_653 mw_654 ⟨by decide, by decide, (by show cells + 0 ≤ 601024; omega), (by show slots + 0 ≤ 7293034; omega)⟩ d_L_law_713 rfl rfl (Nat.le_of_ble_eq_true rfl) (fun v2 _ => ?_)
  change G Γ mkW cells slots 716 [(6, .int w1.1), (0, .ref SCR), (1, .ref a1), (2, .ref a2), (3, .ref a3), (4, .int x4), (5, .int x5)] [.int v2] w1.2 _
  refine g_iload (pc := 716) (j := 6) K d_L_law_716 rfl ?_
  refine g_icmp_eq (pc := 718) (tgt := 723) K d_L_law_718 (by decide) (fun _ => ?_) (fun _ => ?_)
  · refine g_iload (pc := 723) (j := 6) K d_L_law_723 rfl ?_
    refine g_if_ne (pc := 725) (tgt := 747) K d_L_law_725 (by decide) (fun _ => ?_) (fun _ => ?_)
    · refine g_sub (L' := [(0, .ref SCR), (1, .ref a1), (2, .ref a2), (3, .ref a3), (4, .int x4)]) [1, 2, 3, 4, 5] rfl ?_
      exact gb_L_law_747 K hR hS k B Bs hB hBs hk cells slots (by omega) (by omega) w1.2 a1 a2 a3 x4
    · refine g_aload_n (pc := 728) (j := 4) K d_L_law_728 rfl ?_
      refine g_iconst (pc := 729) (v := 0) K d_L_law_729 (by decide) ?_
      refine g_lald (pc := 730) K d_L_law_730 ?_
      refine g_iload (pc := 731) (j := 0) K d_L_law_731 rfl ?_
      refine g_if_eq (pc := 733) (tgt := 740) K d_L_law_733 (by decide) (fun _ => ?_) (fun _ => ?_)
      · refine g_lconst (pc := 740) (v := 0) K d_L_law_740 (by decide) ?_
        refine g_sub (L' := [(0, .ref SCR), (1, .ref a1), (2, .ref a2), (3, .ref a3), (4, .int x4)]) [1, 2, 3, 4, 5] rfl ?_
        exact gb_L_law_741 K hR hS k B Bs hB hBs hk cells slots (by omega) (by omega) w1.2 a1 a2 a3 x4 (g_l w1.2 a3 (0 : Int32).toNatClampNeg) (0 : Int64)
      · refine g_lconst (pc := 736) (v := 1) K d_L_law_736 (by decide) ?_
        refine g_goto (pc := 737) (tgt := 741) K d_L_law_737 (by decide) ?_
        refine g_sub (L' := [(0, .ref SCR), (1, .ref a1), (2, .ref a2), (3, .ref a3), (4, .int x4)]) [1, 2, 3, 4, 5] rfl ?_
        exact gb_L_law_741 K hR hS k B Bs hB hBs hk cells slots (by omega) (by omega) w1.2 a1 a2 a3 x4 (g_l w1.2 a3 (0 : Int32).toNatClampNeg) (1 : Int64)
  · refine g_iconst (pc := 721) (v := 0) K d_L_law_721 (by decide) ?_
    exact g_lret (pc := 722) K hR rfl d_L_law_722 (by omega) (by omega)
def b_L_law_680 (Ns : Nat) (xs : Nat → Int32) (k : Sg → Nat → Nat → Nat → Int32 → Option (Int32 × Sg)) (σ : Sg) (a1 : Nat) (a2 : Nat) (a3 : Nat) (x4 : Int32) (t0 : Nat) (t1 : Int32) (t2 : Int32) : Option (Int32 × Sg) := ((f_L_power σ t0 t1 t2 a3).bind (fun w3 => (if inb (x4 + (1 : Int32)) Ns = true then (if inb (x4 + (2 : Int32)) Ns = true then (if (xs (x4 + (2 : Int32)).toNatClampNeg) = 0 then (b_L_law_707 Ns xs k w3.2 a1 a2 a3 x4 w3.1 a2 (xs (x4 + (1 : Int32)).toNatClampNeg) (0 : Int32)) else (b_L_law_707 Ns xs k w3.2 a1 a2 a3 x4 w3.1 a2 (xs (x4 + (1 : Int32)).toNatClampNeg) (1 : Int32))) else none) else none)))
set_option maxRecDepth 100000 in
set_option maxHeartbeats 8000000 in
theorem gb_L_law_680 {Γ : GX} {Ns : Nat} {xs : Nat → Int32} (K : Cx Γ "TapirGroupLaw" code 7 room_1) (hR : LStd Γ) (hS : Scr Γ Ns xs) (k : Sg → Nat → Nat → Nat → Int32 → Option (Int32 × Sg)) (B Bs : Nat) (hB : B ≤ 601024) (hBs : Bs ≤ 7293034) (hk : ∀ (cells slots : Nat), cells ≤ B → slots ≤ Bs → ∀ (σ : Sg) (a1 : Nat) (a2 : Nat) (a3 : Nat) (x4 : Int32), G Γ mkW cells slots 23 [(0, .ref SCR), (1, .ref a1), (2, .ref a2), (3, .ref a3), (4, .int x4)] [] σ (k σ a1 a2 a3 x4)) (cells slots : Nat) (hc : cells + 1 ≤ B) (hs : slots + 6 ≤ Bs) (σ : Sg) (a1 : Nat) (a2 : Nat) (a3 : Nat) (x4 : Int32) (t0 : Nat) (t1 : Int32) (t2 : Int32) : G Γ mkW cells slots 680 [(0, .ref SCR), (1, .ref a1), (2, .ref a2), (3, .ref a3), (4, .int x4)] [.int t2, .int t1, .ref t0] σ (b_L_law_680 Ns xs k σ a1 a2 a3 x4 t0 t1 t2) := by
  unfold b_L_law_680
  refine g_aload_n (pc := 680) (j := 3) K d_L_law_680 rfl ?_
  refine g_callS (pc := 681) (vs := [.ref t0, .int t1, .int t2, .ref a3]) (st := []) (mkc := mkW) K cn_L_power (fun l hl r hr => k_L_power l hl _ _ _ _ _ r hr) mw_517 mw_518 ⟨by decide, by decide, (by show cells + 1 ≤ 601024; omega), (by show slots + 6 ≤ 7293034; omega)⟩ d_L_law_681 rfl rfl (Nat.le_of_ble_eq_true rfl) (fun w3 _ => ?_)
  change G Γ mkW (cells + 1) (slots + 6) 684 [(0, .ref SCR), (1, .ref a1), (2, .ref a2), (3, .ref a3), (4, .int x4)] [.int w3.1] w3.2 _
  refine g_istore (pc := 684) (L' := [(5, .int w3.1), (0, .ref SCR), (1, .ref a1), (2, .ref a2), (3, .ref a3), (4, .int x4)]) K d_L_law_684 (by decide) rfl ?_
  refine g_aload_n (pc := 686) (j := 3) K d_L_law_686 rfl ?_
  refine g_aload_n (pc := 687) (j := 1) K d_L_law_687 rfl ?_
  refine g_iload (pc := 688) (j := 5) K d_L_law_688 rfl ?_
  refine g_iconst (pc := 690) (v := 1) K d_L_law_690 (by decide) ?_
  refine g_iadd (pc := 691) K d_L_law_691 ?_
  refine g_sld (pc := 692) K hS d_L_law_692 ?_
  refine g_aload_n (pc := 693) (j := 1) K d_L_law_693 rfl ?_
  refine g_iload (pc := 694) (j := 5) K d_L_law_694 rfl ?_
  refine g_iconst (pc := 696) (v := 2) K d_L_law_696 (by decide) ?_
  refine g_iadd (pc := 697) K d_L_law_697 ?_
  refine g_sld (pc := 698) K hS d_L_law_698 ?_
  refine g_if_eq (pc := 699) (tgt := 706) K d_L_law_699 (by decide) (fun _ => ?_) (fun _ => ?_)
  · refine g_iconst (pc := 706) (v := 0) K d_L_law_706 (by decide) ?_
    refine g_sub (L' := [(0, .ref SCR), (1, .ref a1), (2, .ref a2), (3, .ref a3), (4, .int x4), (5, .int w3.1)]) [1, 2, 3, 4, 5, 0] rfl ?_
    exact gb_L_law_707 K hR hS k B Bs hB hBs hk (cells + 1) (slots + 6) (by omega) (by omega) w3.2 a1 a2 a3 x4 w3.1 a2 (xs (x4 + (1 : Int32)).toNatClampNeg) (0 : Int32)
  · refine g_iconst (pc := 702) (v := 1) K d_L_law_702 (by decide) ?_
    refine g_goto (pc := 703) (tgt := 707) K d_L_law_703 (by decide) ?_
    refine g_sub (L' := [(0, .ref SCR), (1, .ref a1), (2, .ref a2), (3, .ref a3), (4, .int x4), (5, .int w3.1)]) [1, 2, 3, 4, 5, 0] rfl ?_
    exact gb_L_law_707 K hR hS k B Bs hB hBs hk (cells + 1) (slots + 6) (by omega) (by omega) w3.2 a1 a2 a3 x4 w3.1 a2 (xs (x4 + (1 : Int32)).toNatClampNeg) (1 : Int32)
def b_L_law_620 (Ns : Nat) (xs : Nat → Int32) (k : Sg → Nat → Nat → Nat → Int32 → Option (Int32 × Sg)) (σ : Sg) (a1 : Nat) (a2 : Nat) (a3 : Nat) (x4 : Int32) : Option (Int32 × Sg) := (b_L_law_942 Ns xs k σ a1 a2 a3 x4)
set_option maxRecDepth 100000 in
set_option maxHeartbeats 8000000 in
theorem gb_L_law_620 {Γ : GX} {Ns : Nat} {xs : Nat → Int32} (K : Cx Γ "TapirGroupLaw" code 7 room_1) (hR : LStd Γ) (hS : Scr Γ Ns xs) (k : Sg → Nat → Nat → Nat → Int32 → Option (Int32 × Sg)) (B Bs : Nat) (hB : B ≤ 601024) (hBs : Bs ≤ 7293034) (hk : ∀ (cells slots : Nat), cells ≤ B → slots ≤ Bs → ∀ (σ : Sg) (a1 : Nat) (a2 : Nat) (a3 : Nat) (x4 : Int32), G Γ mkW cells slots 23 [(0, .ref SCR), (1, .ref a1), (2, .ref a2), (3, .ref a3), (4, .int x4)] [] σ (k σ a1 a2 a3 x4)) (cells slots : Nat) (hc : cells + 0 ≤ B) (hs : slots + 0 ≤ Bs) (σ : Sg) (a1 : Nat) (a2 : Nat) (a3 : Nat) (x4 : Int32) : G Γ mkW cells slots 620 [(0, .ref SCR), (1, .ref a1), (2, .ref a2), (3, .ref a3), (4, .int x4)] [] σ (b_L_law_620 Ns xs k σ a1 a2 a3 x4) := by
  unfold b_L_law_620
  refine g_goto (pc := 620) (tgt := 942) K d_L_law_620 (by decide) ?_
  exact gb_L_law_942 K hR hS k B Bs hB hBs hk cells slots (by omega) (by omega) σ a1 a2 a3 x4
def b_L_law_614 (Ns : Nat) (xs : Nat → Int32) (k : Sg → Nat → Nat → Nat → Int32 → Option (Int32 × Sg)) (σ : Sg) (a1 : Nat) (a2 : Nat) (a3 : Nat) (x4 : Int32) (t0 : Int64) (t1 : Int64) : Option (Int32 × Sg) := (if (lg_cmp t0 t1) = 0 then (b_L_law_620 Ns xs k σ a1 a2 a3 x4) else (some ((0 : Int32), σ)))
set_option maxRecDepth 100000 in
set_option maxHeartbeats 8000000 in
theorem gb_L_law_614 {Γ : GX} {Ns : Nat} {xs : Nat → Int32} (K : Cx Γ "TapirGroupLaw" code 7 room_1) (hR : LStd Γ) (hS : Scr Γ Ns xs) (k : Sg → Nat → Nat → Nat → Int32 → Option (Int32 × Sg)) (B Bs : Nat) (hB : B ≤ 601024) (hBs : Bs ≤ 7293034) (hk : ∀ (cells slots : Nat), cells ≤ B → slots ≤ Bs → ∀ (σ : Sg) (a1 : Nat) (a2 : Nat) (a3 : Nat) (x4 : Int32), G Γ mkW cells slots 23 [(0, .ref SCR), (1, .ref a1), (2, .ref a2), (3, .ref a3), (4, .int x4)] [] σ (k σ a1 a2 a3 x4)) (cells slots : Nat) (hc : cells + 0 ≤ B) (hs : slots + 0 ≤ Bs) (σ : Sg) (a1 : Nat) (a2 : Nat) (a3 : Nat) (x4 : Int32) (t0 : Int64) (t1 : Int64) : G Γ mkW cells slots 614 [(0, .ref SCR), (1, .ref a1), (2, .ref a2), (3, .ref a3), (4, .int x4)] [.long t1, .long t0] σ (b_L_law_614 Ns xs k σ a1 a2 a3 x4 t0 t1) := by
  unfold b_L_law_614
  refine g_lcmp (pc := 614) K d_L_law_614 ?_
  refine g_if_eq (pc := 615) (tgt := 620) K d_L_law_615 (by decide) (fun _ => ?_) (fun _ => ?_)
  · exact gb_L_law_620 K hR hS k B Bs hB hBs hk cells slots (by omega) (by omega) σ a1 a2 a3 x4
  · refine g_iconst (pc := 618) (v := 0) K d_L_law_618 (by decide) ?_
    exact g_lret (pc := 619) K hR rfl d_L_law_619 (by omega) (by omega)
def b_L_law_545 (Ns : Nat) (xs : Nat → Int32) (k : Sg → Nat → Nat → Nat → Int32 → Option (Int32 × Sg)) (σ : Sg) (a1 : Nat) (a2 : Nat) (a3 : Nat) (x4 : Int32) : Option (Int32 × Sg) := (b_L_law_942 Ns xs k σ a1 a2 a3 x4)
set_option maxRecDepth 100000 in
set_option maxHeartbeats 8000000 in
theorem gb_L_law_545 {Γ : GX} {Ns : Nat} {xs : Nat → Int32} (K : Cx Γ "TapirGroupLaw" code 7 room_1) (hR : LStd Γ) (hS : Scr Γ Ns xs) (k : Sg → Nat → Nat → Nat → Int32 → Option (Int32 × Sg)) (B Bs : Nat) (hB : B ≤ 601024) (hBs : Bs ≤ 7293034) (hk : ∀ (cells slots : Nat), cells ≤ B → slots ≤ Bs → ∀ (σ : Sg) (a1 : Nat) (a2 : Nat) (a3 : Nat) (x4 : Int32), G Γ mkW cells slots 23 [(0, .ref SCR), (1, .ref a1), (2, .ref a2), (3, .ref a3), (4, .int x4)] [] σ (k σ a1 a2 a3 x4)) (cells slots : Nat) (hc : cells + 0 ≤ B) (hs : slots + 0 ≤ Bs) (σ : Sg) (a1 : Nat) (a2 : Nat) (a3 : Nat) (x4 : Int32) : G Γ mkW cells slots 545 [(0, .ref SCR), (1, .ref a1), (2, .ref a2), (3, .ref a3), (4, .int x4)] [] σ (b_L_law_545 Ns xs k σ a1 a2 a3 x4) := by
  unfold b_L_law_545
  refine g_goto (pc := 545) (tgt := 942) K d_L_law_545 (by decide) ?_
  exact gb_L_law_942 K hR hS k B Bs hB hBs hk cells slots (by omega) (by omega) σ a1 a2 a3 x4
def b_L_law_477 (Ns : Nat) (xs : Nat → Int32) (k : Sg → Nat → Nat → Nat → Int32 → Option (Int32 × Sg)) (σ : Sg) (a1 : Nat) (a2 : Nat) (a3 : Nat) (x4 : Int32) : Option (Int32 × Sg) := (b_L_law_942 Ns xs k σ a1 a2 a3 x4)
set_option maxRecDepth 100000 in
set_option maxHeartbeats 8000000 in
theorem gb_L_law_477 {Γ : GX} {Ns : Nat} {xs : Nat → Int32} (K : Cx Γ "TapirGroupLaw" code 7 room_1) (hR : LStd Γ) (hS : Scr Γ Ns xs) (k : Sg → Nat → Nat → Nat → Int32 → Option (Int32 × Sg)) (B Bs : Nat) (hB : B ≤ 601024) (hBs : Bs ≤ 7293034) (hk : ∀ (cells slots : Nat), cells ≤ B → slots ≤ Bs → ∀ (σ : Sg) (a1 : Nat) (a2 : Nat) (a3 : Nat) (x4 : Int32), G Γ mkW cells slots 23 [(0, .ref SCR), (1, .ref a1), (2, .ref a2), (3, .ref a3), (4, .int x4)] [] σ (k σ a1 a2 a3 x4)) (cells slots : Nat) (hc : cells + 0 ≤ B) (hs : slots + 0 ≤ Bs) (σ : Sg) (a1 : Nat) (a2 : Nat) (a3 : Nat) (x4 : Int32) : G Γ mkW cells slots 477 [(0, .ref SCR), (1, .ref a1), (2, .ref a2), (3, .ref a3), (4, .int x4)] [] σ (b_L_law_477 Ns xs k σ a1 a2 a3 x4) := by
  unfold b_L_law_477
  refine g_goto (pc := 477) (tgt := 942) K d_L_law_477 (by decide) ?_
  exact gb_L_law_942 K hR hS k B Bs hB hBs hk cells slots (by omega) (by omega) σ a1 a2 a3 x4
def b_L_law_421 (Ns : Nat) (xs : Nat → Int32) (k : Sg → Nat → Nat → Nat → Int32 → Option (Int32 × Sg)) (σ : Sg) (a1 : Nat) (a2 : Nat) (a3 : Nat) (x4 : Int32) : Option (Int32 × Sg) := (b_L_law_942 Ns xs k σ a1 a2 a3 x4)
set_option maxRecDepth 100000 in
set_option maxHeartbeats 8000000 in
theorem gb_L_law_421 {Γ : GX} {Ns : Nat} {xs : Nat → Int32} (K : Cx Γ "TapirGroupLaw" code 7 room_1) (hR : LStd Γ) (hS : Scr Γ Ns xs) (k : Sg → Nat → Nat → Nat → Int32 → Option (Int32 × Sg)) (B Bs : Nat) (hB : B ≤ 601024) (hBs : Bs ≤ 7293034) (hk : ∀ (cells slots : Nat), cells ≤ B → slots ≤ Bs → ∀ (σ : Sg) (a1 : Nat) (a2 : Nat) (a3 : Nat) (x4 : Int32), G Γ mkW cells slots 23 [(0, .ref SCR), (1, .ref a1), (2, .ref a2), (3, .ref a3), (4, .int x4)] [] σ (k σ a1 a2 a3 x4)) (cells slots : Nat) (hc : cells + 0 ≤ B) (hs : slots + 0 ≤ Bs) (σ : Sg) (a1 : Nat) (a2 : Nat) (a3 : Nat) (x4 : Int32) : G Γ mkW cells slots 421 [(0, .ref SCR), (1, .ref a1), (2, .ref a2), (3, .ref a3), (4, .int x4)] [] σ (b_L_law_421 Ns xs k σ a1 a2 a3 x4) := by
  unfold b_L_law_421
  refine g_goto (pc := 421) (tgt := 942) K d_L_law_421 (by decide) ?_
  exact gb_L_law_942 K hR hS k B Bs hB hBs hk cells slots (by omega) (by omega) σ a1 a2 a3 x4
def b_L_law_245 (Ns : Nat) (xs : Nat → Int32) (k : Sg → Nat → Nat → Nat → Int32 → Option (Int32 × Sg)) (σ : Sg) (a1 : Nat) (a2 : Nat) (a3 : Nat) (x4 : Int32) : Option (Int32 × Sg) := (b_L_law_942 Ns xs k σ a1 a2 a3 x4)
set_option maxRecDepth 100000 in
set_option maxHeartbeats 8000000 in
theorem gb_L_law_245 {Γ : GX} {Ns : Nat} {xs : Nat → Int32} (K : Cx Γ "TapirGroupLaw" code 7 room_1) (hR : LStd Γ) (hS : Scr Γ Ns xs) (k : Sg → Nat → Nat → Nat → Int32 → Option (Int32 × Sg)) (B Bs : Nat) (hB : B ≤ 601024) (hBs : Bs ≤ 7293034) (hk : ∀ (cells slots : Nat), cells ≤ B → slots ≤ Bs → ∀ (σ : Sg) (a1 : Nat) (a2 : Nat) (a3 : Nat) (x4 : Int32), G Γ mkW cells slots 23 [(0, .ref SCR), (1, .ref a1), (2, .ref a2), (3, .ref a3), (4, .int x4)] [] σ (k σ a1 a2 a3 x4)) (cells slots : Nat) (hc : cells + 0 ≤ B) (hs : slots + 0 ≤ Bs) (σ : Sg) (a1 : Nat) (a2 : Nat) (a3 : Nat) (x4 : Int32) : G Γ mkW cells slots 245 [(0, .ref SCR), (1, .ref a1), (2, .ref a2), (3, .ref a3), (4, .int x4)] [] σ (b_L_law_245 Ns xs k σ a1 a2 a3 x4) := by
  unfold b_L_law_245
  refine g_goto (pc := 245) (tgt := 942) K d_L_law_245 (by decide) ?_
  exact gb_L_law_942 K hR hS k B Bs hB hBs hk cells slots (by omega) (by omega) σ a1 a2 a3 x4
def b_L_law_165 (Ns : Nat) (xs : Nat → Int32) (k : Sg → Nat → Nat → Nat → Int32 → Option (Int32 × Sg)) (σ : Sg) (a1 : Nat) (a2 : Nat) (a3 : Nat) (x4 : Int32) : Option (Int32 × Sg) := (b_L_law_942 Ns xs k σ a1 a2 a3 x4)
set_option maxRecDepth 100000 in
set_option maxHeartbeats 8000000 in
theorem gb_L_law_165 {Γ : GX} {Ns : Nat} {xs : Nat → Int32} (K : Cx Γ "TapirGroupLaw" code 7 room_1) (hR : LStd Γ) (hS : Scr Γ Ns xs) (k : Sg → Nat → Nat → Nat → Int32 → Option (Int32 × Sg)) (B Bs : Nat) (hB : B ≤ 601024) (hBs : Bs ≤ 7293034) (hk : ∀ (cells slots : Nat), cells ≤ B → slots ≤ Bs → ∀ (σ : Sg) (a1 : Nat) (a2 : Nat) (a3 : Nat) (x4 : Int32), G Γ mkW cells slots 23 [(0, .ref SCR), (1, .ref a1), (2, .ref a2), (3, .ref a3), (4, .int x4)] [] σ (k σ a1 a2 a3 x4)) (cells slots : Nat) (hc : cells + 0 ≤ B) (hs : slots + 0 ≤ Bs) (σ : Sg) (a1 : Nat) (a2 : Nat) (a3 : Nat) (x4 : Int32) : G Γ mkW cells slots 165 [(0, .ref SCR), (1, .ref a1), (2, .ref a2), (3, .ref a3), (4, .int x4)] [] σ (b_L_law_165 Ns xs k σ a1 a2 a3 x4) := by
  unfold b_L_law_165
  refine g_goto (pc := 165) (tgt := 942) K d_L_law_165 (by decide) ?_
  exact gb_L_law_942 K hR hS k B Bs hB hBs hk cells slots (by omega) (by omega) σ a1 a2 a3 x4
def b_L_law_23 (Ns : Nat) (xs : Nat → Int32) : Nat → Sg → Nat → Nat → Nat → Int32 → Option (Int32 × Sg)
  | 0 => fun _ _ _ _ _ => none
  | n + 1 => fun σ a1 a2 a3 x4 => (if ((nI Ns) - (4 : Int32)) < x4 then (some ((1 : Int32), σ)) else (if inb x4 Ns = true then (if ((xs x4.toNatClampNeg) &&& (15 : Int32)) = (0 : Int32) then (if inb (x4 + (1 : Int32)) Ns = true then ((f_L_begin σ a1 (xs (x4 + (1 : Int32)).toNatClampNeg) a3).bind (fun w4 => (if inb (x4 + (1 : Int32)) Ns = true then (if a2 < w4.2.1 ∧ kd a2 = 4 then (f_M_begin w4.2 a2 (xs (x4 + (1 : Int32)).toNatClampNeg)).bind (fun w5 => (if a2 < w5.2.1 ∧ kd a2 = 4 then (f_M_thrown w5.2 a2).bind (fun v6 => (if v6 = w4.1 then (if w4.1 = 0 then (if (a3 < w5.2.1 ∧ kd a3 = 12) ∧ inb (0 : Int32) (ln a3) = true then (if (lg_cmp (g_l w5.2 a3 (0 : Int32).toNatClampNeg) ((w5.1).toInt64)) = 0 then (b_L_law_165 Ns xs (b_L_law_23 Ns xs n) w5.2 a1 a2 a3 x4) else (some ((0 : Int32), w5.2))) else none) else (b_L_law_165 Ns xs (b_L_law_23 Ns xs n) w5.2 a1 a2 a3 x4)) else (some ((0 : Int32), w5.2)))) else none)) else none) else none))) else none) else (if ((xs x4.toNatClampNeg) &&& (15 : Int32)) = (1 : Int32) then (if inb (x4 + (1 : Int32)) Ns = true then (if inb (x4 + (2 : Int32)) Ns = true then (if inb (x4 + (3 : Int32)) Ns = true then ((f_L_read σ a1 (xs (x4 + (1 : Int32)).toNatClampNeg) (xs (x4 + (2 : Int32)).toNatClampNeg) (xs (x4 + (3 : Int32)).toNatClampNeg) a3).bind (fun w7 => (if inb (x4 + (1 : Int32)) Ns = true then (if inb (x4 + (2 : Int32)) Ns = true then (if inb (x4 + (3 : Int32)) Ns = true then (if a2 < w7.2.1 ∧ kd a2 = 4 then (f_M_read w7.2 a2 (xs (x4 + (1 : Int32)).toNatClampNeg) (xs (x4 + (2 : Int32)).toNatClampNeg) (xs (x4 + (3 : Int32)).toNatClampNeg)).bind (fun w8 => (if a2 < w8.2.1 ∧ kd a2 = 4 then (f_M_thrown w8.2 a2).bind (fun v9 => (if v9 = w7.1 then (if w7.1 = 0 then (if (a3 < w8.2.1 ∧ kd a3 = 12) ∧ inb (0 : Int32) (ln a3) = true then (if (lg_cmp (g_l w8.2 a3 (0 : Int32).toNatClampNeg) ((w8.1).toInt64)) = 0 then (b_L_law_245 Ns xs (b_L_law_23 Ns xs n) w8.2 a1 a2 a3 x4) else (some ((0 : Int32), w8.2))) else none) else (b_L_law_245 Ns xs (b_L_law_23 Ns xs n) w8.2 a1 a2 a3 x4)) else (some ((0 : Int32), w8.2)))) else none)) else none) else none) else none) else none))) else none) else none) else none) else (if ((xs x4.toNatClampNeg) &&& (15 : Int32)) = (2 : Int32) then (if inb (x4 + (1 : Int32)) Ns = true then (if inb (x4 + (2 : Int32)) Ns = true then (if inb (x4 + (3 : Int32)) Ns = true then ((f_L_write σ a1 (xs (x4 + (1 : Int32)).toNatClampNeg) (xs (x4 + (2 : Int32)).toNatClampNeg) (xs (x4 + (3 : Int32)).toNatClampNeg)).bind (fun w10 => (if inb (x4 + (1 : Int32)) Ns = true then (if inb (x4 + (2 : Int32)) Ns = true then (if inb (x4 + (3 : Int32)) Ns = true then (if a2 < w10.2.1 ∧ kd a2 = 4 then (f_M_write w10.2 a2 (xs (x4 + (1 : Int32)).toNatClampNeg) (xs (x4 + (2 : Int32)).toNatClampNeg) (xs (x4 + (3 : Int32)).toNatClampNeg)).bind (fun s11 => (if a2 < s11.1 ∧ kd a2 = 4 then (f_M_thrown s11 a2).bind (fun v12 => (if v12 = w10.1 then (b_L_law_942 Ns xs (b_L_law_23 Ns xs n) s11 a1 a2 a3 x4) else (some ((0 : Int32), s11)))) else none)) else none) else none) else none) else none))) else none) else none) else none) else (if ((xs x4.toNatClampNeg) &&& (15 : Int32)) = (3 : Int32) then (if inb (x4 + (1 : Int32)) Ns = true then (if inb (x4 + (2 : Int32)) Ns = true then ((f_L_propose σ a1 (xs (x4 + (1 : Int32)).toNatClampNeg) (xs (x4 + (2 : Int32)).toNatClampNeg)).bind (fun w13 => (if inb (x4 + (1 : Int32)) Ns = true then (if inb (x4 + (2 : Int32)) Ns = true then (if a2 < w13.2.1 ∧ kd a2 = 4 then (f_M_propose w13.2 a2 (xs (x4 + (1 : Int32)).toNatClampNeg) (xs (x4 + (2 : Int32)).toNatClampNeg)).bind (fun s14 => (if a2 < s14.1 ∧ kd a2 = 4 then (f_M_thrown s14 a2).bind (fun v15 => (if v15 = w13.1 then (b_L_law_942 Ns xs (b_L_law_23 Ns xs n) s14 a1 a2 a3 x4) else (some ((0 : Int32), s14)))) else none)) else none) else none) else none))) else none) else none) else (if ((xs x4.toNatClampNeg) &&& (15 : Int32)) = (4 : Int32) then (if inb (x4 + (1 : Int32)) Ns = true then (if inb (x4 + (2 : Int32)) Ns = true then ((f_L_prepare σ a1 (xs (x4 + (1 : Int32)).toNatClampNeg) (xs (x4 + (2 : Int32)).toNatClampNeg) a3).bind (fun w16 => (if inb (x4 + (1 : Int32)) Ns = true then (if inb (x4 + (2 : Int32)) Ns = true then (if a2 < w16.2.1 ∧ kd a2 = 4 then (f_M_prepare w16.2 a2 (xs (x4 + (1 : Int32)).toNatClampNeg) (xs (x4 + (2 : Int32)).toNatClampNeg)).bind (fun w17 => (if a2 < w17.2.1 ∧ kd a2 = 4 then (f_M_thrown w17.2 a2).bind (fun v18 => (if v18 = w16.1 then (if w16.1 = 0 then (if (a3 < w17.2.1 ∧ kd a3 = 12) ∧ inb (0 : Int32) (ln a3) = true then (if (lg_cmp (g_l w17.2 a3 (0 : Int32).toNatClampNeg) ((w17.1).toInt64)) = 0 then (b_L_law_421 Ns xs (b_L_law_23 Ns xs n) w17.2 a1 a2 a3 x4) else (some ((0 : Int32), w17.2))) else none) else (b_L_law_421 Ns xs (b_L_law_23 Ns xs n) w17.2 a1 a2 a3 x4)) else (some ((0 : Int32), w17.2)))) else none)) else none) else none) else none))) else none) else none) else (if ((xs x4.toNatClampNeg) &&& (15 : Int32)) = (5 : Int32) then (if inb (x4 + (1 : Int32)) Ns = true then ((f_L_decide σ a1 (xs (x4 + (1 : Int32)).toNatClampNeg) a3).bind (fun w19 => (if inb (x4 + (1 : Int32)) Ns = true then (if a2 < w19.2.1 ∧ kd a2 = 4 then (f_M_decide w19.2 a2 (xs (x4 + (1 : Int32)).toNatClampNeg)).bind (fun w20 => (if a2 < w20.2.1 ∧ kd a2 = 4 then (f_M_thrown w20.2 a2).bind (fun v21 => (if v21 = w19.1 then (if w19.1 = 0 then (if (a3 < w20.2.1 ∧ kd a3 = 12) ∧ inb (0 : Int32) (ln a3) = true then (if (lg_cmp (g_l w20.2 a3 (0 : Int32).toNatClampNeg) ((w20.1).toInt64)) = 0 then (b_L_law_477 Ns xs (b_L_law_23 Ns xs n) w20.2 a1 a2 a3 x4) else (some ((0 : Int32), w20.2))) else none) else (b_L_law_477 Ns xs (b_L_law_23 Ns xs n) w20.2 a1 a2 a3 x4)) else (some ((0 : Int32), w20.2)))) else none)) else none) else none))) else none) else (if ((xs x4.toNatClampNeg) &&& (15 : Int32)) = (6 : Int32) then (if inb (x4 + (1 : Int32)) Ns = true then (if inb (x4 + (2 : Int32)) Ns = true then ((f_L_confirm σ a1 (xs (x4 + (1 : Int32)).toNatClampNeg) (xs (x4 + (2 : Int32)).toNatClampNeg) a3).bind (fun w22 => (if inb (x4 + (1 : Int32)) Ns = true then (if inb (x4 + (2 : Int32)) Ns = true then (if a2 < w22.2.1 ∧ kd a2 = 4 then (f_M_confirm w22.2 a2 (xs (x4 + (1 : Int32)).toNatClampNeg) (xs (x4 + (2 : Int32)).toNatClampNeg)).bind (fun w23 => (if a2 < w23.2.1 ∧ kd a2 = 4 then (f_M_thrown w23.2 a2).bind (fun v24 => (if v24 = w22.1 then (if w22.1 = 0 then (if (a3 < w23.2.1 ∧ kd a3 = 12) ∧ inb (0 : Int32) (ln a3) = true then (if (lg_cmp (g_l w23.2 a3 (0 : Int32).toNatClampNeg) ((w23.1).toInt64)) = 0 then (b_L_law_545 Ns xs (b_L_law_23 Ns xs n) w23.2 a1 a2 a3 x4) else (some ((0 : Int32), w23.2))) else none) else (b_L_law_545 Ns xs (b_L_law_23 Ns xs n) w23.2 a1 a2 a3 x4)) else (some ((0 : Int32), w23.2)))) else none)) else none) else none) else none))) else none) else none) else (if ((xs x4.toNatClampNeg) &&& (15 : Int32)) = (7 : Int32) then (if inb (x4 + (1 : Int32)) Ns = true then (if inb (x4 + (2 : Int32)) Ns = true then ((f_L_finish σ a1 (xs (x4 + (1 : Int32)).toNatClampNeg) (xs (x4 + (2 : Int32)).toNatClampNeg) a3).bind (fun w25 => (if inb (x4 + (1 : Int32)) Ns = true then (if inb (x4 + (2 : Int32)) Ns = true then (if a2 < w25.2.1 ∧ kd a2 = 4 then (f_M_finish w25.2 a2 (xs (x4 + (1 : Int32)).toNatClampNeg) (xs (x4 + (2 : Int32)).toNatClampNeg)).bind (fun w26 => (if a2 < w26.2.1 ∧ kd a2 = 4 then (f_M_thrown w26.2 a2).bind (fun v27 => (if v27 = w25.1 then (if w25.1 = 0 then (if (a3 < w26.2.1 ∧ kd a3 = 12) ∧ inb (0 : Int32) (ln a3) = true then (if w26.1 = 0 then (b_L_law_614 Ns xs (b_L_law_23 Ns xs n) w26.2 a1 a2 a3 x4 (g_l w26.2 a3 (0 : Int32).toNatClampNeg) (0 : Int64)) else (b_L_law_614 Ns xs (b_L_law_23 Ns xs n) w26.2 a1 a2 a3 x4 (g_l w26.2 a3 (0 : Int32).toNatClampNeg) (1 : Int64))) else none) else (b_L_law_620 Ns xs (b_L_law_23 Ns xs n) w26.2 a1 a2 a3 x4)) else (some ((0 : Int32), w26.2)))) else none)) else none) else none) else none))) else none) else none) else (if ((xs x4.toNatClampNeg) &&& (15 : Int32)) = (8 : Int32) then (if inb (x4 + (1 : Int32)) Ns = true then ((f_L_end σ a1 (xs (x4 + (1 : Int32)).toNatClampNeg)).bind (fun w28 => (if inb (x4 + (1 : Int32)) Ns = true then (if a2 < w28.2.1 ∧ kd a2 = 4 then (f_M_end w28.2 a2 (xs (x4 + (1 : Int32)).toNatClampNeg)).bind (fun s29 => (if a2 < s29.1 ∧ kd a2 = 4 then (f_M_thrown s29 a2).bind (fun v30 => (if v30 = w28.1 then (b_L_law_942 Ns xs (b_L_law_23 Ns xs n) s29 a1 a2 a3 x4) else (some ((0 : Int32), s29)))) else none)) else none) else none))) else none) else (if ((xs x4.toNatClampNeg) &&& (15 : Int32)) = (9 : Int32) then (if inb (x4 + (1 : Int32)) Ns = true then (if inb (x4 + (2 : Int32)) Ns = true then (if (xs (x4 + (2 : Int32)).toNatClampNeg) = 0 then (b_L_law_680 Ns xs (b_L_law_23 Ns xs n) σ a1 a2 a3 x4 a1 (xs (x4 + (1 : Int32)).toNatClampNeg) (0 : Int32)) else (b_L_law_680 Ns xs (b_L_law_23 Ns xs n) σ a1 a2 a3 x4 a1 (xs (x4 + (1 : Int32)).toNatClampNeg) (1 : Int32))) else none) else none) else (if ((xs x4.toNatClampNeg) &&& (15 : Int32)) = (10 : Int32) then ((f_L_change σ a1 a3).bind (fun w31 => (if a2 < w31.2.1 ∧ kd a2 = 4 then (f_M_change w31.2 a2).bind (fun w32 => (if a2 < w32.2.1 ∧ kd a2 = 4 then (f_M_thrown w32.2 a2).bind (fun v33 => (if v33 = w31.1 then (if w31.1 = 0 then (if (a3 < w32.2.1 ∧ kd a3 = 12) ∧ inb (0 : Int32) (ln a3) = true then (if (lg_cmp (g_l w32.2 a3 (0 : Int32).toNatClampNeg) ((w32.1).toInt64)) = 0 then (b_L_law_791 Ns xs (b_L_law_23 Ns xs n) w32.2 a1 a2 a3 x4) else (some ((0 : Int32), w32.2))) else none) else (b_L_law_791 Ns xs (b_L_law_23 Ns xs n) w32.2 a1 a2 a3 x4)) else (some ((0 : Int32), w32.2)))) else none)) else none))) else (if ((xs x4.toNatClampNeg) &&& (15 : Int32)) = (11 : Int32) then (if inb (x4 + (1 : Int32)) Ns = true then (if inb (x4 + (2 : Int32)) Ns = true then (if a1 < σ.1 ∧ kd a1 = 3 then (f_G_client σ a1 (xs (x4 + (1 : Int32)).toNatClampNeg) (xs (x4 + (2 : Int32)).toNatClampNeg)).bind (fun v34 => (if inb (x4 + (1 : Int32)) Ns = true then (if inb (x4 + (2 : Int32)) Ns = true then (if a2 < σ.1 ∧ kd a2 = 4 then (f_M_client σ a2 (xs (x4 + (1 : Int32)).toNatClampNeg) (xs (x4 + (2 : Int32)).toNatClampNeg)).bind (fun w35 => (if v34 = w35.1 then (b_L_law_942 Ns xs (b_L_law_23 Ns xs n) w35.2 a1 a2 a3 x4) else (some ((0 : Int32), w35.2)))) else none) else none) else none)) else none) else none) else none) else (if ((xs x4.toNatClampNeg) &&& (15 : Int32)) = (12 : Int32) then (if inb (x4 + (1 : Int32)) Ns = true then (if inb (x4 + (2 : Int32)) Ns = true then (if inb (x4 + (3 : Int32)) Ns = true then (if a1 < σ.1 ∧ kd a1 = 3 then (f_G_at σ a1 (xs (x4 + (1 : Int32)).toNatClampNeg) (xs (x4 + (2 : Int32)).toNatClampNeg) (xs (x4 + (3 : Int32)).toNatClampNeg)).bind (fun v36 => (if inb (x4 + (1 : Int32)) Ns = true then (if inb (x4 + (2 : Int32)) Ns = true then (if inb (x4 + (3 : Int32)) Ns = true then (if a2 < σ.1 ∧ kd a2 = 4 then (f_M_at σ a2 (xs (x4 + (1 : Int32)).toNatClampNeg) (xs (x4 + (2 : Int32)).toNatClampNeg) (xs (x4 + (3 : Int32)).toNatClampNeg)).bind (fun w37 => (if v36 = w37.1 then (b_L_law_942 Ns xs (b_L_law_23 Ns xs n) w37.2 a1 a2 a3 x4) else (some ((0 : Int32), w37.2)))) else none) else none) else none) else none)) else none) else none) else none) else none) else (if ((xs x4.toNatClampNeg) &&& (15 : Int32)) = (13 : Int32) then (if inb (x4 + (1 : Int32)) Ns = true then (if inb (x4 + (2 : Int32)) Ns = true then (if a1 < σ.1 ∧ kd a1 = 3 then (f_G_record σ a1 (xs (x4 + (1 : Int32)).toNatClampNeg) (xs (x4 + (2 : Int32)).toNatClampNeg)).bind (fun v38 => (if inb (x4 + (1 : Int32)) Ns = true then (if inb (x4 + (2 : Int32)) Ns = true then (if a2 < σ.1 ∧ kd a2 = 4 then (f_M_record σ a2 (xs (x4 + (1 : Int32)).toNatClampNeg) (xs (x4 + (2 : Int32)).toNatClampNeg)).bind (fun w39 => (if v38 = w39.1 then (b_L_law_942 Ns xs (b_L_law_23 Ns xs n) w39.2 a1 a2 a3 x4) else (some ((0 : Int32), w39.2)))) else none) else none) else none)) else none) else none) else none) else (if ((xs x4.toNatClampNeg) &&& (15 : Int32)) = (14 : Int32) then (if inb (x4 + (1 : Int32)) Ns = true then (if a1 < σ.1 ∧ kd a1 = 3 then (f_G_state σ a1 (xs (x4 + (1 : Int32)).toNatClampNeg)).bind (fun v40 => (if inb (x4 + (1 : Int32)) Ns = true then (if a2 < σ.1 ∧ kd a2 = 4 then (f_M_state σ a2 (xs (x4 + (1 : Int32)).toNatClampNeg)).bind (fun w41 => (if v40 = w41.1 then (b_L_law_942 Ns xs (b_L_law_23 Ns xs n) w41.2 a1 a2 a3 x4) else (some ((0 : Int32), w41.2)))) else none) else none)) else none) else none) else (b_L_law_942 Ns xs (b_L_law_23 Ns xs n) σ a1 a2 a3 x4)))))))))))))))) else none))
set_option maxRecDepth 100000 in
set_option maxHeartbeats 8000000 in
theorem gb_L_law_23 {Γ : GX} {Ns : Nat} {xs : Nat → Int32} (K : Cx Γ "TapirGroupLaw" code 7 room_1) (hR : LStd Γ) (hS : Scr Γ Ns xs) (n : Nat) : ∀ (cells slots : Nat), cells + 10 * n ≤ 601024 → slots + 60 * n ≤ 7293034 → ∀ (σ : Sg) (a1 : Nat) (a2 : Nat) (a3 : Nat) (x4 : Int32), G Γ mkW cells slots 23 [(0, .ref SCR), (1, .ref a1), (2, .ref a2), (3, .ref a3), (4, .int x4)] [] σ (b_L_law_23 Ns xs n σ a1 a2 a3 x4) := by
  induction n with
  | zero =>
    intro cells slots hc hs σ a1 a2 a3 x4
    exact g_none
  | succ n ih =>
    intro cells slots hc hs σ a1 a2 a3 x4
    rw [b_L_law_23]
    refine g_iload (pc := 23) (j := 4) K d_L_law_23 rfl ?_
    refine g_aload_n (pc := 25) (j := 0) K d_L_law_25 rfl ?_
    refine g_slen (pc := 26) K hS d_L_law_26 ?_
    refine g_iconst (pc := 27) (v := 4) K d_L_law_27 (by decide) ?_
    refine g_isub (pc := 28) K d_L_law_28 ?_
    refine g_icmp_gt (pc := 29) (tgt := 948) K d_L_law_29 (by decide) (fun _ => ?_) (fun _ => ?_)
    · refine g_iconst (pc := 948) (v := 1) K d_L_law_948 (by decide) ?_
      exact g_lret (pc := 949) K hR rfl d_L_law_949 (by omega) (by omega)
    · refine g_aload_n (pc := 32) (j := 0) K d_L_law_32 rfl ?_
      refine g_iload (pc := 33) (j := 4) K d_L_law_33 rfl ?_
      refine g_sld (pc := 35) K hS d_L_law_35 ?_
      refine g_bipush (pc := 36) (v := 15) K d_L_law_36 (by decide) ?_
      refine g_iand (pc := 38) K d_L_law_38 ?_
      refine g_ite (fun h => ?_) (fun h0 => ?_)
      · refine g_tableIn (pc := 39) (off := 73) (tgt := 112) K d_L_law_39 (by rw [h]; decide) (by rw [h]; decide) (by rw [h]; decide) (by decide) ?_
        refine g_aload_n (pc := 112) (j := 1) K d_L_law_112 rfl ?_
        refine g_aload_n (pc := 113) (j := 0) K d_L_law_113 rfl ?_
        refine g_iload (pc := 114) (j := 4) K d_L_law_114 rfl ?_
        refine g_iconst (pc := 116) (v := 1) K d_L_law_116 (by decide) ?_
        refine g_iadd (pc := 117) K d_L_law_117 ?_
        refine g_sld (pc := 118) K hS d_L_law_118 ?_
        refine g_aload_n (pc := 119) (j := 3) K d_L_law_119 rfl ?_
        refine g_callS (pc := 120) (vs := [.ref a1, .int (xs (x4 + (1 : Int32)).toNatClampNeg), .ref a3]) (st := []) (mkc := mkW) K cn_L_begin (fun l hl r hr => k_L_begin l hl _ _ _ _ r hr) mw_167 mw_168 ⟨by decide, by decide, (by show cells + 4 ≤ 601024; omega), (by show slots + 25 ≤ 7293034; omega)⟩ d_L_law_120 rfl rfl (Nat.le_of_ble_eq_true rfl) (fun w4 _ => ?_)
        change G Γ mkW (cells + 4) (slots + 25) 123 [(0, .ref SCR), (1, .ref a1), (2, .ref a2), (3, .ref a3), (4, .int x4)] [.int w4.1] w4.2 _
        refine g_istore (pc := 123) (L' := [(5, .int w4.1), (0, .ref SCR), (1, .ref a1), (2, .ref a2), (3, .ref a3), (4, .int x4)]) K d_L_law_123 (by decide) rfl ?_
        refine g_aload_n (pc := 125) (j := 3) K d_L_law_125 rfl ?_
        refine g_aload_n (pc := 126) (j := 1) K d_L_law_126 rfl ?_
        refine g_iload (pc := 127) (j := 5) K d_L_law_127 rfl ?_
        refine g_iconst (pc := 129) (v := 1) K d_L_law_129 (by decide) ?_
        refine g_iadd (pc := 130) K d_L_law_130 ?_
        refine g_sld (pc := 131) K hS d_L_law_131 ?_
        refine g_callV (pc := 132) (ci := 4) (a := a2) (vs := [.int (xs (x4 + (1 : Int32)).toNatClampNeg)]) (st := []) (mkc := mkW) K rfl (by decide) cn_M_begin (fun l hl r hr => k_M_begin l hl _ _ _ r hr) mw_656 mw_657 mw_658 ⟨by decide, by decide, (by show (cells + 4) + 0 ≤ 601024; omega), (by show (slots + 25) + 0 ≤ 7293034; omega)⟩ d_L_law_132 rfl rfl (Nat.le_of_ble_eq_true rfl) (fun w5 _ => ?_)
        change G Γ mkW (cells + 4) (slots + 25) 135 [(5, .int w4.1), (0, .ref SCR), (1, .ref a1), (2, .ref a2), (3, .ref a3), (4, .int x4)] [.int w5.1] w5.2 _
        refine g_istore (pc := 135) (L' := [(6, .int w5.1), (5, .int w4.1), (0, .ref SCR), (1, .ref a1), (2, .ref a2), (3, .ref a3), (4, .int x4)]) K d_L_law_135 (by decide) rfl ?_
        refine g_aload_n (pc := 137) (j := 4) K d_L_law_137 rfl ?_
        refine g_callV (pc := 138) (ci := 4) (a := a2) (vs := []) (st := []) (mkc := mkI w5.2) K rfl (by decide) cn_M_thrown (fun l hl r hr => k_M_thrown l hl _ _ r hr) mw_652 mw_653 mw_654 ⟨by decide, by decide, (by show (cells + 4) + 0 ≤ 601024; omega), (by show (slots + 25) + 0 ≤ 7293034; omega)⟩ d_L_law_138 rfl rfl (Nat.le_of_ble_eq_true rfl) (fun v6 _ => ?_)
        change G Γ mkW (cells + 4) (slots + 25) 141 [(6, .int w5.1), (5, .int w4.1), (0, .ref SCR), (1, .ref a1), (2, .ref a2), (3, .ref a3), (4, .int x4)] [.int v6] w5.2 _
        refine g_iload (pc := 141) (j := 1) K d_L_law_141 rfl ?_
        refine g_icmp_eq (pc := 143) (tgt := 148) K d_L_law_143 (by decide) (fun _ => ?_) (fun _ => ?_)
        · refine g_iload (pc := 148) (j := 1) K d_L_law_148 rfl ?_
          refine g_if_ne (pc := 150) (tgt := 165) K d_L_law_150 (by decide) (fun _ => ?_) (fun _ => ?_)
          · refine g_sub (L' := [(0, .ref SCR), (1, .ref a1), (2, .ref a2), (3, .ref a3), (4, .int x4)]) [2, 3, 4, 5, 6] rfl ?_
            exact gb_L_law_165 K hR hS (b_L_law_23 Ns xs n) (601024 - 10 * n) (7293034 - 60 * n) (by omega) (by omega) (fun c1 s1 h1 h2 => ih c1 s1 (by omega) (by omega)) (cells + 4) (slots + 25) (by omega) (by omega) w5.2 a1 a2 a3 x4
          · refine g_aload_n (pc := 153) (j := 5) K d_L_law_153 rfl ?_
            refine g_iconst (pc := 154) (v := 0) K d_L_law_154 (by decide) ?_
            refine g_lald (pc := 155) K d_L_law_155 ?_
            refine g_iload (pc := 156) (j := 0) K d_L_law_156 rfl ?_
            refine g_i2l (pc := 158) K d_L_law_158 ?_
            refine g_lcmp (pc := 159) K d_L_law_159 ?_
            refine g_if_eq (pc := 160) (tgt := 165) K d_L_law_160 (by decide) (fun _ => ?_) (fun _ => ?_)
            · refine g_sub (L' := [(0, .ref SCR), (1, .ref a1), (2, .ref a2), (3, .ref a3), (4, .int x4)]) [2, 3, 4, 5, 6] rfl ?_
              exact gb_L_law_165 K hR hS (b_L_law_23 Ns xs n) (601024 - 10 * n) (7293034 - 60 * n) (by omega) (by omega) (fun c1 s1 h1 h2 => ih c1 s1 (by omega) (by omega)) (cells + 4) (slots + 25) (by omega) (by omega) w5.2 a1 a2 a3 x4
            · refine g_iconst (pc := 163) (v := 0) K d_L_law_163 (by decide) ?_
              exact g_lret (pc := 164) K hR rfl d_L_law_164 (by omega) (by omega)
        · refine g_iconst (pc := 146) (v := 0) K d_L_law_146 (by decide) ?_
          exact g_lret (pc := 147) K hR rfl d_L_law_147 (by omega) (by omega)
      · refine g_ite (fun h => ?_) (fun h1 => ?_)
        · refine g_tableIn (pc := 39) (off := 129) (tgt := 168) K d_L_law_39 (by rw [h]; decide) (by rw [h]; decide) (by rw [h]; decide) (by decide) ?_
          refine g_aload_n (pc := 168) (j := 1) K d_L_law_168 rfl ?_
          refine g_aload_n (pc := 169) (j := 0) K d_L_law_169 rfl ?_
          refine g_iload (pc := 170) (j := 4) K d_L_law_170 rfl ?_
          refine g_iconst (pc := 172) (v := 1) K d_L_law_172 (by decide) ?_
          refine g_iadd (pc := 173) K d_L_law_173 ?_
          refine g_sld (pc := 174) K hS d_L_law_174 ?_
          refine g_aload_n (pc := 175) (j := 0) K d_L_law_175 rfl ?_
          refine g_iload (pc := 176) (j := 4) K d_L_law_176 rfl ?_
          refine g_iconst (pc := 178) (v := 2) K d_L_law_178 (by decide) ?_
          refine g_iadd (pc := 179) K d_L_law_179 ?_
          refine g_sld (pc := 180) K hS d_L_law_180 ?_
          refine g_aload_n (pc := 181) (j := 0) K d_L_law_181 rfl ?_
          refine g_iload (pc := 182) (j := 4) K d_L_law_182 rfl ?_
          refine g_iconst (pc := 184) (v := 3) K d_L_law_184 (by decide) ?_
          refine g_iadd (pc := 185) K d_L_law_185 ?_
          refine g_sld (pc := 186) K hS d_L_law_186 ?_
          refine g_aload_n (pc := 187) (j := 3) K d_L_law_187 rfl ?_
          refine g_callS (pc := 188) (vs := [.ref a1, .int (xs (x4 + (1 : Int32)).toNatClampNeg), .int (xs (x4 + (2 : Int32)).toNatClampNeg), .int (xs (x4 + (3 : Int32)).toNatClampNeg), .ref a3]) (st := []) (mkc := mkW) K cn_L_read (fun l hl r hr => k_L_read l hl _ _ _ _ _ _ r hr) mw_305 mw_306 ⟨by decide, by decide, (by show cells + 1 ≤ 601024; omega), (by show slots + 6 ≤ 7293034; omega)⟩ d_L_law_188 rfl rfl (Nat.le_of_ble_eq_true rfl) (fun w7 _ => ?_)
          change G Γ mkW (cells + 1) (slots + 6) 191 [(0, .ref SCR), (1, .ref a1), (2, .ref a2), (3, .ref a3), (4, .int x4)] [.int w7.1] w7.2 _
          refine g_istore (pc := 191) (L' := [(5, .int w7.1), (0, .ref SCR), (1, .ref a1), (2, .ref a2), (3, .ref a3), (4, .int x4)]) K d_L_law_191 (by decide) rfl ?_
          refine g_aload_n (pc := 193) (j := 3) K d_L_law_193 rfl ?_
          refine g_aload_n (pc := 194) (j := 1) K d_L_law_194 rfl ?_
          refine g_iload (pc := 195) (j := 5) K d_L_law_195 rfl ?_
          refine g_iconst (pc := 197) (v := 1) K d_L_law_197 (by decide) ?_
          refine g_iadd (pc := 198) K d_L_law_198 ?_
          refine g_sld (pc := 199) K hS d_L_law_199 ?_
          refine g_aload_n (pc := 200) (j := 1) K d_L_law_200 rfl ?_
          refine g_iload (pc := 201) (j := 5) K d_L_law_201 rfl ?_
          refine g_iconst (pc := 203) (v := 2) K d_L_law_203 (by decide) ?_
          refine g_iadd (pc := 204) K d_L_law_204 ?_
          refine g_sld (pc := 205) K hS d_L_law_205 ?_
          refine g_aload_n (pc := 206) (j := 1) K d_L_law_206 rfl ?_
          refine g_iload (pc := 207) (j := 5) K d_L_law_207 rfl ?_
          refine g_iconst (pc := 209) (v := 3) K d_L_law_209 (by decide) ?_
          refine g_iadd (pc := 210) K d_L_law_210 ?_
          refine g_sld (pc := 211) K hS d_L_law_211 ?_
          refine g_callV (pc := 212) (ci := 4) (a := a2) (vs := [.int (xs (x4 + (1 : Int32)).toNatClampNeg), .int (xs (x4 + (2 : Int32)).toNatClampNeg), .int (xs (x4 + (3 : Int32)).toNatClampNeg)]) (st := []) (mkc := mkW) K rfl (by decide) cn_M_read (fun l hl r hr => k_M_read l hl _ _ _ _ _ r hr) mw_674 mw_675 mw_676 ⟨by decide, by decide, (by show (cells + 1) + 0 ≤ 601024; omega), (by show (slots + 6) + 0 ≤ 7293034; omega)⟩ d_L_law_212 rfl rfl (Nat.le_of_ble_eq_true rfl) (fun w8 _ => ?_)
          change G Γ mkW (cells + 1) (slots + 6) 215 [(5, .int w7.1), (0, .ref SCR), (1, .ref a1), (2, .ref a2), (3, .ref a3), (4, .int x4)] [.int w8.1] w8.2 _
          refine g_istore (pc := 215) (L' := [(6, .int w8.1), (5, .int w7.1), (0, .ref SCR), (1, .ref a1), (2, .ref a2), (3, .ref a3), (4, .int x4)]) K d_L_law_215 (by decide) rfl ?_
          refine g_aload_n (pc := 217) (j := 4) K d_L_law_217 rfl ?_
          refine g_callV (pc := 218) (ci := 4) (a := a2) (vs := []) (st := []) (mkc := mkI w8.2) K rfl (by decide) cn_M_thrown (fun l hl r hr => k_M_thrown l hl _ _ r hr) mw_652 mw_653 mw_654 ⟨by decide, by decide, (by show (cells + 1) + 0 ≤ 601024; omega), (by show (slots + 6) + 0 ≤ 7293034; omega)⟩ d_L_law_218 rfl rfl (Nat.le_of_ble_eq_true rfl) (fun v9 _ => ?_)
          change G Γ mkW (cells + 1) (slots + 6) 221 [(6, .int w8.1), (5, .int w7.1), (0, .ref SCR), (1, .ref a1), (2, .ref a2), (3, .ref a3), (4, .int x4)] [.int v9] w8.2 _
          refine g_iload (pc := 221) (j := 1) K d_L_law_221 rfl ?_
          refine g_icmp_eq (pc := 223) (tgt := 228) K d_L_law_223 (by decide) (fun _ => ?_) (fun _ => ?_)
          · refine g_iload (pc := 228) (j := 1) K d_L_law_228 rfl ?_
            refine g_if_ne (pc := 230) (tgt := 245) K d_L_law_230 (by decide) (fun _ => ?_) (fun _ => ?_)
            · refine g_sub (L' := [(0, .ref SCR), (1, .ref a1), (2, .ref a2), (3, .ref a3), (4, .int x4)]) [2, 3, 4, 5, 6] rfl ?_
              exact gb_L_law_245 K hR hS (b_L_law_23 Ns xs n) (601024 - 10 * n) (7293034 - 60 * n) (by omega) (by omega) (fun c1 s1 h1 h2 => ih c1 s1 (by omega) (by omega)) (cells + 1) (slots + 6) (by omega) (by omega) w8.2 a1 a2 a3 x4
            · refine g_aload_n (pc := 233) (j := 5) K d_L_law_233 rfl ?_
              refine g_iconst (pc := 234) (v := 0) K d_L_law_234 (by decide) ?_
              refine g_lald (pc := 235) K d_L_law_235 ?_
              refine g_iload (pc := 236) (j := 0) K d_L_law_236 rfl ?_
              refine g_i2l (pc := 238) K d_L_law_238 ?_
              refine g_lcmp (pc := 239) K d_L_law_239 ?_
              refine g_if_eq (pc := 240) (tgt := 245) K d_L_law_240 (by decide) (fun _ => ?_) (fun _ => ?_)
              · refine g_sub (L' := [(0, .ref SCR), (1, .ref a1), (2, .ref a2), (3, .ref a3), (4, .int x4)]) [2, 3, 4, 5, 6] rfl ?_
                exact gb_L_law_245 K hR hS (b_L_law_23 Ns xs n) (601024 - 10 * n) (7293034 - 60 * n) (by omega) (by omega) (fun c1 s1 h1 h2 => ih c1 s1 (by omega) (by omega)) (cells + 1) (slots + 6) (by omega) (by omega) w8.2 a1 a2 a3 x4
              · refine g_iconst (pc := 243) (v := 0) K d_L_law_243 (by decide) ?_
                exact g_lret (pc := 244) K hR rfl d_L_law_244 (by omega) (by omega)
          · refine g_iconst (pc := 226) (v := 0) K d_L_law_226 (by decide) ?_
            exact g_lret (pc := 227) K hR rfl d_L_law_227 (by omega) (by omega)
        · refine g_ite (fun h => ?_) (fun h2 => ?_)
          · refine g_tableIn (pc := 39) (off := 209) (tgt := 248) K d_L_law_39 (by rw [h]; decide) (by rw [h]; decide) (by rw [h]; decide) (by decide) ?_
            refine g_aload_n (pc := 248) (j := 1) K d_L_law_248 rfl ?_
            refine g_aload_n (pc := 249) (j := 0) K d_L_law_249 rfl ?_
            refine g_iload (pc := 250) (j := 4) K d_L_law_250 rfl ?_
            refine g_iconst (pc := 252) (v := 1) K d_L_law_252 (by decide) ?_
            refine g_iadd (pc := 253) K d_L_law_253 ?_
            refine g_sld (pc := 254) K hS d_L_law_254 ?_
            refine g_aload_n (pc := 255) (j := 0) K d_L_law_255 rfl ?_
            refine g_iload (pc := 256) (j := 4) K d_L_law_256 rfl ?_
            refine g_iconst (pc := 258) (v := 2) K d_L_law_258 (by decide) ?_
            refine g_iadd (pc := 259) K d_L_law_259 ?_
            refine g_sld (pc := 260) K hS d_L_law_260 ?_
            refine g_aload_n (pc := 261) (j := 0) K d_L_law_261 rfl ?_
            refine g_iload (pc := 262) (j := 4) K d_L_law_262 rfl ?_
            refine g_iconst (pc := 264) (v := 3) K d_L_law_264 (by decide) ?_
            refine g_iadd (pc := 265) K d_L_law_265 ?_
            refine g_sld (pc := 266) K hS d_L_law_266 ?_
            refine g_callS (pc := 267) (vs := [.ref a1, .int (xs (x4 + (1 : Int32)).toNatClampNeg), .int (xs (x4 + (2 : Int32)).toNatClampNeg), .int (xs (x4 + (3 : Int32)).toNatClampNeg)]) (st := []) (mkc := mkW) K cn_L_write (fun l hl r hr => k_L_write l hl _ _ _ _ _ r hr) mw_364 mw_365 ⟨by decide, by decide, (by show cells + 1 ≤ 601024; omega), (by show slots + 6 ≤ 7293034; omega)⟩ d_L_law_267 rfl rfl (Nat.le_of_ble_eq_true rfl) (fun w10 _ => ?_)
            change G Γ mkW (cells + 1) (slots + 6) 270 [(0, .ref SCR), (1, .ref a1), (2, .ref a2), (3, .ref a3), (4, .int x4)] [.int w10.1] w10.2 _
            refine g_istore (pc := 270) (L' := [(5, .int w10.1), (0, .ref SCR), (1, .ref a1), (2, .ref a2), (3, .ref a3), (4, .int x4)]) K d_L_law_270 (by decide) rfl ?_
            refine g_aload_n (pc := 272) (j := 3) K d_L_law_272 rfl ?_
            refine g_aload_n (pc := 273) (j := 1) K d_L_law_273 rfl ?_
            refine g_iload (pc := 274) (j := 5) K d_L_law_274 rfl ?_
            refine g_iconst (pc := 276) (v := 1) K d_L_law_276 (by decide) ?_
            refine g_iadd (pc := 277) K d_L_law_277 ?_
            refine g_sld (pc := 278) K hS d_L_law_278 ?_
            refine g_aload_n (pc := 279) (j := 1) K d_L_law_279 rfl ?_
            refine g_iload (pc := 280) (j := 5) K d_L_law_280 rfl ?_
            refine g_iconst (pc := 282) (v := 2) K d_L_law_282 (by decide) ?_
            refine g_iadd (pc := 283) K d_L_law_283 ?_
            refine g_sld (pc := 284) K hS d_L_law_284 ?_
            refine g_aload_n (pc := 285) (j := 1) K d_L_law_285 rfl ?_
            refine g_iload (pc := 286) (j := 5) K d_L_law_286 rfl ?_
            refine g_iconst (pc := 288) (v := 3) K d_L_law_288 (by decide) ?_
            refine g_iadd (pc := 289) K d_L_law_289 ?_
            refine g_sld (pc := 290) K hS d_L_law_290 ?_
            refine g_callV (pc := 291) (ci := 4) (a := a2) (vs := [.int (xs (x4 + (1 : Int32)).toNatClampNeg), .int (xs (x4 + (2 : Int32)).toNatClampNeg), .int (xs (x4 + (3 : Int32)).toNatClampNeg)]) (st := []) (mkc := mkV) K rfl (by decide) cn_M_write (fun l hl r hr => k_M_write l hl _ _ _ _ _ r hr) mw_700 mw_701 mw_702 ⟨by decide, by decide, (by show (cells + 1) + 0 ≤ 601024; omega), (by show (slots + 6) + 0 ≤ 7293034; omega)⟩ d_L_law_291 rfl rfl (Nat.le_of_ble_eq_true rfl) (fun s11 _ => ?_)
            change G Γ mkW (cells + 1) (slots + 6) 294 [(5, .int w10.1), (0, .ref SCR), (1, .ref a1), (2, .ref a2), (3, .ref a3), (4, .int x4)] [] s11 _
            refine g_aload_n (pc := 294) (j := 3) K d_L_law_294 rfl ?_
            refine g_callV (pc := 295) (ci := 4) (a := a2) (vs := []) (st := []) (mkc := mkI s11) K rfl (by decide) cn_M_thrown (fun l hl r hr => k_M_thrown l hl _ _ r hr) mw_652 mw_653 mw_654 ⟨by decide, by decide, (by show (cells + 1) + 0 ≤ 601024; omega), (by show (slots + 6) + 0 ≤ 7293034; omega)⟩ d_L_law_295 rfl rfl (Nat.le_of_ble_eq_true rfl) (fun v12 _ => ?_)
            change G Γ mkW (cells + 1) (slots + 6) 298 [(5, .int w10.1), (0, .ref SCR), (1, .ref a1), (2, .ref a2), (3, .ref a3), (4, .int x4)] [.int v12] s11 _
            refine g_iload (pc := 298) (j := 0) K d_L_law_298 rfl ?_
            refine g_icmp_eq (pc := 300) (tgt := 305) K d_L_law_300 (by decide) (fun _ => ?_) (fun _ => ?_)
            · refine g_goto (pc := 305) (tgt := 942) K d_L_law_305 (by decide) ?_
              refine g_sub (L' := [(0, .ref SCR), (1, .ref a1), (2, .ref a2), (3, .ref a3), (4, .int x4)]) [1, 2, 3, 4, 5] rfl ?_
              exact gb_L_law_942 K hR hS (b_L_law_23 Ns xs n) (601024 - 10 * n) (7293034 - 60 * n) (by omega) (by omega) (fun c1 s1 h1 h2 => ih c1 s1 (by omega) (by omega)) (cells + 1) (slots + 6) (by omega) (by omega) s11 a1 a2 a3 x4
            · refine g_iconst (pc := 303) (v := 0) K d_L_law_303 (by decide) ?_
              exact g_lret (pc := 304) K hR rfl d_L_law_304 (by omega) (by omega)
          · refine g_ite (fun h => ?_) (fun h3 => ?_)
            · refine g_tableIn (pc := 39) (off := 269) (tgt := 308) K d_L_law_39 (by rw [h]; decide) (by rw [h]; decide) (by rw [h]; decide) (by decide) ?_
              refine g_aload_n (pc := 308) (j := 1) K d_L_law_308 rfl ?_
              refine g_aload_n (pc := 309) (j := 0) K d_L_law_309 rfl ?_
              refine g_iload (pc := 310) (j := 4) K d_L_law_310 rfl ?_
              refine g_iconst (pc := 312) (v := 1) K d_L_law_312 (by decide) ?_
              refine g_iadd (pc := 313) K d_L_law_313 ?_
              refine g_sld (pc := 314) K hS d_L_law_314 ?_
              refine g_aload_n (pc := 315) (j := 0) K d_L_law_315 rfl ?_
              refine g_iload (pc := 316) (j := 4) K d_L_law_316 rfl ?_
              refine g_iconst (pc := 318) (v := 2) K d_L_law_318 (by decide) ?_
              refine g_iadd (pc := 319) K d_L_law_319 ?_
              refine g_sld (pc := 320) K hS d_L_law_320 ?_
              refine g_callS (pc := 321) (vs := [.ref a1, .int (xs (x4 + (1 : Int32)).toNatClampNeg), .int (xs (x4 + (2 : Int32)).toNatClampNeg)]) (st := []) (mkc := mkW) K cn_L_propose (fun l hl r hr => k_L_propose l hl _ _ _ _ r hr) mw_377 mw_378 ⟨by decide, by decide, (by show cells + 1 ≤ 601024; omega), (by show slots + 6 ≤ 7293034; omega)⟩ d_L_law_321 rfl rfl (Nat.le_of_ble_eq_true rfl) (fun w13 _ => ?_)
              change G Γ mkW (cells + 1) (slots + 6) 324 [(0, .ref SCR), (1, .ref a1), (2, .ref a2), (3, .ref a3), (4, .int x4)] [.int w13.1] w13.2 _
              refine g_istore (pc := 324) (L' := [(5, .int w13.1), (0, .ref SCR), (1, .ref a1), (2, .ref a2), (3, .ref a3), (4, .int x4)]) K d_L_law_324 (by decide) rfl ?_
              refine g_aload_n (pc := 326) (j := 3) K d_L_law_326 rfl ?_
              refine g_aload_n (pc := 327) (j := 1) K d_L_law_327 rfl ?_
              refine g_iload (pc := 328) (j := 5) K d_L_law_328 rfl ?_
              refine g_iconst (pc := 330) (v := 1) K d_L_law_330 (by decide) ?_
              refine g_iadd (pc := 331) K d_L_law_331 ?_
              refine g_sld (pc := 332) K hS d_L_law_332 ?_
              refine g_aload_n (pc := 333) (j := 1) K d_L_law_333 rfl ?_
              refine g_iload (pc := 334) (j := 5) K d_L_law_334 rfl ?_
              refine g_iconst (pc := 336) (v := 2) K d_L_law_336 (by decide) ?_
              refine g_iadd (pc := 337) K d_L_law_337 ?_
              refine g_sld (pc := 338) K hS d_L_law_338 ?_
              refine g_callV (pc := 339) (ci := 4) (a := a2) (vs := [.int (xs (x4 + (1 : Int32)).toNatClampNeg), .int (xs (x4 + (2 : Int32)).toNatClampNeg)]) (st := []) (mkc := mkV) K rfl (by decide) cn_M_propose (fun l hl r hr => k_M_propose l hl _ _ _ _ r hr) mw_704 mw_705 mw_706 ⟨by decide, by decide, (by show (cells + 1) + 0 ≤ 601024; omega), (by show (slots + 6) + 0 ≤ 7293034; omega)⟩ d_L_law_339 rfl rfl (Nat.le_of_ble_eq_true rfl) (fun s14 _ => ?_)
              change G Γ mkW (cells + 1) (slots + 6) 342 [(5, .int w13.1), (0, .ref SCR), (1, .ref a1), (2, .ref a2), (3, .ref a3), (4, .int x4)] [] s14 _
              refine g_aload_n (pc := 342) (j := 3) K d_L_law_342 rfl ?_
              refine g_callV (pc := 343) (ci := 4) (a := a2) (vs := []) (st := []) (mkc := mkI s14) K rfl (by decide) cn_M_thrown (fun l hl r hr => k_M_thrown l hl _ _ r hr) mw_652 mw_653 mw_654 ⟨by decide, by decide, (by show (cells + 1) + 0 ≤ 601024; omega), (by show (slots + 6) + 0 ≤ 7293034; omega)⟩ d_L_law_343 rfl rfl (Nat.le_of_ble_eq_true rfl) (fun v15 _ => ?_)
              change G Γ mkW (cells + 1) (slots + 6) 346 [(5, .int w13.1), (0, .ref SCR), (1, .ref a1), (2, .ref a2), (3, .ref a3), (4, .int x4)] [.int v15] s14 _
              refine g_iload (pc := 346) (j := 0) K d_L_law_346 rfl ?_
              refine g_icmp_eq (pc := 348) (tgt := 353) K d_L_law_348 (by decide) (fun _ => ?_) (fun _ => ?_)
              · refine g_goto (pc := 353) (tgt := 942) K d_L_law_353 (by decide) ?_
                refine g_sub (L' := [(0, .ref SCR), (1, .ref a1), (2, .ref a2), (3, .ref a3), (4, .int x4)]) [1, 2, 3, 4, 5] rfl ?_
                exact gb_L_law_942 K hR hS (b_L_law_23 Ns xs n) (601024 - 10 * n) (7293034 - 60 * n) (by omega) (by omega) (fun c1 s1 h1 h2 => ih c1 s1 (by omega) (by omega)) (cells + 1) (slots + 6) (by omega) (by omega) s14 a1 a2 a3 x4
              · refine g_iconst (pc := 351) (v := 0) K d_L_law_351 (by decide) ?_
                exact g_lret (pc := 352) K hR rfl d_L_law_352 (by omega) (by omega)
            · refine g_ite (fun h => ?_) (fun h4 => ?_)
              · refine g_tableIn (pc := 39) (off := 317) (tgt := 356) K d_L_law_39 (by rw [h]; decide) (by rw [h]; decide) (by rw [h]; decide) (by decide) ?_
                refine g_aload_n (pc := 356) (j := 1) K d_L_law_356 rfl ?_
                refine g_aload_n (pc := 357) (j := 0) K d_L_law_357 rfl ?_
                refine g_iload (pc := 358) (j := 4) K d_L_law_358 rfl ?_
                refine g_iconst (pc := 360) (v := 1) K d_L_law_360 (by decide) ?_
                refine g_iadd (pc := 361) K d_L_law_361 ?_
                refine g_sld (pc := 362) K hS d_L_law_362 ?_
                refine g_aload_n (pc := 363) (j := 0) K d_L_law_363 rfl ?_
                refine g_iload (pc := 364) (j := 4) K d_L_law_364 rfl ?_
                refine g_iconst (pc := 366) (v := 2) K d_L_law_366 (by decide) ?_
                refine g_iadd (pc := 367) K d_L_law_367 ?_
                refine g_sld (pc := 368) K hS d_L_law_368 ?_
                refine g_aload_n (pc := 369) (j := 3) K d_L_law_369 rfl ?_
                refine g_callS (pc := 370) (vs := [.ref a1, .int (xs (x4 + (1 : Int32)).toNatClampNeg), .int (xs (x4 + (2 : Int32)).toNatClampNeg), .ref a3]) (st := []) (mkc := mkW) K cn_L_prepare (fun l hl r hr => k_L_prepare l hl _ _ _ _ _ r hr) mw_399 mw_400 ⟨by decide, by decide, (by show cells + 1 ≤ 601024; omega), (by show slots + 6 ≤ 7293034; omega)⟩ d_L_law_370 rfl rfl (Nat.le_of_ble_eq_true rfl) (fun w16 _ => ?_)
                change G Γ mkW (cells + 1) (slots + 6) 373 [(0, .ref SCR), (1, .ref a1), (2, .ref a2), (3, .ref a3), (4, .int x4)] [.int w16.1] w16.2 _
                refine g_istore (pc := 373) (L' := [(5, .int w16.1), (0, .ref SCR), (1, .ref a1), (2, .ref a2), (3, .ref a3), (4, .int x4)]) K d_L_law_373 (by decide) rfl ?_
                refine g_aload_n (pc := 375) (j := 3) K d_L_law_375 rfl ?_
                refine g_aload_n (pc := 376) (j := 1) K d_L_law_376 rfl ?_
                refine g_iload (pc := 377) (j := 5) K d_L_law_377 rfl ?_
                refine g_iconst (pc := 379) (v := 1) K d_L_law_379 (by decide) ?_
                refine g_iadd (pc := 380) K d_L_law_380 ?_
                refine g_sld (pc := 381) K hS d_L_law_381 ?_
                refine g_aload_n (pc := 382) (j := 1) K d_L_law_382 rfl ?_
                refine g_iload (pc := 383) (j := 5) K d_L_law_383 rfl ?_
                refine g_iconst (pc := 385) (v := 2) K d_L_law_385 (by decide) ?_
                refine g_iadd (pc := 386) K d_L_law_386 ?_
                refine g_sld (pc := 387) K hS d_L_law_387 ?_
                refine g_callV (pc := 388) (ci := 4) (a := a2) (vs := [.int (xs (x4 + (1 : Int32)).toNatClampNeg), .int (xs (x4 + (2 : Int32)).toNatClampNeg)]) (st := []) (mkc := mkW) K rfl (by decide) cn_M_prepare (fun l hl r hr => k_M_prepare l hl _ _ _ _ r hr) mw_709 mw_710 mw_711 ⟨by decide, by decide, (by show (cells + 1) + 0 ≤ 601024; omega), (by show (slots + 6) + 0 ≤ 7293034; omega)⟩ d_L_law_388 rfl rfl (Nat.le_of_ble_eq_true rfl) (fun w17 _ => ?_)
                change G Γ mkW (cells + 1) (slots + 6) 391 [(5, .int w16.1), (0, .ref SCR), (1, .ref a1), (2, .ref a2), (3, .ref a3), (4, .int x4)] [.int w17.1] w17.2 _
                refine g_istore (pc := 391) (L' := [(6, .int w17.1), (5, .int w16.1), (0, .ref SCR), (1, .ref a1), (2, .ref a2), (3, .ref a3), (4, .int x4)]) K d_L_law_391 (by decide) rfl ?_
                refine g_aload_n (pc := 393) (j := 4) K d_L_law_393 rfl ?_
                refine g_callV (pc := 394) (ci := 4) (a := a2) (vs := []) (st := []) (mkc := mkI w17.2) K rfl (by decide) cn_M_thrown (fun l hl r hr => k_M_thrown l hl _ _ r hr) mw_652 mw_653 mw_654 ⟨by decide, by decide, (by show (cells + 1) + 0 ≤ 601024; omega), (by show (slots + 6) + 0 ≤ 7293034; omega)⟩ d_L_law_394 rfl rfl (Nat.le_of_ble_eq_true rfl) (fun v18 _ => ?_)
                change G Γ mkW (cells + 1) (slots + 6) 397 [(6, .int w17.1), (5, .int w16.1), (0, .ref SCR), (1, .ref a1), (2, .ref a2), (3, .ref a3), (4, .int x4)] [.int v18] w17.2 _
                refine g_iload (pc := 397) (j := 1) K d_L_law_397 rfl ?_
                refine g_icmp_eq (pc := 399) (tgt := 404) K d_L_law_399 (by decide) (fun _ => ?_) (fun _ => ?_)
                · refine g_iload (pc := 404) (j := 1) K d_L_law_404 rfl ?_
                  refine g_if_ne (pc := 406) (tgt := 421) K d_L_law_406 (by decide) (fun _ => ?_) (fun _ => ?_)
                  · refine g_sub (L' := [(0, .ref SCR), (1, .ref a1), (2, .ref a2), (3, .ref a3), (4, .int x4)]) [2, 3, 4, 5, 6] rfl ?_
                    exact gb_L_law_421 K hR hS (b_L_law_23 Ns xs n) (601024 - 10 * n) (7293034 - 60 * n) (by omega) (by omega) (fun c1 s1 h1 h2 => ih c1 s1 (by omega) (by omega)) (cells + 1) (slots + 6) (by omega) (by omega) w17.2 a1 a2 a3 x4
                  · refine g_aload_n (pc := 409) (j := 5) K d_L_law_409 rfl ?_
                    refine g_iconst (pc := 410) (v := 0) K d_L_law_410 (by decide) ?_
                    refine g_lald (pc := 411) K d_L_law_411 ?_
                    refine g_iload (pc := 412) (j := 0) K d_L_law_412 rfl ?_
                    refine g_i2l (pc := 414) K d_L_law_414 ?_
                    refine g_lcmp (pc := 415) K d_L_law_415 ?_
                    refine g_if_eq (pc := 416) (tgt := 421) K d_L_law_416 (by decide) (fun _ => ?_) (fun _ => ?_)
                    · refine g_sub (L' := [(0, .ref SCR), (1, .ref a1), (2, .ref a2), (3, .ref a3), (4, .int x4)]) [2, 3, 4, 5, 6] rfl ?_
                      exact gb_L_law_421 K hR hS (b_L_law_23 Ns xs n) (601024 - 10 * n) (7293034 - 60 * n) (by omega) (by omega) (fun c1 s1 h1 h2 => ih c1 s1 (by omega) (by omega)) (cells + 1) (slots + 6) (by omega) (by omega) w17.2 a1 a2 a3 x4
                    · refine g_iconst (pc := 419) (v := 0) K d_L_law_419 (by decide) ?_
                      exact g_lret (pc := 420) K hR rfl d_L_law_420 (by omega) (by omega)
                · refine g_iconst (pc := 402) (v := 0) K d_L_law_402 (by decide) ?_
                  exact g_lret (pc := 403) K hR rfl d_L_law_403 (by omega) (by omega)
              · refine g_ite (fun h => ?_) (fun h5 => ?_)
                · refine g_tableIn (pc := 39) (off := 385) (tgt := 424) K d_L_law_39 (by rw [h]; decide) (by rw [h]; decide) (by rw [h]; decide) (by decide) ?_
                  refine g_aload_n (pc := 424) (j := 1) K d_L_law_424 rfl ?_
                  refine g_aload_n (pc := 425) (j := 0) K d_L_law_425 rfl ?_
                  refine g_iload (pc := 426) (j := 4) K d_L_law_426 rfl ?_
                  refine g_iconst (pc := 428) (v := 1) K d_L_law_428 (by decide) ?_
                  refine g_iadd (pc := 429) K d_L_law_429 ?_
                  refine g_sld (pc := 430) K hS d_L_law_430 ?_
                  refine g_aload_n (pc := 431) (j := 3) K d_L_law_431 rfl ?_
                  refine g_callS (pc := 432) (vs := [.ref a1, .int (xs (x4 + (1 : Int32)).toNatClampNeg), .ref a3]) (st := []) (mkc := mkW) K cn_L_decide (fun l hl r hr => k_L_decide l hl _ _ _ _ r hr) mw_448 mw_449 ⟨by decide, by decide, (by show cells + 1 ≤ 601024; omega), (by show slots + 6 ≤ 7293034; omega)⟩ d_L_law_432 rfl rfl (Nat.le_of_ble_eq_true rfl) (fun w19 _ => ?_)
                  change G Γ mkW (cells + 1) (slots + 6) 435 [(0, .ref SCR), (1, .ref a1), (2, .ref a2), (3, .ref a3), (4, .int x4)] [.int w19.1] w19.2 _
                  refine g_istore (pc := 435) (L' := [(5, .int w19.1), (0, .ref SCR), (1, .ref a1), (2, .ref a2), (3, .ref a3), (4, .int x4)]) K d_L_law_435 (by decide) rfl ?_
                  refine g_aload_n (pc := 437) (j := 3) K d_L_law_437 rfl ?_
                  refine g_aload_n (pc := 438) (j := 1) K d_L_law_438 rfl ?_
                  refine g_iload (pc := 439) (j := 5) K d_L_law_439 rfl ?_
                  refine g_iconst (pc := 441) (v := 1) K d_L_law_441 (by decide) ?_
                  refine g_iadd (pc := 442) K d_L_law_442 ?_
                  refine g_sld (pc := 443) K hS d_L_law_443 ?_
                  refine g_callV (pc := 444) (ci := 4) (a := a2) (vs := [.int (xs (x4 + (1 : Int32)).toNatClampNeg)]) (st := []) (mkc := mkW) K rfl (by decide) cn_M_decide (fun l hl r hr => k_M_decide l hl _ _ _ r hr) mw_729 mw_730 mw_731 ⟨by decide, by decide, (by show (cells + 1) + 0 ≤ 601024; omega), (by show (slots + 6) + 0 ≤ 7293034; omega)⟩ d_L_law_444 rfl rfl (Nat.le_of_ble_eq_true rfl) (fun w20 _ => ?_)
                  change G Γ mkW (cells + 1) (slots + 6) 447 [(5, .int w19.1), (0, .ref SCR), (1, .ref a1), (2, .ref a2), (3, .ref a3), (4, .int x4)] [.int w20.1] w20.2 _
                  refine g_istore (pc := 447) (L' := [(6, .int w20.1), (5, .int w19.1), (0, .ref SCR), (1, .ref a1), (2, .ref a2), (3, .ref a3), (4, .int x4)]) K d_L_law_447 (by decide) rfl ?_
                  refine g_aload_n (pc := 449) (j := 4) K d_L_law_449 rfl ?_
                  refine g_callV (pc := 450) (ci := 4) (a := a2) (vs := []) (st := []) (mkc := mkI w20.2) K rfl (by decide) cn_M_thrown (fun l hl r hr => k_M_thrown l hl _ _ r hr) mw_652 mw_653 mw_654 ⟨by decide, by decide, (by show (cells + 1) + 0 ≤ 601024; omega), (by show (slots + 6) + 0 ≤ 7293034; omega)⟩ d_L_law_450 rfl rfl (Nat.le_of_ble_eq_true rfl) (fun v21 _ => ?_)
                  change G Γ mkW (cells + 1) (slots + 6) 453 [(6, .int w20.1), (5, .int w19.1), (0, .ref SCR), (1, .ref a1), (2, .ref a2), (3, .ref a3), (4, .int x4)] [.int v21] w20.2 _
                  refine g_iload (pc := 453) (j := 1) K d_L_law_453 rfl ?_
                  refine g_icmp_eq (pc := 455) (tgt := 460) K d_L_law_455 (by decide) (fun _ => ?_) (fun _ => ?_)
                  · refine g_iload (pc := 460) (j := 1) K d_L_law_460 rfl ?_
                    refine g_if_ne (pc := 462) (tgt := 477) K d_L_law_462 (by decide) (fun _ => ?_) (fun _ => ?_)
                    · refine g_sub (L' := [(0, .ref SCR), (1, .ref a1), (2, .ref a2), (3, .ref a3), (4, .int x4)]) [2, 3, 4, 5, 6] rfl ?_
                      exact gb_L_law_477 K hR hS (b_L_law_23 Ns xs n) (601024 - 10 * n) (7293034 - 60 * n) (by omega) (by omega) (fun c1 s1 h1 h2 => ih c1 s1 (by omega) (by omega)) (cells + 1) (slots + 6) (by omega) (by omega) w20.2 a1 a2 a3 x4
                    · refine g_aload_n (pc := 465) (j := 5) K d_L_law_465 rfl ?_
                      refine g_iconst (pc := 466) (v := 0) K d_L_law_466 (by decide) ?_
                      refine g_lald (pc := 467) K d_L_law_467 ?_
                      refine g_iload (pc := 468) (j := 0) K d_L_law_468 rfl ?_
                      refine g_i2l (pc := 470) K d_L_law_470 ?_
                      refine g_lcmp (pc := 471) K d_L_law_471 ?_
                      refine g_if_eq (pc := 472) (tgt := 477) K d_L_law_472 (by decide) (fun _ => ?_) (fun _ => ?_)
                      · refine g_sub (L' := [(0, .ref SCR), (1, .ref a1), (2, .ref a2), (3, .ref a3), (4, .int x4)]) [2, 3, 4, 5, 6] rfl ?_
                        exact gb_L_law_477 K hR hS (b_L_law_23 Ns xs n) (601024 - 10 * n) (7293034 - 60 * n) (by omega) (by omega) (fun c1 s1 h1 h2 => ih c1 s1 (by omega) (by omega)) (cells + 1) (slots + 6) (by omega) (by omega) w20.2 a1 a2 a3 x4
                      · refine g_iconst (pc := 475) (v := 0) K d_L_law_475 (by decide) ?_
                        exact g_lret (pc := 476) K hR rfl d_L_law_476 (by omega) (by omega)
                  · refine g_iconst (pc := 458) (v := 0) K d_L_law_458 (by decide) ?_
                    exact g_lret (pc := 459) K hR rfl d_L_law_459 (by omega) (by omega)
                · refine g_ite (fun h => ?_) (fun h6 => ?_)
                  · refine g_tableIn (pc := 39) (off := 441) (tgt := 480) K d_L_law_39 (by rw [h]; decide) (by rw [h]; decide) (by rw [h]; decide) (by decide) ?_
                    refine g_aload_n (pc := 480) (j := 1) K d_L_law_480 rfl ?_
                    refine g_aload_n (pc := 481) (j := 0) K d_L_law_481 rfl ?_
                    refine g_iload (pc := 482) (j := 4) K d_L_law_482 rfl ?_
                    refine g_iconst (pc := 484) (v := 1) K d_L_law_484 (by decide) ?_
                    refine g_iadd (pc := 485) K d_L_law_485 ?_
                    refine g_sld (pc := 486) K hS d_L_law_486 ?_
                    refine g_aload_n (pc := 487) (j := 0) K d_L_law_487 rfl ?_
                    refine g_iload (pc := 488) (j := 4) K d_L_law_488 rfl ?_
                    refine g_iconst (pc := 490) (v := 2) K d_L_law_490 (by decide) ?_
                    refine g_iadd (pc := 491) K d_L_law_491 ?_
                    refine g_sld (pc := 492) K hS d_L_law_492 ?_
                    refine g_aload_n (pc := 493) (j := 3) K d_L_law_493 rfl ?_
                    refine g_callS (pc := 494) (vs := [.ref a1, .int (xs (x4 + (1 : Int32)).toNatClampNeg), .int (xs (x4 + (2 : Int32)).toNatClampNeg), .ref a3]) (st := []) (mkc := mkW) K cn_L_confirm (fun l hl r hr => k_L_confirm l hl _ _ _ _ _ r hr) mw_472 mw_473 ⟨by decide, by decide, (by show cells + 1 ≤ 601024; omega), (by show slots + 6 ≤ 7293034; omega)⟩ d_L_law_494 rfl rfl (Nat.le_of_ble_eq_true rfl) (fun w22 _ => ?_)
                    change G Γ mkW (cells + 1) (slots + 6) 497 [(0, .ref SCR), (1, .ref a1), (2, .ref a2), (3, .ref a3), (4, .int x4)] [.int w22.1] w22.2 _
                    refine g_istore (pc := 497) (L' := [(5, .int w22.1), (0, .ref SCR), (1, .ref a1), (2, .ref a2), (3, .ref a3), (4, .int x4)]) K d_L_law_497 (by decide) rfl ?_
                    refine g_aload_n (pc := 499) (j := 3) K d_L_law_499 rfl ?_
                    refine g_aload_n (pc := 500) (j := 1) K d_L_law_500 rfl ?_
                    refine g_iload (pc := 501) (j := 5) K d_L_law_501 rfl ?_
                    refine g_iconst (pc := 503) (v := 1) K d_L_law_503 (by decide) ?_
                    refine g_iadd (pc := 504) K d_L_law_504 ?_
                    refine g_sld (pc := 505) K hS d_L_law_505 ?_
                    refine g_aload_n (pc := 506) (j := 1) K d_L_law_506 rfl ?_
                    refine g_iload (pc := 507) (j := 5) K d_L_law_507 rfl ?_
                    refine g_iconst (pc := 509) (v := 2) K d_L_law_509 (by decide) ?_
                    refine g_iadd (pc := 510) K d_L_law_510 ?_
                    refine g_sld (pc := 511) K hS d_L_law_511 ?_
                    refine g_callV (pc := 512) (ci := 4) (a := a2) (vs := [.int (xs (x4 + (1 : Int32)).toNatClampNeg), .int (xs (x4 + (2 : Int32)).toNatClampNeg)]) (st := []) (mkc := mkW) K rfl (by decide) cn_M_confirm (fun l hl r hr => k_M_confirm l hl _ _ _ _ r hr) mw_741 mw_742 mw_743 ⟨by decide, by decide, (by show (cells + 1) + 0 ≤ 601024; omega), (by show (slots + 6) + 0 ≤ 7293034; omega)⟩ d_L_law_512 rfl rfl (Nat.le_of_ble_eq_true rfl) (fun w23 _ => ?_)
                    change G Γ mkW (cells + 1) (slots + 6) 515 [(5, .int w22.1), (0, .ref SCR), (1, .ref a1), (2, .ref a2), (3, .ref a3), (4, .int x4)] [.int w23.1] w23.2 _
                    refine g_istore (pc := 515) (L' := [(6, .int w23.1), (5, .int w22.1), (0, .ref SCR), (1, .ref a1), (2, .ref a2), (3, .ref a3), (4, .int x4)]) K d_L_law_515 (by decide) rfl ?_
                    refine g_aload_n (pc := 517) (j := 4) K d_L_law_517 rfl ?_
                    refine g_callV (pc := 518) (ci := 4) (a := a2) (vs := []) (st := []) (mkc := mkI w23.2) K rfl (by decide) cn_M_thrown (fun l hl r hr => k_M_thrown l hl _ _ r hr) mw_652 mw_653 mw_654 ⟨by decide, by decide, (by show (cells + 1) + 0 ≤ 601024; omega), (by show (slots + 6) + 0 ≤ 7293034; omega)⟩ d_L_law_518 rfl rfl (Nat.le_of_ble_eq_true rfl) (fun v24 _ => ?_)
                    change G Γ mkW (cells + 1) (slots + 6) 521 [(6, .int w23.1), (5, .int w22.1), (0, .ref SCR), (1, .ref a1), (2, .ref a2), (3, .ref a3), (4, .int x4)] [.int v24] w23.2 _
                    refine g_iload (pc := 521) (j := 1) K d_L_law_521 rfl ?_
                    refine g_icmp_eq (pc := 523) (tgt := 528) K d_L_law_523 (by decide) (fun _ => ?_) (fun _ => ?_)
                    · refine g_iload (pc := 528) (j := 1) K d_L_law_528 rfl ?_
                      refine g_if_ne (pc := 530) (tgt := 545) K d_L_law_530 (by decide) (fun _ => ?_) (fun _ => ?_)
                      · refine g_sub (L' := [(0, .ref SCR), (1, .ref a1), (2, .ref a2), (3, .ref a3), (4, .int x4)]) [2, 3, 4, 5, 6] rfl ?_
                        exact gb_L_law_545 K hR hS (b_L_law_23 Ns xs n) (601024 - 10 * n) (7293034 - 60 * n) (by omega) (by omega) (fun c1 s1 h1 h2 => ih c1 s1 (by omega) (by omega)) (cells + 1) (slots + 6) (by omega) (by omega) w23.2 a1 a2 a3 x4
                      · refine g_aload_n (pc := 533) (j := 5) K d_L_law_533 rfl ?_
                        refine g_iconst (pc := 534) (v := 0) K d_L_law_534 (by decide) ?_
                        refine g_lald (pc := 535) K d_L_law_535 ?_
                        refine g_iload (pc := 536) (j := 0) K d_L_law_536 rfl ?_
                        refine g_i2l (pc := 538) K d_L_law_538 ?_
                        refine g_lcmp (pc := 539) K d_L_law_539 ?_
                        refine g_if_eq (pc := 540) (tgt := 545) K d_L_law_540 (by decide) (fun _ => ?_) (fun _ => ?_)
                        · refine g_sub (L' := [(0, .ref SCR), (1, .ref a1), (2, .ref a2), (3, .ref a3), (4, .int x4)]) [2, 3, 4, 5, 6] rfl ?_
                          exact gb_L_law_545 K hR hS (b_L_law_23 Ns xs n) (601024 - 10 * n) (7293034 - 60 * n) (by omega) (by omega) (fun c1 s1 h1 h2 => ih c1 s1 (by omega) (by omega)) (cells + 1) (slots + 6) (by omega) (by omega) w23.2 a1 a2 a3 x4
                        · refine g_iconst (pc := 543) (v := 0) K d_L_law_543 (by decide) ?_
                          exact g_lret (pc := 544) K hR rfl d_L_law_544 (by omega) (by omega)
                    · refine g_iconst (pc := 526) (v := 0) K d_L_law_526 (by decide) ?_
                      exact g_lret (pc := 527) K hR rfl d_L_law_527 (by omega) (by omega)
                  · refine g_ite (fun h => ?_) (fun h7 => ?_)
                    · refine g_tableIn (pc := 39) (off := 509) (tgt := 548) K d_L_law_39 (by rw [h]; decide) (by rw [h]; decide) (by rw [h]; decide) (by decide) ?_
                      refine g_aload_n (pc := 548) (j := 1) K d_L_law_548 rfl ?_
                      refine g_aload_n (pc := 549) (j := 0) K d_L_law_549 rfl ?_
                      refine g_iload (pc := 550) (j := 4) K d_L_law_550 rfl ?_
                      refine g_iconst (pc := 552) (v := 1) K d_L_law_552 (by decide) ?_
                      refine g_iadd (pc := 553) K d_L_law_553 ?_
                      refine g_sld (pc := 554) K hS d_L_law_554 ?_
                      refine g_aload_n (pc := 555) (j := 0) K d_L_law_555 rfl ?_
                      refine g_iload (pc := 556) (j := 4) K d_L_law_556 rfl ?_
                      refine g_iconst (pc := 558) (v := 2) K d_L_law_558 (by decide) ?_
                      refine g_iadd (pc := 559) K d_L_law_559 ?_
                      refine g_sld (pc := 560) K hS d_L_law_560 ?_
                      refine g_aload_n (pc := 561) (j := 3) K d_L_law_561 rfl ?_
                      refine g_callS (pc := 562) (vs := [.ref a1, .int (xs (x4 + (1 : Int32)).toNatClampNeg), .int (xs (x4 + (2 : Int32)).toNatClampNeg), .ref a3]) (st := []) (mkc := mkW) K cn_L_finish (fun l hl r hr => k_L_finish l hl _ _ _ _ _ r hr) mw_485 mw_486 ⟨by decide, by decide, (by show cells + 1 ≤ 601024; omega), (by show slots + 6 ≤ 7293034; omega)⟩ d_L_law_562 rfl rfl (Nat.le_of_ble_eq_true rfl) (fun w25 _ => ?_)
                      change G Γ mkW (cells + 1) (slots + 6) 565 [(0, .ref SCR), (1, .ref a1), (2, .ref a2), (3, .ref a3), (4, .int x4)] [.int w25.1] w25.2 _
                      refine g_istore (pc := 565) (L' := [(5, .int w25.1), (0, .ref SCR), (1, .ref a1), (2, .ref a2), (3, .ref a3), (4, .int x4)]) K d_L_law_565 (by decide) rfl ?_
                      refine g_aload_n (pc := 567) (j := 3) K d_L_law_567 rfl ?_
                      refine g_aload_n (pc := 568) (j := 1) K d_L_law_568 rfl ?_
                      refine g_iload (pc := 569) (j := 5) K d_L_law_569 rfl ?_
                      refine g_iconst (pc := 571) (v := 1) K d_L_law_571 (by decide) ?_
                      refine g_iadd (pc := 572) K d_L_law_572 ?_
                      refine g_sld (pc := 573) K hS d_L_law_573 ?_
                      refine g_aload_n (pc := 574) (j := 1) K d_L_law_574 rfl ?_
                      refine g_iload (pc := 575) (j := 5) K d_L_law_575 rfl ?_
                      refine g_iconst (pc := 577) (v := 2) K d_L_law_577 (by decide) ?_
                      refine g_iadd (pc := 578) K d_L_law_578 ?_
                      refine g_sld (pc := 579) K hS d_L_law_579 ?_
                      refine g_callV (pc := 580) (ci := 4) (a := a2) (vs := [.int (xs (x4 + (1 : Int32)).toNatClampNeg), .int (xs (x4 + (2 : Int32)).toNatClampNeg)]) (st := []) (mkc := mkW) K rfl (by decide) cn_M_finish (fun l hl r hr => k_M_finish l hl _ _ _ _ r hr) mw_749 mw_750 mw_751 ⟨by decide, by decide, (by show (cells + 1) + 0 ≤ 601024; omega), (by show (slots + 6) + 0 ≤ 7293034; omega)⟩ d_L_law_580 rfl rfl (Nat.le_of_ble_eq_true rfl) (fun w26 _ => ?_)
                      change G Γ mkW (cells + 1) (slots + 6) 583 [(5, .int w25.1), (0, .ref SCR), (1, .ref a1), (2, .ref a2), (3, .ref a3), (4, .int x4)] [.int w26.1] w26.2 _
                      refine g_istore (pc := 583) (L' := [(6, .int w26.1), (5, .int w25.1), (0, .ref SCR), (1, .ref a1), (2, .ref a2), (3, .ref a3), (4, .int x4)]) K d_L_law_583 (by decide) rfl ?_
                      refine g_aload_n (pc := 585) (j := 4) K d_L_law_585 rfl ?_
                      refine g_callV (pc := 586) (ci := 4) (a := a2) (vs := []) (st := []) (mkc := mkI w26.2) K rfl (by decide) cn_M_thrown (fun l hl r hr => k_M_thrown l hl _ _ r hr) mw_652 mw_653 mw_654 ⟨by decide, by decide, (by show (cells + 1) + 0 ≤ 601024; omega), (by show (slots + 6) + 0 ≤ 7293034; omega)⟩ d_L_law_586 rfl rfl (Nat.le_of_ble_eq_true rfl) (fun v27 _ => ?_)
                      change G Γ mkW (cells + 1) (slots + 6) 589 [(6, .int w26.1), (5, .int w25.1), (0, .ref SCR), (1, .ref a1), (2, .ref a2), (3, .ref a3), (4, .int x4)] [.int v27] w26.2 _
                      refine g_iload (pc := 589) (j := 1) K d_L_law_589 rfl ?_
                      refine g_icmp_eq (pc := 591) (tgt := 596) K d_L_law_591 (by decide) (fun _ => ?_) (fun _ => ?_)
                      · refine g_iload (pc := 596) (j := 1) K d_L_law_596 rfl ?_
                        refine g_if_ne (pc := 598) (tgt := 620) K d_L_law_598 (by decide) (fun _ => ?_) (fun _ => ?_)
                        · refine g_sub (L' := [(0, .ref SCR), (1, .ref a1), (2, .ref a2), (3, .ref a3), (4, .int x4)]) [2, 3, 4, 5, 6] rfl ?_
                          exact gb_L_law_620 K hR hS (b_L_law_23 Ns xs n) (601024 - 10 * n) (7293034 - 60 * n) (by omega) (by omega) (fun c1 s1 h1 h2 => ih c1 s1 (by omega) (by omega)) (cells + 1) (slots + 6) (by omega) (by omega) w26.2 a1 a2 a3 x4
                        · refine g_aload_n (pc := 601) (j := 5) K d_L_law_601 rfl ?_
                          refine g_iconst (pc := 602) (v := 0) K d_L_law_602 (by decide) ?_
                          refine g_lald (pc := 603) K d_L_law_603 ?_
                          refine g_iload (pc := 604) (j := 0) K d_L_law_604 rfl ?_
                          refine g_if_eq (pc := 606) (tgt := 613) K d_L_law_606 (by decide) (fun _ => ?_) (fun _ => ?_)
                          · refine g_lconst (pc := 613) (v := 0) K d_L_law_613 (by decide) ?_
                            refine g_sub (L' := [(0, .ref SCR), (1, .ref a1), (2, .ref a2), (3, .ref a3), (4, .int x4)]) [2, 3, 4, 5, 6] rfl ?_
                            exact gb_L_law_614 K hR hS (b_L_law_23 Ns xs n) (601024 - 10 * n) (7293034 - 60 * n) (by omega) (by omega) (fun c1 s1 h1 h2 => ih c1 s1 (by omega) (by omega)) (cells + 1) (slots + 6) (by omega) (by omega) w26.2 a1 a2 a3 x4 (g_l w26.2 a3 (0 : Int32).toNatClampNeg) (0 : Int64)
                          · refine g_lconst (pc := 609) (v := 1) K d_L_law_609 (by decide) ?_
                            refine g_goto (pc := 610) (tgt := 614) K d_L_law_610 (by decide) ?_
                            refine g_sub (L' := [(0, .ref SCR), (1, .ref a1), (2, .ref a2), (3, .ref a3), (4, .int x4)]) [2, 3, 4, 5, 6] rfl ?_
                            exact gb_L_law_614 K hR hS (b_L_law_23 Ns xs n) (601024 - 10 * n) (7293034 - 60 * n) (by omega) (by omega) (fun c1 s1 h1 h2 => ih c1 s1 (by omega) (by omega)) (cells + 1) (slots + 6) (by omega) (by omega) w26.2 a1 a2 a3 x4 (g_l w26.2 a3 (0 : Int32).toNatClampNeg) (1 : Int64)
                      · refine g_iconst (pc := 594) (v := 0) K d_L_law_594 (by decide) ?_
                        exact g_lret (pc := 595) K hR rfl d_L_law_595 (by omega) (by omega)
                    · refine g_ite (fun h => ?_) (fun h8 => ?_)
                      · refine g_tableIn (pc := 39) (off := 584) (tgt := 623) K d_L_law_39 (by rw [h]; decide) (by rw [h]; decide) (by rw [h]; decide) (by decide) ?_
                        refine g_aload_n (pc := 623) (j := 1) K d_L_law_623 rfl ?_
                        refine g_aload_n (pc := 624) (j := 0) K d_L_law_624 rfl ?_
                        refine g_iload (pc := 625) (j := 4) K d_L_law_625 rfl ?_
                        refine g_iconst (pc := 627) (v := 1) K d_L_law_627 (by decide) ?_
                        refine g_iadd (pc := 628) K d_L_law_628 ?_
                        refine g_sld (pc := 629) K hS d_L_law_629 ?_
                        refine g_callS (pc := 630) (vs := [.ref a1, .int (xs (x4 + (1 : Int32)).toNatClampNeg)]) (st := []) (mkc := mkW) K cn_L_end (fun l hl r hr => k_L_end l hl _ _ _ r hr) mw_506 mw_507 ⟨by decide, by decide, (by show cells + 1 ≤ 601024; omega), (by show slots + 6 ≤ 7293034; omega)⟩ d_L_law_630 rfl rfl (Nat.le_of_ble_eq_true rfl) (fun w28 _ => ?_)
                        change G Γ mkW (cells + 1) (slots + 6) 633 [(0, .ref SCR), (1, .ref a1), (2, .ref a2), (3, .ref a3), (4, .int x4)] [.int w28.1] w28.2 _
                        refine g_istore (pc := 633) (L' := [(5, .int w28.1), (0, .ref SCR), (1, .ref a1), (2, .ref a2), (3, .ref a3), (4, .int x4)]) K d_L_law_633 (by decide) rfl ?_
                        refine g_aload_n (pc := 635) (j := 3) K d_L_law_635 rfl ?_
                        refine g_aload_n (pc := 636) (j := 1) K d_L_law_636 rfl ?_
                        refine g_iload (pc := 637) (j := 5) K d_L_law_637 rfl ?_
                        refine g_iconst (pc := 639) (v := 1) K d_L_law_639 (by decide) ?_
                        refine g_iadd (pc := 640) K d_L_law_640 ?_
                        refine g_sld (pc := 641) K hS d_L_law_641 ?_
                        refine g_callV (pc := 642) (ci := 4) (a := a2) (vs := [.int (xs (x4 + (1 : Int32)).toNatClampNeg)]) (st := []) (mkc := mkV) K rfl (by decide) cn_M_end (fun l hl r hr => k_M_end l hl _ _ _ r hr) mw_761 mw_762 mw_763 ⟨by decide, by decide, (by show (cells + 1) + 0 ≤ 601024; omega), (by show (slots + 6) + 0 ≤ 7293034; omega)⟩ d_L_law_642 rfl rfl (Nat.le_of_ble_eq_true rfl) (fun s29 _ => ?_)
                        change G Γ mkW (cells + 1) (slots + 6) 645 [(5, .int w28.1), (0, .ref SCR), (1, .ref a1), (2, .ref a2), (3, .ref a3), (4, .int x4)] [] s29 _
                        refine g_aload_n (pc := 645) (j := 3) K d_L_law_645 rfl ?_
                        refine g_callV (pc := 646) (ci := 4) (a := a2) (vs := []) (st := []) (mkc := mkI s29) K rfl (by decide) cn_M_thrown (fun l hl r hr => k_M_thrown l hl _ _ r hr) mw_652 mw_653 mw_654 ⟨by decide, by decide, (by show (cells + 1) + 0 ≤ 601024; omega), (by show (slots + 6) + 0 ≤ 7293034; omega)⟩ d_L_law_646 rfl rfl (Nat.le_of_ble_eq_true rfl) (fun v30 _ => ?_)
                        change G Γ mkW (cells + 1) (slots + 6) 649 [(5, .int w28.1), (0, .ref SCR), (1, .ref a1), (2, .ref a2), (3, .ref a3), (4, .int x4)] [.int v30] s29 _
                        refine g_iload (pc := 649) (j := 0) K d_L_law_649 rfl ?_
                        refine g_icmp_eq (pc := 651) (tgt := 656) K d_L_law_651 (by decide) (fun _ => ?_) (fun _ => ?_)
                        · refine g_goto (pc := 656) (tgt := 942) K d_L_law_656 (by decide) ?_
                          refine g_sub (L' := [(0, .ref SCR), (1, .ref a1), (2, .ref a2), (3, .ref a3), (4, .int x4)]) [1, 2, 3, 4, 5] rfl ?_
                          exact gb_L_law_942 K hR hS (b_L_law_23 Ns xs n) (601024 - 10 * n) (7293034 - 60 * n) (by omega) (by omega) (fun c1 s1 h1 h2 => ih c1 s1 (by omega) (by omega)) (cells + 1) (slots + 6) (by omega) (by omega) s29 a1 a2 a3 x4
                        · refine g_iconst (pc := 654) (v := 0) K d_L_law_654 (by decide) ?_
                          exact g_lret (pc := 655) K hR rfl d_L_law_655 (by omega) (by omega)
                      · refine g_ite (fun h => ?_) (fun h9 => ?_)
                        · refine g_tableIn (pc := 39) (off := 620) (tgt := 659) K d_L_law_39 (by rw [h]; decide) (by rw [h]; decide) (by rw [h]; decide) (by decide) ?_
                          refine g_aload_n (pc := 659) (j := 1) K d_L_law_659 rfl ?_
                          refine g_aload_n (pc := 660) (j := 0) K d_L_law_660 rfl ?_
                          refine g_iload (pc := 661) (j := 4) K d_L_law_661 rfl ?_
                          refine g_iconst (pc := 663) (v := 1) K d_L_law_663 (by decide) ?_
                          refine g_iadd (pc := 664) K d_L_law_664 ?_
                          refine g_sld (pc := 665) K hS d_L_law_665 ?_
                          refine g_aload_n (pc := 666) (j := 0) K d_L_law_666 rfl ?_
                          refine g_iload (pc := 667) (j := 4) K d_L_law_667 rfl ?_
                          refine g_iconst (pc := 669) (v := 2) K d_L_law_669 (by decide) ?_
                          refine g_iadd (pc := 670) K d_L_law_670 ?_
                          refine g_sld (pc := 671) K hS d_L_law_671 ?_
                          refine g_if_eq (pc := 672) (tgt := 679) K d_L_law_672 (by decide) (fun _ => ?_) (fun _ => ?_)
                          · refine g_iconst (pc := 679) (v := 0) K d_L_law_679 (by decide) ?_
                            exact gb_L_law_680 K hR hS (b_L_law_23 Ns xs n) (601024 - 10 * n) (7293034 - 60 * n) (by omega) (by omega) (fun c1 s1 h1 h2 => ih c1 s1 (by omega) (by omega)) cells slots (by omega) (by omega) σ a1 a2 a3 x4 a1 (xs (x4 + (1 : Int32)).toNatClampNeg) (0 : Int32)
                          · refine g_iconst (pc := 675) (v := 1) K d_L_law_675 (by decide) ?_
                            refine g_goto (pc := 676) (tgt := 680) K d_L_law_676 (by decide) ?_
                            exact gb_L_law_680 K hR hS (b_L_law_23 Ns xs n) (601024 - 10 * n) (7293034 - 60 * n) (by omega) (by omega) (fun c1 s1 h1 h2 => ih c1 s1 (by omega) (by omega)) cells slots (by omega) (by omega) σ a1 a2 a3 x4 a1 (xs (x4 + (1 : Int32)).toNatClampNeg) (1 : Int32)
                        · refine g_ite (fun h => ?_) (fun h10 => ?_)
                          · refine g_tableIn (pc := 39) (off := 711) (tgt := 750) K d_L_law_39 (by rw [h]; decide) (by rw [h]; decide) (by rw [h]; decide) (by decide) ?_
                            refine g_aload_n (pc := 750) (j := 1) K d_L_law_750 rfl ?_
                            refine g_aload_n (pc := 751) (j := 3) K d_L_law_751 rfl ?_
                            refine g_callS (pc := 752) (vs := [.ref a1, .ref a3]) (st := []) (mkc := mkW) K cn_L_change (fun l hl r hr => k_L_change l hl _ _ _ r hr) mw_525 mw_526 ⟨by decide, by decide, (by show cells + 1 ≤ 601024; omega), (by show slots + 6 ≤ 7293034; omega)⟩ d_L_law_752 rfl rfl (Nat.le_of_ble_eq_true rfl) (fun w31 _ => ?_)
                            change G Γ mkW (cells + 1) (slots + 6) 755 [(0, .ref SCR), (1, .ref a1), (2, .ref a2), (3, .ref a3), (4, .int x4)] [.int w31.1] w31.2 _
                            refine g_istore (pc := 755) (L' := [(5, .int w31.1), (0, .ref SCR), (1, .ref a1), (2, .ref a2), (3, .ref a3), (4, .int x4)]) K d_L_law_755 (by decide) rfl ?_
                            refine g_aload_n (pc := 757) (j := 3) K d_L_law_757 rfl ?_
                            refine g_callV (pc := 758) (ci := 4) (a := a2) (vs := []) (st := []) (mkc := mkW) K rfl (by decide) cn_M_change (fun l hl r hr => k_M_change l hl _ _ r hr) mw_769 mw_770 mw_771 ⟨by decide, by decide, (by show (cells + 1) + 0 ≤ 601024; omega), (by show (slots + 6) + 0 ≤ 7293034; omega)⟩ d_L_law_758 rfl rfl (Nat.le_of_ble_eq_true rfl) (fun w32 _ => ?_)
                            change G Γ mkW (cells + 1) (slots + 6) 761 [(5, .int w31.1), (0, .ref SCR), (1, .ref a1), (2, .ref a2), (3, .ref a3), (4, .int x4)] [.int w32.1] w32.2 _
                            refine g_istore (pc := 761) (L' := [(6, .int w32.1), (5, .int w31.1), (0, .ref SCR), (1, .ref a1), (2, .ref a2), (3, .ref a3), (4, .int x4)]) K d_L_law_761 (by decide) rfl ?_
                            refine g_aload_n (pc := 763) (j := 4) K d_L_law_763 rfl ?_
                            refine g_callV (pc := 764) (ci := 4) (a := a2) (vs := []) (st := []) (mkc := mkI w32.2) K rfl (by decide) cn_M_thrown (fun l hl r hr => k_M_thrown l hl _ _ r hr) mw_652 mw_653 mw_654 ⟨by decide, by decide, (by show (cells + 1) + 0 ≤ 601024; omega), (by show (slots + 6) + 0 ≤ 7293034; omega)⟩ d_L_law_764 rfl rfl (Nat.le_of_ble_eq_true rfl) (fun v33 _ => ?_)
                            change G Γ mkW (cells + 1) (slots + 6) 767 [(6, .int w32.1), (5, .int w31.1), (0, .ref SCR), (1, .ref a1), (2, .ref a2), (3, .ref a3), (4, .int x4)] [.int v33] w32.2 _
                            refine g_iload (pc := 767) (j := 1) K d_L_law_767 rfl ?_
                            refine g_icmp_eq (pc := 769) (tgt := 774) K d_L_law_769 (by decide) (fun _ => ?_) (fun _ => ?_)
                            · refine g_iload (pc := 774) (j := 1) K d_L_law_774 rfl ?_
                              refine g_if_ne (pc := 776) (tgt := 791) K d_L_law_776 (by decide) (fun _ => ?_) (fun _ => ?_)
                              · refine g_sub (L' := [(0, .ref SCR), (1, .ref a1), (2, .ref a2), (3, .ref a3), (4, .int x4)]) [2, 3, 4, 5, 6] rfl ?_
                                exact gb_L_law_791 K hR hS (b_L_law_23 Ns xs n) (601024 - 10 * n) (7293034 - 60 * n) (by omega) (by omega) (fun c1 s1 h1 h2 => ih c1 s1 (by omega) (by omega)) (cells + 1) (slots + 6) (by omega) (by omega) w32.2 a1 a2 a3 x4
                              · refine g_aload_n (pc := 779) (j := 5) K d_L_law_779 rfl ?_
                                refine g_iconst (pc := 780) (v := 0) K d_L_law_780 (by decide) ?_
                                refine g_lald (pc := 781) K d_L_law_781 ?_
                                refine g_iload (pc := 782) (j := 0) K d_L_law_782 rfl ?_
                                refine g_i2l (pc := 784) K d_L_law_784 ?_
                                refine g_lcmp (pc := 785) K d_L_law_785 ?_
                                refine g_if_eq (pc := 786) (tgt := 791) K d_L_law_786 (by decide) (fun _ => ?_) (fun _ => ?_)
                                · refine g_sub (L' := [(0, .ref SCR), (1, .ref a1), (2, .ref a2), (3, .ref a3), (4, .int x4)]) [2, 3, 4, 5, 6] rfl ?_
                                  exact gb_L_law_791 K hR hS (b_L_law_23 Ns xs n) (601024 - 10 * n) (7293034 - 60 * n) (by omega) (by omega) (fun c1 s1 h1 h2 => ih c1 s1 (by omega) (by omega)) (cells + 1) (slots + 6) (by omega) (by omega) w32.2 a1 a2 a3 x4
                                · refine g_iconst (pc := 789) (v := 0) K d_L_law_789 (by decide) ?_
                                  exact g_lret (pc := 790) K hR rfl d_L_law_790 (by omega) (by omega)
                            · refine g_iconst (pc := 772) (v := 0) K d_L_law_772 (by decide) ?_
                              exact g_lret (pc := 773) K hR rfl d_L_law_773 (by omega) (by omega)
                          · refine g_ite (fun h => ?_) (fun h11 => ?_)
                            · refine g_tableIn (pc := 39) (off := 755) (tgt := 794) K d_L_law_39 (by rw [h]; decide) (by rw [h]; decide) (by rw [h]; decide) (by decide) ?_
                              refine g_aload_n (pc := 794) (j := 1) K d_L_law_794 rfl ?_
                              refine g_aload_n (pc := 795) (j := 0) K d_L_law_795 rfl ?_
                              refine g_iload (pc := 796) (j := 4) K d_L_law_796 rfl ?_
                              refine g_iconst (pc := 798) (v := 1) K d_L_law_798 (by decide) ?_
                              refine g_iadd (pc := 799) K d_L_law_799 ?_
                              refine g_sld (pc := 800) K hS d_L_law_800 ?_
                              refine g_aload_n (pc := 801) (j := 0) K d_L_law_801 rfl ?_
                              refine g_iload (pc := 802) (j := 4) K d_L_law_802 rfl ?_
                              refine g_iconst (pc := 804) (v := 2) K d_L_law_804 (by decide) ?_
                              refine g_iadd (pc := 805) K d_L_law_805 ?_
                              refine g_sld (pc := 806) K hS d_L_law_806 ?_
                              refine g_callV (pc := 807) (ci := 3) (a := a1) (vs := [.int (xs (x4 + (1 : Int32)).toNatClampNeg), .int (xs (x4 + (2 : Int32)).toNatClampNeg)]) (st := []) (mkc := mkI σ) K rfl (by decide) cn_G_client (fun l hl r hr => k_G_client l hl _ _ _ _ r hr) mw_108 mw_109 mw_110 ⟨by decide, by decide, (by show cells + 0 ≤ 601024; omega), (by show slots + 0 ≤ 7293034; omega)⟩ d_L_law_807 rfl rfl (Nat.le_of_ble_eq_true rfl) (fun v34 _ => ?_)
                              change G Γ mkW cells slots 810 [(0, .ref SCR), (1, .ref a1), (2, .ref a2), (3, .ref a3), (4, .int x4)] [.int v34] σ _
                              refine g_aload_n (pc := 810) (j := 2) K d_L_law_810 rfl ?_
                              refine g_aload_n (pc := 811) (j := 0) K d_L_law_811 rfl ?_
                              refine g_iload (pc := 812) (j := 4) K d_L_law_812 rfl ?_
                              refine g_iconst (pc := 814) (v := 1) K d_L_law_814 (by decide) ?_
                              refine g_iadd (pc := 815) K d_L_law_815 ?_
                              refine g_sld (pc := 816) K hS d_L_law_816 ?_
                              refine g_aload_n (pc := 817) (j := 0) K d_L_law_817 rfl ?_
                              refine g_iload (pc := 818) (j := 4) K d_L_law_818 rfl ?_
                              refine g_iconst (pc := 820) (v := 2) K d_L_law_820 (by decide) ?_
                              refine g_iadd (pc := 821) K d_L_law_821 ?_
                              refine g_sld (pc := 822) K hS d_L_law_822 ?_
                              refine g_callV (pc := 823) (ci := 4) (a := a2) (vs := [.int (xs (x4 + (1 : Int32)).toNatClampNeg), .int (xs (x4 + (2 : Int32)).toNatClampNeg)]) (st := [.int v34]) (mkc := mkW) K rfl (by decide) cn_M_client (fun l hl r hr => k_M_client l hl _ _ _ _ r hr) mw_809 mw_810 mw_811 ⟨by decide, by decide, (by show cells + 0 ≤ 601024; omega), (by show slots + 0 ≤ 7293034; omega)⟩ d_L_law_823 rfl rfl (Nat.le_of_ble_eq_true rfl) (fun w35 _ => ?_)
                              change G Γ mkW cells slots 826 [(0, .ref SCR), (1, .ref a1), (2, .ref a2), (3, .ref a3), (4, .int x4)] [.int w35.1, .int v34] w35.2 _
                              refine g_icmp_eq (pc := 826) (tgt := 942) K d_L_law_826 (by decide) (fun _ => ?_) (fun _ => ?_)
                              · exact gb_L_law_942 K hR hS (b_L_law_23 Ns xs n) (601024 - 10 * n) (7293034 - 60 * n) (by omega) (by omega) (fun c1 s1 h1 h2 => ih c1 s1 (by omega) (by omega)) cells slots (by omega) (by omega) w35.2 a1 a2 a3 x4
                              · refine g_iconst (pc := 829) (v := 0) K d_L_law_829 (by decide) ?_
                                exact g_lret (pc := 830) K hR rfl d_L_law_830 (by omega) (by omega)
                            · refine g_ite (fun h => ?_) (fun h12 => ?_)
                              · refine g_tableIn (pc := 39) (off := 792) (tgt := 831) K d_L_law_39 (by rw [h]; decide) (by rw [h]; decide) (by rw [h]; decide) (by decide) ?_
                                refine g_aload_n (pc := 831) (j := 1) K d_L_law_831 rfl ?_
                                refine g_aload_n (pc := 832) (j := 0) K d_L_law_832 rfl ?_
                                refine g_iload (pc := 833) (j := 4) K d_L_law_833 rfl ?_
                                refine g_iconst (pc := 835) (v := 1) K d_L_law_835 (by decide) ?_
                                refine g_iadd (pc := 836) K d_L_law_836 ?_
                                refine g_sld (pc := 837) K hS d_L_law_837 ?_
                                refine g_aload_n (pc := 838) (j := 0) K d_L_law_838 rfl ?_
                                refine g_iload (pc := 839) (j := 4) K d_L_law_839 rfl ?_
                                refine g_iconst (pc := 841) (v := 2) K d_L_law_841 (by decide) ?_
                                refine g_iadd (pc := 842) K d_L_law_842 ?_
                                refine g_sld (pc := 843) K hS d_L_law_843 ?_
                                refine g_aload_n (pc := 844) (j := 0) K d_L_law_844 rfl ?_
                                refine g_iload (pc := 845) (j := 4) K d_L_law_845 rfl ?_
                                refine g_iconst (pc := 847) (v := 3) K d_L_law_847 (by decide) ?_
                                refine g_iadd (pc := 848) K d_L_law_848 ?_
                                refine g_sld (pc := 849) K hS d_L_law_849 ?_
                                refine g_callV (pc := 850) (ci := 3) (a := a1) (vs := [.int (xs (x4 + (1 : Int32)).toNatClampNeg), .int (xs (x4 + (2 : Int32)).toNatClampNeg), .int (xs (x4 + (3 : Int32)).toNatClampNeg)]) (st := []) (mkc := mkI σ) K rfl (by decide) cn_G_at (fun l hl r hr => k_G_at l hl _ _ _ _ _ r hr) mw_142 mw_143 mw_144 ⟨by decide, by decide, (by show cells + 0 ≤ 601024; omega), (by show slots + 0 ≤ 7293034; omega)⟩ d_L_law_850 rfl rfl (Nat.le_of_ble_eq_true rfl) (fun v36 _ => ?_)
                                change G Γ mkW cells slots 853 [(0, .ref SCR), (1, .ref a1), (2, .ref a2), (3, .ref a3), (4, .int x4)] [.int v36] σ _
                                refine g_aload_n (pc := 853) (j := 2) K d_L_law_853 rfl ?_
                                refine g_aload_n (pc := 854) (j := 0) K d_L_law_854 rfl ?_
                                refine g_iload (pc := 855) (j := 4) K d_L_law_855 rfl ?_
                                refine g_iconst (pc := 857) (v := 1) K d_L_law_857 (by decide) ?_
                                refine g_iadd (pc := 858) K d_L_law_858 ?_
                                refine g_sld (pc := 859) K hS d_L_law_859 ?_
                                refine g_aload_n (pc := 860) (j := 0) K d_L_law_860 rfl ?_
                                refine g_iload (pc := 861) (j := 4) K d_L_law_861 rfl ?_
                                refine g_iconst (pc := 863) (v := 2) K d_L_law_863 (by decide) ?_
                                refine g_iadd (pc := 864) K d_L_law_864 ?_
                                refine g_sld (pc := 865) K hS d_L_law_865 ?_
                                refine g_aload_n (pc := 866) (j := 0) K d_L_law_866 rfl ?_
                                refine g_iload (pc := 867) (j := 4) K d_L_law_867 rfl ?_
                                refine g_iconst (pc := 869) (v := 3) K d_L_law_869 (by decide) ?_
                                refine g_iadd (pc := 870) K d_L_law_870 ?_
                                refine g_sld (pc := 871) K hS d_L_law_871 ?_
                                refine g_callV (pc := 872) (ci := 4) (a := a2) (vs := [.int (xs (x4 + (1 : Int32)).toNatClampNeg), .int (xs (x4 + (2 : Int32)).toNatClampNeg), .int (xs (x4 + (3 : Int32)).toNatClampNeg)]) (st := [.int v36]) (mkc := mkW) K rfl (by decide) cn_M_at (fun l hl r hr => k_M_at l hl _ _ _ _ _ r hr) mw_813 mw_814 mw_815 ⟨by decide, by decide, (by show cells + 0 ≤ 601024; omega), (by show slots + 0 ≤ 7293034; omega)⟩ d_L_law_872 rfl rfl (Nat.le_of_ble_eq_true rfl) (fun w37 _ => ?_)
                                change G Γ mkW cells slots 875 [(0, .ref SCR), (1, .ref a1), (2, .ref a2), (3, .ref a3), (4, .int x4)] [.int w37.1, .int v36] w37.2 _
                                refine g_icmp_eq (pc := 875) (tgt := 942) K d_L_law_875 (by decide) (fun _ => ?_) (fun _ => ?_)
                                · exact gb_L_law_942 K hR hS (b_L_law_23 Ns xs n) (601024 - 10 * n) (7293034 - 60 * n) (by omega) (by omega) (fun c1 s1 h1 h2 => ih c1 s1 (by omega) (by omega)) cells slots (by omega) (by omega) w37.2 a1 a2 a3 x4
                                · refine g_iconst (pc := 878) (v := 0) K d_L_law_878 (by decide) ?_
                                  exact g_lret (pc := 879) K hR rfl d_L_law_879 (by omega) (by omega)
                              · refine g_ite (fun h => ?_) (fun h13 => ?_)
                                · refine g_tableIn (pc := 39) (off := 841) (tgt := 880) K d_L_law_39 (by rw [h]; decide) (by rw [h]; decide) (by rw [h]; decide) (by decide) ?_
                                  refine g_aload_n (pc := 880) (j := 1) K d_L_law_880 rfl ?_
                                  refine g_aload_n (pc := 881) (j := 0) K d_L_law_881 rfl ?_
                                  refine g_iload (pc := 882) (j := 4) K d_L_law_882 rfl ?_
                                  refine g_iconst (pc := 884) (v := 1) K d_L_law_884 (by decide) ?_
                                  refine g_iadd (pc := 885) K d_L_law_885 ?_
                                  refine g_sld (pc := 886) K hS d_L_law_886 ?_
                                  refine g_aload_n (pc := 887) (j := 0) K d_L_law_887 rfl ?_
                                  refine g_iload (pc := 888) (j := 4) K d_L_law_888 rfl ?_
                                  refine g_iconst (pc := 890) (v := 2) K d_L_law_890 (by decide) ?_
                                  refine g_iadd (pc := 891) K d_L_law_891 ?_
                                  refine g_sld (pc := 892) K hS d_L_law_892 ?_
                                  refine g_callV (pc := 893) (ci := 3) (a := a1) (vs := [.int (xs (x4 + (1 : Int32)).toNatClampNeg), .int (xs (x4 + (2 : Int32)).toNatClampNeg)]) (st := []) (mkc := mkI σ) K rfl (by decide) cn_G_record (fun l hl r hr => k_G_record l hl _ _ _ _ r hr) mw_152 mw_153 mw_154 ⟨by decide, by decide, (by show cells + 0 ≤ 601024; omega), (by show slots + 0 ≤ 7293034; omega)⟩ d_L_law_893 rfl rfl (Nat.le_of_ble_eq_true rfl) (fun v38 _ => ?_)
                                  change G Γ mkW cells slots 896 [(0, .ref SCR), (1, .ref a1), (2, .ref a2), (3, .ref a3), (4, .int x4)] [.int v38] σ _
                                  refine g_aload_n (pc := 896) (j := 2) K d_L_law_896 rfl ?_
                                  refine g_aload_n (pc := 897) (j := 0) K d_L_law_897 rfl ?_
                                  refine g_iload (pc := 898) (j := 4) K d_L_law_898 rfl ?_
                                  refine g_iconst (pc := 900) (v := 1) K d_L_law_900 (by decide) ?_
                                  refine g_iadd (pc := 901) K d_L_law_901 ?_
                                  refine g_sld (pc := 902) K hS d_L_law_902 ?_
                                  refine g_aload_n (pc := 903) (j := 0) K d_L_law_903 rfl ?_
                                  refine g_iload (pc := 904) (j := 4) K d_L_law_904 rfl ?_
                                  refine g_iconst (pc := 906) (v := 2) K d_L_law_906 (by decide) ?_
                                  refine g_iadd (pc := 907) K d_L_law_907 ?_
                                  refine g_sld (pc := 908) K hS d_L_law_908 ?_
                                  refine g_callV (pc := 909) (ci := 4) (a := a2) (vs := [.int (xs (x4 + (1 : Int32)).toNatClampNeg), .int (xs (x4 + (2 : Int32)).toNatClampNeg)]) (st := [.int v38]) (mkc := mkW) K rfl (by decide) cn_M_record (fun l hl r hr => k_M_record l hl _ _ _ _ r hr) mw_817 mw_818 mw_819 ⟨by decide, by decide, (by show cells + 0 ≤ 601024; omega), (by show slots + 0 ≤ 7293034; omega)⟩ d_L_law_909 rfl rfl (Nat.le_of_ble_eq_true rfl) (fun w39 _ => ?_)
                                  change G Γ mkW cells slots 912 [(0, .ref SCR), (1, .ref a1), (2, .ref a2), (3, .ref a3), (4, .int x4)] [.int w39.1, .int v38] w39.2 _
                                  refine g_icmp_eq (pc := 912) (tgt := 942) K d_L_law_912 (by decide) (fun _ => ?_) (fun _ => ?_)
                                  · exact gb_L_law_942 K hR hS (b_L_law_23 Ns xs n) (601024 - 10 * n) (7293034 - 60 * n) (by omega) (by omega) (fun c1 s1 h1 h2 => ih c1 s1 (by omega) (by omega)) cells slots (by omega) (by omega) w39.2 a1 a2 a3 x4
                                  · refine g_iconst (pc := 915) (v := 0) K d_L_law_915 (by decide) ?_
                                    exact g_lret (pc := 916) K hR rfl d_L_law_916 (by omega) (by omega)
                                · refine g_ite (fun h => ?_) (fun h14 => ?_)
                                  · refine g_tableIn (pc := 39) (off := 878) (tgt := 917) K d_L_law_39 (by rw [h]; decide) (by rw [h]; decide) (by rw [h]; decide) (by decide) ?_
                                    refine g_aload_n (pc := 917) (j := 1) K d_L_law_917 rfl ?_
                                    refine g_aload_n (pc := 918) (j := 0) K d_L_law_918 rfl ?_
                                    refine g_iload (pc := 919) (j := 4) K d_L_law_919 rfl ?_
                                    refine g_iconst (pc := 921) (v := 1) K d_L_law_921 (by decide) ?_
                                    refine g_iadd (pc := 922) K d_L_law_922 ?_
                                    refine g_sld (pc := 923) K hS d_L_law_923 ?_
                                    refine g_callV (pc := 924) (ci := 3) (a := a1) (vs := [.int (xs (x4 + (1 : Int32)).toNatClampNeg)]) (st := []) (mkc := mkI σ) K rfl (by decide) cn_G_state (fun l hl r hr => k_G_state l hl _ _ _ r hr) mw_156 mw_157 mw_158 ⟨by decide, by decide, (by show cells + 0 ≤ 601024; omega), (by show slots + 0 ≤ 7293034; omega)⟩ d_L_law_924 rfl rfl (Nat.le_of_ble_eq_true rfl) (fun v40 _ => ?_)
                                    change G Γ mkW cells slots 927 [(0, .ref SCR), (1, .ref a1), (2, .ref a2), (3, .ref a3), (4, .int x4)] [.int v40] σ _
                                    refine g_aload_n (pc := 927) (j := 2) K d_L_law_927 rfl ?_
                                    refine g_aload_n (pc := 928) (j := 0) K d_L_law_928 rfl ?_
                                    refine g_iload (pc := 929) (j := 4) K d_L_law_929 rfl ?_
                                    refine g_iconst (pc := 931) (v := 1) K d_L_law_931 (by decide) ?_
                                    refine g_iadd (pc := 932) K d_L_law_932 ?_
                                    refine g_sld (pc := 933) K hS d_L_law_933 ?_
                                    refine g_callV (pc := 934) (ci := 4) (a := a2) (vs := [.int (xs (x4 + (1 : Int32)).toNatClampNeg)]) (st := [.int v40]) (mkc := mkW) K rfl (by decide) cn_M_state (fun l hl r hr => k_M_state l hl _ _ _ r hr) mw_821 mw_822 mw_823 ⟨by decide, by decide, (by show cells + 0 ≤ 601024; omega), (by show slots + 0 ≤ 7293034; omega)⟩ d_L_law_934 rfl rfl (Nat.le_of_ble_eq_true rfl) (fun w41 _ => ?_)
                                    change G Γ mkW cells slots 937 [(0, .ref SCR), (1, .ref a1), (2, .ref a2), (3, .ref a3), (4, .int x4)] [.int w41.1, .int v40] w41.2 _
                                    refine g_icmp_eq (pc := 937) (tgt := 942) K d_L_law_937 (by decide) (fun _ => ?_) (fun _ => ?_)
                                    · exact gb_L_law_942 K hR hS (b_L_law_23 Ns xs n) (601024 - 10 * n) (7293034 - 60 * n) (by omega) (by omega) (fun c1 s1 h1 h2 => ih c1 s1 (by omega) (by omega)) cells slots (by omega) (by omega) w41.2 a1 a2 a3 x4
                                    · refine g_iconst (pc := 940) (v := 0) K d_L_law_940 (by decide) ?_
                                      exact g_lret (pc := 941) K hR rfl d_L_law_941 (by omega) (by omega)
                                  · have n0 := lv_neT h0 (show (0 : Int32).toInt = 0 from by decide)
                                    have n1 := lv_neT h1 (show (1 : Int32).toInt = 1 from by decide)
                                    have n2 := lv_neT h2 (show (2 : Int32).toInt = 2 from by decide)
                                    have n3 := lv_neT h3 (show (3 : Int32).toInt = 3 from by decide)
                                    have n4 := lv_neT h4 (show (4 : Int32).toInt = 4 from by decide)
                                    have n5 := lv_neT h5 (show (5 : Int32).toInt = 5 from by decide)
                                    have n6 := lv_neT h6 (show (6 : Int32).toInt = 6 from by decide)
                                    have n7 := lv_neT h7 (show (7 : Int32).toInt = 7 from by decide)
                                    have n8 := lv_neT h8 (show (8 : Int32).toInt = 8 from by decide)
                                    have n9 := lv_neT h9 (show (9 : Int32).toInt = 9 from by decide)
                                    have n10 := lv_neT h10 (show (10 : Int32).toInt = 10 from by decide)
                                    have n11 := lv_neT h11 (show (11 : Int32).toInt = 11 from by decide)
                                    have n12 := lv_neT h12 (show (12 : Int32).toInt = 12 from by decide)
                                    have n13 := lv_neT h13 (show (13 : Int32).toInt = 13 from by decide)
                                    have n14 := lv_neT h14 (show (14 : Int32).toInt = 14 from by decide)
                                    refine g_tableOut (pc := 39) (tgt := 942) K d_L_law_39 (by omega) (by decide) ?_
                                    exact gb_L_law_942 K hR hS (b_L_law_23 Ns xs n) (601024 - 10 * n) (7293034 - 60 * n) (by omega) (by omega) (fun c1 s1 h1 h2 => ih c1 s1 (by omega) (by omega)) cells slots (by omega) (by omega) σ a1 a2 a3 x4
def f_L_law (Ns : Nat) (xs : Nat → Int32) (σ : Sg) : Option (Int32 × Sg) := (if kd σ.1 = 3 ∧ σ.1 < SCR then (wi (s_n σ) (fun s42 => ((f_G_init s42 σ.1).bind (fun s43 => (if kd s43.1 = 4 ∧ s43.1 < SCR then (wi (s_n s43) (fun s44 => ((f_M_init s44 s43.1).bind (fun s45 => (if (kd s45.1 = 12 ∧ ln s45.1 = 1) ∧ s45.1 < SCR then (wi (s_n s45) (fun s46 => (b_L_law_23 Ns xs 1000 s46 σ.1 s43.1 s45.1 (0 : Int32)))) else none))))) else none))))) else none)
set_option maxRecDepth 100000 in
set_option maxHeartbeats 8000000 in
theorem g_L_law {Γ : GX} {Ns : Nat} {xs : Nat → Int32} (K : Cx Γ "TapirGroupLaw" code 7 room_1) (hR : LStd Γ) (hS : Scr Γ Ns xs) (σ : Sg) : G Γ mkW 0 0 0 [(0, .ref SCR)] [] σ (f_L_law Ns xs σ) := by
  unfold f_L_law
  refine g_new (pc := 0) (N := 4) K cf_3 mw_16 mw_17 mw_1 d_L_law_0 (by decide) (by decide) ?_
  refine g_wi (fun s42 _ => ?_)
  refine g_dup (pc := 3) K d_L_law_3 rfl ?_
  refine g_callI (pc := 4) (a := σ.1) (vs := []) (st := [.ref σ.1]) (mkc := mkV) K cn_G_init rfl (fun l hl r hr => k_G_init l hl _ _ r hr) mw_18 mw_19 ⟨by decide, by decide, (by show 1 + 26 ≤ 601024; omega), (by show 4 + 359 ≤ 7293034; omega)⟩ d_L_law_4 rfl rfl (Nat.le_of_ble_eq_true rfl) (fun s43 _ => ?_)
  change G Γ mkW 27 363 7 [(0, .ref SCR)] [.ref σ.1] s43 _
  refine g_astore_n (pc := 7) (L' := [(1, .ref σ.1), (0, .ref SCR)]) K d_L_law_7 (by decide) rfl ?_
  refine g_new (pc := 8) (N := 25) K cf_4 mw_569 mw_570 mw_5 d_L_law_8 (by decide) (by decide) ?_
  refine g_wi (fun s44 _ => ?_)
  refine g_dup (pc := 11) K d_L_law_11 rfl ?_
  refine g_callI (pc := 12) (a := s43.1) (vs := []) (st := [.ref s43.1]) (mkc := mkV) K cn_M_init rfl (fun l hl r hr => k_M_init l hl _ _ r hr) mw_571 mw_572 ⟨by decide, by decide, (by show 28 + 23 ≤ 601024; omega), (by show 388 + 2235 ≤ 7293034; omega)⟩ d_L_law_12 rfl rfl (Nat.le_of_ble_eq_true rfl) (fun s45 _ => ?_)
  change G Γ mkW 51 2623 15 [(1, .ref σ.1), (0, .ref SCR)] [.ref s43.1] s45 _
  refine g_astore_n (pc := 15) (L' := [(2, .ref s43.1), (1, .ref σ.1), (0, .ref SCR)]) K d_L_law_15 (by decide) rfl ?_
  refine g_iconst (pc := 16) (v := 1) K d_L_law_16 (by decide) ?_
  refine g_newL (pc := 17) (N := 1) K mw_825 d_L_law_17 (by decide) (by decide) (by decide) (by decide) (by decide) ?_
  refine g_wi (fun s46 _ => ?_)
  refine g_astore_n (pc := 19) (L' := [(3, .ref s45.1), (2, .ref s43.1), (1, .ref σ.1), (0, .ref SCR)]) K d_L_law_19 (by decide) rfl ?_
  refine g_iconst (pc := 20) (v := 0) K d_L_law_20 (by decide) ?_
  refine g_istore (pc := 21) (L' := [(4, .int (0 : Int32)), (3, .ref s45.1), (2, .ref s43.1), (1, .ref σ.1), (0, .ref SCR)]) K d_L_law_21 (by decide) rfl ?_
  refine g_sub (L' := [(0, .ref SCR), (1, .ref σ.1), (2, .ref s43.1), (3, .ref s45.1), (4, .int (0 : Int32))]) [4, 3, 2, 1, 0] rfl ?_
  exact gb_L_law_23 K hR hS 1000 52 2624 (by omega) (by omega) s46 σ.1 s43.1 s45.1 (0 : Int32)
