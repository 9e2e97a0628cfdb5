theorem gw_652 : Cond.instanceMethod (⟨"LevelStore", "next", "(II)I"⟩ : MethodName) ∈ ga_G := List.mem_filter.mpr ⟨gl_652, rfl⟩
theorem gl_653 : Cond.selects "LevelStore" (⟨"LevelStore", "next", "(II)I"⟩ : MethodName) (⟨"LevelStore", "next", "(II)I"⟩ : MethodName) ∈ lw_tbl := List.mem_of_getElem? (i := 653) (by decide +kernel)
theorem gw_653 : Cond.selects "LevelStore" (⟨"LevelStore", "next", "(II)I"⟩ : MethodName) (⟨"LevelStore", "next", "(II)I"⟩ : MethodName) ∈ ga_G := List.mem_filter.mpr ⟨gl_653, rfl⟩
theorem gl_654 : Cond.code y_L_next c_L_next 5 (some .int) ∈ lw_tbl := List.mem_of_getElem? (i := 654) (by decide +kernel)
theorem gw_654 : Cond.code y_L_next c_L_next 5 (some .int) ∈ ga_G := List.mem_filter.mpr ⟨gl_654, rfl⟩
theorem gl_655 : Cond.methodLink "LevelStore" 135 (⟨"LevelStore", "hasValue", "(II)Z"⟩ : MethodName) ∈ lw_tbl := List.mem_of_getElem? (i := 655) (by decide +kernel)
theorem gw_655 : Cond.methodLink "LevelStore" 135 (⟨"LevelStore", "hasValue", "(II)Z"⟩ : MethodName) ∈ ga_G := List.mem_filter.mpr ⟨gl_655, rfl⟩
theorem gl_657 : Cond.instanceMethod (⟨"LevelStore", "hasValue", "(II)Z"⟩ : MethodName) ∈ lw_tbl := List.mem_of_getElem? (i := 657) (by decide +kernel)
theorem gw_657 : Cond.instanceMethod (⟨"LevelStore", "hasValue", "(II)Z"⟩ : MethodName) ∈ ga_G := List.mem_filter.mpr ⟨gl_657, rfl⟩
theorem gl_658 : Cond.code y_L_hasValue c_L_hasValue 6 (some .boolean) ∈ lw_tbl := List.mem_of_getElem? (i := 658) (by decide +kernel)
theorem gw_658 : Cond.code y_L_hasValue c_L_hasValue 6 (some .boolean) ∈ ga_G := List.mem_filter.mpr ⟨gl_658, rfl⟩
theorem gl_662 : Cond.methodLink "LevelStoreLaw" 45 (⟨"LevelStore", "snapshot", "()I"⟩ : MethodName) ∈ lw_tbl := List.mem_of_getElem? (i := 662) (by decide +kernel)
theorem gw_662 : Cond.methodLink "LevelStoreLaw" 45 (⟨"LevelStore", "snapshot", "()I"⟩ : MethodName) ∈ ga_G := List.mem_filter.mpr ⟨gl_662, rfl⟩
theorem gl_663 : Cond.instanceMethod (⟨"LevelStore", "snapshot", "()I"⟩ : MethodName) ∈ lw_tbl := List.mem_of_getElem? (i := 663) (by decide +kernel)
theorem gw_663 : Cond.instanceMethod (⟨"LevelStore", "snapshot", "()I"⟩ : MethodName) ∈ ga_G := List.mem_filter.mpr ⟨gl_663, rfl⟩
theorem gl_664 : Cond.selects "LevelStore" (⟨"LevelStore", "snapshot", "()I"⟩ : MethodName) (⟨"LevelStore", "snapshot", "()I"⟩ : MethodName) ∈ lw_tbl := List.mem_of_getElem? (i := 664) (by decide +kernel)
theorem gw_664 : Cond.selects "LevelStore" (⟨"LevelStore", "snapshot", "()I"⟩ : MethodName) (⟨"LevelStore", "snapshot", "()I"⟩ : MethodName) ∈ ga_G := List.mem_filter.mpr ⟨gl_664, rfl⟩
theorem gl_665 : Cond.code y_L_snapshot c_L_snapshot 2 (some .int) ∈ lw_tbl := List.mem_of_getElem? (i := 665) (by decide +kernel)
theorem gw_665 : Cond.code y_L_snapshot c_L_snapshot 2 (some .int) ∈ ga_G := List.mem_filter.mpr ⟨gl_665, rfl⟩
theorem gl_669 : Cond.methodLink "LevelStoreLaw" 48 (⟨"LevelStore", "release", "(I)I"⟩ : MethodName) ∈ lw_tbl := List.mem_of_getElem? (i := 669) (by decide +kernel)
theorem gw_669 : Cond.methodLink "LevelStoreLaw" 48 (⟨"LevelStore", "release", "(I)I"⟩ : MethodName) ∈ ga_G := List.mem_filter.mpr ⟨gl_669, rfl⟩
theorem gl_670 : Cond.instanceMethod (⟨"LevelStore", "release", "(I)I"⟩ : MethodName) ∈ lw_tbl := List.mem_of_getElem? (i := 670) (by decide +kernel)
theorem gw_670 : Cond.instanceMethod (⟨"LevelStore", "release", "(I)I"⟩ : MethodName) ∈ ga_G := List.mem_filter.mpr ⟨gl_670, rfl⟩
theorem gl_671 : Cond.selects "LevelStore" (⟨"LevelStore", "release", "(I)I"⟩ : MethodName) (⟨"LevelStore", "release", "(I)I"⟩ : MethodName) ∈ lw_tbl := List.mem_of_getElem? (i := 671) (by decide +kernel)
theorem gw_671 : Cond.selects "LevelStore" (⟨"LevelStore", "release", "(I)I"⟩ : MethodName) (⟨"LevelStore", "release", "(I)I"⟩ : MethodName) ∈ ga_G := List.mem_filter.mpr ⟨gl_671, rfl⟩
theorem gl_672 : Cond.code y_L_release c_L_release 3 (some .int) ∈ lw_tbl := List.mem_of_getElem? (i := 672) (by decide +kernel)
theorem gw_672 : Cond.code y_L_release c_L_release 3 (some .int) ∈ ga_G := List.mem_filter.mpr ⟨gl_672, rfl⟩
theorem gl_676 : Cond.classLink "LevelStoreLaw" 54 "java/lang/IndexOutOfBoundsException" ∈ lw_tbl := List.mem_of_getElem? (i := 676) (by decide +kernel)
theorem gw_676 : Cond.classLink "LevelStoreLaw" 54 "java/lang/IndexOutOfBoundsException" ∈ ga_G := List.mem_filter.mpr ⟨gl_676, rfl⟩
theorem gl_677 : Cond.methodLink "LevelStoreLaw" 51 (⟨"LevelStore", "spoil", "(II)I"⟩ : MethodName) ∈ lw_tbl := List.mem_of_getElem? (i := 677) (by decide +kernel)
theorem gw_677 : Cond.methodLink "LevelStoreLaw" 51 (⟨"LevelStore", "spoil", "(II)I"⟩ : MethodName) ∈ ga_G := List.mem_filter.mpr ⟨gl_677, rfl⟩
theorem gl_678 : Cond.instanceMethod (⟨"LevelStore", "spoil", "(II)I"⟩ : MethodName) ∈ lw_tbl := List.mem_of_getElem? (i := 678) (by decide +kernel)
theorem gw_678 : Cond.instanceMethod (⟨"LevelStore", "spoil", "(II)I"⟩ : MethodName) ∈ ga_G := List.mem_filter.mpr ⟨gl_678, rfl⟩
theorem gl_679 : Cond.selects "LevelStore" (⟨"LevelStore", "spoil", "(II)I"⟩ : MethodName) (⟨"LevelStore", "spoil", "(II)I"⟩ : MethodName) ∈ lw_tbl := List.mem_of_getElem? (i := 679) (by decide +kernel)
theorem gw_679 : Cond.selects "LevelStore" (⟨"LevelStore", "spoil", "(II)I"⟩ : MethodName) (⟨"LevelStore", "spoil", "(II)I"⟩ : MethodName) ∈ ga_G := List.mem_filter.mpr ⟨gl_679, rfl⟩
theorem gl_680 : Cond.code y_L_spoil c_L_spoil 3 (some .int) ∈ lw_tbl := List.mem_of_getElem? (i := 680) (by decide +kernel)
theorem gw_680 : Cond.code y_L_spoil c_L_spoil 3 (some .int) ∈ ga_G := List.mem_filter.mpr ⟨gl_680, rfl⟩
theorem gl_681 : Cond.methodLink "LevelStore" 139 (⟨"LevelStore$Shelf", "blocksOf", "(I)I"⟩ : MethodName) ∈ lw_tbl := List.mem_of_getElem? (i := 681) (by decide +kernel)
theorem gw_681 : Cond.methodLink "LevelStore" 139 (⟨"LevelStore$Shelf", "blocksOf", "(I)I"⟩ : MethodName) ∈ ga_G := List.mem_filter.mpr ⟨gl_681, rfl⟩
theorem gl_682 : Cond.instanceMethod (⟨"LevelStore$Shelf", "blocksOf", "(I)I"⟩ : MethodName) ∈ lw_tbl := List.mem_of_getElem? (i := 682) (by decide +kernel)
theorem gw_682 : Cond.instanceMethod (⟨"LevelStore$Shelf", "blocksOf", "(I)I"⟩ : MethodName) ∈ ga_G := List.mem_filter.mpr ⟨gl_682, rfl⟩
theorem gl_683 : Cond.selects "LevelStore$Shelf" (⟨"LevelStore$Shelf", "blocksOf", "(I)I"⟩ : MethodName) (⟨"LevelStore$Shelf", "blocksOf", "(I)I"⟩ : MethodName) ∈ lw_tbl := List.mem_of_getElem? (i := 683) (by decide +kernel)
theorem gw_683 : Cond.selects "LevelStore$Shelf" (⟨"LevelStore$Shelf", "blocksOf", "(I)I"⟩ : MethodName) (⟨"LevelStore$Shelf", "blocksOf", "(I)I"⟩ : MethodName) ∈ ga_G := List.mem_filter.mpr ⟨gl_683, rfl⟩
theorem gl_684 : Cond.code y_S_blocksOf c_S_blocksOf 2 (some .int) ∈ lw_tbl := List.mem_of_getElem? (i := 684) (by decide +kernel)
theorem gw_684 : Cond.code y_S_blocksOf c_S_blocksOf 2 (some .int) ∈ ga_G := List.mem_filter.mpr ⟨gl_684, rfl⟩
theorem gl_685 : Cond.methodLink "LevelStore$Shelf" 55 (⟨"LevelStore$Shelf", "sizeOf", "(I)I"⟩ : MethodName) ∈ lw_tbl := List.mem_of_getElem? (i := 685) (by decide +kernel)
theorem gw_685 : Cond.methodLink "LevelStore$Shelf" 55 (⟨"LevelStore$Shelf", "sizeOf", "(I)I"⟩ : MethodName) ∈ ga_G := List.mem_filter.mpr ⟨gl_685, rfl⟩
theorem gl_686 : Cond.instanceMethod (⟨"LevelStore$Shelf", "sizeOf", "(I)I"⟩ : MethodName) ∈ lw_tbl := List.mem_of_getElem? (i := 686) (by decide +kernel)
theorem gw_686 : Cond.instanceMethod (⟨"LevelStore$Shelf", "sizeOf", "(I)I"⟩ : MethodName) ∈ ga_G := List.mem_filter.mpr ⟨gl_686, rfl⟩
theorem gl_687 : Cond.selects "LevelStore$Shelf" (⟨"LevelStore$Shelf", "sizeOf", "(I)I"⟩ : MethodName) (⟨"LevelStore$Shelf", "sizeOf", "(I)I"⟩ : MethodName) ∈ lw_tbl := List.mem_of_getElem? (i := 687) (by decide +kernel)
theorem gw_687 : Cond.selects "LevelStore$Shelf" (⟨"LevelStore$Shelf", "sizeOf", "(I)I"⟩ : MethodName) (⟨"LevelStore$Shelf", "sizeOf", "(I)I"⟩ : MethodName) ∈ ga_G := List.mem_filter.mpr ⟨gl_687, rfl⟩
theorem gl_688 : Cond.code y_S_sizeOf c_S_sizeOf 2 (some .int) ∈ lw_tbl := List.mem_of_getElem? (i := 688) (by decide +kernel)
theorem gw_688 : Cond.code y_S_sizeOf c_S_sizeOf 2 (some .int) ∈ ga_G := List.mem_filter.mpr ⟨gl_688, rfl⟩
theorem gl_689 : Cond.classLink "LevelStore" 142 "java/lang/IndexOutOfBoundsException" ∈ lw_tbl := List.mem_of_getElem? (i := 689) (by decide +kernel)
theorem gw_689 : Cond.classLink "LevelStore" 142 "java/lang/IndexOutOfBoundsException" ∈ ga_G := List.mem_filter.mpr ⟨gl_689, rfl⟩
theorem gl_691 : Cond.castable "java/lang/IndexOutOfBoundsException" "java/lang/IndexOutOfBoundsException" ∈ lw_tbl := List.mem_of_getElem? (i := 691) (by decide +kernel)
theorem gl_698 : Cond.methodLink "LevelStore" 144 (⟨"java/lang/IndexOutOfBoundsException", "<init>", "()V"⟩ : MethodName) ∈ lw_tbl := List.mem_of_getElem? (i := 698) (by decide +kernel)
theorem gw_698 : Cond.methodLink "LevelStore" 144 (⟨"java/lang/IndexOutOfBoundsException", "<init>", "()V"⟩ : MethodName) ∈ ga_G := List.mem_filter.mpr ⟨gl_698, rfl⟩
theorem gl_704 : Cond.methodLink "LevelStore" 145 (⟨"LevelStore$Shelf", "spoilBlock", "(II)I"⟩ : MethodName) ∈ lw_tbl := List.mem_of_getElem? (i := 704) (by decide +kernel)
theorem gw_704 : Cond.methodLink "LevelStore" 145 (⟨"LevelStore$Shelf", "spoilBlock", "(II)I"⟩ : MethodName) ∈ ga_G := List.mem_filter.mpr ⟨gl_704, rfl⟩
theorem gl_705 : Cond.instanceMethod (⟨"LevelStore$Shelf", "spoilBlock", "(II)I"⟩ : MethodName) ∈ lw_tbl := List.mem_of_getElem? (i := 705) (by decide +kernel)
theorem gw_705 : Cond.instanceMethod (⟨"LevelStore$Shelf", "spoilBlock", "(II)I"⟩ : MethodName) ∈ ga_G := List.mem_filter.mpr ⟨gl_705, rfl⟩
theorem gl_706 : Cond.selects "LevelStore$Shelf" (⟨"LevelStore$Shelf", "spoilBlock", "(II)I"⟩ : MethodName) (⟨"LevelStore$Shelf", "spoilBlock", "(II)I"⟩ : MethodName) ∈ lw_tbl := List.mem_of_getElem? (i := 706) (by decide +kernel)
theorem gw_706 : Cond.selects "LevelStore$Shelf" (⟨"LevelStore$Shelf", "spoilBlock", "(II)I"⟩ : MethodName) (⟨"LevelStore$Shelf", "spoilBlock", "(II)I"⟩ : MethodName) ∈ ga_G := List.mem_filter.mpr ⟨gl_706, rfl⟩
theorem gl_707 : Cond.code y_S_spoilBlock c_S_spoilBlock 6 (some .int) ∈ lw_tbl := List.mem_of_getElem? (i := 707) (by decide +kernel)
theorem gw_707 : Cond.code y_S_spoilBlock c_S_spoilBlock 6 (some .int) ∈ ga_G := List.mem_filter.mpr ⟨gl_707, rfl⟩
theorem gl_708 : Cond.methodLink "LevelStore$Shelf" 63 (⟨"java/lang/Math", "min", "(II)I"⟩ : MethodName) ∈ lw_tbl := List.mem_of_getElem? (i := 708) (by decide +kernel)
theorem gw_708 : Cond.methodLink "LevelStore$Shelf" 63 (⟨"java/lang/Math", "min", "(II)I"⟩ : MethodName) ∈ ga_G := List.mem_filter.mpr ⟨gl_708, rfl⟩
theorem gl_712 : Cond.classLink "LevelStoreLaw" 60 "java/lang/ArithmeticException" ∈ lw_tbl := List.mem_of_getElem? (i := 712) (by decide +kernel)
theorem gw_712 : Cond.classLink "LevelStoreLaw" 60 "java/lang/ArithmeticException" ∈ ga_G := List.mem_filter.mpr ⟨gl_712, rfl⟩
theorem gl_713 : Cond.methodLink "LevelStoreLaw" 56 (⟨"LevelStore", "effort", "()D"⟩ : MethodName) ∈ lw_tbl := List.mem_of_getElem? (i := 713) (by decide +kernel)
theorem gw_713 : Cond.methodLink "LevelStoreLaw" 56 (⟨"LevelStore", "effort", "()D"⟩ : MethodName) ∈ ga_G := List.mem_filter.mpr ⟨gl_713, rfl⟩
theorem gl_714 : Cond.instanceMethod (⟨"LevelStore", "effort", "()D"⟩ : MethodName) ∈ lw_tbl := List.mem_of_getElem? (i := 714) (by decide +kernel)
theorem gw_714 : Cond.instanceMethod (⟨"LevelStore", "effort", "()D"⟩ : MethodName) ∈ ga_G := List.mem_filter.mpr ⟨gl_714, rfl⟩
theorem gl_715 : Cond.selects "LevelStore" (⟨"LevelStore", "effort", "()D"⟩ : MethodName) (⟨"LevelStore", "effort", "()D"⟩ : MethodName) ∈ lw_tbl := List.mem_of_getElem? (i := 715) (by decide +kernel)
theorem gw_715 : Cond.selects "LevelStore" (⟨"LevelStore", "effort", "()D"⟩ : MethodName) (⟨"LevelStore", "effort", "()D"⟩ : MethodName) ∈ ga_G := List.mem_filter.mpr ⟨gl_715, rfl⟩
theorem gl_716 : Cond.code y_L_effort c_L_effort 1 (some .double) ∈ lw_tbl := List.mem_of_getElem? (i := 716) (by decide +kernel)
theorem gw_716 : Cond.code y_L_effort c_L_effort 1 (some .double) ∈ ga_G := List.mem_filter.mpr ⟨gl_716, rfl⟩
theorem gl_717 : Cond.classLink "LevelStore" 151 "java/lang/ArithmeticException" ∈ lw_tbl := List.mem_of_getElem? (i := 717) (by decide +kernel)
theorem gw_717 : Cond.classLink "LevelStore" 151 "java/lang/ArithmeticException" ∈ ga_G := List.mem_filter.mpr ⟨gl_717, rfl⟩
theorem gl_719 : Cond.castable "java/lang/ArithmeticException" "java/lang/ArithmeticException" ∈ lw_tbl := List.mem_of_getElem? (i := 719) (by decide +kernel)
theorem gl_726 : Cond.methodLink "LevelStore" 153 (⟨"java/lang/ArithmeticException", "<init>", "()V"⟩ : MethodName) ∈ lw_tbl := List.mem_of_getElem? (i := 726) (by decide +kernel)
theorem gw_726 : Cond.methodLink "LevelStore" 153 (⟨"java/lang/ArithmeticException", "<init>", "()V"⟩ : MethodName) ∈ ga_G := List.mem_filter.mpr ⟨gl_726, rfl⟩
theorem gl_735 : Cond.methodLink "LevelStoreLaw" 62 (⟨"LevelStore", "table", "(II)I"⟩ : MethodName) ∈ lw_tbl := List.mem_of_getElem? (i := 735) (by decide +kernel)
theorem gw_735 : Cond.methodLink "LevelStoreLaw" 62 (⟨"LevelStore", "table", "(II)I"⟩ : MethodName) ∈ ga_G := List.mem_filter.mpr ⟨gl_735, rfl⟩
theorem gl_736 : Cond.instanceMethod (⟨"LevelStore", "table", "(II)I"⟩ : MethodName) ∈ lw_tbl := List.mem_of_getElem? (i := 736) (by decide +kernel)
theorem gw_736 : Cond.instanceMethod (⟨"LevelStore", "table", "(II)I"⟩ : MethodName) ∈ ga_G := List.mem_filter.mpr ⟨gl_736, rfl⟩
theorem gl_737 : Cond.selects "LevelStore" (⟨"LevelStore", "table", "(II)I"⟩ : MethodName) (⟨"LevelStore", "table", "(II)I"⟩ : MethodName) ∈ lw_tbl := List.mem_of_getElem? (i := 737) (by decide +kernel)
theorem gw_737 : Cond.selects "LevelStore" (⟨"LevelStore", "table", "(II)I"⟩ : MethodName) (⟨"LevelStore", "table", "(II)I"⟩ : MethodName) ∈ ga_G := List.mem_filter.mpr ⟨gl_737, rfl⟩
theorem gl_738 : Cond.code y_L_table c_L_table 4 (some .int) ∈ lw_tbl := List.mem_of_getElem? (i := 738) (by decide +kernel)
theorem gw_738 : Cond.code y_L_table c_L_table 4 (some .int) ∈ ga_G := List.mem_filter.mpr ⟨gl_738, rfl⟩
theorem gl_739 : Cond.methodLink "LevelStore" 163 (⟨"LevelStore$Shelf", "sizeOf", "(I)I"⟩ : MethodName) ∈ lw_tbl := List.mem_of_getElem? (i := 739) (by decide +kernel)
theorem gw_739 : Cond.methodLink "LevelStore" 163 (⟨"LevelStore$Shelf", "sizeOf", "(I)I"⟩ : MethodName) ∈ ga_G := List.mem_filter.mpr ⟨gl_739, rfl⟩
theorem gl_740 : Cond.methodLink "LevelStore" 166 (⟨"LevelStore$Shelf", "leastKey", "(I)I"⟩ : MethodName) ∈ lw_tbl := List.mem_of_getElem? (i := 740) (by decide +kernel)
theorem gw_740 : Cond.methodLink "LevelStore" 166 (⟨"LevelStore$Shelf", "leastKey", "(I)I"⟩ : MethodName) ∈ ga_G := List.mem_filter.mpr ⟨gl_740, rfl⟩
theorem gl_741 : Cond.methodLink "LevelStore" 169 (⟨"LevelStore$Shelf", "greatestKey", "(I)I"⟩ : MethodName) ∈ lw_tbl := List.mem_of_getElem? (i := 741) (by decide +kernel)
theorem gw_741 : Cond.methodLink "LevelStore" 169 (⟨"LevelStore$Shelf", "greatestKey", "(I)I"⟩ : MethodName) ∈ ga_G := List.mem_filter.mpr ⟨gl_741, rfl⟩
theorem gl_742 : Cond.methodLink "LevelStore" 172 (⟨"LevelStore$Shelf", "spoiledBlocksOf", "(I)I"⟩ : MethodName) ∈ lw_tbl := List.mem_of_getElem? (i := 742) (by decide +kernel)
theorem gw_742 : Cond.methodLink "LevelStore" 172 (⟨"LevelStore$Shelf", "spoiledBlocksOf", "(I)I"⟩ : MethodName) ∈ ga_G := List.mem_filter.mpr ⟨gl_742, rfl⟩
theorem gl_743 : Cond.methodLink "LevelStore" 175 (⟨"LevelStore$Shelf", "entryNumber", "(II)I"⟩ : MethodName) ∈ lw_tbl := List.mem_of_getElem? (i := 743) (by decide +kernel)
theorem gw_743 : Cond.methodLink "LevelStore" 175 (⟨"LevelStore$Shelf", "entryNumber", "(II)I"⟩ : MethodName) ∈ ga_G := List.mem_filter.mpr ⟨gl_743, rfl⟩
theorem gl_744 : Cond.instanceMethod (⟨"LevelStore$Shelf", "entryNumber", "(II)I"⟩ : MethodName) ∈ lw_tbl := List.mem_of_getElem? (i := 744) (by decide +kernel)
theorem gw_744 : Cond.instanceMethod (⟨"LevelStore$Shelf", "entryNumber", "(II)I"⟩ : MethodName) ∈ ga_G := List.mem_filter.mpr ⟨gl_744, rfl⟩
theorem gl_745 : Cond.selects "LevelStore$Shelf" (⟨"LevelStore$Shelf", "entryNumber", "(II)I"⟩ : MethodName) (⟨"LevelStore$Shelf", "entryNumber", "(II)I"⟩ : MethodName) ∈ lw_tbl := List.mem_of_getElem? (i := 745) (by decide +kernel)
theorem gw_745 : Cond.selects "LevelStore$Shelf" (⟨"LevelStore$Shelf", "entryNumber", "(II)I"⟩ : MethodName) (⟨"LevelStore$Shelf", "entryNumber", "(II)I"⟩ : MethodName) ∈ ga_G := List.mem_filter.mpr ⟨gl_745, rfl⟩
theorem gl_746 : Cond.code y_S_entryNumber c_S_entryNumber 3 (some .int) ∈ lw_tbl := List.mem_of_getElem? (i := 746) (by decide +kernel)
theorem gw_746 : Cond.code y_S_entryNumber c_S_entryNumber 3 (some .int) ∈ ga_G := List.mem_filter.mpr ⟨gl_746, rfl⟩
theorem gl_750 : Cond.methodLink "LevelStoreLaw" 65 (⟨"LevelStore", "count", "(I)I"⟩ : MethodName) ∈ lw_tbl := List.mem_of_getElem? (i := 750) (by decide +kernel)
theorem gw_750 : Cond.methodLink "LevelStoreLaw" 65 (⟨"LevelStore", "count", "(I)I"⟩ : MethodName) ∈ ga_G := List.mem_filter.mpr ⟨gl_750, rfl⟩
theorem gl_751 : Cond.instanceMethod (⟨"LevelStore", "count", "(I)I"⟩ : MethodName) ∈ lw_tbl := List.mem_of_getElem? (i := 751) (by decide +kernel)
theorem gw_751 : Cond.instanceMethod (⟨"LevelStore", "count", "(I)I"⟩ : MethodName) ∈ ga_G := List.mem_filter.mpr ⟨gl_751, rfl⟩
theorem gl_752 : Cond.selects "LevelStore" (⟨"LevelStore", "count", "(I)I"⟩ : MethodName) (⟨"LevelStore", "count", "(I)I"⟩ : MethodName) ∈ lw_tbl := List.mem_of_getElem? (i := 752) (by decide +kernel)
theorem gw_752 : Cond.selects "LevelStore" (⟨"LevelStore", "count", "(I)I"⟩ : MethodName) (⟨"LevelStore", "count", "(I)I"⟩ : MethodName) ∈ ga_G := List.mem_filter.mpr ⟨gl_752, rfl⟩
theorem gl_753 : Cond.code y_L_count c_L_count 2 (some .int) ∈ lw_tbl := List.mem_of_getElem? (i := 753) (by decide +kernel)
theorem gw_753 : Cond.code y_L_count c_L_count 2 (some .int) ∈ ga_G := List.mem_filter.mpr ⟨gl_753, rfl⟩
theorem gl_754 : Cond.methodLink "LevelStore" 193 (⟨"LevelStore$Shelf", "tablesOn", "(I)I"⟩ : MethodName) ∈ lw_tbl := List.mem_of_getElem? (i := 754) (by decide +kernel)
theorem gw_754 : Cond.methodLink "LevelStore" 193 (⟨"LevelStore$Shelf", "tablesOn", "(I)I"⟩ : MethodName) ∈ ga_G := List.mem_filter.mpr ⟨gl_754, rfl⟩
theorem gl_760 : Cond.methodLink "LevelStoreModel" 1 (⟨"java/lang/Object", "<init>", "()V"⟩ : MethodName) ∈ lw_tbl := List.mem_of_getElem? (i := 760) (by decide +kernel)
theorem gw_760 : Cond.methodLink "LevelStoreModel" 1 (⟨"java/lang/Object", "<init>", "()V"⟩ : MethodName) ∈ ga_G := List.mem_filter.mpr ⟨gl_760, rfl⟩
theorem gl_761 : Cond.fieldLink "LevelStoreModel" 85 "LevelStoreModel" "thrown" "I" ∈ lw_tbl := List.mem_of_getElem? (i := 761) (by decide +kernel)
theorem gw_761 : Cond.fieldLink "LevelStoreModel" 85 "LevelStoreModel" "thrown" "I" ∈ ga_G := List.mem_filter.mpr ⟨gl_761, rfl⟩
theorem gl_762 : Cond.fieldLink "LevelStoreModel" 7 "LevelStoreModel" "key" "[I" ∈ lw_tbl := List.mem_of_getElem? (i := 762) (by decide +kernel)
theorem gw_762 : Cond.fieldLink "LevelStoreModel" 7 "LevelStoreModel" "key" "[I" ∈ ga_G := List.mem_filter.mpr ⟨gl_762, rfl⟩
theorem gl_763 : Cond.fieldLink "LevelStoreModel" 13 "LevelStoreModel" "number" "[I" ∈ lw_tbl := List.mem_of_getElem? (i := 763) (by decide +kernel)
theorem gw_763 : Cond.fieldLink "LevelStoreModel" 13 "LevelStoreModel" "number" "[I" ∈ ga_G := List.mem_filter.mpr ⟨gl_763, rfl⟩
theorem gl_764 : Cond.fieldLink "LevelStoreModel" 16 "LevelStoreModel" "value" "[I" ∈ lw_tbl := List.mem_of_getElem? (i := 764) (by decide +kernel)
theorem gw_764 : Cond.fieldLink "LevelStoreModel" 16 "LevelStoreModel" "value" "[I" ∈ ga_G := List.mem_filter.mpr ⟨gl_764, rfl⟩
theorem gl_765 : Cond.fieldLink "LevelStoreModel" 19 "LevelStoreModel" "gone" "[Z" ∈ lw_tbl := List.mem_of_getElem? (i := 765) (by decide +kernel)
theorem gw_765 : Cond.fieldLink "LevelStoreModel" 19 "LevelStoreModel" "gone" "[Z" ∈ ga_G := List.mem_filter.mpr ⟨gl_765, rfl⟩
theorem gl_766 : Cond.fieldLink "LevelStoreModel" 95 "LevelStoreModel" "entries" "I" ∈ lw_tbl := List.mem_of_getElem? (i := 766) (by decide +kernel)
theorem gw_766 : Cond.fieldLink "LevelStoreModel" 95 "LevelStoreModel" "entries" "I" ∈ ga_G := List.mem_filter.mpr ⟨gl_766, rfl⟩
theorem gl_767 : Cond.fieldLink "LevelStoreModel" 23 "LevelStoreModel" "tNumber" "[I" ∈ lw_tbl := List.mem_of_getElem? (i := 767) (by decide +kernel)
theorem gw_767 : Cond.fieldLink "LevelStoreModel" 23 "LevelStoreModel" "tNumber" "[I" ∈ ga_G := List.mem_filter.mpr ⟨gl_767, rfl⟩
theorem gl_768 : Cond.fieldLink "LevelStoreModel" 26 "LevelStoreModel" "tLevel" "[I" ∈ lw_tbl := List.mem_of_getElem? (i := 768) (by decide +kernel)
theorem gw_768 : Cond.fieldLink "LevelStoreModel" 26 "LevelStoreModel" "tLevel" "[I" ∈ ga_G := List.mem_filter.mpr ⟨gl_768, rfl⟩
theorem gl_769 : Cond.fieldLink "LevelStoreModel" 29 "LevelStoreModel" "tSize" "[I" ∈ lw_tbl := List.mem_of_getElem? (i := 769) (by decide +kernel)
theorem gw_769 : Cond.fieldLink "LevelStoreModel" 29 "LevelStoreModel" "tSize" "[I" ∈ ga_G := List.mem_filter.mpr ⟨gl_769, rfl⟩
theorem gl_770 : Cond.fieldLink "LevelStoreModel" 32 "LevelStoreModel" "tSpoiled" "[J" ∈ lw_tbl := List.mem_of_getElem? (i := 770) (by decide +kernel)
theorem gw_770 : Cond.fieldLink "LevelStoreModel" 32 "LevelStoreModel" "tSpoiled" "[J" ∈ ga_G := List.mem_filter.mpr ⟨gl_770, rfl⟩
theorem gl_771 : Cond.fieldLink "LevelStoreModel" 92 "LevelStoreModel" "tables" "I" ∈ lw_tbl := List.mem_of_getElem? (i := 771) (by decide +kernel)
theorem gw_771 : Cond.fieldLink "LevelStoreModel" 92 "LevelStoreModel" "tables" "I" ∈ ga_G := List.mem_filter.mpr ⟨gl_771, rfl⟩
theorem gl_772 : Cond.fieldLink "LevelStoreModel" 36 "LevelStoreModel" "mKey" "[I" ∈ lw_tbl := List.mem_of_getElem? (i := 772) (by decide +kernel)
theorem gw_772 : Cond.fieldLink "LevelStoreModel" 36 "LevelStoreModel" "mKey" "[I" ∈ ga_G := List.mem_filter.mpr ⟨gl_772, rfl⟩
theorem gl_773 : Cond.fieldLink "LevelStoreModel" 39 "LevelStoreModel" "mNumber" "[I" ∈ lw_tbl := List.mem_of_getElem? (i := 773) (by decide +kernel)
theorem gw_773 : Cond.fieldLink "LevelStoreModel" 39 "LevelStoreModel" "mNumber" "[I" ∈ ga_G := List.mem_filter.mpr ⟨gl_773, rfl⟩
theorem gl_774 : Cond.fieldLink "LevelStoreModel" 42 "LevelStoreModel" "mValue" "[I" ∈ lw_tbl := List.mem_of_getElem? (i := 774) (by decide +kernel)
theorem gw_774 : Cond.fieldLink "LevelStoreModel" 42 "LevelStoreModel" "mValue" "[I" ∈ ga_G := List.mem_filter.mpr ⟨gl_774, rfl⟩
theorem gl_775 : Cond.fieldLink "LevelStoreModel" 45 "LevelStoreModel" "mGone" "[Z" ∈ lw_tbl := List.mem_of_getElem? (i := 775) (by decide +kernel)
theorem gw_775 : Cond.fieldLink "LevelStoreModel" 45 "LevelStoreModel" "mGone" "[Z" ∈ ga_G := List.mem_filter.mpr ⟨gl_775, rfl⟩
theorem gl_776 : Cond.fieldLink "LevelStoreModel" 166 "LevelStoreModel" "memory" "I" ∈ lw_tbl := List.mem_of_getElem? (i := 776) (by decide +kernel)
theorem gw_776 : Cond.fieldLink "LevelStoreModel" 166 "LevelStoreModel" "memory" "I" ∈ ga_G := List.mem_filter.mpr ⟨gl_776, rfl⟩
theorem gl_777 : Cond.fieldLink "LevelStoreModel" 48 "LevelStoreModel" "recordSize" "[I" ∈ lw_tbl := List.mem_of_getElem? (i := 777) (by decide +kernel)
theorem gw_777 : Cond.fieldLink "LevelStoreModel" 48 "LevelStoreModel" "recordSize" "[I" ∈ ga_G := List.mem_filter.mpr ⟨gl_777, rfl⟩
theorem gl_778 : Cond.fieldLink "LevelStoreModel" 169 "LevelStoreModel" "records" "I" ∈ lw_tbl := List.mem_of_getElem? (i := 778) (by decide +kernel)
theorem gw_778 : Cond.fieldLink "LevelStoreModel" 169 "LevelStoreModel" "records" "I" ∈ ga_G := List.mem_filter.mpr ⟨gl_778, rfl⟩
theorem gl_779 : Cond.fieldLink "LevelStoreModel" 172 "LevelStoreModel" "synced" "I" ∈ lw_tbl := List.mem_of_getElem? (i := 779) (by decide +kernel)
theorem gw_779 : Cond.fieldLink "LevelStoreModel" 172 "LevelStoreModel" "synced" "I" ∈ ga_G := List.mem_filter.mpr ⟨gl_779, rfl⟩
theorem gl_780 : Cond.fieldLink "LevelStoreModel" 51 "LevelStoreModel" "bKey" "[I" ∈ lw_tbl := List.mem_of_getElem? (i := 780) (by decide +kernel)
theorem gw_780 : Cond.fieldLink "LevelStoreModel" 51 "LevelStoreModel" "bKey" "[I" ∈ ga_G := List.mem_filter.mpr ⟨gl_780, rfl⟩
theorem gl_781 : Cond.fieldLink "LevelStoreModel" 54 "LevelStoreModel" "bValue" "[I" ∈ lw_tbl := List.mem_of_getElem? (i := 781) (by decide +kernel)
theorem gw_781 : Cond.fieldLink "LevelStoreModel" 54 "LevelStoreModel" "bValue" "[I" ∈ ga_G := List.mem_filter.mpr ⟨gl_781, rfl⟩
theorem gl_782 : Cond.fieldLink "LevelStoreModel" 57 "LevelStoreModel" "bGone" "[Z" ∈ lw_tbl := List.mem_of_getElem? (i := 782) (by decide +kernel)
theorem gw_782 : Cond.fieldLink "LevelStoreModel" 57 "LevelStoreModel" "bGone" "[Z" ∈ ga_G := List.mem_filter.mpr ⟨gl_782, rfl⟩
theorem gl_783 : Cond.fieldLink "LevelStoreModel" 60 "LevelStoreModel" "batch" "I" ∈ lw_tbl := List.mem_of_getElem? (i := 783) (by decide +kernel)
theorem gw_783 : Cond.fieldLink "LevelStoreModel" 60 "LevelStoreModel" "batch" "I" ∈ ga_G := List.mem_filter.mpr ⟨gl_783, rfl⟩
theorem gl_784 : Cond.fieldLink "LevelStoreModel" 64 "LevelStoreModel" "snapshots" "[I" ∈ lw_tbl := List.mem_of_getElem? (i := 784) (by decide +kernel)
theorem gw_784 : Cond.fieldLink "LevelStoreModel" 64 "LevelStoreModel" "snapshots" "[I" ∈ ga_G := List.mem_filter.mpr ⟨gl_784, rfl⟩
theorem gl_785 : Cond.fieldLink "LevelStoreModel" 67 "LevelStoreModel" "pointer" "[I" ∈ lw_tbl := List.mem_of_getElem? (i := 785) (by decide +kernel)
theorem gw_785 : Cond.fieldLink "LevelStoreModel" 67 "LevelStoreModel" "pointer" "[I" ∈ ga_G := List.mem_filter.mpr ⟨gl_785, rfl⟩
theorem gl_786 : Cond.fieldLink "LevelStoreModel" 114 "LevelStoreModel" "latest" "I" ∈ lw_tbl := List.mem_of_getElem? (i := 786) (by decide +kernel)
theorem gw_786 : Cond.fieldLink "LevelStoreModel" 114 "LevelStoreModel" "latest" "I" ∈ ga_G := List.mem_filter.mpr ⟨gl_786, rfl⟩
theorem gl_787 : Cond.fieldLink "LevelStoreModel" 134 "LevelStoreModel" "stuck" "Z" ∈ lw_tbl := List.mem_of_getElem? (i := 787) (by decide +kernel)
theorem gw_787 : Cond.fieldLink "LevelStoreModel" 134 "LevelStoreModel" "stuck" "Z" ∈ ga_G := List.mem_filter.mpr ⟨gl_787, rfl⟩
theorem gl_788 : Cond.fieldLink "LevelStoreModel" 211 "LevelStoreModel" "reads" "I" ∈ lw_tbl := List.mem_of_getElem? (i := 788) (by decide +kernel)
theorem gw_788 : Cond.fieldLink "LevelStoreModel" 211 "LevelStoreModel" "reads" "I" ∈ ga_G := List.mem_filter.mpr ⟨gl_788, rfl⟩
theorem gl_789 : Cond.fieldLink "LevelStoreModel" 224 "LevelStoreModel" "misses" "I" ∈ lw_tbl := List.mem_of_getElem? (i := 789) (by decide +kernel)
theorem gw_789 : Cond.fieldLink "LevelStoreModel" 224 "LevelStoreModel" "misses" "I" ∈ ga_G := List.mem_filter.mpr ⟨gl_789, rfl⟩
theorem gl_790 : Cond.fieldLink "LevelStoreModel" 227 "LevelStoreModel" "gets" "I" ∈ lw_tbl := List.mem_of_getElem? (i := 790) (by decide +kernel)
theorem gw_790 : Cond.fieldLink "LevelStoreModel" 227 "LevelStoreModel" "gets" "I" ∈ ga_G := List.mem_filter.mpr ⟨gl_790, rfl⟩
theorem gl_791 : Cond.fieldLink "LevelStoreModel" 105 "LevelStoreModel" "made" "I" ∈ lw_tbl := List.mem_of_getElem? (i := 791) (by decide +kernel)
theorem gw_791 : Cond.fieldLink "LevelStoreModel" 105 "LevelStoreModel" "made" "I" ∈ ga_G := List.mem_filter.mpr ⟨gl_791, rfl⟩
theorem gl_792 : Cond.fieldLink "LevelStoreModel" 131 "LevelStoreModel" "dropped" "I" ∈ lw_tbl := List.mem_of_getElem? (i := 792) (by decide +kernel)
theorem gw_792 : Cond.fieldLink "LevelStoreModel" 131 "LevelStoreModel" "dropped" "I" ∈ ga_G := List.mem_filter.mpr ⟨gl_792, rfl⟩
theorem gl_793 : Cond.fieldLink "LevelStoreModel" 70 "LevelStoreModel" "wKey" "[I" ∈ lw_tbl := List.mem_of_getElem? (i := 793) (by decide +kernel)
theorem gw_793 : Cond.fieldLink "LevelStoreModel" 70 "LevelStoreModel" "wKey" "[I" ∈ ga_G := List.mem_filter.mpr ⟨gl_793, rfl⟩
theorem gl_794 : Cond.fieldLink "LevelStoreModel" 73 "LevelStoreModel" "wNumber" "[I" ∈ lw_tbl := List.mem_of_getElem? (i := 794) (by decide +kernel)
theorem gw_794 : Cond.fieldLink "LevelStoreModel" 73 "LevelStoreModel" "wNumber" "[I" ∈ ga_G := List.mem_filter.mpr ⟨gl_794, rfl⟩
theorem gl_795 : Cond.fieldLink "LevelStoreModel" 76 "LevelStoreModel" "wValue" "[I" ∈ lw_tbl := List.mem_of_getElem? (i := 795) (by decide +kernel)
theorem gw_795 : Cond.fieldLink "LevelStoreModel" 76 "LevelStoreModel" "wValue" "[I" ∈ ga_G := List.mem_filter.mpr ⟨gl_795, rfl⟩
theorem gl_796 : Cond.fieldLink "LevelStoreModel" 79 "LevelStoreModel" "wGone" "[Z" ∈ lw_tbl := List.mem_of_getElem? (i := 796) (by decide +kernel)
theorem gw_796 : Cond.fieldLink "LevelStoreModel" 79 "LevelStoreModel" "wGone" "[Z" ∈ ga_G := List.mem_filter.mpr ⟨gl_796, rfl⟩
theorem gl_797 : Cond.fieldLink "LevelStoreModel" 108 "LevelStoreModel" "work" "I" ∈ lw_tbl := List.mem_of_getElem? (i := 797) (by decide +kernel)
theorem gw_797 : Cond.fieldLink "LevelStoreModel" 108 "LevelStoreModel" "work" "I" ∈ ga_G := List.mem_filter.mpr ⟨gl_797, rfl⟩
theorem gl_798 : Cond.fieldLink "LevelStoreModel" 82 "LevelStoreModel" "goes" "[Z" ∈ lw_tbl := List.mem_of_getElem? (i := 798) (by decide +kernel)
theorem gw_798 : Cond.fieldLink "LevelStoreModel" 82 "LevelStoreModel" "goes" "[Z" ∈ ga_G := List.mem_filter.mpr ⟨gl_798, rfl⟩
theorem gl_799 : Cond.fieldLink "LevelStoreModel" 208 "LevelStoreModel" "found" "I" ∈ lw_tbl := List.mem_of_getElem? (i := 799) (by decide +kernel)
theorem gw_799 : Cond.fieldLink "LevelStoreModel" 208 "LevelStoreModel" "found" "I" ∈ ga_G := List.mem_filter.mpr ⟨gl_799, rfl⟩
theorem gl_800 : Cond.lays "LevelStoreModel" "LevelStoreModel" "thrown" "I" ∈ lw_tbl := List.mem_of_getElem? (i := 800) (by decide +kernel)
theorem gw_800 : Cond.lays "LevelStoreModel" "LevelStoreModel" "thrown" "I" ∈ ga_G := List.mem_filter.mpr ⟨gl_800, rfl⟩
theorem gl_802 : Cond.laysFinal "LevelStoreModel" "LevelStoreModel" "key" "[I" ∈ lw_tbl := List.mem_of_getElem? (i := 802) (by decide +kernel)
theorem gw_802 : Cond.laysFinal "LevelStoreModel" "LevelStoreModel" "key" "[I" ∈ ga_G := List.mem_filter.mpr ⟨gl_802, rfl⟩
theorem gl_804 : Cond.laysFinal "LevelStoreModel" "LevelStoreModel" "number" "[I" ∈ lw_tbl := List.mem_of_getElem? (i := 804) (by decide +kernel)
theorem gw_804 : Cond.laysFinal "LevelStoreModel" "LevelStoreModel" "number" "[I" ∈ ga_G := List.mem_filter.mpr ⟨gl_804, rfl⟩
theorem gl_806 : Cond.laysFinal "LevelStoreModel" "LevelStoreModel" "value" "[I" ∈ lw_tbl := List.mem_of_getElem? (i := 806) (by decide +kernel)
theorem gw_806 : Cond.laysFinal "LevelStoreModel" "LevelStoreModel" "value" "[I" ∈ ga_G := List.mem_filter.mpr ⟨gl_806, rfl⟩
theorem gl_808 : Cond.laysFinal "LevelStoreModel" "LevelStoreModel" "gone" "[Z" ∈ lw_tbl := List.mem_of_getElem? (i := 808) (by decide +kernel)
theorem gw_808 : Cond.laysFinal "LevelStoreModel" "LevelStoreModel" "gone" "[Z" ∈ ga_G := List.mem_filter.mpr ⟨gl_808, rfl⟩
theorem gl_810 : Cond.lays "LevelStoreModel" "LevelStoreModel" "entries" "I" ∈ lw_tbl := List.mem_of_getElem? (i := 810) (by decide +kernel)
theorem gw_810 : Cond.lays "LevelStoreModel" "LevelStoreModel" "entries" "I" ∈ ga_G := List.mem_filter.mpr ⟨gl_810, rfl⟩
theorem gl_812 : Cond.laysFinal "LevelStoreModel" "LevelStoreModel" "tNumber" "[I" ∈ lw_tbl := List.mem_of_getElem? (i := 812) (by decide +kernel)
theorem gw_812 : Cond.laysFinal "LevelStoreModel" "LevelStoreModel" "tNumber" "[I" ∈ ga_G := List.mem_filter.mpr ⟨gl_812, rfl⟩
theorem gl_814 : Cond.laysFinal "LevelStoreModel" "LevelStoreModel" "tLevel" "[I" ∈ lw_tbl := List.mem_of_getElem? (i := 814) (by decide +kernel)
theorem gw_814 : Cond.laysFinal "LevelStoreModel" "LevelStoreModel" "tLevel" "[I" ∈ ga_G := List.mem_filter.mpr ⟨gl_814, rfl⟩
theorem gl_816 : Cond.laysFinal "LevelStoreModel" "LevelStoreModel" "tSize" "[I" ∈ lw_tbl := List.mem_of_getElem? (i := 816) (by decide +kernel)
theorem gw_816 : Cond.laysFinal "LevelStoreModel" "LevelStoreModel" "tSize" "[I" ∈ ga_G := List.mem_filter.mpr ⟨gl_816, rfl⟩
theorem gl_818 : Cond.laysFinal "LevelStoreModel" "LevelStoreModel" "tSpoiled" "[J" ∈ lw_tbl := List.mem_of_getElem? (i := 818) (by decide +kernel)
theorem gw_818 : Cond.laysFinal "LevelStoreModel" "LevelStoreModel" "tSpoiled" "[J" ∈ ga_G := List.mem_filter.mpr ⟨gl_818, rfl⟩
theorem gl_820 : Cond.lays "LevelStoreModel" "LevelStoreModel" "tables" "I" ∈ lw_tbl := List.mem_of_getElem? (i := 820) (by decide +kernel)
theorem gw_820 : Cond.lays "LevelStoreModel" "LevelStoreModel" "tables" "I" ∈ ga_G := List.mem_filter.mpr ⟨gl_820, rfl⟩
theorem gl_822 : Cond.laysFinal "LevelStoreModel" "LevelStoreModel" "mKey" "[I" ∈ lw_tbl := List.mem_of_getElem? (i := 822) (by decide +kernel)
theorem gw_822 : Cond.laysFinal "LevelStoreModel" "LevelStoreModel" "mKey" "[I" ∈ ga_G := List.mem_filter.mpr ⟨gl_822, rfl⟩
theorem gl_824 : Cond.laysFinal "LevelStoreModel" "LevelStoreModel" "mNumber" "[I" ∈ lw_tbl := List.mem_of_getElem? (i := 824) (by decide +kernel)
theorem gw_824 : Cond.laysFinal "LevelStoreModel" "LevelStoreModel" "mNumber" "[I" ∈ ga_G := List.mem_filter.mpr ⟨gl_824, rfl⟩
theorem gl_826 : Cond.laysFinal "LevelStoreModel" "LevelStoreModel" "mValue" "[I" ∈ lw_tbl := List.mem_of_getElem? (i := 826) (by decide +kernel)
theorem gw_826 : Cond.laysFinal "LevelStoreModel" "LevelStoreModel" "mValue" "[I" ∈ ga_G := List.mem_filter.mpr ⟨gl_826, rfl⟩
theorem gl_828 : Cond.laysFinal "LevelStoreModel" "LevelStoreModel" "mGone" "[Z" ∈ lw_tbl := List.mem_of_getElem? (i := 828) (by decide +kernel)
theorem gw_828 : Cond.laysFinal "LevelStoreModel" "LevelStoreModel" "mGone" "[Z" ∈ ga_G := List.mem_filter.mpr ⟨gl_828, rfl⟩
theorem gl_830 : Cond.lays "LevelStoreModel" "LevelStoreModel" "memory" "I" ∈ lw_tbl := List.mem_of_getElem? (i := 830) (by decide +kernel)
theorem gw_830 : Cond.lays "LevelStoreModel" "LevelStoreModel" "memory" "I" ∈ ga_G := List.mem_filter.mpr ⟨gl_830, rfl⟩
theorem gl_832 : Cond.laysFinal "LevelStoreModel" "LevelStoreModel" "recordSize" "[I" ∈ lw_tbl := List.mem_of_getElem? (i := 832) (by decide +kernel)
theorem gw_832 : Cond.laysFinal "LevelStoreModel" "LevelStoreModel" "recordSize" "[I" ∈ ga_G := List.mem_filter.mpr ⟨gl_832, rfl⟩
theorem gl_834 : Cond.lays "LevelStoreModel" "LevelStoreModel" "records" "I" ∈ lw_tbl := List.mem_of_getElem? (i := 834) (by decide +kernel)
theorem gw_834 : Cond.lays "LevelStoreModel" "LevelStoreModel" "records" "I" ∈ ga_G := List.mem_filter.mpr ⟨gl_834, rfl⟩
theorem gl_836 : Cond.lays "LevelStoreModel" "LevelStoreModel" "synced" "I" ∈ lw_tbl := List.mem_of_getElem? (i := 836) (by decide +kernel)
theorem gw_836 : Cond.lays "LevelStoreModel" "LevelStoreModel" "synced" "I" ∈ ga_G := List.mem_filter.mpr ⟨gl_836, rfl⟩
theorem gl_838 : Cond.laysFinal "LevelStoreModel" "LevelStoreModel" "bKey" "[I" ∈ lw_tbl := List.mem_of_getElem? (i := 838) (by decide +kernel)
theorem gw_838 : Cond.laysFinal "LevelStoreModel" "LevelStoreModel" "bKey" "[I" ∈ ga_G := List.mem_filter.mpr ⟨gl_838, rfl⟩
theorem gl_840 : Cond.laysFinal "LevelStoreModel" "LevelStoreModel" "bValue" "[I" ∈ lw_tbl := List.mem_of_getElem? (i := 840) (by decide +kernel)
theorem gw_840 : Cond.laysFinal "LevelStoreModel" "LevelStoreModel" "bValue" "[I" ∈ ga_G := List.mem_filter.mpr ⟨gl_840, rfl⟩
theorem gl_842 : Cond.laysFinal "LevelStoreModel" "LevelStoreModel" "bGone" "[Z" ∈ lw_tbl := List.mem_of_getElem? (i := 842) (by decide +kernel)
theorem gw_842 : Cond.laysFinal "LevelStoreModel" "LevelStoreModel" "bGone" "[Z" ∈ ga_G := List.mem_filter.mpr ⟨gl_842, rfl⟩
theorem gl_844 : Cond.lays "LevelStoreModel" "LevelStoreModel" "batch" "I" ∈ lw_tbl := List.mem_of_getElem? (i := 844) (by decide +kernel)
theorem gw_844 : Cond.lays "LevelStoreModel" "LevelStoreModel" "batch" "I" ∈ ga_G := List.mem_filter.mpr ⟨gl_844, rfl⟩
theorem gl_846 : Cond.laysFinal "LevelStoreModel" "LevelStoreModel" "snapshots" "[I" ∈ lw_tbl := List.mem_of_getElem? (i := 846) (by decide +kernel)
theorem gw_846 : Cond.laysFinal "LevelStoreModel" "LevelStoreModel" "snapshots" "[I" ∈ ga_G := List.mem_filter.mpr ⟨gl_846, rfl⟩
theorem gl_848 : Cond.laysFinal "LevelStoreModel" "LevelStoreModel" "pointer" "[I" ∈ lw_tbl := List.mem_of_getElem? (i := 848) (by decide +kernel)
theorem gw_848 : Cond.laysFinal "LevelStoreModel" "LevelStoreModel" "pointer" "[I" ∈ ga_G := List.mem_filter.mpr ⟨gl_848, rfl⟩
theorem gl_850 : Cond.lays "LevelStoreModel" "LevelStoreModel" "latest" "I" ∈ lw_tbl := List.mem_of_getElem? (i := 850) (by decide +kernel)
theorem gw_850 : Cond.lays "LevelStoreModel" "LevelStoreModel" "latest" "I" ∈ ga_G := List.mem_filter.mpr ⟨gl_850, rfl⟩
theorem gl_852 : Cond.lays "LevelStoreModel" "LevelStoreModel" "stuck" "Z" ∈ lw_tbl := List.mem_of_getElem? (i := 852) (by decide +kernel)
theorem gw_852 : Cond.lays "LevelStoreModel" "LevelStoreModel" "stuck" "Z" ∈ ga_G := List.mem_filter.mpr ⟨gl_852, rfl⟩
theorem gl_854 : Cond.lays "LevelStoreModel" "LevelStoreModel" "reads" "I" ∈ lw_tbl := List.mem_of_getElem? (i := 854) (by decide +kernel)
theorem gw_854 : Cond.lays "LevelStoreModel" "LevelStoreModel" "reads" "I" ∈ ga_G := List.mem_filter.mpr ⟨gl_854, rfl⟩
theorem gl_856 : Cond.lays "LevelStoreModel" "LevelStoreModel" "misses" "I" ∈ lw_tbl := List.mem_of_getElem? (i := 856) (by decide +kernel)
theorem gw_856 : Cond.lays "LevelStoreModel" "LevelStoreModel" "misses" "I" ∈ ga_G := List.mem_filter.mpr ⟨gl_856, rfl⟩
theorem gl_858 : Cond.lays "LevelStoreModel" "LevelStoreModel" "gets" "I" ∈ lw_tbl := List.mem_of_getElem? (i := 858) (by decide +kernel)
theorem gw_858 : Cond.lays "LevelStoreModel" "LevelStoreModel" "gets" "I" ∈ ga_G := List.mem_filter.mpr ⟨gl_858, rfl⟩
theorem gl_860 : Cond.lays "LevelStoreModel" "LevelStoreModel" "made" "I" ∈ lw_tbl := List.mem_of_getElem? (i := 860) (by decide +kernel)
theorem gw_860 : Cond.lays "LevelStoreModel" "LevelStoreModel" "made" "I" ∈ ga_G := List.mem_filter.mpr ⟨gl_860, rfl⟩
theorem gl_862 : Cond.lays "LevelStoreModel" "LevelStoreModel" "dropped" "I" ∈ lw_tbl := List.mem_of_getElem? (i := 862) (by decide +kernel)
theorem gw_862 : Cond.lays "LevelStoreModel" "LevelStoreModel" "dropped" "I" ∈ ga_G := List.mem_filter.mpr ⟨gl_862, rfl⟩
theorem gl_864 : Cond.laysFinal "LevelStoreModel" "LevelStoreModel" "wKey" "[I" ∈ lw_tbl := List.mem_of_getElem? (i := 864) (by decide +kernel)
theorem gw_864 : Cond.laysFinal "LevelStoreModel" "LevelStoreModel" "wKey" "[I" ∈ ga_G := List.mem_filter.mpr ⟨gl_864, rfl⟩
theorem gl_866 : Cond.laysFinal "LevelStoreModel" "LevelStoreModel" "wNumber" "[I" ∈ lw_tbl := List.mem_of_getElem? (i := 866) (by decide +kernel)
theorem gw_866 : Cond.laysFinal "LevelStoreModel" "LevelStoreModel" "wNumber" "[I" ∈ ga_G := List.mem_filter.mpr ⟨gl_866, rfl⟩
theorem gl_868 : Cond.laysFinal "LevelStoreModel" "LevelStoreModel" "wValue" "[I" ∈ lw_tbl := List.mem_of_getElem? (i := 868) (by decide +kernel)
theorem gw_868 : Cond.laysFinal "LevelStoreModel" "LevelStoreModel" "wValue" "[I" ∈ ga_G := List.mem_filter.mpr ⟨gl_868, rfl⟩
theorem gl_870 : Cond.laysFinal "LevelStoreModel" "LevelStoreModel" "wGone" "[Z" ∈ lw_tbl := List.mem_of_getElem? (i := 870) (by decide +kernel)
theorem gw_870 : Cond.laysFinal "LevelStoreModel" "LevelStoreModel" "wGone" "[Z" ∈ ga_G := List.mem_filter.mpr ⟨gl_870, rfl⟩
theorem gl_872 : Cond.lays "LevelStoreModel" "LevelStoreModel" "work" "I" ∈ lw_tbl := List.mem_of_getElem? (i := 872) (by decide +kernel)
theorem gw_872 : Cond.lays "LevelStoreModel" "LevelStoreModel" "work" "I" ∈ ga_G := List.mem_filter.mpr ⟨gl_872, rfl⟩
theorem gl_874 : Cond.laysFinal "LevelStoreModel" "LevelStoreModel" "goes" "[Z" ∈ lw_tbl := List.mem_of_getElem? (i := 874) (by decide +kernel)
theorem gw_874 : Cond.laysFinal "LevelStoreModel" "LevelStoreModel" "goes" "[Z" ∈ ga_G := List.mem_filter.mpr ⟨gl_874, rfl⟩
theorem gl_876 : Cond.lays "LevelStoreModel" "LevelStoreModel" "found" "I" ∈ lw_tbl := List.mem_of_getElem? (i := 876) (by decide +kernel)
theorem gw_876 : Cond.lays "LevelStoreModel" "LevelStoreModel" "found" "I" ∈ ga_G := List.mem_filter.mpr ⟨gl_876, rfl⟩
theorem gl_879 : Cond.arrayClass .long ∈ lw_tbl := List.mem_of_getElem? (i := 879) (by decide +kernel)
theorem gw_879 : Cond.arrayClass .long ∈ ga_G := List.mem_filter.mpr ⟨gl_879, rfl⟩
theorem gl_888 : Cond.methodLink "LevelStoreModel" 198 (⟨"LevelStoreModel", "write", "(IIZ)I"⟩ : MethodName) ∈ lw_tbl := List.mem_of_getElem? (i := 888) (by decide +kernel)
theorem gw_888 : Cond.methodLink "LevelStoreModel" 198 (⟨"LevelStoreModel", "write", "(IIZ)I"⟩ : MethodName) ∈ ga_G := List.mem_filter.mpr ⟨gl_888, rfl⟩
theorem gl_890 : Cond.instanceMethod (⟨"LevelStoreModel", "write", "(IIZ)I"⟩ : MethodName) ∈ lw_tbl := List.mem_of_getElem? (i := 890) (by decide +kernel)
theorem gw_890 : Cond.instanceMethod (⟨"LevelStoreModel", "write", "(IIZ)I"⟩ : MethodName) ∈ ga_G := List.mem_filter.mpr ⟨gl_890, rfl⟩
theorem gl_891 : Cond.code y_R_write c_R_write 5 (some .int) ∈ lw_tbl := List.mem_of_getElem? (i := 891) (by decide +kernel)
theorem gw_891 : Cond.code y_R_write c_R_write 5 (some .int) ∈ ga_G := List.mem_filter.mpr ⟨gl_891, rfl⟩
theorem gl_892 : Cond.methodLink "LevelStoreModel" 181 (⟨"LevelStoreModel", "in", "(III)Z"⟩ : MethodName) ∈ lw_tbl := List.mem_of_getElem? (i := 892) (by decide +kernel)
theorem gw_892 : Cond.methodLink "LevelStoreModel" 181 (⟨"LevelStoreModel", "in", "(III)Z"⟩ : MethodName) ∈ ga_G := List.mem_filter.mpr ⟨gl_892, rfl⟩
theorem gl_893 : Cond.static (⟨"LevelStoreModel", "in", "(III)Z"⟩ : MethodName) ∈ lw_tbl := List.mem_of_getElem? (i := 893) (by decide +kernel)
theorem gw_893 : Cond.static (⟨"LevelStoreModel", "in", "(III)Z"⟩ : MethodName) ∈ ga_G := List.mem_filter.mpr ⟨gl_893, rfl⟩
theorem gl_894 : Cond.code y_R_in c_R_in 3 (some .boolean) ∈ lw_tbl := List.mem_of_getElem? (i := 894) (by decide +kernel)
theorem gw_894 : Cond.code y_R_in c_R_in 3 (some .boolean) ∈ ga_G := List.mem_filter.mpr ⟨gl_894, rfl⟩
theorem gl_895 : Cond.methodLink "LevelStoreModel" 185 (⟨"LevelStoreModel", "raise", "(I)I"⟩ : MethodName) ∈ lw_tbl := List.mem_of_getElem? (i := 895) (by decide +kernel)
theorem gw_895 : Cond.methodLink "LevelStoreModel" 185 (⟨"LevelStoreModel", "raise", "(I)I"⟩ : MethodName) ∈ ga_G := List.mem_filter.mpr ⟨gl_895, rfl⟩
theorem gl_897 : Cond.instanceMethod (⟨"LevelStoreModel", "raise", "(I)I"⟩ : MethodName) ∈ lw_tbl := List.mem_of_getElem? (i := 897) (by decide +kernel)
theorem gw_897 : Cond.instanceMethod (⟨"LevelStoreModel", "raise", "(I)I"⟩ : MethodName) ∈ ga_G := List.mem_filter.mpr ⟨gl_897, rfl⟩
theorem gl_898 : Cond.code y_R_raise c_R_raise 2 (some .int) ∈ lw_tbl := List.mem_of_getElem? (i := 898) (by decide +kernel)
theorem gw_898 : Cond.code y_R_raise c_R_raise 2 (some .int) ∈ ga_G := List.mem_filter.mpr ⟨gl_898, rfl⟩
theorem gl_899 : Cond.methodLink "LevelStoreModel" 188 (⟨"LevelStoreModel", "full", "(I)Z"⟩ : MethodName) ∈ lw_tbl := List.mem_of_getElem? (i := 899) (by decide +kernel)
theorem gw_899 : Cond.methodLink "LevelStoreModel" 188 (⟨"LevelStoreModel", "full", "(I)Z"⟩ : MethodName) ∈ ga_G := List.mem_filter.mpr ⟨gl_899, rfl⟩
theorem gl_901 : Cond.instanceMethod (⟨"LevelStoreModel", "full", "(I)Z"⟩ : MethodName) ∈ lw_tbl := List.mem_of_getElem? (i := 901) (by decide +kernel)
theorem gw_901 : Cond.instanceMethod (⟨"LevelStoreModel", "full", "(I)Z"⟩ : MethodName) ∈ ga_G := List.mem_filter.mpr ⟨gl_901, rfl⟩
theorem gl_902 : Cond.code y_R_full c_R_full 2 (some .boolean) ∈ lw_tbl := List.mem_of_getElem? (i := 902) (by decide +kernel)
