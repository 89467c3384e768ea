-- ===== PART A: goes FIRST, ahead of the names: the tables' words, and 'selects' of the private methods out of them =====
/-- a private method of a class that the tables say can be made, by its rows of tables_1 -/
def lw_okq (q : MethodName × Nat) : Prop := (q.1.cls ≠ "java/lang/invoke/MethodHandle" ∧ q.1.cls ≠ "java/lang/invoke/VarHandle") ∧ Cond.instantiable q.1.cls q.2 ∈ tables_1 ∧ Cond.privateMethod q.1 ∈ tables_1 ∧ Cond.instanceMethod q.1 ∈ tables_1
theorem lw_p0 : lw_okq (⟨"RecurringDays$Reader", "readSum", "(I[LRecurringDays$Plan;)LRecurringDays$Days;"⟩, 6) := ⟨⟨by decide +kernel, by decide +kernel⟩, List.mem_of_getElem? (i := 23) (by decide +kernel), List.mem_of_getElem? (i := 188) (by decide +kernel), List.mem_of_getElem? (i := 189) (by decide +kernel)⟩
theorem lw_p1 : lw_okq (⟨"RecurringDays$Reader", "readProduct", "(I[LRecurringDays$Plan;)LRecurringDays$Days;"⟩, 6) := ⟨⟨by decide +kernel, by decide +kernel⟩, List.mem_of_getElem? (i := 23) (by decide +kernel), List.mem_of_getElem? (i := 196) (by decide +kernel), List.mem_of_getElem? (i := 197) (by decide +kernel)⟩
theorem lw_p2 : lw_okq (⟨"RecurringDays$Reader", "readFactor", "(I[LRecurringDays$Plan;)LRecurringDays$Days;"⟩, 6) := ⟨⟨by decide +kernel, by decide +kernel⟩, List.mem_of_getElem? (i := 23) (by decide +kernel), List.mem_of_getElem? (i := 205) (by decide +kernel), List.mem_of_getElem? (i := 206) (by decide +kernel)⟩
theorem lw_p3 : lw_okq (⟨"RecurringDays$Reader", "take", "(I)Z"⟩, 6) := ⟨⟨by decide +kernel, by decide +kernel⟩, List.mem_of_getElem? (i := 23) (by decide +kernel), List.mem_of_getElem? (i := 209) (by decide +kernel), List.mem_of_getElem? (i := 210) (by decide +kernel)⟩
theorem lw_p4 : lw_okq (⟨"RecurringDays$Reader", "here", "()I"⟩, 6) := ⟨⟨by decide +kernel, by decide +kernel⟩, List.mem_of_getElem? (i := 23) (by decide +kernel), List.mem_of_getElem? (i := 213) (by decide +kernel), List.mem_of_getElem? (i := 214) (by decide +kernel)⟩
theorem lw_p5 : lw_okq (⟨"RecurringDays$Reader", "readPlain", "(ILRecurringDays$Days;[LRecurringDays$Plan;)Z"⟩, 6) := ⟨⟨by decide +kernel, by decide +kernel⟩, List.mem_of_getElem? (i := 23) (by decide +kernel), List.mem_of_getElem? (i := 217) (by decide +kernel), List.mem_of_getElem? (i := 218) (by decide +kernel)⟩
theorem lw_p6 : lw_okq (⟨"RecurringDays$Reader", "readInner", "(ILRecurringDays$Days;[LRecurringDays$Plan;)Z"⟩, 6) := ⟨⟨by decide +kernel, by decide +kernel⟩, List.mem_of_getElem? (i := 23) (by decide +kernel), List.mem_of_getElem? (i := 224) (by decide +kernel), List.mem_of_getElem? (i := 225) (by decide +kernel)⟩
theorem lw_p7 : lw_okq (⟨"RecurringDays$Reader", "readBracket", "(I[LRecurringDays$Plan;)LRecurringDays$Days;"⟩, 6) := ⟨⟨by decide +kernel, by decide +kernel⟩, List.mem_of_getElem? (i := 23) (by decide +kernel), List.mem_of_getElem? (i := 228) (by decide +kernel), List.mem_of_getElem? (i := 229) (by decide +kernel)⟩
theorem lw_p8 : lw_okq (⟨"RecurringDays$Reader", "readUnit", "(ILRecurringDays$Days;)Z"⟩, 6) := ⟨⟨by decide +kernel, by decide +kernel⟩, List.mem_of_getElem? (i := 23) (by decide +kernel), List.mem_of_getElem? (i := 236) (by decide +kernel), List.mem_of_getElem? (i := 237) (by decide +kernel)⟩
theorem lw_p9 : lw_okq (⟨"RecurringDays$Reader", "readNumber", "(II)I"⟩, 6) := ⟨⟨by decide +kernel, by decide +kernel⟩, List.mem_of_getElem? (i := 23) (by decide +kernel), List.mem_of_getElem? (i := 243) (by decide +kernel), List.mem_of_getElem? (i := 244) (by decide +kernel)⟩
theorem lw_p10 : lw_okq (⟨"RecurringDays$Reader", "readPair", "(ILRecurringDays$Days;)Z"⟩, 6) := ⟨⟨by decide +kernel, by decide +kernel⟩, List.mem_of_getElem? (i := 23) (by decide +kernel), List.mem_of_getElem? (i := 262) (by decide +kernel), List.mem_of_getElem? (i := 263) (by decide +kernel)⟩
theorem lw_p11 : lw_okq (⟨"RecurringDays$Reader", "readOfBlocks", "(IILRecurringDays$Days;[LRecurringDays$Plan;)Z"⟩, 6) := ⟨⟨by decide +kernel, by decide +kernel⟩, List.mem_of_getElem? (i := 23) (by decide +kernel), List.mem_of_getElem? (i := 266) (by decide +kernel), List.mem_of_getElem? (i := 267) (by decide +kernel)⟩
theorem lw_p12 : lw_okq (⟨"RecurringDays$Reader", "readChanged", "(IILRecurringDays$Days;[LRecurringDays$Plan;)Z"⟩, 6) := ⟨⟨by decide +kernel, by decide +kernel⟩, List.mem_of_getElem? (i := 23) (by decide +kernel), List.mem_of_getElem? (i := 297) (by decide +kernel), List.mem_of_getElem? (i := 298) (by decide +kernel)⟩
theorem lw_p13 : lw_okq (⟨"RecurringDays", "toggle", "(ILRecurringDays$Days;I)I"⟩, 7) := ⟨⟨by decide +kernel, by decide +kernel⟩, List.mem_of_getElem? (i := 13) (by decide +kernel), List.mem_of_getElem? (i := 369) (by decide +kernel), List.mem_of_getElem? (i := 370) (by decide +kernel)⟩
theorem lw_p14 : lw_okq (⟨"RecurringDays$Memory", "find", "(III)I"⟩, 4) := ⟨⟨by decide +kernel, by decide +kernel⟩, List.mem_of_getElem? (i := 63) (by decide +kernel), List.mem_of_getElem? (i := 414) (by decide +kernel), List.mem_of_getElem? (i := 415) (by decide +kernel)⟩
theorem lw_p15 : lw_okq (⟨"RecurringDays$Memory", "write", "(IIII)V"⟩, 4) := ⟨⟨by decide +kernel, by decide +kernel⟩, List.mem_of_getElem? (i := 63) (by decide +kernel), List.mem_of_getElem? (i := 418) (by decide +kernel), List.mem_of_getElem? (i := 419) (by decide +kernel)⟩
def lw_privs_1 : List (MethodName × Nat) := [(⟨"RecurringDays$Reader", "readSum", "(I[LRecurringDays$Plan;)LRecurringDays$Days;"⟩, 6), (⟨"RecurringDays$Reader", "readProduct", "(I[LRecurringDays$Plan;)LRecurringDays$Days;"⟩, 6), (⟨"RecurringDays$Reader", "readFactor", "(I[LRecurringDays$Plan;)LRecurringDays$Days;"⟩, 6), (⟨"RecurringDays$Reader", "take", "(I)Z"⟩, 6), (⟨"RecurringDays$Reader", "here", "()I"⟩, 6), (⟨"RecurringDays$Reader", "readPlain", "(ILRecurringDays$Days;[LRecurringDays$Plan;)Z"⟩, 6), (⟨"RecurringDays$Reader", "readInner", "(ILRecurringDays$Days;[LRecurringDays$Plan;)Z"⟩, 6), (⟨"RecurringDays$Reader", "readBracket", "(I[LRecurringDays$Plan;)LRecurringDays$Days;"⟩, 6), (⟨"RecurringDays$Reader", "readUnit", "(ILRecurringDays$Days;)Z"⟩, 6), (⟨"RecurringDays$Reader", "readNumber", "(II)I"⟩, 6), (⟨"RecurringDays$Reader", "readPair", "(ILRecurringDays$Days;)Z"⟩, 6), (⟨"RecurringDays$Reader", "readOfBlocks", "(IILRecurringDays$Days;[LRecurringDays$Plan;)Z"⟩, 6), (⟨"RecurringDays$Reader", "readChanged", "(IILRecurringDays$Days;[LRecurringDays$Plan;)Z"⟩, 6), (⟨"RecurringDays", "toggle", "(ILRecurringDays$Days;I)I"⟩, 7), (⟨"RecurringDays$Memory", "find", "(III)I"⟩, 4), (⟨"RecurringDays$Memory", "write", "(IIII)V"⟩, 4)]
theorem lw_r1 : ∀ q ∈ lw_privs_1, lw_okq q := List.forall_mem_cons.mpr ⟨lw_p0, List.forall_mem_cons.mpr ⟨lw_p1, List.forall_mem_cons.mpr ⟨lw_p2, List.forall_mem_cons.mpr ⟨lw_p3, List.forall_mem_cons.mpr ⟨lw_p4, List.forall_mem_cons.mpr ⟨lw_p5, List.forall_mem_cons.mpr ⟨lw_p6, List.forall_mem_cons.mpr ⟨lw_p7, List.forall_mem_cons.mpr ⟨lw_p8, List.forall_mem_cons.mpr ⟨lw_p9, List.forall_mem_cons.mpr ⟨lw_p10, List.forall_mem_cons.mpr ⟨lw_p11, List.forall_mem_cons.mpr ⟨lw_p12, List.forall_mem_cons.mpr ⟨lw_p13, List.forall_mem_cons.mpr ⟨lw_p14, List.forall_mem_cons.mpr ⟨lw_p15, fun _ h => absurd h List.not_mem_nil⟩⟩⟩⟩⟩⟩⟩⟩⟩⟩⟩⟩⟩⟩⟩⟩
theorem lw_p16 : lw_okq (⟨"RecurringDays$Memory", "makeLatest", "(I)V"⟩, 4) := ⟨⟨by decide +kernel, by decide +kernel⟩, List.mem_of_getElem? (i := 63) (by decide +kernel), List.mem_of_getElem? (i := 422) (by decide +kernel), List.mem_of_getElem? (i := 423) (by decide +kernel)⟩
theorem lw_p17 : lw_okq (⟨"RecurringDays", "join", "(I)V"⟩, 7) := ⟨⟨by decide +kernel, by decide +kernel⟩, List.mem_of_getElem? (i := 13) (by decide +kernel), List.mem_of_getElem? (i := 462) (by decide +kernel), List.mem_of_getElem? (i := 463) (by decide +kernel)⟩
theorem lw_p18 : lw_okq (⟨"RecurringDays", "ownersOf", "(I)I"⟩, 7) := ⟨⟨by decide +kernel, by decide +kernel⟩, List.mem_of_getElem? (i := 13) (by decide +kernel), List.mem_of_getElem? (i := 472) (by decide +kernel), List.mem_of_getElem? (i := 473) (by decide +kernel)⟩
theorem lw_p19 : lw_okq (⟨"RecurringDays", "ruledNames", "()I"⟩, 7) := ⟨⟨by decide +kernel, by decide +kernel⟩, List.mem_of_getElem? (i := 13) (by decide +kernel), List.mem_of_getElem? (i := 505) (by decide +kernel), List.mem_of_getElem? (i := 506) (by decide +kernel)⟩
theorem lw_p20 : lw_okq (⟨"RecurringDays", "daysOutOfAll", "()I"⟩, 7) := ⟨⟨by decide +kernel, by decide +kernel⟩, List.mem_of_getElem? (i := 13) (by decide +kernel), List.mem_of_getElem? (i := 509) (by decide +kernel), List.mem_of_getElem? (i := 510) (by decide +kernel)⟩
theorem lw_p21 : lw_okq (⟨"RecurringDays", "extraDaysOfAll", "()I"⟩, 7) := ⟨⟨by decide +kernel, by decide +kernel⟩, List.mem_of_getElem? (i := 13) (by decide +kernel), List.mem_of_getElem? (i := 513) (by decide +kernel), List.mem_of_getElem? (i := 514) (by decide +kernel)⟩
theorem lw_p22 : lw_okq (⟨"RecurringDays", "refusalOf", "(IIII)I"⟩, 7) := ⟨⟨by decide +kernel, by decide +kernel⟩, List.mem_of_getElem? (i := 13) (by decide +kernel), List.mem_of_getElem? (i := 552) (by decide +kernel), List.mem_of_getElem? (i := 553) (by decide +kernel)⟩
theorem lw_p23 : lw_okq (⟨"RecurringDaysModel", "expression", "(I)I"⟩, 25) := ⟨⟨by decide +kernel, by decide +kernel⟩, List.mem_of_getElem? (i := 577) (by decide +kernel), List.mem_of_getElem? (i := 681) (by decide +kernel), List.mem_of_getElem? (i := 682) (by decide +kernel)⟩
theorem lw_p24 : lw_okq (⟨"RecurringDaysModel", "term", "(I)I"⟩, 25) := ⟨⟨by decide +kernel, by decide +kernel⟩, List.mem_of_getElem? (i := 577) (by decide +kernel), List.mem_of_getElem? (i := 685) (by decide +kernel), List.mem_of_getElem? (i := 686) (by decide +kernel)⟩
theorem lw_p25 : lw_okq (⟨"RecurringDaysModel", "factor", "(IZ)I"⟩, 25) := ⟨⟨by decide +kernel, by decide +kernel⟩, List.mem_of_getElem? (i := 577) (by decide +kernel), List.mem_of_getElem? (i := 689) (by decide +kernel), List.mem_of_getElem? (i := 690) (by decide +kernel)⟩
theorem lw_p26 : lw_okq (⟨"RecurringDaysModel", "isAt", "(I)Z"⟩, 25) := ⟨⟨by decide +kernel, by decide +kernel⟩, List.mem_of_getElem? (i := 577) (by decide +kernel), List.mem_of_getElem? (i := 693) (by decide +kernel), List.mem_of_getElem? (i := 694) (by decide +kernel)⟩
theorem lw_p27 : lw_okq (⟨"RecurringDaysModel", "peek", "()I"⟩, 25) := ⟨⟨by decide +kernel, by decide +kernel⟩, List.mem_of_getElem? (i := 577) (by decide +kernel), List.mem_of_getElem? (i := 697) (by decide +kernel), List.mem_of_getElem? (i := 698) (by decide +kernel)⟩
theorem lw_p28 : lw_okq (⟨"RecurringDaysModel", "bracketed", "(I)I"⟩, 25) := ⟨⟨by decide +kernel, by decide +kernel⟩, List.mem_of_getElem? (i := 577) (by decide +kernel), List.mem_of_getElem? (i := 701) (by decide +kernel), List.mem_of_getElem? (i := 702) (by decide +kernel)⟩
theorem lw_p29 : lw_okq (⟨"RecurringDaysModel", "takes", "(I)V"⟩, 25) := ⟨⟨by decide +kernel, by decide +kernel⟩, List.mem_of_getElem? (i := 577) (by decide +kernel), List.mem_of_getElem? (i := 705) (by decide +kernel), List.mem_of_getElem? (i := 706) (by decide +kernel)⟩
theorem lw_p30 : lw_okq (⟨"RecurringDaysModel", "fresh", "()I"⟩, 25) := ⟨⟨by decide +kernel, by decide +kernel⟩, List.mem_of_getElem? (i := 577) (by decide +kernel), List.mem_of_getElem? (i := 711) (by decide +kernel), List.mem_of_getElem? (i := 712) (by decide +kernel)⟩
theorem lw_p31 : lw_okq (⟨"RecurringDaysModel", "isOf", "(II)Z"⟩, 25) := ⟨⟨by decide +kernel, by decide +kernel⟩, List.mem_of_getElem? (i := 577) (by decide +kernel), List.mem_of_getElem? (i := 715) (by decide +kernel), List.mem_of_getElem? (i := 716) (by decide +kernel)⟩
def lw_privs_2 : List (MethodName × Nat) := [(⟨"RecurringDays$Memory", "makeLatest", "(I)V"⟩, 4), (⟨"RecurringDays", "join", "(I)V"⟩, 7), (⟨"RecurringDays", "ownersOf", "(I)I"⟩, 7), (⟨"RecurringDays", "ruledNames", "()I"⟩, 7), (⟨"RecurringDays", "daysOutOfAll", "()I"⟩, 7), (⟨"RecurringDays", "extraDaysOfAll", "()I"⟩, 7), (⟨"RecurringDays", "refusalOf", "(IIII)I"⟩, 7), (⟨"RecurringDaysModel", "expression", "(I)I"⟩, 25), (⟨"RecurringDaysModel", "term", "(I)I"⟩, 25), (⟨"RecurringDaysModel", "factor", "(IZ)I"⟩, 25), (⟨"RecurringDaysModel", "isAt", "(I)Z"⟩, 25), (⟨"RecurringDaysModel", "peek", "()I"⟩, 25), (⟨"RecurringDaysModel", "bracketed", "(I)I"⟩, 25), (⟨"RecurringDaysModel", "takes", "(I)V"⟩, 25), (⟨"RecurringDaysModel", "fresh", "()I"⟩, 25), (⟨"RecurringDaysModel", "isOf", "(II)Z"⟩, 25)]
theorem lw_r2 : ∀ q ∈ lw_privs_2, lw_okq q := List.forall_mem_cons.mpr ⟨lw_p16, List.forall_mem_cons.mpr ⟨lw_p17, List.forall_mem_cons.mpr ⟨lw_p18, List.forall_mem_cons.mpr ⟨lw_p19, List.forall_mem_cons.mpr ⟨lw_p20, List.forall_mem_cons.mpr ⟨lw_p21, List.forall_mem_cons.mpr ⟨lw_p22, List.forall_mem_cons.mpr ⟨lw_p23, List.forall_mem_cons.mpr ⟨lw_p24, List.forall_mem_cons.mpr ⟨lw_p25, List.forall_mem_cons.mpr ⟨lw_p26, List.forall_mem_cons.mpr ⟨lw_p27, List.forall_mem_cons.mpr ⟨lw_p28, List.forall_mem_cons.mpr ⟨lw_p29, List.forall_mem_cons.mpr ⟨lw_p30, List.forall_mem_cons.mpr ⟨lw_p31, fun _ h => absurd h List.not_mem_nil⟩⟩⟩⟩⟩⟩⟩⟩⟩⟩⟩⟩⟩⟩⟩⟩
theorem lw_p32 : lw_okq (⟨"RecurringDaysModel", "calendar", "(I)I"⟩, 25) := ⟨⟨by decide +kernel, by decide +kernel⟩, List.mem_of_getElem? (i := 577) (by decide +kernel), List.mem_of_getElem? (i := 719) (by decide +kernel), List.mem_of_getElem? (i := 720) (by decide +kernel)⟩
theorem lw_p33 : lw_okq (⟨"RecurringDaysModel", "number", "(II)I"⟩, 25) := ⟨⟨by decide +kernel, by decide +kernel⟩, List.mem_of_getElem? (i := 577) (by decide +kernel), List.mem_of_getElem? (i := 723) (by decide +kernel), List.mem_of_getElem? (i := 724) (by decide +kernel)⟩
theorem lw_p34 : lw_okq (⟨"RecurringDaysModel", "stretch", "(I)I"⟩, 25) := ⟨⟨by decide +kernel, by decide +kernel⟩, List.mem_of_getElem? (i := 577) (by decide +kernel), List.mem_of_getElem? (i := 729) (by decide +kernel), List.mem_of_getElem? (i := 730) (by decide +kernel)⟩
theorem lw_p35 : lw_okq (⟨"RecurringDaysModel", "blocks", "(ZI)I"⟩, 25) := ⟨⟨by decide +kernel, by decide +kernel⟩, List.mem_of_getElem? (i := 577) (by decide +kernel), List.mem_of_getElem? (i := 733) (by decide +kernel), List.mem_of_getElem? (i := 734) (by decide +kernel)⟩
theorem lw_p36 : lw_okq (⟨"RecurringDaysModel", "over", "(II)I"⟩, 25) := ⟨⟨by decide +kernel, by decide +kernel⟩, List.mem_of_getElem? (i := 577) (by decide +kernel), List.mem_of_getElem? (i := 740) (by decide +kernel), List.mem_of_getElem? (i := 741) (by decide +kernel)⟩
theorem lw_p37 : lw_okq (⟨"RecurringDaysModel", "whole", "(II)I"⟩, 25) := ⟨⟨by decide +kernel, by decide +kernel⟩, List.mem_of_getElem? (i := 577) (by decide +kernel), List.mem_of_getElem? (i := 744) (by decide +kernel), List.mem_of_getElem? (i := 745) (by decide +kernel)⟩
theorem lw_p38 : lw_okq (⟨"RecurringDaysModel", "forgets", "(I)V"⟩, 25) := ⟨⟨by decide +kernel, by decide +kernel⟩, List.mem_of_getElem? (i := 577) (by decide +kernel), List.mem_of_getElem? (i := 752) (by decide +kernel), List.mem_of_getElem? (i := 753) (by decide +kernel)⟩
theorem lw_p39 : lw_okq (⟨"RecurringDaysModel", "puts", "(IIIII)V"⟩, 25) := ⟨⟨by decide +kernel, by decide +kernel⟩, List.mem_of_getElem? (i := 577) (by decide +kernel), List.mem_of_getElem? (i := 756) (by decide +kernel), List.mem_of_getElem? (i := 757) (by decide +kernel)⟩
theorem lw_p40 : lw_okq (⟨"RecurringDaysModel", "turns", "([ZII)I"⟩, 25) := ⟨⟨by decide +kernel, by decide +kernel⟩, List.mem_of_getElem? (i := 577) (by decide +kernel), List.mem_of_getElem? (i := 775) (by decide +kernel), List.mem_of_getElem? (i := 776) (by decide +kernel)⟩
theorem lw_p41 : lw_okq (⟨"RecurringDaysModel", "nextOf", "(II)I"⟩, 25) := ⟨⟨by decide +kernel, by decide +kernel⟩, List.mem_of_getElem? (i := 577) (by decide +kernel), List.mem_of_getElem? (i := 794) (by decide +kernel), List.mem_of_getElem? (i := 795) (by decide +kernel)⟩
theorem lw_p42 : lw_okq (⟨"RecurringDaysModel", "ith", "(IIII)I"⟩, 25) := ⟨⟨by decide +kernel, by decide +kernel⟩, List.mem_of_getElem? (i := 577) (by decide +kernel), List.mem_of_getElem? (i := 806) (by decide +kernel), List.mem_of_getElem? (i := 807) (by decide +kernel)⟩
theorem lw_p43 : lw_okq (⟨"RecurringDaysModel", "counted", "(III)I"⟩, 25) := ⟨⟨by decide +kernel, by decide +kernel⟩, List.mem_of_getElem? (i := 577) (by decide +kernel), List.mem_of_getElem? (i := 810) (by decide +kernel), List.mem_of_getElem? (i := 811) (by decide +kernel)⟩
theorem lw_p44 : lw_okq (⟨"RecurringDaysModel", "having", "(II)I"⟩, 25) := ⟨⟨by decide +kernel, by decide +kernel⟩, List.mem_of_getElem? (i := 577) (by decide +kernel), List.mem_of_getElem? (i := 843) (by decide +kernel), List.mem_of_getElem? (i := 844) (by decide +kernel)⟩
theorem lw_p45 : lw_okq (⟨"RecurringDaysModel", "mergedDay", "(II)I"⟩, 25) := ⟨⟨by decide +kernel, by decide +kernel⟩, List.mem_of_getElem? (i := 577) (by decide +kernel), List.mem_of_getElem? (i := 847) (by decide +kernel), List.mem_of_getElem? (i := 848) (by decide +kernel)⟩
theorem lw_p46 : lw_okq (⟨"RecurringDaysModel", "manyAt", "(I)I"⟩, 25) := ⟨⟨by decide +kernel, by decide +kernel⟩, List.mem_of_getElem? (i := 577) (by decide +kernel), List.mem_of_getElem? (i := 859) (by decide +kernel), List.mem_of_getElem? (i := 860) (by decide +kernel)⟩
theorem lw_p47 : lw_okq (⟨"RecurringDaysModel", "wrong", "(IIII)I"⟩, 25) := ⟨⟨by decide +kernel, by decide +kernel⟩, List.mem_of_getElem? (i := 577) (by decide +kernel), List.mem_of_getElem? (i := 914) (by decide +kernel), List.mem_of_getElem? (i := 915) (by decide +kernel)⟩
def lw_privs_3 : List (MethodName × Nat) := [(⟨"RecurringDaysModel", "calendar", "(I)I"⟩, 25), (⟨"RecurringDaysModel", "number", "(II)I"⟩, 25), (⟨"RecurringDaysModel", "stretch", "(I)I"⟩, 25), (⟨"RecurringDaysModel", "blocks", "(ZI)I"⟩, 25), (⟨"RecurringDaysModel", "over", "(II)I"⟩, 25), (⟨"RecurringDaysModel", "whole", "(II)I"⟩, 25), (⟨"RecurringDaysModel", "forgets", "(I)V"⟩, 25), (⟨"RecurringDaysModel", "puts", "(IIIII)V"⟩, 25), (⟨"RecurringDaysModel", "turns", "([ZII)I"⟩, 25), (⟨"RecurringDaysModel", "nextOf", "(II)I"⟩, 25), (⟨"RecurringDaysModel", "ith", "(IIII)I"⟩, 25), (⟨"RecurringDaysModel", "counted", "(III)I"⟩, 25), (⟨"RecurringDaysModel", "having", "(II)I"⟩, 25), (⟨"RecurringDaysModel", "mergedDay", "(II)I"⟩, 25), (⟨"RecurringDaysModel", "manyAt", "(I)I"⟩, 25), (⟨"RecurringDaysModel", "wrong", "(IIII)I"⟩, 25)]
theorem lw_r3 : ∀ q ∈ lw_privs_3, lw_okq q := List.forall_mem_cons.mpr ⟨lw_p32, List.forall_mem_cons.mpr ⟨lw_p33, List.forall_mem_cons.mpr ⟨lw_p34, List.forall_mem_cons.mpr ⟨lw_p35, List.forall_mem_cons.mpr ⟨lw_p36, List.forall_mem_cons.mpr ⟨lw_p37, List.forall_mem_cons.mpr ⟨lw_p38, List.forall_mem_cons.mpr ⟨lw_p39, List.forall_mem_cons.mpr ⟨lw_p40, List.forall_mem_cons.mpr ⟨lw_p41, List.forall_mem_cons.mpr ⟨lw_p42, List.forall_mem_cons.mpr ⟨lw_p43, List.forall_mem_cons.mpr ⟨lw_p44, List.forall_mem_cons.mpr ⟨lw_p45, List.forall_mem_cons.mpr ⟨lw_p46, List.forall_mem_cons.mpr ⟨lw_p47, fun _ h => absurd h List.not_mem_nil⟩⟩⟩⟩⟩⟩⟩⟩⟩⟩⟩⟩⟩⟩⟩⟩
def lw_privs : List (MethodName × Nat) := lw_privs_1 ++ (lw_privs_2 ++ (lw_privs_3))
def lw_tbl : List Cond := k2_sels lw_privs ++ tables_1
theorem lw_privs_ok : ∀ q ∈ lw_privs, lw_okq q := by
  show ∀ q ∈ lw_privs_1 ++ (lw_privs_2 ++ (lw_privs_3)), lw_okq q
  exact List.forall_mem_append.mpr ⟨lw_r1, List.forall_mem_append.mpr ⟨lw_r2, lw_r3⟩⟩

def RX0 : String := "RecurringDays$Days"
def TX0 : u_T := fun k => match k with
  | _ => ("RecurringDays$Days", "words", "[J", true)
def tyX0 : Nat → FieldType := fun k => match k with
  | _ => .array .long
abbrev wsX00 : List Cond := u_ws RX0 TX0 1
theorem nmX0 : ∀ a, a < 1 → ∀ b, b < 1 → a ≠ b → (TX0 a).2.1 ≠ (TX0 b).2.1 := by decide +kernel
theorem tyX0_ok : ∀ k, k < 1 → parseFieldDescriptor (TX0 k).2.2.1 = some (tyX0 k) := by decide +kernel
abbrev cX0_init : ByteArray := prog_2_method_1_code
def yX0_init : MethodName := ⟨RX0, "<init>", "()V"⟩
abbrev cX0_holds : ByteArray := prog_2_method_2_code
def yX0_holds : MethodName := ⟨RX0, "holds", "(I)Z"⟩
abbrev cX0_add : ByteArray := prog_2_method_3_code
def yX0_add : MethodName := ⟨RX0, "add", "(I)V"⟩
abbrev cX0_remove : ByteArray := prog_2_method_4_code
def yX0_remove : MethodName := ⟨RX0, "remove", "(I)V"⟩
abbrev cX0_wipe : ByteArray := prog_2_method_5_code
def yX0_wipe : MethodName := ⟨RX0, "wipe", "()V"⟩
abbrev cX0_become : ByteArray := prog_2_method_6_code
def yX0_become : MethodName := ⟨RX0, "become", "(LRecurringDays$Days;)V"⟩
abbrev cX0_addAll : ByteArray := prog_2_method_7_code
def yX0_addAll : MethodName := ⟨RX0, "addAll", "(LRecurringDays$Days;)V"⟩
abbrev cX0_removeAll : ByteArray := prog_2_method_8_code
def yX0_removeAll : MethodName := ⟨RX0, "removeAll", "(LRecurringDays$Days;)V"⟩
abbrev cX0_keepAll : ByteArray := prog_2_method_9_code
def yX0_keepAll : MethodName := ⟨RX0, "keepAll", "(LRecurringDays$Days;)V"⟩
abbrev cX0_invert : ByteArray := prog_2_method_10_code
def yX0_invert : MethodName := ⟨RX0, "invert", "()V"⟩
abbrev cX0_size : ByteArray := prog_2_method_11_code
def yX0_size : MethodName := ⟨RX0, "size", "()I"⟩
abbrev cX0_heldWithin : ByteArray := prog_2_method_12_code
def yX0_heldWithin : MethodName := ⟨RX0, "heldWithin", "(II)I"⟩
abbrev cX0_pick : ByteArray := prog_2_method_13_code
def yX0_pick : MethodName := ⟨RX0, "pick", "(III)I"⟩
abbrev cX0_addSpan : ByteArray := prog_2_method_14_code
def yX0_addSpan : MethodName := ⟨RX0, "addSpan", "(II)V"⟩
abbrev cX0_addEach : ByteArray := prog_2_method_15_code
def yX0_addEach : MethodName := ⟨RX0, "addEach", "(II)V"⟩
abbrev cX0_addMoved : ByteArray := prog_2_method_16_code
def yX0_addMoved : MethodName := ⟨RX0, "addMoved", "(LRecurringDays$Days;I)V"⟩
abbrev cX0_addEachNth : ByteArray := prog_2_method_17_code
def yX0_addEachNth : MethodName := ⟨RX0, "addEachNth", "(LRecurringDays$Days;I)V"⟩
abbrev cX0_addOfBlocks : ByteArray := prog_2_method_18_code
def yX0_addOfBlocks : MethodName := ⟨RX0, "addOfBlocks", "(LRecurringDays$Days;II)V"⟩
abbrev cX0_wordFrom : ByteArray := prog_2_method_19_code
def yX0_wordFrom : MethodName := ⟨RX0, "wordFrom", "(I)J"⟩
abbrev cX0_comesAgainAfter : ByteArray := prog_2_method_20_code
def yX0_comesAgainAfter : MethodName := ⟨RX0, "comesAgainAfter", "(I)Z"⟩
def RX1 : String := "RecurringDays$Memory"
def TX1 : u_T := fun k => match k with
  | 0 => ("RecurringDays$Memory", "spans", "[[I", true)
  | 1 => ("RecurringDays$Memory", "kept", "I", false)
  | 2 => ("RecurringDays$Memory", "hits", "I", false)
  | _ => ("RecurringDays$Memory", "misses", "I", false)
def tyX1 : Nat → FieldType := fun k => match k with
  | 0 => .array (.array .int)
  | 1 => .int
  | 2 => .int
  | _ => .int
abbrev wsX10 : List Cond := u_ws RX1 TX1 4
theorem nmX1 : ∀ a, a < 4 → ∀ b, b < 4 → a ≠ b → (TX1 a).2.1 ≠ (TX1 b).2.1 := by decide +kernel
theorem tyX1_ok : ∀ k, k < 4 → parseFieldDescriptor (TX1 k).2.2.1 = some (tyX1 k) := by decide +kernel
abbrev cX1_init : ByteArray := prog_3_method_1_code
def yX1_init : MethodName := ⟨RX1, "<init>", "()V"⟩
abbrev cX1_ask : ByteArray := prog_3_method_2_code
def yX1_ask : MethodName := ⟨RX1, "ask", "(IIII)V"⟩
abbrev cX1_find : ByteArray := prog_3_method_3_code
def yX1_find : MethodName := ⟨RX1, "find", "(III)I"⟩
abbrev cX1_write : ByteArray := prog_3_method_4_code
def yX1_write : MethodName := ⟨RX1, "write", "(IIII)V"⟩
abbrev cX1_makeLatest : ByteArray := prog_3_method_5_code
def yX1_makeLatest : MethodName := ⟨RX1, "makeLatest", "(I)V"⟩
abbrev cX1_forget : ByteArray := prog_3_method_6_code
def yX1_forget : MethodName := ⟨RX1, "forget", "(I)V"⟩
abbrev cX1_forgetAll : ByteArray := prog_3_method_7_code
def yX1_forgetAll : MethodName := ⟨RX1, "forgetAll", "()V"⟩
def RX2 : String := "RecurringDays$Plan"
def TX2 : u_T := fun k => match k with
  | 0 => ("RecurringDays$Plan", "ruled", "Z", false)
  | 1 => ("RecurringDays$Plan", "rule", "LRecurringDays$Days;", true)
  | 2 => ("RecurringDays$Plan", "out", "LRecurringDays$Days;", true)
  | 3 => ("RecurringDays$Plan", "extra", "LRecurringDays$Days;", true)
  | _ => ("RecurringDays$Plan", "days", "LRecurringDays$Days;", true)
def tyX2 : Nat → FieldType := fun k => match k with
  | 0 => .boolean
  | 1 => .object "RecurringDays$Days"
  | 2 => .object "RecurringDays$Days"
  | 3 => .object "RecurringDays$Days"
  | _ => .object "RecurringDays$Days"
abbrev wsX20 : List Cond := u_ws RX2 TX2 5
theorem nmX2 : ∀ a, a < 5 → ∀ b, b < 5 → a ≠ b → (TX2 a).2.1 ≠ (TX2 b).2.1 := by decide +kernel
theorem tyX2_ok : ∀ k, k < 5 → parseFieldDescriptor (TX2 k).2.2.1 = some (tyX2 k) := by decide +kernel
abbrev cX2_init : ByteArray := prog_4_method_1_code
def yX2_init : MethodName := ⟨RX2, "<init>", "()V"⟩
abbrev cX2_become : ByteArray := prog_4_method_2_code
def yX2_become : MethodName := ⟨RX2, "become", "(ZLRecurringDays$Days;)V"⟩
abbrev cX2_unrule : ByteArray := prog_4_method_3_code
def yX2_unrule : MethodName := ⟨RX2, "unrule", "()V"⟩
abbrev cX2_take : ByteArray := prog_4_method_4_code
def yX2_take : MethodName := ⟨RX2, "take", "(LRecurringDays$Plan;)V"⟩
abbrev cX2_refresh : ByteArray := prog_4_method_5_code
def yX2_refresh : MethodName := ⟨RX2, "refresh", "()V"⟩
def RX3 : String := "RecurringDays$Reader"
def TX3 : u_T := fun k => match k with
  | 0 => ("RecurringDays$Reader", "bytes", "[I", true)
  | 1 => ("RecurringDays$Reader", "length", "I", false)
  | 2 => ("RecurringDays$Reader", "place", "I", false)
  | 3 => ("RecurringDays$Reader", "sums", "[LRecurringDays$Days;", true)
  | 4 => ("RecurringDays$Reader", "products", "[LRecurringDays$Days;", true)
  | _ => ("RecurringDays$Reader", "factors", "[LRecurringDays$Days;", true)
def tyX3 : Nat → FieldType := fun k => match k with
  | 0 => .array .int
  | 1 => .int
  | 2 => .int
  | 3 => .array (.object "RecurringDays$Days")
  | 4 => .array (.object "RecurringDays$Days")
  | _ => .array (.object "RecurringDays$Days")
abbrev wsX30 : List Cond := u_ws RX3 TX3 6
theorem nmX3 : ∀ a, a < 6 → ∀ b, b < 6 → a ≠ b → (TX3 a).2.1 ≠ (TX3 b).2.1 := by decide +kernel
theorem tyX3_ok : ∀ k, k < 6 → parseFieldDescriptor (TX3 k).2.2.1 = some (tyX3 k) := by decide +kernel
abbrev cX3_init : ByteArray := prog_5_method_1_code
def yX3_init : MethodName := ⟨RX3, "<init>", "()V"⟩
abbrev cX3_append : ByteArray := prog_5_method_2_code
def yX3_append : MethodName := ⟨RX3, "append", "(I)I"⟩
abbrev cX3_empty : ByteArray := prog_5_method_3_code
def yX3_empty : MethodName := ⟨RX3, "empty", "()I"⟩
abbrev cX3_read : ByteArray := prog_5_method_4_code
def yX3_read : MethodName := ⟨RX3, "read", "([LRecurringDays$Plan;)LRecurringDays$Days;"⟩
abbrev cX3_here : ByteArray := prog_5_method_5_code
def yX3_here : MethodName := ⟨RX3, "here", "()I"⟩
abbrev cX3_take : ByteArray := prog_5_method_6_code
def yX3_take : MethodName := ⟨RX3, "take", "(I)Z"⟩
abbrev cX3_readSum : ByteArray := prog_5_method_7_code
def yX3_readSum : MethodName := ⟨RX3, "readSum", "(I[LRecurringDays$Plan;)LRecurringDays$Days;"⟩
abbrev cX3_readProduct : ByteArray := prog_5_method_8_code
def yX3_readProduct : MethodName := ⟨RX3, "readProduct", "(I[LRecurringDays$Plan;)LRecurringDays$Days;"⟩
abbrev cX3_readFactor : ByteArray := prog_5_method_9_code
def yX3_readFactor : MethodName := ⟨RX3, "readFactor", "(I[LRecurringDays$Plan;)LRecurringDays$Days;"⟩
abbrev cX3_readPlain : ByteArray := prog_5_method_10_code
def yX3_readPlain : MethodName := ⟨RX3, "readPlain", "(ILRecurringDays$Days;[LRecurringDays$Plan;)Z"⟩
abbrev cX3_hasBracket : ByteArray := prog_5_method_11_code
def yX3_hasBracket : MethodName := ⟨RX3, "hasBracket", "(I)Z"⟩
abbrev cX3_readUnit : ByteArray := prog_5_method_12_code
def yX3_readUnit : MethodName := ⟨RX3, "readUnit", "(ILRecurringDays$Days;)Z"⟩
abbrev cX3_readPair : ByteArray := prog_5_method_13_code
def yX3_readPair : MethodName := ⟨RX3, "readPair", "(ILRecurringDays$Days;)Z"⟩
abbrev cX3_readOfBlocks : ByteArray := prog_5_method_14_code
def yX3_readOfBlocks : MethodName := ⟨RX3, "readOfBlocks", "(IILRecurringDays$Days;[LRecurringDays$Plan;)Z"⟩
abbrev cX3_readChanged : ByteArray := prog_5_method_15_code
def yX3_readChanged : MethodName := ⟨RX3, "readChanged", "(IILRecurringDays$Days;[LRecurringDays$Plan;)Z"⟩
abbrev cX3_readInner : ByteArray := prog_5_method_16_code
def yX3_readInner : MethodName := ⟨RX3, "readInner", "(ILRecurringDays$Days;[LRecurringDays$Plan;)Z"⟩
abbrev cX3_readBracket : ByteArray := prog_5_method_17_code
def yX3_readBracket : MethodName := ⟨RX3, "readBracket", "(I[LRecurringDays$Plan;)LRecurringDays$Days;"⟩
abbrev cX3_readNumber : ByteArray := prog_5_method_18_code
def yX3_readNumber : MethodName := ⟨RX3, "readNumber", "(II)I"⟩
abbrev cX3_mostOf : ByteArray := prog_5_method_19_code
def yX3_mostOf : MethodName := ⟨RX3, "mostOf", "(I)I"⟩
abbrev cX3_blockOf : ByteArray := prog_5_method_20_code
def yX3_blockOf : MethodName := ⟨RX3, "blockOf", "(I)I"⟩
def RX4 : String := "RecurringDays$Row"
def TX4 : u_T := fun k => match k with
  | 0 => ("RecurringDays$Row", "held", "Z", false)
  | 1 => ("RecurringDays$Row", "size", "I", false)
  | _ => ("RecurringDays$Row", "places", "[I", true)
def tyX4 : Nat → FieldType := fun k => match k with
  | 0 => .boolean
  | 1 => .int
  | _ => .array .int
abbrev wsX40 : List Cond := u_ws RX4 TX4 3
theorem nmX4 : ∀ a, a < 3 → ∀ b, b < 3 → a ≠ b → (TX4 a).2.1 ≠ (TX4 b).2.1 := by decide +kernel
theorem tyX4_ok : ∀ k, k < 3 → parseFieldDescriptor (TX4 k).2.2.1 = some (tyX4 k) := by decide +kernel
abbrev cX4_init : ByteArray := prog_6_method_1_code
def yX4_init : MethodName := ⟨RX4, "<init>", "()V"⟩
abbrev cX4_begin : ByteArray := prog_6_method_2_code
def yX4_begin : MethodName := ⟨RX4, "begin", "(I)V"⟩
def RX5 : String := "RecurringDays"
def TX5 : u_T := fun k => match k with
  | 0 => ("RecurringDays", "plans", "[LRecurringDays$Plan;", true)
  | 1 => ("RecurringDays", "saved", "[LRecurringDays$Plan;", true)
  | 2 => ("RecurringDays", "imaged", "Z", false)
  | 3 => ("RecurringDays", "reader", "LRecurringDays$Reader;", true)
  | 4 => ("RecurringDays", "memory", "LRecurringDays$Memory;", true)
  | 5 => ("RecurringDays", "rows", "[LRecurringDays$Row;", true)
  | _ => ("RecurringDays", "joined", "LRecurringDays$Days;", true)
def tyX5 : Nat → FieldType := fun k => match k with
  | 0 => .array (.object "RecurringDays$Plan")
  | 1 => .array (.object "RecurringDays$Plan")
  | 2 => .boolean
  | 3 => .object "RecurringDays$Reader"
  | 4 => .object "RecurringDays$Memory"
  | 5 => .array (.object "RecurringDays$Row")
  | _ => .object "RecurringDays$Days"
abbrev wsX50 : List Cond := u_ws RX5 TX5 7
theorem nmX5 : ∀ a, a < 7 → ∀ b, b < 7 → a ≠ b → (TX5 a).2.1 ≠ (TX5 b).2.1 := by decide +kernel
theorem tyX5_ok : ∀ k, k < 7 → parseFieldDescriptor (TX5 k).2.2.1 = some (tyX5 k) := by decide +kernel
abbrev cX5_init : ByteArray := prog_1_method_1_code
def yX5_init : MethodName := ⟨RX5, "<init>", "()V"⟩
abbrev cX5_feed : ByteArray := prog_1_method_2_code
def yX5_feed : MethodName := ⟨RX5, "feed", "(I)I"⟩
abbrev cX5_clear : ByteArray := prog_1_method_3_code
def yX5_clear : MethodName := ⟨RX5, "clear", "()I"⟩
abbrev cX5_rule : ByteArray := prog_1_method_4_code
def yX5_rule : MethodName := ⟨RX5, "rule", "(I)I"⟩
abbrev cX5_drop : ByteArray := prog_1_method_5_code
def yX5_drop : MethodName := ⟨RX5, "drop", "(I)I"⟩
abbrev cX5_copy : ByteArray := prog_1_method_6_code
def yX5_copy : MethodName := ⟨RX5, "copy", "(II)I"⟩
abbrev cX5_out : ByteArray := prog_1_method_7_code
def yX5_out : MethodName := ⟨RX5, "out", "(II)I"⟩
abbrev cX5_extra : ByteArray := prog_1_method_8_code
def yX5_extra : MethodName := ⟨RX5, "extra", "(II)I"⟩
abbrev cX5_has : ByteArray := prog_1_method_9_code
def yX5_has : MethodName := ⟨RX5, "has", "(II)I"⟩
abbrev cX5_next : ByteArray := prog_1_method_10_code
def yX5_next : MethodName := ⟨RX5, "next", "(II)I"⟩
abbrev cX5_ahead : ByteArray := prog_1_method_11_code
def yX5_ahead : MethodName := ⟨RX5, "ahead", "(II)I"⟩
abbrev cX5_at : ByteArray := prog_1_method_12_code
def yX5_at : MethodName := ⟨RX5, "at", "(II)I"⟩
abbrev cX5_count : ByteArray := prog_1_method_13_code
def yX5_count : MethodName := ⟨RX5, "count", "(III)I"⟩
abbrev cX5_gap : ByteArray := prog_1_method_14_code
def yX5_gap : MethodName := ⟨RX5, "gap", "(I)I"⟩
abbrev cX5_period : ByteArray := prog_1_method_15_code
def yX5_period : MethodName := ⟨RX5, "period", "(I)I"⟩
abbrev cX5_clash : ByteArray := prog_1_method_16_code
def yX5_clash : MethodName := ⟨RX5, "clash", "(III)I"⟩
abbrev cX5_unlike : ByteArray := prog_1_method_17_code
def yX5_unlike : MethodName := ⟨RX5, "unlike", "(II)I"⟩
abbrev cX5_merged : ByteArray := prog_1_method_18_code
def yX5_merged : MethodName := ⟨RX5, "merged", "(II)I"⟩
abbrev cX5_whose : ByteArray := prog_1_method_19_code
def yX5_whose : MethodName := ⟨RX5, "whose", "(II)I"⟩
abbrev cX5_busiest : ByteArray := prog_1_method_20_code
def yX5_busiest : MethodName := ⟨RX5, "busiest", "(III)I"⟩
abbrev cX5_free : ByteArray := prog_1_method_21_code
def yX5_free : MethodName := ⟨RX5, "free", "(III)I"⟩
abbrev cX5_parts : ByteArray := prog_1_method_22_code
def yX5_parts : MethodName := ⟨RX5, "parts", "(III)I"⟩
abbrev cX5_nth : ByteArray := prog_1_method_23_code
def yX5_nth : MethodName := ⟨RX5, "nth", "(IIII)I"⟩
abbrev cX5_told : ByteArray := prog_1_method_24_code
def yX5_told : MethodName := ⟨RX5, "told", "(I)I"⟩
abbrev cX5_remembered : ByteArray := prog_1_method_25_code
def yX5_remembered : MethodName := ⟨RX5, "remembered", "(II)I"⟩
abbrev cX5_list : ByteArray := prog_1_method_26_code
def yX5_list : MethodName := ⟨RX5, "list", "(II)I"⟩
abbrev cX5_put : ByteArray := prog_1_method_27_code
def yX5_put : MethodName := ⟨RX5, "put", "(III)I"⟩
abbrev cX5_get : ByteArray := prog_1_method_28_code
def yX5_get : MethodName := ⟨RX5, "get", "(II)I"⟩
abbrev cX5_move : ByteArray := prog_1_method_29_code
def yX5_move : MethodName := ⟨RX5, "move", "(IIIII)I"⟩
abbrev cX5_lay : ByteArray := prog_1_method_30_code
def yX5_lay : MethodName := ⟨RX5, "lay", "(IIII)I"⟩
abbrev cX5_judge : ByteArray := prog_1_method_31_code
def yX5_judge : MethodName := ⟨RX5, "judge", "(IIII)I"⟩
abbrev cX5_image : ByteArray := prog_1_method_32_code
def yX5_image : MethodName := ⟨RX5, "image", "()I"⟩
abbrev cX5_undo : ByteArray := prog_1_method_33_code
def yX5_undo : MethodName := ⟨RX5, "undo", "()I"⟩
abbrev cX5_isName : ByteArray := prog_1_method_34_code
def yX5_isName : MethodName := ⟨RX5, "isName", "(I)Z"⟩
abbrev cX5_isDay : ByteArray := prog_1_method_35_code
def yX5_isDay : MethodName := ⟨RX5, "isDay", "(I)Z"⟩
abbrev cX5_isSpan : ByteArray := prog_1_method_36_code
def yX5_isSpan : MethodName := ⟨RX5, "isSpan", "(II)Z"⟩
abbrev cX5_isSet : ByteArray := prog_1_method_37_code
def yX5_isSet : MethodName := ⟨RX5, "isSet", "(I)Z"⟩
abbrev cX5_isBlock : ByteArray := prog_1_method_38_code
def yX5_isBlock : MethodName := ⟨RX5, "isBlock", "(I)Z"⟩
abbrev cX5_isList : ByteArray := prog_1_method_39_code
def yX5_isList : MethodName := ⟨RX5, "isList", "(I)Z"⟩
abbrev cX5_lastOfBlock : ByteArray := prog_1_method_40_code
def yX5_lastOfBlock : MethodName := ⟨RX5, "lastOfBlock", "(II)I"⟩
abbrev cX5_toggle : ByteArray := prog_1_method_41_code
def yX5_toggle : MethodName := ⟨RX5, "toggle", "(ILRecurringDays$Days;I)I"⟩
abbrev cX5_join : ByteArray := prog_1_method_42_code
def yX5_join : MethodName := ⟨RX5, "join", "(I)V"⟩
abbrev cX5_ownersOf : ByteArray := prog_1_method_43_code
def yX5_ownersOf : MethodName := ⟨RX5, "ownersOf", "(I)I"⟩
abbrev cX5_ruledNames : ByteArray := prog_1_method_44_code
def yX5_ruledNames : MethodName := ⟨RX5, "ruledNames", "()I"⟩
abbrev cX5_daysOutOfAll : ByteArray := prog_1_method_45_code
def yX5_daysOutOfAll : MethodName := ⟨RX5, "daysOutOfAll", "()I"⟩
abbrev cX5_extraDaysOfAll : ByteArray := prog_1_method_46_code
def yX5_extraDaysOfAll : MethodName := ⟨RX5, "extraDaysOfAll", "()I"⟩
abbrev cX5_refusalOf : ByteArray := prog_1_method_47_code
def yX5_refusalOf : MethodName := ⟨RX5, "refusalOf", "(IIII)I"⟩
def RX6 : String := "RecurringDaysModel"
def TX6 : u_T := fun k => match k with
  | 0 => ("RecurringDaysModel", "ruled", "[Z", true)
  | 1 => ("RecurringDaysModel", "rules", "[Z", true)
  | 2 => ("RecurringDaysModel", "outs", "[Z", true)
  | 3 => ("RecurringDaysModel", "extras", "[Z", true)
  | 4 => ("RecurringDaysModel", "thenRuled", "[Z", true)
  | 5 => ("RecurringDaysModel", "thenRules", "[Z", true)
  | 6 => ("RecurringDaysModel", "thenOuts", "[Z", true)
  | 7 => ("RecurringDaysModel", "thenExtras", "[Z", true)
  | 8 => ("RecurringDaysModel", "kept", "Z", false)
  | 9 => ("RecurringDaysModel", "tape", "[I", true)
  | 10 => ("RecurringDaysModel", "length", "I", false)
  | 11 => ("RecurringDaysModel", "at", "I", false)
  | 12 => ("RecurringDaysModel", "well", "Z", false)
  | 13 => ("RecurringDaysModel", "sets", "[Z", true)
  | 14 => ("RecurringDaysModel", "top", "I", false)
  | 15 => ("RecurringDaysModel", "spans", "I", false)
  | 16 => ("RecurringDaysModel", "spanName", "[I", true)
  | 17 => ("RecurringDaysModel", "spanFrom", "[I", true)
  | 18 => ("RecurringDaysModel", "spanTo", "[I", true)
  | 19 => ("RecurringDaysModel", "spanMany", "[I", true)
  | 20 => ("RecurringDaysModel", "hits", "I", false)
  | 21 => ("RecurringDaysModel", "misses", "I", false)
  | 22 => ("RecurringDaysModel", "sizes", "[I", true)
  | 23 => ("RecurringDaysModel", "items", "[I", true)
  | _ => ("RecurringDaysModel", "moved", "[I", true)
def tyX6 : Nat → FieldType := fun k => match k with
  | 0 => .array .boolean
  | 1 => .array .boolean
  | 2 => .array .boolean
  | 3 => .array .boolean
  | 4 => .array .boolean
  | 5 => .array .boolean
  | 6 => .array .boolean
  | 7 => .array .boolean
  | 8 => .boolean
  | 9 => .array .int
  | 10 => .int
  | 11 => .int
  | 12 => .boolean
  | 13 => .array .boolean
  | 14 => .int
  | 15 => .int
  | 16 => .array .int
  | 17 => .array .int
  | 18 => .array .int
  | 19 => .array .int
  | 20 => .int
  | 21 => .int
  | 22 => .array .int
  | 23 => .array .int
  | _ => .array .int
abbrev wsX60 : List Cond := u_ws RX6 TX6 25
theorem nmX6 : ∀ a, a < 25 → ∀ b, b < 25 → a ≠ b → (TX6 a).2.1 ≠ (TX6 b).2.1 := by decide +kernel
theorem tyX6_ok : ∀ k, k < 25 → parseFieldDescriptor (TX6 k).2.2.1 = some (tyX6 k) := by decide +kernel
abbrev cX6_init : ByteArray := prog_8_method_1_code
def yX6_init : MethodName := ⟨RX6, "<init>", "()V"⟩
abbrev cX6_isIn : ByteArray := prog_8_method_2_code
def yX6_isIn : MethodName := ⟨RX6, "isIn", "(JJJ)Z"⟩
abbrev cX6_isName : ByteArray := prog_8_method_3_code
def yX6_isName : MethodName := ⟨RX6, "isName", "(I)Z"⟩
abbrev cX6_isDay : ByteArray := prog_8_method_4_code
def yX6_isDay : MethodName := ⟨RX6, "isDay", "(I)Z"⟩
abbrev cX6_pours : ByteArray := prog_8_method_5_code
def yX6_pours : MethodName := ⟨RX6, "pours", "([Z[ZI)V"⟩
abbrev cX6_isOf : ByteArray := prog_8_method_6_code
def yX6_isOf : MethodName := ⟨RX6, "isOf", "(II)Z"⟩
abbrev cX6_many : ByteArray := prog_8_method_7_code
def yX6_many : MethodName := ⟨RX6, "many", "([ZI)I"⟩
abbrev cX6_feed : ByteArray := prog_8_method_8_code
def yX6_feed : MethodName := ⟨RX6, "feed", "(I)I"⟩
abbrev cX6_clear : ByteArray := prog_8_method_9_code
def yX6_clear : MethodName := ⟨RX6, "clear", "()I"⟩
abbrev cX6_peek : ByteArray := prog_8_method_10_code
def yX6_peek : MethodName := ⟨RX6, "peek", "()I"⟩
abbrev cX6_isAt : ByteArray := prog_8_method_11_code
def yX6_isAt : MethodName := ⟨RX6, "isAt", "(I)Z"⟩
abbrev cX6_takes : ByteArray := prog_8_method_12_code
def yX6_takes : MethodName := ⟨RX6, "takes", "(I)V"⟩
abbrev cX6_number : ByteArray := prog_8_method_13_code
def yX6_number : MethodName := ⟨RX6, "number", "(II)I"⟩
abbrev cX6_fresh : ByteArray := prog_8_method_14_code
def yX6_fresh : MethodName := ⟨RX6, "fresh", "()I"⟩
abbrev cX6_expression : ByteArray := prog_8_method_15_code
def yX6_expression : MethodName := ⟨RX6, "expression", "(I)I"⟩
abbrev cX6_term : ByteArray := prog_8_method_16_code
def yX6_term : MethodName := ⟨RX6, "term", "(I)I"⟩
abbrev cX6_bracketed : ByteArray := prog_8_method_17_code
def yX6_bracketed : MethodName := ⟨RX6, "bracketed", "(I)I"⟩
abbrev cX6_factor : ByteArray := prog_8_method_18_code
def yX6_factor : MethodName := ⟨RX6, "factor", "(IZ)I"⟩
abbrev cX6_calendar : ByteArray := prog_8_method_19_code
def yX6_calendar : MethodName := ⟨RX6, "calendar", "(I)I"⟩
abbrev cX6_stretch : ByteArray := prog_8_method_20_code
def yX6_stretch : MethodName := ⟨RX6, "stretch", "(I)I"⟩
abbrev cX6_blockOf : ByteArray := prog_8_method_21_code
def yX6_blockOf : MethodName := ⟨RX6, "blockOf", "(II)I"⟩
abbrev cX6_blocks : ByteArray := prog_8_method_22_code
def yX6_blocks : MethodName := ⟨RX6, "blocks", "(ZI)I"⟩
abbrev cX6_over : ByteArray := prog_8_method_23_code
def yX6_over : MethodName := ⟨RX6, "over", "(II)I"⟩
abbrev cX6_whole : ByteArray := prog_8_method_24_code
def yX6_whole : MethodName := ⟨RX6, "whole", "(II)I"⟩
abbrev cX6_forgets : ByteArray := prog_8_method_25_code
def yX6_forgets : MethodName := ⟨RX6, "forgets", "(I)V"⟩
abbrev cX6_rule : ByteArray := prog_8_method_26_code
def yX6_rule : MethodName := ⟨RX6, "rule", "(I)I"⟩
abbrev cX6_drop : ByteArray := prog_8_method_27_code
def yX6_drop : MethodName := ⟨RX6, "drop", "(I)I"⟩
abbrev cX6_copy : ByteArray := prog_8_method_28_code
def yX6_copy : MethodName := ⟨RX6, "copy", "(II)I"⟩
abbrev cX6_turns : ByteArray := prog_8_method_29_code
def yX6_turns : MethodName := ⟨RX6, "turns", "([ZII)I"⟩
abbrev cX6_out : ByteArray := prog_8_method_30_code
def yX6_out : MethodName := ⟨RX6, "out", "(II)I"⟩
abbrev cX6_extra : ByteArray := prog_8_method_31_code
def yX6_extra : MethodName := ⟨RX6, "extra", "(II)I"⟩
abbrev cX6_amiss : ByteArray := prog_8_method_32_code
def yX6_amiss : MethodName := ⟨RX6, "amiss", "(II)I"⟩
abbrev cX6_has : ByteArray := prog_8_method_33_code
def yX6_has : MethodName := ⟨RX6, "has", "(II)I"⟩
abbrev cX6_nextOf : ByteArray := prog_8_method_34_code
def yX6_nextOf : MethodName := ⟨RX6, "nextOf", "(II)I"⟩
abbrev cX6_next : ByteArray := prog_8_method_35_code
def yX6_next : MethodName := ⟨RX6, "next", "(II)I"⟩
abbrev cX6_ahead : ByteArray := prog_8_method_36_code
def yX6_ahead : MethodName := ⟨RX6, "ahead", "(II)I"⟩
abbrev cX6_ith : ByteArray := prog_8_method_37_code
def yX6_ith : MethodName := ⟨RX6, "ith", "(IIII)I"⟩
abbrev cX6_at : ByteArray := prog_8_method_38_code
def yX6_at : MethodName := ⟨RX6, "at", "(II)I"⟩
abbrev cX6_counted : ByteArray := prog_8_method_39_code
def yX6_counted : MethodName := ⟨RX6, "counted", "(III)I"⟩
abbrev cX6_puts : ByteArray := prog_8_method_40_code
def yX6_puts : MethodName := ⟨RX6, "puts", "(IIIII)V"⟩
abbrev cX6_count : ByteArray := prog_8_method_41_code
def yX6_count : MethodName := ⟨RX6, "count", "(III)I"⟩
abbrev cX6_gap : ByteArray := prog_8_method_42_code
def yX6_gap : MethodName := ⟨RX6, "gap", "(I)I"⟩
abbrev cX6_period : ByteArray := prog_8_method_43_code
def yX6_period : MethodName := ⟨RX6, "period", "(I)I"⟩
abbrev cX6_clash : ByteArray := prog_8_method_44_code
def yX6_clash : MethodName := ⟨RX6, "clash", "(III)I"⟩
abbrev cX6_unlike : ByteArray := prog_8_method_45_code
def yX6_unlike : MethodName := ⟨RX6, "unlike", "(II)I"⟩
abbrev cX6_isSet : ByteArray := prog_8_method_46_code
def yX6_isSet : MethodName := ⟨RX6, "isSet", "(I)Z"⟩
abbrev cX6_having : ByteArray := prog_8_method_47_code
def yX6_having : MethodName := ⟨RX6, "having", "(II)I"⟩
abbrev cX6_mergedDay : ByteArray := prog_8_method_48_code
def yX6_mergedDay : MethodName := ⟨RX6, "mergedDay", "(II)I"⟩
abbrev cX6_merged : ByteArray := prog_8_method_49_code
def yX6_merged : MethodName := ⟨RX6, "merged", "(II)I"⟩
abbrev cX6_whose : ByteArray := prog_8_method_50_code
def yX6_whose : MethodName := ⟨RX6, "whose", "(II)I"⟩
abbrev cX6_manyAt : ByteArray := prog_8_method_51_code
def yX6_manyAt : MethodName := ⟨RX6, "manyAt", "(I)I"⟩
abbrev cX6_busiest : ByteArray := prog_8_method_52_code
def yX6_busiest : MethodName := ⟨RX6, "busiest", "(III)I"⟩
abbrev cX6_free : ByteArray := prog_8_method_53_code
def yX6_free : MethodName := ⟨RX6, "free", "(III)I"⟩
abbrev cX6_isBlock : ByteArray := prog_8_method_54_code
def yX6_isBlock : MethodName := ⟨RX6, "isBlock", "(I)Z"⟩
abbrev cX6_parts : ByteArray := prog_8_method_55_code
def yX6_parts : MethodName := ⟨RX6, "parts", "(III)I"⟩
abbrev cX6_nth : ByteArray := prog_8_method_56_code
def yX6_nth : MethodName := ⟨RX6, "nth", "(IIII)I"⟩
abbrev cX6_told : ByteArray := prog_8_method_57_code
def yX6_told : MethodName := ⟨RX6, "told", "(I)I"⟩
abbrev cX6_remembered : ByteArray := prog_8_method_58_code
def yX6_remembered : MethodName := ⟨RX6, "remembered", "(II)I"⟩
abbrev cX6_isList : ByteArray := prog_8_method_59_code
def yX6_isList : MethodName := ⟨RX6, "isList", "(I)Z"⟩
abbrev cX6_list : ByteArray := prog_8_method_60_code
def yX6_list : MethodName := ⟨RX6, "list", "(II)I"⟩
abbrev cX6_put : ByteArray := prog_8_method_61_code
def yX6_put : MethodName := ⟨RX6, "put", "(III)I"⟩
abbrev cX6_get : ByteArray := prog_8_method_62_code
def yX6_get : MethodName := ⟨RX6, "get", "(II)I"⟩
abbrev cX6_move : ByteArray := prog_8_method_63_code
def yX6_move : MethodName := ⟨RX6, "move", "(IIIII)I"⟩
abbrev cX6_wrong : ByteArray := prog_8_method_64_code
def yX6_wrong : MethodName := ⟨RX6, "wrong", "(IIII)I"⟩
abbrev cX6_lay : ByteArray := prog_8_method_65_code
def yX6_lay : MethodName := ⟨RX6, "lay", "(IIII)I"⟩
abbrev cX6_judge : ByteArray := prog_8_method_66_code
def yX6_judge : MethodName := ⟨RX6, "judge", "(IIII)I"⟩
abbrev cX6_image : ByteArray := prog_8_method_67_code
def yX6_image : MethodName := ⟨RX6, "image", "()I"⟩
abbrev cX6_undo : ByteArray := prog_8_method_68_code
def yX6_undo : MethodName := ⟨RX6, "undo", "()I"⟩
def RJ6 : String := "java/lang/Integer"
abbrev cJ6_bitCount_0f7a4 : ByteArray := prog_9_method_49_code
def yJ6_bitCount_0f7a4 : MethodName := ⟨RJ6, "bitCount", "(I)I"⟩
def RJ13 : String := "java/lang/Long"
abbrev cJ13_bitCount_95d88 : ByteArray := prog_10_method_50_code
def yJ13_bitCount_95d88 : MethodName := ⟨RJ13, "bitCount", "(J)I"⟩
def RJ9 : String := "java/lang/Math"
abbrev cJ9_max_7cf53 : ByteArray := prog_11_method_65_code
def yJ9_max_7cf53 : MethodName := ⟨RJ9, "max", "(II)I"⟩
abbrev cJ9_min_7cf53 : ByteArray := prog_11_method_69_code
def yJ9_min_7cf53 : MethodName := ⟨RJ9, "min", "(II)I"⟩
def RJ10 : String := "java/lang/System"
def RL : String := "RecurringDaysLaw"
abbrev cL_law : ByteArray := code
def yL_law : MethodName := ⟨RL, "law", "([I)Z"⟩
abbrev vwCl : List vw_C := [(RX0, TX0, 1), (RX1, TX1, 4), (RX2, TX2, 5), (RX3, TX3, 6), (RX4, TX4, 3), (RX5, TX5, 7), (RX6, TX6, 25)]
/-- a method: name, bytes, locals, answer, class of its receiver, arguments, static, places of its words (code, instance or static, selects, initialized) -/
abbrev vNr : Type := MethodName × ByteArray × Nat × Option FieldType × Nat × Nat × Bool × Nat × Nat × Nat × Nat
def vN_0 : List vNr := [(yX0_init, cX0_init, 1, none, 0, 0, false, 81, 80, 9999, 51),
  (yX0_holds, cX0_holds, 2, (some .boolean), 0, 1, false, 343, 341, 342, 51),
  (yX0_add, cX0_add, 2, none, 0, 1, false, 301, 299, 300, 51),
  (yX0_remove, cX0_remove, 2, none, 0, 1, false, 360, 358, 359, 51),
  (yX0_wipe, cX0_wipe, 2, none, 0, 0, false, 242, 240, 241, 51),
  (yX0_become, cX0_become, 3, none, 0, 1, false, 282, 280, 281, 51),
  (yX0_addAll, cX0_addAll, 3, none, 0, 1, false, 373, 371, 372, 51),
  (yX0_removeAll, cX0_removeAll, 3, none, 0, 1, false, 369, 367, 368, 51),
  (yX0_keepAll, cX0_keepAll, 3, none, 0, 1, false, 365, 363, 364, 51),
  (yX0_invert, cX0_invert, 2, none, 0, 0, false, 250, 248, 249, 51),
  (yX0_size, cX0_size, 3, (some .int), 0, 0, false, 392, 390, 391, 51),
  (yX0_heldWithin, cX0_heldWithin, 5, (some .int), 0, 2, false, 456, 454, 455, 51),
  (yX0_pick, cX0_pick, 6, (some .int), 0, 3, false, 339, 337, 338, 51),
  (yX0_addSpan, cX0_addSpan, 4, none, 0, 2, false, 308, 306, 307, 51),
  (yX0_addEach, cX0_addEach, 4, none, 0, 2, false, 297, 295, 296, 51),
  (yX0_addMoved, cX0_addMoved, 4, none, 0, 2, false, 351, 349, 350, 51),
  (yX0_addEachNth, cX0_addEachNth, 5, none, 0, 2, false, 355, 353, 354, 51),
  (yX0_addOfBlocks, cX0_addOfBlocks, 5, none, 0, 3, false, 329, 327, 328, 51),
  (yX0_wordFrom, cX0_wordFrom, 8, (some .long), 0, 1, false, 493, 491, 492, 51),
  (yX0_comesAgainAfter, cX0_comesAgainAfter, 8, (some .boolean), 0, 1, false, 487, 485, 486, 51),
  (yX1_init, cX1_init, 1, none, 1, 0, false, 114, 113, 9999, 52),
  (yX1_ask, cX1_ask, 6, none, 1, 4, false, 460, 458, 459, 52),
  (yX1_find, cX1_find, 6, (some .int), 1, 3, false, 464, 463, 14, 52),
  (yX1_write, cX1_write, 6, none, 1, 4, false, 468, 467, 15, 52),
  (yX1_makeLatest, cX1_makeLatest, 4, none, 1, 1, false, 472, 471, 16, 52),
  (yX1_forget, cX1_forget, 5, none, 1, 1, false, 388, 386, 387, 52),
  (yX1_forgetAll, cX1_forgetAll, 1, none, 1, 0, false, 623, 621, 622, 52),
  (yX2_init, cX2_init, 1, none, 2, 0, false, 142, 141, 9999, 53),
  (yX2_become, cX2_become, 3, none, 2, 2, false, 377, 375, 376, 53),
  (yX2_unrule, cX2_unrule, 1, none, 2, 0, false, 406, 404, 405, 53),
  (yX2_take, cX2_take, 2, none, 2, 1, false, 614, 612, 613, 53),
  (yX2_refresh, cX2_refresh, 1, none, 2, 0, false, 382, 380, 381, 53),
  (yX3_init, cX3_init, 2, none, 3, 0, false, 74, 73, 9999, 50),
  (yX3_append, cX3_append, 2, (some .int), 3, 1, false, 215, 213, 214, 50),
  (yX3_empty, cX3_empty, 2, (some .int), 3, 0, false, 223, 221, 222, 50),
  (yX3_read, cX3_read, 3, (some (.object "RecurringDays$Days")), 3, 1, false, 234, 232, 233, 50),
  (yX3_here, cX3_here, 1, (some .int), 3, 0, false, 263, 262, 4, 50),
  (yX3_take, cX3_take, 2, (some .boolean), 3, 1, false, 259, 258, 3, 50),
  (yX3_readSum, cX3_readSum, 7, (some (.object "RecurringDays$Days")), 3, 2, false, 238, 237, 0, 50),
  (yX3_readProduct, cX3_readProduct, 6, (some (.object "RecurringDays$Days")), 3, 2, false, 246, 245, 1, 50)]
def vN_1 : List vNr := [(yX3_readFactor, cX3_readFactor, 5, (some (.object "RecurringDays$Days")), 3, 2, false, 255, 254, 2, 50),
  (yX3_readPlain, cX3_readPlain, 5, (some .boolean), 3, 3, false, 267, 266, 5, 50),
  (yX3_hasBracket, cX3_hasBracket, 1, (some .boolean), 3, 1, true, 270, 269, 9999, 50),
  (yX3_readUnit, cX3_readUnit, 5, (some .boolean), 3, 2, false, 286, 285, 8, 50),
  (yX3_readPair, cX3_readPair, 6, (some .boolean), 3, 2, false, 312, 311, 10, 50),
  (yX3_readOfBlocks, cX3_readOfBlocks, 8, (some .boolean), 3, 4, false, 316, 315, 11, 50),
  (yX3_readChanged, cX3_readChanged, 7, (some .boolean), 3, 4, false, 347, 346, 12, 50),
  (yX3_readInner, cX3_readInner, 5, (some .boolean), 3, 3, false, 274, 273, 6, 50),
  (yX3_readBracket, cX3_readBracket, 4, (some (.object "RecurringDays$Days")), 3, 2, false, 278, 277, 7, 50),
  (yX3_readNumber, cX3_readNumber, 6, (some .int), 3, 2, false, 293, 292, 9, 50),
  (yX3_mostOf, cX3_mostOf, 1, (some .int), 3, 1, true, 289, 288, 9999, 50),
  (yX3_blockOf, cX3_blockOf, 1, (some .int), 3, 1, true, 319, 318, 9999, 50),
  (yX4_init, cX4_init, 1, none, 4, 0, false, 171, 170, 9999, 54),
  (yX4_begin, cX4_begin, 3, none, 4, 1, false, 578, 576, 577, 54),
  (yX5_init, cX5_init, 2, none, 5, 0, false, 64, 63, 9999, 49),
  (yX5_feed, cX5_feed, 2, (some .int), 5, 1, false, 211, 209, 210, 49),
  (yX5_clear, cX5_clear, 1, (some .int), 5, 0, false, 219, 217, 218, 49),
  (yX5_rule, cX5_rule, 4, (some .int), 5, 1, false, 227, 225, 226, 49),
  (yX5_drop, cX5_drop, 4, (some .int), 5, 1, false, 402, 400, 401, 49),
  (yX5_copy, cX5_copy, 4, (some .int), 5, 2, false, 411, 409, 410, 49),
  (yX5_out, cX5_out, 3, (some .int), 5, 2, false, 415, 413, 414, 49),
  (yX5_extra, cX5_extra, 3, (some .int), 5, 2, false, 428, 426, 427, 49),
  (yX5_has, cX5_has, 3, (some .int), 5, 2, false, 432, 430, 431, 49),
  (yX5_next, cX5_next, 3, (some .int), 5, 2, false, 436, 434, 435, 49),
  (yX5_ahead, cX5_ahead, 3, (some .int), 5, 2, false, 441, 439, 440, 49),
  (yX5_at, cX5_at, 3, (some .int), 5, 2, false, 445, 443, 444, 49),
  (yX5_count, cX5_count, 5, (some .int), 5, 3, false, 449, 447, 448, 49),
  (yX5_gap, cX5_gap, 6, (some .int), 5, 1, false, 476, 474, 475, 49),
  (yX5_period, cX5_period, 3, (some .int), 5, 1, false, 483, 481, 482, 49),
  (yX5_clash, cX5_clash, 7, (some .int), 5, 3, false, 497, 495, 496, 49),
  (yX5_unlike, cX5_unlike, 6, (some .int), 5, 2, false, 501, 499, 500, 49),
  (yX5_merged, cX5_merged, 3, (some .int), 5, 2, false, 505, 503, 504, 49),
  (yX5_whose, cX5_whose, 3, (some .int), 5, 2, false, 518, 516, 517, 49),
  (yX5_busiest, cX5_busiest, 8, (some .int), 5, 3, false, 526, 524, 525, 49),
  (yX5_free, cX5_free, 6, (some .int), 5, 3, false, 536, 534, 535, 49),
  (yX5_parts, cX5_parts, 7, (some .int), 5, 3, false, 540, 538, 539, 49),
  (yX5_nth, cX5_nth, 7, (some .int), 5, 4, false, 547, 545, 546, 49),
  (yX5_told, cX5_told, 2, (some .int), 5, 1, false, 551, 549, 550, 49),
  (yX5_remembered, cX5_remembered, 3, (some .int), 5, 2, false, 567, 565, 566, 49),
  (yX5_list, cX5_list, 3, (some .int), 5, 2, false, 571, 569, 570, 49)]
def vN_2 : List vNr := [(yX5_put, cX5_put, 5, (some .int), 5, 3, false, 582, 580, 581, 49),
  (yX5_get, cX5_get, 4, (some .int), 5, 2, false, 586, 584, 585, 49),
  (yX5_move, cX5_move, 8, (some .int), 5, 5, false, 591, 589, 590, 49),
  (yX5_lay, cX5_lay, 10, (some .int), 5, 4, false, 598, 596, 597, 49),
  (yX5_judge, cX5_judge, 12, (some .int), 5, 4, false, 606, 604, 605, 49),
  (yX5_image, cX5_image, 2, (some .int), 5, 0, false, 610, 608, 609, 49),
  (yX5_undo, cX5_undo, 2, (some .int), 5, 0, false, 619, 617, 618, 49),
  (yX5_isName, cX5_isName, 1, (some .boolean), 5, 1, true, 230, 229, 9999, 49),
  (yX5_isDay, cX5_isDay, 1, (some .boolean), 5, 1, true, 304, 303, 9999, 49),
  (yX5_isSpan, cX5_isSpan, 2, (some .boolean), 5, 2, true, 452, 451, 9999, 49),
  (yX5_isSet, cX5_isSet, 1, (some .boolean), 5, 1, true, 508, 507, 9999, 49),
  (yX5_isBlock, cX5_isBlock, 1, (some .boolean), 5, 1, true, 322, 321, 9999, 49),
  (yX5_isList, cX5_isList, 1, (some .boolean), 5, 1, true, 574, 573, 9999, 49),
  (yX5_lastOfBlock, cX5_lastOfBlock, 2, (some .int), 5, 2, true, 332, 331, 9999, 49),
  (yX5_toggle, cX5_toggle, 4, (some .int), 5, 3, false, 419, 418, 13, 49),
  (yX5_join, cX5_join, 3, none, 5, 1, false, 512, 511, 17, 49),
  (yX5_ownersOf, cX5_ownersOf, 4, (some .int), 5, 1, false, 522, 521, 18, 49),
  (yX5_ruledNames, cX5_ruledNames, 3, (some .int), 5, 0, false, 555, 554, 19, 49),
  (yX5_daysOutOfAll, cX5_daysOutOfAll, 3, (some .int), 5, 0, false, 559, 558, 20, 49),
  (yX5_extraDaysOfAll, cX5_extraDaysOfAll, 3, (some .int), 5, 0, false, 563, 562, 21, 49),
  (yX5_refusalOf, cX5_refusalOf, 6, (some .int), 5, 4, false, 602, 601, 22, 49),
  (yX6_init, cX6_init, 1, none, 6, 0, false, 628, 627, 9999, 55),
  (yX6_isIn, cX6_isIn, 6, (some .boolean), 6, 3, true, 715, 714, 9999, 55),
  (yX6_isName, cX6_isName, 1, (some .boolean), 6, 1, true, 726, 725, 9999, 55),
  (yX6_isDay, cX6_isDay, 1, (some .boolean), 6, 1, true, 797, 796, 9999, 55),
  (yX6_pours, cX6_pours, 4, none, 6, 3, true, 975, 974, 9999, 55),
  (yX6_isOf, cX6_isOf, 4, (some .boolean), 6, 2, false, 765, 764, 31, 55),
  (yX6_many, cX6_many, 4, (some .int), 6, 2, true, 809, 808, 9999, 55),
  (yX6_feed, cX6_feed, 2, (some .int), 6, 1, false, 711, 709, 710, 55),
  (yX6_clear, cX6_clear, 2, (some .int), 6, 0, false, 719, 717, 718, 55),
  (yX6_peek, cX6_peek, 1, (some .int), 6, 0, false, 747, 746, 27, 55),
  (yX6_isAt, cX6_isAt, 2, (some .boolean), 6, 1, false, 743, 742, 26, 55),
  (yX6_takes, cX6_takes, 2, none, 6, 1, false, 755, 754, 29, 55),
  (yX6_number, cX6_number, 5, (some .int), 6, 2, false, 773, 772, 33, 55),
  (yX6_fresh, cX6_fresh, 3, (some .int), 6, 0, false, 761, 760, 30, 55),
  (yX6_expression, cX6_expression, 6, (some .int), 6, 1, false, 731, 730, 23, 55),
  (yX6_term, cX6_term, 5, (some .int), 6, 1, false, 735, 734, 24, 55),
  (yX6_bracketed, cX6_bracketed, 3, (some .int), 6, 1, false, 751, 750, 28, 55),
  (yX6_factor, cX6_factor, 8, (some .int), 6, 2, false, 739, 738, 25, 55),
  (yX6_calendar, cX6_calendar, 6, (some .int), 6, 1, false, 769, 768, 32, 55)]
def vN_3 : List vNr := [(yX6_stretch, cX6_stretch, 7, (some .int), 6, 1, false, 779, 778, 34, 55),
  (yX6_blockOf, cX6_blockOf, 2, (some .int), 6, 2, true, 786, 785, 9999, 55),
  (yX6_blocks, cX6_blocks, 11, (some .int), 6, 2, false, 783, 782, 35, 55),
  (yX6_over, cX6_over, 4, (some .int), 6, 2, false, 790, 789, 36, 55),
  (yX6_whole, cX6_whole, 9, (some .int), 6, 2, false, 794, 793, 37, 55),
  (yX6_forgets, cX6_forgets, 4, none, 6, 1, false, 802, 801, 38, 55),
  (yX6_rule, cX6_rule, 5, (some .int), 6, 1, false, 723, 721, 722, 55),
  (yX6_drop, cX6_drop, 4, (some .int), 6, 1, false, 813, 811, 812, 55),
  (yX6_copy, cX6_copy, 4, (some .int), 6, 2, false, 817, 815, 816, 55),
  (yX6_turns, cX6_turns, 5, (some .int), 6, 3, false, 825, 824, 40, 55),
  (yX6_out, cX6_out, 3, (some .int), 6, 2, false, 821, 819, 820, 55),
  (yX6_extra, cX6_extra, 3, (some .int), 6, 2, false, 829, 827, 828, 55),
  (yX6_amiss, cX6_amiss, 2, (some .int), 6, 2, true, 836, 835, 9999, 55),
  (yX6_has, cX6_has, 4, (some .int), 6, 2, false, 833, 831, 832, 55),
  (yX6_nextOf, cX6_nextOf, 4, (some .int), 6, 2, false, 844, 843, 41, 55),
  (yX6_next, cX6_next, 4, (some .int), 6, 2, false, 840, 838, 839, 55),
  (yX6_ahead, cX6_ahead, 5, (some .int), 6, 2, false, 848, 846, 847, 55),
  (yX6_ith, cX6_ith, 9, (some .int), 6, 4, false, 856, 855, 42, 55),
  (yX6_at, cX6_at, 3, (some .int), 6, 2, false, 852, 850, 851, 55),
  (yX6_counted, cX6_counted, 6, (some .int), 6, 3, false, 860, 859, 43, 55),
  (yX6_puts, cX6_puts, 6, none, 6, 5, false, 806, 805, 39, 55),
  (yX6_count, cX6_count, 7, (some .int), 6, 3, false, 864, 862, 863, 55),
  (yX6_gap, cX6_gap, 5, (some .int), 6, 1, false, 868, 866, 867, 55),
  (yX6_period, cX6_period, 5, (some .int), 6, 1, false, 873, 871, 872, 55),
  (yX6_clash, cX6_clash, 5, (some .int), 6, 3, false, 877, 875, 876, 55),
  (yX6_unlike, cX6_unlike, 4, (some .int), 6, 2, false, 881, 879, 880, 55),
  (yX6_isSet, cX6_isSet, 1, (some .boolean), 6, 1, true, 888, 887, 9999, 55),
  (yX6_having, cX6_having, 5, (some .int), 6, 2, false, 893, 892, 44, 55),
  (yX6_mergedDay, cX6_mergedDay, 5, (some .int), 6, 2, false, 897, 896, 45, 55),
  (yX6_merged, cX6_merged, 5, (some .int), 6, 2, false, 885, 883, 884, 55),
  (yX6_whose, cX6_whose, 4, (some .int), 6, 2, false, 901, 899, 900, 55),
  (yX6_manyAt, cX6_manyAt, 5, (some .int), 6, 1, false, 909, 908, 46, 55),
  (yX6_busiest, cX6_busiest, 8, (some .int), 6, 3, false, 905, 903, 904, 55),
  (yX6_free, cX6_free, 7, (some .int), 6, 3, false, 913, 911, 912, 55),
  (yX6_isBlock, cX6_isBlock, 1, (some .boolean), 6, 1, true, 921, 920, 9999, 55),
  (yX6_parts, cX6_parts, 6, (some .int), 6, 3, false, 918, 916, 917, 55),
  (yX6_nth, cX6_nth, 7, (some .int), 6, 4, false, 926, 924, 925, 55),
  (yX6_told, cX6_told, 4, (some .int), 6, 1, false, 931, 929, 930, 55),
  (yX6_remembered, cX6_remembered, 3, (some .int), 6, 2, false, 935, 933, 934, 55),
  (yX6_isList, cX6_isList, 1, (some .boolean), 6, 1, true, 943, 942, 9999, 55)]
def vN_4 : List vNr := [(yX6_list, cX6_list, 4, (some .int), 6, 2, false, 940, 938, 939, 55),
  (yX6_put, cX6_put, 4, (some .int), 6, 3, false, 947, 945, 946, 55),
  (yX6_get, cX6_get, 3, (some .int), 6, 2, false, 951, 949, 950, 55),
  (yX6_move, cX6_move, 7, (some .int), 6, 5, false, 956, 954, 955, 55),
  (yX6_wrong, cX6_wrong, 5, (some .int), 6, 4, false, 964, 963, 47, 55),
  (yX6_lay, cX6_lay, 8, (some .int), 6, 4, false, 960, 958, 959, 55),
  (yX6_judge, cX6_judge, 8, (some .int), 6, 4, false, 968, 966, 967, 55),
  (yX6_image, cX6_image, 1, (some .int), 6, 0, false, 972, 970, 971, 55),
  (yX6_undo, cX6_undo, 1, (some .int), 6, 0, false, 980, 978, 979, 55),
  (yJ6_bitCount_0f7a4, cJ6_bitCount_0f7a4, 1, (some .int), 99, 1, true, 529, 528, 9999, 58),
  (yJ13_bitCount_95d88, cJ13_bitCount_95d88, 2, (some .int), 99, 1, true, 395, 394, 9999, 57),
  (yL_law, cL_law, 4, (some .boolean), 99, 1, true, 9999, 9999, 9999, 48)]
def vN : List vNr := vN_0 ++ (vN_1 ++ (vN_2 ++ (vN_3 ++ (vN_4))))
