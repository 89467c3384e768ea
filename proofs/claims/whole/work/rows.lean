section
-- ===== PART A: goes FIRST, ahead of the names: the tables' words, and 'selects' of the private methods out of them =====
/-- a private method of a class that the tables say can be made, by its rows of tables_1 -/
def lw_okq (q : MethodName × Nat) : Prop := (q.1.cls ≠ "java/lang/invoke/MethodHandle" ∧ q.1.cls ≠ "java/lang/invoke/VarHandle") ∧ Cond.instantiable q.1.cls q.2 ∈ tables_1 ∧ Cond.privateMethod q.1 ∈ tables_1 ∧ Cond.instanceMethod q.1 ∈ tables_1
theorem lw_p0 : lw_okq (⟨"RecurringDays$Reader", "readSum", "(I[LRecurringDays$Plan;)LRecurringDays$Days;"⟩, 6) := ⟨⟨by decide +kernel, by decide +kernel⟩, List.mem_of_getElem? (i := 23) (by decide +kernel), List.mem_of_getElem? (i := 188) (by decide +kernel), List.mem_of_getElem? (i := 189) (by decide +kernel)⟩
theorem lw_p1 : lw_okq (⟨"RecurringDays$Reader", "readProduct", "(I[LRecurringDays$Plan;)LRecurringDays$Days;"⟩, 6) := ⟨⟨by decide +kernel, by decide +kernel⟩, List.mem_of_getElem? (i := 23) (by decide +kernel), List.mem_of_getElem? (i := 196) (by decide +kernel), List.mem_of_getElem? (i := 197) (by decide +kernel)⟩
theorem lw_p2 : lw_okq (⟨"RecurringDays$Reader", "readFactor", "(I[LRecurringDays$Plan;)LRecurringDays$Days;"⟩, 6) := ⟨⟨by decide +kernel, by decide +kernel⟩, List.mem_of_getElem? (i := 23) (by decide +kernel), List.mem_of_getElem? (i := 205) (by decide +kernel), List.mem_of_getElem? (i := 206) (by decide +kernel)⟩
theorem lw_p3 : lw_okq (⟨"RecurringDays$Reader", "take", "(I)Z"⟩, 6) := ⟨⟨by decide +kernel, by decide +kernel⟩, List.mem_of_getElem? (i := 23) (by decide +kernel), List.mem_of_getElem? (i := 209) (by decide +kernel), List.mem_of_getElem? (i := 210) (by decide +kernel)⟩
theorem lw_p4 : lw_okq (⟨"RecurringDays$Reader", "here", "()I"⟩, 6) := ⟨⟨by decide +kernel, by decide +kernel⟩, List.mem_of_getElem? (i := 23) (by decide +kernel), List.mem_of_getElem? (i := 213) (by decide +kernel), List.mem_of_getElem? (i := 214) (by decide +kernel)⟩
theorem lw_p5 : lw_okq (⟨"RecurringDays$Reader", "readPlain", "(ILRecurringDays$Days;[LRecurringDays$Plan;)Z"⟩, 6) := ⟨⟨by decide +kernel, by decide +kernel⟩, List.mem_of_getElem? (i := 23) (by decide +kernel), List.mem_of_getElem? (i := 217) (by decide +kernel), List.mem_of_getElem? (i := 218) (by decide +kernel)⟩
theorem lw_p6 : lw_okq (⟨"RecurringDays$Reader", "readInner", "(ILRecurringDays$Days;[LRecurringDays$Plan;)Z"⟩, 6) := ⟨⟨by decide +kernel, by decide +kernel⟩, List.mem_of_getElem? (i := 23) (by decide +kernel), List.mem_of_getElem? (i := 224) (by decide +kernel), List.mem_of_getElem? (i := 225) (by decide +kernel)⟩
theorem lw_p7 : lw_okq (⟨"RecurringDays$Reader", "readBracket", "(I[LRecurringDays$Plan;)LRecurringDays$Days;"⟩, 6) := ⟨⟨by decide +kernel, by decide +kernel⟩, List.mem_of_getElem? (i := 23) (by decide +kernel), List.mem_of_getElem? (i := 228) (by decide +kernel), List.mem_of_getElem? (i := 229) (by decide +kernel)⟩
theorem lw_p8 : lw_okq (⟨"RecurringDays$Reader", "readUnit", "(ILRecurringDays$Days;)Z"⟩, 6) := ⟨⟨by decide +kernel, by decide +kernel⟩, List.mem_of_getElem? (i := 23) (by decide +kernel), List.mem_of_getElem? (i := 236) (by decide +kernel), List.mem_of_getElem? (i := 237) (by decide +kernel)⟩
theorem lw_p9 : lw_okq (⟨"RecurringDays$Reader", "readNumber", "(II)I"⟩, 6) := ⟨⟨by decide +kernel, by decide +kernel⟩, List.mem_of_getElem? (i := 23) (by decide +kernel), List.mem_of_getElem? (i := 243) (by decide +kernel), List.mem_of_getElem? (i := 244) (by decide +kernel)⟩
theorem lw_p10 : lw_okq (⟨"RecurringDays$Reader", "readPair", "(ILRecurringDays$Days;)Z"⟩, 6) := ⟨⟨by decide +kernel, by decide +kernel⟩, List.mem_of_getElem? (i := 23) (by decide +kernel), List.mem_of_getElem? (i := 262) (by decide +kernel), List.mem_of_getElem? (i := 263) (by decide +kernel)⟩
theorem lw_p11 : lw_okq (⟨"RecurringDays$Reader", "readOfBlocks", "(IILRecurringDays$Days;[LRecurringDays$Plan;)Z"⟩, 6) := ⟨⟨by decide +kernel, by decide +kernel⟩, List.mem_of_getElem? (i := 23) (by decide +kernel), List.mem_of_getElem? (i := 266) (by decide +kernel), List.mem_of_getElem? (i := 267) (by decide +kernel)⟩
theorem lw_p12 : lw_okq (⟨"RecurringDays$Reader", "readChanged", "(IILRecurringDays$Days;[LRecurringDays$Plan;)Z"⟩, 6) := ⟨⟨by decide +kernel, by decide +kernel⟩, List.mem_of_getElem? (i := 23) (by decide +kernel), List.mem_of_getElem? (i := 297) (by decide +kernel), List.mem_of_getElem? (i := 298) (by decide +kernel)⟩
theorem lw_p13 : lw_okq (⟨"RecurringDays", "toggle", "(ILRecurringDays$Days;I)I"⟩, 7) := ⟨⟨by decide +kernel, by decide +kernel⟩, List.mem_of_getElem? (i := 13) (by decide +kernel), List.mem_of_getElem? (i := 369) (by decide +kernel), List.mem_of_getElem? (i := 370) (by decide +kernel)⟩
theorem lw_p14 : lw_okq (⟨"RecurringDays$Memory", "find", "(III)I"⟩, 4) := ⟨⟨by decide +kernel, by decide +kernel⟩, List.mem_of_getElem? (i := 63) (by decide +kernel), List.mem_of_getElem? (i := 414) (by decide +kernel), List.mem_of_getElem? (i := 415) (by decide +kernel)⟩
theorem lw_p15 : lw_okq (⟨"RecurringDays$Memory", "write", "(IIII)V"⟩, 4) := ⟨⟨by decide +kernel, by decide +kernel⟩, List.mem_of_getElem? (i := 63) (by decide +kernel), List.mem_of_getElem? (i := 418) (by decide +kernel), List.mem_of_getElem? (i := 419) (by decide +kernel)⟩
def lw_privs_1 : List (MethodName × Nat) := [(⟨"RecurringDays$Reader", "readSum", "(I[LRecurringDays$Plan;)LRecurringDays$Days;"⟩, 6), (⟨"RecurringDays$Reader", "readProduct", "(I[LRecurringDays$Plan;)LRecurringDays$Days;"⟩, 6), (⟨"RecurringDays$Reader", "readFactor", "(I[LRecurringDays$Plan;)LRecurringDays$Days;"⟩, 6), (⟨"RecurringDays$Reader", "take", "(I)Z"⟩, 6), (⟨"RecurringDays$Reader", "here", "()I"⟩, 6), (⟨"RecurringDays$Reader", "readPlain", "(ILRecurringDays$Days;[LRecurringDays$Plan;)Z"⟩, 6), (⟨"RecurringDays$Reader", "readInner", "(ILRecurringDays$Days;[LRecurringDays$Plan;)Z"⟩, 6), (⟨"RecurringDays$Reader", "readBracket", "(I[LRecurringDays$Plan;)LRecurringDays$Days;"⟩, 6), (⟨"RecurringDays$Reader", "readUnit", "(ILRecurringDays$Days;)Z"⟩, 6), (⟨"RecurringDays$Reader", "readNumber", "(II)I"⟩, 6), (⟨"RecurringDays$Reader", "readPair", "(ILRecurringDays$Days;)Z"⟩, 6), (⟨"RecurringDays$Reader", "readOfBlocks", "(IILRecurringDays$Days;[LRecurringDays$Plan;)Z"⟩, 6), (⟨"RecurringDays$Reader", "readChanged", "(IILRecurringDays$Days;[LRecurringDays$Plan;)Z"⟩, 6), (⟨"RecurringDays", "toggle", "(ILRecurringDays$Days;I)I"⟩, 7), (⟨"RecurringDays$Memory", "find", "(III)I"⟩, 4), (⟨"RecurringDays$Memory", "write", "(IIII)V"⟩, 4)]
theorem lw_r1 : ∀ q ∈ lw_privs_1, lw_okq q := List.forall_mem_cons.mpr ⟨lw_p0, List.forall_mem_cons.mpr ⟨lw_p1, List.forall_mem_cons.mpr ⟨lw_p2, List.forall_mem_cons.mpr ⟨lw_p3, List.forall_mem_cons.mpr ⟨lw_p4, List.forall_mem_cons.mpr ⟨lw_p5, List.forall_mem_cons.mpr ⟨lw_p6, List.forall_mem_cons.mpr ⟨lw_p7, List.forall_mem_cons.mpr ⟨lw_p8, List.forall_mem_cons.mpr ⟨lw_p9, List.forall_mem_cons.mpr ⟨lw_p10, List.forall_mem_cons.mpr ⟨lw_p11, List.forall_mem_cons.mpr ⟨lw_p12, List.forall_mem_cons.mpr ⟨lw_p13, List.forall_mem_cons.mpr ⟨lw_p14, List.forall_mem_cons.mpr ⟨lw_p15, fun _ h => absurd h List.not_mem_nil⟩⟩⟩⟩⟩⟩⟩⟩⟩⟩⟩⟩⟩⟩⟩⟩
theorem lw_p16 : lw_okq (⟨"RecurringDays$Memory", "makeLatest", "(I)V"⟩, 4) := ⟨⟨by decide +kernel, by decide +kernel⟩, List.mem_of_getElem? (i := 63) (by decide +kernel), List.mem_of_getElem? (i := 422) (by decide +kernel), List.mem_of_getElem? (i := 423) (by decide +kernel)⟩
theorem lw_p17 : lw_okq (⟨"RecurringDays", "join", "(I)V"⟩, 7) := ⟨⟨by decide +kernel, by decide +kernel⟩, List.mem_of_getElem? (i := 13) (by decide +kernel), List.mem_of_getElem? (i := 462) (by decide +kernel), List.mem_of_getElem? (i := 463) (by decide +kernel)⟩
theorem lw_p18 : lw_okq (⟨"RecurringDays", "ownersOf", "(I)I"⟩, 7) := ⟨⟨by decide +kernel, by decide +kernel⟩, List.mem_of_getElem? (i := 13) (by decide +kernel), List.mem_of_getElem? (i := 472) (by decide +kernel), List.mem_of_getElem? (i := 473) (by decide +kernel)⟩
theorem lw_p19 : lw_okq (⟨"RecurringDays", "ruledNames", "()I"⟩, 7) := ⟨⟨by decide +kernel, by decide +kernel⟩, List.mem_of_getElem? (i := 13) (by decide +kernel), List.mem_of_getElem? (i := 505) (by decide +kernel), List.mem_of_getElem? (i := 506) (by decide +kernel)⟩
theorem lw_p20 : lw_okq (⟨"RecurringDays", "daysOutOfAll", "()I"⟩, 7) := ⟨⟨by decide +kernel, by decide +kernel⟩, List.mem_of_getElem? (i := 13) (by decide +kernel), List.mem_of_getElem? (i := 509) (by decide +kernel), List.mem_of_getElem? (i := 510) (by decide +kernel)⟩
theorem lw_p21 : lw_okq (⟨"RecurringDays", "extraDaysOfAll", "()I"⟩, 7) := ⟨⟨by decide +kernel, by decide +kernel⟩, List.mem_of_getElem? (i := 13) (by decide +kernel), List.mem_of_getElem? (i := 513) (by decide +kernel), List.mem_of_getElem? (i := 514) (by decide +kernel)⟩
theorem lw_p22 : lw_okq (⟨"RecurringDays", "refusalOf", "(IIII)I"⟩, 7) := ⟨⟨by decide +kernel, by decide +kernel⟩, List.mem_of_getElem? (i := 13) (by decide +kernel), List.mem_of_getElem? (i := 552) (by decide +kernel), List.mem_of_getElem? (i := 553) (by decide +kernel)⟩
theorem lw_p23 : lw_okq (⟨"RecurringDaysModel", "expression", "(I)I"⟩, 25) := ⟨⟨by decide +kernel, by decide +kernel⟩, List.mem_of_getElem? (i := 577) (by decide +kernel), List.mem_of_getElem? (i := 681) (by decide +kernel), List.mem_of_getElem? (i := 682) (by decide +kernel)⟩
theorem lw_p24 : lw_okq (⟨"RecurringDaysModel", "term", "(I)I"⟩, 25) := ⟨⟨by decide +kernel, by decide +kernel⟩, List.mem_of_getElem? (i := 577) (by decide +kernel), List.mem_of_getElem? (i := 685) (by decide +kernel), List.mem_of_getElem? (i := 686) (by decide +kernel)⟩
theorem lw_p25 : lw_okq (⟨"RecurringDaysModel", "factor", "(IZ)I"⟩, 25) := ⟨⟨by decide +kernel, by decide +kernel⟩, List.mem_of_getElem? (i := 577) (by decide +kernel), List.mem_of_getElem? (i := 689) (by decide +kernel), List.mem_of_getElem? (i := 690) (by decide +kernel)⟩
theorem lw_p26 : lw_okq (⟨"RecurringDaysModel", "isAt", "(I)Z"⟩, 25) := ⟨⟨by decide +kernel, by decide +kernel⟩, List.mem_of_getElem? (i := 577) (by decide +kernel), List.mem_of_getElem? (i := 693) (by decide +kernel), List.mem_of_getElem? (i := 694) (by decide +kernel)⟩
theorem lw_p27 : lw_okq (⟨"RecurringDaysModel", "peek", "()I"⟩, 25) := ⟨⟨by decide +kernel, by decide +kernel⟩, List.mem_of_getElem? (i := 577) (by decide +kernel), List.mem_of_getElem? (i := 697) (by decide +kernel), List.mem_of_getElem? (i := 698) (by decide +kernel)⟩
theorem lw_p28 : lw_okq (⟨"RecurringDaysModel", "bracketed", "(I)I"⟩, 25) := ⟨⟨by decide +kernel, by decide +kernel⟩, List.mem_of_getElem? (i := 577) (by decide +kernel), List.mem_of_getElem? (i := 701) (by decide +kernel), List.mem_of_getElem? (i := 702) (by decide +kernel)⟩
theorem lw_p29 : lw_okq (⟨"RecurringDaysModel", "takes", "(I)V"⟩, 25) := ⟨⟨by decide +kernel, by decide +kernel⟩, List.mem_of_getElem? (i := 577) (by decide +kernel), List.mem_of_getElem? (i := 705) (by decide +kernel), List.mem_of_getElem? (i := 706) (by decide +kernel)⟩
theorem lw_p30 : lw_okq (⟨"RecurringDaysModel", "fresh", "()I"⟩, 25) := ⟨⟨by decide +kernel, by decide +kernel⟩, List.mem_of_getElem? (i := 577) (by decide +kernel), List.mem_of_getElem? (i := 711) (by decide +kernel), List.mem_of_getElem? (i := 712) (by decide +kernel)⟩
theorem lw_p31 : lw_okq (⟨"RecurringDaysModel", "isOf", "(II)Z"⟩, 25) := ⟨⟨by decide +kernel, by decide +kernel⟩, List.mem_of_getElem? (i := 577) (by decide +kernel), List.mem_of_getElem? (i := 715) (by decide +kernel), List.mem_of_getElem? (i := 716) (by decide +kernel)⟩
def lw_privs_2 : List (MethodName × Nat) := [(⟨"RecurringDays$Memory", "makeLatest", "(I)V"⟩, 4), (⟨"RecurringDays", "join", "(I)V"⟩, 7), (⟨"RecurringDays", "ownersOf", "(I)I"⟩, 7), (⟨"RecurringDays", "ruledNames", "()I"⟩, 7), (⟨"RecurringDays", "daysOutOfAll", "()I"⟩, 7), (⟨"RecurringDays", "extraDaysOfAll", "()I"⟩, 7), (⟨"RecurringDays", "refusalOf", "(IIII)I"⟩, 7), (⟨"RecurringDaysModel", "expression", "(I)I"⟩, 25), (⟨"RecurringDaysModel", "term", "(I)I"⟩, 25), (⟨"RecurringDaysModel", "factor", "(IZ)I"⟩, 25), (⟨"RecurringDaysModel", "isAt", "(I)Z"⟩, 25), (⟨"RecurringDaysModel", "peek", "()I"⟩, 25), (⟨"RecurringDaysModel", "bracketed", "(I)I"⟩, 25), (⟨"RecurringDaysModel", "takes", "(I)V"⟩, 25), (⟨"RecurringDaysModel", "fresh", "()I"⟩, 25), (⟨"RecurringDaysModel", "isOf", "(II)Z"⟩, 25)]
theorem lw_r2 : ∀ q ∈ lw_privs_2, lw_okq q := List.forall_mem_cons.mpr ⟨lw_p16, List.forall_mem_cons.mpr ⟨lw_p17, List.forall_mem_cons.mpr ⟨lw_p18, List.forall_mem_cons.mpr ⟨lw_p19, List.forall_mem_cons.mpr ⟨lw_p20, List.forall_mem_cons.mpr ⟨lw_p21, List.forall_mem_cons.mpr ⟨lw_p22, List.forall_mem_cons.mpr ⟨lw_p23, List.forall_mem_cons.mpr ⟨lw_p24, List.forall_mem_cons.mpr ⟨lw_p25, List.forall_mem_cons.mpr ⟨lw_p26, List.forall_mem_cons.mpr ⟨lw_p27, List.forall_mem_cons.mpr ⟨lw_p28, List.forall_mem_cons.mpr ⟨lw_p29, List.forall_mem_cons.mpr ⟨lw_p30, List.forall_mem_cons.mpr ⟨lw_p31, fun _ h => absurd h List.not_mem_nil⟩⟩⟩⟩⟩⟩⟩⟩⟩⟩⟩⟩⟩⟩⟩⟩
theorem lw_p32 : lw_okq (⟨"RecurringDaysModel", "calendar", "(I)I"⟩, 25) := ⟨⟨by decide +kernel, by decide +kernel⟩, List.mem_of_getElem? (i := 577) (by decide +kernel), List.mem_of_getElem? (i := 719) (by decide +kernel), List.mem_of_getElem? (i := 720) (by decide +kernel)⟩
theorem lw_p33 : lw_okq (⟨"RecurringDaysModel", "number", "(II)I"⟩, 25) := ⟨⟨by decide +kernel, by decide +kernel⟩, List.mem_of_getElem? (i := 577) (by decide +kernel), List.mem_of_getElem? (i := 723) (by decide +kernel), List.mem_of_getElem? (i := 724) (by decide +kernel)⟩
theorem lw_p34 : lw_okq (⟨"RecurringDaysModel", "stretch", "(I)I"⟩, 25) := ⟨⟨by decide +kernel, by decide +kernel⟩, List.mem_of_getElem? (i := 577) (by decide +kernel), List.mem_of_getElem? (i := 729) (by decide +kernel), List.mem_of_getElem? (i := 730) (by decide +kernel)⟩
theorem lw_p35 : lw_okq (⟨"RecurringDaysModel", "blocks", "(ZI)I"⟩, 25) := ⟨⟨by decide +kernel, by decide +kernel⟩, List.mem_of_getElem? (i := 577) (by decide +kernel), List.mem_of_getElem? (i := 733) (by decide +kernel), List.mem_of_getElem? (i := 734) (by decide +kernel)⟩
theorem lw_p36 : lw_okq (⟨"RecurringDaysModel", "over", "(II)I"⟩, 25) := ⟨⟨by decide +kernel, by decide +kernel⟩, List.mem_of_getElem? (i := 577) (by decide +kernel), List.mem_of_getElem? (i := 740) (by decide +kernel), List.mem_of_getElem? (i := 741) (by decide +kernel)⟩
theorem lw_p37 : lw_okq (⟨"RecurringDaysModel", "whole", "(II)I"⟩, 25) := ⟨⟨by decide +kernel, by decide +kernel⟩, List.mem_of_getElem? (i := 577) (by decide +kernel), List.mem_of_getElem? (i := 744) (by decide +kernel), List.mem_of_getElem? (i := 745) (by decide +kernel)⟩
theorem lw_p38 : lw_okq (⟨"RecurringDaysModel", "forgets", "(I)V"⟩, 25) := ⟨⟨by decide +kernel, by decide +kernel⟩, List.mem_of_getElem? (i := 577) (by decide +kernel), List.mem_of_getElem? (i := 752) (by decide +kernel), List.mem_of_getElem? (i := 753) (by decide +kernel)⟩
theorem lw_p39 : lw_okq (⟨"RecurringDaysModel", "puts", "(IIIII)V"⟩, 25) := ⟨⟨by decide +kernel, by decide +kernel⟩, List.mem_of_getElem? (i := 577) (by decide +kernel), List.mem_of_getElem? (i := 756) (by decide +kernel), List.mem_of_getElem? (i := 757) (by decide +kernel)⟩
theorem lw_p40 : lw_okq (⟨"RecurringDaysModel", "turns", "([ZII)I"⟩, 25) := ⟨⟨by decide +kernel, by decide +kernel⟩, List.mem_of_getElem? (i := 577) (by decide +kernel), List.mem_of_getElem? (i := 775) (by decide +kernel), List.mem_of_getElem? (i := 776) (by decide +kernel)⟩
theorem lw_p41 : lw_okq (⟨"RecurringDaysModel", "nextOf", "(II)I"⟩, 25) := ⟨⟨by decide +kernel, by decide +kernel⟩, List.mem_of_getElem? (i := 577) (by decide +kernel), List.mem_of_getElem? (i := 794) (by decide +kernel), List.mem_of_getElem? (i := 795) (by decide +kernel)⟩
theorem lw_p42 : lw_okq (⟨"RecurringDaysModel", "ith", "(IIII)I"⟩, 25) := ⟨⟨by decide +kernel, by decide +kernel⟩, List.mem_of_getElem? (i := 577) (by decide +kernel), List.mem_of_getElem? (i := 806) (by decide +kernel), List.mem_of_getElem? (i := 807) (by decide +kernel)⟩
theorem lw_p43 : lw_okq (⟨"RecurringDaysModel", "counted", "(III)I"⟩, 25) := ⟨⟨by decide +kernel, by decide +kernel⟩, List.mem_of_getElem? (i := 577) (by decide +kernel), List.mem_of_getElem? (i := 810) (by decide +kernel), List.mem_of_getElem? (i := 811) (by decide +kernel)⟩
theorem lw_p44 : lw_okq (⟨"RecurringDaysModel", "having", "(II)I"⟩, 25) := ⟨⟨by decide +kernel, by decide +kernel⟩, List.mem_of_getElem? (i := 577) (by decide +kernel), List.mem_of_getElem? (i := 843) (by decide +kernel), List.mem_of_getElem? (i := 844) (by decide +kernel)⟩
theorem lw_p45 : lw_okq (⟨"RecurringDaysModel", "mergedDay", "(II)I"⟩, 25) := ⟨⟨by decide +kernel, by decide +kernel⟩, List.mem_of_getElem? (i := 577) (by decide +kernel), List.mem_of_getElem? (i := 847) (by decide +kernel), List.mem_of_getElem? (i := 848) (by decide +kernel)⟩
theorem lw_p46 : lw_okq (⟨"RecurringDaysModel", "manyAt", "(I)I"⟩, 25) := ⟨⟨by decide +kernel, by decide +kernel⟩, List.mem_of_getElem? (i := 577) (by decide +kernel), List.mem_of_getElem? (i := 859) (by decide +kernel), List.mem_of_getElem? (i := 860) (by decide +kernel)⟩
theorem lw_p47 : lw_okq (⟨"RecurringDaysModel", "wrong", "(IIII)I"⟩, 25) := ⟨⟨by decide +kernel, by decide +kernel⟩, List.mem_of_getElem? (i := 577) (by decide +kernel), List.mem_of_getElem? (i := 914) (by decide +kernel), List.mem_of_getElem? (i := 915) (by decide +kernel)⟩
def lw_privs_3 : List (MethodName × Nat) := [(⟨"RecurringDaysModel", "calendar", "(I)I"⟩, 25), (⟨"RecurringDaysModel", "number", "(II)I"⟩, 25), (⟨"RecurringDaysModel", "stretch", "(I)I"⟩, 25), (⟨"RecurringDaysModel", "blocks", "(ZI)I"⟩, 25), (⟨"RecurringDaysModel", "over", "(II)I"⟩, 25), (⟨"RecurringDaysModel", "whole", "(II)I"⟩, 25), (⟨"RecurringDaysModel", "forgets", "(I)V"⟩, 25), (⟨"RecurringDaysModel", "puts", "(IIIII)V"⟩, 25), (⟨"RecurringDaysModel", "turns", "([ZII)I"⟩, 25), (⟨"RecurringDaysModel", "nextOf", "(II)I"⟩, 25), (⟨"RecurringDaysModel", "ith", "(IIII)I"⟩, 25), (⟨"RecurringDaysModel", "counted", "(III)I"⟩, 25), (⟨"RecurringDaysModel", "having", "(II)I"⟩, 25), (⟨"RecurringDaysModel", "mergedDay", "(II)I"⟩, 25), (⟨"RecurringDaysModel", "manyAt", "(I)I"⟩, 25), (⟨"RecurringDaysModel", "wrong", "(IIII)I"⟩, 25)]
theorem lw_r3 : ∀ q ∈ lw_privs_3, lw_okq q := List.forall_mem_cons.mpr ⟨lw_p32, List.forall_mem_cons.mpr ⟨lw_p33, List.forall_mem_cons.mpr ⟨lw_p34, List.forall_mem_cons.mpr ⟨lw_p35, List.forall_mem_cons.mpr ⟨lw_p36, List.forall_mem_cons.mpr ⟨lw_p37, List.forall_mem_cons.mpr ⟨lw_p38, List.forall_mem_cons.mpr ⟨lw_p39, List.forall_mem_cons.mpr ⟨lw_p40, List.forall_mem_cons.mpr ⟨lw_p41, List.forall_mem_cons.mpr ⟨lw_p42, List.forall_mem_cons.mpr ⟨lw_p43, List.forall_mem_cons.mpr ⟨lw_p44, List.forall_mem_cons.mpr ⟨lw_p45, List.forall_mem_cons.mpr ⟨lw_p46, List.forall_mem_cons.mpr ⟨lw_p47, fun _ h => absurd h List.not_mem_nil⟩⟩⟩⟩⟩⟩⟩⟩⟩⟩⟩⟩⟩⟩⟩⟩
def lw_privs : List (MethodName × Nat) := lw_privs_1 ++ (lw_privs_2 ++ (lw_privs_3))
def lw_tbl : List Cond := k2_sels lw_privs ++ tables_1
theorem lw_privs_ok : ∀ q ∈ lw_privs, lw_okq q := by
  show ∀ q ∈ lw_privs_1 ++ (lw_privs_2 ++ (lw_privs_3)), lw_okq q
  exact List.forall_mem_append.mpr ⟨lw_r1, List.forall_mem_append.mpr ⟨lw_r2, lw_r3⟩⟩

def RX0 : String := "RecurringDays$Days"
def TX0 : u_T := fun k => match k with
  | _ => ("RecurringDays$Days", "words", "[J", true)
def tyX0 : Nat → FieldType := fun k => match k with
  | _ => .array .long
abbrev wsX00 : List Cond := u_ws RX0 TX0 1
theorem nmX0 : ∀ a, a < 1 → ∀ b, b < 1 → a ≠ b → (TX0 a).2.1 ≠ (TX0 b).2.1 := by decide +kernel
theorem tyX0_ok : ∀ k, k < 1 → parseFieldDescriptor (TX0 k).2.2.1 = some (tyX0 k) := by decide +kernel
abbrev cX0_init : ByteArray := prog_2_method_1_code
def yX0_init : MethodName := ⟨RX0, "<init>", "()V"⟩
abbrev cX0_holds : ByteArray := prog_2_method_2_code
def yX0_holds : MethodName := ⟨RX0, "holds", "(I)Z"⟩
abbrev cX0_add : ByteArray := prog_2_method_3_code
def yX0_add : MethodName := ⟨RX0, "add", "(I)V"⟩
abbrev cX0_remove : ByteArray := prog_2_method_4_code
def yX0_remove : MethodName := ⟨RX0, "remove", "(I)V"⟩
abbrev cX0_wipe : ByteArray := prog_2_method_5_code
def yX0_wipe : MethodName := ⟨RX0, "wipe", "()V"⟩
abbrev cX0_become : ByteArray := prog_2_method_6_code
def yX0_become : MethodName := ⟨RX0, "become", "(LRecurringDays$Days;)V"⟩
abbrev cX0_addAll : ByteArray := prog_2_method_7_code
def yX0_addAll : MethodName := ⟨RX0, "addAll", "(LRecurringDays$Days;)V"⟩
abbrev cX0_removeAll : ByteArray := prog_2_method_8_code
def yX0_removeAll : MethodName := ⟨RX0, "removeAll", "(LRecurringDays$Days;)V"⟩
abbrev cX0_keepAll : ByteArray := prog_2_method_9_code
def yX0_keepAll : MethodName := ⟨RX0, "keepAll", "(LRecurringDays$Days;)V"⟩
abbrev cX0_invert : ByteArray := prog_2_method_10_code
def yX0_invert : MethodName := ⟨RX0, "invert", "()V"⟩
abbrev cX0_size : ByteArray := prog_2_method_11_code
def yX0_size : MethodName := ⟨RX0, "size", "()I"⟩
abbrev cX0_heldWithin : ByteArray := prog_2_method_12_code
def yX0_heldWithin : MethodName := ⟨RX0, "heldWithin", "(II)I"⟩
abbrev cX0_pick : ByteArray := prog_2_method_13_code
def yX0_pick : MethodName := ⟨RX0, "pick", "(III)I"⟩
abbrev cX0_addSpan : ByteArray := prog_2_method_14_code
def yX0_addSpan : MethodName := ⟨RX0, "addSpan", "(II)V"⟩
abbrev cX0_addEach : ByteArray := prog_2_method_15_code
def yX0_addEach : MethodName := ⟨RX0, "addEach", "(II)V"⟩
abbrev cX0_addMoved : ByteArray := prog_2_method_16_code
def yX0_addMoved : MethodName := ⟨RX0, "addMoved", "(LRecurringDays$Days;I)V"⟩
abbrev cX0_addEachNth : ByteArray := prog_2_method_17_code
def yX0_addEachNth : MethodName := ⟨RX0, "addEachNth", "(LRecurringDays$Days;I)V"⟩
abbrev cX0_addOfBlocks : ByteArray := prog_2_method_18_code
def yX0_addOfBlocks : MethodName := ⟨RX0, "addOfBlocks", "(LRecurringDays$Days;II)V"⟩
abbrev cX0_wordFrom : ByteArray := prog_2_method_19_code
def yX0_wordFrom : MethodName := ⟨RX0, "wordFrom", "(I)J"⟩
abbrev cX0_comesAgainAfter : ByteArray := prog_2_method_20_code
def yX0_comesAgainAfter : MethodName := ⟨RX0, "comesAgainAfter", "(I)Z"⟩
def RX1 : String := "RecurringDays$Memory"
def TX1 : u_T := fun k => match k with
  | 0 => ("RecurringDays$Memory", "spans", "[[I", true)
  | 1 => ("RecurringDays$Memory", "kept", "I", false)
  | 2 => ("RecurringDays$Memory", "hits", "I", false)
  | _ => ("RecurringDays$Memory", "misses", "I", false)
def tyX1 : Nat → FieldType := fun k => match k with
  | 0 => .array (.array .int)
  | 1 => .int
  | 2 => .int
  | _ => .int
abbrev wsX10 : List Cond := u_ws RX1 TX1 4
theorem nmX1 : ∀ a, a < 4 → ∀ b, b < 4 → a ≠ b → (TX1 a).2.1 ≠ (TX1 b).2.1 := by decide +kernel
theorem tyX1_ok : ∀ k, k < 4 → parseFieldDescriptor (TX1 k).2.2.1 = some (tyX1 k) := by decide +kernel
abbrev cX1_init : ByteArray := prog_3_method_1_code
def yX1_init : MethodName := ⟨RX1, "<init>", "()V"⟩
abbrev cX1_ask : ByteArray := prog_3_method_2_code
def yX1_ask : MethodName := ⟨RX1, "ask", "(IIII)V"⟩
abbrev cX1_find : ByteArray := prog_3_method_3_code
def yX1_find : MethodName := ⟨RX1, "find", "(III)I"⟩
abbrev cX1_write : ByteArray := prog_3_method_4_code
def yX1_write : MethodName := ⟨RX1, "write", "(IIII)V"⟩
abbrev cX1_makeLatest : ByteArray := prog_3_method_5_code
def yX1_makeLatest : MethodName := ⟨RX1, "makeLatest", "(I)V"⟩
abbrev cX1_forget : ByteArray := prog_3_method_6_code
def yX1_forget : MethodName := ⟨RX1, "forget", "(I)V"⟩
abbrev cX1_forgetAll : ByteArray := prog_3_method_7_code
def yX1_forgetAll : MethodName := ⟨RX1, "forgetAll", "()V"⟩
def RX2 : String := "RecurringDays$Plan"
def TX2 : u_T := fun k => match k with
  | 0 => ("RecurringDays$Plan", "ruled", "Z", false)
  | 1 => ("RecurringDays$Plan", "rule", "LRecurringDays$Days;", true)
  | 2 => ("RecurringDays$Plan", "out", "LRecurringDays$Days;", true)
  | 3 => ("RecurringDays$Plan", "extra", "LRecurringDays$Days;", true)
  | _ => ("RecurringDays$Plan", "days", "LRecurringDays$Days;", true)
def tyX2 : Nat → FieldType := fun k => match k with
  | 0 => .boolean
  | 1 => .object "RecurringDays$Days"
  | 2 => .object "RecurringDays$Days"
  | 3 => .object "RecurringDays$Days"
  | _ => .object "RecurringDays$Days"
abbrev wsX20 : List Cond := u_ws RX2 TX2 5
theorem nmX2 : ∀ a, a < 5 → ∀ b, b < 5 → a ≠ b → (TX2 a).2.1 ≠ (TX2 b).2.1 := by decide +kernel
theorem tyX2_ok : ∀ k, k < 5 → parseFieldDescriptor (TX2 k).2.2.1 = some (tyX2 k) := by decide +kernel
abbrev cX2_init : ByteArray := prog_4_method_1_code
def yX2_init : MethodName := ⟨RX2, "<init>", "()V"⟩
abbrev cX2_become : ByteArray := prog_4_method_2_code
def yX2_become : MethodName := ⟨RX2, "become", "(ZLRecurringDays$Days;)V"⟩
abbrev cX2_unrule : ByteArray := prog_4_method_3_code
def yX2_unrule : MethodName := ⟨RX2, "unrule", "()V"⟩
abbrev cX2_take : ByteArray := prog_4_method_4_code
def yX2_take : MethodName := ⟨RX2, "take", "(LRecurringDays$Plan;)V"⟩
abbrev cX2_refresh : ByteArray := prog_4_method_5_code
def yX2_refresh : MethodName := ⟨RX2, "refresh", "()V"⟩
def RX3 : String := "RecurringDays$Reader"
def TX3 : u_T := fun k => match k with
  | 0 => ("RecurringDays$Reader", "bytes", "[I", true)
  | 1 => ("RecurringDays$Reader", "length", "I", false)
  | 2 => ("RecurringDays$Reader", "place", "I", false)
  | 3 => ("RecurringDays$Reader", "sums", "[LRecurringDays$Days;", true)
  | 4 => ("RecurringDays$Reader", "products", "[LRecurringDays$Days;", true)
  | _ => ("RecurringDays$Reader", "factors", "[LRecurringDays$Days;", true)
def tyX3 : Nat → FieldType := fun k => match k with
  | 0 => .array .int
  | 1 => .int
  | 2 => .int
  | 3 => .array (.object "RecurringDays$Days")
  | 4 => .array (.object "RecurringDays$Days")
  | _ => .array (.object "RecurringDays$Days")
abbrev wsX30 : List Cond := u_ws RX3 TX3 6
theorem nmX3 : ∀ a, a < 6 → ∀ b, b < 6 → a ≠ b → (TX3 a).2.1 ≠ (TX3 b).2.1 := by decide +kernel
theorem tyX3_ok : ∀ k, k < 6 → parseFieldDescriptor (TX3 k).2.2.1 = some (tyX3 k) := by decide +kernel
abbrev cX3_init : ByteArray := prog_5_method_1_code
def yX3_init : MethodName := ⟨RX3, "<init>", "()V"⟩
abbrev cX3_append : ByteArray := prog_5_method_2_code
def yX3_append : MethodName := ⟨RX3, "append", "(I)I"⟩
abbrev cX3_empty : ByteArray := prog_5_method_3_code
def yX3_empty : MethodName := ⟨RX3, "empty", "()I"⟩
abbrev cX3_read : ByteArray := prog_5_method_4_code
def yX3_read : MethodName := ⟨RX3, "read", "([LRecurringDays$Plan;)LRecurringDays$Days;"⟩
abbrev cX3_here : ByteArray := prog_5_method_5_code
def yX3_here : MethodName := ⟨RX3, "here", "()I"⟩
abbrev cX3_take : ByteArray := prog_5_method_6_code
def yX3_take : MethodName := ⟨RX3, "take", "(I)Z"⟩
abbrev cX3_readSum : ByteArray := prog_5_method_7_code
def yX3_readSum : MethodName := ⟨RX3, "readSum", "(I[LRecurringDays$Plan;)LRecurringDays$Days;"⟩
abbrev cX3_readProduct : ByteArray := prog_5_method_8_code
def yX3_readProduct : MethodName := ⟨RX3, "readProduct", "(I[LRecurringDays$Plan;)LRecurringDays$Days;"⟩
abbrev cX3_readFactor : ByteArray := prog_5_method_9_code
def yX3_readFactor : MethodName := ⟨RX3, "readFactor", "(I[LRecurringDays$Plan;)LRecurringDays$Days;"⟩
abbrev cX3_readPlain : ByteArray := prog_5_method_10_code
def yX3_readPlain : MethodName := ⟨RX3, "readPlain", "(ILRecurringDays$Days;[LRecurringDays$Plan;)Z"⟩
abbrev cX3_hasBracket : ByteArray := prog_5_method_11_code
def yX3_hasBracket : MethodName := ⟨RX3, "hasBracket", "(I)Z"⟩
abbrev cX3_readUnit : ByteArray := prog_5_method_12_code
def yX3_readUnit : MethodName := ⟨RX3, "readUnit", "(ILRecurringDays$Days;)Z"⟩
abbrev cX3_readPair : ByteArray := prog_5_method_13_code
def yX3_readPair : MethodName := ⟨RX3, "readPair", "(ILRecurringDays$Days;)Z"⟩
abbrev cX3_readOfBlocks : ByteArray := prog_5_method_14_code
def yX3_readOfBlocks : MethodName := ⟨RX3, "readOfBlocks", "(IILRecurringDays$Days;[LRecurringDays$Plan;)Z"⟩
abbrev cX3_readChanged : ByteArray := prog_5_method_15_code
def yX3_readChanged : MethodName := ⟨RX3, "readChanged", "(IILRecurringDays$Days;[LRecurringDays$Plan;)Z"⟩
abbrev cX3_readInner : ByteArray := prog_5_method_16_code
def yX3_readInner : MethodName := ⟨RX3, "readInner", "(ILRecurringDays$Days;[LRecurringDays$Plan;)Z"⟩
abbrev cX3_readBracket : ByteArray := prog_5_method_17_code
def yX3_readBracket : MethodName := ⟨RX3, "readBracket", "(I[LRecurringDays$Plan;)LRecurringDays$Days;"⟩
abbrev cX3_readNumber : ByteArray := prog_5_method_18_code
def yX3_readNumber : MethodName := ⟨RX3, "readNumber", "(II)I"⟩
abbrev cX3_mostOf : ByteArray := prog_5_method_19_code
def yX3_mostOf : MethodName := ⟨RX3, "mostOf", "(I)I"⟩
abbrev cX3_blockOf : ByteArray := prog_5_method_20_code
def yX3_blockOf : MethodName := ⟨RX3, "blockOf", "(I)I"⟩
def RX4 : String := "RecurringDays$Row"
def TX4 : u_T := fun k => match k with
  | 0 => ("RecurringDays$Row", "held", "Z", false)
  | 1 => ("RecurringDays$Row", "size", "I", false)
  | _ => ("RecurringDays$Row", "places", "[I", true)
def tyX4 : Nat → FieldType := fun k => match k with
  | 0 => .boolean
  | 1 => .int
  | _ => .array .int
abbrev wsX40 : List Cond := u_ws RX4 TX4 3
theorem nmX4 : ∀ a, a < 3 → ∀ b, b < 3 → a ≠ b → (TX4 a).2.1 ≠ (TX4 b).2.1 := by decide +kernel
theorem tyX4_ok : ∀ k, k < 3 → parseFieldDescriptor (TX4 k).2.2.1 = some (tyX4 k) := by decide +kernel
abbrev cX4_init : ByteArray := prog_6_method_1_code
def yX4_init : MethodName := ⟨RX4, "<init>", "()V"⟩
abbrev cX4_begin : ByteArray := prog_6_method_2_code
def yX4_begin : MethodName := ⟨RX4, "begin", "(I)V"⟩
def RX5 : String := "RecurringDays"
def TX5 : u_T := fun k => match k with
  | 0 => ("RecurringDays", "plans", "[LRecurringDays$Plan;", true)
  | 1 => ("RecurringDays", "saved", "[LRecurringDays$Plan;", true)
  | 2 => ("RecurringDays", "imaged", "Z", false)
  | 3 => ("RecurringDays", "reader", "LRecurringDays$Reader;", true)
  | 4 => ("RecurringDays", "memory", "LRecurringDays$Memory;", true)
  | 5 => ("RecurringDays", "rows", "[LRecurringDays$Row;", true)
  | _ => ("RecurringDays", "joined", "LRecurringDays$Days;", true)
def tyX5 : Nat → FieldType := fun k => match k with
  | 0 => .array (.object "RecurringDays$Plan")
  | 1 => .array (.object "RecurringDays$Plan")
  | 2 => .boolean
  | 3 => .object "RecurringDays$Reader"
  | 4 => .object "RecurringDays$Memory"
  | 5 => .array (.object "RecurringDays$Row")
  | _ => .object "RecurringDays$Days"
abbrev wsX50 : List Cond := u_ws RX5 TX5 7
theorem nmX5 : ∀ a, a < 7 → ∀ b, b < 7 → a ≠ b → (TX5 a).2.1 ≠ (TX5 b).2.1 := by decide +kernel
theorem tyX5_ok : ∀ k, k < 7 → parseFieldDescriptor (TX5 k).2.2.1 = some (tyX5 k) := by decide +kernel
abbrev cX5_init : ByteArray := prog_1_method_1_code
def yX5_init : MethodName := ⟨RX5, "<init>", "()V"⟩
abbrev cX5_feed : ByteArray := prog_1_method_2_code
def yX5_feed : MethodName := ⟨RX5, "feed", "(I)I"⟩
abbrev cX5_clear : ByteArray := prog_1_method_3_code
def yX5_clear : MethodName := ⟨RX5, "clear", "()I"⟩
abbrev cX5_rule : ByteArray := prog_1_method_4_code
def yX5_rule : MethodName := ⟨RX5, "rule", "(I)I"⟩
abbrev cX5_drop : ByteArray := prog_1_method_5_code
def yX5_drop : MethodName := ⟨RX5, "drop", "(I)I"⟩
abbrev cX5_copy : ByteArray := prog_1_method_6_code
def yX5_copy : MethodName := ⟨RX5, "copy", "(II)I"⟩
abbrev cX5_out : ByteArray := prog_1_method_7_code
def yX5_out : MethodName := ⟨RX5, "out", "(II)I"⟩
abbrev cX5_extra : ByteArray := prog_1_method_8_code
def yX5_extra : MethodName := ⟨RX5, "extra", "(II)I"⟩
abbrev cX5_has : ByteArray := prog_1_method_9_code
def yX5_has : MethodName := ⟨RX5, "has", "(II)I"⟩
abbrev cX5_next : ByteArray := prog_1_method_10_code
def yX5_next : MethodName := ⟨RX5, "next", "(II)I"⟩
abbrev cX5_ahead : ByteArray := prog_1_method_11_code
def yX5_ahead : MethodName := ⟨RX5, "ahead", "(II)I"⟩
abbrev cX5_at : ByteArray := prog_1_method_12_code
def yX5_at : MethodName := ⟨RX5, "at", "(II)I"⟩
abbrev cX5_count : ByteArray := prog_1_method_13_code
def yX5_count : MethodName := ⟨RX5, "count", "(III)I"⟩
abbrev cX5_gap : ByteArray := prog_1_method_14_code
def yX5_gap : MethodName := ⟨RX5, "gap", "(I)I"⟩
abbrev cX5_period : ByteArray := prog_1_method_15_code
def yX5_period : MethodName := ⟨RX5, "period", "(I)I"⟩
abbrev cX5_clash : ByteArray := prog_1_method_16_code
def yX5_clash : MethodName := ⟨RX5, "clash", "(III)I"⟩
abbrev cX5_unlike : ByteArray := prog_1_method_17_code
def yX5_unlike : MethodName := ⟨RX5, "unlike", "(II)I"⟩
abbrev cX5_merged : ByteArray := prog_1_method_18_code
def yX5_merged : MethodName := ⟨RX5, "merged", "(II)I"⟩
abbrev cX5_whose : ByteArray := prog_1_method_19_code
def yX5_whose : MethodName := ⟨RX5, "whose", "(II)I"⟩
abbrev cX5_busiest : ByteArray := prog_1_method_20_code
def yX5_busiest : MethodName := ⟨RX5, "busiest", "(III)I"⟩
abbrev cX5_free : ByteArray := prog_1_method_21_code
def yX5_free : MethodName := ⟨RX5, "free", "(III)I"⟩
abbrev cX5_parts : ByteArray := prog_1_method_22_code
def yX5_parts : MethodName := ⟨RX5, "parts", "(III)I"⟩
abbrev cX5_nth : ByteArray := prog_1_method_23_code
def yX5_nth : MethodName := ⟨RX5, "nth", "(IIII)I"⟩
abbrev cX5_told : ByteArray := prog_1_method_24_code
def yX5_told : MethodName := ⟨RX5, "told", "(I)I"⟩
abbrev cX5_remembered : ByteArray := prog_1_method_25_code
def yX5_remembered : MethodName := ⟨RX5, "remembered", "(II)I"⟩
abbrev cX5_list : ByteArray := prog_1_method_26_code
def yX5_list : MethodName := ⟨RX5, "list", "(II)I"⟩
abbrev cX5_put : ByteArray := prog_1_method_27_code
def yX5_put : MethodName := ⟨RX5, "put", "(III)I"⟩
abbrev cX5_get : ByteArray := prog_1_method_28_code
def yX5_get : MethodName := ⟨RX5, "get", "(II)I"⟩
abbrev cX5_move : ByteArray := prog_1_method_29_code
def yX5_move : MethodName := ⟨RX5, "move", "(IIIII)I"⟩
abbrev cX5_lay : ByteArray := prog_1_method_30_code
def yX5_lay : MethodName := ⟨RX5, "lay", "(IIII)I"⟩
abbrev cX5_judge : ByteArray := prog_1_method_31_code
def yX5_judge : MethodName := ⟨RX5, "judge", "(IIII)I"⟩
abbrev cX5_image : ByteArray := prog_1_method_32_code
def yX5_image : MethodName := ⟨RX5, "image", "()I"⟩
abbrev cX5_undo : ByteArray := prog_1_method_33_code
def yX5_undo : MethodName := ⟨RX5, "undo", "()I"⟩
abbrev cX5_isName : ByteArray := prog_1_method_34_code
def yX5_isName : MethodName := ⟨RX5, "isName", "(I)Z"⟩
abbrev cX5_isDay : ByteArray := prog_1_method_35_code
def yX5_isDay : MethodName := ⟨RX5, "isDay", "(I)Z"⟩
abbrev cX5_isSpan : ByteArray := prog_1_method_36_code
def yX5_isSpan : MethodName := ⟨RX5, "isSpan", "(II)Z"⟩
abbrev cX5_isSet : ByteArray := prog_1_method_37_code
def yX5_isSet : MethodName := ⟨RX5, "isSet", "(I)Z"⟩
abbrev cX5_isBlock : ByteArray := prog_1_method_38_code
def yX5_isBlock : MethodName := ⟨RX5, "isBlock", "(I)Z"⟩
abbrev cX5_isList : ByteArray := prog_1_method_39_code
def yX5_isList : MethodName := ⟨RX5, "isList", "(I)Z"⟩
abbrev cX5_lastOfBlock : ByteArray := prog_1_method_40_code
def yX5_lastOfBlock : MethodName := ⟨RX5, "lastOfBlock", "(II)I"⟩
abbrev cX5_toggle : ByteArray := prog_1_method_41_code
def yX5_toggle : MethodName := ⟨RX5, "toggle", "(ILRecurringDays$Days;I)I"⟩
abbrev cX5_join : ByteArray := prog_1_method_42_code
def yX5_join : MethodName := ⟨RX5, "join", "(I)V"⟩
abbrev cX5_ownersOf : ByteArray := prog_1_method_43_code
def yX5_ownersOf : MethodName := ⟨RX5, "ownersOf", "(I)I"⟩
abbrev cX5_ruledNames : ByteArray := prog_1_method_44_code
def yX5_ruledNames : MethodName := ⟨RX5, "ruledNames", "()I"⟩
abbrev cX5_daysOutOfAll : ByteArray := prog_1_method_45_code
def yX5_daysOutOfAll : MethodName := ⟨RX5, "daysOutOfAll", "()I"⟩
abbrev cX5_extraDaysOfAll : ByteArray := prog_1_method_46_code
def yX5_extraDaysOfAll : MethodName := ⟨RX5, "extraDaysOfAll", "()I"⟩
abbrev cX5_refusalOf : ByteArray := prog_1_method_47_code
def yX5_refusalOf : MethodName := ⟨RX5, "refusalOf", "(IIII)I"⟩
def RX6 : String := "RecurringDaysModel"
def TX6 : u_T := fun k => match k with
  | 0 => ("RecurringDaysModel", "ruled", "[Z", true)
  | 1 => ("RecurringDaysModel", "rules", "[Z", true)
  | 2 => ("RecurringDaysModel", "outs", "[Z", true)
  | 3 => ("RecurringDaysModel", "extras", "[Z", true)
  | 4 => ("RecurringDaysModel", "thenRuled", "[Z", true)
  | 5 => ("RecurringDaysModel", "thenRules", "[Z", true)
  | 6 => ("RecurringDaysModel", "thenOuts", "[Z", true)
  | 7 => ("RecurringDaysModel", "thenExtras", "[Z", true)
  | 8 => ("RecurringDaysModel", "kept", "Z", false)
  | 9 => ("RecurringDaysModel", "tape", "[I", true)
  | 10 => ("RecurringDaysModel", "length", "I", false)
  | 11 => ("RecurringDaysModel", "at", "I", false)
  | 12 => ("RecurringDaysModel", "well", "Z", false)
  | 13 => ("RecurringDaysModel", "sets", "[Z", true)
  | 14 => ("RecurringDaysModel", "top", "I", false)
  | 15 => ("RecurringDaysModel", "spans", "I", false)
  | 16 => ("RecurringDaysModel", "spanName", "[I", true)
  | 17 => ("RecurringDaysModel", "spanFrom", "[I", true)
  | 18 => ("RecurringDaysModel", "spanTo", "[I", true)
  | 19 => ("RecurringDaysModel", "spanMany", "[I", true)
  | 20 => ("RecurringDaysModel", "hits", "I", false)
  | 21 => ("RecurringDaysModel", "misses", "I", false)
  | 22 => ("RecurringDaysModel", "sizes", "[I", true)
  | 23 => ("RecurringDaysModel", "items", "[I", true)
  | _ => ("RecurringDaysModel", "moved", "[I", true)
def tyX6 : Nat → FieldType := fun k => match k with
  | 0 => .array .boolean
  | 1 => .array .boolean
  | 2 => .array .boolean
  | 3 => .array .boolean
  | 4 => .array .boolean
  | 5 => .array .boolean
  | 6 => .array .boolean
  | 7 => .array .boolean
  | 8 => .boolean
  | 9 => .array .int
  | 10 => .int
  | 11 => .int
  | 12 => .boolean
  | 13 => .array .boolean
  | 14 => .int
  | 15 => .int
  | 16 => .array .int
  | 17 => .array .int
  | 18 => .array .int
  | 19 => .array .int
  | 20 => .int
  | 21 => .int
  | 22 => .array .int
  | 23 => .array .int
  | _ => .array .int
abbrev wsX60 : List Cond := u_ws RX6 TX6 25
theorem nmX6 : ∀ a, a < 25 → ∀ b, b < 25 → a ≠ b → (TX6 a).2.1 ≠ (TX6 b).2.1 := by decide +kernel
theorem tyX6_ok : ∀ k, k < 25 → parseFieldDescriptor (TX6 k).2.2.1 = some (tyX6 k) := by decide +kernel
abbrev cX6_init : ByteArray := prog_8_method_1_code
def yX6_init : MethodName := ⟨RX6, "<init>", "()V"⟩
abbrev cX6_isIn : ByteArray := prog_8_method_2_code
def yX6_isIn : MethodName := ⟨RX6, "isIn", "(JJJ)Z"⟩
abbrev cX6_isName : ByteArray := prog_8_method_3_code
def yX6_isName : MethodName := ⟨RX6, "isName", "(I)Z"⟩
abbrev cX6_isDay : ByteArray := prog_8_method_4_code
def yX6_isDay : MethodName := ⟨RX6, "isDay", "(I)Z"⟩
abbrev cX6_pours : ByteArray := prog_8_method_5_code
def yX6_pours : MethodName := ⟨RX6, "pours", "([Z[ZI)V"⟩
abbrev cX6_isOf : ByteArray := prog_8_method_6_code
def yX6_isOf : MethodName := ⟨RX6, "isOf", "(II)Z"⟩
abbrev cX6_many : ByteArray := prog_8_method_7_code
def yX6_many : MethodName := ⟨RX6, "many", "([ZI)I"⟩
abbrev cX6_feed : ByteArray := prog_8_method_8_code
def yX6_feed : MethodName := ⟨RX6, "feed", "(I)I"⟩
abbrev cX6_clear : ByteArray := prog_8_method_9_code
def yX6_clear : MethodName := ⟨RX6, "clear", "()I"⟩
abbrev cX6_peek : ByteArray := prog_8_method_10_code
def yX6_peek : MethodName := ⟨RX6, "peek", "()I"⟩
abbrev cX6_isAt : ByteArray := prog_8_method_11_code
def yX6_isAt : MethodName := ⟨RX6, "isAt", "(I)Z"⟩
abbrev cX6_takes : ByteArray := prog_8_method_12_code
def yX6_takes : MethodName := ⟨RX6, "takes", "(I)V"⟩
abbrev cX6_number : ByteArray := prog_8_method_13_code
def yX6_number : MethodName := ⟨RX6, "number", "(II)I"⟩
abbrev cX6_fresh : ByteArray := prog_8_method_14_code
def yX6_fresh : MethodName := ⟨RX6, "fresh", "()I"⟩
abbrev cX6_expression : ByteArray := prog_8_method_15_code
def yX6_expression : MethodName := ⟨RX6, "expression", "(I)I"⟩
abbrev cX6_term : ByteArray := prog_8_method_16_code
def yX6_term : MethodName := ⟨RX6, "term", "(I)I"⟩
abbrev cX6_bracketed : ByteArray := prog_8_method_17_code
def yX6_bracketed : MethodName := ⟨RX6, "bracketed", "(I)I"⟩
abbrev cX6_factor : ByteArray := prog_8_method_18_code
def yX6_factor : MethodName := ⟨RX6, "factor", "(IZ)I"⟩
abbrev cX6_calendar : ByteArray := prog_8_method_19_code
def yX6_calendar : MethodName := ⟨RX6, "calendar", "(I)I"⟩
abbrev cX6_stretch : ByteArray := prog_8_method_20_code
def yX6_stretch : MethodName := ⟨RX6, "stretch", "(I)I"⟩
abbrev cX6_blockOf : ByteArray := prog_8_method_21_code
def yX6_blockOf : MethodName := ⟨RX6, "blockOf", "(II)I"⟩
abbrev cX6_blocks : ByteArray := prog_8_method_22_code
def yX6_blocks : MethodName := ⟨RX6, "blocks", "(ZI)I"⟩
abbrev cX6_over : ByteArray := prog_8_method_23_code
def yX6_over : MethodName := ⟨RX6, "over", "(II)I"⟩
abbrev cX6_whole : ByteArray := prog_8_method_24_code
def yX6_whole : MethodName := ⟨RX6, "whole", "(II)I"⟩
abbrev cX6_forgets : ByteArray := prog_8_method_25_code
def yX6_forgets : MethodName := ⟨RX6, "forgets", "(I)V"⟩
abbrev cX6_rule : ByteArray := prog_8_method_26_code
def yX6_rule : MethodName := ⟨RX6, "rule", "(I)I"⟩
abbrev cX6_drop : ByteArray := prog_8_method_27_code
def yX6_drop : MethodName := ⟨RX6, "drop", "(I)I"⟩
abbrev cX6_copy : ByteArray := prog_8_method_28_code
def yX6_copy : MethodName := ⟨RX6, "copy", "(II)I"⟩
abbrev cX6_turns : ByteArray := prog_8_method_29_code
def yX6_turns : MethodName := ⟨RX6, "turns", "([ZII)I"⟩
abbrev cX6_out : ByteArray := prog_8_method_30_code
def yX6_out : MethodName := ⟨RX6, "out", "(II)I"⟩
abbrev cX6_extra : ByteArray := prog_8_method_31_code
def yX6_extra : MethodName := ⟨RX6, "extra", "(II)I"⟩
abbrev cX6_amiss : ByteArray := prog_8_method_32_code
def yX6_amiss : MethodName := ⟨RX6, "amiss", "(II)I"⟩
abbrev cX6_has : ByteArray := prog_8_method_33_code
def yX6_has : MethodName := ⟨RX6, "has", "(II)I"⟩
abbrev cX6_nextOf : ByteArray := prog_8_method_34_code
def yX6_nextOf : MethodName := ⟨RX6, "nextOf", "(II)I"⟩
abbrev cX6_next : ByteArray := prog_8_method_35_code
def yX6_next : MethodName := ⟨RX6, "next", "(II)I"⟩
abbrev cX6_ahead : ByteArray := prog_8_method_36_code
def yX6_ahead : MethodName := ⟨RX6, "ahead", "(II)I"⟩
abbrev cX6_ith : ByteArray := prog_8_method_37_code
def yX6_ith : MethodName := ⟨RX6, "ith", "(IIII)I"⟩
abbrev cX6_at : ByteArray := prog_8_method_38_code
def yX6_at : MethodName := ⟨RX6, "at", "(II)I"⟩
abbrev cX6_counted : ByteArray := prog_8_method_39_code
def yX6_counted : MethodName := ⟨RX6, "counted", "(III)I"⟩
abbrev cX6_puts : ByteArray := prog_8_method_40_code
def yX6_puts : MethodName := ⟨RX6, "puts", "(IIIII)V"⟩
abbrev cX6_count : ByteArray := prog_8_method_41_code
def yX6_count : MethodName := ⟨RX6, "count", "(III)I"⟩
abbrev cX6_gap : ByteArray := prog_8_method_42_code
def yX6_gap : MethodName := ⟨RX6, "gap", "(I)I"⟩
abbrev cX6_period : ByteArray := prog_8_method_43_code
def yX6_period : MethodName := ⟨RX6, "period", "(I)I"⟩
abbrev cX6_clash : ByteArray := prog_8_method_44_code
def yX6_clash : MethodName := ⟨RX6, "clash", "(III)I"⟩
abbrev cX6_unlike : ByteArray := prog_8_method_45_code
def yX6_unlike : MethodName := ⟨RX6, "unlike", "(II)I"⟩
abbrev cX6_isSet : ByteArray := prog_8_method_46_code
def yX6_isSet : MethodName := ⟨RX6, "isSet", "(I)Z"⟩
abbrev cX6_having : ByteArray := prog_8_method_47_code
def yX6_having : MethodName := ⟨RX6, "having", "(II)I"⟩
abbrev cX6_mergedDay : ByteArray := prog_8_method_48_code
def yX6_mergedDay : MethodName := ⟨RX6, "mergedDay", "(II)I"⟩
abbrev cX6_merged : ByteArray := prog_8_method_49_code
def yX6_merged : MethodName := ⟨RX6, "merged", "(II)I"⟩
abbrev cX6_whose : ByteArray := prog_8_method_50_code
def yX6_whose : MethodName := ⟨RX6, "whose", "(II)I"⟩
abbrev cX6_manyAt : ByteArray := prog_8_method_51_code
def yX6_manyAt : MethodName := ⟨RX6, "manyAt", "(I)I"⟩
abbrev cX6_busiest : ByteArray := prog_8_method_52_code
def yX6_busiest : MethodName := ⟨RX6, "busiest", "(III)I"⟩
abbrev cX6_free : ByteArray := prog_8_method_53_code
def yX6_free : MethodName := ⟨RX6, "free", "(III)I"⟩
abbrev cX6_isBlock : ByteArray := prog_8_method_54_code
def yX6_isBlock : MethodName := ⟨RX6, "isBlock", "(I)Z"⟩
abbrev cX6_parts : ByteArray := prog_8_method_55_code
def yX6_parts : MethodName := ⟨RX6, "parts", "(III)I"⟩
abbrev cX6_nth : ByteArray := prog_8_method_56_code
def yX6_nth : MethodName := ⟨RX6, "nth", "(IIII)I"⟩
abbrev cX6_told : ByteArray := prog_8_method_57_code
def yX6_told : MethodName := ⟨RX6, "told", "(I)I"⟩
abbrev cX6_remembered : ByteArray := prog_8_method_58_code
def yX6_remembered : MethodName := ⟨RX6, "remembered", "(II)I"⟩
abbrev cX6_isList : ByteArray := prog_8_method_59_code
def yX6_isList : MethodName := ⟨RX6, "isList", "(I)Z"⟩
abbrev cX6_list : ByteArray := prog_8_method_60_code
def yX6_list : MethodName := ⟨RX6, "list", "(II)I"⟩
abbrev cX6_put : ByteArray := prog_8_method_61_code
def yX6_put : MethodName := ⟨RX6, "put", "(III)I"⟩
abbrev cX6_get : ByteArray := prog_8_method_62_code
def yX6_get : MethodName := ⟨RX6, "get", "(II)I"⟩
abbrev cX6_move : ByteArray := prog_8_method_63_code
def yX6_move : MethodName := ⟨RX6, "move", "(IIIII)I"⟩
abbrev cX6_wrong : ByteArray := prog_8_method_64_code
def yX6_wrong : MethodName := ⟨RX6, "wrong", "(IIII)I"⟩
abbrev cX6_lay : ByteArray := prog_8_method_65_code
def yX6_lay : MethodName := ⟨RX6, "lay", "(IIII)I"⟩
abbrev cX6_judge : ByteArray := prog_8_method_66_code
def yX6_judge : MethodName := ⟨RX6, "judge", "(IIII)I"⟩
abbrev cX6_image : ByteArray := prog_8_method_67_code
def yX6_image : MethodName := ⟨RX6, "image", "()I"⟩
abbrev cX6_undo : ByteArray := prog_8_method_68_code
def yX6_undo : MethodName := ⟨RX6, "undo", "()I"⟩
def RJ6 : String := "java/lang/Integer"
abbrev cJ6_bitCount_0f7a4 : ByteArray := prog_9_method_49_code
def yJ6_bitCount_0f7a4 : MethodName := ⟨RJ6, "bitCount", "(I)I"⟩
def RJ13 : String := "java/lang/Long"
abbrev cJ13_bitCount_95d88 : ByteArray := prog_10_method_50_code
def yJ13_bitCount_95d88 : MethodName := ⟨RJ13, "bitCount", "(J)I"⟩
def RJ9 : String := "java/lang/Math"
abbrev cJ9_max_7cf53 : ByteArray := prog_11_method_65_code
def yJ9_max_7cf53 : MethodName := ⟨RJ9, "max", "(II)I"⟩
abbrev cJ9_min_7cf53 : ByteArray := prog_11_method_69_code
def yJ9_min_7cf53 : MethodName := ⟨RJ9, "min", "(II)I"⟩
def RJ10 : String := "java/lang/System"
def RL : String := "RecurringDaysLaw"
abbrev cL_law : ByteArray := code
def yL_law : MethodName := ⟨RL, "law", "([I)Z"⟩
abbrev vwCl : List vw_C := [(RX0, TX0, 1), (RX1, TX1, 4), (RX2, TX2, 5), (RX3, TX3, 6), (RX4, TX4, 3), (RX5, TX5, 7), (RX6, TX6, 25)]
/-- a method: name, bytes, locals, answer, class of its receiver, arguments, static, places of its words (code, instance or static, selects, initialized) -/
abbrev vNr : Type := MethodName × ByteArray × Nat × Option FieldType × Nat × Nat × Bool × Nat × Nat × Nat × Nat
def vN_0 : List vNr := [(yX0_init, cX0_init, 1, none, 0, 0, false, 81, 80, 9999, 51),
  (yX0_holds, cX0_holds, 2, (some .boolean), 0, 1, false, 343, 341, 342, 51),
  (yX0_add, cX0_add, 2, none, 0, 1, false, 301, 299, 300, 51),
  (yX0_remove, cX0_remove, 2, none, 0, 1, false, 360, 358, 359, 51),
  (yX0_wipe, cX0_wipe, 2, none, 0, 0, false, 242, 240, 241, 51),
  (yX0_become, cX0_become, 3, none, 0, 1, false, 282, 280, 281, 51),
  (yX0_addAll, cX0_addAll, 3, none, 0, 1, false, 373, 371, 372, 51),
  (yX0_removeAll, cX0_removeAll, 3, none, 0, 1, false, 369, 367, 368, 51),
  (yX0_keepAll, cX0_keepAll, 3, none, 0, 1, false, 365, 363, 364, 51),
  (yX0_invert, cX0_invert, 2, none, 0, 0, false, 250, 248, 249, 51),
  (yX0_size, cX0_size, 3, (some .int), 0, 0, false, 392, 390, 391, 51),
  (yX0_heldWithin, cX0_heldWithin, 5, (some .int), 0, 2, false, 456, 454, 455, 51),
  (yX0_pick, cX0_pick, 6, (some .int), 0, 3, false, 339, 337, 338, 51),
  (yX0_addSpan, cX0_addSpan, 4, none, 0, 2, false, 308, 306, 307, 51),
  (yX0_addEach, cX0_addEach, 4, none, 0, 2, false, 297, 295, 296, 51),
  (yX0_addMoved, cX0_addMoved, 4, none, 0, 2, false, 351, 349, 350, 51),
  (yX0_addEachNth, cX0_addEachNth, 5, none, 0, 2, false, 355, 353, 354, 51),
  (yX0_addOfBlocks, cX0_addOfBlocks, 5, none, 0, 3, false, 329, 327, 328, 51),
  (yX0_wordFrom, cX0_wordFrom, 8, (some .long), 0, 1, false, 493, 491, 492, 51),
  (yX0_comesAgainAfter, cX0_comesAgainAfter, 8, (some .boolean), 0, 1, false, 487, 485, 486, 51),
  (yX1_init, cX1_init, 1, none, 1, 0, false, 114, 113, 9999, 52),
  (yX1_ask, cX1_ask, 6, none, 1, 4, false, 460, 458, 459, 52),
  (yX1_find, cX1_find, 6, (some .int), 1, 3, false, 464, 463, 14, 52),
  (yX1_write, cX1_write, 6, none, 1, 4, false, 468, 467, 15, 52),
  (yX1_makeLatest, cX1_makeLatest, 4, none, 1, 1, false, 472, 471, 16, 52),
  (yX1_forget, cX1_forget, 5, none, 1, 1, false, 388, 386, 387, 52),
  (yX1_forgetAll, cX1_forgetAll, 1, none, 1, 0, false, 623, 621, 622, 52),
  (yX2_init, cX2_init, 1, none, 2, 0, false, 142, 141, 9999, 53),
  (yX2_become, cX2_become, 3, none, 2, 2, false, 377, 375, 376, 53),
  (yX2_unrule, cX2_unrule, 1, none, 2, 0, false, 406, 404, 405, 53),
  (yX2_take, cX2_take, 2, none, 2, 1, false, 614, 612, 613, 53),
  (yX2_refresh, cX2_refresh, 1, none, 2, 0, false, 382, 380, 381, 53),
  (yX3_init, cX3_init, 2, none, 3, 0, false, 74, 73, 9999, 50),
  (yX3_append, cX3_append, 2, (some .int), 3, 1, false, 215, 213, 214, 50),
  (yX3_empty, cX3_empty, 2, (some .int), 3, 0, false, 223, 221, 222, 50),
  (yX3_read, cX3_read, 3, (some (.object "RecurringDays$Days")), 3, 1, false, 234, 232, 233, 50),
  (yX3_here, cX3_here, 1, (some .int), 3, 0, false, 263, 262, 4, 50),
  (yX3_take, cX3_take, 2, (some .boolean), 3, 1, false, 259, 258, 3, 50),
  (yX3_readSum, cX3_readSum, 7, (some (.object "RecurringDays$Days")), 3, 2, false, 238, 237, 0, 50),
  (yX3_readProduct, cX3_readProduct, 6, (some (.object "RecurringDays$Days")), 3, 2, false, 246, 245, 1, 50)]
def vN_1 : List vNr := [(yX3_readFactor, cX3_readFactor, 5, (some (.object "RecurringDays$Days")), 3, 2, false, 255, 254, 2, 50),
  (yX3_readPlain, cX3_readPlain, 5, (some .boolean), 3, 3, false, 267, 266, 5, 50),
  (yX3_hasBracket, cX3_hasBracket, 1, (some .boolean), 3, 1, true, 270, 269, 9999, 50),
  (yX3_readUnit, cX3_readUnit, 5, (some .boolean), 3, 2, false, 286, 285, 8, 50),
  (yX3_readPair, cX3_readPair, 6, (some .boolean), 3, 2, false, 312, 311, 10, 50),
  (yX3_readOfBlocks, cX3_readOfBlocks, 8, (some .boolean), 3, 4, false, 316, 315, 11, 50),
  (yX3_readChanged, cX3_readChanged, 7, (some .boolean), 3, 4, false, 347, 346, 12, 50),
  (yX3_readInner, cX3_readInner, 5, (some .boolean), 3, 3, false, 274, 273, 6, 50),
  (yX3_readBracket, cX3_readBracket, 4, (some (.object "RecurringDays$Days")), 3, 2, false, 278, 277, 7, 50),
  (yX3_readNumber, cX3_readNumber, 6, (some .int), 3, 2, false, 293, 292, 9, 50),
  (yX3_mostOf, cX3_mostOf, 1, (some .int), 3, 1, true, 289, 288, 9999, 50),
  (yX3_blockOf, cX3_blockOf, 1, (some .int), 3, 1, true, 319, 318, 9999, 50),
  (yX4_init, cX4_init, 1, none, 4, 0, false, 171, 170, 9999, 54),
  (yX4_begin, cX4_begin, 3, none, 4, 1, false, 578, 576, 577, 54),
  (yX5_init, cX5_init, 2, none, 5, 0, false, 64, 63, 9999, 49),
  (yX5_feed, cX5_feed, 2, (some .int), 5, 1, false, 211, 209, 210, 49),
  (yX5_clear, cX5_clear, 1, (some .int), 5, 0, false, 219, 217, 218, 49),
  (yX5_rule, cX5_rule, 4, (some .int), 5, 1, false, 227, 225, 226, 49),
  (yX5_drop, cX5_drop, 4, (some .int), 5, 1, false, 402, 400, 401, 49),
  (yX5_copy, cX5_copy, 4, (some .int), 5, 2, false, 411, 409, 410, 49),
  (yX5_out, cX5_out, 3, (some .int), 5, 2, false, 415, 413, 414, 49),
  (yX5_extra, cX5_extra, 3, (some .int), 5, 2, false, 428, 426, 427, 49),
  (yX5_has, cX5_has, 3, (some .int), 5, 2, false, 432, 430, 431, 49),
  (yX5_next, cX5_next, 3, (some .int), 5, 2, false, 436, 434, 435, 49),
  (yX5_ahead, cX5_ahead, 3, (some .int), 5, 2, false, 441, 439, 440, 49),
  (yX5_at, cX5_at, 3, (some .int), 5, 2, false, 445, 443, 444, 49),
  (yX5_count, cX5_count, 5, (some .int), 5, 3, false, 449, 447, 448, 49),
  (yX5_gap, cX5_gap, 6, (some .int), 5, 1, false, 476, 474, 475, 49),
  (yX5_period, cX5_period, 3, (some .int), 5, 1, false, 483, 481, 482, 49),
  (yX5_clash, cX5_clash, 7, (some .int), 5, 3, false, 497, 495, 496, 49),
  (yX5_unlike, cX5_unlike, 6, (some .int), 5, 2, false, 501, 499, 500, 49),
  (yX5_merged, cX5_merged, 3, (some .int), 5, 2, false, 505, 503, 504, 49),
  (yX5_whose, cX5_whose, 3, (some .int), 5, 2, false, 518, 516, 517, 49),
  (yX5_busiest, cX5_busiest, 8, (some .int), 5, 3, false, 526, 524, 525, 49),
  (yX5_free, cX5_free, 6, (some .int), 5, 3, false, 536, 534, 535, 49),
  (yX5_parts, cX5_parts, 7, (some .int), 5, 3, false, 540, 538, 539, 49),
  (yX5_nth, cX5_nth, 7, (some .int), 5, 4, false, 547, 545, 546, 49),
  (yX5_told, cX5_told, 2, (some .int), 5, 1, false, 551, 549, 550, 49),
  (yX5_remembered, cX5_remembered, 3, (some .int), 5, 2, false, 567, 565, 566, 49),
  (yX5_list, cX5_list, 3, (some .int), 5, 2, false, 571, 569, 570, 49)]
def vN_2 : List vNr := [(yX5_put, cX5_put, 5, (some .int), 5, 3, false, 582, 580, 581, 49),
  (yX5_get, cX5_get, 4, (some .int), 5, 2, false, 586, 584, 585, 49),
  (yX5_move, cX5_move, 8, (some .int), 5, 5, false, 591, 589, 590, 49),
  (yX5_lay, cX5_lay, 10, (some .int), 5, 4, false, 598, 596, 597, 49),
  (yX5_judge, cX5_judge, 12, (some .int), 5, 4, false, 606, 604, 605, 49),
  (yX5_image, cX5_image, 2, (some .int), 5, 0, false, 610, 608, 609, 49),
  (yX5_undo, cX5_undo, 2, (some .int), 5, 0, false, 619, 617, 618, 49),
  (yX5_isName, cX5_isName, 1, (some .boolean), 5, 1, true, 230, 229, 9999, 49),
  (yX5_isDay, cX5_isDay, 1, (some .boolean), 5, 1, true, 304, 303, 9999, 49),
  (yX5_isSpan, cX5_isSpan, 2, (some .boolean), 5, 2, true, 452, 451, 9999, 49),
  (yX5_isSet, cX5_isSet, 1, (some .boolean), 5, 1, true, 508, 507, 9999, 49),
  (yX5_isBlock, cX5_isBlock, 1, (some .boolean), 5, 1, true, 322, 321, 9999, 49),
  (yX5_isList, cX5_isList, 1, (some .boolean), 5, 1, true, 574, 573, 9999, 49),
  (yX5_lastOfBlock, cX5_lastOfBlock, 2, (some .int), 5, 2, true, 332, 331, 9999, 49),
  (yX5_toggle, cX5_toggle, 4, (some .int), 5, 3, false, 419, 418, 13, 49),
  (yX5_join, cX5_join, 3, none, 5, 1, false, 512, 511, 17, 49),
  (yX5_ownersOf, cX5_ownersOf, 4, (some .int), 5, 1, false, 522, 521, 18, 49),
  (yX5_ruledNames, cX5_ruledNames, 3, (some .int), 5, 0, false, 555, 554, 19, 49),
  (yX5_daysOutOfAll, cX5_daysOutOfAll, 3, (some .int), 5, 0, false, 559, 558, 20, 49),
  (yX5_extraDaysOfAll, cX5_extraDaysOfAll, 3, (some .int), 5, 0, false, 563, 562, 21, 49),
  (yX5_refusalOf, cX5_refusalOf, 6, (some .int), 5, 4, false, 602, 601, 22, 49),
  (yX6_init, cX6_init, 1, none, 6, 0, false, 628, 627, 9999, 55),
  (yX6_isIn, cX6_isIn, 6, (some .boolean), 6, 3, true, 715, 714, 9999, 55),
  (yX6_isName, cX6_isName, 1, (some .boolean), 6, 1, true, 726, 725, 9999, 55),
  (yX6_isDay, cX6_isDay, 1, (some .boolean), 6, 1, true, 797, 796, 9999, 55),
  (yX6_pours, cX6_pours, 4, none, 6, 3, true, 975, 974, 9999, 55),
  (yX6_isOf, cX6_isOf, 4, (some .boolean), 6, 2, false, 765, 764, 31, 55),
  (yX6_many, cX6_many, 4, (some .int), 6, 2, true, 809, 808, 9999, 55),
  (yX6_feed, cX6_feed, 2, (some .int), 6, 1, false, 711, 709, 710, 55),
  (yX6_clear, cX6_clear, 2, (some .int), 6, 0, false, 719, 717, 718, 55),
  (yX6_peek, cX6_peek, 1, (some .int), 6, 0, false, 747, 746, 27, 55),
  (yX6_isAt, cX6_isAt, 2, (some .boolean), 6, 1, false, 743, 742, 26, 55),
  (yX6_takes, cX6_takes, 2, none, 6, 1, false, 755, 754, 29, 55),
  (yX6_number, cX6_number, 5, (some .int), 6, 2, false, 773, 772, 33, 55),
  (yX6_fresh, cX6_fresh, 3, (some .int), 6, 0, false, 761, 760, 30, 55),
  (yX6_expression, cX6_expression, 6, (some .int), 6, 1, false, 731, 730, 23, 55),
  (yX6_term, cX6_term, 5, (some .int), 6, 1, false, 735, 734, 24, 55),
  (yX6_bracketed, cX6_bracketed, 3, (some .int), 6, 1, false, 751, 750, 28, 55),
  (yX6_factor, cX6_factor, 8, (some .int), 6, 2, false, 739, 738, 25, 55),
  (yX6_calendar, cX6_calendar, 6, (some .int), 6, 1, false, 769, 768, 32, 55)]
def vN_3 : List vNr := [(yX6_stretch, cX6_stretch, 7, (some .int), 6, 1, false, 779, 778, 34, 55),
  (yX6_blockOf, cX6_blockOf, 2, (some .int), 6, 2, true, 786, 785, 9999, 55),
  (yX6_blocks, cX6_blocks, 11, (some .int), 6, 2, false, 783, 782, 35, 55),
  (yX6_over, cX6_over, 4, (some .int), 6, 2, false, 790, 789, 36, 55),
  (yX6_whole, cX6_whole, 9, (some .int), 6, 2, false, 794, 793, 37, 55),
  (yX6_forgets, cX6_forgets, 4, none, 6, 1, false, 802, 801, 38, 55),
  (yX6_rule, cX6_rule, 5, (some .int), 6, 1, false, 723, 721, 722, 55),
  (yX6_drop, cX6_drop, 4, (some .int), 6, 1, false, 813, 811, 812, 55),
  (yX6_copy, cX6_copy, 4, (some .int), 6, 2, false, 817, 815, 816, 55),
  (yX6_turns, cX6_turns, 5, (some .int), 6, 3, false, 825, 824, 40, 55),
  (yX6_out, cX6_out, 3, (some .int), 6, 2, false, 821, 819, 820, 55),
  (yX6_extra, cX6_extra, 3, (some .int), 6, 2, false, 829, 827, 828, 55),
  (yX6_amiss, cX6_amiss, 2, (some .int), 6, 2, true, 836, 835, 9999, 55),
  (yX6_has, cX6_has, 4, (some .int), 6, 2, false, 833, 831, 832, 55),
  (yX6_nextOf, cX6_nextOf, 4, (some .int), 6, 2, false, 844, 843, 41, 55),
  (yX6_next, cX6_next, 4, (some .int), 6, 2, false, 840, 838, 839, 55),
  (yX6_ahead, cX6_ahead, 5, (some .int), 6, 2, false, 848, 846, 847, 55),
  (yX6_ith, cX6_ith, 9, (some .int), 6, 4, false, 856, 855, 42, 55),
  (yX6_at, cX6_at, 3, (some .int), 6, 2, false, 852, 850, 851, 55),
  (yX6_counted, cX6_counted, 6, (some .int), 6, 3, false, 860, 859, 43, 55),
  (yX6_puts, cX6_puts, 6, none, 6, 5, false, 806, 805, 39, 55),
  (yX6_count, cX6_count, 7, (some .int), 6, 3, false, 864, 862, 863, 55),
  (yX6_gap, cX6_gap, 5, (some .int), 6, 1, false, 868, 866, 867, 55),
  (yX6_period, cX6_period, 5, (some .int), 6, 1, false, 873, 871, 872, 55),
  (yX6_clash, cX6_clash, 5, (some .int), 6, 3, false, 877, 875, 876, 55),
  (yX6_unlike, cX6_unlike, 4, (some .int), 6, 2, false, 881, 879, 880, 55),
  (yX6_isSet, cX6_isSet, 1, (some .boolean), 6, 1, true, 888, 887, 9999, 55),
  (yX6_having, cX6_having, 5, (some .int), 6, 2, false, 893, 892, 44, 55),
  (yX6_mergedDay, cX6_mergedDay, 5, (some .int), 6, 2, false, 897, 896, 45, 55),
  (yX6_merged, cX6_merged, 5, (some .int), 6, 2, false, 885, 883, 884, 55),
  (yX6_whose, cX6_whose, 4, (some .int), 6, 2, false, 901, 899, 900, 55),
  (yX6_manyAt, cX6_manyAt, 5, (some .int), 6, 1, false, 909, 908, 46, 55),
  (yX6_busiest, cX6_busiest, 8, (some .int), 6, 3, false, 905, 903, 904, 55),
  (yX6_free, cX6_free, 7, (some .int), 6, 3, false, 913, 911, 912, 55),
  (yX6_isBlock, cX6_isBlock, 1, (some .boolean), 6, 1, true, 921, 920, 9999, 55),
  (yX6_parts, cX6_parts, 6, (some .int), 6, 3, false, 918, 916, 917, 55),
  (yX6_nth, cX6_nth, 7, (some .int), 6, 4, false, 926, 924, 925, 55),
  (yX6_told, cX6_told, 4, (some .int), 6, 1, false, 931, 929, 930, 55),
  (yX6_remembered, cX6_remembered, 3, (some .int), 6, 2, false, 935, 933, 934, 55),
  (yX6_isList, cX6_isList, 1, (some .boolean), 6, 1, true, 943, 942, 9999, 55)]
def vN_4 : List vNr := [(yX6_list, cX6_list, 4, (some .int), 6, 2, false, 940, 938, 939, 55),
  (yX6_put, cX6_put, 4, (some .int), 6, 3, false, 947, 945, 946, 55),
  (yX6_get, cX6_get, 3, (some .int), 6, 2, false, 951, 949, 950, 55),
  (yX6_move, cX6_move, 7, (some .int), 6, 5, false, 956, 954, 955, 55),
  (yX6_wrong, cX6_wrong, 5, (some .int), 6, 4, false, 964, 963, 47, 55),
  (yX6_lay, cX6_lay, 8, (some .int), 6, 4, false, 960, 958, 959, 55),
  (yX6_judge, cX6_judge, 8, (some .int), 6, 4, false, 968, 966, 967, 55),
  (yX6_image, cX6_image, 1, (some .int), 6, 0, false, 972, 970, 971, 55),
  (yX6_undo, cX6_undo, 1, (some .int), 6, 0, false, 980, 978, 979, 55),
  (yJ6_bitCount_0f7a4, cJ6_bitCount_0f7a4, 1, (some .int), 99, 1, true, 529, 528, 9999, 58),
  (yJ13_bitCount_95d88, cJ13_bitCount_95d88, 2, (some .int), 99, 1, true, 395, 394, 9999, 57),
  (yL_law, cL_law, 4, (some .boolean), 99, 1, true, 9999, 9999, 9999, 48)]
def vN : List vNr := vN_0 ++ (vN_1 ++ (vN_2 ++ (vN_3 ++ (vN_4))))
end
section
/-- an instruction: its place, as the machine has it, length, and in short: kind, two numbers, a constant, the place of its link -/
abbrev vent : Type := Nat × Instr × Nat × Nat × Nat × Nat × Int × Nat
def vsw : List (List (Int × Nat) × Nat) := [([(98, 244), (99, 264), (100, 188), (101, 206), (102, 264), (103, 264), (104, 264), (105, 264), (106, 264), (107, 264), (108, 224), (109, 188), (110, 224), (111, 264), (112, 244), (113, 264), (114, 206), (115, 244), (116, 264), (117, 264), (118, 264), (119, 188), (120, 244), (121, 188)], 264),
  ([(40, 68), (98, 68), (108, 68), (110, 68), (112, 68), (115, 68), (120, 68)], 70),
  ([(100, 107), (101, 118), (102, 118), (103, 118), (104, 118), (105, 118), (106, 118), (107, 118), (108, 115), (109, 110), (110, 115), (111, 118), (112, 115), (113, 118), (114, 118), (115, 118), (116, 118), (117, 118), (118, 118), (119, 104), (120, 118), (121, 113)], 118),
  ([(109, 38), (119, 36), (121, 40)], 42),
  ([(0, 44), (1, 49), (2, 57), (3, 65), (4, 73), (5, 81), (6, 86)], 91),
  ([(0, 44), (1, 77), (2, 82), (3, 87), (4, 92), (5, 97), (6, 97)], 136),
  ([(0, 176), (1, 199), (2, 212), (3, 235), (4, 258), (5, 291), (6, 324), (7, 357), (8, 390), (9, 423), (10, 456), (11, 489), (12, 532), (13, 555), (14, 578), (15, 621), (16, 654), (17, 687), (18, 720), (19, 763), (20, 806), (21, 849), (22, 902), (23, 925), (24, 958), (25, 991), (26, 1034), (27, 1067), (28, 1130), (29, 1183), (30, 1236), (31, 1249)], 1262)]
def vC_0_0 : List vent := [(0, .aload_n 0, 1, 6, 0, 0, 0, 0),
  (1, .invokespecial 5, 3, 61, 0, 0, 0, 82),
  (4, .aload_n 0, 1, 6, 0, 0, 0, 0),
  (5, .bipush 12, 2, 1, 0, 0, 12, 0),
  (7, .newarray .long, 2, 55, 1, 0, 0, 0),
  (9, .putfield 11, 3, 68, 0, 0, 0, 83),
  (12, .return_, 1, 66, 0, 0, 0, 0)]
def vC_0 : List vent := vC_0_0
def vC_1_0 : List vent := [(0, .iload_n 1, 1, 4, 1, 0, 0, 0),
  (1, .invokestatic 15, 3, 82, 88, 0, 0, 302),
  (4, .ifCond .eq 28, 3, 70, 32, 0, 0, 0),
  (7, .aload_n 0, 1, 6, 0, 0, 0, 0),
  (8, .getfield 11, 3, 42, 0, 0, 0, 83),
  (11, .iload_n 1, 1, 4, 1, 0, 0, 0),
  (12, .bipush 60, 2, 1, 0, 0, 60, 0),
  (14, .idiv, 1, 14, 0, 0, 0, 0),
  (15, .laload, 1, 46, 0, 0, 0, 0),
  (16, .iload_n 1, 1, 4, 1, 0, 0, 0),
  (17, .bipush 60, 2, 1, 0, 0, 60, 0),
  (19, .irem, 1, 15, 0, 0, 0, 0),
  (20, .lshr, 1, 29, 0, 0, 0, 0),
  (21, .lconst 1, 1, 2, 0, 0, 1, 0),
  (22, .land, 1, 25, 0, 0, 0, 0),
  (23, .lconst 0, 1, 2, 0, 0, 0, 0),
  (24, .lcmp, 1, 31, 0, 0, 0, 0),
  (25, .ifCond .eq 7, 3, 70, 32, 0, 0, 0),
  (28, .iconst 1, 1, 1, 0, 0, 1, 0),
  (29, .goto 4, 3, 37, 33, 0, 0, 0),
  (32, .iconst 0, 1, 1, 0, 0, 0, 0),
  (33, .ireturn, 1, 63, 1, 0, 0, 0)]
def vC_1 : List vent := vC_1_0
def vC_2_0 : List vent := [(0, .iload_n 1, 1, 4, 1, 0, 0, 0),
  (1, .invokestatic 15, 3, 82, 88, 0, 0, 302),
  (4, .ifCond .eq 21, 3, 70, 25, 0, 0, 0),
  (7, .aload_n 0, 1, 6, 0, 0, 0, 0),
  (8, .getfield 11, 3, 42, 0, 0, 0, 83),
  (11, .iload_n 1, 1, 4, 1, 0, 0, 0),
  (12, .bipush 60, 2, 1, 0, 0, 60, 0),
  (14, .idiv, 1, 14, 0, 0, 0, 0),
  (15, .dup2, 1, 35, 0, 0, 0, 0),
  (16, .laload, 1, 46, 0, 0, 0, 0),
  (17, .lconst 1, 1, 2, 0, 0, 1, 0),
  (18, .iload_n 1, 1, 4, 1, 0, 0, 0),
  (19, .bipush 60, 2, 1, 0, 0, 60, 0),
  (21, .irem, 1, 15, 0, 0, 0, 0),
  (22, .lshl, 1, 28, 0, 0, 0, 0),
  (23, .lor, 1, 26, 0, 0, 0, 0),
  (24, .lastore, 1, 50, 0, 0, 0, 0),
  (25, .return_, 1, 66, 0, 0, 0, 0)]
def vC_2 : List vent := vC_2_0
def vC_3_0 : List vent := [(0, .iload_n 1, 1, 4, 1, 0, 0, 0),
  (1, .invokestatic 15, 3, 82, 88, 0, 0, 302),
  (4, .ifCond .eq 25, 3, 70, 29, 0, 0, 0),
  (7, .aload_n 0, 1, 6, 0, 0, 0, 0),
  (8, .getfield 11, 3, 42, 0, 0, 0, 83),
  (11, .iload_n 1, 1, 4, 1, 0, 0, 0),
  (12, .bipush 60, 2, 1, 0, 0, 60, 0),
  (14, .idiv, 1, 14, 0, 0, 0, 0),
  (15, .dup2, 1, 35, 0, 0, 0, 0),
  (16, .laload, 1, 46, 0, 0, 0, 0),
  (17, .lconst 1, 1, 2, 0, 0, 1, 0),
  (18, .iload_n 1, 1, 4, 1, 0, 0, 0),
  (19, .bipush 60, 2, 1, 0, 0, 60, 0),
  (21, .irem, 1, 15, 0, 0, 0, 0),
  (22, .lshl, 1, 28, 0, 0, 0, 0),
  (23, .ldc2_w 19, 3, 2, 0, 0, (-1), 361),
  (26, .lxor, 1, 27, 0, 0, 0, 0),
  (27, .land, 1, 25, 0, 0, 0, 0),
  (28, .lastore, 1, 50, 0, 0, 0, 0),
  (29, .return_, 1, 66, 0, 0, 0, 0)]
def vC_3 : List vent := vC_3_0
def vC_4_0 : List vent := [(0, .iconst 0, 1, 1, 0, 0, 0, 0),
  (1, .istore_n 1, 1, 7, 1, 0, 0, 0),
  (2, .iload_n 1, 1, 4, 1, 0, 0, 0),
  (3, .bipush 12, 2, 1, 0, 0, 12, 0),
  (5, .if_icmp .ge 16, 3, 79, 21, 0, 0, 0),
  (8, .aload_n 0, 1, 6, 0, 0, 0, 0),
  (9, .getfield 11, 3, 42, 0, 0, 0, 83),
  (12, .iload_n 1, 1, 4, 1, 0, 0, 0),
  (13, .lconst 0, 1, 2, 0, 0, 0, 0),
  (14, .lastore, 1, 50, 0, 0, 0, 0),
  (15, .iinc 1 1, 3, 10, 1, 0, 1, 0),
  (18, .goto (-16), 3, 37, 2, 0, 0, 0),
  (21, .return_, 1, 66, 0, 0, 0, 0)]
def vC_4 : List vent := vC_4_0
def vC_5_0 : List vent := [(0, .iconst 0, 1, 1, 0, 0, 0, 0),
  (1, .istore_n 2, 1, 7, 2, 0, 0, 0),
  (2, .iload_n 2, 1, 4, 2, 0, 0, 0),
  (3, .bipush 12, 2, 1, 0, 0, 12, 0),
  (5, .if_icmp .ge 21, 3, 79, 26, 0, 0, 0),
  (8, .aload_n 0, 1, 6, 0, 0, 0, 0),
  (9, .getfield 11, 3, 42, 0, 0, 0, 83),
  (12, .iload_n 2, 1, 4, 2, 0, 0, 0),
  (13, .aload_n 1, 1, 6, 1, 0, 0, 0),
  (14, .getfield 11, 3, 42, 0, 0, 0, 83),
  (17, .iload_n 2, 1, 4, 2, 0, 0, 0),
  (18, .laload, 1, 46, 0, 0, 0, 0),
  (19, .lastore, 1, 50, 0, 0, 0, 0),
  (20, .iinc 2 1, 3, 10, 2, 0, 1, 0),
  (23, .goto (-21), 3, 37, 2, 0, 0, 0),
  (26, .return_, 1, 66, 0, 0, 0, 0)]
def vC_5 : List vent := vC_5_0
def vC_6_0 : List vent := [(0, .iconst 0, 1, 1, 0, 0, 0, 0),
  (1, .istore_n 2, 1, 7, 2, 0, 0, 0),
  (2, .iload_n 2, 1, 4, 2, 0, 0, 0),
  (3, .bipush 12, 2, 1, 0, 0, 12, 0),
  (5, .if_icmp .ge 24, 3, 79, 29, 0, 0, 0),
  (8, .aload_n 0, 1, 6, 0, 0, 0, 0),
  (9, .getfield 11, 3, 42, 0, 0, 0, 83),
  (12, .iload_n 2, 1, 4, 2, 0, 0, 0),
  (13, .dup2, 1, 35, 0, 0, 0, 0),
  (14, .laload, 1, 46, 0, 0, 0, 0),
  (15, .aload_n 1, 1, 6, 1, 0, 0, 0),
  (16, .getfield 11, 3, 42, 0, 0, 0, 83),
  (19, .iload_n 2, 1, 4, 2, 0, 0, 0),
  (20, .laload, 1, 46, 0, 0, 0, 0),
  (21, .lor, 1, 26, 0, 0, 0, 0),
  (22, .lastore, 1, 50, 0, 0, 0, 0),
  (23, .iinc 2 1, 3, 10, 2, 0, 1, 0),
  (26, .goto (-24), 3, 37, 2, 0, 0, 0),
  (29, .return_, 1, 66, 0, 0, 0, 0)]
def vC_6 : List vent := vC_6_0
def vC_7_0 : List vent := [(0, .iconst 0, 1, 1, 0, 0, 0, 0),
  (1, .istore_n 2, 1, 7, 2, 0, 0, 0),
  (2, .iload_n 2, 1, 4, 2, 0, 0, 0),
  (3, .bipush 12, 2, 1, 0, 0, 12, 0),
  (5, .if_icmp .ge 28, 3, 79, 33, 0, 0, 0),
  (8, .aload_n 0, 1, 6, 0, 0, 0, 0),
  (9, .getfield 11, 3, 42, 0, 0, 0, 83),
  (12, .iload_n 2, 1, 4, 2, 0, 0, 0),
  (13, .dup2, 1, 35, 0, 0, 0, 0),
  (14, .laload, 1, 46, 0, 0, 0, 0),
  (15, .aload_n 1, 1, 6, 1, 0, 0, 0),
  (16, .getfield 11, 3, 42, 0, 0, 0, 83),
  (19, .iload_n 2, 1, 4, 2, 0, 0, 0),
  (20, .laload, 1, 46, 0, 0, 0, 0),
  (21, .ldc2_w 19, 3, 2, 0, 0, (-1), 361),
  (24, .lxor, 1, 27, 0, 0, 0, 0),
  (25, .land, 1, 25, 0, 0, 0, 0),
  (26, .lastore, 1, 50, 0, 0, 0, 0),
  (27, .iinc 2 1, 3, 10, 2, 0, 1, 0),
  (30, .goto (-28), 3, 37, 2, 0, 0, 0),
  (33, .return_, 1, 66, 0, 0, 0, 0)]
def vC_7 : List vent := vC_7_0
def vC_8_0 : List vent := [(0, .iconst 0, 1, 1, 0, 0, 0, 0),
  (1, .istore_n 2, 1, 7, 2, 0, 0, 0),
  (2, .iload_n 2, 1, 4, 2, 0, 0, 0),
  (3, .bipush 12, 2, 1, 0, 0, 12, 0),
  (5, .if_icmp .ge 24, 3, 79, 29, 0, 0, 0),
  (8, .aload_n 0, 1, 6, 0, 0, 0, 0),
  (9, .getfield 11, 3, 42, 0, 0, 0, 83),
  (12, .iload_n 2, 1, 4, 2, 0, 0, 0),
  (13, .dup2, 1, 35, 0, 0, 0, 0),
  (14, .laload, 1, 46, 0, 0, 0, 0),
  (15, .aload_n 1, 1, 6, 1, 0, 0, 0),
  (16, .getfield 11, 3, 42, 0, 0, 0, 83),
  (19, .iload_n 2, 1, 4, 2, 0, 0, 0),
  (20, .laload, 1, 46, 0, 0, 0, 0),
  (21, .land, 1, 25, 0, 0, 0, 0),
  (22, .lastore, 1, 50, 0, 0, 0, 0),
  (23, .iinc 2 1, 3, 10, 2, 0, 1, 0),
  (26, .goto (-24), 3, 37, 2, 0, 0, 0),
  (29, .return_, 1, 66, 0, 0, 0, 0)]
def vC_8 : List vent := vC_8_0
def vC_9_0 : List vent := [(0, .iconst 0, 1, 1, 0, 0, 0, 0),
  (1, .istore_n 1, 1, 7, 1, 0, 0, 0),
  (2, .iload_n 1, 1, 4, 1, 0, 0, 0),
  (3, .bipush 12, 2, 1, 0, 0, 12, 0),
  (5, .if_icmp .ge 21, 3, 79, 26, 0, 0, 0),
  (8, .aload_n 0, 1, 6, 0, 0, 0, 0),
  (9, .getfield 11, 3, 42, 0, 0, 0, 83),
  (12, .iload_n 1, 1, 4, 1, 0, 0, 0),
  (13, .dup2, 1, 35, 0, 0, 0, 0),
  (14, .laload, 1, 46, 0, 0, 0, 0),
  (15, .ldc2_w 21, 3, 2, 0, 0, 1152921504606846975, 251),
  (18, .lxor, 1, 27, 0, 0, 0, 0),
  (19, .lastore, 1, 50, 0, 0, 0, 0),
  (20, .iinc 1 1, 3, 10, 1, 0, 1, 0),
  (23, .goto (-21), 3, 37, 2, 0, 0, 0),
  (26, .return_, 1, 66, 0, 0, 0, 0)]
def vC_9 : List vent := vC_9_0
def vC_10_0 : List vent := [(0, .iconst 0, 1, 1, 0, 0, 0, 0),
  (1, .istore_n 1, 1, 7, 1, 0, 0, 0),
  (2, .iconst 0, 1, 1, 0, 0, 0, 0),
  (3, .istore_n 2, 1, 7, 2, 0, 0, 0),
  (4, .iload_n 2, 1, 4, 2, 0, 0, 0),
  (5, .bipush 12, 2, 1, 0, 0, 12, 0),
  (7, .if_icmp .ge 21, 3, 79, 28, 0, 0, 0),
  (10, .iload_n 1, 1, 4, 1, 0, 0, 0),
  (11, .aload_n 0, 1, 6, 0, 0, 0, 0),
  (12, .getfield 11, 3, 42, 0, 0, 0, 83),
  (15, .iload_n 2, 1, 4, 2, 0, 0, 0),
  (16, .laload, 1, 46, 0, 0, 0, 0),
  (17, .invokestatic 23, 3, 59, 170, 0, 0, 393),
  (20, .iadd, 1, 11, 0, 0, 0, 0),
  (21, .istore_n 1, 1, 7, 1, 0, 0, 0),
  (22, .iinc 2 1, 3, 10, 2, 0, 1, 0),
  (25, .goto (-21), 3, 37, 4, 0, 0, 0),
  (28, .iload_n 1, 1, 4, 1, 0, 0, 0),
  (29, .ireturn, 1, 63, 0, 0, 0, 0)]
def vC_10 : List vent := vC_10_0
def vC_11_0 : List vent := [(0, .iconst 0, 1, 1, 0, 0, 0, 0),
  (1, .istore_n 3, 1, 7, 3, 0, 0, 0),
  (2, .iload_n 1, 1, 4, 1, 0, 0, 0),
  (3, .istore 4, 2, 7, 4, 0, 0, 0),
  (5, .iload 4, 2, 4, 4, 0, 0, 0),
  (7, .iload_n 2, 1, 4, 2, 0, 0, 0),
  (8, .if_icmp .gt 29, 3, 80, 37, 0, 0, 0),
  (11, .iload 4, 2, 4, 4, 0, 0, 0),
  (13, .sipush 720, 3, 1, 0, 0, 720, 0),
  (16, .if_icmp .ge 21, 3, 79, 37, 0, 0, 0),
  (19, .aload_n 0, 1, 6, 0, 0, 0, 0),
  (20, .iload 4, 2, 4, 4, 0, 0, 0),
  (22, .invokevirtual 29, 3, 58, 1, 0, 0, 340),
  (25, .ifCond .eq 6, 3, 70, 31, 0, 0, 0),
  (28, .iinc 3 1, 3, 10, 3, 0, 1, 0),
  (31, .iinc 4 1, 3, 10, 4, 0, 1, 0),
  (34, .goto (-29), 3, 37, 5, 0, 0, 0),
  (37, .iload_n 3, 1, 4, 3, 0, 0, 0),
  (38, .ireturn, 1, 63, 0, 0, 0, 0)]
def vC_11 : List vent := vC_11_0
def vC_12_0 : List vent := [(0, .iload_n 3, 1, 4, 3, 0, 0, 0),
  (1, .istore 4, 2, 7, 4, 0, 0, 0),
  (3, .iload_n 3, 1, 4, 3, 0, 0, 0),
  (4, .ifCond .lt 49, 3, 72, 53, 0, 0, 0),
  (7, .iload_n 1, 1, 4, 1, 0, 0, 0),
  (8, .istore 5, 2, 7, 5, 0, 0, 0),
  (10, .iload 5, 2, 4, 5, 0, 0, 0),
  (12, .iload_n 2, 1, 4, 2, 0, 0, 0),
  (13, .if_icmp .gt 37, 3, 80, 50, 0, 0, 0),
  (16, .iload 5, 2, 4, 5, 0, 0, 0),
  (18, .sipush 720, 3, 1, 0, 0, 720, 0),
  (21, .if_icmp .ge 29, 3, 79, 50, 0, 0, 0),
  (24, .aload_n 0, 1, 6, 0, 0, 0, 0),
  (25, .iload 5, 2, 4, 5, 0, 0, 0),
  (27, .invokevirtual 29, 3, 58, 1, 0, 0, 340),
  (30, .ifCond .eq 14, 3, 70, 44, 0, 0, 0),
  (33, .iload 4, 2, 4, 4, 0, 0, 0),
  (35, .iinc 4 (-1), 3, 10, 4, 0, (-1), 0),
  (38, .ifCond .ne 6, 3, 71, 44, 0, 0, 0),
  (41, .iload 5, 2, 4, 5, 0, 0, 0),
  (43, .ireturn, 1, 63, 0, 0, 0, 0),
  (44, .iinc 5 1, 3, 10, 5, 0, 1, 0),
  (47, .goto (-37), 3, 37, 10, 0, 0, 0),
  (50, .bipush (-5), 2, 1, 0, 0, (-5), 0),
  (52, .ireturn, 1, 63, 0, 0, 0, 0),
  (53, .iload_n 2, 1, 4, 2, 0, 0, 0),
  (54, .istore 5, 2, 7, 5, 0, 0, 0),
  (56, .iload 5, 2, 4, 5, 0, 0, 0),
  (58, .iload_n 1, 1, 4, 1, 0, 0, 0),
  (59, .if_icmp .lt 34, 3, 78, 93, 0, 0, 0),
  (62, .iload 5, 2, 4, 5, 0, 0, 0),
  (64, .ifCond .lt 29, 3, 72, 93, 0, 0, 0),
  (67, .aload_n 0, 1, 6, 0, 0, 0, 0),
  (68, .iload 5, 2, 4, 5, 0, 0, 0),
  (70, .invokevirtual 29, 3, 58, 1, 0, 0, 340),
  (73, .ifCond .eq 14, 3, 70, 87, 0, 0, 0),
  (76, .iinc 4 1, 3, 10, 4, 0, 1, 0),
  (79, .iload 4, 2, 4, 4, 0, 0, 0),
  (81, .ifCond .ne 6, 3, 71, 87, 0, 0, 0),
  (84, .iload 5, 2, 4, 5, 0, 0, 0),
  (86, .ireturn, 1, 63, 0, 0, 0, 0),
  (87, .iinc 5 (-1), 3, 10, 5, 0, (-1), 0),
  (90, .goto (-34), 3, 37, 56, 0, 0, 0),
  (93, .bipush (-5), 2, 1, 0, 0, (-5), 0),
  (95, .ireturn, 1, 63, 0, 0, 0, 0)]
def vC_12 : List vent := vC_12_0
def vC_13_0 : List vent := [(0, .iload_n 1, 1, 4, 1, 0, 0, 0),
  (1, .istore_n 3, 1, 7, 3, 0, 0, 0),
  (2, .iload_n 3, 1, 4, 3, 0, 0, 0),
  (3, .iload_n 2, 1, 4, 2, 0, 0, 0),
  (4, .if_icmp .gt 21, 3, 80, 25, 0, 0, 0),
  (7, .iload_n 3, 1, 4, 3, 0, 0, 0),
  (8, .sipush 720, 3, 1, 0, 0, 720, 0),
  (11, .if_icmp .ge 14, 3, 79, 25, 0, 0, 0),
  (14, .aload_n 0, 1, 6, 0, 0, 0, 0),
  (15, .iload_n 3, 1, 4, 3, 0, 0, 0),
  (16, .invokevirtual 32, 3, 58, 2, 0, 0, 298),
  (19, .iinc 3 1, 3, 10, 3, 0, 1, 0),
  (22, .goto (-20), 3, 37, 2, 0, 0, 0),
  (25, .return_, 1, 66, 0, 0, 0, 0)]
def vC_13 : List vent := vC_13_0
def vC_14_0 : List vent := [(0, .iload_n 2, 1, 4, 2, 0, 0, 0),
  (1, .istore_n 3, 1, 7, 3, 0, 0, 0),
  (2, .iload_n 3, 1, 4, 3, 0, 0, 0),
  (3, .sipush 720, 3, 1, 0, 0, 720, 0),
  (6, .if_icmp .ge 19, 3, 79, 25, 0, 0, 0),
  (9, .iload_n 1, 1, 4, 1, 0, 0, 0),
  (10, .ifCond .le 15, 3, 75, 25, 0, 0, 0),
  (13, .aload_n 0, 1, 6, 0, 0, 0, 0),
  (14, .iload_n 3, 1, 4, 3, 0, 0, 0),
  (15, .invokevirtual 32, 3, 58, 2, 0, 0, 298),
  (18, .iload_n 3, 1, 4, 3, 0, 0, 0),
  (19, .iload_n 1, 1, 4, 1, 0, 0, 0),
  (20, .iadd, 1, 11, 0, 0, 0, 0),
  (21, .istore_n 3, 1, 7, 3, 0, 0, 0),
  (22, .goto (-20), 3, 37, 2, 0, 0, 0),
  (25, .return_, 1, 66, 0, 0, 0, 0)]
def vC_14 : List vent := vC_14_0
def vC_15_0 : List vent := [(0, .iconst 0, 1, 1, 0, 0, 0, 0),
  (1, .istore_n 3, 1, 7, 3, 0, 0, 0),
  (2, .iload_n 3, 1, 4, 3, 0, 0, 0),
  (3, .sipush 720, 3, 1, 0, 0, 720, 0),
  (6, .if_icmp .ge 24, 3, 79, 30, 0, 0, 0),
  (9, .aload_n 1, 1, 6, 1, 0, 0, 0),
  (10, .iload_n 3, 1, 4, 3, 0, 0, 0),
  (11, .invokevirtual 29, 3, 58, 1, 0, 0, 340),
  (14, .ifCond .eq 10, 3, 70, 24, 0, 0, 0),
  (17, .aload_n 0, 1, 6, 0, 0, 0, 0),
  (18, .iload_n 3, 1, 4, 3, 0, 0, 0),
  (19, .iload_n 2, 1, 4, 2, 0, 0, 0),
  (20, .iadd, 1, 11, 0, 0, 0, 0),
  (21, .invokevirtual 32, 3, 58, 2, 0, 0, 298),
  (24, .iinc 3 1, 3, 10, 3, 0, 1, 0),
  (27, .goto (-25), 3, 37, 2, 0, 0, 0),
  (30, .return_, 1, 66, 0, 0, 0, 0)]
def vC_15 : List vent := vC_15_0
def vC_16_0 : List vent := [(0, .iload_n 2, 1, 4, 2, 0, 0, 0),
  (1, .istore_n 3, 1, 7, 3, 0, 0, 0),
  (2, .iconst 0, 1, 1, 0, 0, 0, 0),
  (3, .istore 4, 2, 7, 4, 0, 0, 0),
  (5, .iload 4, 2, 4, 4, 0, 0, 0),
  (7, .sipush 720, 3, 1, 0, 0, 720, 0),
  (10, .if_icmp .ge 33, 3, 79, 43, 0, 0, 0),
  (13, .aload_n 1, 1, 6, 1, 0, 0, 0),
  (14, .iload 4, 2, 4, 4, 0, 0, 0),
  (16, .invokevirtual 29, 3, 58, 1, 0, 0, 340),
  (19, .ifCond .eq 18, 3, 70, 37, 0, 0, 0),
  (22, .iinc 3 (-1), 3, 10, 3, 0, (-1), 0),
  (25, .iload_n 3, 1, 4, 3, 0, 0, 0),
  (26, .ifCond .ne 11, 3, 71, 37, 0, 0, 0),
  (29, .aload_n 0, 1, 6, 0, 0, 0, 0),
  (30, .iload 4, 2, 4, 4, 0, 0, 0),
  (32, .invokevirtual 32, 3, 58, 2, 0, 0, 298),
  (35, .iload_n 2, 1, 4, 2, 0, 0, 0),
  (36, .istore_n 3, 1, 7, 3, 0, 0, 0),
  (37, .iinc 4 1, 3, 10, 4, 0, 1, 0),
  (40, .goto (-35), 3, 37, 5, 0, 0, 0),
  (43, .return_, 1, 66, 0, 0, 0, 0)]
def vC_16 : List vent := vC_16_0
def vC_17_0 : List vent := [(0, .iconst 0, 1, 1, 0, 0, 0, 0),
  (1, .istore 4, 2, 7, 4, 0, 0, 0),
  (3, .iload 4, 2, 4, 4, 0, 0, 0),
  (5, .sipush 720, 3, 1, 0, 0, 720, 0),
  (8, .if_icmp .ge 33, 3, 79, 41, 0, 0, 0),
  (11, .iload_n 2, 1, 4, 2, 0, 0, 0),
  (12, .ifCond .le 29, 3, 75, 41, 0, 0, 0),
  (15, .aload_n 0, 1, 6, 0, 0, 0, 0),
  (16, .aload_n 1, 1, 6, 1, 0, 0, 0),
  (17, .iload 4, 2, 4, 4, 0, 0, 0),
  (19, .iload 4, 2, 4, 4, 0, 0, 0),
  (21, .iload_n 2, 1, 4, 2, 0, 0, 0),
  (22, .invokestatic 36, 3, 82, 93, 0, 0, 330),
  (25, .iload_n 3, 1, 4, 3, 0, 0, 0),
  (26, .invokevirtual 40, 3, 58, 12, 0, 0, 336),
  (29, .invokevirtual 32, 3, 58, 2, 0, 0, 298),
  (32, .iload 4, 2, 4, 4, 0, 0, 0),
  (34, .iload_n 2, 1, 4, 2, 0, 0, 0),
  (35, .iadd, 1, 11, 0, 0, 0, 0),
  (36, .istore 4, 2, 7, 4, 0, 0, 0),
  (38, .goto (-35), 3, 37, 3, 0, 0, 0),
  (41, .return_, 1, 66, 0, 0, 0, 0)]
def vC_17 : List vent := vC_17_0
def vC_18_0 : List vent := [(0, .iload_n 1, 1, 4, 1, 0, 0, 0),
  (1, .invokestatic 15, 3, 82, 88, 0, 0, 302),
  (4, .ifCond .ne 5, 3, 71, 9, 0, 0, 0),
  (7, .lconst 0, 1, 2, 0, 0, 0, 0),
  (8, .lreturn, 1, 64, 0, 0, 0, 0),
  (9, .iload_n 1, 1, 4, 1, 0, 0, 0),
  (10, .bipush 60, 2, 1, 0, 0, 60, 0),
  (12, .idiv, 1, 14, 0, 0, 0, 0),
  (13, .istore_n 2, 1, 7, 2, 0, 0, 0),
  (14, .iload_n 1, 1, 4, 1, 0, 0, 0),
  (15, .bipush 60, 2, 1, 0, 0, 60, 0),
  (17, .irem, 1, 15, 0, 0, 0, 0),
  (18, .istore_n 3, 1, 7, 3, 0, 0, 0),
  (19, .aload_n 0, 1, 6, 0, 0, 0, 0),
  (20, .getfield 11, 3, 42, 0, 0, 0, 83),
  (23, .iload_n 2, 1, 4, 2, 0, 0, 0),
  (24, .laload, 1, 46, 0, 0, 0, 0),
  (25, .iload_n 3, 1, 4, 3, 0, 0, 0),
  (26, .lshr, 1, 29, 0, 0, 0, 0),
  (27, .lstore 4, 2, 8, 4, 0, 0, 0),
  (29, .iload_n 2, 1, 4, 2, 0, 0, 0),
  (30, .iconst 1, 1, 1, 0, 0, 1, 0),
  (31, .iadd, 1, 11, 0, 0, 0, 0),
  (32, .bipush 12, 2, 1, 0, 0, 12, 0),
  (34, .if_icmp .ge 19, 3, 79, 53, 0, 0, 0),
  (37, .aload_n 0, 1, 6, 0, 0, 0, 0),
  (38, .getfield 11, 3, 42, 0, 0, 0, 83),
  (41, .iload_n 2, 1, 4, 2, 0, 0, 0),
  (42, .iconst 1, 1, 1, 0, 0, 1, 0),
  (43, .iadd, 1, 11, 0, 0, 0, 0),
  (44, .laload, 1, 46, 0, 0, 0, 0),
  (45, .bipush 60, 2, 1, 0, 0, 60, 0),
  (47, .iload_n 3, 1, 4, 3, 0, 0, 0),
  (48, .isub, 1, 12, 0, 0, 0, 0),
  (49, .lshl, 1, 28, 0, 0, 0, 0),
  (50, .goto 4, 3, 37, 54, 0, 0, 0),
  (53, .lconst 0, 1, 2, 0, 0, 0, 0),
  (54, .lstore 6, 2, 8, 6, 0, 0, 0),
  (56, .lload 4, 2, 5, 4, 0, 0, 0),
  (58, .lload 6, 2, 5, 6, 0, 0, 0),
  (60, .lor, 1, 26, 0, 0, 0, 0),
  (61, .ldc2_w 21, 3, 2, 0, 0, 1152921504606846975, 251),
  (64, .land, 1, 25, 0, 0, 0, 0),
  (65, .lreturn, 1, 64, 0, 0, 0, 0)]
def vC_18 : List vent := vC_18_0
def vC_19_0 : List vent := [(0, .sipush 720, 3, 1, 0, 0, 720, 0),
  (3, .iload_n 1, 1, 4, 1, 0, 0, 0),
  (4, .isub, 1, 12, 0, 0, 0, 0),
  (5, .istore_n 2, 1, 7, 2, 0, 0, 0),
  (6, .iconst 0, 1, 1, 0, 0, 0, 0),
  (7, .istore_n 3, 1, 7, 3, 0, 0, 0),
  (8, .iload_n 3, 1, 4, 3, 0, 0, 0),
  (9, .bipush 12, 2, 1, 0, 0, 12, 0),
  (11, .if_icmp .ge 63, 3, 79, 74, 0, 0, 0),
  (14, .iload_n 3, 1, 4, 3, 0, 0, 0),
  (15, .bipush 60, 2, 1, 0, 0, 60, 0),
  (17, .imul, 1, 13, 0, 0, 0, 0),
  (18, .istore 4, 2, 7, 4, 0, 0, 0),
  (20, .iconst 0, 1, 1, 0, 0, 0, 0),
  (21, .bipush 60, 2, 1, 0, 0, 60, 0),
  (23, .iload_n 2, 1, 4, 2, 0, 0, 0),
  (24, .iload 4, 2, 4, 4, 0, 0, 0),
  (26, .isub, 1, 12, 0, 0, 0, 0),
  (27, .invokestatic 44, 3, 85, 0, 0, 0, 488),
  (30, .invokestatic 49, 3, 84, 0, 0, 0, 489),
  (33, .istore 5, 2, 7, 5, 0, 0, 0),
  (35, .lconst 1, 1, 2, 0, 0, 1, 0),
  (36, .iload 5, 2, 4, 5, 0, 0, 0),
  (38, .lshl, 1, 28, 0, 0, 0, 0),
  (39, .lconst 1, 1, 2, 0, 0, 1, 0),
  (40, .lsub, 1, 23, 0, 0, 0, 0),
  (41, .lstore 6, 2, 8, 6, 0, 0, 0),
  (43, .aload_n 0, 1, 6, 0, 0, 0, 0),
  (44, .getfield 11, 3, 42, 0, 0, 0, 83),
  (47, .iload_n 3, 1, 4, 3, 0, 0, 0),
  (48, .laload, 1, 46, 0, 0, 0, 0),
  (49, .aload_n 0, 1, 6, 0, 0, 0, 0),
  (50, .iload 4, 2, 4, 4, 0, 0, 0),
  (52, .iload_n 1, 1, 4, 1, 0, 0, 0),
  (53, .iadd, 1, 11, 0, 0, 0, 0),
  (54, .invokevirtual 52, 3, 58, 18, 0, 0, 490),
  (57, .lxor, 1, 27, 0, 0, 0, 0),
  (58, .lload 6, 2, 5, 6, 0, 0, 0),
  (60, .land, 1, 25, 0, 0, 0, 0),
  (61, .lconst 0, 1, 2, 0, 0, 0, 0),
  (62, .lcmp, 1, 31, 0, 0, 0, 0),
  (63, .ifCond .eq 5, 3, 70, 68, 0, 0, 0),
  (66, .iconst 0, 1, 1, 0, 0, 0, 0),
  (67, .ireturn, 1, 63, 1, 0, 0, 0),
  (68, .iinc 3 1, 3, 10, 3, 0, 1, 0),
  (71, .goto (-63), 3, 37, 8, 0, 0, 0),
  (74, .iconst 1, 1, 1, 0, 0, 1, 0),
  (75, .ireturn, 1, 63, 1, 0, 0, 0)]
def vC_19 : List vent := vC_19_0
def vC_20_0 : List vent := [(0, .aload_n 0, 1, 6, 0, 0, 0, 0),
  (1, .invokespecial 1, 3, 61, 0, 0, 0, 115),
  (4, .aload_n 0, 1, 6, 0, 0, 0, 0),
  (5, .bipush 6, 2, 1, 0, 0, 6, 0),
  (7, .iconst 4, 1, 1, 0, 0, 4, 0),
  (8, .multianewarray 9 2, 4, 57, 0, 0, 0, 116),
  (12, .putfield 11, 3, 68, 1, 0, 0, 118),
  (15, .return_, 1, 66, 0, 0, 0, 0)]
def vC_20 : List vent := vC_20_0
def vC_21_0 : List vent := [(0, .aload_n 0, 1, 6, 0, 0, 0, 0),
  (1, .iload_n 1, 1, 4, 1, 0, 0, 0),
  (2, .iload_n 2, 1, 4, 2, 0, 0, 0),
  (3, .iload_n 3, 1, 4, 3, 0, 0, 0),
  (4, .invokevirtual 14, 3, 58, 22, 0, 0, 461),
  (7, .istore 5, 2, 7, 5, 0, 0, 0),
  (9, .iload 5, 2, 4, 5, 0, 0, 0),
  (11, .aload_n 0, 1, 6, 0, 0, 0, 0),
  (12, .getfield 18, 3, 42, 1, 1, 0, 120),
  (15, .if_icmp .ge 16, 3, 79, 31, 0, 0, 0),
  (18, .aload_n 0, 1, 6, 0, 0, 0, 0),
  (19, .dup, 1, 34, 0, 0, 0, 0),
  (20, .getfield 22, 3, 42, 1, 2, 0, 122),
  (23, .iconst 1, 1, 1, 0, 0, 1, 0),
  (24, .iadd, 1, 11, 0, 0, 0, 0),
  (25, .putfield 22, 3, 43, 1, 2, 0, 122),
  (28, .goto 47, 3, 37, 75, 0, 0, 0),
  (31, .aload_n 0, 1, 6, 0, 0, 0, 0),
  (32, .dup, 1, 34, 0, 0, 0, 0),
  (33, .getfield 25, 3, 42, 1, 3, 0, 124),
  (36, .iconst 1, 1, 1, 0, 0, 1, 0),
  (37, .iadd, 1, 11, 0, 0, 0, 0),
  (38, .putfield 25, 3, 43, 1, 3, 0, 124),
  (41, .aload_n 0, 1, 6, 0, 0, 0, 0),
  (42, .getfield 18, 3, 42, 1, 1, 0, 120),
  (45, .bipush 6, 2, 1, 0, 0, 6, 0),
  (47, .if_icmp .ge 16, 3, 79, 63, 0, 0, 0),
  (50, .aload_n 0, 1, 6, 0, 0, 0, 0),
  (51, .dup, 1, 34, 0, 0, 0, 0),
  (52, .getfield 18, 3, 42, 1, 1, 0, 120),
  (55, .iconst 1, 1, 1, 0, 0, 1, 0),
  (56, .iadd, 1, 11, 0, 0, 0, 0),
  (57, .putfield 18, 3, 43, 1, 1, 0, 120),
  (60, .goto 6, 3, 37, 66, 0, 0, 0),
  (63, .iconst 0, 1, 1, 0, 0, 0, 0),
  (64, .istore 5, 2, 7, 5, 0, 0, 0),
  (66, .aload_n 0, 1, 6, 0, 0, 0, 0),
  (67, .iload 5, 2, 4, 5, 0, 0, 0),
  (69, .iload_n 1, 1, 4, 1, 0, 0, 0),
  (70, .iload_n 2, 1, 4, 2, 0, 0, 0),
  (71, .iload_n 3, 1, 4, 3, 0, 0, 0),
  (72, .invokevirtual 28, 3, 58, 23, 0, 0, 465),
  (75, .aload_n 0, 1, 6, 0, 0, 0, 0),
  (76, .getfield 11, 3, 42, 1, 0, 0, 118),
  (79, .iload 5, 2, 4, 5, 0, 0, 0),
  (81, .aaload, 1, 48, 0, 0, 0, 0),
  (82, .iconst 3, 1, 1, 0, 0, 3, 0),
  (83, .iload 4, 2, 4, 4, 0, 0, 0),
  (85, .iastore, 1, 49, 0, 0, 0, 0),
  (86, .aload_n 0, 1, 6, 0, 0, 0, 0),
  (87, .iload 5, 2, 4, 5, 0, 0, 0),
  (89, .invokevirtual 32, 3, 58, 24, 0, 0, 469),
  (92, .return_, 1, 66, 0, 0, 0, 0)]
def vC_21 : List vent := vC_21_0
def vC_22_0 : List vent := [(0, .iconst 0, 1, 1, 0, 0, 0, 0),
  (1, .istore 4, 2, 7, 4, 0, 0, 0),
  (3, .iload 4, 2, 4, 4, 0, 0, 0),
  (5, .aload_n 0, 1, 6, 0, 0, 0, 0),
  (6, .getfield 18, 3, 42, 1, 1, 0, 120),
  (9, .if_icmp .ge 45, 3, 79, 54, 0, 0, 0),
  (12, .aload_n 0, 1, 6, 0, 0, 0, 0),
  (13, .getfield 11, 3, 42, 1, 0, 0, 118),
  (16, .iload 4, 2, 4, 4, 0, 0, 0),
  (18, .aaload, 1, 48, 0, 0, 0, 0),
  (19, .astore 5, 2, 9, 5, 0, 0, 0),
  (21, .aload 5, 2, 6, 5, 0, 0, 0),
  (23, .iconst 0, 1, 1, 0, 0, 0, 0),
  (24, .iaload, 1, 45, 0, 0, 0, 0),
  (25, .iload_n 1, 1, 4, 1, 0, 0, 0),
  (26, .if_icmp .ne 22, 3, 77, 48, 0, 0, 0),
  (29, .aload 5, 2, 6, 5, 0, 0, 0),
  (31, .iconst 1, 1, 1, 0, 0, 1, 0),
  (32, .iaload, 1, 45, 0, 0, 0, 0),
  (33, .iload_n 2, 1, 4, 2, 0, 0, 0),
  (34, .if_icmp .ne 14, 3, 77, 48, 0, 0, 0),
  (37, .aload 5, 2, 6, 5, 0, 0, 0),
  (39, .iconst 2, 1, 1, 0, 0, 2, 0),
  (40, .iaload, 1, 45, 0, 0, 0, 0),
  (41, .iload_n 3, 1, 4, 3, 0, 0, 0),
  (42, .if_icmp .ne 6, 3, 77, 48, 0, 0, 0),
  (45, .iload 4, 2, 4, 4, 0, 0, 0),
  (47, .ireturn, 1, 63, 0, 0, 0, 0),
  (48, .iinc 4 1, 3, 10, 4, 0, 1, 0),
  (51, .goto (-48), 3, 37, 3, 0, 0, 0),
  (54, .aload_n 0, 1, 6, 0, 0, 0, 0),
  (55, .getfield 18, 3, 42, 1, 1, 0, 120),
  (58, .ireturn, 1, 63, 0, 0, 0, 0)]
def vC_22 : List vent := vC_22_0
def vC_23_0 : List vent := [(0, .aload_n 0, 1, 6, 0, 0, 0, 0),
  (1, .getfield 11, 3, 42, 1, 0, 0, 118),
  (4, .iload_n 1, 1, 4, 1, 0, 0, 0),
  (5, .aaload, 1, 48, 0, 0, 0, 0),
  (6, .astore 5, 2, 9, 5, 0, 0, 0),
  (8, .aload 5, 2, 6, 5, 0, 0, 0),
  (10, .iconst 0, 1, 1, 0, 0, 0, 0),
  (11, .iload_n 2, 1, 4, 2, 0, 0, 0),
  (12, .iastore, 1, 49, 0, 0, 0, 0),
  (13, .aload 5, 2, 6, 5, 0, 0, 0),
  (15, .iconst 1, 1, 1, 0, 0, 1, 0),
  (16, .iload_n 3, 1, 4, 3, 0, 0, 0),
  (17, .iastore, 1, 49, 0, 0, 0, 0),
  (18, .aload 5, 2, 6, 5, 0, 0, 0),
  (20, .iconst 2, 1, 1, 0, 0, 2, 0),
  (21, .iload 4, 2, 4, 4, 0, 0, 0),
  (23, .iastore, 1, 49, 0, 0, 0, 0),
  (24, .return_, 1, 66, 0, 0, 0, 0)]
def vC_23 : List vent := vC_23_0
def vC_24_0 : List vent := [(0, .aload_n 0, 1, 6, 0, 0, 0, 0),
  (1, .getfield 11, 3, 42, 1, 0, 0, 118),
  (4, .iload_n 1, 1, 4, 1, 0, 0, 0),
  (5, .aaload, 1, 48, 0, 0, 0, 0),
  (6, .astore_n 2, 1, 9, 2, 0, 0, 0),
  (7, .iload_n 1, 1, 4, 1, 0, 0, 0),
  (8, .istore_n 3, 1, 7, 3, 0, 0, 0),
  (9, .iload_n 3, 1, 4, 3, 0, 0, 0),
  (10, .iconst 1, 1, 1, 0, 0, 1, 0),
  (11, .iadd, 1, 11, 0, 0, 0, 0),
  (12, .aload_n 0, 1, 6, 0, 0, 0, 0),
  (13, .getfield 18, 3, 42, 1, 1, 0, 120),
  (16, .if_icmp .ge 23, 3, 79, 39, 0, 0, 0),
  (19, .aload_n 0, 1, 6, 0, 0, 0, 0),
  (20, .getfield 11, 3, 42, 1, 0, 0, 118),
  (23, .iload_n 3, 1, 4, 3, 0, 0, 0),
  (24, .aload_n 0, 1, 6, 0, 0, 0, 0),
  (25, .getfield 11, 3, 42, 1, 0, 0, 118),
  (28, .iload_n 3, 1, 4, 3, 0, 0, 0),
  (29, .iconst 1, 1, 1, 0, 0, 1, 0),
  (30, .iadd, 1, 11, 0, 0, 0, 0),
  (31, .aaload, 1, 48, 0, 0, 0, 0),
  (32, .aastore, 1, 52, 0, 0, 0, 0),
  (33, .iinc 3 1, 3, 10, 3, 0, 1, 0),
  (36, .goto (-27), 3, 37, 9, 0, 0, 0),
  (39, .aload_n 0, 1, 6, 0, 0, 0, 0),
  (40, .getfield 11, 3, 42, 1, 0, 0, 118),
  (43, .aload_n 0, 1, 6, 0, 0, 0, 0),
  (44, .getfield 18, 3, 42, 1, 1, 0, 120),
  (47, .iconst 1, 1, 1, 0, 0, 1, 0),
  (48, .isub, 1, 12, 0, 0, 0, 0),
  (49, .aload_n 2, 1, 6, 2, 0, 0, 0),
  (50, .aastore, 1, 52, 0, 0, 0, 0),
  (51, .return_, 1, 66, 0, 0, 0, 0)]
def vC_24 : List vent := vC_24_0
def vC_25_0 : List vent := [(0, .iconst 0, 1, 1, 0, 0, 0, 0),
  (1, .istore_n 2, 1, 7, 2, 0, 0, 0),
  (2, .iconst 0, 1, 1, 0, 0, 0, 0),
  (3, .istore_n 3, 1, 7, 3, 0, 0, 0),
  (4, .iload_n 3, 1, 4, 3, 0, 0, 0),
  (5, .aload_n 0, 1, 6, 0, 0, 0, 0),
  (6, .getfield 18, 3, 42, 1, 1, 0, 120),
  (9, .if_icmp .ge 48, 3, 79, 57, 0, 0, 0),
  (12, .aload_n 0, 1, 6, 0, 0, 0, 0),
  (13, .getfield 11, 3, 42, 1, 0, 0, 118),
  (16, .iload_n 3, 1, 4, 3, 0, 0, 0),
  (17, .aaload, 1, 48, 0, 0, 0, 0),
  (18, .astore 4, 2, 9, 4, 0, 0, 0),
  (20, .aload 4, 2, 6, 4, 0, 0, 0),
  (22, .iconst 0, 1, 1, 0, 0, 0, 0),
  (23, .iaload, 1, 45, 0, 0, 0, 0),
  (24, .iload_n 1, 1, 4, 1, 0, 0, 0),
  (25, .if_icmp .eq 26, 3, 76, 51, 0, 0, 0),
  (28, .aload_n 0, 1, 6, 0, 0, 0, 0),
  (29, .getfield 11, 3, 42, 1, 0, 0, 118),
  (32, .iload_n 3, 1, 4, 3, 0, 0, 0),
  (33, .aload_n 0, 1, 6, 0, 0, 0, 0),
  (34, .getfield 11, 3, 42, 1, 0, 0, 118),
  (37, .iload_n 2, 1, 4, 2, 0, 0, 0),
  (38, .aaload, 1, 48, 0, 0, 0, 0),
  (39, .aastore, 1, 52, 0, 0, 0, 0),
  (40, .aload_n 0, 1, 6, 0, 0, 0, 0),
  (41, .getfield 11, 3, 42, 1, 0, 0, 118),
  (44, .iload_n 2, 1, 4, 2, 0, 0, 0),
  (45, .aload 4, 2, 6, 4, 0, 0, 0),
  (47, .aastore, 1, 52, 0, 0, 0, 0),
  (48, .iinc 2 1, 3, 10, 2, 0, 1, 0),
  (51, .iinc 3 1, 3, 10, 3, 0, 1, 0),
  (54, .goto (-50), 3, 37, 4, 0, 0, 0),
  (57, .aload_n 0, 1, 6, 0, 0, 0, 0),
  (58, .iload_n 2, 1, 4, 2, 0, 0, 0),
  (59, .putfield 18, 3, 43, 1, 1, 0, 120),
  (62, .return_, 1, 66, 0, 0, 0, 0)]
def vC_25 : List vent := vC_25_0
def vC_26_0 : List vent := [(0, .aload_n 0, 1, 6, 0, 0, 0, 0),
  (1, .iconst 0, 1, 1, 0, 0, 0, 0),
  (2, .putfield 18, 3, 43, 1, 1, 0, 120),
  (5, .return_, 1, 66, 0, 0, 0, 0)]
def vC_26 : List vent := vC_26_0
def vC_27_0 : List vent := [(0, .aload_n 0, 1, 6, 0, 0, 0, 0),
  (1, .invokespecial 1, 3, 61, 0, 0, 0, 143),
  (4, .aload_n 0, 1, 6, 0, 0, 0, 0),
  (5, .new 7, 3, 54, 0, 1, 0, 144),
  (8, .dup, 1, 34, 0, 0, 0, 0),
  (9, .invokespecial 9, 3, 83, 0, 0, 0, 145),
  (12, .putfield 10, 3, 68, 2, 1, 0, 148),
  (15, .aload_n 0, 1, 6, 0, 0, 0, 0),
  (16, .new 7, 3, 54, 0, 1, 0, 144),
  (19, .dup, 1, 34, 0, 0, 0, 0),
  (20, .invokespecial 9, 3, 83, 0, 0, 0, 145),
  (23, .putfield 16, 3, 68, 2, 2, 0, 150),
  (26, .aload_n 0, 1, 6, 0, 0, 0, 0),
  (27, .new 7, 3, 54, 0, 1, 0, 144),
  (30, .dup, 1, 34, 0, 0, 0, 0),
  (31, .invokespecial 9, 3, 83, 0, 0, 0, 145),
  (34, .putfield 19, 3, 68, 2, 3, 0, 152),
  (37, .aload_n 0, 1, 6, 0, 0, 0, 0),
  (38, .new 7, 3, 54, 0, 1, 0, 144),
  (41, .dup, 1, 34, 0, 0, 0, 0),
  (42, .invokespecial 9, 3, 83, 0, 0, 0, 145),
  (45, .putfield 22, 3, 68, 2, 4, 0, 154),
  (48, .return_, 1, 66, 0, 0, 0, 0)]
def vC_27 : List vent := vC_27_0
def vC_28_0 : List vent := [(0, .aload_n 0, 1, 6, 0, 0, 0, 0),
  (1, .iload_n 1, 1, 4, 1, 0, 0, 0),
  (2, .putfield 25, 3, 43, 2, 0, 0, 146),
  (5, .aload_n 0, 1, 6, 0, 0, 0, 0),
  (6, .getfield 10, 3, 42, 2, 1, 0, 148),
  (9, .aload_n 2, 1, 6, 2, 0, 0, 0),
  (10, .invokevirtual 29, 3, 58, 5, 0, 0, 378),
  (13, .aload_n 0, 1, 6, 0, 0, 0, 0),
  (14, .invokevirtual 33, 3, 58, 31, 0, 0, 379),
  (17, .return_, 1, 66, 0, 0, 0, 0)]
def vC_28 : List vent := vC_28_0
def vC_29_0 : List vent := [(0, .aload_n 0, 1, 6, 0, 0, 0, 0),
  (1, .iconst 0, 1, 1, 0, 0, 0, 0),
  (2, .putfield 25, 3, 43, 2, 0, 0, 146),
  (5, .aload_n 0, 1, 6, 0, 0, 0, 0),
  (6, .getfield 10, 3, 42, 2, 1, 0, 148),
  (9, .invokevirtual 36, 3, 58, 4, 0, 0, 407),
  (12, .aload_n 0, 1, 6, 0, 0, 0, 0),
  (13, .invokevirtual 33, 3, 58, 31, 0, 0, 379),
  (16, .return_, 1, 66, 0, 0, 0, 0)]
def vC_29 : List vent := vC_29_0
def vC_30_0 : List vent := [(0, .aload_n 0, 1, 6, 0, 0, 0, 0),
  (1, .getfield 16, 3, 42, 2, 2, 0, 150),
  (4, .aload_n 1, 1, 6, 1, 0, 0, 0),
  (5, .getfield 16, 3, 42, 2, 2, 0, 150),
  (8, .invokevirtual 29, 3, 58, 5, 0, 0, 378),
  (11, .aload_n 0, 1, 6, 0, 0, 0, 0),
  (12, .getfield 19, 3, 42, 2, 3, 0, 152),
  (15, .aload_n 1, 1, 6, 1, 0, 0, 0),
  (16, .getfield 19, 3, 42, 2, 3, 0, 152),
  (19, .invokevirtual 29, 3, 58, 5, 0, 0, 378),
  (22, .aload_n 0, 1, 6, 0, 0, 0, 0),
  (23, .aload_n 1, 1, 6, 1, 0, 0, 0),
  (24, .getfield 25, 3, 42, 2, 0, 0, 146),
  (27, .aload_n 1, 1, 6, 1, 0, 0, 0),
  (28, .getfield 10, 3, 42, 2, 1, 0, 148),
  (31, .invokevirtual 39, 3, 58, 28, 0, 0, 615),
  (34, .return_, 1, 66, 0, 0, 0, 0)]
def vC_30 : List vent := vC_30_0
def vC_31_0 : List vent := [(0, .aload_n 0, 1, 6, 0, 0, 0, 0),
  (1, .getfield 22, 3, 42, 2, 4, 0, 154),
  (4, .aload_n 0, 1, 6, 0, 0, 0, 0),
  (5, .getfield 10, 3, 42, 2, 1, 0, 148),
  (8, .invokevirtual 29, 3, 58, 5, 0, 0, 378),
  (11, .aload_n 0, 1, 6, 0, 0, 0, 0),
  (12, .getfield 22, 3, 42, 2, 4, 0, 154),
  (15, .aload_n 0, 1, 6, 0, 0, 0, 0),
  (16, .getfield 19, 3, 42, 2, 3, 0, 152),
  (19, .invokevirtual 42, 3, 58, 6, 0, 0, 383),
  (22, .aload_n 0, 1, 6, 0, 0, 0, 0),
  (23, .getfield 22, 3, 42, 2, 4, 0, 154),
  (26, .aload_n 0, 1, 6, 0, 0, 0, 0),
  (27, .getfield 16, 3, 42, 2, 2, 0, 150),
  (30, .invokevirtual 45, 3, 58, 7, 0, 0, 384),
  (33, .return_, 1, 66, 0, 0, 0, 0)]
def vC_31 : List vent := vC_31_0
def vC_32_0 : List vent := [(0, .aload_n 0, 1, 6, 0, 0, 0, 0),
  (1, .invokespecial 3, 3, 61, 0, 0, 0, 75),
  (4, .aload_n 0, 1, 6, 0, 0, 0, 0),
  (5, .bipush 80, 2, 1, 0, 0, 80, 0),
  (7, .newarray .int, 2, 55, 0, 0, 0, 0),
  (9, .putfield 11, 3, 68, 3, 0, 0, 89),
  (12, .aload_n 0, 1, 6, 0, 0, 0, 0),
  (13, .bipush 6, 2, 1, 0, 0, 6, 0),
  (15, .anewarray 15, 3, 56, 4, 0, 0, 76),
  (18, .putfield 17, 3, 68, 3, 3, 0, 94),
  (21, .aload_n 0, 1, 6, 0, 0, 0, 0),
  (22, .bipush 6, 2, 1, 0, 0, 6, 0),
  (24, .anewarray 15, 3, 56, 4, 0, 0, 76),
  (27, .putfield 21, 3, 68, 3, 4, 0, 95),
  (30, .aload_n 0, 1, 6, 0, 0, 0, 0),
  (31, .bipush 6, 2, 1, 0, 0, 6, 0),
  (33, .anewarray 15, 3, 56, 4, 0, 0, 76),
  (36, .putfield 24, 3, 68, 3, 5, 0, 96),
  (39, .iconst 0, 1, 1, 0, 0, 0, 0),
  (40, .istore_n 1, 1, 7, 1, 0, 0, 0),
  (41, .iload_n 1, 1, 4, 1, 0, 0, 0),
  (42, .iconst 5, 1, 1, 0, 0, 5, 0),
  (43, .if_icmp .gt 48, 3, 80, 91, 0, 0, 0),
  (46, .aload_n 0, 1, 6, 0, 0, 0, 0),
  (47, .getfield 17, 3, 42, 3, 3, 0, 94),
  (50, .iload_n 1, 1, 4, 1, 0, 0, 0),
  (51, .new 15, 3, 54, 0, 1, 0, 76),
  (54, .dup, 1, 34, 0, 0, 0, 0),
  (55, .invokespecial 27, 3, 83, 0, 0, 0, 79),
  (58, .aastore, 1, 52, 0, 0, 0, 0),
  (59, .aload_n 0, 1, 6, 0, 0, 0, 0),
  (60, .getfield 21, 3, 42, 3, 4, 0, 95),
  (63, .iload_n 1, 1, 4, 1, 0, 0, 0),
  (64, .new 15, 3, 54, 0, 1, 0, 76),
  (67, .dup, 1, 34, 0, 0, 0, 0),
  (68, .invokespecial 27, 3, 83, 0, 0, 0, 79),
  (71, .aastore, 1, 52, 0, 0, 0, 0),
  (72, .aload_n 0, 1, 6, 0, 0, 0, 0),
  (73, .getfield 24, 3, 42, 3, 5, 0, 96),
  (76, .iload_n 1, 1, 4, 1, 0, 0, 0),
  (77, .new 15, 3, 54, 0, 1, 0, 76),
  (80, .dup, 1, 34, 0, 0, 0, 0),
  (81, .invokespecial 27, 3, 83, 0, 0, 0, 79),
  (84, .aastore, 1, 52, 0, 0, 0, 0),
  (85, .iinc 1 1, 3, 10, 1, 0, 1, 0),
  (88, .goto (-47), 3, 37, 41, 0, 0, 0),
  (91, .return_, 1, 66, 0, 0, 0, 0)]
def vC_32 : List vent := vC_32_0
def vC_33_0 : List vent := [(0, .aload_n 0, 1, 6, 0, 0, 0, 0),
  (1, .getfield 28, 3, 42, 3, 1, 0, 90),
  (4, .bipush 80, 2, 1, 0, 0, 80, 0),
  (6, .if_icmp .lt 6, 3, 78, 12, 0, 0, 0),
  (9, .bipush (-4), 2, 1, 0, 0, (-4), 0),
  (11, .ireturn, 1, 63, 0, 0, 0, 0),
  (12, .aload_n 0, 1, 6, 0, 0, 0, 0),
  (13, .getfield 11, 3, 42, 3, 0, 0, 89),
  (16, .aload_n 0, 1, 6, 0, 0, 0, 0),
  (17, .getfield 28, 3, 42, 3, 1, 0, 90),
  (20, .iload_n 1, 1, 4, 1, 0, 0, 0),
  (21, .iastore, 1, 49, 0, 0, 0, 0),
  (22, .aload_n 0, 1, 6, 0, 0, 0, 0),
  (23, .dup, 1, 34, 0, 0, 0, 0),
  (24, .getfield 28, 3, 42, 3, 1, 0, 90),
  (27, .iconst 1, 1, 1, 0, 0, 1, 0),
  (28, .iadd, 1, 11, 0, 0, 0, 0),
  (29, .putfield 28, 3, 43, 3, 1, 0, 90),
  (32, .aload_n 0, 1, 6, 0, 0, 0, 0),
  (33, .getfield 28, 3, 42, 3, 1, 0, 90),
  (36, .ireturn, 1, 63, 0, 0, 0, 0)]
def vC_33 : List vent := vC_33_0
def vC_34_0 : List vent := [(0, .aload_n 0, 1, 6, 0, 0, 0, 0),
  (1, .getfield 28, 3, 42, 3, 1, 0, 90),
  (4, .istore_n 1, 1, 7, 1, 0, 0, 0),
  (5, .aload_n 0, 1, 6, 0, 0, 0, 0),
  (6, .iconst 0, 1, 1, 0, 0, 0, 0),
  (7, .putfield 28, 3, 43, 3, 1, 0, 90),
  (10, .iload_n 1, 1, 4, 1, 0, 0, 0),
  (11, .ireturn, 1, 63, 0, 0, 0, 0)]
def vC_34 : List vent := vC_34_0
def vC_35_0 : List vent := [(0, .aload_n 0, 1, 6, 0, 0, 0, 0),
  (1, .iconst 0, 1, 1, 0, 0, 0, 0),
  (2, .putfield 32, 3, 43, 3, 2, 0, 92),
  (5, .aload_n 0, 1, 6, 0, 0, 0, 0),
  (6, .iconst 0, 1, 1, 0, 0, 0, 0),
  (7, .aload_n 1, 1, 6, 1, 0, 0, 0),
  (8, .invokevirtual 35, 3, 58, 38, 0, 0, 235),
  (11, .astore_n 2, 1, 9, 2, 0, 0, 0),
  (12, .aload_n 0, 1, 6, 0, 0, 0, 0),
  (13, .getfield 32, 3, 42, 3, 2, 0, 92),
  (16, .aload_n 0, 1, 6, 0, 0, 0, 0),
  (17, .getfield 28, 3, 42, 3, 1, 0, 90),
  (20, .if_icmp .ge 7, 3, 79, 27, 0, 0, 0),
  (23, .aconst_null, 1, 3, 0, 0, 0, 0),
  (24, .goto 4, 3, 37, 28, 0, 0, 0),
  (27, .aload_n 2, 1, 6, 2, 0, 0, 0),
  (28, .areturn, 1, 65, 0, 0, 0, 0)]
def vC_35 : List vent := vC_35_0
def vC_36_0 : List vent := [(0, .aload_n 0, 1, 6, 0, 0, 0, 0),
  (1, .getfield 32, 3, 42, 3, 2, 0, 92),
  (4, .ifCond .lt 35, 3, 72, 39, 0, 0, 0),
  (7, .aload_n 0, 1, 6, 0, 0, 0, 0),
  (8, .getfield 32, 3, 42, 3, 2, 0, 92),
  (11, .aload_n 0, 1, 6, 0, 0, 0, 0),
  (12, .getfield 28, 3, 42, 3, 1, 0, 90),
  (15, .if_icmp .ge 24, 3, 79, 39, 0, 0, 0),
  (18, .aload_n 0, 1, 6, 0, 0, 0, 0),
  (19, .getfield 32, 3, 42, 3, 2, 0, 92),
  (22, .bipush 80, 2, 1, 0, 0, 80, 0),
  (24, .if_icmp .ge 15, 3, 79, 39, 0, 0, 0),
  (27, .aload_n 0, 1, 6, 0, 0, 0, 0),
  (28, .getfield 11, 3, 42, 3, 0, 0, 89),
  (31, .aload_n 0, 1, 6, 0, 0, 0, 0),
  (32, .getfield 32, 3, 42, 3, 2, 0, 92),
  (35, .iaload, 1, 45, 0, 0, 0, 0),
  (36, .goto 4, 3, 37, 40, 0, 0, 0),
  (39, .iconst (-1), 1, 1, 0, 0, (-1), 0),
  (40, .ireturn, 1, 63, 0, 0, 0, 0)]
def vC_36 : List vent := vC_36_0
def vC_37_0 : List vent := [(0, .aload_n 0, 1, 6, 0, 0, 0, 0),
  (1, .invokevirtual 39, 3, 58, 36, 0, 0, 260),
  (4, .iload_n 1, 1, 4, 1, 0, 0, 0),
  (5, .if_icmp .eq 5, 3, 76, 10, 0, 0, 0),
  (8, .iconst 0, 1, 1, 0, 0, 0, 0),
  (9, .ireturn, 1, 63, 1, 0, 0, 0),
  (10, .aload_n 0, 1, 6, 0, 0, 0, 0),
  (11, .dup, 1, 34, 0, 0, 0, 0),
  (12, .getfield 32, 3, 42, 3, 2, 0, 92),
  (15, .iconst 1, 1, 1, 0, 0, 1, 0),
  (16, .iadd, 1, 11, 0, 0, 0, 0),
  (17, .putfield 32, 3, 43, 3, 2, 0, 92),
  (20, .iconst 1, 1, 1, 0, 0, 1, 0),
  (21, .ireturn, 1, 63, 1, 0, 0, 0)]
def vC_37 : List vent := vC_37_0
def vC_38_0 : List vent := [(0, .iload_n 1, 1, 4, 1, 0, 0, 0),
  (1, .ifCond .lt 8, 3, 72, 9, 0, 0, 0),
  (4, .iload_n 1, 1, 4, 1, 0, 0, 0),
  (5, .iconst 5, 1, 1, 0, 0, 5, 0),
  (6, .if_icmp .le 5, 3, 81, 11, 0, 0, 0),
  (9, .aconst_null, 1, 3, 0, 0, 0, 0),
  (10, .areturn, 1, 65, 0, 0, 0, 0),
  (11, .aload_n 0, 1, 6, 0, 0, 0, 0),
  (12, .getfield 17, 3, 42, 3, 3, 0, 94),
  (15, .iload_n 1, 1, 4, 1, 0, 0, 0),
  (16, .aaload, 1, 48, 0, 0, 0, 0),
  (17, .astore_n 3, 1, 9, 3, 0, 0, 0),
  (18, .aload_n 3, 1, 6, 3, 0, 0, 0),
  (19, .invokevirtual 43, 3, 58, 4, 0, 0, 239),
  (22, .iconst 0, 1, 1, 0, 0, 0, 0),
  (23, .istore 4, 2, 7, 4, 0, 0, 0),
  (25, .iconst 0, 1, 1, 0, 0, 0, 0),
  (26, .istore 5, 2, 7, 5, 0, 0, 0),
  (28, .iload 5, 2, 4, 5, 0, 0, 0),
  (30, .bipush 80, 2, 1, 0, 0, 80, 0),
  (32, .if_icmp .gt 68, 3, 80, 100, 0, 0, 0),
  (35, .aload_n 0, 1, 6, 0, 0, 0, 0),
  (36, .iload_n 1, 1, 4, 1, 0, 0, 0),
  (37, .aload_n 2, 1, 6, 2, 0, 0, 0),
  (38, .invokevirtual 46, 3, 58, 39, 0, 0, 243),
  (41, .astore 6, 2, 9, 6, 0, 0, 0),
  (43, .aload 6, 2, 6, 6, 0, 0, 0),
  (45, .ifnonnull 5, 3, 41, 50, 0, 0, 0),
  (48, .aconst_null, 1, 3, 0, 0, 0, 0),
  (49, .areturn, 1, 65, 0, 0, 0, 0),
  (50, .iload 4, 2, 4, 4, 0, 0, 0),
  (52, .ifCond .eq 12, 3, 70, 64, 0, 0, 0),
  (55, .aload_n 3, 1, 6, 3, 0, 0, 0),
  (56, .aload 6, 2, 6, 6, 0, 0, 0),
  (58, .invokevirtual 49, 3, 58, 7, 0, 0, 366),
  (61, .goto 9, 3, 37, 70, 0, 0, 0),
  (64, .aload_n 3, 1, 6, 3, 0, 0, 0),
  (65, .aload 6, 2, 6, 6, 0, 0, 0),
  (67, .invokevirtual 53, 3, 58, 6, 0, 0, 370),
  (70, .aload_n 0, 1, 6, 0, 0, 0, 0),
  (71, .bipush 47, 2, 1, 0, 0, 47, 0),
  (73, .invokevirtual 56, 3, 58, 37, 0, 0, 256),
  (76, .istore 4, 2, 7, 4, 0, 0, 0),
  (78, .iload 4, 2, 4, 4, 0, 0, 0),
  (80, .ifCond .ne 14, 3, 71, 94, 0, 0, 0),
  (83, .aload_n 0, 1, 6, 0, 0, 0, 0),
  (84, .bipush 124, 2, 1, 0, 0, 124, 0),
  (86, .invokevirtual 56, 3, 58, 37, 0, 0, 256),
  (89, .ifCond .ne 5, 3, 71, 94, 0, 0, 0),
  (92, .aload_n 3, 1, 6, 3, 0, 0, 0),
  (93, .areturn, 1, 65, 0, 0, 0, 0),
  (94, .iinc 5 1, 3, 10, 5, 0, 1, 0),
  (97, .goto (-69), 3, 37, 28, 0, 0, 0),
  (100, .aconst_null, 1, 3, 0, 0, 0, 0),
  (101, .areturn, 1, 65, 0, 0, 0, 0)]
def vC_38 : List vent := vC_38_0
def vC_39_0 : List vent := [(0, .aload_n 0, 1, 6, 0, 0, 0, 0),
  (1, .getfield 21, 3, 42, 3, 4, 0, 95),
  (4, .iload_n 1, 1, 4, 1, 0, 0, 0),
  (5, .aaload, 1, 48, 0, 0, 0, 0),
  (6, .astore_n 3, 1, 9, 3, 0, 0, 0),
  (7, .aload_n 3, 1, 6, 3, 0, 0, 0),
  (8, .invokevirtual 43, 3, 58, 4, 0, 0, 239),
  (11, .aload_n 3, 1, 6, 3, 0, 0, 0),
  (12, .invokevirtual 60, 3, 58, 9, 0, 0, 247),
  (15, .iconst 0, 1, 1, 0, 0, 0, 0),
  (16, .istore 4, 2, 7, 4, 0, 0, 0),
  (18, .iload 4, 2, 4, 4, 0, 0, 0),
  (20, .bipush 80, 2, 1, 0, 0, 80, 0),
  (22, .if_icmp .gt 41, 3, 80, 63, 0, 0, 0),
  (25, .aload_n 0, 1, 6, 0, 0, 0, 0),
  (26, .iload_n 1, 1, 4, 1, 0, 0, 0),
  (27, .aload_n 2, 1, 6, 2, 0, 0, 0),
  (28, .invokevirtual 63, 3, 58, 40, 0, 0, 252),
  (31, .astore 5, 2, 9, 5, 0, 0, 0),
  (33, .aload 5, 2, 6, 5, 0, 0, 0),
  (35, .ifnonnull 5, 3, 41, 40, 0, 0, 0),
  (38, .aconst_null, 1, 3, 0, 0, 0, 0),
  (39, .areturn, 1, 65, 0, 0, 0, 0),
  (40, .aload_n 3, 1, 6, 3, 0, 0, 0),
  (41, .aload 5, 2, 6, 5, 0, 0, 0),
  (43, .invokevirtual 66, 3, 58, 8, 0, 0, 362),
  (46, .aload_n 0, 1, 6, 0, 0, 0, 0),
  (47, .bipush 38, 2, 1, 0, 0, 38, 0),
  (49, .invokevirtual 56, 3, 58, 37, 0, 0, 256),
  (52, .ifCond .ne 5, 3, 71, 57, 0, 0, 0),
  (55, .aload_n 3, 1, 6, 3, 0, 0, 0),
  (56, .areturn, 1, 65, 0, 0, 0, 0),
  (57, .iinc 4 1, 3, 10, 4, 0, 1, 0),
  (60, .goto (-42), 3, 37, 18, 0, 0, 0),
  (63, .aconst_null, 1, 3, 0, 0, 0, 0),
  (64, .areturn, 1, 65, 0, 0, 0, 0)]
def vC_39 : List vent := vC_39_0
def vC_40_0 : List vent := [(0, .aload_n 0, 1, 6, 0, 0, 0, 0),
  (1, .getfield 24, 3, 42, 3, 5, 0, 96),
  (4, .iload_n 1, 1, 4, 1, 0, 0, 0),
  (5, .aaload, 1, 48, 0, 0, 0, 0),
  (6, .astore_n 3, 1, 9, 3, 0, 0, 0),
  (7, .aload_n 0, 1, 6, 0, 0, 0, 0),
  (8, .bipush 33, 2, 1, 0, 0, 33, 0),
  (10, .invokevirtual 56, 3, 58, 37, 0, 0, 256),
  (13, .istore 4, 2, 7, 4, 0, 0, 0),
  (15, .aload_n 0, 1, 6, 0, 0, 0, 0),
  (16, .iload_n 1, 1, 4, 1, 0, 0, 0),
  (17, .aload_n 3, 1, 6, 3, 0, 0, 0),
  (18, .aload_n 2, 1, 6, 2, 0, 0, 0),
  (19, .invokevirtual 69, 3, 58, 41, 0, 0, 264),
  (22, .ifCond .ne 5, 3, 71, 27, 0, 0, 0),
  (25, .aconst_null, 1, 3, 0, 0, 0, 0),
  (26, .areturn, 1, 65, 0, 0, 0, 0),
  (27, .iload 4, 2, 4, 4, 0, 0, 0),
  (29, .ifCond .eq 7, 3, 70, 36, 0, 0, 0),
  (32, .aload_n 3, 1, 6, 3, 0, 0, 0),
  (33, .invokevirtual 60, 3, 58, 9, 0, 0, 247),
  (36, .aload_n 3, 1, 6, 3, 0, 0, 0),
  (37, .areturn, 1, 65, 0, 0, 0, 0)]
def vC_40 : List vent := vC_40_0
def vC_41_0 : List vent := [(0, .aload_n 0, 1, 6, 0, 0, 0, 0),
  (1, .invokevirtual 39, 3, 58, 36, 0, 0, 260),
  (4, .istore 4, 2, 7, 4, 0, 0, 0),
  (6, .iload_n 1, 1, 4, 1, 0, 0, 0),
  (7, .iconst 5, 1, 1, 0, 0, 5, 0),
  (8, .if_icmp .lt 13, 3, 78, 21, 0, 0, 0),
  (11, .iload 4, 2, 4, 4, 0, 0, 0),
  (13, .invokestatic 73, 3, 59, 42, 0, 0, 268),
  (16, .ifCond .eq 5, 3, 70, 21, 0, 0, 0),
  (19, .iconst 0, 1, 1, 0, 0, 0, 0),
  (20, .ireturn, 1, 63, 1, 0, 0, 0),
  (21, .iload 4, 2, 4, 4, 0, 0, 0),
  (23, .bipush 40, 2, 1, 0, 0, 40, 0),
  (25, .if_icmp .ne 11, 3, 77, 36, 0, 0, 0),
  (28, .aload_n 0, 1, 6, 0, 0, 0, 0),
  (29, .iload_n 1, 1, 4, 1, 0, 0, 0),
  (30, .aload_n 2, 1, 6, 2, 0, 0, 0),
  (31, .aload_n 3, 1, 6, 3, 0, 0, 0),
  (32, .invokevirtual 76, 3, 58, 47, 0, 0, 271),
  (35, .ireturn, 1, 63, 1, 0, 0, 0),
  (36, .iload 4, 2, 4, 4, 0, 0, 0),
  (38, .bipush 65, 2, 1, 0, 0, 65, 0),
  (40, .if_icmp .lt 36, 3, 78, 76, 0, 0, 0),
  (43, .iload 4, 2, 4, 4, 0, 0, 0),
  (45, .bipush 74, 2, 1, 0, 0, 74, 0),
  (47, .if_icmp .gt 29, 3, 80, 76, 0, 0, 0),
  (50, .aload_n 0, 1, 6, 0, 0, 0, 0),
  (51, .dup, 1, 34, 0, 0, 0, 0),
  (52, .getfield 32, 3, 42, 3, 2, 0, 92),
  (55, .iconst 1, 1, 1, 0, 0, 1, 0),
  (56, .iadd, 1, 11, 0, 0, 0, 0),
  (57, .putfield 32, 3, 43, 3, 2, 0, 92),
  (60, .aload_n 2, 1, 6, 2, 0, 0, 0),
  (61, .aload_n 3, 1, 6, 3, 0, 0, 0),
  (62, .iload 4, 2, 4, 4, 0, 0, 0),
  (64, .bipush 65, 2, 1, 0, 0, 65, 0),
  (66, .isub, 1, 12, 0, 0, 0, 0),
  (67, .aaload, 1, 48, 0, 0, 0, 0),
  (68, .getfield 79, 3, 42, 2, 4, 0, 156),
  (71, .invokevirtual 85, 3, 58, 5, 0, 0, 279),
  (74, .iconst 1, 1, 1, 0, 0, 1, 0),
  (75, .ireturn, 1, 63, 1, 0, 0, 0),
  (76, .iload 4, 2, 4, 4, 0, 0, 0),
  (78, .tableswitch 186 98 121 #[166, 186, 110, 128, 186, 186, 186, 186, 186, 186, 146, 110, 146, 186, 166, 186, 128, 166, 186, 186, 186, 110, 166, 110], 110, 67, 0, 0, 0, 0),
  (188, .aload_n 0, 1, 6, 0, 0, 0, 0),
  (189, .dup, 1, 34, 0, 0, 0, 0),
  (190, .getfield 32, 3, 42, 3, 2, 0, 92),
  (193, .iconst 1, 1, 1, 0, 0, 1, 0),
  (194, .iadd, 1, 11, 0, 0, 0, 0),
  (195, .putfield 32, 3, 43, 3, 2, 0, 92),
  (198, .aload_n 0, 1, 6, 0, 0, 0, 0),
  (199, .iload 4, 2, 4, 4, 0, 0, 0),
  (201, .aload_n 2, 1, 6, 2, 0, 0, 0),
  (202, .invokevirtual 88, 3, 58, 43, 0, 0, 283),
  (205, .ireturn, 1, 63, 1, 0, 0, 0),
  (206, .aload_n 0, 1, 6, 0, 0, 0, 0),
  (207, .dup, 1, 34, 0, 0, 0, 0),
  (208, .getfield 32, 3, 42, 3, 2, 0, 92),
  (211, .iconst 1, 1, 1, 0, 0, 1, 0),
  (212, .iadd, 1, 11, 0, 0, 0, 0),
  (213, .putfield 32, 3, 43, 3, 2, 0, 92),
  (216, .aload_n 0, 1, 6, 0, 0, 0, 0),
  (217, .iload 4, 2, 4, 4, 0, 0, 0),
  (219, .aload_n 2, 1, 6, 2, 0, 0, 0),
  (220, .invokevirtual 92, 3, 58, 44, 0, 0, 309),
  (223, .ireturn, 1, 63, 1, 0, 0, 0),
  (224, .aload_n 0, 1, 6, 0, 0, 0, 0),
  (225, .dup, 1, 34, 0, 0, 0, 0),
  (226, .getfield 32, 3, 42, 3, 2, 0, 92),
  (229, .iconst 1, 1, 1, 0, 0, 1, 0),
  (230, .iadd, 1, 11, 0, 0, 0, 0),
  (231, .putfield 32, 3, 43, 3, 2, 0, 92),
  (234, .aload_n 0, 1, 6, 0, 0, 0, 0),
  (235, .iload 4, 2, 4, 4, 0, 0, 0),
  (237, .iload_n 1, 1, 4, 1, 0, 0, 0),
  (238, .aload_n 2, 1, 6, 2, 0, 0, 0),
  (239, .aload_n 3, 1, 6, 3, 0, 0, 0),
  (240, .invokevirtual 95, 3, 58, 45, 0, 0, 313),
  (243, .ireturn, 1, 63, 1, 0, 0, 0),
  (244, .aload_n 0, 1, 6, 0, 0, 0, 0),
  (245, .dup, 1, 34, 0, 0, 0, 0),
  (246, .getfield 32, 3, 42, 3, 2, 0, 92),
  (249, .iconst 1, 1, 1, 0, 0, 1, 0),
  (250, .iadd, 1, 11, 0, 0, 0, 0),
  (251, .putfield 32, 3, 43, 3, 2, 0, 92),
  (254, .aload_n 0, 1, 6, 0, 0, 0, 0),
  (255, .iload 4, 2, 4, 4, 0, 0, 0),
  (257, .iload_n 1, 1, 4, 1, 0, 0, 0),
  (258, .aload_n 2, 1, 6, 2, 0, 0, 0),
  (259, .aload_n 3, 1, 6, 3, 0, 0, 0),
  (260, .invokevirtual 99, 3, 58, 46, 0, 0, 344),
  (263, .ireturn, 1, 63, 1, 0, 0, 0),
  (264, .iconst 0, 1, 1, 0, 0, 0, 0),
  (265, .ireturn, 1, 63, 1, 0, 0, 0)]
def vC_41 : List vent := vC_41_0
def vC_42_0 : List vent := [(0, .iload_n 0, 1, 4, 0, 0, 0, 0),
  (1, .lookupswitch 69 #[(40, 67), (98, 67), (108, 67), (110, 67), (112, 67), (115, 67), (120, 67)], 67, 67, 1, 1, 0, 0),
  (68, .iconst 1, 1, 1, 0, 0, 1, 0),
  (69, .ireturn, 1, 63, 1, 0, 0, 0),
  (70, .iconst 0, 1, 1, 0, 0, 0, 0),
  (71, .ireturn, 1, 63, 1, 0, 0, 0)]
def vC_42 : List vent := vC_42_0
def vC_43_0 : List vent := [(0, .iload_n 1, 1, 4, 1, 0, 0, 0),
  (1, .bipush 119, 2, 1, 0, 0, 119, 0),
  (3, .if_icmp .eq 9, 3, 76, 12, 0, 0, 0),
  (6, .iload_n 1, 1, 4, 1, 0, 0, 0),
  (7, .bipush 121, 2, 1, 0, 0, 121, 0),
  (9, .if_icmp .ne 7, 3, 77, 16, 0, 0, 0),
  (12, .iconst 0, 1, 1, 0, 0, 0, 0),
  (13, .goto 4, 3, 37, 17, 0, 0, 0),
  (16, .iconst 1, 1, 1, 0, 0, 1, 0),
  (17, .istore_n 3, 1, 7, 3, 0, 0, 0),
  (18, .aload_n 0, 1, 6, 0, 0, 0, 0),
  (19, .iload_n 3, 1, 4, 3, 0, 0, 0),
  (20, .iload_n 1, 1, 4, 1, 0, 0, 0),
  (21, .invokestatic 102, 3, 59, 50, 0, 0, 287),
  (24, .invokevirtual 106, 3, 58, 49, 0, 0, 290),
  (27, .istore 4, 2, 7, 4, 0, 0, 0),
  (29, .iload 4, 2, 4, 4, 0, 0, 0),
  (31, .iconst (-1), 1, 1, 0, 0, (-1), 0),
  (32, .if_icmp .ne 5, 3, 77, 37, 0, 0, 0),
  (35, .iconst 0, 1, 1, 0, 0, 0, 0),
  (36, .ireturn, 1, 63, 1, 0, 0, 0),
  (37, .aload_n 2, 1, 6, 2, 0, 0, 0),
  (38, .invokevirtual 43, 3, 58, 4, 0, 0, 239),
  (41, .iload_n 1, 1, 4, 1, 0, 0, 0),
  (42, .bipush 119, 2, 1, 0, 0, 119, 0),
  (44, .if_icmp .ne 14, 3, 77, 58, 0, 0, 0),
  (47, .aload_n 2, 1, 6, 2, 0, 0, 0),
  (48, .bipush 7, 2, 1, 0, 0, 7, 0),
  (50, .iload 4, 2, 4, 4, 0, 0, 0),
  (52, .invokevirtual 110, 3, 58, 14, 0, 0, 294),
  (55, .goto 97, 3, 37, 152, 0, 0, 0),
  (58, .iload_n 1, 1, 4, 1, 0, 0, 0),
  (59, .bipush 100, 2, 1, 0, 0, 100, 0),
  (61, .if_icmp .ne 16, 3, 77, 77, 0, 0, 0),
  (64, .aload_n 2, 1, 6, 2, 0, 0, 0),
  (65, .bipush 30, 2, 1, 0, 0, 30, 0),
  (67, .iload 4, 2, 4, 4, 0, 0, 0),
  (69, .iconst 1, 1, 1, 0, 0, 1, 0),
  (70, .isub, 1, 12, 0, 0, 0, 0),
  (71, .invokevirtual 110, 3, 58, 14, 0, 0, 294),
  (74, .goto 78, 3, 37, 152, 0, 0, 0),
  (77, .iload_n 1, 1, 4, 1, 0, 0, 0),
  (78, .bipush 109, 2, 1, 0, 0, 109, 0),
  (80, .if_icmp .ne 52, 3, 77, 132, 0, 0, 0),
  (83, .aload_n 2, 1, 6, 2, 0, 0, 0),
  (84, .bipush 30, 2, 1, 0, 0, 30, 0),
  (86, .iload 4, 2, 4, 4, 0, 0, 0),
  (88, .imul, 1, 13, 0, 0, 0, 0),
  (89, .bipush 30, 2, 1, 0, 0, 30, 0),
  (91, .isub, 1, 12, 0, 0, 0, 0),
  (92, .bipush 30, 2, 1, 0, 0, 30, 0),
  (94, .iload 4, 2, 4, 4, 0, 0, 0),
  (96, .imul, 1, 13, 0, 0, 0, 0),
  (97, .iconst 1, 1, 1, 0, 0, 1, 0),
  (98, .isub, 1, 12, 0, 0, 0, 0),
  (99, .invokevirtual 114, 3, 58, 13, 0, 0, 305),
  (102, .aload_n 2, 1, 6, 2, 0, 0, 0),
  (103, .sipush 360, 3, 1, 0, 0, 360, 0),
  (106, .bipush 30, 2, 1, 0, 0, 30, 0),
  (108, .iload 4, 2, 4, 4, 0, 0, 0),
  (110, .imul, 1, 13, 0, 0, 0, 0),
  (111, .iadd, 1, 11, 0, 0, 0, 0),
  (112, .bipush 30, 2, 1, 0, 0, 30, 0),
  (114, .isub, 1, 12, 0, 0, 0, 0),
  (115, .sipush 360, 3, 1, 0, 0, 360, 0),
  (118, .bipush 30, 2, 1, 0, 0, 30, 0),
  (120, .iload 4, 2, 4, 4, 0, 0, 0),
  (122, .imul, 1, 13, 0, 0, 0, 0),
  (123, .iadd, 1, 11, 0, 0, 0, 0),
  (124, .iconst 1, 1, 1, 0, 0, 1, 0),
  (125, .isub, 1, 12, 0, 0, 0, 0),
  (126, .invokevirtual 114, 3, 58, 13, 0, 0, 305),
  (129, .goto 23, 3, 37, 152, 0, 0, 0),
  (132, .aload_n 2, 1, 6, 2, 0, 0, 0),
  (133, .sipush 360, 3, 1, 0, 0, 360, 0),
  (136, .iload 4, 2, 4, 4, 0, 0, 0),
  (138, .imul, 1, 13, 0, 0, 0, 0),
  (139, .sipush 360, 3, 1, 0, 0, 360, 0),
  (142, .iload 4, 2, 4, 4, 0, 0, 0),
  (144, .imul, 1, 13, 0, 0, 0, 0),
  (145, .sipush 359, 3, 1, 0, 0, 359, 0),
  (148, .iadd, 1, 11, 0, 0, 0, 0),
  (149, .invokevirtual 114, 3, 58, 13, 0, 0, 305),
  (152, .iconst 1, 1, 1, 0, 0, 1, 0),
  (153, .ireturn, 1, 63, 1, 0, 0, 0)]
def vC_43 : List vent := vC_43_0
def vC_44_0 : List vent := [(0, .iload_n 1, 1, 4, 1, 0, 0, 0),
  (1, .bipush 101, 2, 1, 0, 0, 101, 0),
  (3, .if_icmp .ne 7, 3, 77, 10, 0, 0, 0),
  (6, .iconst 1, 1, 1, 0, 0, 1, 0),
  (7, .goto 4, 3, 37, 11, 0, 0, 0),
  (10, .iconst 0, 1, 1, 0, 0, 0, 0),
  (11, .istore_n 3, 1, 7, 3, 0, 0, 0),
  (12, .aload_n 0, 1, 6, 0, 0, 0, 0),
  (13, .iload_n 3, 1, 4, 3, 0, 0, 0),
  (14, .ifCond .eq 7, 3, 70, 21, 0, 0, 0),
  (17, .iconst 1, 1, 1, 0, 0, 1, 0),
  (18, .goto 4, 3, 37, 22, 0, 0, 0),
  (21, .iconst 0, 1, 1, 0, 0, 0, 0),
  (22, .sipush 719, 3, 1, 0, 0, 719, 0),
  (25, .invokevirtual 106, 3, 58, 49, 0, 0, 290),
  (28, .istore 4, 2, 7, 4, 0, 0, 0),
  (30, .iload 4, 2, 4, 4, 0, 0, 0),
  (32, .iconst (-1), 1, 1, 0, 0, (-1), 0),
  (33, .if_icmp .eq 12, 3, 76, 45, 0, 0, 0),
  (36, .aload_n 0, 1, 6, 0, 0, 0, 0),
  (37, .bipush 44, 2, 1, 0, 0, 44, 0),
  (39, .invokevirtual 56, 3, 58, 37, 0, 0, 256),
  (42, .ifCond .ne 5, 3, 71, 47, 0, 0, 0),
  (45, .iconst 0, 1, 1, 0, 0, 0, 0),
  (46, .ireturn, 1, 63, 1, 0, 0, 0),
  (47, .aload_n 0, 1, 6, 0, 0, 0, 0),
  (48, .iload_n 3, 1, 4, 3, 0, 0, 0),
  (49, .ifCond .eq 7, 3, 70, 56, 0, 0, 0),
  (52, .iconst 0, 1, 1, 0, 0, 0, 0),
  (53, .goto 5, 3, 37, 58, 0, 0, 0),
  (56, .iload 4, 2, 4, 4, 0, 0, 0),
  (58, .sipush 719, 3, 1, 0, 0, 719, 0),
  (61, .invokevirtual 106, 3, 58, 49, 0, 0, 290),
  (64, .istore 5, 2, 7, 5, 0, 0, 0),
  (66, .iload 5, 2, 4, 5, 0, 0, 0),
  (68, .iconst (-1), 1, 1, 0, 0, (-1), 0),
  (69, .if_icmp .ne 5, 3, 77, 74, 0, 0, 0),
  (72, .iconst 0, 1, 1, 0, 0, 0, 0),
  (73, .ireturn, 1, 63, 1, 0, 0, 0),
  (74, .aload_n 2, 1, 6, 2, 0, 0, 0),
  (75, .invokevirtual 43, 3, 58, 4, 0, 0, 239),
  (78, .iload_n 3, 1, 4, 3, 0, 0, 0),
  (79, .ifCond .eq 14, 3, 70, 93, 0, 0, 0),
  (82, .aload_n 2, 1, 6, 2, 0, 0, 0),
  (83, .iload 4, 2, 4, 4, 0, 0, 0),
  (85, .iload 5, 2, 4, 5, 0, 0, 0),
  (87, .invokevirtual 110, 3, 58, 14, 0, 0, 294),
  (90, .goto 11, 3, 37, 101, 0, 0, 0),
  (93, .aload_n 2, 1, 6, 2, 0, 0, 0),
  (94, .iload 4, 2, 4, 4, 0, 0, 0),
  (96, .iload 5, 2, 4, 5, 0, 0, 0),
  (98, .invokevirtual 114, 3, 58, 13, 0, 0, 305),
  (101, .iconst 1, 1, 1, 0, 0, 1, 0),
  (102, .ireturn, 1, 63, 1, 0, 0, 0)]
def vC_44 : List vent := vC_44_0
def vC_45_0 : List vent := [(0, .aload_n 0, 1, 6, 0, 0, 0, 0),
  (1, .iconst 1, 1, 1, 0, 0, 1, 0),
  (2, .iload_n 1, 1, 4, 1, 0, 0, 0),
  (3, .invokestatic 102, 3, 59, 50, 0, 0, 287),
  (6, .invokevirtual 106, 3, 58, 49, 0, 0, 290),
  (9, .istore 5, 2, 7, 5, 0, 0, 0),
  (11, .iload 5, 2, 4, 5, 0, 0, 0),
  (13, .iconst (-1), 1, 1, 0, 0, (-1), 0),
  (14, .if_icmp .ne 5, 3, 77, 19, 0, 0, 0),
  (17, .iconst 0, 1, 1, 0, 0, 0, 0),
  (18, .ireturn, 1, 63, 1, 0, 0, 0),
  (19, .aload_n 0, 1, 6, 0, 0, 0, 0),
  (20, .invokevirtual 39, 3, 58, 36, 0, 0, 260),
  (23, .invokestatic 117, 3, 59, 51, 0, 0, 317),
  (26, .istore 6, 2, 7, 6, 0, 0, 0),
  (28, .iload 6, 2, 4, 6, 0, 0, 0),
  (30, .invokestatic 120, 3, 82, 91, 0, 0, 320),
  (33, .ifCond .ne 5, 3, 71, 38, 0, 0, 0),
  (36, .iconst 0, 1, 1, 0, 0, 0, 0),
  (37, .ireturn, 1, 63, 1, 0, 0, 0),
  (38, .aload_n 0, 1, 6, 0, 0, 0, 0),
  (39, .dup, 1, 34, 0, 0, 0, 0),
  (40, .getfield 32, 3, 42, 3, 2, 0, 92),
  (43, .iconst 1, 1, 1, 0, 0, 1, 0),
  (44, .iadd, 1, 11, 0, 0, 0, 0),
  (45, .putfield 32, 3, 43, 3, 2, 0, 92),
  (48, .aload_n 0, 1, 6, 0, 0, 0, 0),
  (49, .iload_n 2, 1, 4, 2, 0, 0, 0),
  (50, .aload 4, 2, 6, 4, 0, 0, 0),
  (52, .invokevirtual 123, 3, 58, 48, 0, 0, 275),
  (55, .astore 7, 2, 9, 7, 0, 0, 0),
  (57, .aload 7, 2, 6, 7, 0, 0, 0),
  (59, .ifnonnull 5, 3, 41, 64, 0, 0, 0),
  (62, .iconst 0, 1, 1, 0, 0, 0, 0),
  (63, .ireturn, 1, 63, 1, 0, 0, 0),
  (64, .aload_n 3, 1, 6, 3, 0, 0, 0),
  (65, .invokevirtual 43, 3, 58, 4, 0, 0, 239),
  (68, .aload_n 3, 1, 6, 3, 0, 0, 0),
  (69, .aload 7, 2, 6, 7, 0, 0, 0),
  (71, .getstatic 126, 3, 44, 0, 1, 0, 325),
  (74, .iload 6, 2, 4, 6, 0, 0, 0),
  (76, .iaload, 1, 45, 0, 0, 0, 0),
  (77, .iload_n 1, 1, 4, 1, 0, 0, 0),
  (78, .bipush 110, 2, 1, 0, 0, 110, 0),
  (80, .if_icmp .ne 10, 3, 77, 90, 0, 0, 0),
  (83, .iload 5, 2, 4, 5, 0, 0, 0),
  (85, .iconst 1, 1, 1, 0, 0, 1, 0),
  (86, .isub, 1, 12, 0, 0, 0, 0),
  (87, .goto 6, 3, 37, 93, 0, 0, 0),
  (90, .iload 5, 2, 4, 5, 0, 0, 0),
  (92, .ineg, 1, 16, 0, 0, 0, 0),
  (93, .invokevirtual 129, 3, 58, 17, 0, 0, 326),
  (96, .iconst 1, 1, 1, 0, 0, 1, 0),
  (97, .ireturn, 1, 63, 1, 0, 0, 0)]
def vC_45 : List vent := vC_45_0
def vC_46_0 : List vent := [(0, .aload_n 0, 1, 6, 0, 0, 0, 0),
  (1, .iload_n 1, 1, 4, 1, 0, 0, 0),
  (2, .bipush 120, 2, 1, 0, 0, 120, 0),
  (4, .if_icmp .ne 7, 3, 77, 11, 0, 0, 0),
  (7, .iconst 0, 1, 1, 0, 0, 0, 0),
  (8, .goto 4, 3, 37, 12, 0, 0, 0),
  (11, .iconst 1, 1, 1, 0, 0, 1, 0),
  (12, .iload_n 1, 1, 4, 1, 0, 0, 0),
  (13, .invokestatic 102, 3, 59, 50, 0, 0, 287),
  (16, .invokevirtual 106, 3, 58, 49, 0, 0, 290),
  (19, .istore 5, 2, 7, 5, 0, 0, 0),
  (21, .iload 5, 2, 4, 5, 0, 0, 0),
  (23, .iconst (-1), 1, 1, 0, 0, (-1), 0),
  (24, .if_icmp .ne 5, 3, 77, 29, 0, 0, 0),
  (27, .iconst 0, 1, 1, 0, 0, 0, 0),
  (28, .ireturn, 1, 63, 1, 0, 0, 0),
  (29, .aload_n 0, 1, 6, 0, 0, 0, 0),
  (30, .iload_n 2, 1, 4, 2, 0, 0, 0),
  (31, .aload 4, 2, 6, 4, 0, 0, 0),
  (33, .invokevirtual 123, 3, 58, 48, 0, 0, 275),
  (36, .astore 6, 2, 9, 6, 0, 0, 0),
  (38, .aload 6, 2, 6, 6, 0, 0, 0),
  (40, .ifnonnull 5, 3, 41, 45, 0, 0, 0),
  (43, .iconst 0, 1, 1, 0, 0, 0, 0),
  (44, .ireturn, 1, 63, 1, 0, 0, 0),
  (45, .aload_n 3, 1, 6, 3, 0, 0, 0),
  (46, .invokevirtual 43, 3, 58, 4, 0, 0, 239),
  (49, .iload_n 1, 1, 4, 1, 0, 0, 0),
  (50, .bipush 115, 2, 1, 0, 0, 115, 0),
  (52, .if_icmp .ne 14, 3, 77, 66, 0, 0, 0),
  (55, .aload_n 3, 1, 6, 3, 0, 0, 0),
  (56, .aload 6, 2, 6, 6, 0, 0, 0),
  (58, .iload 5, 2, 4, 5, 0, 0, 0),
  (60, .invokevirtual 133, 3, 58, 15, 0, 0, 348),
  (63, .goto 59, 3, 37, 122, 0, 0, 0),
  (66, .iload_n 1, 1, 4, 1, 0, 0, 0),
  (67, .bipush 98, 2, 1, 0, 0, 98, 0),
  (69, .if_icmp .ne 15, 3, 77, 84, 0, 0, 0),
  (72, .aload_n 3, 1, 6, 3, 0, 0, 0),
  (73, .aload 6, 2, 6, 6, 0, 0, 0),
  (75, .iload 5, 2, 4, 5, 0, 0, 0),
  (77, .ineg, 1, 16, 0, 0, 0, 0),
  (78, .invokevirtual 133, 3, 58, 15, 0, 0, 348),
  (81, .goto 41, 3, 37, 122, 0, 0, 0),
  (84, .iload_n 1, 1, 4, 1, 0, 0, 0),
  (85, .bipush 112, 2, 1, 0, 0, 112, 0),
  (87, .if_icmp .ne 14, 3, 77, 101, 0, 0, 0),
  (90, .aload_n 3, 1, 6, 3, 0, 0, 0),
  (91, .aload 6, 2, 6, 6, 0, 0, 0),
  (93, .iload 5, 2, 4, 5, 0, 0, 0),
  (95, .invokevirtual 137, 3, 58, 16, 0, 0, 352),
  (98, .goto 24, 3, 37, 122, 0, 0, 0),
  (101, .aload_n 3, 1, 6, 3, 0, 0, 0),
  (102, .aload 6, 2, 6, 6, 0, 0, 0),
  (104, .invokevirtual 85, 3, 58, 5, 0, 0, 279),
  (107, .aload_n 3, 1, 6, 3, 0, 0, 0),
  (108, .aload 6, 2, 6, 6, 0, 0, 0),
  (110, .iconst 0, 1, 1, 0, 0, 0, 0),
  (111, .sipush 719, 3, 1, 0, 0, 719, 0),
  (114, .iload 5, 2, 4, 5, 0, 0, 0),
  (116, .invokevirtual 140, 3, 58, 12, 0, 0, 356),
  (119, .invokevirtual 144, 3, 58, 3, 0, 0, 357),
  (122, .iconst 1, 1, 1, 0, 0, 1, 0),
  (123, .ireturn, 1, 63, 1, 0, 0, 0)]
def vC_46 : List vent := vC_46_0
def vC_47_0 : List vent := [(0, .aload_n 0, 1, 6, 0, 0, 0, 0),
  (1, .iload_n 1, 1, 4, 1, 0, 0, 0),
  (2, .aload_n 3, 1, 6, 3, 0, 0, 0),
  (3, .invokevirtual 123, 3, 58, 48, 0, 0, 275),
  (6, .astore 4, 2, 9, 4, 0, 0, 0),
  (8, .aload 4, 2, 6, 4, 0, 0, 0),
  (10, .ifnonnull 5, 3, 41, 15, 0, 0, 0),
  (13, .iconst 0, 1, 1, 0, 0, 0, 0),
  (14, .ireturn, 1, 63, 1, 0, 0, 0),
  (15, .aload_n 2, 1, 6, 2, 0, 0, 0),
  (16, .aload 4, 2, 6, 4, 0, 0, 0),
  (18, .invokevirtual 85, 3, 58, 5, 0, 0, 279),
  (21, .iconst 1, 1, 1, 0, 0, 1, 0),
  (22, .ireturn, 1, 63, 1, 0, 0, 0)]
def vC_47 : List vent := vC_47_0
def vC_48_0 : List vent := [(0, .iload_n 1, 1, 4, 1, 0, 0, 0),
  (1, .iconst 5, 1, 1, 0, 0, 5, 0),
  (2, .if_icmp .ge 12, 3, 79, 14, 0, 0, 0),
  (5, .aload_n 0, 1, 6, 0, 0, 0, 0),
  (6, .bipush 40, 2, 1, 0, 0, 40, 0),
  (8, .invokevirtual 56, 3, 58, 37, 0, 0, 256),
  (11, .ifCond .ne 5, 3, 71, 16, 0, 0, 0),
  (14, .aconst_null, 1, 3, 0, 0, 0, 0),
  (15, .areturn, 1, 65, 0, 0, 0, 0),
  (16, .aload_n 0, 1, 6, 0, 0, 0, 0),
  (17, .iload_n 1, 1, 4, 1, 0, 0, 0),
  (18, .iconst 1, 1, 1, 0, 0, 1, 0),
  (19, .iadd, 1, 11, 0, 0, 0, 0),
  (20, .aload_n 2, 1, 6, 2, 0, 0, 0),
  (21, .invokevirtual 35, 3, 58, 38, 0, 0, 235),
  (24, .astore_n 3, 1, 9, 3, 0, 0, 0),
  (25, .aload_n 3, 1, 6, 3, 0, 0, 0),
  (26, .ifnull 16, 3, 40, 42, 0, 0, 0),
  (29, .aload_n 0, 1, 6, 0, 0, 0, 0),
  (30, .bipush 41, 2, 1, 0, 0, 41, 0),
  (32, .invokevirtual 56, 3, 58, 37, 0, 0, 256),
  (35, .ifCond .eq 7, 3, 70, 42, 0, 0, 0),
  (38, .aload_n 3, 1, 6, 3, 0, 0, 0),
  (39, .goto 4, 3, 37, 43, 0, 0, 0),
  (42, .aconst_null, 1, 3, 0, 0, 0, 0),
  (43, .areturn, 1, 65, 0, 0, 0, 0)]
def vC_48 : List vent := vC_48_0
def vC_49_0 : List vent := [(0, .aload_n 0, 1, 6, 0, 0, 0, 0),
  (1, .getfield 32, 3, 42, 3, 2, 0, 92),
  (4, .istore_n 3, 1, 7, 3, 0, 0, 0),
  (5, .iconst 0, 1, 1, 0, 0, 0, 0),
  (6, .istore 4, 2, 7, 4, 0, 0, 0),
  (8, .iconst 0, 1, 1, 0, 0, 0, 0),
  (9, .istore 5, 2, 7, 5, 0, 0, 0),
  (11, .iload 5, 2, 4, 5, 0, 0, 0),
  (13, .iconst 4, 1, 1, 0, 0, 4, 0),
  (14, .if_icmp .ge 52, 3, 79, 66, 0, 0, 0),
  (17, .aload_n 0, 1, 6, 0, 0, 0, 0),
  (18, .invokevirtual 39, 3, 58, 36, 0, 0, 260),
  (21, .bipush 48, 2, 1, 0, 0, 48, 0),
  (23, .if_icmp .lt 43, 3, 78, 66, 0, 0, 0),
  (26, .aload_n 0, 1, 6, 0, 0, 0, 0),
  (27, .invokevirtual 39, 3, 58, 36, 0, 0, 260),
  (30, .bipush 57, 2, 1, 0, 0, 57, 0),
  (32, .if_icmp .gt 34, 3, 80, 66, 0, 0, 0),
  (35, .iload 4, 2, 4, 4, 0, 0, 0),
  (37, .bipush 10, 2, 1, 0, 0, 10, 0),
  (39, .imul, 1, 13, 0, 0, 0, 0),
  (40, .aload_n 0, 1, 6, 0, 0, 0, 0),
  (41, .invokevirtual 39, 3, 58, 36, 0, 0, 260),
  (44, .iadd, 1, 11, 0, 0, 0, 0),
  (45, .bipush 48, 2, 1, 0, 0, 48, 0),
  (47, .isub, 1, 12, 0, 0, 0, 0),
  (48, .istore 4, 2, 7, 4, 0, 0, 0),
  (50, .aload_n 0, 1, 6, 0, 0, 0, 0),
  (51, .dup, 1, 34, 0, 0, 0, 0),
  (52, .getfield 32, 3, 42, 3, 2, 0, 92),
  (55, .iconst 1, 1, 1, 0, 0, 1, 0),
  (56, .iadd, 1, 11, 0, 0, 0, 0),
  (57, .putfield 32, 3, 43, 3, 2, 0, 92),
  (60, .iinc 5 1, 3, 10, 5, 0, 1, 0),
  (63, .goto (-52), 3, 37, 11, 0, 0, 0),
  (66, .aload_n 0, 1, 6, 0, 0, 0, 0),
  (67, .getfield 32, 3, 42, 3, 2, 0, 92),
  (70, .iload_n 3, 1, 4, 3, 0, 0, 0),
  (71, .if_icmp .ne 5, 3, 77, 76, 0, 0, 0),
  (74, .iconst (-1), 1, 1, 0, 0, (-1), 0),
  (75, .ireturn, 1, 63, 0, 0, 0, 0),
  (76, .iload 4, 2, 4, 4, 0, 0, 0),
  (78, .iload_n 1, 1, 4, 1, 0, 0, 0),
  (79, .if_icmp .lt 9, 3, 78, 88, 0, 0, 0),
  (82, .iload 4, 2, 4, 4, 0, 0, 0),
  (84, .iload_n 2, 1, 4, 2, 0, 0, 0),
  (85, .if_icmp .le 10, 3, 81, 95, 0, 0, 0),
  (88, .aload_n 0, 1, 6, 0, 0, 0, 0),
  (89, .iload_n 3, 1, 4, 3, 0, 0, 0),
  (90, .putfield 32, 3, 43, 3, 2, 0, 92),
  (93, .iconst (-1), 1, 1, 0, 0, (-1), 0),
  (94, .ireturn, 1, 63, 0, 0, 0, 0),
  (95, .iload 4, 2, 4, 4, 0, 0, 0),
  (97, .ireturn, 1, 63, 0, 0, 0, 0)]
def vC_49 : List vent := vC_49_0
def vC_50_0 : List vent := [(0, .iload_n 0, 1, 4, 0, 0, 0, 0),
  (1, .tableswitch 117 100 121 #[106, 117, 117, 117, 117, 117, 117, 117, 114, 109, 114, 117, 114, 117, 117, 117, 117, 117, 117, 103, 117, 112], 103, 67, 2, 0, 0, 0),
  (104, .bipush 6, 2, 1, 0, 0, 6, 0),
  (106, .ireturn, 1, 63, 0, 0, 0, 0),
  (107, .bipush 30, 2, 1, 0, 0, 30, 0),
  (109, .ireturn, 1, 63, 0, 0, 0, 0),
  (110, .bipush 12, 2, 1, 0, 0, 12, 0),
  (112, .ireturn, 1, 63, 0, 0, 0, 0),
  (113, .iconst 1, 1, 1, 0, 0, 1, 0),
  (114, .ireturn, 1, 63, 0, 0, 0, 0),
  (115, .bipush 99, 2, 1, 0, 0, 99, 0),
  (117, .ireturn, 1, 63, 0, 0, 0, 0),
  (118, .sipush 719, 3, 1, 0, 0, 719, 0),
  (121, .ireturn, 1, 63, 0, 0, 0, 0)]
def vC_50 : List vent := vC_50_0
def vC_51_0 : List vent := [(0, .iload_n 0, 1, 4, 0, 0, 0, 0),
  (1, .lookupswitch 41 #[(109, 37), (119, 35), (121, 39)], 35, 67, 3, 1, 0, 0),
  (36, .iconst 0, 1, 1, 0, 0, 0, 0),
  (37, .ireturn, 1, 63, 0, 0, 0, 0),
  (38, .iconst 1, 1, 1, 0, 0, 1, 0),
  (39, .ireturn, 1, 63, 0, 0, 0, 0),
  (40, .iconst 2, 1, 1, 0, 0, 2, 0),
  (41, .ireturn, 1, 63, 0, 0, 0, 0),
  (42, .iconst (-1), 1, 1, 0, 0, (-1), 0),
  (43, .ireturn, 1, 63, 0, 0, 0, 0)]
def vC_51 : List vent := vC_51_0
def vC_52_0 : List vent := [(0, .aload_n 0, 1, 6, 0, 0, 0, 0),
  (1, .invokespecial 3, 3, 61, 0, 0, 0, 172),
  (4, .aload_n 0, 1, 6, 0, 0, 0, 0),
  (5, .bipush 30, 2, 1, 0, 0, 30, 0),
  (7, .newarray .int, 2, 55, 0, 0, 0, 0),
  (9, .putfield 9, 3, 68, 4, 2, 0, 177),
  (12, .return_, 1, 66, 0, 0, 0, 0)]
def vC_52 : List vent := vC_52_0
def vC_53_0 : List vent := [(0, .aload_n 0, 1, 6, 0, 0, 0, 0),
  (1, .iconst 1, 1, 1, 0, 0, 1, 0),
  (2, .putfield 15, 3, 43, 4, 0, 0, 173),
  (5, .aload_n 0, 1, 6, 0, 0, 0, 0),
  (6, .iload_n 1, 1, 4, 1, 0, 0, 0),
  (7, .putfield 19, 3, 43, 4, 1, 0, 175),
  (10, .iconst 0, 1, 1, 0, 0, 0, 0),
  (11, .istore_n 2, 1, 7, 2, 0, 0, 0),
  (12, .iload_n 2, 1, 4, 2, 0, 0, 0),
  (13, .bipush 30, 2, 1, 0, 0, 30, 0),
  (15, .if_icmp .ge 16, 3, 79, 31, 0, 0, 0),
  (18, .aload_n 0, 1, 6, 0, 0, 0, 0),
  (19, .getfield 9, 3, 42, 4, 2, 0, 177),
  (22, .iload_n 2, 1, 4, 2, 0, 0, 0),
  (23, .iconst 0, 1, 1, 0, 0, 0, 0),
  (24, .iastore, 1, 49, 0, 0, 0, 0),
  (25, .iinc 2 1, 3, 10, 2, 0, 1, 0),
  (28, .goto (-16), 3, 37, 12, 0, 0, 0),
  (31, .return_, 1, 66, 0, 0, 0, 0)]
def vC_53 : List vent := vC_53_0
def vC_54_0 : List vent := [(0, .aload_n 0, 1, 6, 0, 0, 0, 0),
  (1, .invokespecial 3, 3, 61, 0, 0, 0, 65),
  (4, .aload_n 0, 1, 6, 0, 0, 0, 0),
  (5, .bipush 10, 2, 1, 0, 0, 10, 0),
  (7, .anewarray 9, 3, 56, 3, 0, 0, 68),
  (10, .putfield 11, 3, 68, 5, 0, 0, 186),
  (13, .aload_n 0, 1, 6, 0, 0, 0, 0),
  (14, .bipush 10, 2, 1, 0, 0, 10, 0),
  (16, .anewarray 9, 3, 56, 3, 0, 0, 68),
  (19, .putfield 15, 3, 68, 5, 1, 0, 187),
  (22, .aload_n 0, 1, 6, 0, 0, 0, 0),
  (23, .new 18, 3, 54, 3, 6, 0, 70),
  (26, .dup, 1, 34, 0, 0, 0, 0),
  (27, .invokespecial 20, 3, 60, 32, 0, 0, 72),
  (30, .putfield 21, 3, 68, 5, 3, 0, 189),
  (33, .aload_n 0, 1, 6, 0, 0, 0, 0),
  (34, .new 25, 3, 54, 1, 4, 0, 110),
  (37, .dup, 1, 34, 0, 0, 0, 0),
  (38, .invokespecial 27, 3, 83, 20, 0, 0, 112),
  (41, .putfield 28, 3, 68, 5, 4, 0, 190),
  (44, .aload_n 0, 1, 6, 0, 0, 0, 0),
  (45, .iconst 4, 1, 1, 0, 0, 4, 0),
  (46, .anewarray 32, 3, 56, 5, 0, 0, 135),
  (49, .putfield 34, 3, 68, 5, 5, 0, 191),
  (52, .aload_n 0, 1, 6, 0, 0, 0, 0),
  (53, .new 38, 3, 54, 0, 1, 0, 137),
  (56, .dup, 1, 34, 0, 0, 0, 0),
  (57, .invokespecial 40, 3, 83, 0, 0, 0, 138),
  (60, .putfield 41, 3, 68, 5, 6, 0, 192),
  (63, .iconst 0, 1, 1, 0, 0, 0, 0),
  (64, .istore_n 1, 1, 7, 1, 0, 0, 0),
  (65, .iload_n 1, 1, 4, 1, 0, 0, 0),
  (66, .bipush 10, 2, 1, 0, 0, 10, 0),
  (68, .if_icmp .ge 35, 3, 79, 103, 0, 0, 0),
  (71, .aload_n 0, 1, 6, 0, 0, 0, 0),
  (72, .getfield 11, 3, 42, 5, 0, 0, 186),
  (75, .iload_n 1, 1, 4, 1, 0, 0, 0),
  (76, .new 9, 3, 54, 2, 5, 0, 68),
  (79, .dup, 1, 34, 0, 0, 0, 0),
  (80, .invokespecial 45, 3, 83, 27, 0, 0, 140),
  (83, .aastore, 1, 52, 0, 0, 0, 0),
  (84, .aload_n 0, 1, 6, 0, 0, 0, 0),
  (85, .getfield 15, 3, 42, 5, 1, 0, 187),
  (88, .iload_n 1, 1, 4, 1, 0, 0, 0),
  (89, .new 9, 3, 54, 2, 5, 0, 68),
  (92, .dup, 1, 34, 0, 0, 0, 0),
  (93, .invokespecial 45, 3, 83, 27, 0, 0, 140),
  (96, .aastore, 1, 52, 0, 0, 0, 0),
  (97, .iinc 1 1, 3, 10, 1, 0, 1, 0),
  (100, .goto (-35), 3, 37, 65, 0, 0, 0),
  (103, .iconst 0, 1, 1, 0, 0, 0, 0),
  (104, .istore_n 1, 1, 7, 1, 0, 0, 0),
  (105, .iload_n 1, 1, 4, 1, 0, 0, 0),
  (106, .iconst 4, 1, 1, 0, 0, 4, 0),
  (107, .if_icmp .ge 22, 3, 79, 129, 0, 0, 0),
  (110, .aload_n 0, 1, 6, 0, 0, 0, 0),
  (111, .getfield 34, 3, 42, 5, 5, 0, 191),
  (114, .iload_n 1, 1, 4, 1, 0, 0, 0),
  (115, .new 32, 3, 54, 4, 3, 0, 135),
  (118, .dup, 1, 34, 0, 0, 0, 0),
  (119, .invokespecial 46, 3, 83, 52, 0, 0, 169),
  (122, .aastore, 1, 52, 0, 0, 0, 0),
  (123, .iinc 1 1, 3, 10, 1, 0, 1, 0),
  (126, .goto (-21), 3, 37, 105, 0, 0, 0),
  (129, .return_, 1, 66, 0, 0, 0, 0)]
def vC_54 : List vent := vC_54_0
def vC_55_0 : List vent := [(0, .iload_n 1, 1, 4, 1, 0, 0, 0),
  (1, .iconst 1, 1, 1, 0, 0, 1, 0),
  (2, .if_icmp .lt 9, 3, 78, 11, 0, 0, 0),
  (5, .iload_n 1, 1, 4, 1, 0, 0, 0),
  (6, .bipush 127, 2, 1, 0, 0, 127, 0),
  (8, .if_icmp .le 6, 3, 81, 14, 0, 0, 0),
  (11, .bipush (-2), 2, 1, 0, 0, (-2), 0),
  (13, .ireturn, 1, 63, 0, 0, 0, 0),
  (14, .aload_n 0, 1, 6, 0, 0, 0, 0),
  (15, .getfield 21, 3, 42, 5, 3, 0, 189),
  (18, .iload_n 1, 1, 4, 1, 0, 0, 0),
  (19, .invokevirtual 47, 3, 58, 33, 0, 0, 212),
  (22, .ireturn, 1, 63, 0, 0, 0, 0)]
def vC_55 : List vent := vC_55_0
def vC_56_0 : List vent := [(0, .aload_n 0, 1, 6, 0, 0, 0, 0),
  (1, .getfield 21, 3, 42, 5, 3, 0, 189),
  (4, .invokevirtual 51, 3, 58, 34, 0, 0, 220),
  (7, .ireturn, 1, 63, 0, 0, 0, 0)]
def vC_56 : List vent := vC_56_0
def vC_57_0 : List vent := [(0, .iload_n 1, 1, 4, 1, 0, 0, 0),
  (1, .invokestatic 55, 3, 59, 87, 0, 0, 228),
  (4, .ifCond .ne 5, 3, 71, 9, 0, 0, 0),
  (7, .iconst (-1), 1, 1, 0, 0, (-1), 0),
  (8, .ireturn, 1, 63, 0, 0, 0, 0),
  (9, .aload_n 0, 1, 6, 0, 0, 0, 0),
  (10, .getfield 21, 3, 42, 5, 3, 0, 189),
  (13, .aload_n 0, 1, 6, 0, 0, 0, 0),
  (14, .getfield 11, 3, 42, 5, 0, 0, 186),
  (17, .invokevirtual 59, 3, 58, 35, 0, 0, 231),
  (20, .astore_n 2, 1, 9, 2, 0, 0, 0),
  (21, .aload_n 0, 1, 6, 0, 0, 0, 0),
  (22, .getfield 21, 3, 42, 5, 3, 0, 189),
  (25, .getfield 63, 3, 42, 3, 2, 0, 93),
  (28, .istore_n 3, 1, 7, 3, 0, 0, 0),
  (29, .aload_n 0, 1, 6, 0, 0, 0, 0),
  (30, .getfield 21, 3, 42, 5, 3, 0, 189),
  (33, .invokevirtual 51, 3, 58, 34, 0, 0, 220),
  (36, .pop, 1, 36, 0, 0, 0, 0),
  (37, .aload_n 2, 1, 6, 2, 0, 0, 0),
  (38, .ifnonnull 8, 3, 41, 46, 0, 0, 0),
  (41, .bipush (-100), 2, 1, 0, 0, (-100), 0),
  (43, .iload_n 3, 1, 4, 3, 0, 0, 0),
  (44, .isub, 1, 12, 0, 0, 0, 0),
  (45, .ireturn, 1, 63, 0, 0, 0, 0),
  (46, .aload_n 0, 1, 6, 0, 0, 0, 0),
  (47, .getfield 11, 3, 42, 5, 0, 0, 186),
  (50, .iload_n 1, 1, 4, 1, 0, 0, 0),
  (51, .aaload, 1, 48, 0, 0, 0, 0),
  (52, .iconst 1, 1, 1, 0, 0, 1, 0),
  (53, .aload_n 2, 1, 6, 2, 0, 0, 0),
  (54, .invokevirtual 67, 3, 58, 28, 0, 0, 374),
  (57, .aload_n 0, 1, 6, 0, 0, 0, 0),
  (58, .getfield 28, 3, 42, 5, 4, 0, 190),
  (61, .iload_n 1, 1, 4, 1, 0, 0, 0),
  (62, .invokevirtual 71, 3, 58, 25, 0, 0, 385),
  (65, .aload_n 2, 1, 6, 2, 0, 0, 0),
  (66, .invokevirtual 75, 3, 58, 10, 0, 0, 389),
  (69, .ireturn, 1, 63, 0, 0, 0, 0)]
def vC_57 : List vent := vC_57_0
def vC_58_0 : List vent := [(0, .iload_n 1, 1, 4, 1, 0, 0, 0),
  (1, .invokestatic 55, 3, 59, 87, 0, 0, 228),
  (4, .ifCond .ne 5, 3, 71, 9, 0, 0, 0),
  (7, .iconst (-1), 1, 1, 0, 0, (-1), 0),
  (8, .ireturn, 1, 63, 0, 0, 0, 0),
  (9, .aload_n 0, 1, 6, 0, 0, 0, 0),
  (10, .getfield 11, 3, 42, 5, 0, 0, 186),
  (13, .iload_n 1, 1, 4, 1, 0, 0, 0),
  (14, .aaload, 1, 48, 0, 0, 0, 0),
  (15, .astore_n 2, 1, 9, 2, 0, 0, 0),
  (16, .aload_n 2, 1, 6, 2, 0, 0, 0),
  (17, .getfield 78, 3, 42, 2, 0, 0, 147),
  (20, .ifCond .ne 6, 3, 71, 26, 0, 0, 0),
  (23, .bipush (-3), 2, 1, 0, 0, (-3), 0),
  (25, .ireturn, 1, 63, 0, 0, 0, 0),
  (26, .aload_n 2, 1, 6, 2, 0, 0, 0),
  (27, .getfield 82, 3, 42, 2, 1, 0, 149),
  (30, .invokevirtual 75, 3, 58, 10, 0, 0, 389),
  (33, .istore_n 3, 1, 7, 3, 0, 0, 0),
  (34, .aload_n 2, 1, 6, 2, 0, 0, 0),
  (35, .invokevirtual 85, 3, 58, 29, 0, 0, 403),
  (38, .aload_n 0, 1, 6, 0, 0, 0, 0),
  (39, .getfield 28, 3, 42, 5, 4, 0, 190),
  (42, .iload_n 1, 1, 4, 1, 0, 0, 0),
  (43, .invokevirtual 71, 3, 58, 25, 0, 0, 385),
  (46, .iload_n 3, 1, 4, 3, 0, 0, 0),
  (47, .ireturn, 1, 63, 0, 0, 0, 0)]
def vC_58 : List vent := vC_58_0
def vC_59_0 : List vent := [(0, .iload_n 1, 1, 4, 1, 0, 0, 0),
  (1, .invokestatic 55, 3, 59, 87, 0, 0, 228),
  (4, .ifCond .eq 10, 3, 70, 14, 0, 0, 0),
  (7, .iload_n 2, 1, 4, 2, 0, 0, 0),
  (8, .invokestatic 55, 3, 59, 87, 0, 0, 228),
  (11, .ifCond .ne 5, 3, 71, 16, 0, 0, 0),
  (14, .iconst (-1), 1, 1, 0, 0, (-1), 0),
  (15, .ireturn, 1, 63, 0, 0, 0, 0),
  (16, .aload_n 0, 1, 6, 0, 0, 0, 0),
  (17, .getfield 11, 3, 42, 5, 0, 0, 186),
  (20, .iload_n 1, 1, 4, 1, 0, 0, 0),
  (21, .aaload, 1, 48, 0, 0, 0, 0),
  (22, .astore_n 3, 1, 9, 3, 0, 0, 0),
  (23, .aload_n 3, 1, 6, 3, 0, 0, 0),
  (24, .getfield 78, 3, 42, 2, 0, 0, 147),
  (27, .ifCond .ne 6, 3, 71, 33, 0, 0, 0),
  (30, .bipush (-3), 2, 1, 0, 0, (-3), 0),
  (32, .ireturn, 1, 63, 0, 0, 0, 0),
  (33, .aload_n 0, 1, 6, 0, 0, 0, 0),
  (34, .getfield 11, 3, 42, 5, 0, 0, 186),
  (37, .iload_n 2, 1, 4, 2, 0, 0, 0),
  (38, .aaload, 1, 48, 0, 0, 0, 0),
  (39, .iconst 1, 1, 1, 0, 0, 1, 0),
  (40, .aload_n 3, 1, 6, 3, 0, 0, 0),
  (41, .getfield 82, 3, 42, 2, 1, 0, 149),
  (44, .invokevirtual 67, 3, 58, 28, 0, 0, 374),
  (47, .aload_n 0, 1, 6, 0, 0, 0, 0),
  (48, .getfield 28, 3, 42, 5, 4, 0, 190),
  (51, .iload_n 2, 1, 4, 2, 0, 0, 0),
  (52, .invokevirtual 71, 3, 58, 25, 0, 0, 385),
  (55, .aload_n 3, 1, 6, 3, 0, 0, 0),
  (56, .getfield 82, 3, 42, 2, 1, 0, 149),
  (59, .invokevirtual 75, 3, 58, 10, 0, 0, 389),
  (62, .ireturn, 1, 63, 0, 0, 0, 0)]
def vC_59 : List vent := vC_59_0
def vC_60_0 : List vent := [(0, .iload_n 1, 1, 4, 1, 0, 0, 0),
  (1, .invokestatic 55, 3, 59, 87, 0, 0, 228),
  (4, .ifCond .ne 5, 3, 71, 9, 0, 0, 0),
  (7, .iconst (-1), 1, 1, 0, 0, (-1), 0),
  (8, .ireturn, 1, 63, 0, 0, 0, 0),
  (9, .aload_n 0, 1, 6, 0, 0, 0, 0),
  (10, .iload_n 1, 1, 4, 1, 0, 0, 0),
  (11, .aload_n 0, 1, 6, 0, 0, 0, 0),
  (12, .getfield 11, 3, 42, 5, 0, 0, 186),
  (15, .iload_n 1, 1, 4, 1, 0, 0, 0),
  (16, .aaload, 1, 48, 0, 0, 0, 0),
  (17, .getfield 88, 3, 42, 2, 2, 0, 151),
  (20, .iload_n 2, 1, 4, 2, 0, 0, 0),
  (21, .invokevirtual 91, 3, 58, 94, 0, 0, 416),
  (24, .ireturn, 1, 63, 0, 0, 0, 0)]
def vC_60 : List vent := vC_60_0
def vC_61_0 : List vent := [(0, .iload_n 1, 1, 4, 1, 0, 0, 0),
  (1, .invokestatic 55, 3, 59, 87, 0, 0, 228),
  (4, .ifCond .ne 5, 3, 71, 9, 0, 0, 0),
  (7, .iconst (-1), 1, 1, 0, 0, (-1), 0),
  (8, .ireturn, 1, 63, 0, 0, 0, 0),
  (9, .aload_n 0, 1, 6, 0, 0, 0, 0),
  (10, .iload_n 1, 1, 4, 1, 0, 0, 0),
  (11, .aload_n 0, 1, 6, 0, 0, 0, 0),
  (12, .getfield 11, 3, 42, 5, 0, 0, 186),
  (15, .iload_n 1, 1, 4, 1, 0, 0, 0),
  (16, .aaload, 1, 48, 0, 0, 0, 0),
  (17, .getfield 95, 3, 42, 2, 3, 0, 153),
  (20, .iload_n 2, 1, 4, 2, 0, 0, 0),
  (21, .invokevirtual 91, 3, 58, 94, 0, 0, 416),
  (24, .ireturn, 1, 63, 0, 0, 0, 0)]
def vC_61 : List vent := vC_61_0
def vC_62_0 : List vent := [(0, .iload_n 1, 1, 4, 1, 0, 0, 0),
  (1, .invokestatic 55, 3, 59, 87, 0, 0, 228),
  (4, .ifCond .ne 5, 3, 71, 9, 0, 0, 0),
  (7, .iconst (-1), 1, 1, 0, 0, (-1), 0),
  (8, .ireturn, 1, 63, 0, 0, 0, 0),
  (9, .iload_n 2, 1, 4, 2, 0, 0, 0),
  (10, .invokestatic 98, 3, 59, 88, 0, 0, 420),
  (13, .ifCond .ne 6, 3, 71, 19, 0, 0, 0),
  (16, .bipush (-2), 2, 1, 0, 0, (-2), 0),
  (18, .ireturn, 1, 63, 0, 0, 0, 0),
  (19, .aload_n 0, 1, 6, 0, 0, 0, 0),
  (20, .getfield 11, 3, 42, 5, 0, 0, 186),
  (23, .iload_n 1, 1, 4, 1, 0, 0, 0),
  (24, .aaload, 1, 48, 0, 0, 0, 0),
  (25, .getfield 101, 3, 42, 2, 4, 0, 155),
  (28, .iload_n 2, 1, 4, 2, 0, 0, 0),
  (29, .invokevirtual 104, 3, 58, 1, 0, 0, 421),
  (32, .ifCond .eq 7, 3, 70, 39, 0, 0, 0),
  (35, .iconst 1, 1, 1, 0, 0, 1, 0),
  (36, .goto 4, 3, 37, 40, 0, 0, 0),
  (39, .iconst 0, 1, 1, 0, 0, 0, 0),
  (40, .ireturn, 1, 63, 0, 0, 0, 0)]
def vC_62 : List vent := vC_62_0
def vC_63_0 : List vent := [(0, .iload_n 1, 1, 4, 1, 0, 0, 0),
  (1, .invokestatic 55, 3, 59, 87, 0, 0, 228),
  (4, .ifCond .ne 5, 3, 71, 9, 0, 0, 0),
  (7, .iconst (-1), 1, 1, 0, 0, (-1), 0),
  (8, .ireturn, 1, 63, 0, 0, 0, 0),
  (9, .iload_n 2, 1, 4, 2, 0, 0, 0),
  (10, .invokestatic 98, 3, 59, 88, 0, 0, 420),
  (13, .ifCond .ne 6, 3, 71, 19, 0, 0, 0),
  (16, .bipush (-2), 2, 1, 0, 0, (-2), 0),
  (18, .ireturn, 1, 63, 0, 0, 0, 0),
  (19, .aload_n 0, 1, 6, 0, 0, 0, 0),
  (20, .getfield 11, 3, 42, 5, 0, 0, 186),
  (23, .iload_n 1, 1, 4, 1, 0, 0, 0),
  (24, .aaload, 1, 48, 0, 0, 0, 0),
  (25, .getfield 101, 3, 42, 2, 4, 0, 155),
  (28, .iload_n 2, 1, 4, 2, 0, 0, 0),
  (29, .sipush 719, 3, 1, 0, 0, 719, 0),
  (32, .iconst 0, 1, 1, 0, 0, 0, 0),
  (33, .invokevirtual 107, 3, 58, 12, 0, 0, 437),
  (36, .ireturn, 1, 63, 0, 0, 0, 0)]
def vC_63 : List vent := vC_63_0
def vC_64_0 : List vent := [(0, .iload_n 1, 1, 4, 1, 0, 0, 0),
  (1, .invokestatic 55, 3, 59, 87, 0, 0, 228),
  (4, .ifCond .ne 5, 3, 71, 9, 0, 0, 0),
  (7, .iconst (-1), 1, 1, 0, 0, (-1), 0),
  (8, .ireturn, 1, 63, 0, 0, 0, 0),
  (9, .iload_n 2, 1, 4, 2, 0, 0, 0),
  (10, .invokestatic 98, 3, 59, 88, 0, 0, 420),
  (13, .ifCond .ne 6, 3, 71, 19, 0, 0, 0),
  (16, .bipush (-2), 2, 1, 0, 0, (-2), 0),
  (18, .ireturn, 1, 63, 0, 0, 0, 0),
  (19, .aload_n 0, 1, 6, 0, 0, 0, 0),
  (20, .getfield 11, 3, 42, 5, 0, 0, 186),
  (23, .iload_n 1, 1, 4, 1, 0, 0, 0),
  (24, .aaload, 1, 48, 0, 0, 0, 0),
  (25, .getfield 101, 3, 42, 2, 4, 0, 155),
  (28, .iconst 0, 1, 1, 0, 0, 0, 0),
  (29, .iload_n 2, 1, 4, 2, 0, 0, 0),
  (30, .iconst (-1), 1, 1, 0, 0, (-1), 0),
  (31, .invokevirtual 107, 3, 58, 12, 0, 0, 437),
  (34, .ireturn, 1, 63, 0, 0, 0, 0)]
def vC_64 : List vent := vC_64_0
def vC_65_0 : List vent := [(0, .iload_n 1, 1, 4, 1, 0, 0, 0),
  (1, .invokestatic 55, 3, 59, 87, 0, 0, 228),
  (4, .ifCond .ne 5, 3, 71, 9, 0, 0, 0),
  (7, .iconst (-1), 1, 1, 0, 0, (-1), 0),
  (8, .ireturn, 1, 63, 0, 0, 0, 0),
  (9, .aload_n 0, 1, 6, 0, 0, 0, 0),
  (10, .getfield 11, 3, 42, 5, 0, 0, 186),
  (13, .iload_n 1, 1, 4, 1, 0, 0, 0),
  (14, .aaload, 1, 48, 0, 0, 0, 0),
  (15, .getfield 101, 3, 42, 2, 4, 0, 155),
  (18, .iconst 0, 1, 1, 0, 0, 0, 0),
  (19, .sipush 719, 3, 1, 0, 0, 719, 0),
  (22, .iload_n 2, 1, 4, 2, 0, 0, 0),
  (23, .invokevirtual 107, 3, 58, 12, 0, 0, 437),
  (26, .ireturn, 1, 63, 0, 0, 0, 0)]
def vC_65 : List vent := vC_65_0
def vC_66_0 : List vent := [(0, .iload_n 1, 1, 4, 1, 0, 0, 0),
  (1, .invokestatic 55, 3, 59, 87, 0, 0, 228),
  (4, .ifCond .ne 5, 3, 71, 9, 0, 0, 0),
  (7, .iconst (-1), 1, 1, 0, 0, (-1), 0),
  (8, .ireturn, 1, 63, 0, 0, 0, 0),
  (9, .iload_n 2, 1, 4, 2, 0, 0, 0),
  (10, .iload_n 3, 1, 4, 3, 0, 0, 0),
  (11, .invokestatic 111, 3, 59, 89, 0, 0, 450),
  (14, .ifCond .ne 6, 3, 71, 20, 0, 0, 0),
  (17, .bipush (-2), 2, 1, 0, 0, (-2), 0),
  (19, .ireturn, 1, 63, 0, 0, 0, 0),
  (20, .aload_n 0, 1, 6, 0, 0, 0, 0),
  (21, .getfield 11, 3, 42, 5, 0, 0, 186),
  (24, .iload_n 1, 1, 4, 1, 0, 0, 0),
  (25, .aaload, 1, 48, 0, 0, 0, 0),
  (26, .getfield 101, 3, 42, 2, 4, 0, 155),
  (29, .iload_n 2, 1, 4, 2, 0, 0, 0),
  (30, .iload_n 3, 1, 4, 3, 0, 0, 0),
  (31, .invokevirtual 115, 3, 58, 11, 0, 0, 453),
  (34, .istore 4, 2, 7, 4, 0, 0, 0),
  (36, .aload_n 0, 1, 6, 0, 0, 0, 0),
  (37, .getfield 28, 3, 42, 5, 4, 0, 190),
  (40, .iload_n 1, 1, 4, 1, 0, 0, 0),
  (41, .iload_n 2, 1, 4, 2, 0, 0, 0),
  (42, .iload_n 3, 1, 4, 3, 0, 0, 0),
  (43, .iload 4, 2, 4, 4, 0, 0, 0),
  (45, .invokevirtual 119, 3, 58, 21, 0, 0, 457),
  (48, .iload 4, 2, 4, 4, 0, 0, 0),
  (50, .ireturn, 1, 63, 0, 0, 0, 0)]
def vC_66 : List vent := vC_66_0
def vC_67_0 : List vent := [(0, .iload_n 1, 1, 4, 1, 0, 0, 0),
  (1, .invokestatic 55, 3, 59, 87, 0, 0, 228),
  (4, .ifCond .ne 5, 3, 71, 9, 0, 0, 0),
  (7, .iconst (-1), 1, 1, 0, 0, (-1), 0),
  (8, .ireturn, 1, 63, 0, 0, 0, 0),
  (9, .aload_n 0, 1, 6, 0, 0, 0, 0),
  (10, .getfield 11, 3, 42, 5, 0, 0, 186),
  (13, .iload_n 1, 1, 4, 1, 0, 0, 0),
  (14, .aaload, 1, 48, 0, 0, 0, 0),
  (15, .getfield 101, 3, 42, 2, 4, 0, 155),
  (18, .astore_n 2, 1, 9, 2, 0, 0, 0),
  (19, .iconst 0, 1, 1, 0, 0, 0, 0),
  (20, .istore_n 3, 1, 7, 3, 0, 0, 0),
  (21, .iconst 0, 1, 1, 0, 0, 0, 0),
  (22, .istore 4, 2, 7, 4, 0, 0, 0),
  (24, .iconst 0, 1, 1, 0, 0, 0, 0),
  (25, .istore 5, 2, 7, 5, 0, 0, 0),
  (27, .iload 5, 2, 4, 5, 0, 0, 0),
  (29, .sipush 720, 3, 1, 0, 0, 720, 0),
  (32, .if_icmp .ge 35, 3, 79, 67, 0, 0, 0),
  (35, .aload_n 2, 1, 6, 2, 0, 0, 0),
  (36, .iload 5, 2, 4, 5, 0, 0, 0),
  (38, .invokevirtual 104, 3, 58, 1, 0, 0, 421),
  (41, .ifCond .eq 7, 3, 70, 48, 0, 0, 0),
  (44, .iconst 0, 1, 1, 0, 0, 0, 0),
  (45, .goto 7, 3, 37, 52, 0, 0, 0),
  (48, .iload 4, 2, 4, 4, 0, 0, 0),
  (50, .iconst 1, 1, 1, 0, 0, 1, 0),
  (51, .iadd, 1, 11, 0, 0, 0, 0),
  (52, .istore 4, 2, 7, 4, 0, 0, 0),
  (54, .iload_n 3, 1, 4, 3, 0, 0, 0),
  (55, .iload 4, 2, 4, 4, 0, 0, 0),
  (57, .invokestatic 123, 3, 84, 0, 0, 0, 477),
  (60, .istore_n 3, 1, 7, 3, 0, 0, 0),
  (61, .iinc 5 1, 3, 10, 5, 0, 1, 0),
  (64, .goto (-37), 3, 37, 27, 0, 0, 0),
  (67, .iload_n 3, 1, 4, 3, 0, 0, 0),
  (68, .ireturn, 1, 63, 0, 0, 0, 0)]
def vC_67 : List vent := vC_67_0
def vC_68_0 : List vent := [(0, .iload_n 1, 1, 4, 1, 0, 0, 0),
  (1, .invokestatic 55, 3, 59, 87, 0, 0, 228),
  (4, .ifCond .ne 5, 3, 71, 9, 0, 0, 0),
  (7, .iconst (-1), 1, 1, 0, 0, (-1), 0),
  (8, .ireturn, 1, 63, 0, 0, 0, 0),
  (9, .iconst 1, 1, 1, 0, 0, 1, 0),
  (10, .istore_n 2, 1, 7, 2, 0, 0, 0),
  (11, .iload_n 2, 1, 4, 2, 0, 0, 0),
  (12, .sipush 360, 3, 1, 0, 0, 360, 0),
  (15, .if_icmp .gt 27, 3, 80, 42, 0, 0, 0),
  (18, .aload_n 0, 1, 6, 0, 0, 0, 0),
  (19, .getfield 11, 3, 42, 5, 0, 0, 186),
  (22, .iload_n 1, 1, 4, 1, 0, 0, 0),
  (23, .aaload, 1, 48, 0, 0, 0, 0),
  (24, .getfield 101, 3, 42, 2, 4, 0, 155),
  (27, .iload_n 2, 1, 4, 2, 0, 0, 0),
  (28, .invokevirtual 128, 3, 58, 19, 0, 0, 484),
  (31, .ifCond .eq 5, 3, 70, 36, 0, 0, 0),
  (34, .iload_n 2, 1, 4, 2, 0, 0, 0),
  (35, .ireturn, 1, 63, 0, 0, 0, 0),
  (36, .iinc 2 1, 3, 10, 2, 0, 1, 0),
  (39, .goto (-28), 3, 37, 11, 0, 0, 0),
  (42, .bipush (-5), 2, 1, 0, 0, (-5), 0),
  (44, .ireturn, 1, 63, 0, 0, 0, 0)]
def vC_68 : List vent := vC_68_0
def vC_69_0 : List vent := [(0, .iload_n 1, 1, 4, 1, 0, 0, 0),
  (1, .invokestatic 55, 3, 59, 87, 0, 0, 228),
  (4, .ifCond .eq 10, 3, 70, 14, 0, 0, 0),
  (7, .iload_n 2, 1, 4, 2, 0, 0, 0),
  (8, .invokestatic 55, 3, 59, 87, 0, 0, 228),
  (11, .ifCond .ne 5, 3, 71, 16, 0, 0, 0),
  (14, .iconst (-1), 1, 1, 0, 0, (-1), 0),
  (15, .ireturn, 1, 63, 0, 0, 0, 0),
  (16, .iload_n 3, 1, 4, 3, 0, 0, 0),
  (17, .invokestatic 98, 3, 59, 88, 0, 0, 420),
  (20, .ifCond .ne 6, 3, 71, 26, 0, 0, 0),
  (23, .bipush (-2), 2, 1, 0, 0, (-2), 0),
  (25, .ireturn, 1, 63, 0, 0, 0, 0),
  (26, .aload_n 0, 1, 6, 0, 0, 0, 0),
  (27, .getfield 11, 3, 42, 5, 0, 0, 186),
  (30, .iload_n 1, 1, 4, 1, 0, 0, 0),
  (31, .aaload, 1, 48, 0, 0, 0, 0),
  (32, .getfield 101, 3, 42, 2, 4, 0, 155),
  (35, .astore 4, 2, 9, 4, 0, 0, 0),
  (37, .aload_n 0, 1, 6, 0, 0, 0, 0),
  (38, .getfield 11, 3, 42, 5, 0, 0, 186),
  (41, .iload_n 2, 1, 4, 2, 0, 0, 0),
  (42, .aaload, 1, 48, 0, 0, 0, 0),
  (43, .getfield 101, 3, 42, 2, 4, 0, 155),
  (46, .astore 5, 2, 9, 5, 0, 0, 0),
  (48, .iload_n 3, 1, 4, 3, 0, 0, 0),
  (49, .istore 6, 2, 7, 6, 0, 0, 0),
  (51, .iload 6, 2, 4, 6, 0, 0, 0),
  (53, .sipush 720, 3, 1, 0, 0, 720, 0),
  (56, .if_icmp .ge 32, 3, 79, 88, 0, 0, 0),
  (59, .aload 4, 2, 6, 4, 0, 0, 0),
  (61, .iload 6, 2, 4, 6, 0, 0, 0),
  (63, .invokevirtual 104, 3, 58, 1, 0, 0, 421),
  (66, .ifCond .eq 16, 3, 70, 82, 0, 0, 0),
  (69, .aload 5, 2, 6, 5, 0, 0, 0),
  (71, .iload 6, 2, 4, 6, 0, 0, 0),
  (73, .invokevirtual 104, 3, 58, 1, 0, 0, 421),
  (76, .ifCond .eq 6, 3, 70, 82, 0, 0, 0),
  (79, .iload 6, 2, 4, 6, 0, 0, 0),
  (81, .ireturn, 1, 63, 0, 0, 0, 0),
  (82, .iinc 6 1, 3, 10, 6, 0, 1, 0),
  (85, .goto (-34), 3, 37, 51, 0, 0, 0),
  (88, .bipush (-5), 2, 1, 0, 0, (-5), 0),
  (90, .ireturn, 1, 63, 0, 0, 0, 0)]
def vC_69 : List vent := vC_69_0
def vC_70_0 : List vent := [(0, .iload_n 1, 1, 4, 1, 0, 0, 0),
  (1, .invokestatic 55, 3, 59, 87, 0, 0, 228),
  (4, .ifCond .eq 10, 3, 70, 14, 0, 0, 0),
  (7, .iload_n 2, 1, 4, 2, 0, 0, 0),
  (8, .invokestatic 55, 3, 59, 87, 0, 0, 228),
  (11, .ifCond .ne 5, 3, 71, 16, 0, 0, 0),
  (14, .iconst (-1), 1, 1, 0, 0, (-1), 0),
  (15, .ireturn, 1, 63, 0, 0, 0, 0),
  (16, .aload_n 0, 1, 6, 0, 0, 0, 0),
  (17, .getfield 11, 3, 42, 5, 0, 0, 186),
  (20, .iload_n 1, 1, 4, 1, 0, 0, 0),
  (21, .aaload, 1, 48, 0, 0, 0, 0),
  (22, .getfield 101, 3, 42, 2, 4, 0, 155),
  (25, .astore_n 3, 1, 9, 3, 0, 0, 0),
  (26, .aload_n 0, 1, 6, 0, 0, 0, 0),
  (27, .getfield 11, 3, 42, 5, 0, 0, 186),
  (30, .iload_n 2, 1, 4, 2, 0, 0, 0),
  (31, .aaload, 1, 48, 0, 0, 0, 0),
  (32, .getfield 101, 3, 42, 2, 4, 0, 155),
  (35, .astore 4, 2, 9, 4, 0, 0, 0),
  (37, .iconst 0, 1, 1, 0, 0, 0, 0),
  (38, .istore 5, 2, 7, 5, 0, 0, 0),
  (40, .iload 5, 2, 4, 5, 0, 0, 0),
  (42, .sipush 720, 3, 1, 0, 0, 720, 0),
  (45, .if_icmp .ge 28, 3, 79, 73, 0, 0, 0),
  (48, .aload_n 3, 1, 6, 3, 0, 0, 0),
  (49, .iload 5, 2, 4, 5, 0, 0, 0),
  (51, .invokevirtual 104, 3, 58, 1, 0, 0, 421),
  (54, .aload 4, 2, 6, 4, 0, 0, 0),
  (56, .iload 5, 2, 4, 5, 0, 0, 0),
  (58, .invokevirtual 104, 3, 58, 1, 0, 0, 421),
  (61, .if_icmp .eq 6, 3, 76, 67, 0, 0, 0),
  (64, .iload 5, 2, 4, 5, 0, 0, 0),
  (66, .ireturn, 1, 63, 0, 0, 0, 0),
  (67, .iinc 5 1, 3, 10, 5, 0, 1, 0),
  (70, .goto (-30), 3, 37, 40, 0, 0, 0),
  (73, .bipush (-5), 2, 1, 0, 0, (-5), 0),
  (75, .ireturn, 1, 63, 0, 0, 0, 0)]
def vC_70 : List vent := vC_70_0
def vC_71_0 : List vent := [(0, .iload_n 1, 1, 4, 1, 0, 0, 0),
  (1, .invokestatic 131, 3, 59, 90, 0, 0, 506),
  (4, .ifCond .ne 6, 3, 71, 10, 0, 0, 0),
  (7, .bipush (-2), 2, 1, 0, 0, (-2), 0),
  (9, .ireturn, 1, 63, 0, 0, 0, 0),
  (10, .iload_n 2, 1, 4, 2, 0, 0, 0),
  (11, .iconst (-1), 1, 1, 0, 0, (-1), 0),
  (12, .if_icmp .ge 5, 3, 79, 17, 0, 0, 0),
  (15, .iconst (-1), 1, 1, 0, 0, (-1), 0),
  (16, .ireturn, 1, 63, 0, 0, 0, 0),
  (17, .aload_n 0, 1, 6, 0, 0, 0, 0),
  (18, .iload_n 1, 1, 4, 1, 0, 0, 0),
  (19, .invokevirtual 134, 3, 58, 95, 0, 0, 509),
  (22, .iload_n 2, 1, 4, 2, 0, 0, 0),
  (23, .iconst (-1), 1, 1, 0, 0, (-1), 0),
  (24, .if_icmp .ne 13, 3, 77, 37, 0, 0, 0),
  (27, .aload_n 0, 1, 6, 0, 0, 0, 0),
  (28, .getfield 41, 3, 42, 5, 6, 0, 192),
  (31, .invokevirtual 75, 3, 58, 10, 0, 0, 389),
  (34, .goto 15, 3, 37, 49, 0, 0, 0),
  (37, .aload_n 0, 1, 6, 0, 0, 0, 0),
  (38, .getfield 41, 3, 42, 5, 6, 0, 192),
  (41, .iconst 0, 1, 1, 0, 0, 0, 0),
  (42, .sipush 719, 3, 1, 0, 0, 719, 0),
  (45, .iload_n 2, 1, 4, 2, 0, 0, 0),
  (46, .invokevirtual 107, 3, 58, 12, 0, 0, 437),
  (49, .ireturn, 1, 63, 0, 0, 0, 0)]
def vC_71 : List vent := vC_71_0
def vC_72_0 : List vent := [(0, .iload_n 1, 1, 4, 1, 0, 0, 0),
  (1, .invokestatic 131, 3, 59, 90, 0, 0, 506),
  (4, .ifCond .ne 6, 3, 71, 10, 0, 0, 0),
  (7, .bipush (-2), 2, 1, 0, 0, (-2), 0),
  (9, .ireturn, 1, 63, 0, 0, 0, 0),
  (10, .iload_n 2, 1, 4, 2, 0, 0, 0),
  (11, .ifCond .ge 5, 3, 73, 16, 0, 0, 0),
  (14, .iconst (-1), 1, 1, 0, 0, (-1), 0),
  (15, .ireturn, 1, 63, 0, 0, 0, 0),
  (16, .aload_n 0, 1, 6, 0, 0, 0, 0),
  (17, .iload_n 1, 1, 4, 1, 0, 0, 0),
  (18, .invokevirtual 134, 3, 58, 95, 0, 0, 509),
  (21, .aload_n 0, 1, 6, 0, 0, 0, 0),
  (22, .aload_n 0, 1, 6, 0, 0, 0, 0),
  (23, .getfield 41, 3, 42, 5, 6, 0, 192),
  (26, .iconst 0, 1, 1, 0, 0, 0, 0),
  (27, .sipush 719, 3, 1, 0, 0, 719, 0),
  (30, .iload_n 2, 1, 4, 2, 0, 0, 0),
  (31, .invokevirtual 107, 3, 58, 12, 0, 0, 437),
  (34, .invokevirtual 137, 3, 58, 96, 0, 0, 519),
  (37, .iload_n 1, 1, 4, 1, 0, 0, 0),
  (38, .iand, 1, 17, 0, 0, 0, 0),
  (39, .ireturn, 1, 63, 0, 0, 0, 0)]
def vC_72 : List vent := vC_72_0
def vC_73_0 : List vent := [(0, .iload_n 1, 1, 4, 1, 0, 0, 0),
  (1, .iload_n 2, 1, 4, 2, 0, 0, 0),
  (2, .invokestatic 111, 3, 59, 89, 0, 0, 450),
  (5, .ifCond .ne 6, 3, 71, 11, 0, 0, 0),
  (8, .bipush (-2), 2, 1, 0, 0, (-2), 0),
  (10, .ireturn, 1, 63, 0, 0, 0, 0),
  (11, .iload_n 3, 1, 4, 3, 0, 0, 0),
  (12, .ifCond .eq 10, 3, 70, 22, 0, 0, 0),
  (15, .iload_n 3, 1, 4, 3, 0, 0, 0),
  (16, .iconst 1, 1, 1, 0, 0, 1, 0),
  (17, .if_icmp .eq 5, 3, 76, 22, 0, 0, 0),
  (20, .iconst (-1), 1, 1, 0, 0, (-1), 0),
  (21, .ireturn, 1, 63, 0, 0, 0, 0),
  (22, .bipush (-5), 2, 1, 0, 0, (-5), 0),
  (24, .istore 4, 2, 7, 4, 0, 0, 0),
  (26, .iconst 0, 1, 1, 0, 0, 0, 0),
  (27, .istore 5, 2, 7, 5, 0, 0, 0),
  (29, .iload_n 1, 1, 4, 1, 0, 0, 0),
  (30, .istore 6, 2, 7, 6, 0, 0, 0),
  (32, .iload 6, 2, 4, 6, 0, 0, 0),
  (34, .iload_n 2, 1, 4, 2, 0, 0, 0),
  (35, .if_icmp .gt 35, 3, 80, 70, 0, 0, 0),
  (38, .aload_n 0, 1, 6, 0, 0, 0, 0),
  (39, .iload 6, 2, 4, 6, 0, 0, 0),
  (41, .invokevirtual 137, 3, 58, 96, 0, 0, 519),
  (44, .invokestatic 140, 3, 59, 169, 0, 0, 527),
  (47, .istore 7, 2, 7, 7, 0, 0, 0),
  (49, .iload 7, 2, 4, 7, 0, 0, 0),
  (51, .iload 5, 2, 4, 5, 0, 0, 0),
  (53, .if_icmp .le 11, 3, 81, 64, 0, 0, 0),
  (56, .iload 6, 2, 4, 6, 0, 0, 0),
  (58, .istore 4, 2, 7, 4, 0, 0, 0),
  (60, .iload 7, 2, 4, 7, 0, 0, 0),
  (62, .istore 5, 2, 7, 5, 0, 0, 0),
  (64, .iinc 6 1, 3, 10, 6, 0, 1, 0),
  (67, .goto (-35), 3, 37, 32, 0, 0, 0),
  (70, .iload_n 3, 1, 4, 3, 0, 0, 0),
  (71, .ifCond .ne 8, 3, 71, 79, 0, 0, 0),
  (74, .iload 4, 2, 4, 4, 0, 0, 0),
  (76, .goto 5, 3, 37, 81, 0, 0, 0),
  (79, .iload 5, 2, 4, 5, 0, 0, 0),
  (81, .ireturn, 1, 63, 0, 0, 0, 0)]
def vC_73 : List vent := vC_73_0
def vC_74_0 : List vent := [(0, .iload_n 1, 1, 4, 1, 0, 0, 0),
  (1, .invokestatic 131, 3, 59, 90, 0, 0, 506),
  (4, .ifCond .eq 21, 3, 70, 25, 0, 0, 0),
  (7, .iload_n 2, 1, 4, 2, 0, 0, 0),
  (8, .invokestatic 98, 3, 59, 88, 0, 0, 420),
  (11, .ifCond .eq 14, 3, 70, 25, 0, 0, 0),
  (14, .iload_n 3, 1, 4, 3, 0, 0, 0),
  (15, .iconst 1, 1, 1, 0, 0, 1, 0),
  (16, .if_icmp .lt 9, 3, 78, 25, 0, 0, 0),
  (19, .iload_n 3, 1, 4, 3, 0, 0, 0),
  (20, .bipush 99, 2, 1, 0, 0, 99, 0),
  (22, .if_icmp .le 6, 3, 81, 28, 0, 0, 0),
  (25, .bipush (-2), 2, 1, 0, 0, (-2), 0),
  (27, .ireturn, 1, 63, 0, 0, 0, 0),
  (28, .aload_n 0, 1, 6, 0, 0, 0, 0),
  (29, .iload_n 1, 1, 4, 1, 0, 0, 0),
  (30, .invokevirtual 134, 3, 58, 95, 0, 0, 509),
  (33, .iconst 0, 1, 1, 0, 0, 0, 0),
  (34, .istore 4, 2, 7, 4, 0, 0, 0),
  (36, .iload_n 2, 1, 4, 2, 0, 0, 0),
  (37, .istore 5, 2, 7, 5, 0, 0, 0),
  (39, .iload 5, 2, 4, 5, 0, 0, 0),
  (41, .sipush 720, 3, 1, 0, 0, 720, 0),
  (44, .if_icmp .ge 44, 3, 79, 88, 0, 0, 0),
  (47, .aload_n 0, 1, 6, 0, 0, 0, 0),
  (48, .getfield 41, 3, 42, 5, 6, 0, 192),
  (51, .iload 5, 2, 4, 5, 0, 0, 0),
  (53, .invokevirtual 104, 3, 58, 1, 0, 0, 421),
  (56, .ifCond .eq 7, 3, 70, 63, 0, 0, 0),
  (59, .iconst 0, 1, 1, 0, 0, 0, 0),
  (60, .goto 7, 3, 37, 67, 0, 0, 0),
  (63, .iload 4, 2, 4, 4, 0, 0, 0),
  (65, .iconst 1, 1, 1, 0, 0, 1, 0),
  (66, .iadd, 1, 11, 0, 0, 0, 0),
  (67, .istore 4, 2, 7, 4, 0, 0, 0),
  (69, .iload 4, 2, 4, 4, 0, 0, 0),
  (71, .iload_n 3, 1, 4, 3, 0, 0, 0),
  (72, .if_icmp .ne 10, 3, 77, 82, 0, 0, 0),
  (75, .iload 5, 2, 4, 5, 0, 0, 0),
  (77, .iload_n 3, 1, 4, 3, 0, 0, 0),
  (78, .isub, 1, 12, 0, 0, 0, 0),
  (79, .iconst 1, 1, 1, 0, 0, 1, 0),
  (80, .iadd, 1, 11, 0, 0, 0, 0),
  (81, .ireturn, 1, 63, 0, 0, 0, 0),
  (82, .iinc 5 1, 3, 10, 5, 0, 1, 0),
  (85, .goto (-46), 3, 37, 39, 0, 0, 0),
  (88, .bipush (-5), 2, 1, 0, 0, (-5), 0),
  (90, .ireturn, 1, 63, 0, 0, 0, 0)]
def vC_74 : List vent := vC_74_0
def vC_75_0 : List vent := [(0, .iload_n 1, 1, 4, 1, 0, 0, 0),
  (1, .invokestatic 55, 3, 59, 87, 0, 0, 228),
  (4, .ifCond .eq 10, 3, 70, 14, 0, 0, 0),
  (7, .iload_n 2, 1, 4, 2, 0, 0, 0),
  (8, .invokestatic 145, 3, 59, 91, 0, 0, 541),
  (11, .ifCond .ne 5, 3, 71, 16, 0, 0, 0),
  (14, .iconst (-1), 1, 1, 0, 0, (-1), 0),
  (15, .ireturn, 1, 63, 0, 0, 0, 0),
  (16, .getstatic 148, 3, 44, 0, 0, 0, 323),
  (19, .iload_n 2, 1, 4, 2, 0, 0, 0),
  (20, .iaload, 1, 45, 0, 0, 0, 0),
  (21, .istore 4, 2, 7, 4, 0, 0, 0),
  (23, .iload_n 3, 1, 4, 3, 0, 0, 0),
  (24, .i2l, 1, 32, 0, 0, 0, 0),
  (25, .iload 4, 2, 4, 4, 0, 0, 0),
  (27, .i2l, 1, 32, 0, 0, 0, 0),
  (28, .lmul, 1, 24, 0, 0, 0, 0),
  (29, .lstore 5, 2, 8, 5, 0, 0, 0),
  (31, .lload 5, 2, 5, 5, 0, 0, 0),
  (33, .lconst 0, 1, 2, 0, 0, 0, 0),
  (34, .lcmp, 1, 31, 0, 0, 0, 0),
  (35, .ifCond .lt 12, 3, 72, 47, 0, 0, 0),
  (38, .lload 5, 2, 5, 5, 0, 0, 0),
  (40, .ldc2_w 152, 3, 2, 0, 0, 720, 542),
  (43, .lcmp, 1, 31, 0, 0, 0, 0),
  (44, .ifCond .lt 5, 3, 72, 49, 0, 0, 0),
  (47, .iconst (-1), 1, 1, 0, 0, (-1), 0),
  (48, .ireturn, 1, 63, 0, 0, 0, 0),
  (49, .aload_n 0, 1, 6, 0, 0, 0, 0),
  (50, .getfield 11, 3, 42, 5, 0, 0, 186),
  (53, .iload_n 1, 1, 4, 1, 0, 0, 0),
  (54, .aaload, 1, 48, 0, 0, 0, 0),
  (55, .getfield 101, 3, 42, 2, 4, 0, 155),
  (58, .lload 5, 2, 5, 5, 0, 0, 0),
  (60, .l2i, 1, 33, 0, 0, 0, 0),
  (61, .lload 5, 2, 5, 5, 0, 0, 0),
  (63, .l2i, 1, 33, 0, 0, 0, 0),
  (64, .iload 4, 2, 4, 4, 0, 0, 0),
  (66, .invokestatic 154, 3, 59, 93, 0, 0, 543),
  (69, .invokevirtual 115, 3, 58, 11, 0, 0, 453),
  (72, .ireturn, 1, 63, 0, 0, 0, 0)]
def vC_75 : List vent := vC_75_0
def vC_76_0 : List vent := [(0, .iload_n 1, 1, 4, 1, 0, 0, 0),
  (1, .invokestatic 55, 3, 59, 87, 0, 0, 228),
  (4, .ifCond .eq 10, 3, 70, 14, 0, 0, 0),
  (7, .iload_n 2, 1, 4, 2, 0, 0, 0),
  (8, .invokestatic 145, 3, 59, 91, 0, 0, 541),
  (11, .ifCond .ne 5, 3, 71, 16, 0, 0, 0),
  (14, .iconst (-1), 1, 1, 0, 0, (-1), 0),
  (15, .ireturn, 1, 63, 0, 0, 0, 0),
  (16, .iload 4, 2, 4, 4, 0, 0, 0),
  (18, .invokestatic 98, 3, 59, 88, 0, 0, 420),
  (21, .ifCond .ne 6, 3, 71, 27, 0, 0, 0),
  (24, .bipush (-2), 2, 1, 0, 0, (-2), 0),
  (26, .ireturn, 1, 63, 0, 0, 0, 0),
  (27, .getstatic 148, 3, 44, 0, 0, 0, 323),
  (30, .iload_n 2, 1, 4, 2, 0, 0, 0),
  (31, .iaload, 1, 45, 0, 0, 0, 0),
  (32, .istore 5, 2, 7, 5, 0, 0, 0),
  (34, .iload 5, 2, 4, 5, 0, 0, 0),
  (36, .iconst 1, 1, 1, 0, 0, 1, 0),
  (37, .if_icmp .ge 8, 3, 79, 45, 0, 0, 0),
  (40, .iload 4, 2, 4, 4, 0, 0, 0),
  (42, .goto 11, 3, 37, 53, 0, 0, 0),
  (45, .iload 4, 2, 4, 4, 0, 0, 0),
  (47, .iload 5, 2, 4, 5, 0, 0, 0),
  (49, .idiv, 1, 14, 0, 0, 0, 0),
  (50, .iload 5, 2, 4, 5, 0, 0, 0),
  (52, .imul, 1, 13, 0, 0, 0, 0),
  (53, .istore 6, 2, 7, 6, 0, 0, 0),
  (55, .aload_n 0, 1, 6, 0, 0, 0, 0),
  (56, .getfield 11, 3, 42, 5, 0, 0, 186),
  (59, .iload_n 1, 1, 4, 1, 0, 0, 0),
  (60, .aaload, 1, 48, 0, 0, 0, 0),
  (61, .getfield 101, 3, 42, 2, 4, 0, 155),
  (64, .iload 6, 2, 4, 6, 0, 0, 0),
  (66, .iload 6, 2, 4, 6, 0, 0, 0),
  (68, .iload 5, 2, 4, 5, 0, 0, 0),
  (70, .invokestatic 154, 3, 59, 93, 0, 0, 543),
  (73, .iload_n 3, 1, 4, 3, 0, 0, 0),
  (74, .invokevirtual 107, 3, 58, 12, 0, 0, 437),
  (77, .ireturn, 1, 63, 0, 0, 0, 0)]
def vC_76 : List vent := vC_76_0
def vC_77_0 : List vent := [(0, .iload_n 1, 1, 4, 1, 0, 0, 0),
  (1, .tableswitch 90 0 6 #[43, 48, 56, 64, 72, 80, 85], 43, 67, 4, 0, 0, 0),
  (44, .aload_n 0, 1, 6, 0, 0, 0, 0),
  (45, .invokevirtual 157, 3, 58, 97, 0, 0, 552),
  (48, .ireturn, 1, 63, 0, 0, 0, 0),
  (49, .aload_n 0, 1, 6, 0, 0, 0, 0),
  (50, .getfield 28, 3, 42, 5, 4, 0, 190),
  (53, .getfield 160, 3, 42, 1, 2, 0, 123),
  (56, .ireturn, 1, 63, 0, 0, 0, 0),
  (57, .aload_n 0, 1, 6, 0, 0, 0, 0),
  (58, .getfield 28, 3, 42, 5, 4, 0, 190),
  (61, .getfield 163, 3, 42, 1, 3, 0, 125),
  (64, .ireturn, 1, 63, 0, 0, 0, 0),
  (65, .aload_n 0, 1, 6, 0, 0, 0, 0),
  (66, .getfield 28, 3, 42, 5, 4, 0, 190),
  (69, .getfield 166, 3, 42, 1, 1, 0, 121),
  (72, .ireturn, 1, 63, 0, 0, 0, 0),
  (73, .aload_n 0, 1, 6, 0, 0, 0, 0),
  (74, .getfield 21, 3, 42, 5, 3, 0, 189),
  (77, .getfield 169, 3, 42, 3, 1, 0, 91),
  (80, .ireturn, 1, 63, 0, 0, 0, 0),
  (81, .aload_n 0, 1, 6, 0, 0, 0, 0),
  (82, .invokevirtual 172, 3, 58, 98, 0, 0, 556),
  (85, .ireturn, 1, 63, 0, 0, 0, 0),
  (86, .aload_n 0, 1, 6, 0, 0, 0, 0),
  (87, .invokevirtual 175, 3, 58, 99, 0, 0, 560),
  (90, .ireturn, 1, 63, 0, 0, 0, 0),
  (91, .iconst (-1), 1, 1, 0, 0, (-1), 0),
  (92, .ireturn, 1, 63, 0, 0, 0, 0)]
def vC_77 : List vent := vC_77_0
def vC_78_0 : List vent := [(0, .iload_n 1, 1, 4, 1, 0, 0, 0),
  (1, .ifCond .lt 23, 3, 72, 24, 0, 0, 0),
  (4, .iload_n 1, 1, 4, 1, 0, 0, 0),
  (5, .aload_n 0, 1, 6, 0, 0, 0, 0),
  (6, .getfield 28, 3, 42, 5, 4, 0, 190),
  (9, .getfield 166, 3, 42, 1, 1, 0, 121),
  (12, .if_icmp .ge 12, 3, 79, 24, 0, 0, 0),
  (15, .iload_n 2, 1, 4, 2, 0, 0, 0),
  (16, .ifCond .lt 8, 3, 72, 24, 0, 0, 0),
  (19, .iload_n 2, 1, 4, 2, 0, 0, 0),
  (20, .iconst 4, 1, 1, 0, 0, 4, 0),
  (21, .if_icmp .lt 5, 3, 78, 26, 0, 0, 0),
  (24, .iconst (-1), 1, 1, 0, 0, (-1), 0),
  (25, .ireturn, 1, 63, 0, 0, 0, 0),
  (26, .aload_n 0, 1, 6, 0, 0, 0, 0),
  (27, .getfield 28, 3, 42, 5, 4, 0, 190),
  (30, .getfield 178, 3, 42, 1, 0, 0, 119),
  (33, .iload_n 1, 1, 4, 1, 0, 0, 0),
  (34, .aaload, 1, 48, 0, 0, 0, 0),
  (35, .iload_n 2, 1, 4, 2, 0, 0, 0),
  (36, .iaload, 1, 45, 0, 0, 0, 0),
  (37, .ireturn, 1, 63, 0, 0, 0, 0)]
def vC_78 : List vent := vC_78_0
def vC_79_0 : List vent := [(0, .iload_n 1, 1, 4, 1, 0, 0, 0),
  (1, .invokestatic 182, 3, 59, 92, 0, 0, 572),
  (4, .ifCond .ne 5, 3, 71, 9, 0, 0, 0),
  (7, .iconst (-1), 1, 1, 0, 0, (-1), 0),
  (8, .ireturn, 1, 63, 0, 0, 0, 0),
  (9, .iload_n 2, 1, 4, 2, 0, 0, 0),
  (10, .bipush 30, 2, 1, 0, 0, 30, 0),
  (12, .if_icmp .le 6, 3, 81, 18, 0, 0, 0),
  (15, .bipush (-2), 2, 1, 0, 0, (-2), 0),
  (17, .ireturn, 1, 63, 0, 0, 0, 0),
  (18, .iload_n 2, 1, 4, 2, 0, 0, 0),
  (19, .ifCond .ge 6, 3, 73, 25, 0, 0, 0),
  (22, .bipush (-14), 2, 1, 0, 0, (-14), 0),
  (24, .ireturn, 1, 63, 0, 0, 0, 0),
  (25, .aload_n 0, 1, 6, 0, 0, 0, 0),
  (26, .getfield 34, 3, 42, 5, 5, 0, 191),
  (29, .iload_n 1, 1, 4, 1, 0, 0, 0),
  (30, .aaload, 1, 48, 0, 0, 0, 0),
  (31, .iload_n 2, 1, 4, 2, 0, 0, 0),
  (32, .invokevirtual 185, 3, 58, 53, 0, 0, 575),
  (35, .iconst 1, 1, 1, 0, 0, 1, 0),
  (36, .ireturn, 1, 63, 0, 0, 0, 0)]
def vC_79 : List vent := vC_79_0
def vC_80_0 : List vent := [(0, .iload_n 1, 1, 4, 1, 0, 0, 0),
  (1, .invokestatic 182, 3, 59, 92, 0, 0, 572),
  (4, .ifCond .ne 5, 3, 71, 9, 0, 0, 0),
  (7, .iconst (-1), 1, 1, 0, 0, (-1), 0),
  (8, .ireturn, 1, 63, 0, 0, 0, 0),
  (9, .aload_n 0, 1, 6, 0, 0, 0, 0),
  (10, .getfield 34, 3, 42, 5, 5, 0, 191),
  (13, .iload_n 1, 1, 4, 1, 0, 0, 0),
  (14, .aaload, 1, 48, 0, 0, 0, 0),
  (15, .astore 4, 2, 9, 4, 0, 0, 0),
  (17, .aload 4, 2, 6, 4, 0, 0, 0),
  (19, .getfield 188, 3, 42, 4, 0, 0, 174),
  (22, .ifCond .ne 6, 3, 71, 28, 0, 0, 0),
  (25, .bipush (-11), 2, 1, 0, 0, (-11), 0),
  (27, .ireturn, 1, 63, 0, 0, 0, 0),
  (28, .iload_n 2, 1, 4, 2, 0, 0, 0),
  (29, .ifCond .lt 12, 3, 72, 41, 0, 0, 0),
  (32, .iload_n 2, 1, 4, 2, 0, 0, 0),
  (33, .aload 4, 2, 6, 4, 0, 0, 0),
  (35, .getfield 191, 3, 42, 4, 1, 0, 176),
  (38, .if_icmp .lt 6, 3, 78, 44, 0, 0, 0),
  (41, .bipush (-13), 2, 1, 0, 0, (-13), 0),
  (43, .ireturn, 1, 63, 0, 0, 0, 0),
  (44, .aload 4, 2, 6, 4, 0, 0, 0),
  (46, .getfield 193, 3, 42, 4, 2, 0, 178),
  (49, .iload_n 2, 1, 4, 2, 0, 0, 0),
  (50, .iload_n 3, 1, 4, 3, 0, 0, 0),
  (51, .iastore, 1, 49, 0, 0, 0, 0),
  (52, .iconst 1, 1, 1, 0, 0, 1, 0),
  (53, .ireturn, 1, 63, 0, 0, 0, 0)]
def vC_80 : List vent := vC_80_0
def vC_81_0 : List vent := [(0, .iload_n 1, 1, 4, 1, 0, 0, 0),
  (1, .invokestatic 182, 3, 59, 92, 0, 0, 572),
  (4, .ifCond .ne 6, 3, 71, 10, 0, 0, 0),
  (7, .ldc 196, 2, 1, 0, 0, (-2000000000), 587),
  (9, .ireturn, 1, 63, 0, 0, 0, 0),
  (10, .aload_n 0, 1, 6, 0, 0, 0, 0),
  (11, .getfield 34, 3, 42, 5, 5, 0, 191),
  (14, .iload_n 1, 1, 4, 1, 0, 0, 0),
  (15, .aaload, 1, 48, 0, 0, 0, 0),
  (16, .astore_n 3, 1, 9, 3, 0, 0, 0),
  (17, .aload_n 3, 1, 6, 3, 0, 0, 0),
  (18, .getfield 188, 3, 42, 4, 0, 0, 174),
  (21, .ifCond .eq 15, 3, 70, 36, 0, 0, 0),
  (24, .iload_n 2, 1, 4, 2, 0, 0, 0),
  (25, .ifCond .lt 11, 3, 72, 36, 0, 0, 0),
  (28, .iload_n 2, 1, 4, 2, 0, 0, 0),
  (29, .aload_n 3, 1, 6, 3, 0, 0, 0),
  (30, .getfield 191, 3, 42, 4, 1, 0, 176),
  (33, .if_icmp .lt 6, 3, 78, 39, 0, 0, 0),
  (36, .ldc 196, 2, 1, 0, 0, (-2000000000), 587),
  (38, .ireturn, 1, 63, 0, 0, 0, 0),
  (39, .aload_n 3, 1, 6, 3, 0, 0, 0),
  (40, .getfield 193, 3, 42, 4, 2, 0, 178),
  (43, .iload_n 2, 1, 4, 2, 0, 0, 0),
  (44, .iaload, 1, 45, 0, 0, 0, 0),
  (45, .ireturn, 1, 63, 0, 0, 0, 0)]
def vC_81 : List vent := vC_81_0
def vC_82_0 : List vent := [(0, .iload_n 1, 1, 4, 1, 0, 0, 0),
  (1, .invokestatic 182, 3, 59, 92, 0, 0, 572),
  (4, .ifCond .eq 10, 3, 70, 14, 0, 0, 0),
  (7, .iload_n 3, 1, 4, 3, 0, 0, 0),
  (8, .invokestatic 182, 3, 59, 92, 0, 0, 572),
  (11, .ifCond .ne 5, 3, 71, 16, 0, 0, 0),
  (14, .iconst (-1), 1, 1, 0, 0, (-1), 0),
  (15, .ireturn, 1, 63, 0, 0, 0, 0),
  (16, .aload_n 0, 1, 6, 0, 0, 0, 0),
  (17, .getfield 34, 3, 42, 5, 5, 0, 191),
  (20, .iload_n 1, 1, 4, 1, 0, 0, 0),
  (21, .aaload, 1, 48, 0, 0, 0, 0),
  (22, .astore 6, 2, 9, 6, 0, 0, 0),
  (24, .aload_n 0, 1, 6, 0, 0, 0, 0),
  (25, .getfield 34, 3, 42, 5, 5, 0, 191),
  (28, .iload_n 3, 1, 4, 3, 0, 0, 0),
  (29, .aaload, 1, 48, 0, 0, 0, 0),
  (30, .astore 7, 2, 9, 7, 0, 0, 0),
  (32, .aload 6, 2, 6, 6, 0, 0, 0),
  (34, .getfield 188, 3, 42, 4, 0, 0, 174),
  (37, .ifCond .eq 11, 3, 70, 48, 0, 0, 0),
  (40, .aload 7, 2, 6, 7, 0, 0, 0),
  (42, .getfield 188, 3, 42, 4, 0, 0, 174),
  (45, .ifCond .ne 6, 3, 71, 51, 0, 0, 0),
  (48, .bipush (-11), 2, 1, 0, 0, (-11), 0),
  (50, .ireturn, 1, 63, 0, 0, 0, 0),
  (51, .iload 5, 2, 4, 5, 0, 0, 0),
  (53, .ifCond .lt 37, 3, 72, 90, 0, 0, 0),
  (56, .iload_n 2, 1, 4, 2, 0, 0, 0),
  (57, .ifCond .lt 33, 3, 72, 90, 0, 0, 0),
  (60, .iload 4, 2, 4, 4, 0, 0, 0),
  (62, .ifCond .lt 28, 3, 72, 90, 0, 0, 0),
  (65, .iload_n 2, 1, 4, 2, 0, 0, 0),
  (66, .aload 6, 2, 6, 6, 0, 0, 0),
  (68, .getfield 191, 3, 42, 4, 1, 0, 176),
  (71, .iload 5, 2, 4, 5, 0, 0, 0),
  (73, .isub, 1, 12, 0, 0, 0, 0),
  (74, .if_icmp .gt 16, 3, 80, 90, 0, 0, 0),
  (77, .iload 4, 2, 4, 4, 0, 0, 0),
  (79, .aload 7, 2, 6, 7, 0, 0, 0),
  (81, .getfield 191, 3, 42, 4, 1, 0, 176),
  (84, .iload 5, 2, 4, 5, 0, 0, 0),
  (86, .isub, 1, 12, 0, 0, 0, 0),
  (87, .if_icmp .le 6, 3, 81, 93, 0, 0, 0),
  (90, .bipush (-13), 2, 1, 0, 0, (-13), 0),
  (92, .ireturn, 1, 63, 0, 0, 0, 0),
  (93, .aload 6, 2, 6, 6, 0, 0, 0),
  (95, .getfield 193, 3, 42, 4, 2, 0, 178),
  (98, .iload_n 2, 1, 4, 2, 0, 0, 0),
  (99, .aload 7, 2, 6, 7, 0, 0, 0),
  (101, .getfield 193, 3, 42, 4, 2, 0, 178),
  (104, .iload 4, 2, 4, 4, 0, 0, 0),
  (106, .iload 5, 2, 4, 5, 0, 0, 0),
  (108, .invokestatic 197, 3, 62, 0, 0, 0, 592),
  (111, .iload 5, 2, 4, 5, 0, 0, 0),
  (113, .ireturn, 1, 63, 0, 0, 0, 0)]
def vC_82 : List vent := vC_82_0
def vC_83_0 : List vent := [(0, .aload_n 0, 1, 6, 0, 0, 0, 0),
  (1, .iload_n 1, 1, 4, 1, 0, 0, 0),
  (2, .iload_n 2, 1, 4, 2, 0, 0, 0),
  (3, .iload_n 3, 1, 4, 3, 0, 0, 0),
  (4, .iload 4, 2, 4, 4, 0, 0, 0),
  (6, .invokevirtual 203, 3, 58, 100, 0, 0, 599),
  (9, .istore 5, 2, 7, 5, 0, 0, 0),
  (11, .iload 5, 2, 4, 5, 0, 0, 0),
  (13, .ifCond .eq 6, 3, 70, 19, 0, 0, 0),
  (16, .iload 5, 2, 4, 5, 0, 0, 0),
  (18, .ireturn, 1, 63, 0, 0, 0, 0),
  (19, .aload_n 0, 1, 6, 0, 0, 0, 0),
  (20, .getfield 34, 3, 42, 5, 5, 0, 191),
  (23, .iload_n 1, 1, 4, 1, 0, 0, 0),
  (24, .aaload, 1, 48, 0, 0, 0, 0),
  (25, .astore 6, 2, 9, 6, 0, 0, 0),
  (27, .aload_n 0, 1, 6, 0, 0, 0, 0),
  (28, .getfield 11, 3, 42, 5, 0, 0, 186),
  (31, .iload_n 3, 1, 4, 3, 0, 0, 0),
  (32, .aaload, 1, 48, 0, 0, 0, 0),
  (33, .getfield 101, 3, 42, 2, 4, 0, 155),
  (36, .astore 7, 2, 9, 7, 0, 0, 0),
  (38, .iload_n 2, 1, 4, 2, 0, 0, 0),
  (39, .istore 8, 2, 7, 8, 0, 0, 0),
  (41, .iload 4, 2, 4, 4, 0, 0, 0),
  (43, .istore 9, 2, 7, 9, 0, 0, 0),
  (45, .iload 9, 2, 4, 9, 0, 0, 0),
  (47, .sipush 720, 3, 1, 0, 0, 720, 0),
  (50, .if_icmp .ge 42, 3, 79, 92, 0, 0, 0),
  (53, .iload 8, 2, 4, 8, 0, 0, 0),
  (55, .aload 6, 2, 6, 6, 0, 0, 0),
  (57, .getfield 191, 3, 42, 4, 1, 0, 176),
  (60, .if_icmp .ge 32, 3, 79, 92, 0, 0, 0),
  (63, .aload 7, 2, 6, 7, 0, 0, 0),
  (65, .iload 9, 2, 4, 9, 0, 0, 0),
  (67, .invokevirtual 104, 3, 58, 1, 0, 0, 421),
  (70, .ifCond .eq 16, 3, 70, 86, 0, 0, 0),
  (73, .aload 6, 2, 6, 6, 0, 0, 0),
  (75, .getfield 193, 3, 42, 4, 2, 0, 178),
  (78, .iload 8, 2, 4, 8, 0, 0, 0),
  (80, .iload 9, 2, 4, 9, 0, 0, 0),
  (82, .iastore, 1, 49, 0, 0, 0, 0),
  (83, .iinc 8 1, 3, 10, 8, 0, 1, 0),
  (86, .iinc 9 1, 3, 10, 9, 0, 1, 0),
  (89, .goto (-44), 3, 37, 45, 0, 0, 0),
  (92, .iload 8, 2, 4, 8, 0, 0, 0),
  (94, .iload_n 2, 1, 4, 2, 0, 0, 0),
  (95, .isub, 1, 12, 0, 0, 0, 0),
  (96, .ireturn, 1, 63, 0, 0, 0, 0)]
def vC_83 : List vent := vC_83_0
def vC_84_0 : List vent := [(0, .aload_n 0, 1, 6, 0, 0, 0, 0),
  (1, .iload_n 1, 1, 4, 1, 0, 0, 0),
  (2, .iload_n 2, 1, 4, 2, 0, 0, 0),
  (3, .iload_n 3, 1, 4, 3, 0, 0, 0),
  (4, .iload 4, 2, 4, 4, 0, 0, 0),
  (6, .invokevirtual 203, 3, 58, 100, 0, 0, 599),
  (9, .istore 5, 2, 7, 5, 0, 0, 0),
  (11, .iload 5, 2, 4, 5, 0, 0, 0),
  (13, .ifCond .eq 6, 3, 70, 19, 0, 0, 0),
  (16, .iload 5, 2, 4, 5, 0, 0, 0),
  (18, .ireturn, 1, 63, 0, 0, 0, 0),
  (19, .aload_n 0, 1, 6, 0, 0, 0, 0),
  (20, .getfield 34, 3, 42, 5, 5, 0, 191),
  (23, .iload_n 1, 1, 4, 1, 0, 0, 0),
  (24, .aaload, 1, 48, 0, 0, 0, 0),
  (25, .astore 6, 2, 9, 6, 0, 0, 0),
  (27, .aload_n 0, 1, 6, 0, 0, 0, 0),
  (28, .getfield 11, 3, 42, 5, 0, 0, 186),
  (31, .iload_n 3, 1, 4, 3, 0, 0, 0),
  (32, .aaload, 1, 48, 0, 0, 0, 0),
  (33, .getfield 101, 3, 42, 2, 4, 0, 155),
  (36, .astore 7, 2, 9, 7, 0, 0, 0),
  (38, .iload 4, 2, 4, 4, 0, 0, 0),
  (40, .istore 8, 2, 7, 8, 0, 0, 0),
  (42, .iload_n 2, 1, 4, 2, 0, 0, 0),
  (43, .istore 9, 2, 7, 9, 0, 0, 0),
  (45, .iload 9, 2, 4, 9, 0, 0, 0),
  (47, .aload 6, 2, 6, 6, 0, 0, 0),
  (49, .getfield 191, 3, 42, 4, 1, 0, 176),
  (52, .if_icmp .ge 70, 3, 79, 122, 0, 0, 0),
  (55, .aload 7, 2, 6, 7, 0, 0, 0),
  (57, .iload 8, 2, 4, 8, 0, 0, 0),
  (59, .sipush 719, 3, 1, 0, 0, 719, 0),
  (62, .iconst 0, 1, 1, 0, 0, 0, 0),
  (63, .invokevirtual 107, 3, 58, 12, 0, 0, 437),
  (66, .istore 10, 2, 7, 10, 0, 0, 0),
  (68, .iload 10, 2, 4, 10, 0, 0, 0),
  (70, .ifCond .ge 7, 3, 73, 77, 0, 0, 0),
  (73, .iconst (-1), 1, 1, 0, 0, (-1), 0),
  (74, .goto 5, 3, 37, 79, 0, 0, 0),
  (77, .iload 10, 2, 4, 10, 0, 0, 0),
  (79, .istore 11, 2, 7, 11, 0, 0, 0),
  (81, .aload 6, 2, 6, 6, 0, 0, 0),
  (83, .getfield 193, 3, 42, 4, 2, 0, 178),
  (86, .iload 9, 2, 4, 9, 0, 0, 0),
  (88, .iaload, 1, 45, 0, 0, 0, 0),
  (89, .iload 11, 2, 4, 11, 0, 0, 0),
  (91, .if_icmp .eq 8, 3, 76, 99, 0, 0, 0),
  (94, .iload 9, 2, 4, 9, 0, 0, 0),
  (96, .iload_n 2, 1, 4, 2, 0, 0, 0),
  (97, .isub, 1, 12, 0, 0, 0, 0),
  (98, .ireturn, 1, 63, 0, 0, 0, 0),
  (99, .iload 10, 2, 4, 10, 0, 0, 0),
  (101, .ifCond .ge 9, 3, 73, 110, 0, 0, 0),
  (104, .sipush 720, 3, 1, 0, 0, 720, 0),
  (107, .goto 7, 3, 37, 114, 0, 0, 0),
  (110, .iload 10, 2, 4, 10, 0, 0, 0),
  (112, .iconst 1, 1, 1, 0, 0, 1, 0),
  (113, .iadd, 1, 11, 0, 0, 0, 0),
  (114, .istore 8, 2, 7, 8, 0, 0, 0),
  (116, .iinc 9 1, 3, 10, 9, 0, 1, 0),
  (119, .goto (-74), 3, 37, 45, 0, 0, 0),
  (122, .bipush (-5), 2, 1, 0, 0, (-5), 0),
  (124, .ireturn, 1, 63, 0, 0, 0, 0)]
def vC_84 : List vent := vC_84_0
def vC_85_0 : List vent := [(0, .iconst 0, 1, 1, 0, 0, 0, 0),
  (1, .istore_n 1, 1, 7, 1, 0, 0, 0),
  (2, .iload_n 1, 1, 4, 1, 0, 0, 0),
  (3, .bipush 10, 2, 1, 0, 0, 10, 0),
  (5, .if_icmp .ge 24, 3, 79, 29, 0, 0, 0),
  (8, .aload_n 0, 1, 6, 0, 0, 0, 0),
  (9, .getfield 15, 3, 42, 5, 1, 0, 187),
  (12, .iload_n 1, 1, 4, 1, 0, 0, 0),
  (13, .aaload, 1, 48, 0, 0, 0, 0),
  (14, .aload_n 0, 1, 6, 0, 0, 0, 0),
  (15, .getfield 11, 3, 42, 5, 0, 0, 186),
  (18, .iload_n 1, 1, 4, 1, 0, 0, 0),
  (19, .aaload, 1, 48, 0, 0, 0, 0),
  (20, .invokevirtual 207, 3, 58, 30, 0, 0, 611),
  (23, .iinc 1 1, 3, 10, 1, 0, 1, 0),
  (26, .goto (-24), 3, 37, 2, 0, 0, 0),
  (29, .aload_n 0, 1, 6, 0, 0, 0, 0),
  (30, .iconst 1, 1, 1, 0, 0, 1, 0),
  (31, .putfield 211, 3, 43, 5, 2, 0, 188),
  (34, .aload_n 0, 1, 6, 0, 0, 0, 0),
  (35, .invokevirtual 157, 3, 58, 97, 0, 0, 552),
  (38, .ireturn, 1, 63, 0, 0, 0, 0)]
def vC_85 : List vent := vC_85_0
def vC_86_0 : List vent := [(0, .aload_n 0, 1, 6, 0, 0, 0, 0),
  (1, .getfield 211, 3, 42, 5, 2, 0, 188),
  (4, .ifCond .ne 6, 3, 71, 10, 0, 0, 0),
  (7, .bipush (-3), 2, 1, 0, 0, (-3), 0),
  (9, .ireturn, 1, 63, 0, 0, 0, 0),
  (10, .iconst 0, 1, 1, 0, 0, 0, 0),
  (11, .istore_n 1, 1, 7, 1, 0, 0, 0),
  (12, .iload_n 1, 1, 4, 1, 0, 0, 0),
  (13, .bipush 10, 2, 1, 0, 0, 10, 0),
  (15, .if_icmp .ge 24, 3, 79, 39, 0, 0, 0),
  (18, .aload_n 0, 1, 6, 0, 0, 0, 0),
  (19, .getfield 11, 3, 42, 5, 0, 0, 186),
  (22, .iload_n 1, 1, 4, 1, 0, 0, 0),
  (23, .aaload, 1, 48, 0, 0, 0, 0),
  (24, .aload_n 0, 1, 6, 0, 0, 0, 0),
  (25, .getfield 15, 3, 42, 5, 1, 0, 187),
  (28, .iload_n 1, 1, 4, 1, 0, 0, 0),
  (29, .aaload, 1, 48, 0, 0, 0, 0),
  (30, .invokevirtual 207, 3, 58, 30, 0, 0, 611),
  (33, .iinc 1 1, 3, 10, 1, 0, 1, 0),
  (36, .goto (-24), 3, 37, 12, 0, 0, 0),
  (39, .aload_n 0, 1, 6, 0, 0, 0, 0),
  (40, .getfield 28, 3, 42, 5, 4, 0, 190),
  (43, .invokevirtual 214, 3, 58, 26, 0, 0, 620),
  (46, .aload_n 0, 1, 6, 0, 0, 0, 0),
  (47, .invokevirtual 157, 3, 58, 97, 0, 0, 552),
  (50, .ireturn, 1, 63, 0, 0, 0, 0)]
def vC_86 : List vent := vC_86_0
def vC_87_0 : List vent := [(0, .iload_n 0, 1, 4, 0, 0, 0, 0),
  (1, .ifCond .lt 13, 3, 72, 14, 0, 0, 0),
  (4, .iload_n 0, 1, 4, 0, 0, 0, 0),
  (5, .bipush 10, 2, 1, 0, 0, 10, 0),
  (7, .if_icmp .ge 7, 3, 79, 14, 0, 0, 0),
  (10, .iconst 1, 1, 1, 0, 0, 1, 0),
  (11, .goto 4, 3, 37, 15, 0, 0, 0),
  (14, .iconst 0, 1, 1, 0, 0, 0, 0),
  (15, .ireturn, 1, 63, 1, 0, 0, 0)]
def vC_87 : List vent := vC_87_0
def vC_88_0 : List vent := [(0, .iload_n 0, 1, 4, 0, 0, 0, 0),
  (1, .ifCond .lt 14, 3, 72, 15, 0, 0, 0),
  (4, .iload_n 0, 1, 4, 0, 0, 0, 0),
  (5, .sipush 720, 3, 1, 0, 0, 720, 0),
  (8, .if_icmp .ge 7, 3, 79, 15, 0, 0, 0),
  (11, .iconst 1, 1, 1, 0, 0, 1, 0),
  (12, .goto 4, 3, 37, 16, 0, 0, 0),
  (15, .iconst 0, 1, 1, 0, 0, 0, 0),
  (16, .ireturn, 1, 63, 1, 0, 0, 0)]
def vC_88 : List vent := vC_88_0
def vC_89_0 : List vent := [(0, .iload_n 0, 1, 4, 0, 0, 0, 0),
  (1, .invokestatic 98, 3, 59, 88, 0, 0, 420),
  (4, .ifCond .eq 19, 3, 70, 23, 0, 0, 0),
  (7, .iload_n 1, 1, 4, 1, 0, 0, 0),
  (8, .invokestatic 98, 3, 59, 88, 0, 0, 420),
  (11, .ifCond .eq 12, 3, 70, 23, 0, 0, 0),
  (14, .iload_n 0, 1, 4, 0, 0, 0, 0),
  (15, .iload_n 1, 1, 4, 1, 0, 0, 0),
  (16, .if_icmp .gt 7, 3, 80, 23, 0, 0, 0),
  (19, .iconst 1, 1, 1, 0, 0, 1, 0),
  (20, .goto 4, 3, 37, 24, 0, 0, 0),
  (23, .iconst 0, 1, 1, 0, 0, 0, 0),
  (24, .ireturn, 1, 63, 1, 0, 0, 0)]
def vC_89 : List vent := vC_89_0
def vC_90_0 : List vent := [(0, .iload_n 0, 1, 4, 0, 0, 0, 0),
  (1, .ifCond .lt 14, 3, 72, 15, 0, 0, 0),
  (4, .iload_n 0, 1, 4, 0, 0, 0, 0),
  (5, .sipush 1024, 3, 1, 0, 0, 1024, 0),
  (8, .if_icmp .ge 7, 3, 79, 15, 0, 0, 0),
  (11, .iconst 1, 1, 1, 0, 0, 1, 0),
  (12, .goto 4, 3, 37, 16, 0, 0, 0),
  (15, .iconst 0, 1, 1, 0, 0, 0, 0),
  (16, .ireturn, 1, 63, 1, 0, 0, 0)]
def vC_90 : List vent := vC_90_0
def vC_91_0 : List vent := [(0, .iload_n 0, 1, 4, 0, 0, 0, 0),
  (1, .ifCond .lt 15, 3, 72, 16, 0, 0, 0),
  (4, .iload_n 0, 1, 4, 0, 0, 0, 0),
  (5, .getstatic 148, 3, 44, 0, 0, 0, 323),
  (8, .arraylength, 1, 53, 0, 0, 0, 0),
  (9, .if_icmp .ge 7, 3, 79, 16, 0, 0, 0),
  (12, .iconst 1, 1, 1, 0, 0, 1, 0),
  (13, .goto 4, 3, 37, 17, 0, 0, 0),
  (16, .iconst 0, 1, 1, 0, 0, 0, 0),
  (17, .ireturn, 1, 63, 1, 0, 0, 0)]
def vC_91 : List vent := vC_91_0
def vC_92_0 : List vent := [(0, .iload_n 0, 1, 4, 0, 0, 0, 0),
  (1, .ifCond .lt 12, 3, 72, 13, 0, 0, 0),
  (4, .iload_n 0, 1, 4, 0, 0, 0, 0),
  (5, .iconst 4, 1, 1, 0, 0, 4, 0),
  (6, .if_icmp .ge 7, 3, 79, 13, 0, 0, 0),
  (9, .iconst 1, 1, 1, 0, 0, 1, 0),
  (10, .goto 4, 3, 37, 14, 0, 0, 0),
  (13, .iconst 0, 1, 1, 0, 0, 0, 0),
  (14, .ireturn, 1, 63, 1, 0, 0, 0)]
def vC_92 : List vent := vC_92_0
def vC_93_0 : List vent := [(0, .iload_n 0, 1, 4, 0, 0, 0, 0),
  (1, .iload_n 1, 1, 4, 1, 0, 0, 0),
  (2, .iadd, 1, 11, 0, 0, 0, 0),
  (3, .sipush 720, 3, 1, 0, 0, 720, 0),
  (6, .invokestatic 217, 3, 85, 0, 0, 0, 333),
  (9, .iconst 1, 1, 1, 0, 0, 1, 0),
  (10, .isub, 1, 12, 0, 0, 0, 0),
  (11, .ireturn, 1, 63, 0, 0, 0, 0)]
def vC_93 : List vent := vC_93_0
def vC_94_0 : List vent := [(0, .iload_n 3, 1, 4, 3, 0, 0, 0),
  (1, .invokestatic 98, 3, 59, 88, 0, 0, 420),
  (4, .ifCond .ne 6, 3, 71, 10, 0, 0, 0),
  (7, .bipush (-2), 2, 1, 0, 0, (-2), 0),
  (9, .ireturn, 1, 63, 0, 0, 0, 0),
  (10, .aload_n 2, 1, 6, 2, 0, 0, 0),
  (11, .iload_n 3, 1, 4, 3, 0, 0, 0),
  (12, .invokevirtual 104, 3, 58, 1, 0, 0, 421),
  (15, .ifCond .eq 11, 3, 70, 26, 0, 0, 0),
  (18, .aload_n 2, 1, 6, 2, 0, 0, 0),
  (19, .iload_n 3, 1, 4, 3, 0, 0, 0),
  (20, .invokevirtual 220, 3, 58, 3, 0, 0, 422),
  (23, .goto 20, 3, 37, 43, 0, 0, 0),
  (26, .aload_n 2, 1, 6, 2, 0, 0, 0),
  (27, .invokevirtual 75, 3, 58, 10, 0, 0, 389),
  (30, .bipush 7, 2, 1, 0, 0, 7, 0),
  (32, .if_icmp .lt 6, 3, 78, 38, 0, 0, 0),
  (35, .bipush (-4), 2, 1, 0, 0, (-4), 0),
  (37, .ireturn, 1, 63, 0, 0, 0, 0),
  (38, .aload_n 2, 1, 6, 2, 0, 0, 0),
  (39, .iload_n 3, 1, 4, 3, 0, 0, 0),
  (40, .invokevirtual 223, 3, 58, 2, 0, 0, 423),
  (43, .aload_n 0, 1, 6, 0, 0, 0, 0),
  (44, .getfield 11, 3, 42, 5, 0, 0, 186),
  (47, .iload_n 1, 1, 4, 1, 0, 0, 0),
  (48, .aaload, 1, 48, 0, 0, 0, 0),
  (49, .invokevirtual 226, 3, 58, 31, 0, 0, 424),
  (52, .aload_n 0, 1, 6, 0, 0, 0, 0),
  (53, .getfield 28, 3, 42, 5, 4, 0, 190),
  (56, .iload_n 1, 1, 4, 1, 0, 0, 0),
  (57, .invokevirtual 71, 3, 58, 25, 0, 0, 385),
  (60, .aload_n 2, 1, 6, 2, 0, 0, 0),
  (61, .invokevirtual 75, 3, 58, 10, 0, 0, 389),
  (64, .ireturn, 1, 63, 0, 0, 0, 0)]
def vC_94 : List vent := vC_94_0
def vC_95_0 : List vent := [(0, .aload_n 0, 1, 6, 0, 0, 0, 0),
  (1, .getfield 41, 3, 42, 5, 6, 0, 192),
  (4, .invokevirtual 229, 3, 58, 4, 0, 0, 513),
  (7, .iconst 0, 1, 1, 0, 0, 0, 0),
  (8, .istore_n 2, 1, 7, 2, 0, 0, 0),
  (9, .iload_n 2, 1, 4, 2, 0, 0, 0),
  (10, .bipush 10, 2, 1, 0, 0, 10, 0),
  (12, .if_icmp .ge 33, 3, 79, 45, 0, 0, 0),
  (15, .iload_n 1, 1, 4, 1, 0, 0, 0),
  (16, .iload_n 2, 1, 4, 2, 0, 0, 0),
  (17, .ishr, 1, 20, 0, 0, 0, 0),
  (18, .iconst 1, 1, 1, 0, 0, 1, 0),
  (19, .iand, 1, 17, 0, 0, 0, 0),
  (20, .ifCond .eq 19, 3, 70, 39, 0, 0, 0),
  (23, .aload_n 0, 1, 6, 0, 0, 0, 0),
  (24, .getfield 41, 3, 42, 5, 6, 0, 192),
  (27, .aload_n 0, 1, 6, 0, 0, 0, 0),
  (28, .getfield 11, 3, 42, 5, 0, 0, 186),
  (31, .iload_n 2, 1, 4, 2, 0, 0, 0),
  (32, .aaload, 1, 48, 0, 0, 0, 0),
  (33, .getfield 101, 3, 42, 2, 4, 0, 155),
  (36, .invokevirtual 232, 3, 58, 6, 0, 0, 514),
  (39, .iinc 2 1, 3, 10, 2, 0, 1, 0),
  (42, .goto (-33), 3, 37, 9, 0, 0, 0),
  (45, .return_, 1, 66, 0, 0, 0, 0)]
def vC_95 : List vent := vC_95_0
def vC_96_0 : List vent := [(0, .iconst 0, 1, 1, 0, 0, 0, 0),
  (1, .istore_n 2, 1, 7, 2, 0, 0, 0),
  (2, .iconst 0, 1, 1, 0, 0, 0, 0),
  (3, .istore_n 3, 1, 7, 3, 0, 0, 0),
  (4, .iload_n 3, 1, 4, 3, 0, 0, 0),
  (5, .bipush 10, 2, 1, 0, 0, 10, 0),
  (7, .if_icmp .ge 31, 3, 79, 38, 0, 0, 0),
  (10, .aload_n 0, 1, 6, 0, 0, 0, 0),
  (11, .getfield 11, 3, 42, 5, 0, 0, 186),
  (14, .iload_n 3, 1, 4, 3, 0, 0, 0),
  (15, .aaload, 1, 48, 0, 0, 0, 0),
  (16, .getfield 101, 3, 42, 2, 4, 0, 155),
  (19, .iload_n 1, 1, 4, 1, 0, 0, 0),
  (20, .invokevirtual 104, 3, 58, 1, 0, 0, 421),
  (23, .ifCond .eq 9, 3, 70, 32, 0, 0, 0),
  (26, .iload_n 2, 1, 4, 2, 0, 0, 0),
  (27, .iconst 1, 1, 1, 0, 0, 1, 0),
  (28, .iload_n 3, 1, 4, 3, 0, 0, 0),
  (29, .ishl, 1, 19, 0, 0, 0, 0),
  (30, .ior, 1, 18, 0, 0, 0, 0),
  (31, .istore_n 2, 1, 7, 2, 0, 0, 0),
  (32, .iinc 3 1, 3, 10, 3, 0, 1, 0),
  (35, .goto (-31), 3, 37, 4, 0, 0, 0),
  (38, .iload_n 2, 1, 4, 2, 0, 0, 0),
  (39, .ireturn, 1, 63, 0, 0, 0, 0)]
def vC_96 : List vent := vC_96_0
def vC_97_0 : List vent := [(0, .iconst 0, 1, 1, 0, 0, 0, 0),
  (1, .istore_n 1, 1, 7, 1, 0, 0, 0),
  (2, .iconst 0, 1, 1, 0, 0, 0, 0),
  (3, .istore_n 2, 1, 7, 2, 0, 0, 0),
  (4, .iload_n 2, 1, 4, 2, 0, 0, 0),
  (5, .bipush 10, 2, 1, 0, 0, 10, 0),
  (7, .if_icmp .ge 24, 3, 79, 31, 0, 0, 0),
  (10, .aload_n 0, 1, 6, 0, 0, 0, 0),
  (11, .getfield 11, 3, 42, 5, 0, 0, 186),
  (14, .iload_n 2, 1, 4, 2, 0, 0, 0),
  (15, .aaload, 1, 48, 0, 0, 0, 0),
  (16, .getfield 78, 3, 42, 2, 0, 0, 147),
  (19, .ifCond .eq 6, 3, 70, 25, 0, 0, 0),
  (22, .iinc 1 1, 3, 10, 1, 0, 1, 0),
  (25, .iinc 2 1, 3, 10, 2, 0, 1, 0),
  (28, .goto (-24), 3, 37, 4, 0, 0, 0),
  (31, .iload_n 1, 1, 4, 1, 0, 0, 0),
  (32, .ireturn, 1, 63, 0, 0, 0, 0)]
def vC_97 : List vent := vC_97_0
def vC_98_0 : List vent := [(0, .iconst 0, 1, 1, 0, 0, 0, 0),
  (1, .istore_n 1, 1, 7, 1, 0, 0, 0),
  (2, .iconst 0, 1, 1, 0, 0, 0, 0),
  (3, .istore_n 2, 1, 7, 2, 0, 0, 0),
  (4, .iload_n 2, 1, 4, 2, 0, 0, 0),
  (5, .bipush 10, 2, 1, 0, 0, 10, 0),
  (7, .if_icmp .ge 24, 3, 79, 31, 0, 0, 0),
  (10, .iload_n 1, 1, 4, 1, 0, 0, 0),
  (11, .aload_n 0, 1, 6, 0, 0, 0, 0),
  (12, .getfield 11, 3, 42, 5, 0, 0, 186),
  (15, .iload_n 2, 1, 4, 2, 0, 0, 0),
  (16, .aaload, 1, 48, 0, 0, 0, 0),
  (17, .getfield 88, 3, 42, 2, 2, 0, 151),
  (20, .invokevirtual 75, 3, 58, 10, 0, 0, 389),
  (23, .iadd, 1, 11, 0, 0, 0, 0),
  (24, .istore_n 1, 1, 7, 1, 0, 0, 0),
  (25, .iinc 2 1, 3, 10, 2, 0, 1, 0),
  (28, .goto (-24), 3, 37, 4, 0, 0, 0),
  (31, .iload_n 1, 1, 4, 1, 0, 0, 0),
  (32, .ireturn, 1, 63, 0, 0, 0, 0)]
def vC_98 : List vent := vC_98_0
def vC_99_0 : List vent := [(0, .iconst 0, 1, 1, 0, 0, 0, 0),
  (1, .istore_n 1, 1, 7, 1, 0, 0, 0),
  (2, .iconst 0, 1, 1, 0, 0, 0, 0),
  (3, .istore_n 2, 1, 7, 2, 0, 0, 0),
  (4, .iload_n 2, 1, 4, 2, 0, 0, 0),
  (5, .bipush 10, 2, 1, 0, 0, 10, 0),
  (7, .if_icmp .ge 24, 3, 79, 31, 0, 0, 0),
  (10, .iload_n 1, 1, 4, 1, 0, 0, 0),
  (11, .aload_n 0, 1, 6, 0, 0, 0, 0),
  (12, .getfield 11, 3, 42, 5, 0, 0, 186),
  (15, .iload_n 2, 1, 4, 2, 0, 0, 0),
  (16, .aaload, 1, 48, 0, 0, 0, 0),
  (17, .getfield 95, 3, 42, 2, 3, 0, 153),
  (20, .invokevirtual 75, 3, 58, 10, 0, 0, 389),
  (23, .iadd, 1, 11, 0, 0, 0, 0),
  (24, .istore_n 1, 1, 7, 1, 0, 0, 0),
  (25, .iinc 2 1, 3, 10, 2, 0, 1, 0),
  (28, .goto (-24), 3, 37, 4, 0, 0, 0),
  (31, .iload_n 1, 1, 4, 1, 0, 0, 0),
  (32, .ireturn, 1, 63, 0, 0, 0, 0)]
def vC_99 : List vent := vC_99_0
def vC_100_0 : List vent := [(0, .iload_n 1, 1, 4, 1, 0, 0, 0),
  (1, .invokestatic 182, 3, 59, 92, 0, 0, 572),
  (4, .ifCond .eq 10, 3, 70, 14, 0, 0, 0),
  (7, .iload_n 3, 1, 4, 3, 0, 0, 0),
  (8, .invokestatic 55, 3, 59, 87, 0, 0, 228),
  (11, .ifCond .ne 5, 3, 71, 16, 0, 0, 0),
  (14, .iconst (-1), 1, 1, 0, 0, (-1), 0),
  (15, .ireturn, 1, 63, 0, 0, 0, 0),
  (16, .iload 4, 2, 4, 4, 0, 0, 0),
  (18, .invokestatic 98, 3, 59, 88, 0, 0, 420),
  (21, .ifCond .ne 6, 3, 71, 27, 0, 0, 0),
  (24, .bipush (-2), 2, 1, 0, 0, (-2), 0),
  (26, .ireturn, 1, 63, 0, 0, 0, 0),
  (27, .aload_n 0, 1, 6, 0, 0, 0, 0),
  (28, .getfield 34, 3, 42, 5, 5, 0, 191),
  (31, .iload_n 1, 1, 4, 1, 0, 0, 0),
  (32, .aaload, 1, 48, 0, 0, 0, 0),
  (33, .astore 5, 2, 9, 5, 0, 0, 0),
  (35, .aload 5, 2, 6, 5, 0, 0, 0),
  (37, .getfield 188, 3, 42, 4, 0, 0, 174),
  (40, .ifCond .ne 6, 3, 71, 46, 0, 0, 0),
  (43, .bipush (-11), 2, 1, 0, 0, (-11), 0),
  (45, .ireturn, 1, 63, 0, 0, 0, 0),
  (46, .iload_n 2, 1, 4, 2, 0, 0, 0),
  (47, .ifCond .lt 12, 3, 72, 59, 0, 0, 0),
  (50, .iload_n 2, 1, 4, 2, 0, 0, 0),
  (51, .aload 5, 2, 6, 5, 0, 0, 0),
  (53, .getfield 191, 3, 42, 4, 1, 0, 176),
  (56, .if_icmp .le 8, 3, 81, 64, 0, 0, 0),
  (59, .bipush (-13), 2, 1, 0, 0, (-13), 0),
  (61, .goto 4, 3, 37, 65, 0, 0, 0),
  (64, .iconst 0, 1, 1, 0, 0, 0, 0),
  (65, .ireturn, 1, 63, 0, 0, 0, 0)]
def vC_100 : List vent := vC_100_0
def vC_101_0 : List vent := [(0, .aload_n 0, 1, 6, 0, 0, 0, 0),
  (1, .invokespecial 1, 3, 61, 0, 0, 0, 629),
  (4, .aload_n 0, 1, 6, 0, 0, 0, 0),
  (5, .bipush 10, 2, 1, 0, 0, 10, 0),
  (7, .newarray .boolean, 2, 55, 2, 0, 0, 0),
  (9, .putfield 7, 3, 68, 6, 0, 0, 631),
  (12, .aload_n 0, 1, 6, 0, 0, 0, 0),
  (13, .sipush 7200, 3, 1, 0, 0, 7200, 0),
  (16, .newarray .boolean, 2, 55, 2, 0, 0, 0),
  (18, .putfield 13, 3, 68, 6, 1, 0, 632),
  (21, .aload_n 0, 1, 6, 0, 0, 0, 0),
  (22, .sipush 7200, 3, 1, 0, 0, 7200, 0),
  (25, .newarray .boolean, 2, 55, 2, 0, 0, 0),
  (27, .putfield 16, 3, 68, 6, 2, 0, 633),
  (30, .aload_n 0, 1, 6, 0, 0, 0, 0),
  (31, .sipush 7200, 3, 1, 0, 0, 7200, 0),
  (34, .newarray .boolean, 2, 55, 2, 0, 0, 0),
  (36, .putfield 19, 3, 68, 6, 3, 0, 634),
  (39, .aload_n 0, 1, 6, 0, 0, 0, 0),
  (40, .bipush 10, 2, 1, 0, 0, 10, 0),
  (42, .newarray .boolean, 2, 55, 2, 0, 0, 0),
  (44, .putfield 22, 3, 68, 6, 4, 0, 635),
  (47, .aload_n 0, 1, 6, 0, 0, 0, 0),
  (48, .sipush 7200, 3, 1, 0, 0, 7200, 0),
  (51, .newarray .boolean, 2, 55, 2, 0, 0, 0),
  (53, .putfield 25, 3, 68, 6, 5, 0, 636),
  (56, .aload_n 0, 1, 6, 0, 0, 0, 0),
  (57, .sipush 7200, 3, 1, 0, 0, 7200, 0),
  (60, .newarray .boolean, 2, 55, 2, 0, 0, 0),
  (62, .putfield 28, 3, 68, 6, 6, 0, 637),
  (65, .aload_n 0, 1, 6, 0, 0, 0, 0),
  (66, .sipush 7200, 3, 1, 0, 0, 7200, 0),
  (69, .newarray .boolean, 2, 55, 2, 0, 0, 0),
  (71, .putfield 31, 3, 68, 6, 7, 0, 638),
  (74, .aload_n 0, 1, 6, 0, 0, 0, 0),
  (75, .bipush 80, 2, 1, 0, 0, 80, 0),
  (77, .newarray .int, 2, 55, 0, 0, 0, 0),
  (79, .putfield 34, 3, 68, 6, 9, 0, 640),
  (82, .aload_n 0, 1, 6, 0, 0, 0, 0),
  (83, .ldc 38, 2, 1, 0, 0, 36000, 630),
  (85, .newarray .boolean, 2, 55, 2, 0, 0, 0),
  (87, .putfield 39, 3, 68, 6, 13, 0, 644),
  (90, .aload_n 0, 1, 6, 0, 0, 0, 0),
  (91, .bipush 7, 2, 1, 0, 0, 7, 0),
  (93, .newarray .int, 2, 55, 0, 0, 0, 0),
  (95, .putfield 42, 3, 68, 6, 16, 0, 647),
  (98, .aload_n 0, 1, 6, 0, 0, 0, 0),
  (99, .bipush 7, 2, 1, 0, 0, 7, 0),
  (101, .newarray .int, 2, 55, 0, 0, 0, 0),
  (103, .putfield 45, 3, 68, 6, 17, 0, 648),
  (106, .aload_n 0, 1, 6, 0, 0, 0, 0),
  (107, .bipush 7, 2, 1, 0, 0, 7, 0),
  (109, .newarray .int, 2, 55, 0, 0, 0, 0),
  (111, .putfield 48, 3, 68, 6, 18, 0, 649),
  (114, .aload_n 0, 1, 6, 0, 0, 0, 0),
  (115, .bipush 7, 2, 1, 0, 0, 7, 0),
  (117, .newarray .int, 2, 55, 0, 0, 0, 0),
  (119, .putfield 51, 3, 68, 6, 19, 0, 650),
  (122, .aload_n 0, 1, 6, 0, 0, 0, 0),
  (123, .iconst 4, 1, 1, 0, 0, 4, 0),
  (124, .newarray .int, 2, 55, 0, 0, 0, 0),
  (126, .dup, 1, 34, 0, 0, 0, 0),
  (127, .iconst 0, 1, 1, 0, 0, 0, 0),
  (128, .iconst (-1), 1, 1, 0, 0, (-1), 0),
  (129, .iastore, 1, 49, 0, 0, 0, 0),
  (130, .dup, 1, 34, 0, 0, 0, 0),
  (131, .iconst 1, 1, 1, 0, 0, 1, 0),
  (132, .iconst (-1), 1, 1, 0, 0, (-1), 0),
  (133, .iastore, 1, 49, 0, 0, 0, 0),
  (134, .dup, 1, 34, 0, 0, 0, 0),
  (135, .iconst 2, 1, 1, 0, 0, 2, 0),
  (136, .iconst (-1), 1, 1, 0, 0, (-1), 0),
  (137, .iastore, 1, 49, 0, 0, 0, 0),
  (138, .dup, 1, 34, 0, 0, 0, 0),
  (139, .iconst 3, 1, 1, 0, 0, 3, 0),
  (140, .iconst (-1), 1, 1, 0, 0, (-1), 0),
  (141, .iastore, 1, 49, 0, 0, 0, 0),
  (142, .putfield 54, 3, 68, 6, 22, 0, 653),
  (145, .aload_n 0, 1, 6, 0, 0, 0, 0),
  (146, .bipush 120, 2, 1, 0, 0, 120, 0),
  (148, .newarray .int, 2, 55, 0, 0, 0, 0),
  (150, .putfield 57, 3, 68, 6, 23, 0, 654),
  (153, .aload_n 0, 1, 6, 0, 0, 0, 0),
  (154, .bipush 30, 2, 1, 0, 0, 30, 0),
  (156, .newarray .int, 2, 55, 0, 0, 0, 0),
  (158, .putfield 60, 3, 68, 6, 24, 0, 655),
  (161, .return_, 1, 66, 0, 0, 0, 0)]
def vC_101 : List vent := vC_101_0
def vC_102_0 : List vent := [(0, .lload_n 0, 1, 5, 0, 0, 0, 0),
  (1, .lload_n 2, 1, 5, 2, 0, 0, 0),
  (2, .lcmp, 1, 31, 0, 0, 0, 0),
  (3, .ifCond .lt 14, 3, 72, 17, 0, 0, 0),
  (6, .lload_n 0, 1, 5, 0, 0, 0, 0),
  (7, .lload 4, 2, 5, 4, 0, 0, 0),
  (9, .lcmp, 1, 31, 0, 0, 0, 0),
  (10, .ifCond .gt 7, 3, 74, 17, 0, 0, 0),
  (13, .iconst 1, 1, 1, 0, 0, 1, 0),
  (14, .goto 4, 3, 37, 18, 0, 0, 0),
  (17, .iconst 0, 1, 1, 0, 0, 0, 0),
  (18, .ireturn, 1, 63, 1, 0, 0, 0)]
def vC_102 : List vent := vC_102_0
def vC_103_0 : List vent := [(0, .iload_n 0, 1, 4, 0, 0, 0, 0),
  (1, .i2l, 1, 32, 0, 0, 0, 0),
  (2, .lconst 0, 1, 2, 0, 0, 0, 0),
  (3, .ldc2_w 63, 3, 2, 0, 0, 9, 727),
  (6, .invokestatic 65, 3, 59, 102, 0, 0, 713),
  (9, .ireturn, 1, 63, 1, 0, 0, 0)]
def vC_103 : List vent := vC_103_0
def vC_104_0 : List vent := [(0, .iload_n 0, 1, 4, 0, 0, 0, 0),
  (1, .i2l, 1, 32, 0, 0, 0, 0),
  (2, .lconst 0, 1, 2, 0, 0, 0, 0),
  (3, .ldc2_w 69, 3, 2, 0, 0, 719, 798),
  (6, .invokestatic 65, 3, 59, 102, 0, 0, 713),
  (9, .ireturn, 1, 63, 1, 0, 0, 0)]
def vC_104 : List vent := vC_104_0
def vC_105_0 : List vent := [(0, .iconst 0, 1, 1, 0, 0, 0, 0),
  (1, .istore_n 3, 1, 7, 3, 0, 0, 0),
  (2, .iload_n 3, 1, 4, 3, 0, 0, 0),
  (3, .iload_n 2, 1, 4, 2, 0, 0, 0),
  (4, .if_icmp .ge 15, 3, 79, 19, 0, 0, 0),
  (7, .aload_n 1, 1, 6, 1, 0, 0, 0),
  (8, .iload_n 3, 1, 4, 3, 0, 0, 0),
  (9, .aload_n 0, 1, 6, 0, 0, 0, 0),
  (10, .iload_n 3, 1, 4, 3, 0, 0, 0),
  (11, .baload, 1, 47, 0, 0, 0, 0),
  (12, .bastore, 1, 51, 0, 0, 0, 0),
  (13, .iinc 3 1, 3, 10, 3, 0, 1, 0),
  (16, .goto (-14), 3, 37, 2, 0, 0, 0),
  (19, .return_, 1, 66, 0, 0, 0, 0)]
def vC_105 : List vent := vC_105_0
def vC_106_0 : List vent := [(0, .sipush 720, 3, 1, 0, 0, 720, 0),
  (3, .iload_n 1, 1, 4, 1, 0, 0, 0),
  (4, .imul, 1, 13, 0, 0, 0, 0),
  (5, .iload_n 2, 1, 4, 2, 0, 0, 0),
  (6, .iadd, 1, 11, 0, 0, 0, 0),
  (7, .istore_n 3, 1, 7, 3, 0, 0, 0),
  (8, .aload_n 0, 1, 6, 0, 0, 0, 0),
  (9, .getfield 13, 3, 42, 6, 1, 0, 632),
  (12, .iload_n 3, 1, 4, 3, 0, 0, 0),
  (13, .baload, 1, 47, 0, 0, 0, 0),
  (14, .ifCond .ne 12, 3, 71, 26, 0, 0, 0),
  (17, .aload_n 0, 1, 6, 0, 0, 0, 0),
  (18, .getfield 19, 3, 42, 6, 3, 0, 634),
  (21, .iload_n 3, 1, 4, 3, 0, 0, 0),
  (22, .baload, 1, 47, 0, 0, 0, 0),
  (23, .ifCond .eq 16, 3, 70, 39, 0, 0, 0),
  (26, .aload_n 0, 1, 6, 0, 0, 0, 0),
  (27, .getfield 16, 3, 42, 6, 2, 0, 633),
  (30, .iload_n 3, 1, 4, 3, 0, 0, 0),
  (31, .baload, 1, 47, 0, 0, 0, 0),
  (32, .ifCond .ne 7, 3, 71, 39, 0, 0, 0),
  (35, .iconst 1, 1, 1, 0, 0, 1, 0),
  (36, .goto 4, 3, 37, 40, 0, 0, 0),
  (39, .iconst 0, 1, 1, 0, 0, 0, 0),
  (40, .ireturn, 1, 63, 1, 0, 0, 0)]
def vC_106 : List vent := vC_106_0
def vC_107_0 : List vent := [(0, .iconst 0, 1, 1, 0, 0, 0, 0),
  (1, .istore_n 2, 1, 7, 2, 0, 0, 0),
  (2, .iconst 0, 1, 1, 0, 0, 0, 0),
  (3, .istore_n 3, 1, 7, 3, 0, 0, 0),
  (4, .iload_n 3, 1, 4, 3, 0, 0, 0),
  (5, .sipush 720, 3, 1, 0, 0, 720, 0),
  (8, .if_icmp .ge 29, 3, 79, 37, 0, 0, 0),
  (11, .iload_n 2, 1, 4, 2, 0, 0, 0),
  (12, .aload_n 0, 1, 6, 0, 0, 0, 0),
  (13, .sipush 720, 3, 1, 0, 0, 720, 0),
  (16, .iload_n 1, 1, 4, 1, 0, 0, 0),
  (17, .imul, 1, 13, 0, 0, 0, 0),
  (18, .iload_n 3, 1, 4, 3, 0, 0, 0),
  (19, .iadd, 1, 11, 0, 0, 0, 0),
  (20, .baload, 1, 47, 0, 0, 0, 0),
  (21, .ifCond .eq 7, 3, 70, 28, 0, 0, 0),
  (24, .iconst 1, 1, 1, 0, 0, 1, 0),
  (25, .goto 4, 3, 37, 29, 0, 0, 0),
  (28, .iconst 0, 1, 1, 0, 0, 0, 0),
  (29, .iadd, 1, 11, 0, 0, 0, 0),
  (30, .istore_n 2, 1, 7, 2, 0, 0, 0),
  (31, .iinc 3 1, 3, 10, 3, 0, 1, 0),
  (34, .goto (-30), 3, 37, 4, 0, 0, 0),
  (37, .iload_n 2, 1, 4, 2, 0, 0, 0),
  (38, .ireturn, 1, 63, 0, 0, 0, 0)]
def vC_107 : List vent := vC_107_0
def vC_108_0 : List vent := [(0, .iload_n 1, 1, 4, 1, 0, 0, 0),
  (1, .i2l, 1, 32, 0, 0, 0, 0),
  (2, .lconst 1, 1, 2, 0, 0, 1, 0),
  (3, .ldc2_w 71, 3, 2, 0, 0, 127, 712),
  (6, .invokestatic 65, 3, 59, 102, 0, 0, 713),
  (9, .ifCond .ne 6, 3, 71, 15, 0, 0, 0),
  (12, .bipush (-2), 2, 1, 0, 0, (-2), 0),
  (14, .ireturn, 1, 63, 0, 0, 0, 0),
  (15, .aload_n 0, 1, 6, 0, 0, 0, 0),
  (16, .getfield 73, 3, 42, 6, 10, 0, 641),
  (19, .bipush 80, 2, 1, 0, 0, 80, 0),
  (21, .if_icmp .ne 6, 3, 77, 27, 0, 0, 0),
  (24, .bipush (-4), 2, 1, 0, 0, (-4), 0),
  (26, .ireturn, 1, 63, 0, 0, 0, 0),
  (27, .aload_n 0, 1, 6, 0, 0, 0, 0),
  (28, .getfield 34, 3, 42, 6, 9, 0, 640),
  (31, .aload_n 0, 1, 6, 0, 0, 0, 0),
  (32, .getfield 73, 3, 42, 6, 10, 0, 641),
  (35, .iload_n 1, 1, 4, 1, 0, 0, 0),
  (36, .iastore, 1, 49, 0, 0, 0, 0),
  (37, .aload_n 0, 1, 6, 0, 0, 0, 0),
  (38, .dup, 1, 34, 0, 0, 0, 0),
  (39, .getfield 73, 3, 42, 6, 10, 0, 641),
  (42, .iconst 1, 1, 1, 0, 0, 1, 0),
  (43, .iadd, 1, 11, 0, 0, 0, 0),
  (44, .putfield 73, 3, 43, 6, 10, 0, 641),
  (47, .aload_n 0, 1, 6, 0, 0, 0, 0),
  (48, .getfield 73, 3, 42, 6, 10, 0, 641),
  (51, .ireturn, 1, 63, 0, 0, 0, 0)]
def vC_108 : List vent := vC_108_0
def vC_109_0 : List vent := [(0, .aload_n 0, 1, 6, 0, 0, 0, 0),
  (1, .getfield 73, 3, 42, 6, 10, 0, 641),
  (4, .istore_n 1, 1, 7, 1, 0, 0, 0),
  (5, .aload_n 0, 1, 6, 0, 0, 0, 0),
  (6, .iconst 0, 1, 1, 0, 0, 0, 0),
  (7, .putfield 73, 3, 43, 6, 10, 0, 641),
  (10, .iload_n 1, 1, 4, 1, 0, 0, 0),
  (11, .ireturn, 1, 63, 0, 0, 0, 0)]
def vC_109 : List vent := vC_109_0
def vC_110_0 : List vent := [(0, .aload_n 0, 1, 6, 0, 0, 0, 0),
  (1, .getfield 77, 3, 42, 6, 11, 0, 642),
  (4, .aload_n 0, 1, 6, 0, 0, 0, 0),
  (5, .getfield 73, 3, 42, 6, 10, 0, 641),
  (8, .if_icmp .ge 15, 3, 79, 23, 0, 0, 0),
  (11, .aload_n 0, 1, 6, 0, 0, 0, 0),
  (12, .getfield 34, 3, 42, 6, 9, 0, 640),
  (15, .aload_n 0, 1, 6, 0, 0, 0, 0),
  (16, .getfield 77, 3, 42, 6, 11, 0, 642),
  (19, .iaload, 1, 45, 0, 0, 0, 0),
  (20, .goto 4, 3, 37, 24, 0, 0, 0),
  (23, .iconst 0, 1, 1, 0, 0, 0, 0),
  (24, .ireturn, 1, 63, 0, 0, 0, 0)]
def vC_110 : List vent := vC_110_0
def vC_111_0 : List vent := [(0, .aload_n 0, 1, 6, 0, 0, 0, 0),
  (1, .getfield 80, 3, 42, 6, 12, 0, 643),
  (4, .ifCond .eq 15, 3, 70, 19, 0, 0, 0),
  (7, .aload_n 0, 1, 6, 0, 0, 0, 0),
  (8, .invokevirtual 84, 3, 58, 110, 0, 0, 744),
  (11, .iload_n 1, 1, 4, 1, 0, 0, 0),
  (12, .if_icmp .ne 7, 3, 77, 19, 0, 0, 0),
  (15, .iconst 1, 1, 1, 0, 0, 1, 0),
  (16, .goto 4, 3, 37, 20, 0, 0, 0),
  (19, .iconst 0, 1, 1, 0, 0, 0, 0),
  (20, .ireturn, 1, 63, 1, 0, 0, 0)]
def vC_111 : List vent := vC_111_0
def vC_112_0 : List vent := [(0, .aload_n 0, 1, 6, 0, 0, 0, 0),
  (1, .iload_n 1, 1, 4, 1, 0, 0, 0),
  (2, .invokevirtual 88, 3, 58, 111, 0, 0, 740),
  (5, .ifCond .eq 16, 3, 70, 21, 0, 0, 0),
  (8, .aload_n 0, 1, 6, 0, 0, 0, 0),
  (9, .dup, 1, 34, 0, 0, 0, 0),
  (10, .getfield 77, 3, 42, 6, 11, 0, 642),
  (13, .iconst 1, 1, 1, 0, 0, 1, 0),
  (14, .iadd, 1, 11, 0, 0, 0, 0),
  (15, .putfield 77, 3, 43, 6, 11, 0, 642),
  (18, .goto 8, 3, 37, 26, 0, 0, 0),
  (21, .aload_n 0, 1, 6, 0, 0, 0, 0),
  (22, .iconst 0, 1, 1, 0, 0, 0, 0),
  (23, .putfield 80, 3, 43, 6, 12, 0, 643),
  (26, .return_, 1, 66, 0, 0, 0, 0)]
def vC_112 : List vent := vC_112_0
def vC_113_0 : List vent := [(0, .aload_n 0, 1, 6, 0, 0, 0, 0),
  (1, .getfield 77, 3, 42, 6, 11, 0, 642),
  (4, .istore_n 3, 1, 7, 3, 0, 0, 0),
  (5, .iconst 0, 1, 1, 0, 0, 0, 0),
  (6, .istore 4, 2, 7, 4, 0, 0, 0),
  (8, .aload_n 0, 1, 6, 0, 0, 0, 0),
  (9, .getfield 80, 3, 42, 6, 12, 0, 643),
  (12, .ifCond .eq 58, 3, 70, 70, 0, 0, 0),
  (15, .aload_n 0, 1, 6, 0, 0, 0, 0),
  (16, .getfield 77, 3, 42, 6, 11, 0, 642),
  (19, .iload_n 3, 1, 4, 3, 0, 0, 0),
  (20, .isub, 1, 12, 0, 0, 0, 0),
  (21, .iconst 4, 1, 1, 0, 0, 4, 0),
  (22, .if_icmp .ge 48, 3, 79, 70, 0, 0, 0),
  (25, .aload_n 0, 1, 6, 0, 0, 0, 0),
  (26, .invokevirtual 84, 3, 58, 110, 0, 0, 744),
  (29, .i2l, 1, 32, 0, 0, 0, 0),
  (30, .ldc2_w 92, 3, 2, 0, 0, 48, 774),
  (33, .ldc2_w 94, 3, 2, 0, 0, 57, 775),
  (36, .invokestatic 65, 3, 59, 102, 0, 0, 713),
  (39, .ifCond .eq 31, 3, 70, 70, 0, 0, 0),
  (42, .bipush 10, 2, 1, 0, 0, 10, 0),
  (44, .iload 4, 2, 4, 4, 0, 0, 0),
  (46, .imul, 1, 13, 0, 0, 0, 0),
  (47, .aload_n 0, 1, 6, 0, 0, 0, 0),
  (48, .invokevirtual 84, 3, 58, 110, 0, 0, 744),
  (51, .iadd, 1, 11, 0, 0, 0, 0),
  (52, .bipush 48, 2, 1, 0, 0, 48, 0),
  (54, .isub, 1, 12, 0, 0, 0, 0),
  (55, .istore 4, 2, 7, 4, 0, 0, 0),
  (57, .aload_n 0, 1, 6, 0, 0, 0, 0),
  (58, .dup, 1, 34, 0, 0, 0, 0),
  (59, .getfield 77, 3, 42, 6, 11, 0, 642),
  (62, .iconst 1, 1, 1, 0, 0, 1, 0),
  (63, .iadd, 1, 11, 0, 0, 0, 0),
  (64, .putfield 77, 3, 43, 6, 11, 0, 642),
  (67, .goto (-59), 3, 37, 8, 0, 0, 0),
  (70, .aload_n 0, 1, 6, 0, 0, 0, 0),
  (71, .getfield 80, 3, 42, 6, 12, 0, 643),
  (74, .ifCond .eq 34, 3, 70, 108, 0, 0, 0),
  (77, .aload_n 0, 1, 6, 0, 0, 0, 0),
  (78, .getfield 77, 3, 42, 6, 11, 0, 642),
  (81, .iload_n 3, 1, 4, 3, 0, 0, 0),
  (82, .if_icmp .eq 16, 3, 76, 98, 0, 0, 0),
  (85, .iload 4, 2, 4, 4, 0, 0, 0),
  (87, .i2l, 1, 32, 0, 0, 0, 0),
  (88, .iload_n 1, 1, 4, 1, 0, 0, 0),
  (89, .i2l, 1, 32, 0, 0, 0, 0),
  (90, .iload_n 2, 1, 4, 2, 0, 0, 0),
  (91, .i2l, 1, 32, 0, 0, 0, 0),
  (92, .invokestatic 65, 3, 59, 102, 0, 0, 713),
  (95, .ifCond .ne 13, 3, 71, 108, 0, 0, 0),
  (98, .aload_n 0, 1, 6, 0, 0, 0, 0),
  (99, .iload_n 3, 1, 4, 3, 0, 0, 0),
  (100, .putfield 77, 3, 43, 6, 11, 0, 642),
  (103, .aload_n 0, 1, 6, 0, 0, 0, 0),
  (104, .iconst 0, 1, 1, 0, 0, 0, 0),
  (105, .putfield 80, 3, 43, 6, 12, 0, 643),
  (108, .iload 4, 2, 4, 4, 0, 0, 0),
  (110, .ireturn, 1, 63, 0, 0, 0, 0)]
def vC_113 : List vent := vC_113_0
def vC_114_0 : List vent := [(0, .sipush 720, 3, 1, 0, 0, 720, 0),
  (3, .aload_n 0, 1, 6, 0, 0, 0, 0),
  (4, .getfield 96, 3, 42, 6, 14, 0, 645),
  (7, .imul, 1, 13, 0, 0, 0, 0),
  (8, .istore_n 1, 1, 7, 1, 0, 0, 0),
  (9, .aload_n 0, 1, 6, 0, 0, 0, 0),
  (10, .dup, 1, 34, 0, 0, 0, 0),
  (11, .getfield 96, 3, 42, 6, 14, 0, 645),
  (14, .iconst 1, 1, 1, 0, 0, 1, 0),
  (15, .iadd, 1, 11, 0, 0, 0, 0),
  (16, .putfield 96, 3, 43, 6, 14, 0, 645),
  (19, .iconst 0, 1, 1, 0, 0, 0, 0),
  (20, .istore_n 2, 1, 7, 2, 0, 0, 0),
  (21, .iload_n 2, 1, 4, 2, 0, 0, 0),
  (22, .sipush 720, 3, 1, 0, 0, 720, 0),
  (25, .if_icmp .ge 18, 3, 79, 43, 0, 0, 0),
  (28, .aload_n 0, 1, 6, 0, 0, 0, 0),
  (29, .getfield 39, 3, 42, 6, 13, 0, 644),
  (32, .iload_n 1, 1, 4, 1, 0, 0, 0),
  (33, .iload_n 2, 1, 4, 2, 0, 0, 0),
  (34, .iadd, 1, 11, 0, 0, 0, 0),
  (35, .iconst 0, 1, 1, 0, 0, 0, 0),
  (36, .bastore, 1, 51, 0, 0, 0, 0),
  (37, .iinc 2 1, 3, 10, 2, 0, 1, 0),
  (40, .goto (-19), 3, 37, 21, 0, 0, 0),
  (43, .iload_n 1, 1, 4, 1, 0, 0, 0),
  (44, .ireturn, 1, 63, 0, 0, 0, 0)]
def vC_114 : List vent := vC_114_0
def vC_115_0 : List vent := [(0, .aload_n 0, 1, 6, 0, 0, 0, 0),
  (1, .iload_n 1, 1, 4, 1, 0, 0, 0),
  (2, .invokevirtual 99, 3, 58, 116, 0, 0, 732),
  (5, .istore_n 2, 1, 7, 2, 0, 0, 0),
  (6, .aload_n 0, 1, 6, 0, 0, 0, 0),
  (7, .bipush 124, 2, 1, 0, 0, 124, 0),
  (9, .invokevirtual 88, 3, 58, 111, 0, 0, 740),
  (12, .ifCond .ne 12, 3, 71, 24, 0, 0, 0),
  (15, .aload_n 0, 1, 6, 0, 0, 0, 0),
  (16, .bipush 47, 2, 1, 0, 0, 47, 0),
  (18, .invokevirtual 88, 3, 58, 111, 0, 0, 740),
  (21, .ifCond .eq 142, 3, 70, 163, 0, 0, 0),
  (24, .aload_n 0, 1, 6, 0, 0, 0, 0),
  (25, .invokevirtual 84, 3, 58, 110, 0, 0, 744),
  (28, .bipush 124, 2, 1, 0, 0, 124, 0),
  (30, .if_icmp .ne 7, 3, 77, 37, 0, 0, 0),
  (33, .iconst 1, 1, 1, 0, 0, 1, 0),
  (34, .goto 4, 3, 37, 38, 0, 0, 0),
  (37, .iconst 0, 1, 1, 0, 0, 0, 0),
  (38, .istore_n 3, 1, 7, 3, 0, 0, 0),
  (39, .aload_n 0, 1, 6, 0, 0, 0, 0),
  (40, .dup, 1, 34, 0, 0, 0, 0),
  (41, .getfield 77, 3, 42, 6, 11, 0, 642),
  (44, .iconst 1, 1, 1, 0, 0, 1, 0),
  (45, .iadd, 1, 11, 0, 0, 0, 0),
  (46, .putfield 77, 3, 43, 6, 11, 0, 642),
  (49, .aload_n 0, 1, 6, 0, 0, 0, 0),
  (50, .iload_n 1, 1, 4, 1, 0, 0, 0),
  (51, .invokevirtual 99, 3, 58, 116, 0, 0, 732),
  (54, .istore 4, 2, 7, 4, 0, 0, 0),
  (56, .iconst 0, 1, 1, 0, 0, 0, 0),
  (57, .istore 5, 2, 7, 5, 0, 0, 0),
  (59, .iload 5, 2, 4, 5, 0, 0, 0),
  (61, .sipush 720, 3, 1, 0, 0, 720, 0),
  (64, .if_icmp .ge 85, 3, 79, 149, 0, 0, 0),
  (67, .aload_n 0, 1, 6, 0, 0, 0, 0),
  (68, .getfield 39, 3, 42, 6, 13, 0, 644),
  (71, .iload_n 2, 1, 4, 2, 0, 0, 0),
  (72, .iload 5, 2, 4, 5, 0, 0, 0),
  (74, .iadd, 1, 11, 0, 0, 0, 0),
  (75, .iload_n 3, 1, 4, 3, 0, 0, 0),
  (76, .ifCond .eq 36, 3, 70, 112, 0, 0, 0),
  (79, .aload_n 0, 1, 6, 0, 0, 0, 0),
  (80, .getfield 39, 3, 42, 6, 13, 0, 644),
  (83, .iload_n 2, 1, 4, 2, 0, 0, 0),
  (84, .iload 5, 2, 4, 5, 0, 0, 0),
  (86, .iadd, 1, 11, 0, 0, 0, 0),
  (87, .baload, 1, 47, 0, 0, 0, 0),
  (88, .ifCond .ne 16, 3, 71, 104, 0, 0, 0),
  (91, .aload_n 0, 1, 6, 0, 0, 0, 0),
  (92, .getfield 39, 3, 42, 6, 13, 0, 644),
  (95, .iload 4, 2, 4, 4, 0, 0, 0),
  (97, .iload 5, 2, 4, 5, 0, 0, 0),
  (99, .iadd, 1, 11, 0, 0, 0, 0),
  (100, .baload, 1, 47, 0, 0, 0, 0),
  (101, .ifCond .eq 7, 3, 70, 108, 0, 0, 0),
  (104, .iconst 1, 1, 1, 0, 0, 1, 0),
  (105, .goto 37, 3, 37, 142, 0, 0, 0),
  (108, .iconst 0, 1, 1, 0, 0, 0, 0),
  (109, .goto 33, 3, 37, 142, 0, 0, 0),
  (112, .aload_n 0, 1, 6, 0, 0, 0, 0),
  (113, .getfield 39, 3, 42, 6, 13, 0, 644),
  (116, .iload_n 2, 1, 4, 2, 0, 0, 0),
  (117, .iload 5, 2, 4, 5, 0, 0, 0),
  (119, .iadd, 1, 11, 0, 0, 0, 0),
  (120, .baload, 1, 47, 0, 0, 0, 0),
  (121, .ifCond .eq 20, 3, 70, 141, 0, 0, 0),
  (124, .aload_n 0, 1, 6, 0, 0, 0, 0),
  (125, .getfield 39, 3, 42, 6, 13, 0, 644),
  (128, .iload 4, 2, 4, 4, 0, 0, 0),
  (130, .iload 5, 2, 4, 5, 0, 0, 0),
  (132, .iadd, 1, 11, 0, 0, 0, 0),
  (133, .baload, 1, 47, 0, 0, 0, 0),
  (134, .ifCond .ne 7, 3, 71, 141, 0, 0, 0),
  (137, .iconst 1, 1, 1, 0, 0, 1, 0),
  (138, .goto 4, 3, 37, 142, 0, 0, 0),
  (141, .iconst 0, 1, 1, 0, 0, 0, 0),
  (142, .bastore, 1, 51, 0, 0, 0, 0),
  (143, .iinc 5 1, 3, 10, 5, 0, 1, 0),
  (146, .goto (-87), 3, 37, 59, 0, 0, 0),
  (149, .aload_n 0, 1, 6, 0, 0, 0, 0),
  (150, .iload_n 2, 1, 4, 2, 0, 0, 0),
  (151, .sipush 720, 3, 1, 0, 0, 720, 0),
  (154, .idiv, 1, 14, 0, 0, 0, 0),
  (155, .iconst 1, 1, 1, 0, 0, 1, 0),
  (156, .iadd, 1, 11, 0, 0, 0, 0),
  (157, .putfield 96, 3, 43, 6, 14, 0, 645),
  (160, .goto (-154), 3, 37, 6, 0, 0, 0),
  (163, .iload_n 2, 1, 4, 2, 0, 0, 0),
  (164, .ireturn, 1, 63, 0, 0, 0, 0)]
def vC_115 : List vent := vC_115_0
def vC_116_0 : List vent := [(0, .aload_n 0, 1, 6, 0, 0, 0, 0),
  (1, .iload_n 1, 1, 4, 1, 0, 0, 0),
  (2, .iconst 1, 1, 1, 0, 0, 1, 0),
  (3, .invokevirtual 103, 3, 58, 118, 0, 0, 736),
  (6, .istore_n 2, 1, 7, 2, 0, 0, 0),
  (7, .aload_n 0, 1, 6, 0, 0, 0, 0),
  (8, .bipush 38, 2, 1, 0, 0, 38, 0),
  (10, .invokevirtual 88, 3, 58, 111, 0, 0, 740),
  (13, .ifCond .eq 89, 3, 70, 102, 0, 0, 0),
  (16, .aload_n 0, 1, 6, 0, 0, 0, 0),
  (17, .dup, 1, 34, 0, 0, 0, 0),
  (18, .getfield 77, 3, 42, 6, 11, 0, 642),
  (21, .iconst 1, 1, 1, 0, 0, 1, 0),
  (22, .iadd, 1, 11, 0, 0, 0, 0),
  (23, .putfield 77, 3, 43, 6, 11, 0, 642),
  (26, .aload_n 0, 1, 6, 0, 0, 0, 0),
  (27, .iload_n 1, 1, 4, 1, 0, 0, 0),
  (28, .iconst 1, 1, 1, 0, 0, 1, 0),
  (29, .invokevirtual 103, 3, 58, 118, 0, 0, 736),
  (32, .istore_n 3, 1, 7, 3, 0, 0, 0),
  (33, .iconst 0, 1, 1, 0, 0, 0, 0),
  (34, .istore 4, 2, 7, 4, 0, 0, 0),
  (36, .iload 4, 2, 4, 4, 0, 0, 0),
  (38, .sipush 720, 3, 1, 0, 0, 720, 0),
  (41, .if_icmp .ge 47, 3, 79, 88, 0, 0, 0),
  (44, .aload_n 0, 1, 6, 0, 0, 0, 0),
  (45, .getfield 39, 3, 42, 6, 13, 0, 644),
  (48, .iload_n 2, 1, 4, 2, 0, 0, 0),
  (49, .iload 4, 2, 4, 4, 0, 0, 0),
  (51, .iadd, 1, 11, 0, 0, 0, 0),
  (52, .aload_n 0, 1, 6, 0, 0, 0, 0),
  (53, .getfield 39, 3, 42, 6, 13, 0, 644),
  (56, .iload_n 2, 1, 4, 2, 0, 0, 0),
  (57, .iload 4, 2, 4, 4, 0, 0, 0),
  (59, .iadd, 1, 11, 0, 0, 0, 0),
  (60, .baload, 1, 47, 0, 0, 0, 0),
  (61, .ifCond .eq 19, 3, 70, 80, 0, 0, 0),
  (64, .aload_n 0, 1, 6, 0, 0, 0, 0),
  (65, .getfield 39, 3, 42, 6, 13, 0, 644),
  (68, .iload_n 3, 1, 4, 3, 0, 0, 0),
  (69, .iload 4, 2, 4, 4, 0, 0, 0),
  (71, .iadd, 1, 11, 0, 0, 0, 0),
  (72, .baload, 1, 47, 0, 0, 0, 0),
  (73, .ifCond .eq 7, 3, 70, 80, 0, 0, 0),
  (76, .iconst 1, 1, 1, 0, 0, 1, 0),
  (77, .goto 4, 3, 37, 81, 0, 0, 0),
  (80, .iconst 0, 1, 1, 0, 0, 0, 0),
  (81, .bastore, 1, 51, 0, 0, 0, 0),
  (82, .iinc 4 1, 3, 10, 4, 0, 1, 0),
  (85, .goto (-49), 3, 37, 36, 0, 0, 0),
  (88, .aload_n 0, 1, 6, 0, 0, 0, 0),
  (89, .iload_n 2, 1, 4, 2, 0, 0, 0),
  (90, .sipush 720, 3, 1, 0, 0, 720, 0),
  (93, .idiv, 1, 14, 0, 0, 0, 0),
  (94, .iconst 1, 1, 1, 0, 0, 1, 0),
  (95, .iadd, 1, 11, 0, 0, 0, 0),
  (96, .putfield 96, 3, 43, 6, 14, 0, 645),
  (99, .goto (-92), 3, 37, 7, 0, 0, 0),
  (102, .iload_n 2, 1, 4, 2, 0, 0, 0),
  (103, .ireturn, 1, 63, 0, 0, 0, 0)]
def vC_116 : List vent := vC_116_0
def vC_117_0 : List vent := [(0, .aload_n 0, 1, 6, 0, 0, 0, 0),
  (1, .bipush 40, 2, 1, 0, 0, 40, 0),
  (3, .invokevirtual 107, 3, 58, 112, 0, 0, 752),
  (6, .aload_n 0, 1, 6, 0, 0, 0, 0),
  (7, .iload_n 1, 1, 4, 1, 0, 0, 0),
  (8, .iconst 1, 1, 1, 0, 0, 1, 0),
  (9, .iadd, 1, 11, 0, 0, 0, 0),
  (10, .invokevirtual 111, 3, 58, 115, 0, 0, 728),
  (13, .istore_n 2, 1, 7, 2, 0, 0, 0),
  (14, .aload_n 0, 1, 6, 0, 0, 0, 0),
  (15, .bipush 41, 2, 1, 0, 0, 41, 0),
  (17, .invokevirtual 107, 3, 58, 112, 0, 0, 752),
  (20, .iload_n 2, 1, 4, 2, 0, 0, 0),
  (21, .ireturn, 1, 63, 0, 0, 0, 0)]
def vC_117 : List vent := vC_117_0
def vC_118_0 : List vent := [(0, .aload_n 0, 1, 6, 0, 0, 0, 0),
  (1, .bipush 33, 2, 1, 0, 0, 33, 0),
  (3, .invokevirtual 88, 3, 58, 111, 0, 0, 740),
  (6, .ifCond .eq 69, 3, 70, 75, 0, 0, 0),
  (9, .iload_n 2, 1, 4, 2, 0, 0, 0),
  (10, .ifCond .eq 65, 3, 70, 75, 0, 0, 0),
  (13, .aload_n 0, 1, 6, 0, 0, 0, 0),
  (14, .dup, 1, 34, 0, 0, 0, 0),
  (15, .getfield 77, 3, 42, 6, 11, 0, 642),
  (18, .iconst 1, 1, 1, 0, 0, 1, 0),
  (19, .iadd, 1, 11, 0, 0, 0, 0),
  (20, .putfield 77, 3, 43, 6, 11, 0, 642),
  (23, .aload_n 0, 1, 6, 0, 0, 0, 0),
  (24, .iload_n 1, 1, 4, 1, 0, 0, 0),
  (25, .iconst 0, 1, 1, 0, 0, 0, 0),
  (26, .invokevirtual 103, 3, 58, 118, 0, 0, 736),
  (29, .istore_n 3, 1, 7, 3, 0, 0, 0),
  (30, .iconst 0, 1, 1, 0, 0, 0, 0),
  (31, .istore 4, 2, 7, 4, 0, 0, 0),
  (33, .iload 4, 2, 4, 4, 0, 0, 0),
  (35, .sipush 720, 3, 1, 0, 0, 720, 0),
  (38, .if_icmp .ge 35, 3, 79, 73, 0, 0, 0),
  (41, .aload_n 0, 1, 6, 0, 0, 0, 0),
  (42, .getfield 39, 3, 42, 6, 13, 0, 644),
  (45, .iload_n 3, 1, 4, 3, 0, 0, 0),
  (46, .iload 4, 2, 4, 4, 0, 0, 0),
  (48, .iadd, 1, 11, 0, 0, 0, 0),
  (49, .aload_n 0, 1, 6, 0, 0, 0, 0),
  (50, .getfield 39, 3, 42, 6, 13, 0, 644),
  (53, .iload_n 3, 1, 4, 3, 0, 0, 0),
  (54, .iload 4, 2, 4, 4, 0, 0, 0),
  (56, .iadd, 1, 11, 0, 0, 0, 0),
  (57, .baload, 1, 47, 0, 0, 0, 0),
  (58, .ifCond .ne 7, 3, 71, 65, 0, 0, 0),
  (61, .iconst 1, 1, 1, 0, 0, 1, 0),
  (62, .goto 4, 3, 37, 66, 0, 0, 0),
  (65, .iconst 0, 1, 1, 0, 0, 0, 0),
  (66, .bastore, 1, 51, 0, 0, 0, 0),
  (67, .iinc 4 1, 3, 10, 4, 0, 1, 0),
  (70, .goto (-37), 3, 37, 33, 0, 0, 0),
  (73, .iload_n 3, 1, 4, 3, 0, 0, 0),
  (74, .ireturn, 1, 63, 0, 0, 0, 0),
  (75, .aload_n 0, 1, 6, 0, 0, 0, 0),
  (76, .bipush 40, 2, 1, 0, 0, 40, 0),
  (78, .invokevirtual 88, 3, 58, 111, 0, 0, 740),
  (81, .ifCond .eq 14, 3, 70, 95, 0, 0, 0),
  (84, .iload_n 1, 1, 4, 1, 0, 0, 0),
  (85, .iconst 5, 1, 1, 0, 0, 5, 0),
  (86, .if_icmp .ge 9, 3, 79, 95, 0, 0, 0),
  (89, .aload_n 0, 1, 6, 0, 0, 0, 0),
  (90, .iload_n 1, 1, 4, 1, 0, 0, 0),
  (91, .invokevirtual 114, 3, 58, 117, 0, 0, 748),
  (94, .ireturn, 1, 63, 0, 0, 0, 0),
  (95, .aload_n 0, 1, 6, 0, 0, 0, 0),
  (96, .invokevirtual 84, 3, 58, 110, 0, 0, 744),
  (99, .istore_n 3, 1, 7, 3, 0, 0, 0),
  (100, .iload_n 3, 1, 4, 3, 0, 0, 0),
  (101, .bipush 110, 2, 1, 0, 0, 110, 0),
  (103, .if_icmp .eq 9, 3, 76, 112, 0, 0, 0),
  (106, .iload_n 3, 1, 4, 3, 0, 0, 0),
  (107, .bipush 108, 2, 1, 0, 0, 108, 0),
  (109, .if_icmp .ne 7, 3, 77, 116, 0, 0, 0),
  (112, .iconst 1, 1, 1, 0, 0, 1, 0),
  (113, .goto 4, 3, 37, 117, 0, 0, 0),
  (116, .iconst 0, 1, 1, 0, 0, 0, 0),
  (117, .istore 4, 2, 7, 4, 0, 0, 0),
  (119, .iload_n 3, 1, 4, 3, 0, 0, 0),
  (120, .bipush 115, 2, 1, 0, 0, 115, 0),
  (122, .if_icmp .eq 21, 3, 76, 143, 0, 0, 0),
  (125, .iload_n 3, 1, 4, 3, 0, 0, 0),
  (126, .bipush 98, 2, 1, 0, 0, 98, 0),
  (128, .if_icmp .eq 15, 3, 76, 143, 0, 0, 0),
  (131, .iload_n 3, 1, 4, 3, 0, 0, 0),
  (132, .bipush 112, 2, 1, 0, 0, 112, 0),
  (134, .if_icmp .eq 9, 3, 76, 143, 0, 0, 0),
  (137, .iload_n 3, 1, 4, 3, 0, 0, 0),
  (138, .bipush 120, 2, 1, 0, 0, 120, 0),
  (140, .if_icmp .ne 7, 3, 77, 147, 0, 0, 0),
  (143, .iconst 1, 1, 1, 0, 0, 1, 0),
  (144, .goto 4, 3, 37, 148, 0, 0, 0),
  (147, .iconst 0, 1, 1, 0, 0, 0, 0),
  (148, .istore 5, 2, 7, 5, 0, 0, 0),
  (150, .aload_n 0, 1, 6, 0, 0, 0, 0),
  (151, .getfield 80, 3, 42, 6, 12, 0, 643),
  (154, .ifCond .eq 73, 3, 70, 227, 0, 0, 0),
  (157, .iload_n 3, 1, 4, 3, 0, 0, 0),
  (158, .i2l, 1, 32, 0, 0, 0, 0),
  (159, .ldc2_w 117, 3, 2, 0, 0, 65, 756),
  (162, .ldc2_w 119, 3, 2, 0, 0, 74, 757),
  (165, .invokestatic 65, 3, 59, 102, 0, 0, 713),
  (168, .ifCond .eq 59, 3, 70, 227, 0, 0, 0),
  (171, .aload_n 0, 1, 6, 0, 0, 0, 0),
  (172, .dup, 1, 34, 0, 0, 0, 0),
  (173, .getfield 77, 3, 42, 6, 11, 0, 642),
  (176, .iconst 1, 1, 1, 0, 0, 1, 0),
  (177, .iadd, 1, 11, 0, 0, 0, 0),
  (178, .putfield 77, 3, 43, 6, 11, 0, 642),
  (181, .aload_n 0, 1, 6, 0, 0, 0, 0),
  (182, .invokevirtual 121, 3, 58, 114, 0, 0, 758),
  (185, .istore 6, 2, 7, 6, 0, 0, 0),
  (187, .iconst 0, 1, 1, 0, 0, 0, 0),
  (188, .istore 7, 2, 7, 7, 0, 0, 0),
  (190, .iload 7, 2, 4, 7, 0, 0, 0),
  (192, .sipush 720, 3, 1, 0, 0, 720, 0),
  (195, .if_icmp .ge 29, 3, 79, 224, 0, 0, 0),
  (198, .aload_n 0, 1, 6, 0, 0, 0, 0),
  (199, .getfield 39, 3, 42, 6, 13, 0, 644),
  (202, .iload 6, 2, 4, 6, 0, 0, 0),
  (204, .iload 7, 2, 4, 7, 0, 0, 0),
  (206, .iadd, 1, 11, 0, 0, 0, 0),
  (207, .aload_n 0, 1, 6, 0, 0, 0, 0),
  (208, .iload_n 3, 1, 4, 3, 0, 0, 0),
  (209, .bipush 65, 2, 1, 0, 0, 65, 0),
  (211, .isub, 1, 12, 0, 0, 0, 0),
  (212, .iload 7, 2, 4, 7, 0, 0, 0),
  (214, .invokevirtual 124, 3, 58, 106, 0, 0, 762),
  (217, .bastore, 1, 51, 0, 0, 0, 0),
  (218, .iinc 7 1, 3, 10, 7, 0, 1, 0),
  (221, .goto (-31), 3, 37, 190, 0, 0, 0),
  (224, .iload 6, 2, 4, 6, 0, 0, 0)]
def vC_118_1 : List vent := [(226, .ireturn, 1, 63, 0, 0, 0, 0),
  (227, .aload_n 0, 1, 6, 0, 0, 0, 0),
  (228, .getfield 80, 3, 42, 6, 12, 0, 643),
  (231, .ifCond .eq 33, 3, 70, 264, 0, 0, 0),
  (234, .iload_n 3, 1, 4, 3, 0, 0, 0),
  (235, .bipush 119, 2, 1, 0, 0, 119, 0),
  (237, .if_icmp .eq 21, 3, 76, 258, 0, 0, 0),
  (240, .iload_n 3, 1, 4, 3, 0, 0, 0),
  (241, .bipush 100, 2, 1, 0, 0, 100, 0),
  (243, .if_icmp .eq 15, 3, 76, 258, 0, 0, 0),
  (246, .iload_n 3, 1, 4, 3, 0, 0, 0),
  (247, .bipush 109, 2, 1, 0, 0, 109, 0),
  (249, .if_icmp .eq 9, 3, 76, 258, 0, 0, 0),
  (252, .iload_n 3, 1, 4, 3, 0, 0, 0),
  (253, .bipush 121, 2, 1, 0, 0, 121, 0),
  (255, .if_icmp .ne 9, 3, 77, 264, 0, 0, 0),
  (258, .aload_n 0, 1, 6, 0, 0, 0, 0),
  (259, .iload_n 3, 1, 4, 3, 0, 0, 0),
  (260, .invokevirtual 128, 3, 58, 119, 0, 0, 766),
  (263, .ireturn, 1, 63, 0, 0, 0, 0),
  (264, .aload_n 0, 1, 6, 0, 0, 0, 0),
  (265, .getfield 80, 3, 42, 6, 12, 0, 643),
  (268, .ifCond .eq 21, 3, 70, 289, 0, 0, 0),
  (271, .iload_n 3, 1, 4, 3, 0, 0, 0),
  (272, .bipush 101, 2, 1, 0, 0, 101, 0),
  (274, .if_icmp .eq 9, 3, 76, 283, 0, 0, 0),
  (277, .iload_n 3, 1, 4, 3, 0, 0, 0),
  (278, .bipush 114, 2, 1, 0, 0, 114, 0),
  (280, .if_icmp .ne 9, 3, 77, 289, 0, 0, 0),
  (283, .aload_n 0, 1, 6, 0, 0, 0, 0),
  (284, .iload_n 3, 1, 4, 3, 0, 0, 0),
  (285, .invokevirtual 131, 3, 58, 120, 0, 0, 776),
  (288, .ireturn, 1, 63, 0, 0, 0, 0),
  (289, .aload_n 0, 1, 6, 0, 0, 0, 0),
  (290, .getfield 80, 3, 42, 6, 12, 0, 643),
  (293, .ifCond .eq 30, 3, 70, 323, 0, 0, 0),
  (296, .iload_n 1, 1, 4, 1, 0, 0, 0),
  (297, .iconst 5, 1, 1, 0, 0, 5, 0),
  (298, .if_icmp .ge 25, 3, 79, 323, 0, 0, 0),
  (301, .iload 4, 2, 4, 4, 0, 0, 0),
  (303, .ifCond .eq 20, 3, 70, 323, 0, 0, 0),
  (306, .aload_n 0, 1, 6, 0, 0, 0, 0),
  (307, .iload_n 3, 1, 4, 3, 0, 0, 0),
  (308, .bipush 108, 2, 1, 0, 0, 108, 0),
  (310, .if_icmp .ne 7, 3, 77, 317, 0, 0, 0),
  (313, .iconst 1, 1, 1, 0, 0, 1, 0),
  (314, .goto 4, 3, 37, 318, 0, 0, 0),
  (317, .iconst 0, 1, 1, 0, 0, 0, 0),
  (318, .iload_n 1, 1, 4, 1, 0, 0, 0),
  (319, .invokevirtual 134, 3, 58, 122, 0, 0, 780),
  (322, .ireturn, 1, 63, 0, 0, 0, 0),
  (323, .aload_n 0, 1, 6, 0, 0, 0, 0),
  (324, .getfield 80, 3, 42, 6, 12, 0, 643),
  (327, .ifCond .eq 20, 3, 70, 347, 0, 0, 0),
  (330, .iload_n 1, 1, 4, 1, 0, 0, 0),
  (331, .iconst 5, 1, 1, 0, 0, 5, 0),
  (332, .if_icmp .ge 15, 3, 79, 347, 0, 0, 0),
  (335, .iload 5, 2, 4, 5, 0, 0, 0),
  (337, .ifCond .eq 10, 3, 70, 347, 0, 0, 0),
  (340, .aload_n 0, 1, 6, 0, 0, 0, 0),
  (341, .iload_n 3, 1, 4, 3, 0, 0, 0),
  (342, .iload_n 1, 1, 4, 1, 0, 0, 0),
  (343, .invokevirtual 138, 3, 58, 124, 0, 0, 791),
  (346, .ireturn, 1, 63, 0, 0, 0, 0),
  (347, .aload_n 0, 1, 6, 0, 0, 0, 0),
  (348, .iconst 0, 1, 1, 0, 0, 0, 0),
  (349, .putfield 80, 3, 43, 6, 12, 0, 643),
  (352, .aload_n 0, 1, 6, 0, 0, 0, 0),
  (353, .invokevirtual 121, 3, 58, 114, 0, 0, 758),
  (356, .ireturn, 1, 63, 0, 0, 0, 0)]
def vC_118 : List vent := vC_118_0 ++ (vC_118_1)
def vC_119_0 : List vent := [(0, .aload_n 0, 1, 6, 0, 0, 0, 0),
  (1, .dup, 1, 34, 0, 0, 0, 0),
  (2, .getfield 77, 3, 42, 6, 11, 0, 642),
  (5, .iconst 1, 1, 1, 0, 0, 1, 0),
  (6, .iadd, 1, 11, 0, 0, 0, 0),
  (7, .putfield 77, 3, 43, 6, 11, 0, 642),
  (10, .aload_n 0, 1, 6, 0, 0, 0, 0),
  (11, .iload_n 1, 1, 4, 1, 0, 0, 0),
  (12, .bipush 100, 2, 1, 0, 0, 100, 0),
  (14, .if_icmp .eq 9, 3, 76, 23, 0, 0, 0),
  (17, .iload_n 1, 1, 4, 1, 0, 0, 0),
  (18, .bipush 109, 2, 1, 0, 0, 109, 0),
  (20, .if_icmp .ne 7, 3, 77, 27, 0, 0, 0),
  (23, .iconst 1, 1, 1, 0, 0, 1, 0),
  (24, .goto 4, 3, 37, 28, 0, 0, 0),
  (27, .iconst 0, 1, 1, 0, 0, 0, 0),
  (28, .iload_n 1, 1, 4, 1, 0, 0, 0),
  (29, .bipush 119, 2, 1, 0, 0, 119, 0),
  (31, .if_icmp .ne 8, 3, 77, 39, 0, 0, 0),
  (34, .bipush 6, 2, 1, 0, 0, 6, 0),
  (36, .goto 26, 3, 37, 62, 0, 0, 0),
  (39, .iload_n 1, 1, 4, 1, 0, 0, 0),
  (40, .bipush 100, 2, 1, 0, 0, 100, 0),
  (42, .if_icmp .ne 8, 3, 77, 50, 0, 0, 0),
  (45, .bipush 30, 2, 1, 0, 0, 30, 0),
  (47, .goto 15, 3, 37, 62, 0, 0, 0),
  (50, .iload_n 1, 1, 4, 1, 0, 0, 0),
  (51, .bipush 109, 2, 1, 0, 0, 109, 0),
  (53, .if_icmp .ne 8, 3, 77, 61, 0, 0, 0),
  (56, .bipush 12, 2, 1, 0, 0, 12, 0),
  (58, .goto 4, 3, 37, 62, 0, 0, 0),
  (61, .iconst 1, 1, 1, 0, 0, 1, 0),
  (62, .invokevirtual 142, 3, 58, 113, 0, 0, 770),
  (65, .istore_n 2, 1, 7, 2, 0, 0, 0),
  (66, .aload_n 0, 1, 6, 0, 0, 0, 0),
  (67, .invokevirtual 121, 3, 58, 114, 0, 0, 758),
  (70, .istore_n 3, 1, 7, 3, 0, 0, 0),
  (71, .iconst 0, 1, 1, 0, 0, 0, 0),
  (72, .istore 4, 2, 7, 4, 0, 0, 0),
  (74, .iload 4, 2, 4, 4, 0, 0, 0),
  (76, .sipush 720, 3, 1, 0, 0, 720, 0),
  (79, .if_icmp .ge 86, 3, 79, 165, 0, 0, 0),
  (82, .iload_n 1, 1, 4, 1, 0, 0, 0),
  (83, .bipush 119, 2, 1, 0, 0, 119, 0),
  (85, .if_icmp .ne 11, 3, 77, 96, 0, 0, 0),
  (88, .iload 4, 2, 4, 4, 0, 0, 0),
  (90, .bipush 7, 2, 1, 0, 0, 7, 0),
  (92, .irem, 1, 15, 0, 0, 0, 0),
  (93, .goto 44, 3, 37, 137, 0, 0, 0),
  (96, .iload_n 1, 1, 4, 1, 0, 0, 0),
  (97, .bipush 100, 2, 1, 0, 0, 100, 0),
  (99, .if_icmp .ne 13, 3, 77, 112, 0, 0, 0),
  (102, .iload 4, 2, 4, 4, 0, 0, 0),
  (104, .bipush 30, 2, 1, 0, 0, 30, 0),
  (106, .irem, 1, 15, 0, 0, 0, 0),
  (107, .iconst 1, 1, 1, 0, 0, 1, 0),
  (108, .iadd, 1, 11, 0, 0, 0, 0),
  (109, .goto 28, 3, 37, 137, 0, 0, 0),
  (112, .iload_n 1, 1, 4, 1, 0, 0, 0),
  (113, .bipush 109, 2, 1, 0, 0, 109, 0),
  (115, .if_icmp .ne 16, 3, 77, 131, 0, 0, 0),
  (118, .iload 4, 2, 4, 4, 0, 0, 0),
  (120, .bipush 30, 2, 1, 0, 0, 30, 0),
  (122, .idiv, 1, 14, 0, 0, 0, 0),
  (123, .bipush 12, 2, 1, 0, 0, 12, 0),
  (125, .irem, 1, 15, 0, 0, 0, 0),
  (126, .iconst 1, 1, 1, 0, 0, 1, 0),
  (127, .iadd, 1, 11, 0, 0, 0, 0),
  (128, .goto 9, 3, 37, 137, 0, 0, 0),
  (131, .iload 4, 2, 4, 4, 0, 0, 0),
  (133, .sipush 360, 3, 1, 0, 0, 360, 0),
  (136, .idiv, 1, 14, 0, 0, 0, 0),
  (137, .istore 5, 2, 7, 5, 0, 0, 0),
  (139, .aload_n 0, 1, 6, 0, 0, 0, 0),
  (140, .getfield 39, 3, 42, 6, 13, 0, 644),
  (143, .iload_n 3, 1, 4, 3, 0, 0, 0),
  (144, .iload 4, 2, 4, 4, 0, 0, 0),
  (146, .iadd, 1, 11, 0, 0, 0, 0),
  (147, .iload 5, 2, 4, 5, 0, 0, 0),
  (149, .iload_n 2, 1, 4, 2, 0, 0, 0),
  (150, .if_icmp .ne 7, 3, 77, 157, 0, 0, 0),
  (153, .iconst 1, 1, 1, 0, 0, 1, 0),
  (154, .goto 4, 3, 37, 158, 0, 0, 0),
  (157, .iconst 0, 1, 1, 0, 0, 0, 0),
  (158, .bastore, 1, 51, 0, 0, 0, 0),
  (159, .iinc 4 1, 3, 10, 4, 0, 1, 0),
  (162, .goto (-88), 3, 37, 74, 0, 0, 0),
  (165, .iload_n 3, 1, 4, 3, 0, 0, 0),
  (166, .ireturn, 1, 63, 0, 0, 0, 0)]
def vC_119 : List vent := vC_119_0
def vC_120_0 : List vent := [(0, .aload_n 0, 1, 6, 0, 0, 0, 0),
  (1, .dup, 1, 34, 0, 0, 0, 0),
  (2, .getfield 77, 3, 42, 6, 11, 0, 642),
  (5, .iconst 1, 1, 1, 0, 0, 1, 0),
  (6, .iadd, 1, 11, 0, 0, 0, 0),
  (7, .putfield 77, 3, 43, 6, 11, 0, 642),
  (10, .iload_n 1, 1, 4, 1, 0, 0, 0),
  (11, .bipush 101, 2, 1, 0, 0, 101, 0),
  (13, .if_icmp .ne 7, 3, 77, 20, 0, 0, 0),
  (16, .iconst 1, 1, 1, 0, 0, 1, 0),
  (17, .goto 4, 3, 37, 21, 0, 0, 0),
  (20, .iconst 0, 1, 1, 0, 0, 0, 0),
  (21, .istore_n 2, 1, 7, 2, 0, 0, 0),
  (22, .aload_n 0, 1, 6, 0, 0, 0, 0),
  (23, .iload_n 2, 1, 4, 2, 0, 0, 0),
  (24, .ifCond .eq 7, 3, 70, 31, 0, 0, 0),
  (27, .iconst 1, 1, 1, 0, 0, 1, 0),
  (28, .goto 4, 3, 37, 32, 0, 0, 0),
  (31, .iconst 0, 1, 1, 0, 0, 0, 0),
  (32, .sipush 719, 3, 1, 0, 0, 719, 0),
  (35, .invokevirtual 142, 3, 58, 113, 0, 0, 770),
  (38, .istore_n 3, 1, 7, 3, 0, 0, 0),
  (39, .aload_n 0, 1, 6, 0, 0, 0, 0),
  (40, .bipush 44, 2, 1, 0, 0, 44, 0),
  (42, .invokevirtual 107, 3, 58, 112, 0, 0, 752),
  (45, .aload_n 0, 1, 6, 0, 0, 0, 0),
  (46, .iload_n 2, 1, 4, 2, 0, 0, 0),
  (47, .ifCond .eq 7, 3, 70, 54, 0, 0, 0),
  (50, .iconst 0, 1, 1, 0, 0, 0, 0),
  (51, .goto 4, 3, 37, 55, 0, 0, 0),
  (54, .iload_n 3, 1, 4, 3, 0, 0, 0),
  (55, .sipush 719, 3, 1, 0, 0, 719, 0),
  (58, .invokevirtual 142, 3, 58, 113, 0, 0, 770),
  (61, .istore 4, 2, 7, 4, 0, 0, 0),
  (63, .aload_n 0, 1, 6, 0, 0, 0, 0),
  (64, .invokevirtual 121, 3, 58, 114, 0, 0, 758),
  (67, .istore 5, 2, 7, 5, 0, 0, 0),
  (69, .iconst 0, 1, 1, 0, 0, 0, 0),
  (70, .istore 6, 2, 7, 6, 0, 0, 0),
  (72, .iload 6, 2, 4, 6, 0, 0, 0),
  (74, .sipush 720, 3, 1, 0, 0, 720, 0),
  (77, .if_icmp .ge 73, 3, 79, 150, 0, 0, 0),
  (80, .aload_n 0, 1, 6, 0, 0, 0, 0),
  (81, .getfield 80, 3, 42, 6, 12, 0, 643),
  (84, .ifCond .eq 66, 3, 70, 150, 0, 0, 0),
  (87, .aload_n 0, 1, 6, 0, 0, 0, 0),
  (88, .getfield 39, 3, 42, 6, 13, 0, 644),
  (91, .iload 5, 2, 4, 5, 0, 0, 0),
  (93, .iload 6, 2, 4, 6, 0, 0, 0),
  (95, .iadd, 1, 11, 0, 0, 0, 0),
  (96, .iload_n 2, 1, 4, 2, 0, 0, 0),
  (97, .ifCond .eq 28, 3, 70, 125, 0, 0, 0),
  (100, .iload 6, 2, 4, 6, 0, 0, 0),
  (102, .iload 4, 2, 4, 4, 0, 0, 0),
  (104, .if_icmp .lt 17, 3, 78, 121, 0, 0, 0),
  (107, .iload 6, 2, 4, 6, 0, 0, 0),
  (109, .iload 4, 2, 4, 4, 0, 0, 0),
  (111, .isub, 1, 12, 0, 0, 0, 0),
  (112, .iload_n 3, 1, 4, 3, 0, 0, 0),
  (113, .irem, 1, 15, 0, 0, 0, 0),
  (114, .ifCond .ne 7, 3, 71, 121, 0, 0, 0),
  (117, .iconst 1, 1, 1, 0, 0, 1, 0),
  (118, .goto 25, 3, 37, 143, 0, 0, 0),
  (121, .iconst 0, 1, 1, 0, 0, 0, 0),
  (122, .goto 21, 3, 37, 143, 0, 0, 0),
  (125, .iload 6, 2, 4, 6, 0, 0, 0),
  (127, .iload_n 3, 1, 4, 3, 0, 0, 0),
  (128, .if_icmp .lt 14, 3, 78, 142, 0, 0, 0),
  (131, .iload 6, 2, 4, 6, 0, 0, 0),
  (133, .iload 4, 2, 4, 4, 0, 0, 0),
  (135, .if_icmp .gt 7, 3, 80, 142, 0, 0, 0),
  (138, .iconst 1, 1, 1, 0, 0, 1, 0),
  (139, .goto 4, 3, 37, 143, 0, 0, 0),
  (142, .iconst 0, 1, 1, 0, 0, 0, 0),
  (143, .bastore, 1, 51, 0, 0, 0, 0),
  (144, .iinc 6 1, 3, 10, 6, 0, 1, 0),
  (147, .goto (-75), 3, 37, 72, 0, 0, 0),
  (150, .iload 5, 2, 4, 5, 0, 0, 0),
  (152, .ireturn, 1, 63, 0, 0, 0, 0)]
def vC_120 : List vent := vC_120_0
def vC_121_0 : List vent := [(0, .iload_n 0, 1, 4, 0, 0, 0, 0),
  (1, .ifCond .ne 10, 3, 71, 11, 0, 0, 0),
  (4, .iload_n 1, 1, 4, 1, 0, 0, 0),
  (5, .bipush 7, 2, 1, 0, 0, 7, 0),
  (7, .idiv, 1, 14, 0, 0, 0, 0),
  (8, .goto 20, 3, 37, 28, 0, 0, 0),
  (11, .iload_n 0, 1, 4, 0, 0, 0, 0),
  (12, .iconst 1, 1, 1, 0, 0, 1, 0),
  (13, .if_icmp .ne 10, 3, 77, 23, 0, 0, 0),
  (16, .iload_n 1, 1, 4, 1, 0, 0, 0),
  (17, .bipush 30, 2, 1, 0, 0, 30, 0),
  (19, .idiv, 1, 14, 0, 0, 0, 0),
  (20, .goto 8, 3, 37, 28, 0, 0, 0),
  (23, .iload_n 1, 1, 4, 1, 0, 0, 0),
  (24, .sipush 360, 3, 1, 0, 0, 360, 0),
  (27, .idiv, 1, 14, 0, 0, 0, 0),
  (28, .ireturn, 1, 63, 0, 0, 0, 0)]
def vC_121 : List vent := vC_121_0
def vC_122_0 : List vent := [(0, .aload_n 0, 1, 6, 0, 0, 0, 0),
  (1, .dup, 1, 34, 0, 0, 0, 0),
  (2, .getfield 77, 3, 42, 6, 11, 0, 642),
  (5, .iconst 1, 1, 1, 0, 0, 1, 0),
  (6, .iadd, 1, 11, 0, 0, 0, 0),
  (7, .putfield 77, 3, 43, 6, 11, 0, 642),
  (10, .aload_n 0, 1, 6, 0, 0, 0, 0),
  (11, .iconst 1, 1, 1, 0, 0, 1, 0),
  (12, .bipush 99, 2, 1, 0, 0, 99, 0),
  (14, .invokevirtual 142, 3, 58, 113, 0, 0, 770),
  (17, .istore_n 3, 1, 7, 3, 0, 0, 0),
  (18, .aload_n 0, 1, 6, 0, 0, 0, 0),
  (19, .bipush 119, 2, 1, 0, 0, 119, 0),
  (21, .invokevirtual 88, 3, 58, 111, 0, 0, 740),
  (24, .ifCond .eq 7, 3, 70, 31, 0, 0, 0),
  (27, .iconst 0, 1, 1, 0, 0, 0, 0),
  (28, .goto 30, 3, 37, 58, 0, 0, 0),
  (31, .aload_n 0, 1, 6, 0, 0, 0, 0),
  (32, .bipush 109, 2, 1, 0, 0, 109, 0),
  (34, .invokevirtual 88, 3, 58, 111, 0, 0, 740),
  (37, .ifCond .eq 7, 3, 70, 44, 0, 0, 0),
  (40, .iconst 1, 1, 1, 0, 0, 1, 0),
  (41, .goto 17, 3, 37, 58, 0, 0, 0),
  (44, .aload_n 0, 1, 6, 0, 0, 0, 0),
  (45, .bipush 121, 2, 1, 0, 0, 121, 0),
  (47, .invokevirtual 88, 3, 58, 111, 0, 0, 740),
  (50, .ifCond .eq 7, 3, 70, 57, 0, 0, 0),
  (53, .iconst 2, 1, 1, 0, 0, 2, 0),
  (54, .goto 4, 3, 37, 58, 0, 0, 0),
  (57, .iconst (-1), 1, 1, 0, 0, (-1), 0),
  (58, .istore 4, 2, 7, 4, 0, 0, 0),
  (60, .iload 4, 2, 4, 4, 0, 0, 0),
  (62, .ifCond .ge 8, 3, 73, 70, 0, 0, 0),
  (65, .aload_n 0, 1, 6, 0, 0, 0, 0),
  (66, .iconst 0, 1, 1, 0, 0, 0, 0),
  (67, .putfield 80, 3, 43, 6, 12, 0, 643),
  (70, .aload_n 0, 1, 6, 0, 0, 0, 0),
  (71, .dup, 1, 34, 0, 0, 0, 0),
  (72, .getfield 77, 3, 42, 6, 11, 0, 642),
  (75, .aload_n 0, 1, 6, 0, 0, 0, 0),
  (76, .getfield 80, 3, 42, 6, 12, 0, 643),
  (79, .ifCond .eq 7, 3, 70, 86, 0, 0, 0),
  (82, .iconst 1, 1, 1, 0, 0, 1, 0),
  (83, .goto 4, 3, 37, 87, 0, 0, 0),
  (86, .iconst 0, 1, 1, 0, 0, 0, 0),
  (87, .iadd, 1, 11, 0, 0, 0, 0),
  (88, .putfield 77, 3, 43, 6, 11, 0, 642),
  (91, .aload_n 0, 1, 6, 0, 0, 0, 0),
  (92, .iload_n 2, 1, 4, 2, 0, 0, 0),
  (93, .invokevirtual 114, 3, 58, 117, 0, 0, 748),
  (96, .istore 5, 2, 7, 5, 0, 0, 0),
  (98, .aload_n 0, 1, 6, 0, 0, 0, 0),
  (99, .invokevirtual 121, 3, 58, 114, 0, 0, 758),
  (102, .istore 6, 2, 7, 6, 0, 0, 0),
  (104, .iconst 0, 1, 1, 0, 0, 0, 0),
  (105, .istore 7, 2, 7, 7, 0, 0, 0),
  (107, .iload 7, 2, 4, 7, 0, 0, 0),
  (109, .sipush 720, 3, 1, 0, 0, 720, 0),
  (112, .if_icmp .ge 143, 3, 79, 255, 0, 0, 0),
  (115, .aload_n 0, 1, 6, 0, 0, 0, 0),
  (116, .getfield 80, 3, 42, 6, 12, 0, 643),
  (119, .ifCond .eq 136, 3, 70, 255, 0, 0, 0),
  (122, .iconst 0, 1, 1, 0, 0, 0, 0),
  (123, .istore 8, 2, 7, 8, 0, 0, 0),
  (125, .iconst 0, 1, 1, 0, 0, 0, 0),
  (126, .istore 9, 2, 7, 9, 0, 0, 0),
  (128, .iload 9, 2, 4, 9, 0, 0, 0),
  (130, .sipush 720, 3, 1, 0, 0, 720, 0),
  (133, .if_icmp .ge 82, 3, 79, 215, 0, 0, 0),
  (136, .aload_n 0, 1, 6, 0, 0, 0, 0),
  (137, .getfield 39, 3, 42, 6, 13, 0, 644),
  (140, .iload 5, 2, 4, 5, 0, 0, 0),
  (142, .iload 9, 2, 4, 9, 0, 0, 0),
  (144, .iadd, 1, 11, 0, 0, 0, 0),
  (145, .baload, 1, 47, 0, 0, 0, 0),
  (146, .ifCond .eq 24, 3, 70, 170, 0, 0, 0),
  (149, .iload 4, 2, 4, 4, 0, 0, 0),
  (151, .iload 9, 2, 4, 9, 0, 0, 0),
  (153, .invokestatic 145, 3, 59, 121, 0, 0, 784),
  (156, .iload 4, 2, 4, 4, 0, 0, 0),
  (158, .iload 7, 2, 4, 7, 0, 0, 0),
  (160, .invokestatic 145, 3, 59, 121, 0, 0, 784),
  (163, .if_icmp .ne 7, 3, 77, 170, 0, 0, 0),
  (166, .iconst 1, 1, 1, 0, 0, 1, 0),
  (167, .goto 4, 3, 37, 171, 0, 0, 0),
  (170, .iconst 0, 1, 1, 0, 0, 0, 0),
  (171, .istore 10, 2, 7, 10, 0, 0, 0),
  (173, .iload 8, 2, 4, 8, 0, 0, 0),
  (175, .iload 10, 2, 4, 10, 0, 0, 0),
  (177, .ifCond .eq 28, 3, 70, 205, 0, 0, 0),
  (180, .iload_n 1, 1, 4, 1, 0, 0, 0),
  (181, .ifCond .eq 13, 3, 70, 194, 0, 0, 0),
  (184, .iload 9, 2, 4, 9, 0, 0, 0),
  (186, .iload 7, 2, 4, 7, 0, 0, 0),
  (188, .if_icmp .lt 17, 3, 78, 205, 0, 0, 0),
  (191, .goto 10, 3, 37, 201, 0, 0, 0),
  (194, .iload 9, 2, 4, 9, 0, 0, 0),
  (196, .iload 7, 2, 4, 7, 0, 0, 0),
  (198, .if_icmp .gt 7, 3, 80, 205, 0, 0, 0),
  (201, .iconst 1, 1, 1, 0, 0, 1, 0),
  (202, .goto 4, 3, 37, 206, 0, 0, 0),
  (205, .iconst 0, 1, 1, 0, 0, 0, 0),
  (206, .iadd, 1, 11, 0, 0, 0, 0),
  (207, .istore 8, 2, 7, 8, 0, 0, 0),
  (209, .iinc 9 1, 3, 10, 9, 0, 1, 0),
  (212, .goto (-84), 3, 37, 128, 0, 0, 0),
  (215, .aload_n 0, 1, 6, 0, 0, 0, 0),
  (216, .getfield 39, 3, 42, 6, 13, 0, 644),
  (219, .iload 6, 2, 4, 6, 0, 0, 0),
  (221, .iload 7, 2, 4, 7, 0, 0, 0),
  (223, .iadd, 1, 11, 0, 0, 0, 0),
  (224, .aload_n 0, 1, 6, 0, 0, 0, 0),
  (225, .getfield 39, 3, 42, 6, 13, 0, 644),
  (228, .iload 5, 2, 4, 5, 0, 0, 0),
  (230, .iload 7, 2, 4, 7, 0, 0, 0),
  (232, .iadd, 1, 11, 0, 0, 0, 0),
  (233, .baload, 1, 47, 0, 0, 0, 0),
  (234, .ifCond .eq 13, 3, 70, 247, 0, 0, 0),
  (237, .iload 8, 2, 4, 8, 0, 0, 0),
  (239, .iload_n 3, 1, 4, 3, 0, 0, 0)]
def vC_122_1 : List vent := [(240, .if_icmp .ne 7, 3, 77, 247, 0, 0, 0),
  (243, .iconst 1, 1, 1, 0, 0, 1, 0),
  (244, .goto 4, 3, 37, 248, 0, 0, 0),
  (247, .iconst 0, 1, 1, 0, 0, 0, 0),
  (248, .bastore, 1, 51, 0, 0, 0, 0),
  (249, .iinc 7 1, 3, 10, 7, 0, 1, 0),
  (252, .goto (-145), 3, 37, 107, 0, 0, 0),
  (255, .aload_n 0, 1, 6, 0, 0, 0, 0),
  (256, .iload 6, 2, 4, 6, 0, 0, 0),
  (258, .iload 5, 2, 4, 5, 0, 0, 0),
  (260, .invokevirtual 148, 3, 58, 123, 0, 0, 787),
  (263, .ireturn, 1, 63, 0, 0, 0, 0)]
def vC_122 : List vent := vC_122_0 ++ (vC_122_1)
def vC_123_0 : List vent := [(0, .iconst 0, 1, 1, 0, 0, 0, 0),
  (1, .istore_n 3, 1, 7, 3, 0, 0, 0),
  (2, .iload_n 3, 1, 4, 3, 0, 0, 0),
  (3, .sipush 720, 3, 1, 0, 0, 720, 0),
  (6, .if_icmp .ge 25, 3, 79, 31, 0, 0, 0),
  (9, .aload_n 0, 1, 6, 0, 0, 0, 0),
  (10, .getfield 39, 3, 42, 6, 13, 0, 644),
  (13, .iload_n 2, 1, 4, 2, 0, 0, 0),
  (14, .iload_n 3, 1, 4, 3, 0, 0, 0),
  (15, .iadd, 1, 11, 0, 0, 0, 0),
  (16, .aload_n 0, 1, 6, 0, 0, 0, 0),
  (17, .getfield 39, 3, 42, 6, 13, 0, 644),
  (20, .iload_n 1, 1, 4, 1, 0, 0, 0),
  (21, .iload_n 3, 1, 4, 3, 0, 0, 0),
  (22, .iadd, 1, 11, 0, 0, 0, 0),
  (23, .baload, 1, 47, 0, 0, 0, 0),
  (24, .bastore, 1, 51, 0, 0, 0, 0),
  (25, .iinc 3 1, 3, 10, 3, 0, 1, 0),
  (28, .goto (-26), 3, 37, 2, 0, 0, 0),
  (31, .aload_n 0, 1, 6, 0, 0, 0, 0),
  (32, .iload_n 2, 1, 4, 2, 0, 0, 0),
  (33, .sipush 720, 3, 1, 0, 0, 720, 0),
  (36, .idiv, 1, 14, 0, 0, 0, 0),
  (37, .iconst 1, 1, 1, 0, 0, 1, 0),
  (38, .iadd, 1, 11, 0, 0, 0, 0),
  (39, .putfield 96, 3, 43, 6, 14, 0, 645),
  (42, .iload_n 2, 1, 4, 2, 0, 0, 0),
  (43, .ireturn, 1, 63, 0, 0, 0, 0)]
def vC_123 : List vent := vC_123_0
def vC_124_0 : List vent := [(0, .aload_n 0, 1, 6, 0, 0, 0, 0),
  (1, .dup, 1, 34, 0, 0, 0, 0),
  (2, .getfield 77, 3, 42, 6, 11, 0, 642),
  (5, .iconst 1, 1, 1, 0, 0, 1, 0),
  (6, .iadd, 1, 11, 0, 0, 0, 0),
  (7, .putfield 77, 3, 43, 6, 11, 0, 642),
  (10, .aload_n 0, 1, 6, 0, 0, 0, 0),
  (11, .iload_n 1, 1, 4, 1, 0, 0, 0),
  (12, .bipush 120, 2, 1, 0, 0, 120, 0),
  (14, .if_icmp .ne 7, 3, 77, 21, 0, 0, 0),
  (17, .iconst 0, 1, 1, 0, 0, 0, 0),
  (18, .goto 4, 3, 37, 22, 0, 0, 0),
  (21, .iconst 1, 1, 1, 0, 0, 1, 0),
  (22, .iload_n 1, 1, 4, 1, 0, 0, 0),
  (23, .bipush 112, 2, 1, 0, 0, 112, 0),
  (25, .if_icmp .ne 8, 3, 77, 33, 0, 0, 0),
  (28, .bipush 99, 2, 1, 0, 0, 99, 0),
  (30, .goto 6, 3, 37, 36, 0, 0, 0),
  (33, .sipush 719, 3, 1, 0, 0, 719, 0),
  (36, .invokevirtual 142, 3, 58, 113, 0, 0, 770),
  (39, .istore_n 3, 1, 7, 3, 0, 0, 0),
  (40, .aload_n 0, 1, 6, 0, 0, 0, 0),
  (41, .iload_n 2, 1, 4, 2, 0, 0, 0),
  (42, .invokevirtual 114, 3, 58, 117, 0, 0, 748),
  (45, .istore 4, 2, 7, 4, 0, 0, 0),
  (47, .aload_n 0, 1, 6, 0, 0, 0, 0),
  (48, .invokevirtual 121, 3, 58, 114, 0, 0, 758),
  (51, .istore 5, 2, 7, 5, 0, 0, 0),
  (53, .iconst 0, 1, 1, 0, 0, 0, 0),
  (54, .istore 6, 2, 7, 6, 0, 0, 0),
  (56, .iconst 0, 1, 1, 0, 0, 0, 0),
  (57, .istore 7, 2, 7, 7, 0, 0, 0),
  (59, .iload 7, 2, 4, 7, 0, 0, 0),
  (61, .sipush 720, 3, 1, 0, 0, 720, 0),
  (64, .if_icmp .ge 161, 3, 79, 225, 0, 0, 0),
  (67, .aload_n 0, 1, 6, 0, 0, 0, 0),
  (68, .getfield 80, 3, 42, 6, 12, 0, 643),
  (71, .ifCond .eq 154, 3, 70, 225, 0, 0, 0),
  (74, .iload_n 1, 1, 4, 1, 0, 0, 0),
  (75, .bipush 115, 2, 1, 0, 0, 115, 0),
  (77, .if_icmp .ne 10, 3, 77, 87, 0, 0, 0),
  (80, .iload 7, 2, 4, 7, 0, 0, 0),
  (82, .iload_n 3, 1, 4, 3, 0, 0, 0),
  (83, .isub, 1, 12, 0, 0, 0, 0),
  (84, .goto 7, 3, 37, 91, 0, 0, 0),
  (87, .iload 7, 2, 4, 7, 0, 0, 0),
  (89, .iload_n 3, 1, 4, 3, 0, 0, 0),
  (90, .iadd, 1, 11, 0, 0, 0, 0),
  (91, .istore 8, 2, 7, 8, 0, 0, 0),
  (93, .iload 6, 2, 4, 6, 0, 0, 0),
  (95, .aload_n 0, 1, 6, 0, 0, 0, 0),
  (96, .getfield 39, 3, 42, 6, 13, 0, 644),
  (99, .iload 4, 2, 4, 4, 0, 0, 0),
  (101, .iload 7, 2, 4, 7, 0, 0, 0),
  (103, .iadd, 1, 11, 0, 0, 0, 0),
  (104, .baload, 1, 47, 0, 0, 0, 0),
  (105, .ifCond .eq 7, 3, 70, 112, 0, 0, 0),
  (108, .iconst 1, 1, 1, 0, 0, 1, 0),
  (109, .goto 4, 3, 37, 113, 0, 0, 0),
  (112, .iconst 0, 1, 1, 0, 0, 0, 0),
  (113, .iadd, 1, 11, 0, 0, 0, 0),
  (114, .istore 6, 2, 7, 6, 0, 0, 0),
  (116, .iload_n 1, 1, 4, 1, 0, 0, 0),
  (117, .bipush 115, 2, 1, 0, 0, 115, 0),
  (119, .if_icmp .eq 9, 3, 76, 128, 0, 0, 0),
  (122, .iload_n 1, 1, 4, 1, 0, 0, 0),
  (123, .bipush 98, 2, 1, 0, 0, 98, 0),
  (125, .if_icmp .ne 42, 3, 77, 167, 0, 0, 0),
  (128, .aload_n 0, 1, 6, 0, 0, 0, 0),
  (129, .getfield 39, 3, 42, 6, 13, 0, 644),
  (132, .iload 5, 2, 4, 5, 0, 0, 0),
  (134, .iload 7, 2, 4, 7, 0, 0, 0),
  (136, .iadd, 1, 11, 0, 0, 0, 0),
  (137, .iload 8, 2, 4, 8, 0, 0, 0),
  (139, .invokestatic 151, 3, 59, 104, 0, 0, 795),
  (142, .ifCond .eq 20, 3, 70, 162, 0, 0, 0),
  (145, .aload_n 0, 1, 6, 0, 0, 0, 0),
  (146, .getfield 39, 3, 42, 6, 13, 0, 644),
  (149, .iload 4, 2, 4, 4, 0, 0, 0),
  (151, .iload 8, 2, 4, 8, 0, 0, 0),
  (153, .iadd, 1, 11, 0, 0, 0, 0),
  (154, .baload, 1, 47, 0, 0, 0, 0),
  (155, .ifCond .eq 7, 3, 70, 162, 0, 0, 0),
  (158, .iconst 1, 1, 1, 0, 0, 1, 0),
  (159, .goto 4, 3, 37, 163, 0, 0, 0),
  (162, .iconst 0, 1, 1, 0, 0, 0, 0),
  (163, .bastore, 1, 51, 0, 0, 0, 0),
  (164, .goto 55, 3, 37, 219, 0, 0, 0),
  (167, .aload_n 0, 1, 6, 0, 0, 0, 0),
  (168, .getfield 39, 3, 42, 6, 13, 0, 644),
  (171, .iload 5, 2, 4, 5, 0, 0, 0),
  (173, .iload 7, 2, 4, 7, 0, 0, 0),
  (175, .iadd, 1, 11, 0, 0, 0, 0),
  (176, .aload_n 0, 1, 6, 0, 0, 0, 0),
  (177, .getfield 39, 3, 42, 6, 13, 0, 644),
  (180, .iload 4, 2, 4, 4, 0, 0, 0),
  (182, .iload 7, 2, 4, 7, 0, 0, 0),
  (184, .iadd, 1, 11, 0, 0, 0, 0),
  (185, .baload, 1, 47, 0, 0, 0, 0),
  (186, .ifCond .eq 31, 3, 70, 217, 0, 0, 0),
  (189, .iload_n 1, 1, 4, 1, 0, 0, 0),
  (190, .bipush 112, 2, 1, 0, 0, 112, 0),
  (192, .if_icmp .ne 13, 3, 77, 205, 0, 0, 0),
  (195, .iload 6, 2, 4, 6, 0, 0, 0),
  (197, .iload_n 3, 1, 4, 3, 0, 0, 0),
  (198, .irem, 1, 15, 0, 0, 0, 0),
  (199, .ifCond .ne 18, 3, 71, 217, 0, 0, 0),
  (202, .goto 11, 3, 37, 213, 0, 0, 0),
  (205, .iload 6, 2, 4, 6, 0, 0, 0),
  (207, .iload_n 3, 1, 4, 3, 0, 0, 0),
  (208, .iconst 1, 1, 1, 0, 0, 1, 0),
  (209, .iadd, 1, 11, 0, 0, 0, 0),
  (210, .if_icmp .eq 7, 3, 76, 217, 0, 0, 0),
  (213, .iconst 1, 1, 1, 0, 0, 1, 0),
  (214, .goto 4, 3, 37, 218, 0, 0, 0),
  (217, .iconst 0, 1, 1, 0, 0, 0, 0),
  (218, .bastore, 1, 51, 0, 0, 0, 0),
  (219, .iinc 7 1, 3, 10, 7, 0, 1, 0),
  (222, .goto (-163), 3, 37, 59, 0, 0, 0),
  (225, .aload_n 0, 1, 6, 0, 0, 0, 0)]
def vC_124_1 : List vent := [(226, .iload 5, 2, 4, 5, 0, 0, 0),
  (228, .iload 4, 2, 4, 4, 0, 0, 0),
  (230, .invokevirtual 148, 3, 58, 123, 0, 0, 787),
  (233, .ireturn, 1, 63, 0, 0, 0, 0)]
def vC_124 : List vent := vC_124_0 ++ (vC_124_1)
def vC_125_0 : List vent := [(0, .iconst 0, 1, 1, 0, 0, 0, 0),
  (1, .istore_n 2, 1, 7, 2, 0, 0, 0),
  (2, .iconst 0, 1, 1, 0, 0, 0, 0),
  (3, .istore_n 3, 1, 7, 3, 0, 0, 0),
  (4, .iload_n 3, 1, 4, 3, 0, 0, 0),
  (5, .aload_n 0, 1, 6, 0, 0, 0, 0),
  (6, .getfield 154, 3, 42, 6, 15, 0, 646),
  (9, .if_icmp .ge 51, 3, 79, 60, 0, 0, 0),
  (12, .aload_n 0, 1, 6, 0, 0, 0, 0),
  (13, .getfield 42, 3, 42, 6, 16, 0, 647),
  (16, .iload_n 3, 1, 4, 3, 0, 0, 0),
  (17, .iaload, 1, 45, 0, 0, 0, 0),
  (18, .iload_n 1, 1, 4, 1, 0, 0, 0),
  (19, .if_icmp .eq 35, 3, 76, 54, 0, 0, 0),
  (22, .aload_n 0, 1, 6, 0, 0, 0, 0),
  (23, .iload_n 2, 1, 4, 2, 0, 0, 0),
  (24, .aload_n 0, 1, 6, 0, 0, 0, 0),
  (25, .getfield 42, 3, 42, 6, 16, 0, 647),
  (28, .iload_n 3, 1, 4, 3, 0, 0, 0),
  (29, .iaload, 1, 45, 0, 0, 0, 0),
  (30, .aload_n 0, 1, 6, 0, 0, 0, 0),
  (31, .getfield 45, 3, 42, 6, 17, 0, 648),
  (34, .iload_n 3, 1, 4, 3, 0, 0, 0),
  (35, .iaload, 1, 45, 0, 0, 0, 0),
  (36, .aload_n 0, 1, 6, 0, 0, 0, 0),
  (37, .getfield 48, 3, 42, 6, 18, 0, 649),
  (40, .iload_n 3, 1, 4, 3, 0, 0, 0),
  (41, .iaload, 1, 45, 0, 0, 0, 0),
  (42, .aload_n 0, 1, 6, 0, 0, 0, 0),
  (43, .getfield 51, 3, 42, 6, 19, 0, 650),
  (46, .iload_n 3, 1, 4, 3, 0, 0, 0),
  (47, .iaload, 1, 45, 0, 0, 0, 0),
  (48, .invokevirtual 157, 3, 58, 140, 0, 0, 803),
  (51, .iinc 2 1, 3, 10, 2, 0, 1, 0),
  (54, .iinc 3 1, 3, 10, 3, 0, 1, 0),
  (57, .goto (-53), 3, 37, 4, 0, 0, 0),
  (60, .aload_n 0, 1, 6, 0, 0, 0, 0),
  (61, .iload_n 2, 1, 4, 2, 0, 0, 0),
  (62, .putfield 154, 3, 43, 6, 15, 0, 646),
  (65, .return_, 1, 66, 0, 0, 0, 0)]
def vC_125 : List vent := vC_125_0
def vC_126_0 : List vent := [(0, .iload_n 1, 1, 4, 1, 0, 0, 0),
  (1, .invokestatic 161, 3, 59, 103, 0, 0, 724),
  (4, .ifCond .ne 5, 3, 71, 9, 0, 0, 0),
  (7, .iconst (-1), 1, 1, 0, 0, (-1), 0),
  (8, .ireturn, 1, 63, 0, 0, 0, 0),
  (9, .aload_n 0, 1, 6, 0, 0, 0, 0),
  (10, .iconst 0, 1, 1, 0, 0, 0, 0),
  (11, .putfield 77, 3, 43, 6, 11, 0, 642),
  (14, .aload_n 0, 1, 6, 0, 0, 0, 0),
  (15, .iconst 1, 1, 1, 0, 0, 1, 0),
  (16, .putfield 80, 3, 43, 6, 12, 0, 643),
  (19, .aload_n 0, 1, 6, 0, 0, 0, 0),
  (20, .iconst 0, 1, 1, 0, 0, 0, 0),
  (21, .putfield 96, 3, 43, 6, 14, 0, 645),
  (24, .aload_n 0, 1, 6, 0, 0, 0, 0),
  (25, .iconst 0, 1, 1, 0, 0, 0, 0),
  (26, .invokevirtual 111, 3, 58, 115, 0, 0, 728),
  (29, .istore_n 2, 1, 7, 2, 0, 0, 0),
  (30, .aload_n 0, 1, 6, 0, 0, 0, 0),
  (31, .getfield 80, 3, 42, 6, 12, 0, 643),
  (34, .ifCond .eq 18, 3, 70, 52, 0, 0, 0),
  (37, .aload_n 0, 1, 6, 0, 0, 0, 0),
  (38, .getfield 77, 3, 42, 6, 11, 0, 642),
  (41, .aload_n 0, 1, 6, 0, 0, 0, 0),
  (42, .getfield 73, 3, 42, 6, 10, 0, 641),
  (45, .if_icmp .ne 7, 3, 77, 52, 0, 0, 0),
  (48, .iconst 1, 1, 1, 0, 0, 1, 0),
  (49, .goto 4, 3, 37, 53, 0, 0, 0),
  (52, .iconst 0, 1, 1, 0, 0, 0, 0),
  (53, .istore_n 3, 1, 7, 3, 0, 0, 0),
  (54, .aload_n 0, 1, 6, 0, 0, 0, 0),
  (55, .iconst 0, 1, 1, 0, 0, 0, 0),
  (56, .putfield 73, 3, 43, 6, 10, 0, 641),
  (59, .iload_n 3, 1, 4, 3, 0, 0, 0),
  (60, .ifCond .ne 11, 3, 71, 71, 0, 0, 0),
  (63, .bipush (-100), 2, 1, 0, 0, (-100), 0),
  (65, .aload_n 0, 1, 6, 0, 0, 0, 0),
  (66, .getfield 77, 3, 42, 6, 11, 0, 642),
  (69, .isub, 1, 12, 0, 0, 0, 0),
  (70, .ireturn, 1, 63, 0, 0, 0, 0),
  (71, .iconst 0, 1, 1, 0, 0, 0, 0),
  (72, .istore 4, 2, 7, 4, 0, 0, 0),
  (74, .iload 4, 2, 4, 4, 0, 0, 0),
  (76, .sipush 720, 3, 1, 0, 0, 720, 0),
  (79, .if_icmp .ge 31, 3, 79, 110, 0, 0, 0),
  (82, .aload_n 0, 1, 6, 0, 0, 0, 0),
  (83, .getfield 13, 3, 42, 6, 1, 0, 632),
  (86, .sipush 720, 3, 1, 0, 0, 720, 0),
  (89, .iload_n 1, 1, 4, 1, 0, 0, 0),
  (90, .imul, 1, 13, 0, 0, 0, 0),
  (91, .iload 4, 2, 4, 4, 0, 0, 0),
  (93, .iadd, 1, 11, 0, 0, 0, 0),
  (94, .aload_n 0, 1, 6, 0, 0, 0, 0),
  (95, .getfield 39, 3, 42, 6, 13, 0, 644),
  (98, .iload_n 2, 1, 4, 2, 0, 0, 0),
  (99, .iload 4, 2, 4, 4, 0, 0, 0),
  (101, .iadd, 1, 11, 0, 0, 0, 0),
  (102, .baload, 1, 47, 0, 0, 0, 0),
  (103, .bastore, 1, 51, 0, 0, 0, 0),
  (104, .iinc 4 1, 3, 10, 4, 0, 1, 0),
  (107, .goto (-33), 3, 37, 74, 0, 0, 0),
  (110, .aload_n 0, 1, 6, 0, 0, 0, 0),
  (111, .getfield 7, 3, 42, 6, 0, 0, 631),
  (114, .iload_n 1, 1, 4, 1, 0, 0, 0),
  (115, .iconst 1, 1, 1, 0, 0, 1, 0),
  (116, .bastore, 1, 51, 0, 0, 0, 0),
  (117, .aload_n 0, 1, 6, 0, 0, 0, 0),
  (118, .iload_n 1, 1, 4, 1, 0, 0, 0),
  (119, .invokevirtual 164, 3, 58, 125, 0, 0, 799),
  (122, .aload_n 0, 1, 6, 0, 0, 0, 0),
  (123, .getfield 13, 3, 42, 6, 1, 0, 632),
  (126, .iload_n 1, 1, 4, 1, 0, 0, 0),
  (127, .invokestatic 167, 3, 59, 107, 0, 0, 807),
  (130, .ireturn, 1, 63, 0, 0, 0, 0)]
def vC_126 : List vent := vC_126_0
def vC_127_0 : List vent := [(0, .iload_n 1, 1, 4, 1, 0, 0, 0),
  (1, .invokestatic 161, 3, 59, 103, 0, 0, 724),
  (4, .ifCond .ne 5, 3, 71, 9, 0, 0, 0),
  (7, .iconst (-1), 1, 1, 0, 0, (-1), 0),
  (8, .ireturn, 1, 63, 0, 0, 0, 0),
  (9, .aload_n 0, 1, 6, 0, 0, 0, 0),
  (10, .getfield 7, 3, 42, 6, 0, 0, 631),
  (13, .iload_n 1, 1, 4, 1, 0, 0, 0),
  (14, .baload, 1, 47, 0, 0, 0, 0),
  (15, .ifCond .ne 6, 3, 71, 21, 0, 0, 0),
  (18, .bipush (-3), 2, 1, 0, 0, (-3), 0),
  (20, .ireturn, 1, 63, 0, 0, 0, 0),
  (21, .aload_n 0, 1, 6, 0, 0, 0, 0),
  (22, .getfield 13, 3, 42, 6, 1, 0, 632),
  (25, .iload_n 1, 1, 4, 1, 0, 0, 0),
  (26, .invokestatic 167, 3, 59, 107, 0, 0, 807),
  (29, .istore_n 2, 1, 7, 2, 0, 0, 0),
  (30, .iconst 0, 1, 1, 0, 0, 0, 0),
  (31, .istore_n 3, 1, 7, 3, 0, 0, 0),
  (32, .iload_n 3, 1, 4, 3, 0, 0, 0),
  (33, .sipush 720, 3, 1, 0, 0, 720, 0),
  (36, .if_icmp .ge 22, 3, 79, 58, 0, 0, 0),
  (39, .aload_n 0, 1, 6, 0, 0, 0, 0),
  (40, .getfield 13, 3, 42, 6, 1, 0, 632),
  (43, .sipush 720, 3, 1, 0, 0, 720, 0),
  (46, .iload_n 1, 1, 4, 1, 0, 0, 0),
  (47, .imul, 1, 13, 0, 0, 0, 0),
  (48, .iload_n 3, 1, 4, 3, 0, 0, 0),
  (49, .iadd, 1, 11, 0, 0, 0, 0),
  (50, .iconst 0, 1, 1, 0, 0, 0, 0),
  (51, .bastore, 1, 51, 0, 0, 0, 0),
  (52, .iinc 3 1, 3, 10, 3, 0, 1, 0),
  (55, .goto (-23), 3, 37, 32, 0, 0, 0),
  (58, .aload_n 0, 1, 6, 0, 0, 0, 0),
  (59, .getfield 7, 3, 42, 6, 0, 0, 631),
  (62, .iload_n 1, 1, 4, 1, 0, 0, 0),
  (63, .iconst 0, 1, 1, 0, 0, 0, 0),
  (64, .bastore, 1, 51, 0, 0, 0, 0),
  (65, .aload_n 0, 1, 6, 0, 0, 0, 0),
  (66, .iload_n 1, 1, 4, 1, 0, 0, 0),
  (67, .invokevirtual 164, 3, 58, 125, 0, 0, 799),
  (70, .iload_n 2, 1, 4, 2, 0, 0, 0),
  (71, .ireturn, 1, 63, 0, 0, 0, 0)]
def vC_127 : List vent := vC_127_0
def vC_128_0 : List vent := [(0, .iload_n 1, 1, 4, 1, 0, 0, 0),
  (1, .invokestatic 161, 3, 59, 103, 0, 0, 724),
  (4, .ifCond .eq 10, 3, 70, 14, 0, 0, 0),
  (7, .iload_n 2, 1, 4, 2, 0, 0, 0),
  (8, .invokestatic 161, 3, 59, 103, 0, 0, 724),
  (11, .ifCond .ne 5, 3, 71, 16, 0, 0, 0),
  (14, .iconst (-1), 1, 1, 0, 0, (-1), 0),
  (15, .ireturn, 1, 63, 0, 0, 0, 0),
  (16, .aload_n 0, 1, 6, 0, 0, 0, 0),
  (17, .getfield 7, 3, 42, 6, 0, 0, 631),
  (20, .iload_n 1, 1, 4, 1, 0, 0, 0),
  (21, .baload, 1, 47, 0, 0, 0, 0),
  (22, .ifCond .ne 6, 3, 71, 28, 0, 0, 0),
  (25, .bipush (-3), 2, 1, 0, 0, (-3), 0),
  (27, .ireturn, 1, 63, 0, 0, 0, 0),
  (28, .iconst 0, 1, 1, 0, 0, 0, 0),
  (29, .istore_n 3, 1, 7, 3, 0, 0, 0),
  (30, .iload_n 3, 1, 4, 3, 0, 0, 0),
  (31, .sipush 720, 3, 1, 0, 0, 720, 0),
  (34, .if_icmp .ge 33, 3, 79, 67, 0, 0, 0),
  (37, .aload_n 0, 1, 6, 0, 0, 0, 0),
  (38, .getfield 13, 3, 42, 6, 1, 0, 632),
  (41, .sipush 720, 3, 1, 0, 0, 720, 0),
  (44, .iload_n 2, 1, 4, 2, 0, 0, 0),
  (45, .imul, 1, 13, 0, 0, 0, 0),
  (46, .iload_n 3, 1, 4, 3, 0, 0, 0),
  (47, .iadd, 1, 11, 0, 0, 0, 0),
  (48, .aload_n 0, 1, 6, 0, 0, 0, 0),
  (49, .getfield 13, 3, 42, 6, 1, 0, 632),
  (52, .sipush 720, 3, 1, 0, 0, 720, 0),
  (55, .iload_n 1, 1, 4, 1, 0, 0, 0),
  (56, .imul, 1, 13, 0, 0, 0, 0),
  (57, .iload_n 3, 1, 4, 3, 0, 0, 0),
  (58, .iadd, 1, 11, 0, 0, 0, 0),
  (59, .baload, 1, 47, 0, 0, 0, 0),
  (60, .bastore, 1, 51, 0, 0, 0, 0),
  (61, .iinc 3 1, 3, 10, 3, 0, 1, 0),
  (64, .goto (-34), 3, 37, 30, 0, 0, 0),
  (67, .aload_n 0, 1, 6, 0, 0, 0, 0),
  (68, .getfield 7, 3, 42, 6, 0, 0, 631),
  (71, .iload_n 2, 1, 4, 2, 0, 0, 0),
  (72, .iconst 1, 1, 1, 0, 0, 1, 0),
  (73, .bastore, 1, 51, 0, 0, 0, 0),
  (74, .aload_n 0, 1, 6, 0, 0, 0, 0),
  (75, .iload_n 2, 1, 4, 2, 0, 0, 0),
  (76, .invokevirtual 164, 3, 58, 125, 0, 0, 799),
  (79, .aload_n 0, 1, 6, 0, 0, 0, 0),
  (80, .getfield 13, 3, 42, 6, 1, 0, 632),
  (83, .iload_n 2, 1, 4, 2, 0, 0, 0),
  (84, .invokestatic 167, 3, 59, 107, 0, 0, 807),
  (87, .ireturn, 1, 63, 0, 0, 0, 0)]
def vC_128 : List vent := vC_128_0
def vC_129_0 : List vent := [(0, .iload_n 2, 1, 4, 2, 0, 0, 0),
  (1, .invokestatic 161, 3, 59, 103, 0, 0, 724),
  (4, .ifCond .ne 5, 3, 71, 9, 0, 0, 0),
  (7, .iconst (-1), 1, 1, 0, 0, (-1), 0),
  (8, .ireturn, 1, 63, 0, 0, 0, 0),
  (9, .iload_n 3, 1, 4, 3, 0, 0, 0),
  (10, .invokestatic 151, 3, 59, 104, 0, 0, 795),
  (13, .ifCond .ne 6, 3, 71, 19, 0, 0, 0),
  (16, .bipush (-2), 2, 1, 0, 0, (-2), 0),
  (18, .ireturn, 1, 63, 0, 0, 0, 0),
  (19, .sipush 720, 3, 1, 0, 0, 720, 0),
  (22, .iload_n 2, 1, 4, 2, 0, 0, 0),
  (23, .imul, 1, 13, 0, 0, 0, 0),
  (24, .iload_n 3, 1, 4, 3, 0, 0, 0),
  (25, .iadd, 1, 11, 0, 0, 0, 0),
  (26, .istore 4, 2, 7, 4, 0, 0, 0),
  (28, .aload_n 1, 1, 6, 1, 0, 0, 0),
  (29, .iload 4, 2, 4, 4, 0, 0, 0),
  (31, .baload, 1, 47, 0, 0, 0, 0),
  (32, .ifCond .ne 16, 3, 71, 48, 0, 0, 0),
  (35, .aload_n 1, 1, 6, 1, 0, 0, 0),
  (36, .iload_n 2, 1, 4, 2, 0, 0, 0),
  (37, .invokestatic 167, 3, 59, 107, 0, 0, 807),
  (40, .bipush 7, 2, 1, 0, 0, 7, 0),
  (42, .if_icmp .ne 6, 3, 77, 48, 0, 0, 0),
  (45, .bipush (-4), 2, 1, 0, 0, (-4), 0),
  (47, .ireturn, 1, 63, 0, 0, 0, 0),
  (48, .aload_n 1, 1, 6, 1, 0, 0, 0),
  (49, .iload 4, 2, 4, 4, 0, 0, 0),
  (51, .aload_n 1, 1, 6, 1, 0, 0, 0),
  (52, .iload 4, 2, 4, 4, 0, 0, 0),
  (54, .baload, 1, 47, 0, 0, 0, 0),
  (55, .ifCond .ne 7, 3, 71, 62, 0, 0, 0),
  (58, .iconst 1, 1, 1, 0, 0, 1, 0),
  (59, .goto 4, 3, 37, 63, 0, 0, 0),
  (62, .iconst 0, 1, 1, 0, 0, 0, 0),
  (63, .bastore, 1, 51, 0, 0, 0, 0),
  (64, .aload_n 0, 1, 6, 0, 0, 0, 0),
  (65, .iload_n 2, 1, 4, 2, 0, 0, 0),
  (66, .invokevirtual 164, 3, 58, 125, 0, 0, 799),
  (69, .aload_n 1, 1, 6, 1, 0, 0, 0),
  (70, .iload_n 2, 1, 4, 2, 0, 0, 0),
  (71, .invokestatic 167, 3, 59, 107, 0, 0, 807),
  (74, .ireturn, 1, 63, 0, 0, 0, 0)]
def vC_129 : List vent := vC_129_0
def vC_130_0 : List vent := [(0, .aload_n 0, 1, 6, 0, 0, 0, 0),
  (1, .aload_n 0, 1, 6, 0, 0, 0, 0),
  (2, .getfield 16, 3, 42, 6, 2, 0, 633),
  (5, .iload_n 1, 1, 4, 1, 0, 0, 0),
  (6, .iload_n 2, 1, 4, 2, 0, 0, 0),
  (7, .invokevirtual 171, 3, 58, 129, 0, 0, 822),
  (10, .ireturn, 1, 63, 0, 0, 0, 0)]
def vC_130 : List vent := vC_130_0
def vC_131_0 : List vent := [(0, .aload_n 0, 1, 6, 0, 0, 0, 0),
  (1, .aload_n 0, 1, 6, 0, 0, 0, 0),
  (2, .getfield 19, 3, 42, 6, 3, 0, 634),
  (5, .iload_n 1, 1, 4, 1, 0, 0, 0),
  (6, .iload_n 2, 1, 4, 2, 0, 0, 0),
  (7, .invokevirtual 171, 3, 58, 129, 0, 0, 822),
  (10, .ireturn, 1, 63, 0, 0, 0, 0)]
def vC_131 : List vent := vC_131_0
def vC_132_0 : List vent := [(0, .iload_n 0, 1, 4, 0, 0, 0, 0),
  (1, .invokestatic 161, 3, 59, 103, 0, 0, 724),
  (4, .ifCond .ne 7, 3, 71, 11, 0, 0, 0),
  (7, .iconst (-1), 1, 1, 0, 0, (-1), 0),
  (8, .goto 16, 3, 37, 24, 0, 0, 0),
  (11, .iload_n 1, 1, 4, 1, 0, 0, 0),
  (12, .invokestatic 151, 3, 59, 104, 0, 0, 795),
  (15, .ifCond .eq 7, 3, 70, 22, 0, 0, 0),
  (18, .iconst 0, 1, 1, 0, 0, 0, 0),
  (19, .goto 5, 3, 37, 24, 0, 0, 0),
  (22, .bipush (-2), 2, 1, 0, 0, (-2), 0),
  (24, .ireturn, 1, 63, 0, 0, 0, 0)]
def vC_132 : List vent := vC_132_0
def vC_133_0 : List vent := [(0, .iload_n 1, 1, 4, 1, 0, 0, 0),
  (1, .iload_n 2, 1, 4, 2, 0, 0, 0),
  (2, .invokestatic 175, 3, 59, 132, 0, 0, 834),
  (5, .istore_n 3, 1, 7, 3, 0, 0, 0),
  (6, .iload_n 3, 1, 4, 3, 0, 0, 0),
  (7, .ifCond .eq 7, 3, 70, 14, 0, 0, 0),
  (10, .iload_n 3, 1, 4, 3, 0, 0, 0),
  (11, .goto 17, 3, 37, 28, 0, 0, 0),
  (14, .aload_n 0, 1, 6, 0, 0, 0, 0),
  (15, .iload_n 1, 1, 4, 1, 0, 0, 0),
  (16, .iload_n 2, 1, 4, 2, 0, 0, 0),
  (17, .invokevirtual 124, 3, 58, 106, 0, 0, 762),
  (20, .ifCond .eq 7, 3, 70, 27, 0, 0, 0),
  (23, .iconst 1, 1, 1, 0, 0, 1, 0),
  (24, .goto 4, 3, 37, 28, 0, 0, 0),
  (27, .iconst 0, 1, 1, 0, 0, 0, 0),
  (28, .ireturn, 1, 63, 0, 0, 0, 0)]
def vC_133 : List vent := vC_133_0
def vC_134_0 : List vent := [(0, .iload_n 2, 1, 4, 2, 0, 0, 0),
  (1, .istore_n 3, 1, 7, 3, 0, 0, 0),
  (2, .iload_n 3, 1, 4, 3, 0, 0, 0),
  (3, .sipush 720, 3, 1, 0, 0, 720, 0),
  (6, .if_icmp .ge 20, 3, 79, 26, 0, 0, 0),
  (9, .aload_n 0, 1, 6, 0, 0, 0, 0),
  (10, .iload_n 1, 1, 4, 1, 0, 0, 0),
  (11, .iload_n 3, 1, 4, 3, 0, 0, 0),
  (12, .invokevirtual 124, 3, 58, 106, 0, 0, 762),
  (15, .ifCond .eq 5, 3, 70, 20, 0, 0, 0),
  (18, .iload_n 3, 1, 4, 3, 0, 0, 0),
  (19, .ireturn, 1, 63, 0, 0, 0, 0),
  (20, .iinc 3 1, 3, 10, 3, 0, 1, 0),
  (23, .goto (-21), 3, 37, 2, 0, 0, 0),
  (26, .bipush (-5), 2, 1, 0, 0, (-5), 0),
  (28, .ireturn, 1, 63, 0, 0, 0, 0)]
def vC_134 : List vent := vC_134_0
def vC_135_0 : List vent := [(0, .iload_n 1, 1, 4, 1, 0, 0, 0),
  (1, .iload_n 2, 1, 4, 2, 0, 0, 0),
  (2, .invokestatic 175, 3, 59, 132, 0, 0, 834),
  (5, .istore_n 3, 1, 7, 3, 0, 0, 0),
  (6, .iload_n 3, 1, 4, 3, 0, 0, 0),
  (7, .ifCond .eq 7, 3, 70, 14, 0, 0, 0),
  (10, .iload_n 3, 1, 4, 3, 0, 0, 0),
  (11, .goto 9, 3, 37, 20, 0, 0, 0),
  (14, .aload_n 0, 1, 6, 0, 0, 0, 0),
  (15, .iload_n 1, 1, 4, 1, 0, 0, 0),
  (16, .iload_n 2, 1, 4, 2, 0, 0, 0),
  (17, .invokevirtual 178, 3, 58, 134, 0, 0, 841),
  (20, .ireturn, 1, 63, 0, 0, 0, 0)]
def vC_135 : List vent := vC_135_0
def vC_136_0 : List vent := [(0, .iload_n 1, 1, 4, 1, 0, 0, 0),
  (1, .iload_n 2, 1, 4, 2, 0, 0, 0),
  (2, .invokestatic 175, 3, 59, 132, 0, 0, 834),
  (5, .istore_n 3, 1, 7, 3, 0, 0, 0),
  (6, .iload_n 3, 1, 4, 3, 0, 0, 0),
  (7, .ifCond .eq 5, 3, 70, 12, 0, 0, 0),
  (10, .iload_n 3, 1, 4, 3, 0, 0, 0),
  (11, .ireturn, 1, 63, 0, 0, 0, 0),
  (12, .iload_n 2, 1, 4, 2, 0, 0, 0),
  (13, .istore 4, 2, 7, 4, 0, 0, 0),
  (15, .iload 4, 2, 4, 4, 0, 0, 0),
  (17, .ifCond .lt 22, 3, 72, 39, 0, 0, 0),
  (20, .aload_n 0, 1, 6, 0, 0, 0, 0),
  (21, .iload_n 1, 1, 4, 1, 0, 0, 0),
  (22, .iload 4, 2, 4, 4, 0, 0, 0),
  (24, .invokevirtual 124, 3, 58, 106, 0, 0, 762),
  (27, .ifCond .eq 6, 3, 70, 33, 0, 0, 0),
  (30, .iload 4, 2, 4, 4, 0, 0, 0),
  (32, .ireturn, 1, 63, 0, 0, 0, 0),
  (33, .iinc 4 (-1), 3, 10, 4, 0, (-1), 0),
  (36, .goto (-21), 3, 37, 15, 0, 0, 0),
  (39, .bipush (-5), 2, 1, 0, 0, (-5), 0),
  (41, .ireturn, 1, 63, 0, 0, 0, 0)]
def vC_136 : List vent := vC_136_0
def vC_137_0 : List vent := [(0, .aload_n 0, 1, 6, 0, 0, 0, 0),
  (1, .iload_n 1, 1, 4, 1, 0, 0, 0),
  (2, .iload_n 2, 1, 4, 2, 0, 0, 0),
  (3, .iload_n 3, 1, 4, 3, 0, 0, 0),
  (4, .invokevirtual 181, 3, 58, 139, 0, 0, 857),
  (7, .istore 5, 2, 7, 5, 0, 0, 0),
  (9, .iload 4, 2, 4, 4, 0, 0, 0),
  (11, .ifCond .ge 13, 3, 73, 24, 0, 0, 0),
  (14, .iload 5, 2, 4, 5, 0, 0, 0),
  (16, .i2l, 1, 32, 0, 0, 0, 0),
  (17, .iload 4, 2, 4, 4, 0, 0, 0),
  (19, .i2l, 1, 32, 0, 0, 0, 0),
  (20, .ladd, 1, 22, 0, 0, 0, 0),
  (21, .goto 6, 3, 37, 27, 0, 0, 0),
  (24, .iload 4, 2, 4, 4, 0, 0, 0),
  (26, .i2l, 1, 32, 0, 0, 0, 0),
  (27, .lstore 6, 2, 8, 6, 0, 0, 0),
  (29, .iload_n 2, 1, 4, 2, 0, 0, 0),
  (30, .istore 8, 2, 7, 8, 0, 0, 0),
  (32, .iload 8, 2, 4, 8, 0, 0, 0),
  (34, .iload_n 3, 1, 4, 3, 0, 0, 0),
  (35, .if_icmp .gt 35, 3, 80, 70, 0, 0, 0),
  (38, .aload_n 0, 1, 6, 0, 0, 0, 0),
  (39, .iload_n 1, 1, 4, 1, 0, 0, 0),
  (40, .iload 8, 2, 4, 8, 0, 0, 0),
  (42, .invokevirtual 124, 3, 58, 106, 0, 0, 762),
  (45, .ifCond .eq 19, 3, 70, 64, 0, 0, 0),
  (48, .lload 6, 2, 5, 6, 0, 0, 0),
  (50, .lconst 0, 1, 2, 0, 0, 0, 0),
  (51, .lcmp, 1, 31, 0, 0, 0, 0),
  (52, .ifCond .ne 6, 3, 71, 58, 0, 0, 0),
  (55, .iload 8, 2, 4, 8, 0, 0, 0),
  (57, .ireturn, 1, 63, 0, 0, 0, 0),
  (58, .lload 6, 2, 5, 6, 0, 0, 0),
  (60, .lconst 1, 1, 2, 0, 0, 1, 0),
  (61, .lsub, 1, 23, 0, 0, 0, 0),
  (62, .lstore 6, 2, 8, 6, 0, 0, 0),
  (64, .iinc 8 1, 3, 10, 8, 0, 1, 0),
  (67, .goto (-35), 3, 37, 32, 0, 0, 0),
  (70, .bipush (-5), 2, 1, 0, 0, (-5), 0),
  (72, .ireturn, 1, 63, 0, 0, 0, 0)]
def vC_137 : List vent := vC_137_0
def vC_138_0 : List vent := [(0, .iload_n 1, 1, 4, 1, 0, 0, 0),
  (1, .invokestatic 161, 3, 59, 103, 0, 0, 724),
  (4, .ifCond .eq 16, 3, 70, 20, 0, 0, 0),
  (7, .aload_n 0, 1, 6, 0, 0, 0, 0),
  (8, .iload_n 1, 1, 4, 1, 0, 0, 0),
  (9, .iconst 0, 1, 1, 0, 0, 0, 0),
  (10, .sipush 719, 3, 1, 0, 0, 719, 0),
  (13, .iload_n 2, 1, 4, 2, 0, 0, 0),
  (14, .invokevirtual 185, 3, 58, 137, 0, 0, 853),
  (17, .goto 4, 3, 37, 21, 0, 0, 0),
  (20, .iconst (-1), 1, 1, 0, 0, (-1), 0),
  (21, .ireturn, 1, 63, 0, 0, 0, 0)]
def vC_138 : List vent := vC_138_0
def vC_139_0 : List vent := [(0, .iconst 0, 1, 1, 0, 0, 0, 0),
  (1, .istore 4, 2, 7, 4, 0, 0, 0),
  (3, .iload_n 2, 1, 4, 2, 0, 0, 0),
  (4, .istore 5, 2, 7, 5, 0, 0, 0),
  (6, .iload 5, 2, 4, 5, 0, 0, 0),
  (8, .iload_n 3, 1, 4, 3, 0, 0, 0),
  (9, .if_icmp .gt 29, 3, 80, 38, 0, 0, 0),
  (12, .iload 4, 2, 4, 4, 0, 0, 0),
  (14, .aload_n 0, 1, 6, 0, 0, 0, 0),
  (15, .iload_n 1, 1, 4, 1, 0, 0, 0),
  (16, .iload 5, 2, 4, 5, 0, 0, 0),
  (18, .invokevirtual 124, 3, 58, 106, 0, 0, 762),
  (21, .ifCond .eq 7, 3, 70, 28, 0, 0, 0),
  (24, .iconst 1, 1, 1, 0, 0, 1, 0),
  (25, .goto 4, 3, 37, 29, 0, 0, 0),
  (28, .iconst 0, 1, 1, 0, 0, 0, 0),
  (29, .iadd, 1, 11, 0, 0, 0, 0),
  (30, .istore 4, 2, 7, 4, 0, 0, 0),
  (32, .iinc 5 1, 3, 10, 5, 0, 1, 0),
  (35, .goto (-29), 3, 37, 6, 0, 0, 0),
  (38, .iload 4, 2, 4, 4, 0, 0, 0),
  (40, .ireturn, 1, 63, 0, 0, 0, 0)]
def vC_139 : List vent := vC_139_0
def vC_140_0 : List vent := [(0, .aload_n 0, 1, 6, 0, 0, 0, 0),
  (1, .getfield 42, 3, 42, 6, 16, 0, 647),
  (4, .iload_n 1, 1, 4, 1, 0, 0, 0),
  (5, .iload_n 2, 1, 4, 2, 0, 0, 0),
  (6, .iastore, 1, 49, 0, 0, 0, 0),
  (7, .aload_n 0, 1, 6, 0, 0, 0, 0),
  (8, .getfield 45, 3, 42, 6, 17, 0, 648),
  (11, .iload_n 1, 1, 4, 1, 0, 0, 0),
  (12, .iload_n 3, 1, 4, 3, 0, 0, 0),
  (13, .iastore, 1, 49, 0, 0, 0, 0),
  (14, .aload_n 0, 1, 6, 0, 0, 0, 0),
  (15, .getfield 48, 3, 42, 6, 18, 0, 649),
  (18, .iload_n 1, 1, 4, 1, 0, 0, 0),
  (19, .iload 4, 2, 4, 4, 0, 0, 0),
  (21, .iastore, 1, 49, 0, 0, 0, 0),
  (22, .aload_n 0, 1, 6, 0, 0, 0, 0),
  (23, .getfield 51, 3, 42, 6, 19, 0, 650),
  (26, .iload_n 1, 1, 4, 1, 0, 0, 0),
  (27, .iload 5, 2, 4, 5, 0, 0, 0),
  (29, .iastore, 1, 49, 0, 0, 0, 0),
  (30, .return_, 1, 66, 0, 0, 0, 0)]
def vC_140 : List vent := vC_140_0
def vC_141_0 : List vent := [(0, .iload_n 1, 1, 4, 1, 0, 0, 0),
  (1, .invokestatic 161, 3, 59, 103, 0, 0, 724),
  (4, .ifCond .ne 5, 3, 71, 9, 0, 0, 0),
  (7, .iconst (-1), 1, 1, 0, 0, (-1), 0),
  (8, .ireturn, 1, 63, 0, 0, 0, 0),
  (9, .iload_n 2, 1, 4, 2, 0, 0, 0),
  (10, .invokestatic 151, 3, 59, 104, 0, 0, 795),
  (13, .ifCond .eq 15, 3, 70, 28, 0, 0, 0),
  (16, .iload_n 3, 1, 4, 3, 0, 0, 0),
  (17, .invokestatic 151, 3, 59, 104, 0, 0, 795),
  (20, .ifCond .eq 8, 3, 70, 28, 0, 0, 0),
  (23, .iload_n 3, 1, 4, 3, 0, 0, 0),
  (24, .iload_n 2, 1, 4, 2, 0, 0, 0),
  (25, .if_icmp .ge 6, 3, 79, 31, 0, 0, 0),
  (28, .bipush (-2), 2, 1, 0, 0, (-2), 0),
  (30, .ireturn, 1, 63, 0, 0, 0, 0),
  (31, .iconst 0, 1, 1, 0, 0, 0, 0),
  (32, .istore 4, 2, 7, 4, 0, 0, 0),
  (34, .iconst 0, 1, 1, 0, 0, 0, 0),
  (35, .istore 5, 2, 7, 5, 0, 0, 0),
  (37, .iload 5, 2, 4, 5, 0, 0, 0),
  (39, .aload_n 0, 1, 6, 0, 0, 0, 0),
  (40, .getfield 154, 3, 42, 6, 15, 0, 646),
  (43, .if_icmp .ge 79, 3, 79, 122, 0, 0, 0),
  (46, .aload_n 0, 1, 6, 0, 0, 0, 0),
  (47, .getfield 42, 3, 42, 6, 16, 0, 647),
  (50, .iload 5, 2, 4, 5, 0, 0, 0),
  (52, .iaload, 1, 45, 0, 0, 0, 0),
  (53, .iload_n 1, 1, 4, 1, 0, 0, 0),
  (54, .if_icmp .ne 25, 3, 77, 79, 0, 0, 0),
  (57, .aload_n 0, 1, 6, 0, 0, 0, 0),
  (58, .getfield 45, 3, 42, 6, 17, 0, 648),
  (61, .iload 5, 2, 4, 5, 0, 0, 0),
  (63, .iaload, 1, 45, 0, 0, 0, 0),
  (64, .iload_n 2, 1, 4, 2, 0, 0, 0),
  (65, .if_icmp .ne 14, 3, 77, 79, 0, 0, 0),
  (68, .aload_n 0, 1, 6, 0, 0, 0, 0),
  (69, .getfield 48, 3, 42, 6, 18, 0, 649),
  (72, .iload 5, 2, 4, 5, 0, 0, 0),
  (74, .iaload, 1, 45, 0, 0, 0, 0),
  (75, .iload_n 3, 1, 4, 3, 0, 0, 0),
  (76, .if_icmp .eq 40, 3, 76, 116, 0, 0, 0),
  (79, .aload_n 0, 1, 6, 0, 0, 0, 0),
  (80, .iload 4, 2, 4, 4, 0, 0, 0),
  (82, .aload_n 0, 1, 6, 0, 0, 0, 0),
  (83, .getfield 42, 3, 42, 6, 16, 0, 647),
  (86, .iload 5, 2, 4, 5, 0, 0, 0),
  (88, .iaload, 1, 45, 0, 0, 0, 0),
  (89, .aload_n 0, 1, 6, 0, 0, 0, 0),
  (90, .getfield 45, 3, 42, 6, 17, 0, 648),
  (93, .iload 5, 2, 4, 5, 0, 0, 0),
  (95, .iaload, 1, 45, 0, 0, 0, 0),
  (96, .aload_n 0, 1, 6, 0, 0, 0, 0),
  (97, .getfield 48, 3, 42, 6, 18, 0, 649),
  (100, .iload 5, 2, 4, 5, 0, 0, 0),
  (102, .iaload, 1, 45, 0, 0, 0, 0),
  (103, .aload_n 0, 1, 6, 0, 0, 0, 0),
  (104, .getfield 51, 3, 42, 6, 19, 0, 650),
  (107, .iload 5, 2, 4, 5, 0, 0, 0),
  (109, .iaload, 1, 45, 0, 0, 0, 0),
  (110, .invokevirtual 157, 3, 58, 140, 0, 0, 803),
  (113, .iinc 4 1, 3, 10, 4, 0, 1, 0),
  (116, .iinc 5 1, 3, 10, 5, 0, 1, 0),
  (119, .goto (-82), 3, 37, 37, 0, 0, 0),
  (122, .aload_n 0, 1, 6, 0, 0, 0, 0),
  (123, .dup, 1, 34, 0, 0, 0, 0),
  (124, .getfield 189, 3, 42, 6, 20, 0, 651),
  (127, .iload 4, 2, 4, 4, 0, 0, 0),
  (129, .aload_n 0, 1, 6, 0, 0, 0, 0),
  (130, .getfield 154, 3, 42, 6, 15, 0, 646),
  (133, .if_icmp .ge 7, 3, 79, 140, 0, 0, 0),
  (136, .iconst 1, 1, 1, 0, 0, 1, 0),
  (137, .goto 4, 3, 37, 141, 0, 0, 0),
  (140, .iconst 0, 1, 1, 0, 0, 0, 0),
  (141, .iadd, 1, 11, 0, 0, 0, 0),
  (142, .putfield 189, 3, 43, 6, 20, 0, 651),
  (145, .aload_n 0, 1, 6, 0, 0, 0, 0),
  (146, .dup, 1, 34, 0, 0, 0, 0),
  (147, .getfield 192, 3, 42, 6, 21, 0, 652),
  (150, .iload 4, 2, 4, 4, 0, 0, 0),
  (152, .aload_n 0, 1, 6, 0, 0, 0, 0),
  (153, .getfield 154, 3, 42, 6, 15, 0, 646),
  (156, .if_icmp .ge 7, 3, 79, 163, 0, 0, 0),
  (159, .iconst 0, 1, 1, 0, 0, 0, 0),
  (160, .goto 4, 3, 37, 164, 0, 0, 0),
  (163, .iconst 1, 1, 1, 0, 0, 1, 0),
  (164, .iadd, 1, 11, 0, 0, 0, 0),
  (165, .putfield 192, 3, 43, 6, 21, 0, 652),
  (168, .aload_n 0, 1, 6, 0, 0, 0, 0),
  (169, .iload_n 1, 1, 4, 1, 0, 0, 0),
  (170, .iload_n 2, 1, 4, 2, 0, 0, 0),
  (171, .iload_n 3, 1, 4, 3, 0, 0, 0),
  (172, .invokevirtual 181, 3, 58, 139, 0, 0, 857),
  (175, .istore 5, 2, 7, 5, 0, 0, 0),
  (177, .aload_n 0, 1, 6, 0, 0, 0, 0),
  (178, .iload 4, 2, 4, 4, 0, 0, 0),
  (180, .iload_n 1, 1, 4, 1, 0, 0, 0),
  (181, .iload_n 2, 1, 4, 2, 0, 0, 0),
  (182, .iload_n 3, 1, 4, 3, 0, 0, 0),
  (183, .iload 5, 2, 4, 5, 0, 0, 0),
  (185, .invokevirtual 157, 3, 58, 140, 0, 0, 803),
  (188, .aload_n 0, 1, 6, 0, 0, 0, 0),
  (189, .iload 4, 2, 4, 4, 0, 0, 0),
  (191, .iconst 1, 1, 1, 0, 0, 1, 0),
  (192, .iadd, 1, 11, 0, 0, 0, 0),
  (193, .putfield 154, 3, 43, 6, 15, 0, 646),
  (196, .aload_n 0, 1, 6, 0, 0, 0, 0),
  (197, .getfield 154, 3, 42, 6, 15, 0, 646),
  (200, .bipush 7, 2, 1, 0, 0, 7, 0),
  (202, .if_icmp .ne 67, 3, 77, 269, 0, 0, 0),
  (205, .iconst 0, 1, 1, 0, 0, 0, 0),
  (206, .istore 6, 2, 7, 6, 0, 0, 0),
  (208, .iload 6, 2, 4, 6, 0, 0, 0),
  (210, .bipush 6, 2, 1, 0, 0, 6, 0),
  (212, .if_icmp .ge 51, 3, 79, 263, 0, 0, 0),
  (215, .aload_n 0, 1, 6, 0, 0, 0, 0),
  (216, .iload 6, 2, 4, 6, 0, 0, 0),
  (218, .aload_n 0, 1, 6, 0, 0, 0, 0),
  (219, .getfield 42, 3, 42, 6, 16, 0, 647),
  (222, .iload 6, 2, 4, 6, 0, 0, 0)]
def vC_141_1 : List vent := [(224, .iconst 1, 1, 1, 0, 0, 1, 0),
  (225, .iadd, 1, 11, 0, 0, 0, 0),
  (226, .iaload, 1, 45, 0, 0, 0, 0),
  (227, .aload_n 0, 1, 6, 0, 0, 0, 0),
  (228, .getfield 45, 3, 42, 6, 17, 0, 648),
  (231, .iload 6, 2, 4, 6, 0, 0, 0),
  (233, .iconst 1, 1, 1, 0, 0, 1, 0),
  (234, .iadd, 1, 11, 0, 0, 0, 0),
  (235, .iaload, 1, 45, 0, 0, 0, 0),
  (236, .aload_n 0, 1, 6, 0, 0, 0, 0),
  (237, .getfield 48, 3, 42, 6, 18, 0, 649),
  (240, .iload 6, 2, 4, 6, 0, 0, 0),
  (242, .iconst 1, 1, 1, 0, 0, 1, 0),
  (243, .iadd, 1, 11, 0, 0, 0, 0),
  (244, .iaload, 1, 45, 0, 0, 0, 0),
  (245, .aload_n 0, 1, 6, 0, 0, 0, 0),
  (246, .getfield 51, 3, 42, 6, 19, 0, 650),
  (249, .iload 6, 2, 4, 6, 0, 0, 0),
  (251, .iconst 1, 1, 1, 0, 0, 1, 0),
  (252, .iadd, 1, 11, 0, 0, 0, 0),
  (253, .iaload, 1, 45, 0, 0, 0, 0),
  (254, .invokevirtual 157, 3, 58, 140, 0, 0, 803),
  (257, .iinc 6 1, 3, 10, 6, 0, 1, 0),
  (260, .goto (-52), 3, 37, 208, 0, 0, 0),
  (263, .aload_n 0, 1, 6, 0, 0, 0, 0),
  (264, .bipush 6, 2, 1, 0, 0, 6, 0),
  (266, .putfield 154, 3, 43, 6, 15, 0, 646),
  (269, .iload 5, 2, 4, 5, 0, 0, 0),
  (271, .ireturn, 1, 63, 0, 0, 0, 0)]
def vC_141 : List vent := vC_141_0 ++ (vC_141_1)
def vC_142_0 : List vent := [(0, .iload_n 1, 1, 4, 1, 0, 0, 0),
  (1, .invokestatic 161, 3, 59, 103, 0, 0, 724),
  (4, .ifCond .ne 5, 3, 71, 9, 0, 0, 0),
  (7, .iconst (-1), 1, 1, 0, 0, (-1), 0),
  (8, .ireturn, 1, 63, 0, 0, 0, 0),
  (9, .iconst 0, 1, 1, 0, 0, 0, 0),
  (10, .istore_n 2, 1, 7, 2, 0, 0, 0),
  (11, .iconst 0, 1, 1, 0, 0, 0, 0),
  (12, .istore_n 3, 1, 7, 3, 0, 0, 0),
  (13, .iconst 0, 1, 1, 0, 0, 0, 0),
  (14, .istore 4, 2, 7, 4, 0, 0, 0),
  (16, .iload 4, 2, 4, 4, 0, 0, 0),
  (18, .sipush 720, 3, 1, 0, 0, 720, 0),
  (21, .if_icmp .ge 33, 3, 79, 54, 0, 0, 0),
  (24, .aload_n 0, 1, 6, 0, 0, 0, 0),
  (25, .iload_n 1, 1, 4, 1, 0, 0, 0),
  (26, .iload 4, 2, 4, 4, 0, 0, 0),
  (28, .invokevirtual 124, 3, 58, 106, 0, 0, 762),
  (31, .ifCond .eq 7, 3, 70, 38, 0, 0, 0),
  (34, .iconst 0, 1, 1, 0, 0, 0, 0),
  (35, .goto 6, 3, 37, 41, 0, 0, 0),
  (38, .iload_n 3, 1, 4, 3, 0, 0, 0),
  (39, .iconst 1, 1, 1, 0, 0, 1, 0),
  (40, .iadd, 1, 11, 0, 0, 0, 0),
  (41, .istore_n 3, 1, 7, 3, 0, 0, 0),
  (42, .iload_n 2, 1, 4, 2, 0, 0, 0),
  (43, .iload_n 3, 1, 4, 3, 0, 0, 0),
  (44, .invokestatic 195, 3, 84, 0, 0, 0, 869),
  (47, .istore_n 2, 1, 7, 2, 0, 0, 0),
  (48, .iinc 4 1, 3, 10, 4, 0, 1, 0),
  (51, .goto (-35), 3, 37, 16, 0, 0, 0),
  (54, .iload_n 2, 1, 4, 2, 0, 0, 0),
  (55, .ireturn, 1, 63, 0, 0, 0, 0)]
def vC_142 : List vent := vC_142_0
def vC_143_0 : List vent := [(0, .iload_n 1, 1, 4, 1, 0, 0, 0),
  (1, .invokestatic 161, 3, 59, 103, 0, 0, 724),
  (4, .ifCond .ne 5, 3, 71, 9, 0, 0, 0),
  (7, .iconst (-1), 1, 1, 0, 0, (-1), 0),
  (8, .ireturn, 1, 63, 0, 0, 0, 0),
  (9, .iconst 1, 1, 1, 0, 0, 1, 0),
  (10, .istore_n 2, 1, 7, 2, 0, 0, 0),
  (11, .iload_n 2, 1, 4, 2, 0, 0, 0),
  (12, .sipush 360, 3, 1, 0, 0, 360, 0),
  (15, .if_icmp .gt 65, 3, 80, 80, 0, 0, 0),
  (18, .iconst 1, 1, 1, 0, 0, 1, 0),
  (19, .istore_n 3, 1, 7, 3, 0, 0, 0),
  (20, .iconst 0, 1, 1, 0, 0, 0, 0),
  (21, .istore 4, 2, 7, 4, 0, 0, 0),
  (23, .iload 4, 2, 4, 4, 0, 0, 0),
  (25, .sipush 720, 3, 1, 0, 0, 720, 0),
  (28, .iload_n 2, 1, 4, 2, 0, 0, 0),
  (29, .isub, 1, 12, 0, 0, 0, 0),
  (30, .if_icmp .ge 38, 3, 79, 68, 0, 0, 0),
  (33, .iload_n 3, 1, 4, 3, 0, 0, 0),
  (34, .ifCond .eq 34, 3, 70, 68, 0, 0, 0),
  (37, .aload_n 0, 1, 6, 0, 0, 0, 0),
  (38, .iload_n 1, 1, 4, 1, 0, 0, 0),
  (39, .iload 4, 2, 4, 4, 0, 0, 0),
  (41, .invokevirtual 124, 3, 58, 106, 0, 0, 762),
  (44, .aload_n 0, 1, 6, 0, 0, 0, 0),
  (45, .iload_n 1, 1, 4, 1, 0, 0, 0),
  (46, .iload 4, 2, 4, 4, 0, 0, 0),
  (48, .iload_n 2, 1, 4, 2, 0, 0, 0),
  (49, .iadd, 1, 11, 0, 0, 0, 0),
  (50, .invokevirtual 124, 3, 58, 106, 0, 0, 762),
  (53, .if_icmp .ne 7, 3, 77, 60, 0, 0, 0),
  (56, .iconst 1, 1, 1, 0, 0, 1, 0),
  (57, .goto 4, 3, 37, 61, 0, 0, 0),
  (60, .iconst 0, 1, 1, 0, 0, 0, 0),
  (61, .istore_n 3, 1, 7, 3, 0, 0, 0),
  (62, .iinc 4 1, 3, 10, 4, 0, 1, 0),
  (65, .goto (-42), 3, 37, 23, 0, 0, 0),
  (68, .iload_n 3, 1, 4, 3, 0, 0, 0),
  (69, .ifCond .eq 5, 3, 70, 74, 0, 0, 0),
  (72, .iload_n 2, 1, 4, 2, 0, 0, 0),
  (73, .ireturn, 1, 63, 0, 0, 0, 0),
  (74, .iinc 2 1, 3, 10, 2, 0, 1, 0),
  (77, .goto (-66), 3, 37, 11, 0, 0, 0),
  (80, .bipush (-5), 2, 1, 0, 0, (-5), 0),
  (82, .ireturn, 1, 63, 0, 0, 0, 0)]
def vC_143 : List vent := vC_143_0
def vC_144_0 : List vent := [(0, .iload_n 1, 1, 4, 1, 0, 0, 0),
  (1, .invokestatic 161, 3, 59, 103, 0, 0, 724),
  (4, .ifCond .eq 10, 3, 70, 14, 0, 0, 0),
  (7, .iload_n 2, 1, 4, 2, 0, 0, 0),
  (8, .invokestatic 161, 3, 59, 103, 0, 0, 724),
  (11, .ifCond .ne 5, 3, 71, 16, 0, 0, 0),
  (14, .iconst (-1), 1, 1, 0, 0, (-1), 0),
  (15, .ireturn, 1, 63, 0, 0, 0, 0),
  (16, .iload_n 3, 1, 4, 3, 0, 0, 0),
  (17, .invokestatic 151, 3, 59, 104, 0, 0, 795),
  (20, .ifCond .ne 6, 3, 71, 26, 0, 0, 0),
  (23, .bipush (-2), 2, 1, 0, 0, (-2), 0),
  (25, .ireturn, 1, 63, 0, 0, 0, 0),
  (26, .iload_n 3, 1, 4, 3, 0, 0, 0),
  (27, .istore 4, 2, 7, 4, 0, 0, 0),
  (29, .iload 4, 2, 4, 4, 0, 0, 0),
  (31, .sipush 720, 3, 1, 0, 0, 720, 0),
  (34, .if_icmp .ge 32, 3, 79, 66, 0, 0, 0),
  (37, .aload_n 0, 1, 6, 0, 0, 0, 0),
  (38, .iload_n 1, 1, 4, 1, 0, 0, 0),
  (39, .iload 4, 2, 4, 4, 0, 0, 0),
  (41, .invokevirtual 124, 3, 58, 106, 0, 0, 762),
  (44, .ifCond .eq 16, 3, 70, 60, 0, 0, 0),
  (47, .aload_n 0, 1, 6, 0, 0, 0, 0),
  (48, .iload_n 2, 1, 4, 2, 0, 0, 0),
  (49, .iload 4, 2, 4, 4, 0, 0, 0),
  (51, .invokevirtual 124, 3, 58, 106, 0, 0, 762),
  (54, .ifCond .eq 6, 3, 70, 60, 0, 0, 0),
  (57, .iload 4, 2, 4, 4, 0, 0, 0),
  (59, .ireturn, 1, 63, 0, 0, 0, 0),
  (60, .iinc 4 1, 3, 10, 4, 0, 1, 0),
  (63, .goto (-34), 3, 37, 29, 0, 0, 0),
  (66, .bipush (-5), 2, 1, 0, 0, (-5), 0),
  (68, .ireturn, 1, 63, 0, 0, 0, 0)]
def vC_144 : List vent := vC_144_0
def vC_145_0 : List vent := [(0, .iload_n 1, 1, 4, 1, 0, 0, 0),
  (1, .invokestatic 161, 3, 59, 103, 0, 0, 724),
  (4, .ifCond .eq 10, 3, 70, 14, 0, 0, 0),
  (7, .iload_n 2, 1, 4, 2, 0, 0, 0),
  (8, .invokestatic 161, 3, 59, 103, 0, 0, 724),
  (11, .ifCond .ne 5, 3, 71, 16, 0, 0, 0),
  (14, .iconst (-1), 1, 1, 0, 0, (-1), 0),
  (15, .ireturn, 1, 63, 0, 0, 0, 0),
  (16, .iconst 0, 1, 1, 0, 0, 0, 0),
  (17, .istore_n 3, 1, 7, 3, 0, 0, 0),
  (18, .iload_n 3, 1, 4, 3, 0, 0, 0),
  (19, .sipush 720, 3, 1, 0, 0, 720, 0),
  (22, .if_icmp .ge 26, 3, 79, 48, 0, 0, 0),
  (25, .aload_n 0, 1, 6, 0, 0, 0, 0),
  (26, .iload_n 1, 1, 4, 1, 0, 0, 0),
  (27, .iload_n 3, 1, 4, 3, 0, 0, 0),
  (28, .invokevirtual 124, 3, 58, 106, 0, 0, 762),
  (31, .aload_n 0, 1, 6, 0, 0, 0, 0),
  (32, .iload_n 2, 1, 4, 2, 0, 0, 0),
  (33, .iload_n 3, 1, 4, 3, 0, 0, 0),
  (34, .invokevirtual 124, 3, 58, 106, 0, 0, 762),
  (37, .if_icmp .eq 5, 3, 76, 42, 0, 0, 0),
  (40, .iload_n 3, 1, 4, 3, 0, 0, 0),
  (41, .ireturn, 1, 63, 0, 0, 0, 0),
  (42, .iinc 3 1, 3, 10, 3, 0, 1, 0),
  (45, .goto (-27), 3, 37, 18, 0, 0, 0),
  (48, .bipush (-5), 2, 1, 0, 0, (-5), 0),
  (50, .ireturn, 1, 63, 0, 0, 0, 0)]
def vC_145 : List vent := vC_145_0
def vC_146_0 : List vent := [(0, .iload_n 0, 1, 4, 0, 0, 0, 0),
  (1, .i2l, 1, 32, 0, 0, 0, 0),
  (2, .lconst 0, 1, 2, 0, 0, 0, 0),
  (3, .ldc2_w 200, 3, 2, 0, 0, 1023, 889),
  (6, .invokestatic 65, 3, 59, 102, 0, 0, 713),
  (9, .ireturn, 1, 63, 1, 0, 0, 0)]
def vC_146 : List vent := vC_146_0
def vC_147_0 : List vent := [(0, .iconst 0, 1, 1, 0, 0, 0, 0),
  (1, .istore_n 3, 1, 7, 3, 0, 0, 0),
  (2, .iconst 0, 1, 1, 0, 0, 0, 0),
  (3, .istore 4, 2, 7, 4, 0, 0, 0),
  (5, .iload 4, 2, 4, 4, 0, 0, 0),
  (7, .bipush 10, 2, 1, 0, 0, 10, 0),
  (9, .if_icmp .ge 40, 3, 79, 49, 0, 0, 0),
  (12, .iload_n 3, 1, 4, 3, 0, 0, 0),
  (13, .iload_n 1, 1, 4, 1, 0, 0, 0),
  (14, .iload 4, 2, 4, 4, 0, 0, 0),
  (16, .ishr, 1, 20, 0, 0, 0, 0),
  (17, .iconst 1, 1, 1, 0, 0, 1, 0),
  (18, .iand, 1, 17, 0, 0, 0, 0),
  (19, .iconst 1, 1, 1, 0, 0, 1, 0),
  (20, .if_icmp .ne 20, 3, 77, 40, 0, 0, 0),
  (23, .aload_n 0, 1, 6, 0, 0, 0, 0),
  (24, .iload 4, 2, 4, 4, 0, 0, 0),
  (26, .iload_n 2, 1, 4, 2, 0, 0, 0),
  (27, .invokevirtual 124, 3, 58, 106, 0, 0, 762),
  (30, .ifCond .eq 10, 3, 70, 40, 0, 0, 0),
  (33, .iconst 1, 1, 1, 0, 0, 1, 0),
  (34, .iload 4, 2, 4, 4, 0, 0, 0),
  (36, .ishl, 1, 19, 0, 0, 0, 0),
  (37, .goto 4, 3, 37, 41, 0, 0, 0),
  (40, .iconst 0, 1, 1, 0, 0, 0, 0),
  (41, .ior, 1, 18, 0, 0, 0, 0),
  (42, .istore_n 3, 1, 7, 3, 0, 0, 0),
  (43, .iinc 4 1, 3, 10, 4, 0, 1, 0),
  (46, .goto (-41), 3, 37, 5, 0, 0, 0),
  (49, .iload_n 3, 1, 4, 3, 0, 0, 0),
  (50, .ireturn, 1, 63, 0, 0, 0, 0)]
def vC_147 : List vent := vC_147_0
def vC_148_0 : List vent := [(0, .iload_n 2, 1, 4, 2, 0, 0, 0),
  (1, .istore_n 3, 1, 7, 3, 0, 0, 0),
  (2, .iconst 0, 1, 1, 0, 0, 0, 0),
  (3, .istore 4, 2, 7, 4, 0, 0, 0),
  (5, .iload 4, 2, 4, 4, 0, 0, 0),
  (7, .sipush 720, 3, 1, 0, 0, 720, 0),
  (10, .if_icmp .ge 29, 3, 79, 39, 0, 0, 0),
  (13, .aload_n 0, 1, 6, 0, 0, 0, 0),
  (14, .iload_n 1, 1, 4, 1, 0, 0, 0),
  (15, .iload 4, 2, 4, 4, 0, 0, 0),
  (17, .invokevirtual 202, 3, 58, 147, 0, 0, 890),
  (20, .ifCond .eq 13, 3, 70, 33, 0, 0, 0),
  (23, .iload_n 3, 1, 4, 3, 0, 0, 0),
  (24, .ifCond .ne 6, 3, 71, 30, 0, 0, 0),
  (27, .iload 4, 2, 4, 4, 0, 0, 0),
  (29, .ireturn, 1, 63, 0, 0, 0, 0),
  (30, .iinc 3 (-1), 3, 10, 3, 0, (-1), 0),
  (33, .iinc 4 1, 3, 10, 4, 0, 1, 0),
  (36, .goto (-31), 3, 37, 5, 0, 0, 0),
  (39, .bipush (-5), 2, 1, 0, 0, (-5), 0),
  (41, .ireturn, 1, 63, 0, 0, 0, 0)]
def vC_148 : List vent := vC_148_0
def vC_149_0 : List vent := [(0, .iload_n 1, 1, 4, 1, 0, 0, 0),
  (1, .invokestatic 205, 3, 59, 146, 0, 0, 886),
  (4, .ifCond .ne 6, 3, 71, 10, 0, 0, 0),
  (7, .bipush (-2), 2, 1, 0, 0, (-2), 0),
  (9, .ireturn, 1, 63, 0, 0, 0, 0),
  (10, .iload_n 2, 1, 4, 2, 0, 0, 0),
  (11, .iconst (-1), 1, 1, 0, 0, (-1), 0),
  (12, .if_icmp .ge 5, 3, 79, 17, 0, 0, 0),
  (15, .iconst (-1), 1, 1, 0, 0, (-1), 0),
  (16, .ireturn, 1, 63, 0, 0, 0, 0),
  (17, .iload_n 2, 1, 4, 2, 0, 0, 0),
  (18, .iconst (-1), 1, 1, 0, 0, (-1), 0),
  (19, .if_icmp .ne 42, 3, 77, 61, 0, 0, 0),
  (22, .iconst 0, 1, 1, 0, 0, 0, 0),
  (23, .istore_n 3, 1, 7, 3, 0, 0, 0),
  (24, .iconst 0, 1, 1, 0, 0, 0, 0),
  (25, .istore 4, 2, 7, 4, 0, 0, 0),
  (27, .iload 4, 2, 4, 4, 0, 0, 0),
  (29, .sipush 720, 3, 1, 0, 0, 720, 0),
  (32, .if_icmp .ge 27, 3, 79, 59, 0, 0, 0),
  (35, .iload_n 3, 1, 4, 3, 0, 0, 0),
  (36, .aload_n 0, 1, 6, 0, 0, 0, 0),
  (37, .iload_n 1, 1, 4, 1, 0, 0, 0),
  (38, .iload 4, 2, 4, 4, 0, 0, 0),
  (40, .invokevirtual 202, 3, 58, 147, 0, 0, 890),
  (43, .ifCond .eq 7, 3, 70, 50, 0, 0, 0),
  (46, .iconst 1, 1, 1, 0, 0, 1, 0),
  (47, .goto 4, 3, 37, 51, 0, 0, 0),
  (50, .iconst 0, 1, 1, 0, 0, 0, 0),
  (51, .iadd, 1, 11, 0, 0, 0, 0),
  (52, .istore_n 3, 1, 7, 3, 0, 0, 0),
  (53, .iinc 4 1, 3, 10, 4, 0, 1, 0),
  (56, .goto (-29), 3, 37, 27, 0, 0, 0),
  (59, .iload_n 3, 1, 4, 3, 0, 0, 0),
  (60, .ireturn, 1, 63, 0, 0, 0, 0),
  (61, .aload_n 0, 1, 6, 0, 0, 0, 0),
  (62, .iload_n 1, 1, 4, 1, 0, 0, 0),
  (63, .iload_n 2, 1, 4, 2, 0, 0, 0),
  (64, .invokevirtual 208, 3, 58, 148, 0, 0, 894),
  (67, .ireturn, 1, 63, 0, 0, 0, 0)]
def vC_149 : List vent := vC_149_0
def vC_150_0 : List vent := [(0, .iload_n 1, 1, 4, 1, 0, 0, 0),
  (1, .invokestatic 205, 3, 59, 146, 0, 0, 886),
  (4, .ifCond .ne 6, 3, 71, 10, 0, 0, 0),
  (7, .bipush (-2), 2, 1, 0, 0, (-2), 0),
  (9, .ireturn, 1, 63, 0, 0, 0, 0),
  (10, .iload_n 2, 1, 4, 2, 0, 0, 0),
  (11, .ifCond .ge 5, 3, 73, 16, 0, 0, 0),
  (14, .iconst (-1), 1, 1, 0, 0, (-1), 0),
  (15, .ireturn, 1, 63, 0, 0, 0, 0),
  (16, .aload_n 0, 1, 6, 0, 0, 0, 0),
  (17, .iload_n 1, 1, 4, 1, 0, 0, 0),
  (18, .iload_n 2, 1, 4, 2, 0, 0, 0),
  (19, .invokevirtual 208, 3, 58, 148, 0, 0, 894),
  (22, .istore_n 3, 1, 7, 3, 0, 0, 0),
  (23, .iload_n 3, 1, 4, 3, 0, 0, 0),
  (24, .ifCond .ge 7, 3, 73, 31, 0, 0, 0),
  (27, .iconst 0, 1, 1, 0, 0, 0, 0),
  (28, .goto 9, 3, 37, 37, 0, 0, 0),
  (31, .aload_n 0, 1, 6, 0, 0, 0, 0),
  (32, .iload_n 1, 1, 4, 1, 0, 0, 0),
  (33, .iload_n 3, 1, 4, 3, 0, 0, 0),
  (34, .invokevirtual 202, 3, 58, 147, 0, 0, 890),
  (37, .ireturn, 1, 63, 0, 0, 0, 0)]
def vC_150 : List vent := vC_150_0
def vC_151_0 : List vent := [(0, .aload_n 0, 1, 6, 0, 0, 0, 0),
  (1, .sipush 1023, 3, 1, 0, 0, 1023, 0),
  (4, .iload_n 1, 1, 4, 1, 0, 0, 0),
  (5, .invokevirtual 202, 3, 58, 147, 0, 0, 890),
  (8, .istore_n 2, 1, 7, 2, 0, 0, 0),
  (9, .iconst 0, 1, 1, 0, 0, 0, 0),
  (10, .istore_n 3, 1, 7, 3, 0, 0, 0),
  (11, .iconst 0, 1, 1, 0, 0, 0, 0),
  (12, .istore 4, 2, 7, 4, 0, 0, 0),
  (14, .iload 4, 2, 4, 4, 0, 0, 0),
  (16, .bipush 10, 2, 1, 0, 0, 10, 0),
  (18, .if_icmp .ge 18, 3, 79, 36, 0, 0, 0),
  (21, .iload_n 3, 1, 4, 3, 0, 0, 0),
  (22, .iload_n 2, 1, 4, 2, 0, 0, 0),
  (23, .iload 4, 2, 4, 4, 0, 0, 0),
  (25, .ishr, 1, 20, 0, 0, 0, 0),
  (26, .iconst 1, 1, 1, 0, 0, 1, 0),
  (27, .iand, 1, 17, 0, 0, 0, 0),
  (28, .iadd, 1, 11, 0, 0, 0, 0),
  (29, .istore_n 3, 1, 7, 3, 0, 0, 0),
  (30, .iinc 4 1, 3, 10, 4, 0, 1, 0),
  (33, .goto (-19), 3, 37, 14, 0, 0, 0),
  (36, .iload_n 3, 1, 4, 3, 0, 0, 0),
  (37, .ireturn, 1, 63, 0, 0, 0, 0)]
def vC_151 : List vent := vC_151_0
def vC_152_0 : List vent := [(0, .iload_n 1, 1, 4, 1, 0, 0, 0),
  (1, .invokestatic 151, 3, 59, 104, 0, 0, 795),
  (4, .ifCond .eq 15, 3, 70, 19, 0, 0, 0),
  (7, .iload_n 2, 1, 4, 2, 0, 0, 0),
  (8, .invokestatic 151, 3, 59, 104, 0, 0, 795),
  (11, .ifCond .eq 8, 3, 70, 19, 0, 0, 0),
  (14, .iload_n 2, 1, 4, 2, 0, 0, 0),
  (15, .iload_n 1, 1, 4, 1, 0, 0, 0),
  (16, .if_icmp .ge 6, 3, 79, 22, 0, 0, 0),
  (19, .bipush (-2), 2, 1, 0, 0, (-2), 0),
  (21, .ireturn, 1, 63, 0, 0, 0, 0),
  (22, .iload_n 3, 1, 4, 3, 0, 0, 0),
  (23, .i2l, 1, 32, 0, 0, 0, 0),
  (24, .lconst 0, 1, 2, 0, 0, 0, 0),
  (25, .lconst 1, 1, 2, 0, 0, 1, 0),
  (26, .invokestatic 65, 3, 59, 102, 0, 0, 713),
  (29, .ifCond .ne 5, 3, 71, 34, 0, 0, 0),
  (32, .iconst (-1), 1, 1, 0, 0, (-1), 0),
  (33, .ireturn, 1, 63, 0, 0, 0, 0),
  (34, .bipush (-5), 2, 1, 0, 0, (-5), 0),
  (36, .istore 4, 2, 7, 4, 0, 0, 0),
  (38, .iconst 0, 1, 1, 0, 0, 0, 0),
  (39, .istore 5, 2, 7, 5, 0, 0, 0),
  (41, .iload_n 1, 1, 4, 1, 0, 0, 0),
  (42, .istore 6, 2, 7, 6, 0, 0, 0),
  (44, .iload 6, 2, 4, 6, 0, 0, 0),
  (46, .iload_n 2, 1, 4, 2, 0, 0, 0),
  (47, .if_icmp .gt 42, 3, 80, 89, 0, 0, 0),
  (50, .aload_n 0, 1, 6, 0, 0, 0, 0),
  (51, .iload 6, 2, 4, 6, 0, 0, 0),
  (53, .invokevirtual 211, 3, 58, 151, 0, 0, 906),
  (56, .istore 7, 2, 7, 7, 0, 0, 0),
  (58, .iload 7, 2, 4, 7, 0, 0, 0),
  (60, .iload 5, 2, 4, 5, 0, 0, 0),
  (62, .if_icmp .le 8, 3, 81, 70, 0, 0, 0),
  (65, .iload 6, 2, 4, 6, 0, 0, 0),
  (67, .goto 5, 3, 37, 72, 0, 0, 0),
  (70, .iload 4, 2, 4, 4, 0, 0, 0),
  (72, .istore 4, 2, 7, 4, 0, 0, 0),
  (74, .iload 5, 2, 4, 5, 0, 0, 0),
  (76, .iload 7, 2, 4, 7, 0, 0, 0),
  (78, .invokestatic 195, 3, 84, 0, 0, 0, 869),
  (81, .istore 5, 2, 7, 5, 0, 0, 0),
  (83, .iinc 6 1, 3, 10, 6, 0, 1, 0),
  (86, .goto (-42), 3, 37, 44, 0, 0, 0),
  (89, .iload_n 3, 1, 4, 3, 0, 0, 0),
  (90, .ifCond .ne 8, 3, 71, 98, 0, 0, 0),
  (93, .iload 4, 2, 4, 4, 0, 0, 0),
  (95, .goto 5, 3, 37, 100, 0, 0, 0),
  (98, .iload 5, 2, 4, 5, 0, 0, 0),
  (100, .ireturn, 1, 63, 0, 0, 0, 0)]
def vC_152 : List vent := vC_152_0
def vC_153_0 : List vent := [(0, .iload_n 1, 1, 4, 1, 0, 0, 0),
  (1, .invokestatic 205, 3, 59, 146, 0, 0, 886),
  (4, .ifCond .eq 22, 3, 70, 26, 0, 0, 0),
  (7, .iload_n 2, 1, 4, 2, 0, 0, 0),
  (8, .invokestatic 151, 3, 59, 104, 0, 0, 795),
  (11, .ifCond .eq 15, 3, 70, 26, 0, 0, 0),
  (14, .iload_n 3, 1, 4, 3, 0, 0, 0),
  (15, .i2l, 1, 32, 0, 0, 0, 0),
  (16, .lconst 1, 1, 2, 0, 0, 1, 0),
  (17, .ldc2_w 214, 3, 2, 0, 0, 99, 914),
  (20, .invokestatic 65, 3, 59, 102, 0, 0, 713),
  (23, .ifCond .ne 6, 3, 71, 29, 0, 0, 0),
  (26, .bipush (-2), 2, 1, 0, 0, (-2), 0),
  (28, .ireturn, 1, 63, 0, 0, 0, 0),
  (29, .iload_n 2, 1, 4, 2, 0, 0, 0),
  (30, .istore 4, 2, 7, 4, 0, 0, 0),
  (32, .iload 4, 2, 4, 4, 0, 0, 0),
  (34, .iload_n 3, 1, 4, 3, 0, 0, 0),
  (35, .iadd, 1, 11, 0, 0, 0, 0),
  (36, .sipush 720, 3, 1, 0, 0, 720, 0),
  (39, .if_icmp .gt 61, 3, 80, 100, 0, 0, 0),
  (42, .iconst 1, 1, 1, 0, 0, 1, 0),
  (43, .istore 5, 2, 7, 5, 0, 0, 0),
  (45, .iload 4, 2, 4, 4, 0, 0, 0),
  (47, .istore 6, 2, 7, 6, 0, 0, 0),
  (49, .iload 6, 2, 4, 6, 0, 0, 0),
  (51, .iload 4, 2, 4, 4, 0, 0, 0),
  (53, .iload_n 3, 1, 4, 3, 0, 0, 0),
  (54, .iadd, 1, 11, 0, 0, 0, 0),
  (55, .if_icmp .ge 31, 3, 79, 86, 0, 0, 0),
  (58, .iload 5, 2, 4, 5, 0, 0, 0),
  (60, .ifCond .eq 26, 3, 70, 86, 0, 0, 0),
  (63, .aload_n 0, 1, 6, 0, 0, 0, 0),
  (64, .iload_n 1, 1, 4, 1, 0, 0, 0),
  (65, .iload 6, 2, 4, 6, 0, 0, 0),
  (67, .invokevirtual 202, 3, 58, 147, 0, 0, 890),
  (70, .ifCond .ne 7, 3, 71, 77, 0, 0, 0),
  (73, .iconst 1, 1, 1, 0, 0, 1, 0),
  (74, .goto 4, 3, 37, 78, 0, 0, 0),
  (77, .iconst 0, 1, 1, 0, 0, 0, 0),
  (78, .istore 5, 2, 7, 5, 0, 0, 0),
  (80, .iinc 6 1, 3, 10, 6, 0, 1, 0),
  (83, .goto (-34), 3, 37, 49, 0, 0, 0),
  (86, .iload 5, 2, 4, 5, 0, 0, 0),
  (88, .ifCond .eq 6, 3, 70, 94, 0, 0, 0),
  (91, .iload 4, 2, 4, 4, 0, 0, 0),
  (93, .ireturn, 1, 63, 0, 0, 0, 0),
  (94, .iinc 4 1, 3, 10, 4, 0, 1, 0),
  (97, .goto (-65), 3, 37, 32, 0, 0, 0),
  (100, .bipush (-5), 2, 1, 0, 0, (-5), 0),
  (102, .ireturn, 1, 63, 0, 0, 0, 0)]
def vC_153 : List vent := vC_153_0
def vC_154_0 : List vent := [(0, .iload_n 0, 1, 4, 0, 0, 0, 0),
  (1, .i2l, 1, 32, 0, 0, 0, 0),
  (2, .lconst 0, 1, 2, 0, 0, 0, 0),
  (3, .ldc2_w 216, 3, 2, 0, 0, 2, 922),
  (6, .invokestatic 65, 3, 59, 102, 0, 0, 713),
  (9, .ireturn, 1, 63, 1, 0, 0, 0)]
def vC_154 : List vent := vC_154_0
def vC_155_0 : List vent := [(0, .iload_n 1, 1, 4, 1, 0, 0, 0),
  (1, .invokestatic 161, 3, 59, 103, 0, 0, 724),
  (4, .ifCond .eq 27, 3, 70, 31, 0, 0, 0),
  (7, .iload_n 2, 1, 4, 2, 0, 0, 0),
  (8, .invokestatic 218, 3, 59, 154, 0, 0, 919),
  (11, .ifCond .eq 20, 3, 70, 31, 0, 0, 0),
  (14, .iload_n 3, 1, 4, 3, 0, 0, 0),
  (15, .i2l, 1, 32, 0, 0, 0, 0),
  (16, .lconst 0, 1, 2, 0, 0, 0, 0),
  (17, .iload_n 2, 1, 4, 2, 0, 0, 0),
  (18, .sipush 719, 3, 1, 0, 0, 719, 0),
  (21, .invokestatic 145, 3, 59, 121, 0, 0, 784),
  (24, .i2l, 1, 32, 0, 0, 0, 0),
  (25, .invokestatic 65, 3, 59, 102, 0, 0, 713),
  (28, .ifCond .ne 5, 3, 71, 33, 0, 0, 0),
  (31, .iconst (-1), 1, 1, 0, 0, (-1), 0),
  (32, .ireturn, 1, 63, 0, 0, 0, 0),
  (33, .iconst 0, 1, 1, 0, 0, 0, 0),
  (34, .istore 4, 2, 7, 4, 0, 0, 0),
  (36, .iconst 0, 1, 1, 0, 0, 0, 0),
  (37, .istore 5, 2, 7, 5, 0, 0, 0),
  (39, .iload 5, 2, 4, 5, 0, 0, 0),
  (41, .sipush 720, 3, 1, 0, 0, 720, 0),
  (44, .if_icmp .ge 39, 3, 79, 83, 0, 0, 0),
  (47, .iload 4, 2, 4, 4, 0, 0, 0),
  (49, .aload_n 0, 1, 6, 0, 0, 0, 0),
  (50, .iload_n 1, 1, 4, 1, 0, 0, 0),
  (51, .iload 5, 2, 4, 5, 0, 0, 0),
  (53, .invokevirtual 124, 3, 58, 106, 0, 0, 762),
  (56, .ifCond .eq 17, 3, 70, 73, 0, 0, 0),
  (59, .iload_n 2, 1, 4, 2, 0, 0, 0),
  (60, .iload 5, 2, 4, 5, 0, 0, 0),
  (62, .invokestatic 145, 3, 59, 121, 0, 0, 784),
  (65, .iload_n 3, 1, 4, 3, 0, 0, 0),
  (66, .if_icmp .ne 7, 3, 77, 73, 0, 0, 0),
  (69, .iconst 1, 1, 1, 0, 0, 1, 0),
  (70, .goto 4, 3, 37, 74, 0, 0, 0),
  (73, .iconst 0, 1, 1, 0, 0, 0, 0),
  (74, .iadd, 1, 11, 0, 0, 0, 0),
  (75, .istore 4, 2, 7, 4, 0, 0, 0),
  (77, .iinc 5 1, 3, 10, 5, 0, 1, 0),
  (80, .goto (-41), 3, 37, 39, 0, 0, 0),
  (83, .iload 4, 2, 4, 4, 0, 0, 0),
  (85, .ireturn, 1, 63, 0, 0, 0, 0)]
def vC_155 : List vent := vC_155_0
def vC_156_0 : List vent := [(0, .iload_n 1, 1, 4, 1, 0, 0, 0),
  (1, .invokestatic 161, 3, 59, 103, 0, 0, 724),
  (4, .ifCond .eq 10, 3, 70, 14, 0, 0, 0),
  (7, .iload_n 2, 1, 4, 2, 0, 0, 0),
  (8, .invokestatic 218, 3, 59, 154, 0, 0, 919),
  (11, .ifCond .ne 5, 3, 71, 16, 0, 0, 0),
  (14, .iconst (-1), 1, 1, 0, 0, (-1), 0),
  (15, .ireturn, 1, 63, 0, 0, 0, 0),
  (16, .iload 4, 2, 4, 4, 0, 0, 0),
  (18, .invokestatic 151, 3, 59, 104, 0, 0, 795),
  (21, .ifCond .ne 6, 3, 71, 27, 0, 0, 0),
  (24, .bipush (-2), 2, 1, 0, 0, (-2), 0),
  (26, .ireturn, 1, 63, 0, 0, 0, 0),
  (27, .iload_n 2, 1, 4, 2, 0, 0, 0),
  (28, .ifCond .ne 8, 3, 71, 36, 0, 0, 0),
  (31, .bipush 7, 2, 1, 0, 0, 7, 0),
  (33, .goto 16, 3, 37, 49, 0, 0, 0),
  (36, .iload_n 2, 1, 4, 2, 0, 0, 0),
  (37, .iconst 1, 1, 1, 0, 0, 1, 0),
  (38, .if_icmp .ne 8, 3, 77, 46, 0, 0, 0),
  (41, .bipush 30, 2, 1, 0, 0, 30, 0),
  (43, .goto 6, 3, 37, 49, 0, 0, 0),
  (46, .sipush 360, 3, 1, 0, 0, 360, 0),
  (49, .istore 5, 2, 7, 5, 0, 0, 0),
  (51, .iload_n 2, 1, 4, 2, 0, 0, 0),
  (52, .iload 4, 2, 4, 4, 0, 0, 0),
  (54, .invokestatic 145, 3, 59, 121, 0, 0, 784),
  (57, .iload 5, 2, 4, 5, 0, 0, 0),
  (59, .imul, 1, 13, 0, 0, 0, 0),
  (60, .istore 6, 2, 7, 6, 0, 0, 0),
  (62, .aload_n 0, 1, 6, 0, 0, 0, 0),
  (63, .iload_n 1, 1, 4, 1, 0, 0, 0),
  (64, .iload 6, 2, 4, 6, 0, 0, 0),
  (66, .sipush 719, 3, 1, 0, 0, 719, 0),
  (69, .iload 6, 2, 4, 6, 0, 0, 0),
  (71, .iload 5, 2, 4, 5, 0, 0, 0),
  (73, .iadd, 1, 11, 0, 0, 0, 0),
  (74, .iconst 1, 1, 1, 0, 0, 1, 0),
  (75, .isub, 1, 12, 0, 0, 0, 0),
  (76, .invokestatic 221, 3, 85, 0, 0, 0, 927),
  (79, .iload_n 3, 1, 4, 3, 0, 0, 0),
  (80, .invokevirtual 185, 3, 58, 137, 0, 0, 853),
  (83, .ireturn, 1, 63, 0, 0, 0, 0)]
def vC_156 : List vent := vC_156_0
def vC_157_0 : List vent := [(0, .iconst 0, 1, 1, 0, 0, 0, 0),
  (1, .istore_n 2, 1, 7, 2, 0, 0, 0),
  (2, .iload_n 1, 1, 4, 1, 0, 0, 0),
  (3, .tableswitch 133 0 6 #[41, 74, 79, 84, 89, 94, 94], 41, 67, 5, 0, 0, 0),
  (44, .iconst 0, 1, 1, 0, 0, 0, 0),
  (45, .istore_n 3, 1, 7, 3, 0, 0, 0),
  (46, .iload_n 3, 1, 4, 3, 0, 0, 0),
  (47, .bipush 10, 2, 1, 0, 0, 10, 0),
  (49, .if_icmp .ge 26, 3, 79, 75, 0, 0, 0),
  (52, .iload_n 2, 1, 4, 2, 0, 0, 0),
  (53, .aload_n 0, 1, 6, 0, 0, 0, 0),
  (54, .getfield 7, 3, 42, 6, 0, 0, 631),
  (57, .iload_n 3, 1, 4, 3, 0, 0, 0),
  (58, .baload, 1, 47, 0, 0, 0, 0),
  (59, .ifCond .eq 7, 3, 70, 66, 0, 0, 0),
  (62, .iconst 1, 1, 1, 0, 0, 1, 0),
  (63, .goto 4, 3, 37, 67, 0, 0, 0),
  (66, .iconst 0, 1, 1, 0, 0, 0, 0),
  (67, .iadd, 1, 11, 0, 0, 0, 0),
  (68, .istore_n 2, 1, 7, 2, 0, 0, 0),
  (69, .iinc 3 1, 3, 10, 3, 0, 1, 0),
  (72, .goto (-26), 3, 37, 46, 0, 0, 0),
  (75, .iload_n 2, 1, 4, 2, 0, 0, 0),
  (76, .ireturn, 1, 63, 0, 0, 0, 0),
  (77, .aload_n 0, 1, 6, 0, 0, 0, 0),
  (78, .getfield 189, 3, 42, 6, 20, 0, 651),
  (81, .ireturn, 1, 63, 0, 0, 0, 0),
  (82, .aload_n 0, 1, 6, 0, 0, 0, 0),
  (83, .getfield 192, 3, 42, 6, 21, 0, 652),
  (86, .ireturn, 1, 63, 0, 0, 0, 0),
  (87, .aload_n 0, 1, 6, 0, 0, 0, 0),
  (88, .getfield 154, 3, 42, 6, 15, 0, 646),
  (91, .ireturn, 1, 63, 0, 0, 0, 0),
  (92, .aload_n 0, 1, 6, 0, 0, 0, 0),
  (93, .getfield 73, 3, 42, 6, 10, 0, 641),
  (96, .ireturn, 1, 63, 0, 0, 0, 0),
  (97, .iconst 0, 1, 1, 0, 0, 0, 0),
  (98, .istore_n 3, 1, 7, 3, 0, 0, 0),
  (99, .iload_n 3, 1, 4, 3, 0, 0, 0),
  (100, .bipush 10, 2, 1, 0, 0, 10, 0),
  (102, .if_icmp .ge 32, 3, 79, 134, 0, 0, 0),
  (105, .iload_n 2, 1, 4, 2, 0, 0, 0),
  (106, .iload_n 1, 1, 4, 1, 0, 0, 0),
  (107, .iconst 5, 1, 1, 0, 0, 5, 0),
  (108, .if_icmp .ne 10, 3, 77, 118, 0, 0, 0),
  (111, .aload_n 0, 1, 6, 0, 0, 0, 0),
  (112, .getfield 16, 3, 42, 6, 2, 0, 633),
  (115, .goto 7, 3, 37, 122, 0, 0, 0),
  (118, .aload_n 0, 1, 6, 0, 0, 0, 0),
  (119, .getfield 19, 3, 42, 6, 3, 0, 634),
  (122, .iload_n 3, 1, 4, 3, 0, 0, 0),
  (123, .invokestatic 167, 3, 59, 107, 0, 0, 807),
  (126, .iadd, 1, 11, 0, 0, 0, 0),
  (127, .istore_n 2, 1, 7, 2, 0, 0, 0),
  (128, .iinc 3 1, 3, 10, 3, 0, 1, 0),
  (131, .goto (-32), 3, 37, 99, 0, 0, 0),
  (134, .iload_n 2, 1, 4, 2, 0, 0, 0),
  (135, .ireturn, 1, 63, 0, 0, 0, 0),
  (136, .iconst (-1), 1, 1, 0, 0, (-1), 0),
  (137, .ireturn, 1, 63, 0, 0, 0, 0)]
def vC_157 : List vent := vC_157_0
def vC_158_0 : List vent := [(0, .iload_n 1, 1, 4, 1, 0, 0, 0),
  (1, .i2l, 1, 32, 0, 0, 0, 0),
  (2, .lconst 0, 1, 2, 0, 0, 0, 0),
  (3, .aload_n 0, 1, 6, 0, 0, 0, 0),
  (4, .getfield 154, 3, 42, 6, 15, 0, 646),
  (7, .iconst 1, 1, 1, 0, 0, 1, 0),
  (8, .isub, 1, 12, 0, 0, 0, 0),
  (9, .i2l, 1, 32, 0, 0, 0, 0),
  (10, .invokestatic 65, 3, 59, 102, 0, 0, 713),
  (13, .ifCond .eq 15, 3, 70, 28, 0, 0, 0),
  (16, .iload_n 2, 1, 4, 2, 0, 0, 0),
  (17, .i2l, 1, 32, 0, 0, 0, 0),
  (18, .lconst 0, 1, 2, 0, 0, 0, 0),
  (19, .ldc2_w 224, 3, 2, 0, 0, 3, 936),
  (22, .invokestatic 65, 3, 59, 102, 0, 0, 713),
  (25, .ifCond .ne 5, 3, 71, 30, 0, 0, 0),
  (28, .iconst (-1), 1, 1, 0, 0, (-1), 0),
  (29, .ireturn, 1, 63, 0, 0, 0, 0),
  (30, .iload_n 2, 1, 4, 2, 0, 0, 0),
  (31, .ifCond .ne 12, 3, 71, 43, 0, 0, 0),
  (34, .aload_n 0, 1, 6, 0, 0, 0, 0),
  (35, .getfield 42, 3, 42, 6, 16, 0, 647),
  (38, .iload_n 1, 1, 4, 1, 0, 0, 0),
  (39, .iaload, 1, 45, 0, 0, 0, 0),
  (40, .goto 37, 3, 37, 77, 0, 0, 0),
  (43, .iload_n 2, 1, 4, 2, 0, 0, 0),
  (44, .iconst 1, 1, 1, 0, 0, 1, 0),
  (45, .if_icmp .ne 12, 3, 77, 57, 0, 0, 0),
  (48, .aload_n 0, 1, 6, 0, 0, 0, 0),
  (49, .getfield 45, 3, 42, 6, 17, 0, 648),
  (52, .iload_n 1, 1, 4, 1, 0, 0, 0),
  (53, .iaload, 1, 45, 0, 0, 0, 0),
  (54, .goto 23, 3, 37, 77, 0, 0, 0),
  (57, .iload_n 2, 1, 4, 2, 0, 0, 0),
  (58, .iconst 2, 1, 1, 0, 0, 2, 0),
  (59, .if_icmp .ne 12, 3, 77, 71, 0, 0, 0),
  (62, .aload_n 0, 1, 6, 0, 0, 0, 0),
  (63, .getfield 48, 3, 42, 6, 18, 0, 649),
  (66, .iload_n 1, 1, 4, 1, 0, 0, 0),
  (67, .iaload, 1, 45, 0, 0, 0, 0),
  (68, .goto 9, 3, 37, 77, 0, 0, 0),
  (71, .aload_n 0, 1, 6, 0, 0, 0, 0),
  (72, .getfield 51, 3, 42, 6, 19, 0, 650),
  (75, .iload_n 1, 1, 4, 1, 0, 0, 0),
  (76, .iaload, 1, 45, 0, 0, 0, 0),
  (77, .ireturn, 1, 63, 0, 0, 0, 0)]
def vC_158 : List vent := vC_158_0
def vC_159_0 : List vent := [(0, .iload_n 0, 1, 4, 0, 0, 0, 0),
  (1, .i2l, 1, 32, 0, 0, 0, 0),
  (2, .lconst 0, 1, 2, 0, 0, 0, 0),
  (3, .ldc2_w 224, 3, 2, 0, 0, 3, 936),
  (6, .invokestatic 65, 3, 59, 102, 0, 0, 713),
  (9, .ireturn, 1, 63, 1, 0, 0, 0)]
def vC_159 : List vent := vC_159_0
def vC_160_0 : List vent := [(0, .iload_n 1, 1, 4, 1, 0, 0, 0),
  (1, .invokestatic 226, 3, 59, 159, 0, 0, 941),
  (4, .ifCond .ne 5, 3, 71, 9, 0, 0, 0),
  (7, .iconst (-1), 1, 1, 0, 0, (-1), 0),
  (8, .ireturn, 1, 63, 0, 0, 0, 0),
  (9, .iload_n 2, 1, 4, 2, 0, 0, 0),
  (10, .bipush 30, 2, 1, 0, 0, 30, 0),
  (12, .if_icmp .le 6, 3, 81, 18, 0, 0, 0),
  (15, .bipush (-2), 2, 1, 0, 0, (-2), 0),
  (17, .ireturn, 1, 63, 0, 0, 0, 0),
  (18, .iload_n 2, 1, 4, 2, 0, 0, 0),
  (19, .ifCond .ge 6, 3, 73, 25, 0, 0, 0),
  (22, .bipush (-14), 2, 1, 0, 0, (-14), 0),
  (24, .ireturn, 1, 63, 0, 0, 0, 0),
  (25, .aload_n 0, 1, 6, 0, 0, 0, 0),
  (26, .getfield 54, 3, 42, 6, 22, 0, 653),
  (29, .iload_n 1, 1, 4, 1, 0, 0, 0),
  (30, .iload_n 2, 1, 4, 2, 0, 0, 0),
  (31, .iastore, 1, 49, 0, 0, 0, 0),
  (32, .iconst 0, 1, 1, 0, 0, 0, 0),
  (33, .istore_n 3, 1, 7, 3, 0, 0, 0),
  (34, .iload_n 3, 1, 4, 3, 0, 0, 0),
  (35, .bipush 30, 2, 1, 0, 0, 30, 0),
  (37, .if_icmp .ge 21, 3, 79, 58, 0, 0, 0),
  (40, .aload_n 0, 1, 6, 0, 0, 0, 0),
  (41, .getfield 57, 3, 42, 6, 23, 0, 654),
  (44, .bipush 30, 2, 1, 0, 0, 30, 0),
  (46, .iload_n 1, 1, 4, 1, 0, 0, 0),
  (47, .imul, 1, 13, 0, 0, 0, 0),
  (48, .iload_n 3, 1, 4, 3, 0, 0, 0),
  (49, .iadd, 1, 11, 0, 0, 0, 0),
  (50, .iconst 0, 1, 1, 0, 0, 0, 0),
  (51, .iastore, 1, 49, 0, 0, 0, 0),
  (52, .iinc 3 1, 3, 10, 3, 0, 1, 0),
  (55, .goto (-21), 3, 37, 34, 0, 0, 0),
  (58, .iconst 1, 1, 1, 0, 0, 1, 0),
  (59, .ireturn, 1, 63, 0, 0, 0, 0)]
def vC_160 : List vent := vC_160_0
def vC_161_0 : List vent := [(0, .iload_n 1, 1, 4, 1, 0, 0, 0),
  (1, .invokestatic 226, 3, 59, 159, 0, 0, 941),
  (4, .ifCond .ne 5, 3, 71, 9, 0, 0, 0),
  (7, .iconst (-1), 1, 1, 0, 0, (-1), 0),
  (8, .ireturn, 1, 63, 0, 0, 0, 0),
  (9, .aload_n 0, 1, 6, 0, 0, 0, 0),
  (10, .getfield 54, 3, 42, 6, 22, 0, 653),
  (13, .iload_n 1, 1, 4, 1, 0, 0, 0),
  (14, .iaload, 1, 45, 0, 0, 0, 0),
  (15, .ifCond .ge 6, 3, 73, 21, 0, 0, 0),
  (18, .bipush (-11), 2, 1, 0, 0, (-11), 0),
  (20, .ireturn, 1, 63, 0, 0, 0, 0),
  (21, .iload_n 2, 1, 4, 2, 0, 0, 0),
  (22, .i2l, 1, 32, 0, 0, 0, 0),
  (23, .lconst 0, 1, 2, 0, 0, 0, 0),
  (24, .aload_n 0, 1, 6, 0, 0, 0, 0),
  (25, .getfield 54, 3, 42, 6, 22, 0, 653),
  (28, .iload_n 1, 1, 4, 1, 0, 0, 0),
  (29, .iaload, 1, 45, 0, 0, 0, 0),
  (30, .iconst 1, 1, 1, 0, 0, 1, 0),
  (31, .isub, 1, 12, 0, 0, 0, 0),
  (32, .i2l, 1, 32, 0, 0, 0, 0),
  (33, .invokestatic 65, 3, 59, 102, 0, 0, 713),
  (36, .ifCond .ne 6, 3, 71, 42, 0, 0, 0),
  (39, .bipush (-13), 2, 1, 0, 0, (-13), 0),
  (41, .ireturn, 1, 63, 0, 0, 0, 0),
  (42, .aload_n 0, 1, 6, 0, 0, 0, 0),
  (43, .getfield 57, 3, 42, 6, 23, 0, 654),
  (46, .bipush 30, 2, 1, 0, 0, 30, 0),
  (48, .iload_n 1, 1, 4, 1, 0, 0, 0),
  (49, .imul, 1, 13, 0, 0, 0, 0),
  (50, .iload_n 2, 1, 4, 2, 0, 0, 0),
  (51, .iadd, 1, 11, 0, 0, 0, 0),
  (52, .iload_n 3, 1, 4, 3, 0, 0, 0),
  (53, .iastore, 1, 49, 0, 0, 0, 0),
  (54, .iconst 1, 1, 1, 0, 0, 1, 0),
  (55, .ireturn, 1, 63, 0, 0, 0, 0)]
def vC_161 : List vent := vC_161_0
def vC_162_0 : List vent := [(0, .iload_n 1, 1, 4, 1, 0, 0, 0),
  (1, .invokestatic 226, 3, 59, 159, 0, 0, 941),
  (4, .ifCond .eq 35, 3, 70, 39, 0, 0, 0),
  (7, .iload_n 2, 1, 4, 2, 0, 0, 0),
  (8, .i2l, 1, 32, 0, 0, 0, 0),
  (9, .lconst 0, 1, 2, 0, 0, 0, 0),
  (10, .aload_n 0, 1, 6, 0, 0, 0, 0),
  (11, .getfield 54, 3, 42, 6, 22, 0, 653),
  (14, .iload_n 1, 1, 4, 1, 0, 0, 0),
  (15, .iaload, 1, 45, 0, 0, 0, 0),
  (16, .iconst 1, 1, 1, 0, 0, 1, 0),
  (17, .isub, 1, 12, 0, 0, 0, 0),
  (18, .i2l, 1, 32, 0, 0, 0, 0),
  (19, .invokestatic 65, 3, 59, 102, 0, 0, 713),
  (22, .ifCond .eq 17, 3, 70, 39, 0, 0, 0),
  (25, .aload_n 0, 1, 6, 0, 0, 0, 0),
  (26, .getfield 57, 3, 42, 6, 23, 0, 654),
  (29, .bipush 30, 2, 1, 0, 0, 30, 0),
  (31, .iload_n 1, 1, 4, 1, 0, 0, 0),
  (32, .imul, 1, 13, 0, 0, 0, 0),
  (33, .iload_n 2, 1, 4, 2, 0, 0, 0),
  (34, .iadd, 1, 11, 0, 0, 0, 0),
  (35, .iaload, 1, 45, 0, 0, 0, 0),
  (36, .goto 5, 3, 37, 41, 0, 0, 0),
  (39, .ldc 229, 2, 1, 0, 0, (-2000000000), 952),
  (41, .ireturn, 1, 63, 0, 0, 0, 0)]
def vC_162 : List vent := vC_162_0
def vC_163_0 : List vent := [(0, .iload_n 1, 1, 4, 1, 0, 0, 0),
  (1, .invokestatic 226, 3, 59, 159, 0, 0, 941),
  (4, .ifCond .eq 10, 3, 70, 14, 0, 0, 0),
  (7, .iload_n 3, 1, 4, 3, 0, 0, 0),
  (8, .invokestatic 226, 3, 59, 159, 0, 0, 941),
  (11, .ifCond .ne 5, 3, 71, 16, 0, 0, 0),
  (14, .iconst (-1), 1, 1, 0, 0, (-1), 0),
  (15, .ireturn, 1, 63, 0, 0, 0, 0),
  (16, .aload_n 0, 1, 6, 0, 0, 0, 0),
  (17, .getfield 54, 3, 42, 6, 22, 0, 653),
  (20, .iload_n 1, 1, 4, 1, 0, 0, 0),
  (21, .iaload, 1, 45, 0, 0, 0, 0),
  (22, .ifCond .lt 12, 3, 72, 34, 0, 0, 0),
  (25, .aload_n 0, 1, 6, 0, 0, 0, 0),
  (26, .getfield 54, 3, 42, 6, 22, 0, 653),
  (29, .iload_n 3, 1, 4, 3, 0, 0, 0),
  (30, .iaload, 1, 45, 0, 0, 0, 0),
  (31, .ifCond .ge 6, 3, 73, 37, 0, 0, 0),
  (34, .bipush (-11), 2, 1, 0, 0, (-11), 0),
  (36, .ireturn, 1, 63, 0, 0, 0, 0),
  (37, .iload 5, 2, 4, 5, 0, 0, 0),
  (39, .ifCond .lt 39, 3, 72, 78, 0, 0, 0),
  (42, .iload_n 2, 1, 4, 2, 0, 0, 0),
  (43, .ifCond .lt 35, 3, 72, 78, 0, 0, 0),
  (46, .iload 4, 2, 4, 4, 0, 0, 0),
  (48, .ifCond .lt 30, 3, 72, 78, 0, 0, 0),
  (51, .iload 5, 2, 4, 5, 0, 0, 0),
  (53, .aload_n 0, 1, 6, 0, 0, 0, 0),
  (54, .getfield 54, 3, 42, 6, 22, 0, 653),
  (57, .iload_n 1, 1, 4, 1, 0, 0, 0),
  (58, .iaload, 1, 45, 0, 0, 0, 0),
  (59, .iload_n 2, 1, 4, 2, 0, 0, 0),
  (60, .isub, 1, 12, 0, 0, 0, 0),
  (61, .if_icmp .gt 17, 3, 80, 78, 0, 0, 0),
  (64, .iload 5, 2, 4, 5, 0, 0, 0),
  (66, .aload_n 0, 1, 6, 0, 0, 0, 0),
  (67, .getfield 54, 3, 42, 6, 22, 0, 653),
  (70, .iload_n 3, 1, 4, 3, 0, 0, 0),
  (71, .iaload, 1, 45, 0, 0, 0, 0),
  (72, .iload 4, 2, 4, 4, 0, 0, 0),
  (74, .isub, 1, 12, 0, 0, 0, 0),
  (75, .if_icmp .le 6, 3, 81, 81, 0, 0, 0),
  (78, .bipush (-13), 2, 1, 0, 0, (-13), 0),
  (80, .ireturn, 1, 63, 0, 0, 0, 0),
  (81, .iconst 0, 1, 1, 0, 0, 0, 0),
  (82, .istore 6, 2, 7, 6, 0, 0, 0),
  (84, .iload 6, 2, 4, 6, 0, 0, 0),
  (86, .iload 5, 2, 4, 5, 0, 0, 0),
  (88, .if_icmp .ge 30, 3, 79, 118, 0, 0, 0),
  (91, .aload_n 0, 1, 6, 0, 0, 0, 0),
  (92, .getfield 60, 3, 42, 6, 24, 0, 655),
  (95, .iload 6, 2, 4, 6, 0, 0, 0),
  (97, .aload_n 0, 1, 6, 0, 0, 0, 0),
  (98, .getfield 57, 3, 42, 6, 23, 0, 654),
  (101, .bipush 30, 2, 1, 0, 0, 30, 0),
  (103, .iload_n 1, 1, 4, 1, 0, 0, 0),
  (104, .imul, 1, 13, 0, 0, 0, 0),
  (105, .iload_n 2, 1, 4, 2, 0, 0, 0),
  (106, .iadd, 1, 11, 0, 0, 0, 0),
  (107, .iload 6, 2, 4, 6, 0, 0, 0),
  (109, .iadd, 1, 11, 0, 0, 0, 0),
  (110, .iaload, 1, 45, 0, 0, 0, 0),
  (111, .iastore, 1, 49, 0, 0, 0, 0),
  (112, .iinc 6 1, 3, 10, 6, 0, 1, 0),
  (115, .goto (-31), 3, 37, 84, 0, 0, 0),
  (118, .iconst 0, 1, 1, 0, 0, 0, 0),
  (119, .istore 6, 2, 7, 6, 0, 0, 0),
  (121, .iload 6, 2, 4, 6, 0, 0, 0),
  (123, .iload 5, 2, 4, 5, 0, 0, 0),
  (125, .if_icmp .ge 31, 3, 79, 156, 0, 0, 0),
  (128, .aload_n 0, 1, 6, 0, 0, 0, 0),
  (129, .getfield 57, 3, 42, 6, 23, 0, 654),
  (132, .bipush 30, 2, 1, 0, 0, 30, 0),
  (134, .iload_n 3, 1, 4, 3, 0, 0, 0),
  (135, .imul, 1, 13, 0, 0, 0, 0),
  (136, .iload 4, 2, 4, 4, 0, 0, 0),
  (138, .iadd, 1, 11, 0, 0, 0, 0),
  (139, .iload 6, 2, 4, 6, 0, 0, 0),
  (141, .iadd, 1, 11, 0, 0, 0, 0),
  (142, .aload_n 0, 1, 6, 0, 0, 0, 0),
  (143, .getfield 60, 3, 42, 6, 24, 0, 655),
  (146, .iload 6, 2, 4, 6, 0, 0, 0),
  (148, .iaload, 1, 45, 0, 0, 0, 0),
  (149, .iastore, 1, 49, 0, 0, 0, 0),
  (150, .iinc 6 1, 3, 10, 6, 0, 1, 0),
  (153, .goto (-32), 3, 37, 121, 0, 0, 0),
  (156, .iload 5, 2, 4, 5, 0, 0, 0),
  (158, .ireturn, 1, 63, 0, 0, 0, 0)]
def vC_163 : List vent := vC_163_0
def vC_164_0 : List vent := [(0, .iload_n 1, 1, 4, 1, 0, 0, 0),
  (1, .invokestatic 226, 3, 59, 159, 0, 0, 941),
  (4, .ifCond .eq 10, 3, 70, 14, 0, 0, 0),
  (7, .iload_n 3, 1, 4, 3, 0, 0, 0),
  (8, .invokestatic 161, 3, 59, 103, 0, 0, 724),
  (11, .ifCond .ne 5, 3, 71, 16, 0, 0, 0),
  (14, .iconst (-1), 1, 1, 0, 0, (-1), 0),
  (15, .ireturn, 1, 63, 0, 0, 0, 0),
  (16, .iload 4, 2, 4, 4, 0, 0, 0),
  (18, .invokestatic 151, 3, 59, 104, 0, 0, 795),
  (21, .ifCond .ne 6, 3, 71, 27, 0, 0, 0),
  (24, .bipush (-2), 2, 1, 0, 0, (-2), 0),
  (26, .ireturn, 1, 63, 0, 0, 0, 0),
  (27, .aload_n 0, 1, 6, 0, 0, 0, 0),
  (28, .getfield 54, 3, 42, 6, 22, 0, 653),
  (31, .iload_n 1, 1, 4, 1, 0, 0, 0),
  (32, .iaload, 1, 45, 0, 0, 0, 0),
  (33, .ifCond .ge 8, 3, 73, 41, 0, 0, 0),
  (36, .bipush (-11), 2, 1, 0, 0, (-11), 0),
  (38, .goto 25, 3, 37, 63, 0, 0, 0),
  (41, .iload_n 2, 1, 4, 2, 0, 0, 0),
  (42, .i2l, 1, 32, 0, 0, 0, 0),
  (43, .lconst 0, 1, 2, 0, 0, 0, 0),
  (44, .aload_n 0, 1, 6, 0, 0, 0, 0),
  (45, .getfield 54, 3, 42, 6, 22, 0, 653),
  (48, .iload_n 1, 1, 4, 1, 0, 0, 0),
  (49, .iaload, 1, 45, 0, 0, 0, 0),
  (50, .i2l, 1, 32, 0, 0, 0, 0),
  (51, .invokestatic 65, 3, 59, 102, 0, 0, 713),
  (54, .ifCond .eq 7, 3, 70, 61, 0, 0, 0),
  (57, .iconst 0, 1, 1, 0, 0, 0, 0),
  (58, .goto 5, 3, 37, 63, 0, 0, 0),
  (61, .bipush (-13), 2, 1, 0, 0, (-13), 0),
  (63, .ireturn, 1, 63, 0, 0, 0, 0)]
def vC_164 : List vent := vC_164_0
def vC_165_0 : List vent := [(0, .aload_n 0, 1, 6, 0, 0, 0, 0),
  (1, .iload_n 1, 1, 4, 1, 0, 0, 0),
  (2, .iload_n 2, 1, 4, 2, 0, 0, 0),
  (3, .iload_n 3, 1, 4, 3, 0, 0, 0),
  (4, .iload 4, 2, 4, 4, 0, 0, 0),
  (6, .invokevirtual 230, 3, 58, 164, 0, 0, 961),
  (9, .istore 5, 2, 7, 5, 0, 0, 0),
  (11, .iload 5, 2, 4, 5, 0, 0, 0),
  (13, .ifCond .eq 6, 3, 70, 19, 0, 0, 0),
  (16, .iload 5, 2, 4, 5, 0, 0, 0),
  (18, .ireturn, 1, 63, 0, 0, 0, 0),
  (19, .iconst 0, 1, 1, 0, 0, 0, 0),
  (20, .istore 6, 2, 7, 6, 0, 0, 0),
  (22, .aload_n 0, 1, 6, 0, 0, 0, 0),
  (23, .iload_n 3, 1, 4, 3, 0, 0, 0),
  (24, .iload 4, 2, 4, 4, 0, 0, 0),
  (26, .invokevirtual 178, 3, 58, 134, 0, 0, 841),
  (29, .istore 7, 2, 7, 7, 0, 0, 0),
  (31, .iload 7, 2, 4, 7, 0, 0, 0),
  (33, .ifCond .lt 49, 3, 72, 82, 0, 0, 0),
  (36, .iload_n 2, 1, 4, 2, 0, 0, 0),
  (37, .iload 6, 2, 4, 6, 0, 0, 0),
  (39, .iadd, 1, 11, 0, 0, 0, 0),
  (40, .aload_n 0, 1, 6, 0, 0, 0, 0),
  (41, .getfield 54, 3, 42, 6, 22, 0, 653),
  (44, .iload_n 1, 1, 4, 1, 0, 0, 0),
  (45, .iaload, 1, 45, 0, 0, 0, 0),
  (46, .if_icmp .ge 36, 3, 79, 82, 0, 0, 0),
  (49, .aload_n 0, 1, 6, 0, 0, 0, 0),
  (50, .getfield 57, 3, 42, 6, 23, 0, 654),
  (53, .bipush 30, 2, 1, 0, 0, 30, 0),
  (55, .iload_n 1, 1, 4, 1, 0, 0, 0),
  (56, .imul, 1, 13, 0, 0, 0, 0),
  (57, .iload_n 2, 1, 4, 2, 0, 0, 0),
  (58, .iadd, 1, 11, 0, 0, 0, 0),
  (59, .iload 6, 2, 4, 6, 0, 0, 0),
  (61, .iadd, 1, 11, 0, 0, 0, 0),
  (62, .iload 7, 2, 4, 7, 0, 0, 0),
  (64, .iastore, 1, 49, 0, 0, 0, 0),
  (65, .iinc 6 1, 3, 10, 6, 0, 1, 0),
  (68, .aload_n 0, 1, 6, 0, 0, 0, 0),
  (69, .iload_n 3, 1, 4, 3, 0, 0, 0),
  (70, .iload 7, 2, 4, 7, 0, 0, 0),
  (72, .iconst 1, 1, 1, 0, 0, 1, 0),
  (73, .iadd, 1, 11, 0, 0, 0, 0),
  (74, .invokevirtual 178, 3, 58, 134, 0, 0, 841),
  (77, .istore 7, 2, 7, 7, 0, 0, 0),
  (79, .goto (-48), 3, 37, 31, 0, 0, 0),
  (82, .iload 6, 2, 4, 6, 0, 0, 0),
  (84, .ireturn, 1, 63, 0, 0, 0, 0)]
def vC_165 : List vent := vC_165_0
def vC_166_0 : List vent := [(0, .aload_n 0, 1, 6, 0, 0, 0, 0),
  (1, .iload_n 1, 1, 4, 1, 0, 0, 0),
  (2, .iload_n 2, 1, 4, 2, 0, 0, 0),
  (3, .iload_n 3, 1, 4, 3, 0, 0, 0),
  (4, .iload 4, 2, 4, 4, 0, 0, 0),
  (6, .invokevirtual 230, 3, 58, 164, 0, 0, 961),
  (9, .istore 5, 2, 7, 5, 0, 0, 0),
  (11, .iload 5, 2, 4, 5, 0, 0, 0),
  (13, .ifCond .eq 6, 3, 70, 19, 0, 0, 0),
  (16, .iload 5, 2, 4, 5, 0, 0, 0),
  (18, .ireturn, 1, 63, 0, 0, 0, 0),
  (19, .aload_n 0, 1, 6, 0, 0, 0, 0),
  (20, .iload_n 3, 1, 4, 3, 0, 0, 0),
  (21, .iload 4, 2, 4, 4, 0, 0, 0),
  (23, .invokevirtual 178, 3, 58, 134, 0, 0, 841),
  (26, .istore 6, 2, 7, 6, 0, 0, 0),
  (28, .iload_n 2, 1, 4, 2, 0, 0, 0),
  (29, .istore 7, 2, 7, 7, 0, 0, 0),
  (31, .iload 7, 2, 4, 7, 0, 0, 0),
  (33, .aload_n 0, 1, 6, 0, 0, 0, 0),
  (34, .getfield 54, 3, 42, 6, 22, 0, 653),
  (37, .iload_n 1, 1, 4, 1, 0, 0, 0),
  (38, .iaload, 1, 45, 0, 0, 0, 0),
  (39, .if_icmp .ge 61, 3, 79, 100, 0, 0, 0),
  (42, .aload_n 0, 1, 6, 0, 0, 0, 0),
  (43, .getfield 57, 3, 42, 6, 23, 0, 654),
  (46, .bipush 30, 2, 1, 0, 0, 30, 0),
  (48, .iload_n 1, 1, 4, 1, 0, 0, 0),
  (49, .imul, 1, 13, 0, 0, 0, 0),
  (50, .iload 7, 2, 4, 7, 0, 0, 0),
  (52, .iadd, 1, 11, 0, 0, 0, 0),
  (53, .iaload, 1, 45, 0, 0, 0, 0),
  (54, .iload 6, 2, 4, 6, 0, 0, 0),
  (56, .ifCond .ge 7, 3, 73, 63, 0, 0, 0),
  (59, .iconst (-1), 1, 1, 0, 0, (-1), 0),
  (60, .goto 5, 3, 37, 65, 0, 0, 0),
  (63, .iload 6, 2, 4, 6, 0, 0, 0),
  (65, .if_icmp .eq 8, 3, 76, 73, 0, 0, 0),
  (68, .iload 7, 2, 4, 7, 0, 0, 0),
  (70, .iload_n 2, 1, 4, 2, 0, 0, 0),
  (71, .isub, 1, 12, 0, 0, 0, 0),
  (72, .ireturn, 1, 63, 0, 0, 0, 0),
  (73, .iload 6, 2, 4, 6, 0, 0, 0),
  (75, .ifCond .ge 8, 3, 73, 83, 0, 0, 0),
  (78, .iload 6, 2, 4, 6, 0, 0, 0),
  (80, .goto 12, 3, 37, 92, 0, 0, 0),
  (83, .aload_n 0, 1, 6, 0, 0, 0, 0),
  (84, .iload_n 3, 1, 4, 3, 0, 0, 0),
  (85, .iload 6, 2, 4, 6, 0, 0, 0),
  (87, .iconst 1, 1, 1, 0, 0, 1, 0),
  (88, .iadd, 1, 11, 0, 0, 0, 0),
  (89, .invokevirtual 178, 3, 58, 134, 0, 0, 841),
  (92, .istore 6, 2, 7, 6, 0, 0, 0),
  (94, .iinc 7 1, 3, 10, 7, 0, 1, 0),
  (97, .goto (-66), 3, 37, 31, 0, 0, 0),
  (100, .bipush (-5), 2, 1, 0, 0, (-5), 0),
  (102, .ireturn, 1, 63, 0, 0, 0, 0)]
def vC_166 : List vent := vC_166_0
def vC_167_0 : List vent := [(0, .aload_n 0, 1, 6, 0, 0, 0, 0),
  (1, .getfield 7, 3, 42, 6, 0, 0, 631),
  (4, .aload_n 0, 1, 6, 0, 0, 0, 0),
  (5, .getfield 22, 3, 42, 6, 4, 0, 635),
  (8, .bipush 10, 2, 1, 0, 0, 10, 0),
  (10, .invokestatic 233, 3, 59, 105, 0, 0, 973),
  (13, .aload_n 0, 1, 6, 0, 0, 0, 0),
  (14, .getfield 13, 3, 42, 6, 1, 0, 632),
  (17, .aload_n 0, 1, 6, 0, 0, 0, 0),
  (18, .getfield 25, 3, 42, 6, 5, 0, 636),
  (21, .sipush 7200, 3, 1, 0, 0, 7200, 0),
  (24, .invokestatic 233, 3, 59, 105, 0, 0, 973),
  (27, .aload_n 0, 1, 6, 0, 0, 0, 0),
  (28, .getfield 16, 3, 42, 6, 2, 0, 633),
  (31, .aload_n 0, 1, 6, 0, 0, 0, 0),
  (32, .getfield 28, 3, 42, 6, 6, 0, 637),
  (35, .sipush 7200, 3, 1, 0, 0, 7200, 0),
  (38, .invokestatic 233, 3, 59, 105, 0, 0, 973),
  (41, .aload_n 0, 1, 6, 0, 0, 0, 0),
  (42, .getfield 19, 3, 42, 6, 3, 0, 634),
  (45, .aload_n 0, 1, 6, 0, 0, 0, 0),
  (46, .getfield 31, 3, 42, 6, 7, 0, 638),
  (49, .sipush 7200, 3, 1, 0, 0, 7200, 0),
  (52, .invokestatic 233, 3, 59, 105, 0, 0, 973),
  (55, .aload_n 0, 1, 6, 0, 0, 0, 0),
  (56, .iconst 1, 1, 1, 0, 0, 1, 0),
  (57, .putfield 237, 3, 43, 6, 8, 0, 639),
  (60, .aload_n 0, 1, 6, 0, 0, 0, 0),
  (61, .iconst 0, 1, 1, 0, 0, 0, 0),
  (62, .invokevirtual 240, 3, 58, 157, 0, 0, 976),
  (65, .ireturn, 1, 63, 0, 0, 0, 0)]
def vC_167 : List vent := vC_167_0
def vC_168_0 : List vent := [(0, .aload_n 0, 1, 6, 0, 0, 0, 0),
  (1, .getfield 237, 3, 42, 6, 8, 0, 639),
  (4, .ifCond .ne 6, 3, 71, 10, 0, 0, 0),
  (7, .bipush (-3), 2, 1, 0, 0, (-3), 0),
  (9, .ireturn, 1, 63, 0, 0, 0, 0),
  (10, .aload_n 0, 1, 6, 0, 0, 0, 0),
  (11, .getfield 22, 3, 42, 6, 4, 0, 635),
  (14, .aload_n 0, 1, 6, 0, 0, 0, 0),
  (15, .getfield 7, 3, 42, 6, 0, 0, 631),
  (18, .bipush 10, 2, 1, 0, 0, 10, 0),
  (20, .invokestatic 233, 3, 59, 105, 0, 0, 973),
  (23, .aload_n 0, 1, 6, 0, 0, 0, 0),
  (24, .getfield 25, 3, 42, 6, 5, 0, 636),
  (27, .aload_n 0, 1, 6, 0, 0, 0, 0),
  (28, .getfield 13, 3, 42, 6, 1, 0, 632),
  (31, .sipush 7200, 3, 1, 0, 0, 7200, 0),
  (34, .invokestatic 233, 3, 59, 105, 0, 0, 973),
  (37, .aload_n 0, 1, 6, 0, 0, 0, 0),
  (38, .getfield 28, 3, 42, 6, 6, 0, 637),
  (41, .aload_n 0, 1, 6, 0, 0, 0, 0),
  (42, .getfield 16, 3, 42, 6, 2, 0, 633),
  (45, .sipush 7200, 3, 1, 0, 0, 7200, 0),
  (48, .invokestatic 233, 3, 59, 105, 0, 0, 973),
  (51, .aload_n 0, 1, 6, 0, 0, 0, 0),
  (52, .getfield 31, 3, 42, 6, 7, 0, 638),
  (55, .aload_n 0, 1, 6, 0, 0, 0, 0),
  (56, .getfield 19, 3, 42, 6, 3, 0, 634),
  (59, .sipush 7200, 3, 1, 0, 0, 7200, 0),
  (62, .invokestatic 233, 3, 59, 105, 0, 0, 973),
  (65, .aload_n 0, 1, 6, 0, 0, 0, 0),
  (66, .iconst 0, 1, 1, 0, 0, 0, 0),
  (67, .putfield 154, 3, 43, 6, 15, 0, 646),
  (70, .aload_n 0, 1, 6, 0, 0, 0, 0),
  (71, .iconst 0, 1, 1, 0, 0, 0, 0),
  (72, .invokevirtual 240, 3, 58, 157, 0, 0, 976),
  (75, .ireturn, 1, 63, 0, 0, 0, 0)]
def vC_168 : List vent := vC_168_0
def vC_169_0 : List vent := [(0, .iload_n 0, 1, 4, 0, 0, 0, 0),
  (1, .iload_n 0, 1, 4, 0, 0, 0, 0),
  (2, .iconst 1, 1, 1, 0, 0, 1, 0),
  (3, .iushr, 1, 21, 0, 0, 0, 0),
  (4, .ldc_w 265, 3, 1, 0, 0, 1431655765, 530),
  (7, .iand, 1, 17, 0, 0, 0, 0),
  (8, .isub, 1, 12, 0, 0, 0, 0),
  (9, .istore_n 0, 1, 7, 0, 0, 0, 0),
  (10, .iload_n 0, 1, 4, 0, 0, 0, 0),
  (11, .ldc_w 266, 3, 1, 0, 0, 858993459, 531),
  (14, .iand, 1, 17, 0, 0, 0, 0),
  (15, .iload_n 0, 1, 4, 0, 0, 0, 0),
  (16, .iconst 2, 1, 1, 0, 0, 2, 0),
  (17, .iushr, 1, 21, 0, 0, 0, 0),
  (18, .ldc_w 266, 3, 1, 0, 0, 858993459, 531),
  (21, .iand, 1, 17, 0, 0, 0, 0),
  (22, .iadd, 1, 11, 0, 0, 0, 0),
  (23, .istore_n 0, 1, 7, 0, 0, 0, 0),
  (24, .iload_n 0, 1, 4, 0, 0, 0, 0),
  (25, .iload_n 0, 1, 4, 0, 0, 0, 0),
  (26, .iconst 4, 1, 1, 0, 0, 4, 0),
  (27, .iushr, 1, 21, 0, 0, 0, 0),
  (28, .iadd, 1, 11, 0, 0, 0, 0),
  (29, .ldc_w 267, 3, 1, 0, 0, 252645135, 532),
  (32, .iand, 1, 17, 0, 0, 0, 0),
  (33, .istore_n 0, 1, 7, 0, 0, 0, 0),
  (34, .iload_n 0, 1, 4, 0, 0, 0, 0),
  (35, .iload_n 0, 1, 4, 0, 0, 0, 0),
  (36, .bipush 8, 2, 1, 0, 0, 8, 0),
  (38, .iushr, 1, 21, 0, 0, 0, 0),
  (39, .iadd, 1, 11, 0, 0, 0, 0),
  (40, .istore_n 0, 1, 7, 0, 0, 0, 0),
  (41, .iload_n 0, 1, 4, 0, 0, 0, 0),
  (42, .iload_n 0, 1, 4, 0, 0, 0, 0),
  (43, .bipush 16, 2, 1, 0, 0, 16, 0),
  (45, .iushr, 1, 21, 0, 0, 0, 0),
  (46, .iadd, 1, 11, 0, 0, 0, 0),
  (47, .istore_n 0, 1, 7, 0, 0, 0, 0),
  (48, .iload_n 0, 1, 4, 0, 0, 0, 0),
  (49, .bipush 63, 2, 1, 0, 0, 63, 0),
  (51, .iand, 1, 17, 0, 0, 0, 0),
  (52, .ireturn, 1, 63, 0, 0, 0, 0)]
def vC_169 : List vent := vC_169_0
def vC_170_0 : List vent := [(0, .lload_n 0, 1, 5, 0, 0, 0, 0),
  (1, .lload_n 0, 1, 5, 0, 0, 0, 0),
  (2, .iconst 1, 1, 1, 0, 0, 1, 0),
  (3, .lushr, 1, 30, 0, 0, 0, 0),
  (4, .ldc2_w 314, 3, 2, 0, 0, 6148914691236517205, 396),
  (7, .land, 1, 25, 0, 0, 0, 0),
  (8, .lsub, 1, 23, 0, 0, 0, 0),
  (9, .lstore_n 0, 1, 8, 0, 0, 0, 0),
  (10, .lload_n 0, 1, 5, 0, 0, 0, 0),
  (11, .ldc2_w 316, 3, 2, 0, 0, 3689348814741910323, 397),
  (14, .land, 1, 25, 0, 0, 0, 0),
  (15, .lload_n 0, 1, 5, 0, 0, 0, 0),
  (16, .iconst 2, 1, 1, 0, 0, 2, 0),
  (17, .lushr, 1, 30, 0, 0, 0, 0),
  (18, .ldc2_w 316, 3, 2, 0, 0, 3689348814741910323, 397),
  (21, .land, 1, 25, 0, 0, 0, 0),
  (22, .ladd, 1, 22, 0, 0, 0, 0),
  (23, .lstore_n 0, 1, 8, 0, 0, 0, 0),
  (24, .lload_n 0, 1, 5, 0, 0, 0, 0),
  (25, .lload_n 0, 1, 5, 0, 0, 0, 0),
  (26, .iconst 4, 1, 1, 0, 0, 4, 0),
  (27, .lushr, 1, 30, 0, 0, 0, 0),
  (28, .ladd, 1, 22, 0, 0, 0, 0),
  (29, .ldc2_w 318, 3, 2, 0, 0, 1085102592571150095, 398),
  (32, .land, 1, 25, 0, 0, 0, 0),
  (33, .lstore_n 0, 1, 8, 0, 0, 0, 0),
  (34, .lload_n 0, 1, 5, 0, 0, 0, 0),
  (35, .lload_n 0, 1, 5, 0, 0, 0, 0),
  (36, .bipush 8, 2, 1, 0, 0, 8, 0),
  (38, .lushr, 1, 30, 0, 0, 0, 0),
  (39, .ladd, 1, 22, 0, 0, 0, 0),
  (40, .lstore_n 0, 1, 8, 0, 0, 0, 0),
  (41, .lload_n 0, 1, 5, 0, 0, 0, 0),
  (42, .lload_n 0, 1, 5, 0, 0, 0, 0),
  (43, .bipush 16, 2, 1, 0, 0, 16, 0),
  (45, .lushr, 1, 30, 0, 0, 0, 0),
  (46, .ladd, 1, 22, 0, 0, 0, 0),
  (47, .lstore_n 0, 1, 8, 0, 0, 0, 0),
  (48, .lload_n 0, 1, 5, 0, 0, 0, 0),
  (49, .lload_n 0, 1, 5, 0, 0, 0, 0),
  (50, .bipush 32, 2, 1, 0, 0, 32, 0),
  (52, .lushr, 1, 30, 0, 0, 0, 0),
  (53, .ladd, 1, 22, 0, 0, 0, 0),
  (54, .lstore_n 0, 1, 8, 0, 0, 0, 0),
  (55, .lload_n 0, 1, 5, 0, 0, 0, 0),
  (56, .l2i, 1, 33, 0, 0, 0, 0),
  (57, .bipush 127, 2, 1, 0, 0, 127, 0),
  (59, .iand, 1, 17, 0, 0, 0, 0),
  (60, .ireturn, 1, 63, 0, 0, 0, 0)]
def vC_170 : List vent := vC_170_0
def vC_171_0 : List vent := [(0, .new 7, 3, 54, 5, 7, 0, 60),
  (3, .dup, 1, 34, 0, 0, 0, 0),
  (4, .invokespecial 9, 3, 60, 54, 0, 0, 62),
  (7, .astore_n 1, 1, 9, 1, 0, 0, 0),
  (8, .new 10, 3, 54, 6, 25, 0, 624),
  (11, .dup, 1, 34, 0, 0, 0, 0),
  (12, .invokespecial 12, 3, 60, 101, 0, 0, 626),
  (15, .astore_n 2, 1, 9, 2, 0, 0, 0),
  (16, .iconst 0, 1, 1, 0, 0, 0, 0),
  (17, .istore_n 3, 1, 7, 3, 0, 0, 0),
  (18, .iload_n 3, 1, 4, 3, 0, 0, 0),
  (19, .aload_n 0, 1, 6, 0, 0, 0, 0),
  (20, .arraylength, 1, 53, 0, 0, 0, 0),
  (21, .bipush 6, 2, 1, 0, 0, 6, 0),
  (23, .isub, 1, 12, 0, 0, 0, 0),
  (24, .if_icmp .gt 1244, 3, 80, 1268, 0, 0, 0),
  (27, .aload_n 0, 1, 6, 0, 0, 0, 0),
  (28, .iload_n 3, 1, 4, 3, 0, 0, 0),
  (29, .iaload, 1, 45, 0, 0, 0, 0),
  (30, .bipush 31, 2, 1, 0, 0, 31, 0),
  (32, .iand, 1, 17, 0, 0, 0, 0),
  (33, .tableswitch 1229 0 31 #[143, 166, 179, 202, 225, 258, 291, 324, 357, 390, 423, 456, 499, 522, 545, 588, 621, 654, 687, 730, 773, 816, 869, 892, 925, 958, 1001, 1034, 1097, 1150, 1203, 1216], 143, 67, 6, 0, 0, 0),
  (176, .aload_n 1, 1, 6, 1, 0, 0, 0),
  (177, .aload_n 0, 1, 6, 0, 0, 0, 0),
  (178, .iload_n 3, 1, 4, 3, 0, 0, 0),
  (179, .iconst 1, 1, 1, 0, 0, 1, 0),
  (180, .iadd, 1, 11, 0, 0, 0, 0),
  (181, .iaload, 1, 45, 0, 0, 0, 0),
  (182, .invokevirtual 13, 3, 58, 55, 0, 0, 208),
  (185, .aload_n 2, 1, 6, 2, 0, 0, 0),
  (186, .aload_n 0, 1, 6, 0, 0, 0, 0),
  (187, .iload_n 3, 1, 4, 3, 0, 0, 0),
  (188, .iconst 1, 1, 1, 0, 0, 1, 0),
  (189, .iadd, 1, 11, 0, 0, 0, 0),
  (190, .iaload, 1, 45, 0, 0, 0, 0),
  (191, .invokevirtual 17, 3, 58, 108, 0, 0, 708),
  (194, .if_icmp .eq 1068, 3, 76, 1262, 0, 0, 0),
  (197, .iconst 0, 1, 1, 0, 0, 0, 0),
  (198, .ireturn, 1, 63, 1, 0, 0, 0),
  (199, .aload_n 1, 1, 6, 1, 0, 0, 0),
  (200, .invokevirtual 18, 3, 58, 56, 0, 0, 216),
  (203, .aload_n 2, 1, 6, 2, 0, 0, 0),
  (204, .invokevirtual 22, 3, 58, 109, 0, 0, 716),
  (207, .if_icmp .eq 1055, 3, 76, 1262, 0, 0, 0),
  (210, .iconst 0, 1, 1, 0, 0, 0, 0),
  (211, .ireturn, 1, 63, 1, 0, 0, 0),
  (212, .aload_n 1, 1, 6, 1, 0, 0, 0),
  (213, .aload_n 0, 1, 6, 0, 0, 0, 0),
  (214, .iload_n 3, 1, 4, 3, 0, 0, 0),
  (215, .iconst 1, 1, 1, 0, 0, 1, 0),
  (216, .iadd, 1, 11, 0, 0, 0, 0),
  (217, .iaload, 1, 45, 0, 0, 0, 0),
  (218, .invokevirtual 23, 3, 58, 57, 0, 0, 224),
  (221, .aload_n 2, 1, 6, 2, 0, 0, 0),
  (222, .aload_n 0, 1, 6, 0, 0, 0, 0),
  (223, .iload_n 3, 1, 4, 3, 0, 0, 0),
  (224, .iconst 1, 1, 1, 0, 0, 1, 0),
  (225, .iadd, 1, 11, 0, 0, 0, 0),
  (226, .iaload, 1, 45, 0, 0, 0, 0),
  (227, .invokevirtual 26, 3, 58, 126, 0, 0, 720),
  (230, .if_icmp .eq 1032, 3, 76, 1262, 0, 0, 0),
  (233, .iconst 0, 1, 1, 0, 0, 0, 0),
  (234, .ireturn, 1, 63, 1, 0, 0, 0),
  (235, .aload_n 1, 1, 6, 1, 0, 0, 0),
  (236, .aload_n 0, 1, 6, 0, 0, 0, 0),
  (237, .iload_n 3, 1, 4, 3, 0, 0, 0),
  (238, .iconst 1, 1, 1, 0, 0, 1, 0),
  (239, .iadd, 1, 11, 0, 0, 0, 0),
  (240, .iaload, 1, 45, 0, 0, 0, 0),
  (241, .invokevirtual 27, 3, 58, 58, 0, 0, 399),
  (244, .aload_n 2, 1, 6, 2, 0, 0, 0),
  (245, .aload_n 0, 1, 6, 0, 0, 0, 0),
  (246, .iload_n 3, 1, 4, 3, 0, 0, 0),
  (247, .iconst 1, 1, 1, 0, 0, 1, 0),
  (248, .iadd, 1, 11, 0, 0, 0, 0),
  (249, .iaload, 1, 45, 0, 0, 0, 0),
  (250, .invokevirtual 30, 3, 58, 127, 0, 0, 810),
  (253, .if_icmp .eq 1009, 3, 76, 1262, 0, 0, 0),
  (256, .iconst 0, 1, 1, 0, 0, 0, 0),
  (257, .ireturn, 1, 63, 1, 0, 0, 0),
  (258, .aload_n 1, 1, 6, 1, 0, 0, 0),
  (259, .aload_n 0, 1, 6, 0, 0, 0, 0),
  (260, .iload_n 3, 1, 4, 3, 0, 0, 0),
  (261, .iconst 1, 1, 1, 0, 0, 1, 0),
  (262, .iadd, 1, 11, 0, 0, 0, 0),
  (263, .iaload, 1, 45, 0, 0, 0, 0),
  (264, .aload_n 0, 1, 6, 0, 0, 0, 0),
  (265, .iload_n 3, 1, 4, 3, 0, 0, 0),
  (266, .iconst 2, 1, 1, 0, 0, 2, 0),
  (267, .iadd, 1, 11, 0, 0, 0, 0),
  (268, .iaload, 1, 45, 0, 0, 0, 0),
  (269, .invokevirtual 31, 3, 58, 59, 0, 0, 408),
  (272, .aload_n 2, 1, 6, 2, 0, 0, 0),
  (273, .aload_n 0, 1, 6, 0, 0, 0, 0),
  (274, .iload_n 3, 1, 4, 3, 0, 0, 0),
  (275, .iconst 1, 1, 1, 0, 0, 1, 0),
  (276, .iadd, 1, 11, 0, 0, 0, 0),
  (277, .iaload, 1, 45, 0, 0, 0, 0),
  (278, .aload_n 0, 1, 6, 0, 0, 0, 0),
  (279, .iload_n 3, 1, 4, 3, 0, 0, 0),
  (280, .iconst 2, 1, 1, 0, 0, 2, 0),
  (281, .iadd, 1, 11, 0, 0, 0, 0),
  (282, .iaload, 1, 45, 0, 0, 0, 0),
  (283, .invokevirtual 35, 3, 58, 128, 0, 0, 814),
  (286, .if_icmp .eq 976, 3, 76, 1262, 0, 0, 0),
  (289, .iconst 0, 1, 1, 0, 0, 0, 0),
  (290, .ireturn, 1, 63, 1, 0, 0, 0),
  (291, .aload_n 1, 1, 6, 1, 0, 0, 0),
  (292, .aload_n 0, 1, 6, 0, 0, 0, 0),
  (293, .iload_n 3, 1, 4, 3, 0, 0, 0),
  (294, .iconst 1, 1, 1, 0, 0, 1, 0),
  (295, .iadd, 1, 11, 0, 0, 0, 0),
  (296, .iaload, 1, 45, 0, 0, 0, 0),
  (297, .aload_n 0, 1, 6, 0, 0, 0, 0),
  (298, .iload_n 3, 1, 4, 3, 0, 0, 0),
  (299, .iconst 2, 1, 1, 0, 0, 2, 0),
  (300, .iadd, 1, 11, 0, 0, 0, 0),
  (301, .iaload, 1, 45, 0, 0, 0, 0),
  (302, .invokevirtual 36, 3, 58, 60, 0, 0, 412),
  (305, .aload_n 2, 1, 6, 2, 0, 0, 0)]
def vC_171_1 : List vent := [(306, .aload_n 0, 1, 6, 0, 0, 0, 0),
  (307, .iload_n 3, 1, 4, 3, 0, 0, 0),
  (308, .iconst 1, 1, 1, 0, 0, 1, 0),
  (309, .iadd, 1, 11, 0, 0, 0, 0),
  (310, .iaload, 1, 45, 0, 0, 0, 0),
  (311, .aload_n 0, 1, 6, 0, 0, 0, 0),
  (312, .iload_n 3, 1, 4, 3, 0, 0, 0),
  (313, .iconst 2, 1, 1, 0, 0, 2, 0),
  (314, .iadd, 1, 11, 0, 0, 0, 0),
  (315, .iaload, 1, 45, 0, 0, 0, 0),
  (316, .invokevirtual 39, 3, 58, 130, 0, 0, 818),
  (319, .if_icmp .eq 943, 3, 76, 1262, 0, 0, 0),
  (322, .iconst 0, 1, 1, 0, 0, 0, 0),
  (323, .ireturn, 1, 63, 1, 0, 0, 0),
  (324, .aload_n 1, 1, 6, 1, 0, 0, 0),
  (325, .aload_n 0, 1, 6, 0, 0, 0, 0),
  (326, .iload_n 3, 1, 4, 3, 0, 0, 0),
  (327, .iconst 1, 1, 1, 0, 0, 1, 0),
  (328, .iadd, 1, 11, 0, 0, 0, 0),
  (329, .iaload, 1, 45, 0, 0, 0, 0),
  (330, .aload_n 0, 1, 6, 0, 0, 0, 0),
  (331, .iload_n 3, 1, 4, 3, 0, 0, 0),
  (332, .iconst 2, 1, 1, 0, 0, 2, 0),
  (333, .iadd, 1, 11, 0, 0, 0, 0),
  (334, .iaload, 1, 45, 0, 0, 0, 0),
  (335, .invokevirtual 40, 3, 58, 61, 0, 0, 425),
  (338, .aload_n 2, 1, 6, 2, 0, 0, 0),
  (339, .aload_n 0, 1, 6, 0, 0, 0, 0),
  (340, .iload_n 3, 1, 4, 3, 0, 0, 0),
  (341, .iconst 1, 1, 1, 0, 0, 1, 0),
  (342, .iadd, 1, 11, 0, 0, 0, 0),
  (343, .iaload, 1, 45, 0, 0, 0, 0),
  (344, .aload_n 0, 1, 6, 0, 0, 0, 0),
  (345, .iload_n 3, 1, 4, 3, 0, 0, 0),
  (346, .iconst 2, 1, 1, 0, 0, 2, 0),
  (347, .iadd, 1, 11, 0, 0, 0, 0),
  (348, .iaload, 1, 45, 0, 0, 0, 0),
  (349, .invokevirtual 43, 3, 58, 131, 0, 0, 826),
  (352, .if_icmp .eq 910, 3, 76, 1262, 0, 0, 0),
  (355, .iconst 0, 1, 1, 0, 0, 0, 0),
  (356, .ireturn, 1, 63, 1, 0, 0, 0),
  (357, .aload_n 1, 1, 6, 1, 0, 0, 0),
  (358, .aload_n 0, 1, 6, 0, 0, 0, 0),
  (359, .iload_n 3, 1, 4, 3, 0, 0, 0),
  (360, .iconst 1, 1, 1, 0, 0, 1, 0),
  (361, .iadd, 1, 11, 0, 0, 0, 0),
  (362, .iaload, 1, 45, 0, 0, 0, 0),
  (363, .aload_n 0, 1, 6, 0, 0, 0, 0),
  (364, .iload_n 3, 1, 4, 3, 0, 0, 0),
  (365, .iconst 2, 1, 1, 0, 0, 2, 0),
  (366, .iadd, 1, 11, 0, 0, 0, 0),
  (367, .iaload, 1, 45, 0, 0, 0, 0),
  (368, .invokevirtual 44, 3, 58, 62, 0, 0, 429),
  (371, .aload_n 2, 1, 6, 2, 0, 0, 0),
  (372, .aload_n 0, 1, 6, 0, 0, 0, 0),
  (373, .iload_n 3, 1, 4, 3, 0, 0, 0),
  (374, .iconst 1, 1, 1, 0, 0, 1, 0),
  (375, .iadd, 1, 11, 0, 0, 0, 0),
  (376, .iaload, 1, 45, 0, 0, 0, 0),
  (377, .aload_n 0, 1, 6, 0, 0, 0, 0),
  (378, .iload_n 3, 1, 4, 3, 0, 0, 0),
  (379, .iconst 2, 1, 1, 0, 0, 2, 0),
  (380, .iadd, 1, 11, 0, 0, 0, 0),
  (381, .iaload, 1, 45, 0, 0, 0, 0),
  (382, .invokevirtual 47, 3, 58, 133, 0, 0, 830),
  (385, .if_icmp .eq 877, 3, 76, 1262, 0, 0, 0),
  (388, .iconst 0, 1, 1, 0, 0, 0, 0),
  (389, .ireturn, 1, 63, 1, 0, 0, 0),
  (390, .aload_n 1, 1, 6, 1, 0, 0, 0),
  (391, .aload_n 0, 1, 6, 0, 0, 0, 0),
  (392, .iload_n 3, 1, 4, 3, 0, 0, 0),
  (393, .iconst 1, 1, 1, 0, 0, 1, 0),
  (394, .iadd, 1, 11, 0, 0, 0, 0),
  (395, .iaload, 1, 45, 0, 0, 0, 0),
  (396, .aload_n 0, 1, 6, 0, 0, 0, 0),
  (397, .iload_n 3, 1, 4, 3, 0, 0, 0),
  (398, .iconst 2, 1, 1, 0, 0, 2, 0),
  (399, .iadd, 1, 11, 0, 0, 0, 0),
  (400, .iaload, 1, 45, 0, 0, 0, 0),
  (401, .invokevirtual 48, 3, 58, 63, 0, 0, 433),
  (404, .aload_n 2, 1, 6, 2, 0, 0, 0),
  (405, .aload_n 0, 1, 6, 0, 0, 0, 0),
  (406, .iload_n 3, 1, 4, 3, 0, 0, 0),
  (407, .iconst 1, 1, 1, 0, 0, 1, 0),
  (408, .iadd, 1, 11, 0, 0, 0, 0),
  (409, .iaload, 1, 45, 0, 0, 0, 0),
  (410, .aload_n 0, 1, 6, 0, 0, 0, 0),
  (411, .iload_n 3, 1, 4, 3, 0, 0, 0),
  (412, .iconst 2, 1, 1, 0, 0, 2, 0),
  (413, .iadd, 1, 11, 0, 0, 0, 0),
  (414, .iaload, 1, 45, 0, 0, 0, 0),
  (415, .invokevirtual 51, 3, 58, 135, 0, 0, 837),
  (418, .if_icmp .eq 844, 3, 76, 1262, 0, 0, 0),
  (421, .iconst 0, 1, 1, 0, 0, 0, 0),
  (422, .ireturn, 1, 63, 1, 0, 0, 0),
  (423, .aload_n 1, 1, 6, 1, 0, 0, 0),
  (424, .aload_n 0, 1, 6, 0, 0, 0, 0),
  (425, .iload_n 3, 1, 4, 3, 0, 0, 0),
  (426, .iconst 1, 1, 1, 0, 0, 1, 0),
  (427, .iadd, 1, 11, 0, 0, 0, 0),
  (428, .iaload, 1, 45, 0, 0, 0, 0),
  (429, .aload_n 0, 1, 6, 0, 0, 0, 0),
  (430, .iload_n 3, 1, 4, 3, 0, 0, 0),
  (431, .iconst 2, 1, 1, 0, 0, 2, 0),
  (432, .iadd, 1, 11, 0, 0, 0, 0),
  (433, .iaload, 1, 45, 0, 0, 0, 0),
  (434, .invokevirtual 52, 3, 58, 64, 0, 0, 438),
  (437, .aload_n 2, 1, 6, 2, 0, 0, 0),
  (438, .aload_n 0, 1, 6, 0, 0, 0, 0),
  (439, .iload_n 3, 1, 4, 3, 0, 0, 0),
  (440, .iconst 1, 1, 1, 0, 0, 1, 0),
  (441, .iadd, 1, 11, 0, 0, 0, 0),
  (442, .iaload, 1, 45, 0, 0, 0, 0),
  (443, .aload_n 0, 1, 6, 0, 0, 0, 0),
  (444, .iload_n 3, 1, 4, 3, 0, 0, 0),
  (445, .iconst 2, 1, 1, 0, 0, 2, 0),
  (446, .iadd, 1, 11, 0, 0, 0, 0),
  (447, .iaload, 1, 45, 0, 0, 0, 0),
  (448, .invokevirtual 55, 3, 58, 136, 0, 0, 845),
  (451, .if_icmp .eq 811, 3, 76, 1262, 0, 0, 0)]
def vC_171_2 : List vent := [(454, .iconst 0, 1, 1, 0, 0, 0, 0),
  (455, .ireturn, 1, 63, 1, 0, 0, 0),
  (456, .aload_n 1, 1, 6, 1, 0, 0, 0),
  (457, .aload_n 0, 1, 6, 0, 0, 0, 0),
  (458, .iload_n 3, 1, 4, 3, 0, 0, 0),
  (459, .iconst 1, 1, 1, 0, 0, 1, 0),
  (460, .iadd, 1, 11, 0, 0, 0, 0),
  (461, .iaload, 1, 45, 0, 0, 0, 0),
  (462, .aload_n 0, 1, 6, 0, 0, 0, 0),
  (463, .iload_n 3, 1, 4, 3, 0, 0, 0),
  (464, .iconst 2, 1, 1, 0, 0, 2, 0),
  (465, .iadd, 1, 11, 0, 0, 0, 0),
  (466, .iaload, 1, 45, 0, 0, 0, 0),
  (467, .invokevirtual 56, 3, 58, 65, 0, 0, 442),
  (470, .aload_n 2, 1, 6, 2, 0, 0, 0),
  (471, .aload_n 0, 1, 6, 0, 0, 0, 0),
  (472, .iload_n 3, 1, 4, 3, 0, 0, 0),
  (473, .iconst 1, 1, 1, 0, 0, 1, 0),
  (474, .iadd, 1, 11, 0, 0, 0, 0),
  (475, .iaload, 1, 45, 0, 0, 0, 0),
  (476, .aload_n 0, 1, 6, 0, 0, 0, 0),
  (477, .iload_n 3, 1, 4, 3, 0, 0, 0),
  (478, .iconst 2, 1, 1, 0, 0, 2, 0),
  (479, .iadd, 1, 11, 0, 0, 0, 0),
  (480, .iaload, 1, 45, 0, 0, 0, 0),
  (481, .invokevirtual 59, 3, 58, 138, 0, 0, 849),
  (484, .if_icmp .eq 778, 3, 76, 1262, 0, 0, 0),
  (487, .iconst 0, 1, 1, 0, 0, 0, 0),
  (488, .ireturn, 1, 63, 1, 0, 0, 0),
  (489, .aload_n 1, 1, 6, 1, 0, 0, 0),
  (490, .aload_n 0, 1, 6, 0, 0, 0, 0),
  (491, .iload_n 3, 1, 4, 3, 0, 0, 0),
  (492, .iconst 1, 1, 1, 0, 0, 1, 0),
  (493, .iadd, 1, 11, 0, 0, 0, 0),
  (494, .iaload, 1, 45, 0, 0, 0, 0),
  (495, .aload_n 0, 1, 6, 0, 0, 0, 0),
  (496, .iload_n 3, 1, 4, 3, 0, 0, 0),
  (497, .iconst 2, 1, 1, 0, 0, 2, 0),
  (498, .iadd, 1, 11, 0, 0, 0, 0),
  (499, .iaload, 1, 45, 0, 0, 0, 0),
  (500, .aload_n 0, 1, 6, 0, 0, 0, 0),
  (501, .iload_n 3, 1, 4, 3, 0, 0, 0),
  (502, .iconst 3, 1, 1, 0, 0, 3, 0),
  (503, .iadd, 1, 11, 0, 0, 0, 0),
  (504, .iaload, 1, 45, 0, 0, 0, 0),
  (505, .invokevirtual 60, 3, 58, 66, 0, 0, 446),
  (508, .aload_n 2, 1, 6, 2, 0, 0, 0),
  (509, .aload_n 0, 1, 6, 0, 0, 0, 0),
  (510, .iload_n 3, 1, 4, 3, 0, 0, 0),
  (511, .iconst 1, 1, 1, 0, 0, 1, 0),
  (512, .iadd, 1, 11, 0, 0, 0, 0),
  (513, .iaload, 1, 45, 0, 0, 0, 0),
  (514, .aload_n 0, 1, 6, 0, 0, 0, 0),
  (515, .iload_n 3, 1, 4, 3, 0, 0, 0),
  (516, .iconst 2, 1, 1, 0, 0, 2, 0),
  (517, .iadd, 1, 11, 0, 0, 0, 0),
  (518, .iaload, 1, 45, 0, 0, 0, 0),
  (519, .aload_n 0, 1, 6, 0, 0, 0, 0),
  (520, .iload_n 3, 1, 4, 3, 0, 0, 0),
  (521, .iconst 3, 1, 1, 0, 0, 3, 0),
  (522, .iadd, 1, 11, 0, 0, 0, 0),
  (523, .iaload, 1, 45, 0, 0, 0, 0),
  (524, .invokevirtual 64, 3, 58, 141, 0, 0, 861),
  (527, .if_icmp .eq 735, 3, 76, 1262, 0, 0, 0),
  (530, .iconst 0, 1, 1, 0, 0, 0, 0),
  (531, .ireturn, 1, 63, 1, 0, 0, 0),
  (532, .aload_n 1, 1, 6, 1, 0, 0, 0),
  (533, .aload_n 0, 1, 6, 0, 0, 0, 0),
  (534, .iload_n 3, 1, 4, 3, 0, 0, 0),
  (535, .iconst 1, 1, 1, 0, 0, 1, 0),
  (536, .iadd, 1, 11, 0, 0, 0, 0),
  (537, .iaload, 1, 45, 0, 0, 0, 0),
  (538, .invokevirtual 65, 3, 58, 67, 0, 0, 473),
  (541, .aload_n 2, 1, 6, 2, 0, 0, 0),
  (542, .aload_n 0, 1, 6, 0, 0, 0, 0),
  (543, .iload_n 3, 1, 4, 3, 0, 0, 0),
  (544, .iconst 1, 1, 1, 0, 0, 1, 0),
  (545, .iadd, 1, 11, 0, 0, 0, 0),
  (546, .iaload, 1, 45, 0, 0, 0, 0),
  (547, .invokevirtual 68, 3, 58, 142, 0, 0, 865),
  (550, .if_icmp .eq 712, 3, 76, 1262, 0, 0, 0),
  (553, .iconst 0, 1, 1, 0, 0, 0, 0),
  (554, .ireturn, 1, 63, 1, 0, 0, 0),
  (555, .aload_n 1, 1, 6, 1, 0, 0, 0),
  (556, .aload_n 0, 1, 6, 0, 0, 0, 0),
  (557, .iload_n 3, 1, 4, 3, 0, 0, 0),
  (558, .iconst 1, 1, 1, 0, 0, 1, 0),
  (559, .iadd, 1, 11, 0, 0, 0, 0),
  (560, .iaload, 1, 45, 0, 0, 0, 0),
  (561, .invokevirtual 69, 3, 58, 68, 0, 0, 480),
  (564, .aload_n 2, 1, 6, 2, 0, 0, 0),
  (565, .aload_n 0, 1, 6, 0, 0, 0, 0),
  (566, .iload_n 3, 1, 4, 3, 0, 0, 0),
  (567, .iconst 1, 1, 1, 0, 0, 1, 0),
  (568, .iadd, 1, 11, 0, 0, 0, 0),
  (569, .iaload, 1, 45, 0, 0, 0, 0),
  (570, .invokevirtual 72, 3, 58, 143, 0, 0, 870),
  (573, .if_icmp .eq 689, 3, 76, 1262, 0, 0, 0),
  (576, .iconst 0, 1, 1, 0, 0, 0, 0),
  (577, .ireturn, 1, 63, 1, 0, 0, 0),
  (578, .aload_n 1, 1, 6, 1, 0, 0, 0),
  (579, .aload_n 0, 1, 6, 0, 0, 0, 0),
  (580, .iload_n 3, 1, 4, 3, 0, 0, 0),
  (581, .iconst 1, 1, 1, 0, 0, 1, 0),
  (582, .iadd, 1, 11, 0, 0, 0, 0),
  (583, .iaload, 1, 45, 0, 0, 0, 0),
  (584, .aload_n 0, 1, 6, 0, 0, 0, 0),
  (585, .iload_n 3, 1, 4, 3, 0, 0, 0),
  (586, .iconst 2, 1, 1, 0, 0, 2, 0),
  (587, .iadd, 1, 11, 0, 0, 0, 0),
  (588, .iaload, 1, 45, 0, 0, 0, 0),
  (589, .aload_n 0, 1, 6, 0, 0, 0, 0),
  (590, .iload_n 3, 1, 4, 3, 0, 0, 0),
  (591, .iconst 3, 1, 1, 0, 0, 3, 0),
  (592, .iadd, 1, 11, 0, 0, 0, 0),
  (593, .iaload, 1, 45, 0, 0, 0, 0),
  (594, .invokevirtual 73, 3, 58, 69, 0, 0, 494),
  (597, .aload_n 2, 1, 6, 2, 0, 0, 0),
  (598, .aload_n 0, 1, 6, 0, 0, 0, 0),
  (599, .iload_n 3, 1, 4, 3, 0, 0, 0)]
def vC_171_3 : List vent := [(600, .iconst 1, 1, 1, 0, 0, 1, 0),
  (601, .iadd, 1, 11, 0, 0, 0, 0),
  (602, .iaload, 1, 45, 0, 0, 0, 0),
  (603, .aload_n 0, 1, 6, 0, 0, 0, 0),
  (604, .iload_n 3, 1, 4, 3, 0, 0, 0),
  (605, .iconst 2, 1, 1, 0, 0, 2, 0),
  (606, .iadd, 1, 11, 0, 0, 0, 0),
  (607, .iaload, 1, 45, 0, 0, 0, 0),
  (608, .aload_n 0, 1, 6, 0, 0, 0, 0),
  (609, .iload_n 3, 1, 4, 3, 0, 0, 0),
  (610, .iconst 3, 1, 1, 0, 0, 3, 0),
  (611, .iadd, 1, 11, 0, 0, 0, 0),
  (612, .iaload, 1, 45, 0, 0, 0, 0),
  (613, .invokevirtual 76, 3, 58, 144, 0, 0, 874),
  (616, .if_icmp .eq 646, 3, 76, 1262, 0, 0, 0),
  (619, .iconst 0, 1, 1, 0, 0, 0, 0),
  (620, .ireturn, 1, 63, 1, 0, 0, 0),
  (621, .aload_n 1, 1, 6, 1, 0, 0, 0),
  (622, .aload_n 0, 1, 6, 0, 0, 0, 0),
  (623, .iload_n 3, 1, 4, 3, 0, 0, 0),
  (624, .iconst 1, 1, 1, 0, 0, 1, 0),
  (625, .iadd, 1, 11, 0, 0, 0, 0),
  (626, .iaload, 1, 45, 0, 0, 0, 0),
  (627, .aload_n 0, 1, 6, 0, 0, 0, 0),
  (628, .iload_n 3, 1, 4, 3, 0, 0, 0),
  (629, .iconst 2, 1, 1, 0, 0, 2, 0),
  (630, .iadd, 1, 11, 0, 0, 0, 0),
  (631, .iaload, 1, 45, 0, 0, 0, 0),
  (632, .invokevirtual 77, 3, 58, 70, 0, 0, 498),
  (635, .aload_n 2, 1, 6, 2, 0, 0, 0),
  (636, .aload_n 0, 1, 6, 0, 0, 0, 0),
  (637, .iload_n 3, 1, 4, 3, 0, 0, 0),
  (638, .iconst 1, 1, 1, 0, 0, 1, 0),
  (639, .iadd, 1, 11, 0, 0, 0, 0),
  (640, .iaload, 1, 45, 0, 0, 0, 0),
  (641, .aload_n 0, 1, 6, 0, 0, 0, 0),
  (642, .iload_n 3, 1, 4, 3, 0, 0, 0),
  (643, .iconst 2, 1, 1, 0, 0, 2, 0),
  (644, .iadd, 1, 11, 0, 0, 0, 0),
  (645, .iaload, 1, 45, 0, 0, 0, 0),
  (646, .invokevirtual 80, 3, 58, 145, 0, 0, 878),
  (649, .if_icmp .eq 613, 3, 76, 1262, 0, 0, 0),
  (652, .iconst 0, 1, 1, 0, 0, 0, 0),
  (653, .ireturn, 1, 63, 1, 0, 0, 0),
  (654, .aload_n 1, 1, 6, 1, 0, 0, 0),
  (655, .aload_n 0, 1, 6, 0, 0, 0, 0),
  (656, .iload_n 3, 1, 4, 3, 0, 0, 0),
  (657, .iconst 1, 1, 1, 0, 0, 1, 0),
  (658, .iadd, 1, 11, 0, 0, 0, 0),
  (659, .iaload, 1, 45, 0, 0, 0, 0),
  (660, .aload_n 0, 1, 6, 0, 0, 0, 0),
  (661, .iload_n 3, 1, 4, 3, 0, 0, 0),
  (662, .iconst 2, 1, 1, 0, 0, 2, 0),
  (663, .iadd, 1, 11, 0, 0, 0, 0),
  (664, .iaload, 1, 45, 0, 0, 0, 0),
  (665, .invokevirtual 81, 3, 58, 71, 0, 0, 502),
  (668, .aload_n 2, 1, 6, 2, 0, 0, 0),
  (669, .aload_n 0, 1, 6, 0, 0, 0, 0),
  (670, .iload_n 3, 1, 4, 3, 0, 0, 0),
  (671, .iconst 1, 1, 1, 0, 0, 1, 0),
  (672, .iadd, 1, 11, 0, 0, 0, 0),
  (673, .iaload, 1, 45, 0, 0, 0, 0),
  (674, .aload_n 0, 1, 6, 0, 0, 0, 0),
  (675, .iload_n 3, 1, 4, 3, 0, 0, 0),
  (676, .iconst 2, 1, 1, 0, 0, 2, 0),
  (677, .iadd, 1, 11, 0, 0, 0, 0),
  (678, .iaload, 1, 45, 0, 0, 0, 0),
  (679, .invokevirtual 84, 3, 58, 149, 0, 0, 882),
  (682, .if_icmp .eq 580, 3, 76, 1262, 0, 0, 0),
  (685, .iconst 0, 1, 1, 0, 0, 0, 0),
  (686, .ireturn, 1, 63, 1, 0, 0, 0),
  (687, .aload_n 1, 1, 6, 1, 0, 0, 0),
  (688, .aload_n 0, 1, 6, 0, 0, 0, 0),
  (689, .iload_n 3, 1, 4, 3, 0, 0, 0),
  (690, .iconst 1, 1, 1, 0, 0, 1, 0),
  (691, .iadd, 1, 11, 0, 0, 0, 0),
  (692, .iaload, 1, 45, 0, 0, 0, 0),
  (693, .aload_n 0, 1, 6, 0, 0, 0, 0),
  (694, .iload_n 3, 1, 4, 3, 0, 0, 0),
  (695, .iconst 2, 1, 1, 0, 0, 2, 0),
  (696, .iadd, 1, 11, 0, 0, 0, 0),
  (697, .iaload, 1, 45, 0, 0, 0, 0),
  (698, .invokevirtual 85, 3, 58, 72, 0, 0, 515),
  (701, .aload_n 2, 1, 6, 2, 0, 0, 0),
  (702, .aload_n 0, 1, 6, 0, 0, 0, 0),
  (703, .iload_n 3, 1, 4, 3, 0, 0, 0),
  (704, .iconst 1, 1, 1, 0, 0, 1, 0),
  (705, .iadd, 1, 11, 0, 0, 0, 0),
  (706, .iaload, 1, 45, 0, 0, 0, 0),
  (707, .aload_n 0, 1, 6, 0, 0, 0, 0),
  (708, .iload_n 3, 1, 4, 3, 0, 0, 0),
  (709, .iconst 2, 1, 1, 0, 0, 2, 0),
  (710, .iadd, 1, 11, 0, 0, 0, 0),
  (711, .iaload, 1, 45, 0, 0, 0, 0),
  (712, .invokevirtual 88, 3, 58, 150, 0, 0, 898),
  (715, .if_icmp .eq 547, 3, 76, 1262, 0, 0, 0),
  (718, .iconst 0, 1, 1, 0, 0, 0, 0),
  (719, .ireturn, 1, 63, 1, 0, 0, 0),
  (720, .aload_n 1, 1, 6, 1, 0, 0, 0),
  (721, .aload_n 0, 1, 6, 0, 0, 0, 0),
  (722, .iload_n 3, 1, 4, 3, 0, 0, 0),
  (723, .iconst 1, 1, 1, 0, 0, 1, 0),
  (724, .iadd, 1, 11, 0, 0, 0, 0),
  (725, .iaload, 1, 45, 0, 0, 0, 0),
  (726, .aload_n 0, 1, 6, 0, 0, 0, 0),
  (727, .iload_n 3, 1, 4, 3, 0, 0, 0),
  (728, .iconst 2, 1, 1, 0, 0, 2, 0),
  (729, .iadd, 1, 11, 0, 0, 0, 0),
  (730, .iaload, 1, 45, 0, 0, 0, 0),
  (731, .aload_n 0, 1, 6, 0, 0, 0, 0),
  (732, .iload_n 3, 1, 4, 3, 0, 0, 0),
  (733, .iconst 3, 1, 1, 0, 0, 3, 0),
  (734, .iadd, 1, 11, 0, 0, 0, 0),
  (735, .iaload, 1, 45, 0, 0, 0, 0),
  (736, .invokevirtual 89, 3, 58, 73, 0, 0, 523),
  (739, .aload_n 2, 1, 6, 2, 0, 0, 0),
  (740, .aload_n 0, 1, 6, 0, 0, 0, 0),
  (741, .iload_n 3, 1, 4, 3, 0, 0, 0),
  (742, .iconst 1, 1, 1, 0, 0, 1, 0),
  (743, .iadd, 1, 11, 0, 0, 0, 0)]
def vC_171_4 : List vent := [(744, .iaload, 1, 45, 0, 0, 0, 0),
  (745, .aload_n 0, 1, 6, 0, 0, 0, 0),
  (746, .iload_n 3, 1, 4, 3, 0, 0, 0),
  (747, .iconst 2, 1, 1, 0, 0, 2, 0),
  (748, .iadd, 1, 11, 0, 0, 0, 0),
  (749, .iaload, 1, 45, 0, 0, 0, 0),
  (750, .aload_n 0, 1, 6, 0, 0, 0, 0),
  (751, .iload_n 3, 1, 4, 3, 0, 0, 0),
  (752, .iconst 3, 1, 1, 0, 0, 3, 0),
  (753, .iadd, 1, 11, 0, 0, 0, 0),
  (754, .iaload, 1, 45, 0, 0, 0, 0),
  (755, .invokevirtual 92, 3, 58, 152, 0, 0, 902),
  (758, .if_icmp .eq 504, 3, 76, 1262, 0, 0, 0),
  (761, .iconst 0, 1, 1, 0, 0, 0, 0),
  (762, .ireturn, 1, 63, 1, 0, 0, 0),
  (763, .aload_n 1, 1, 6, 1, 0, 0, 0),
  (764, .aload_n 0, 1, 6, 0, 0, 0, 0),
  (765, .iload_n 3, 1, 4, 3, 0, 0, 0),
  (766, .iconst 1, 1, 1, 0, 0, 1, 0),
  (767, .iadd, 1, 11, 0, 0, 0, 0),
  (768, .iaload, 1, 45, 0, 0, 0, 0),
  (769, .aload_n 0, 1, 6, 0, 0, 0, 0),
  (770, .iload_n 3, 1, 4, 3, 0, 0, 0),
  (771, .iconst 2, 1, 1, 0, 0, 2, 0),
  (772, .iadd, 1, 11, 0, 0, 0, 0),
  (773, .iaload, 1, 45, 0, 0, 0, 0),
  (774, .aload_n 0, 1, 6, 0, 0, 0, 0),
  (775, .iload_n 3, 1, 4, 3, 0, 0, 0),
  (776, .iconst 3, 1, 1, 0, 0, 3, 0),
  (777, .iadd, 1, 11, 0, 0, 0, 0),
  (778, .iaload, 1, 45, 0, 0, 0, 0),
  (779, .invokevirtual 93, 3, 58, 74, 0, 0, 533),
  (782, .aload_n 2, 1, 6, 2, 0, 0, 0),
  (783, .aload_n 0, 1, 6, 0, 0, 0, 0),
  (784, .iload_n 3, 1, 4, 3, 0, 0, 0),
  (785, .iconst 1, 1, 1, 0, 0, 1, 0),
  (786, .iadd, 1, 11, 0, 0, 0, 0),
  (787, .iaload, 1, 45, 0, 0, 0, 0),
  (788, .aload_n 0, 1, 6, 0, 0, 0, 0),
  (789, .iload_n 3, 1, 4, 3, 0, 0, 0),
  (790, .iconst 2, 1, 1, 0, 0, 2, 0),
  (791, .iadd, 1, 11, 0, 0, 0, 0),
  (792, .iaload, 1, 45, 0, 0, 0, 0),
  (793, .aload_n 0, 1, 6, 0, 0, 0, 0),
  (794, .iload_n 3, 1, 4, 3, 0, 0, 0),
  (795, .iconst 3, 1, 1, 0, 0, 3, 0),
  (796, .iadd, 1, 11, 0, 0, 0, 0),
  (797, .iaload, 1, 45, 0, 0, 0, 0),
  (798, .invokevirtual 96, 3, 58, 153, 0, 0, 910),
  (801, .if_icmp .eq 461, 3, 76, 1262, 0, 0, 0),
  (804, .iconst 0, 1, 1, 0, 0, 0, 0),
  (805, .ireturn, 1, 63, 1, 0, 0, 0),
  (806, .aload_n 1, 1, 6, 1, 0, 0, 0),
  (807, .aload_n 0, 1, 6, 0, 0, 0, 0),
  (808, .iload_n 3, 1, 4, 3, 0, 0, 0),
  (809, .iconst 1, 1, 1, 0, 0, 1, 0),
  (810, .iadd, 1, 11, 0, 0, 0, 0),
  (811, .iaload, 1, 45, 0, 0, 0, 0),
  (812, .aload_n 0, 1, 6, 0, 0, 0, 0),
  (813, .iload_n 3, 1, 4, 3, 0, 0, 0),
  (814, .iconst 2, 1, 1, 0, 0, 2, 0),
  (815, .iadd, 1, 11, 0, 0, 0, 0),
  (816, .iaload, 1, 45, 0, 0, 0, 0),
  (817, .aload_n 0, 1, 6, 0, 0, 0, 0),
  (818, .iload_n 3, 1, 4, 3, 0, 0, 0),
  (819, .iconst 3, 1, 1, 0, 0, 3, 0),
  (820, .iadd, 1, 11, 0, 0, 0, 0),
  (821, .iaload, 1, 45, 0, 0, 0, 0),
  (822, .invokevirtual 97, 3, 58, 75, 0, 0, 537),
  (825, .aload_n 2, 1, 6, 2, 0, 0, 0),
  (826, .aload_n 0, 1, 6, 0, 0, 0, 0),
  (827, .iload_n 3, 1, 4, 3, 0, 0, 0),
  (828, .iconst 1, 1, 1, 0, 0, 1, 0),
  (829, .iadd, 1, 11, 0, 0, 0, 0),
  (830, .iaload, 1, 45, 0, 0, 0, 0),
  (831, .aload_n 0, 1, 6, 0, 0, 0, 0),
  (832, .iload_n 3, 1, 4, 3, 0, 0, 0),
  (833, .iconst 2, 1, 1, 0, 0, 2, 0),
  (834, .iadd, 1, 11, 0, 0, 0, 0),
  (835, .iaload, 1, 45, 0, 0, 0, 0),
  (836, .aload_n 0, 1, 6, 0, 0, 0, 0),
  (837, .iload_n 3, 1, 4, 3, 0, 0, 0),
  (838, .iconst 3, 1, 1, 0, 0, 3, 0),
  (839, .iadd, 1, 11, 0, 0, 0, 0),
  (840, .iaload, 1, 45, 0, 0, 0, 0),
  (841, .invokevirtual 100, 3, 58, 155, 0, 0, 915),
  (844, .if_icmp .eq 418, 3, 76, 1262, 0, 0, 0),
  (847, .iconst 0, 1, 1, 0, 0, 0, 0),
  (848, .ireturn, 1, 63, 1, 0, 0, 0),
  (849, .aload_n 1, 1, 6, 1, 0, 0, 0),
  (850, .aload_n 0, 1, 6, 0, 0, 0, 0),
  (851, .iload_n 3, 1, 4, 3, 0, 0, 0),
  (852, .iconst 1, 1, 1, 0, 0, 1, 0),
  (853, .iadd, 1, 11, 0, 0, 0, 0),
  (854, .iaload, 1, 45, 0, 0, 0, 0),
  (855, .aload_n 0, 1, 6, 0, 0, 0, 0),
  (856, .iload_n 3, 1, 4, 3, 0, 0, 0),
  (857, .iconst 2, 1, 1, 0, 0, 2, 0),
  (858, .iadd, 1, 11, 0, 0, 0, 0),
  (859, .iaload, 1, 45, 0, 0, 0, 0),
  (860, .aload_n 0, 1, 6, 0, 0, 0, 0),
  (861, .iload_n 3, 1, 4, 3, 0, 0, 0),
  (862, .iconst 3, 1, 1, 0, 0, 3, 0),
  (863, .iadd, 1, 11, 0, 0, 0, 0),
  (864, .iaload, 1, 45, 0, 0, 0, 0),
  (865, .aload_n 0, 1, 6, 0, 0, 0, 0),
  (866, .iload_n 3, 1, 4, 3, 0, 0, 0),
  (867, .iconst 4, 1, 1, 0, 0, 4, 0),
  (868, .iadd, 1, 11, 0, 0, 0, 0),
  (869, .iaload, 1, 45, 0, 0, 0, 0),
  (870, .invokevirtual 101, 3, 58, 76, 0, 0, 544),
  (873, .aload_n 2, 1, 6, 2, 0, 0, 0),
  (874, .aload_n 0, 1, 6, 0, 0, 0, 0),
  (875, .iload_n 3, 1, 4, 3, 0, 0, 0),
  (876, .iconst 1, 1, 1, 0, 0, 1, 0),
  (877, .iadd, 1, 11, 0, 0, 0, 0),
  (878, .iaload, 1, 45, 0, 0, 0, 0),
  (879, .aload_n 0, 1, 6, 0, 0, 0, 0),
  (880, .iload_n 3, 1, 4, 3, 0, 0, 0),
  (881, .iconst 2, 1, 1, 0, 0, 2, 0)]
def vC_171_5 : List vent := [(882, .iadd, 1, 11, 0, 0, 0, 0),
  (883, .iaload, 1, 45, 0, 0, 0, 0),
  (884, .aload_n 0, 1, 6, 0, 0, 0, 0),
  (885, .iload_n 3, 1, 4, 3, 0, 0, 0),
  (886, .iconst 3, 1, 1, 0, 0, 3, 0),
  (887, .iadd, 1, 11, 0, 0, 0, 0),
  (888, .iaload, 1, 45, 0, 0, 0, 0),
  (889, .aload_n 0, 1, 6, 0, 0, 0, 0),
  (890, .iload_n 3, 1, 4, 3, 0, 0, 0),
  (891, .iconst 4, 1, 1, 0, 0, 4, 0),
  (892, .iadd, 1, 11, 0, 0, 0, 0),
  (893, .iaload, 1, 45, 0, 0, 0, 0),
  (894, .invokevirtual 105, 3, 58, 156, 0, 0, 923),
  (897, .if_icmp .eq 365, 3, 76, 1262, 0, 0, 0),
  (900, .iconst 0, 1, 1, 0, 0, 0, 0),
  (901, .ireturn, 1, 63, 1, 0, 0, 0),
  (902, .aload_n 1, 1, 6, 1, 0, 0, 0),
  (903, .aload_n 0, 1, 6, 0, 0, 0, 0),
  (904, .iload_n 3, 1, 4, 3, 0, 0, 0),
  (905, .iconst 1, 1, 1, 0, 0, 1, 0),
  (906, .iadd, 1, 11, 0, 0, 0, 0),
  (907, .iaload, 1, 45, 0, 0, 0, 0),
  (908, .invokevirtual 106, 3, 58, 77, 0, 0, 548),
  (911, .aload_n 2, 1, 6, 2, 0, 0, 0),
  (912, .aload_n 0, 1, 6, 0, 0, 0, 0),
  (913, .iload_n 3, 1, 4, 3, 0, 0, 0),
  (914, .iconst 1, 1, 1, 0, 0, 1, 0),
  (915, .iadd, 1, 11, 0, 0, 0, 0),
  (916, .iaload, 1, 45, 0, 0, 0, 0),
  (917, .invokevirtual 109, 3, 58, 157, 0, 0, 928),
  (920, .if_icmp .eq 342, 3, 76, 1262, 0, 0, 0),
  (923, .iconst 0, 1, 1, 0, 0, 0, 0),
  (924, .ireturn, 1, 63, 1, 0, 0, 0),
  (925, .aload_n 1, 1, 6, 1, 0, 0, 0),
  (926, .aload_n 0, 1, 6, 0, 0, 0, 0),
  (927, .iload_n 3, 1, 4, 3, 0, 0, 0),
  (928, .iconst 1, 1, 1, 0, 0, 1, 0),
  (929, .iadd, 1, 11, 0, 0, 0, 0),
  (930, .iaload, 1, 45, 0, 0, 0, 0),
  (931, .aload_n 0, 1, 6, 0, 0, 0, 0),
  (932, .iload_n 3, 1, 4, 3, 0, 0, 0),
  (933, .iconst 2, 1, 1, 0, 0, 2, 0),
  (934, .iadd, 1, 11, 0, 0, 0, 0),
  (935, .iaload, 1, 45, 0, 0, 0, 0),
  (936, .invokevirtual 110, 3, 58, 78, 0, 0, 564),
  (939, .aload_n 2, 1, 6, 2, 0, 0, 0),
  (940, .aload_n 0, 1, 6, 0, 0, 0, 0),
  (941, .iload_n 3, 1, 4, 3, 0, 0, 0),
  (942, .iconst 1, 1, 1, 0, 0, 1, 0),
  (943, .iadd, 1, 11, 0, 0, 0, 0),
  (944, .iaload, 1, 45, 0, 0, 0, 0),
  (945, .aload_n 0, 1, 6, 0, 0, 0, 0),
  (946, .iload_n 3, 1, 4, 3, 0, 0, 0),
  (947, .iconst 2, 1, 1, 0, 0, 2, 0),
  (948, .iadd, 1, 11, 0, 0, 0, 0),
  (949, .iaload, 1, 45, 0, 0, 0, 0),
  (950, .invokevirtual 113, 3, 58, 158, 0, 0, 932),
  (953, .if_icmp .eq 309, 3, 76, 1262, 0, 0, 0),
  (956, .iconst 0, 1, 1, 0, 0, 0, 0),
  (957, .ireturn, 1, 63, 1, 0, 0, 0),
  (958, .aload_n 1, 1, 6, 1, 0, 0, 0),
  (959, .aload_n 0, 1, 6, 0, 0, 0, 0),
  (960, .iload_n 3, 1, 4, 3, 0, 0, 0),
  (961, .iconst 1, 1, 1, 0, 0, 1, 0),
  (962, .iadd, 1, 11, 0, 0, 0, 0),
  (963, .iaload, 1, 45, 0, 0, 0, 0),
  (964, .aload_n 0, 1, 6, 0, 0, 0, 0),
  (965, .iload_n 3, 1, 4, 3, 0, 0, 0),
  (966, .iconst 2, 1, 1, 0, 0, 2, 0),
  (967, .iadd, 1, 11, 0, 0, 0, 0),
  (968, .iaload, 1, 45, 0, 0, 0, 0),
  (969, .invokevirtual 114, 3, 58, 79, 0, 0, 568),
  (972, .aload_n 2, 1, 6, 2, 0, 0, 0),
  (973, .aload_n 0, 1, 6, 0, 0, 0, 0),
  (974, .iload_n 3, 1, 4, 3, 0, 0, 0),
  (975, .iconst 1, 1, 1, 0, 0, 1, 0),
  (976, .iadd, 1, 11, 0, 0, 0, 0),
  (977, .iaload, 1, 45, 0, 0, 0, 0),
  (978, .aload_n 0, 1, 6, 0, 0, 0, 0),
  (979, .iload_n 3, 1, 4, 3, 0, 0, 0),
  (980, .iconst 2, 1, 1, 0, 0, 2, 0),
  (981, .iadd, 1, 11, 0, 0, 0, 0),
  (982, .iaload, 1, 45, 0, 0, 0, 0),
  (983, .invokevirtual 117, 3, 58, 160, 0, 0, 937),
  (986, .if_icmp .eq 276, 3, 76, 1262, 0, 0, 0),
  (989, .iconst 0, 1, 1, 0, 0, 0, 0),
  (990, .ireturn, 1, 63, 1, 0, 0, 0),
  (991, .aload_n 1, 1, 6, 1, 0, 0, 0),
  (992, .aload_n 0, 1, 6, 0, 0, 0, 0),
  (993, .iload_n 3, 1, 4, 3, 0, 0, 0),
  (994, .iconst 1, 1, 1, 0, 0, 1, 0),
  (995, .iadd, 1, 11, 0, 0, 0, 0),
  (996, .iaload, 1, 45, 0, 0, 0, 0),
  (997, .aload_n 0, 1, 6, 0, 0, 0, 0),
  (998, .iload_n 3, 1, 4, 3, 0, 0, 0),
  (999, .iconst 2, 1, 1, 0, 0, 2, 0),
  (1000, .iadd, 1, 11, 0, 0, 0, 0),
  (1001, .iaload, 1, 45, 0, 0, 0, 0),
  (1002, .aload_n 0, 1, 6, 0, 0, 0, 0),
  (1003, .iload_n 3, 1, 4, 3, 0, 0, 0),
  (1004, .iconst 3, 1, 1, 0, 0, 3, 0),
  (1005, .iadd, 1, 11, 0, 0, 0, 0),
  (1006, .iaload, 1, 45, 0, 0, 0, 0),
  (1007, .invokevirtual 118, 3, 58, 80, 0, 0, 579),
  (1010, .aload_n 2, 1, 6, 2, 0, 0, 0),
  (1011, .aload_n 0, 1, 6, 0, 0, 0, 0),
  (1012, .iload_n 3, 1, 4, 3, 0, 0, 0),
  (1013, .iconst 1, 1, 1, 0, 0, 1, 0),
  (1014, .iadd, 1, 11, 0, 0, 0, 0),
  (1015, .iaload, 1, 45, 0, 0, 0, 0),
  (1016, .aload_n 0, 1, 6, 0, 0, 0, 0),
  (1017, .iload_n 3, 1, 4, 3, 0, 0, 0),
  (1018, .iconst 2, 1, 1, 0, 0, 2, 0),
  (1019, .iadd, 1, 11, 0, 0, 0, 0),
  (1020, .iaload, 1, 45, 0, 0, 0, 0),
  (1021, .aload_n 0, 1, 6, 0, 0, 0, 0),
  (1022, .iload_n 3, 1, 4, 3, 0, 0, 0),
  (1023, .iconst 3, 1, 1, 0, 0, 3, 0),
  (1024, .iadd, 1, 11, 0, 0, 0, 0),
  (1025, .iaload, 1, 45, 0, 0, 0, 0)]
def vC_171_6 : List vent := [(1026, .invokevirtual 121, 3, 58, 161, 0, 0, 944),
  (1029, .if_icmp .eq 233, 3, 76, 1262, 0, 0, 0),
  (1032, .iconst 0, 1, 1, 0, 0, 0, 0),
  (1033, .ireturn, 1, 63, 1, 0, 0, 0),
  (1034, .aload_n 1, 1, 6, 1, 0, 0, 0),
  (1035, .aload_n 0, 1, 6, 0, 0, 0, 0),
  (1036, .iload_n 3, 1, 4, 3, 0, 0, 0),
  (1037, .iconst 1, 1, 1, 0, 0, 1, 0),
  (1038, .iadd, 1, 11, 0, 0, 0, 0),
  (1039, .iaload, 1, 45, 0, 0, 0, 0),
  (1040, .aload_n 0, 1, 6, 0, 0, 0, 0),
  (1041, .iload_n 3, 1, 4, 3, 0, 0, 0),
  (1042, .iconst 2, 1, 1, 0, 0, 2, 0),
  (1043, .iadd, 1, 11, 0, 0, 0, 0),
  (1044, .iaload, 1, 45, 0, 0, 0, 0),
  (1045, .invokevirtual 122, 3, 58, 81, 0, 0, 583),
  (1048, .aload_n 2, 1, 6, 2, 0, 0, 0),
  (1049, .aload_n 0, 1, 6, 0, 0, 0, 0),
  (1050, .iload_n 3, 1, 4, 3, 0, 0, 0),
  (1051, .iconst 1, 1, 1, 0, 0, 1, 0),
  (1052, .iadd, 1, 11, 0, 0, 0, 0),
  (1053, .iaload, 1, 45, 0, 0, 0, 0),
  (1054, .aload_n 0, 1, 6, 0, 0, 0, 0),
  (1055, .iload_n 3, 1, 4, 3, 0, 0, 0),
  (1056, .iconst 2, 1, 1, 0, 0, 2, 0),
  (1057, .iadd, 1, 11, 0, 0, 0, 0),
  (1058, .iaload, 1, 45, 0, 0, 0, 0),
  (1059, .invokevirtual 125, 3, 58, 162, 0, 0, 948),
  (1062, .if_icmp .eq 200, 3, 76, 1262, 0, 0, 0),
  (1065, .iconst 0, 1, 1, 0, 0, 0, 0),
  (1066, .ireturn, 1, 63, 1, 0, 0, 0),
  (1067, .aload_n 1, 1, 6, 1, 0, 0, 0),
  (1068, .aload_n 0, 1, 6, 0, 0, 0, 0),
  (1069, .iload_n 3, 1, 4, 3, 0, 0, 0),
  (1070, .iconst 1, 1, 1, 0, 0, 1, 0),
  (1071, .iadd, 1, 11, 0, 0, 0, 0),
  (1072, .iaload, 1, 45, 0, 0, 0, 0),
  (1073, .aload_n 0, 1, 6, 0, 0, 0, 0),
  (1074, .iload_n 3, 1, 4, 3, 0, 0, 0),
  (1075, .iconst 2, 1, 1, 0, 0, 2, 0),
  (1076, .iadd, 1, 11, 0, 0, 0, 0),
  (1077, .iaload, 1, 45, 0, 0, 0, 0),
  (1078, .aload_n 0, 1, 6, 0, 0, 0, 0),
  (1079, .iload_n 3, 1, 4, 3, 0, 0, 0),
  (1080, .iconst 3, 1, 1, 0, 0, 3, 0),
  (1081, .iadd, 1, 11, 0, 0, 0, 0),
  (1082, .iaload, 1, 45, 0, 0, 0, 0),
  (1083, .aload_n 0, 1, 6, 0, 0, 0, 0),
  (1084, .iload_n 3, 1, 4, 3, 0, 0, 0),
  (1085, .iconst 4, 1, 1, 0, 0, 4, 0),
  (1086, .iadd, 1, 11, 0, 0, 0, 0),
  (1087, .iaload, 1, 45, 0, 0, 0, 0),
  (1088, .aload_n 0, 1, 6, 0, 0, 0, 0),
  (1089, .iload_n 3, 1, 4, 3, 0, 0, 0),
  (1090, .iconst 5, 1, 1, 0, 0, 5, 0),
  (1091, .iadd, 1, 11, 0, 0, 0, 0),
  (1092, .iaload, 1, 45, 0, 0, 0, 0),
  (1093, .invokevirtual 126, 3, 58, 82, 0, 0, 588),
  (1096, .aload_n 2, 1, 6, 2, 0, 0, 0),
  (1097, .aload_n 0, 1, 6, 0, 0, 0, 0),
  (1098, .iload_n 3, 1, 4, 3, 0, 0, 0),
  (1099, .iconst 1, 1, 1, 0, 0, 1, 0),
  (1100, .iadd, 1, 11, 0, 0, 0, 0),
  (1101, .iaload, 1, 45, 0, 0, 0, 0),
  (1102, .aload_n 0, 1, 6, 0, 0, 0, 0),
  (1103, .iload_n 3, 1, 4, 3, 0, 0, 0),
  (1104, .iconst 2, 1, 1, 0, 0, 2, 0),
  (1105, .iadd, 1, 11, 0, 0, 0, 0),
  (1106, .iaload, 1, 45, 0, 0, 0, 0),
  (1107, .aload_n 0, 1, 6, 0, 0, 0, 0),
  (1108, .iload_n 3, 1, 4, 3, 0, 0, 0),
  (1109, .iconst 3, 1, 1, 0, 0, 3, 0),
  (1110, .iadd, 1, 11, 0, 0, 0, 0),
  (1111, .iaload, 1, 45, 0, 0, 0, 0),
  (1112, .aload_n 0, 1, 6, 0, 0, 0, 0),
  (1113, .iload_n 3, 1, 4, 3, 0, 0, 0),
  (1114, .iconst 4, 1, 1, 0, 0, 4, 0),
  (1115, .iadd, 1, 11, 0, 0, 0, 0),
  (1116, .iaload, 1, 45, 0, 0, 0, 0),
  (1117, .aload_n 0, 1, 6, 0, 0, 0, 0),
  (1118, .iload_n 3, 1, 4, 3, 0, 0, 0),
  (1119, .iconst 5, 1, 1, 0, 0, 5, 0),
  (1120, .iadd, 1, 11, 0, 0, 0, 0),
  (1121, .iaload, 1, 45, 0, 0, 0, 0),
  (1122, .invokevirtual 130, 3, 58, 163, 0, 0, 953),
  (1125, .if_icmp .eq 137, 3, 76, 1262, 0, 0, 0),
  (1128, .iconst 0, 1, 1, 0, 0, 0, 0),
  (1129, .ireturn, 1, 63, 1, 0, 0, 0),
  (1130, .aload_n 1, 1, 6, 1, 0, 0, 0),
  (1131, .aload_n 0, 1, 6, 0, 0, 0, 0),
  (1132, .iload_n 3, 1, 4, 3, 0, 0, 0),
  (1133, .iconst 1, 1, 1, 0, 0, 1, 0),
  (1134, .iadd, 1, 11, 0, 0, 0, 0),
  (1135, .iaload, 1, 45, 0, 0, 0, 0),
  (1136, .aload_n 0, 1, 6, 0, 0, 0, 0),
  (1137, .iload_n 3, 1, 4, 3, 0, 0, 0),
  (1138, .iconst 2, 1, 1, 0, 0, 2, 0),
  (1139, .iadd, 1, 11, 0, 0, 0, 0),
  (1140, .iaload, 1, 45, 0, 0, 0, 0),
  (1141, .aload_n 0, 1, 6, 0, 0, 0, 0),
  (1142, .iload_n 3, 1, 4, 3, 0, 0, 0),
  (1143, .iconst 3, 1, 1, 0, 0, 3, 0),
  (1144, .iadd, 1, 11, 0, 0, 0, 0),
  (1145, .iaload, 1, 45, 0, 0, 0, 0),
  (1146, .aload_n 0, 1, 6, 0, 0, 0, 0),
  (1147, .iload_n 3, 1, 4, 3, 0, 0, 0),
  (1148, .iconst 4, 1, 1, 0, 0, 4, 0),
  (1149, .iadd, 1, 11, 0, 0, 0, 0),
  (1150, .iaload, 1, 45, 0, 0, 0, 0),
  (1151, .invokevirtual 131, 3, 58, 83, 0, 0, 595),
  (1154, .aload_n 2, 1, 6, 2, 0, 0, 0),
  (1155, .aload_n 0, 1, 6, 0, 0, 0, 0),
  (1156, .iload_n 3, 1, 4, 3, 0, 0, 0),
  (1157, .iconst 1, 1, 1, 0, 0, 1, 0),
  (1158, .iadd, 1, 11, 0, 0, 0, 0),
  (1159, .iaload, 1, 45, 0, 0, 0, 0),
  (1160, .aload_n 0, 1, 6, 0, 0, 0, 0),
  (1161, .iload_n 3, 1, 4, 3, 0, 0, 0),
  (1162, .iconst 2, 1, 1, 0, 0, 2, 0),
  (1163, .iadd, 1, 11, 0, 0, 0, 0)]
def vC_171_7 : List vent := [(1164, .iaload, 1, 45, 0, 0, 0, 0),
  (1165, .aload_n 0, 1, 6, 0, 0, 0, 0),
  (1166, .iload_n 3, 1, 4, 3, 0, 0, 0),
  (1167, .iconst 3, 1, 1, 0, 0, 3, 0),
  (1168, .iadd, 1, 11, 0, 0, 0, 0),
  (1169, .iaload, 1, 45, 0, 0, 0, 0),
  (1170, .aload_n 0, 1, 6, 0, 0, 0, 0),
  (1171, .iload_n 3, 1, 4, 3, 0, 0, 0),
  (1172, .iconst 4, 1, 1, 0, 0, 4, 0),
  (1173, .iadd, 1, 11, 0, 0, 0, 0),
  (1174, .iaload, 1, 45, 0, 0, 0, 0),
  (1175, .invokevirtual 134, 3, 58, 165, 0, 0, 957),
  (1178, .if_icmp .eq 84, 3, 76, 1262, 0, 0, 0),
  (1181, .iconst 0, 1, 1, 0, 0, 0, 0),
  (1182, .ireturn, 1, 63, 1, 0, 0, 0),
  (1183, .aload_n 1, 1, 6, 1, 0, 0, 0),
  (1184, .aload_n 0, 1, 6, 0, 0, 0, 0),
  (1185, .iload_n 3, 1, 4, 3, 0, 0, 0),
  (1186, .iconst 1, 1, 1, 0, 0, 1, 0),
  (1187, .iadd, 1, 11, 0, 0, 0, 0),
  (1188, .iaload, 1, 45, 0, 0, 0, 0),
  (1189, .aload_n 0, 1, 6, 0, 0, 0, 0),
  (1190, .iload_n 3, 1, 4, 3, 0, 0, 0),
  (1191, .iconst 2, 1, 1, 0, 0, 2, 0),
  (1192, .iadd, 1, 11, 0, 0, 0, 0),
  (1193, .iaload, 1, 45, 0, 0, 0, 0),
  (1194, .aload_n 0, 1, 6, 0, 0, 0, 0),
  (1195, .iload_n 3, 1, 4, 3, 0, 0, 0),
  (1196, .iconst 3, 1, 1, 0, 0, 3, 0),
  (1197, .iadd, 1, 11, 0, 0, 0, 0),
  (1198, .iaload, 1, 45, 0, 0, 0, 0),
  (1199, .aload_n 0, 1, 6, 0, 0, 0, 0),
  (1200, .iload_n 3, 1, 4, 3, 0, 0, 0),
  (1201, .iconst 4, 1, 1, 0, 0, 4, 0),
  (1202, .iadd, 1, 11, 0, 0, 0, 0),
  (1203, .iaload, 1, 45, 0, 0, 0, 0),
  (1204, .invokevirtual 135, 3, 58, 84, 0, 0, 603),
  (1207, .aload_n 2, 1, 6, 2, 0, 0, 0),
  (1208, .aload_n 0, 1, 6, 0, 0, 0, 0),
  (1209, .iload_n 3, 1, 4, 3, 0, 0, 0),
  (1210, .iconst 1, 1, 1, 0, 0, 1, 0),
  (1211, .iadd, 1, 11, 0, 0, 0, 0),
  (1212, .iaload, 1, 45, 0, 0, 0, 0),
  (1213, .aload_n 0, 1, 6, 0, 0, 0, 0),
  (1214, .iload_n 3, 1, 4, 3, 0, 0, 0),
  (1215, .iconst 2, 1, 1, 0, 0, 2, 0),
  (1216, .iadd, 1, 11, 0, 0, 0, 0),
  (1217, .iaload, 1, 45, 0, 0, 0, 0),
  (1218, .aload_n 0, 1, 6, 0, 0, 0, 0),
  (1219, .iload_n 3, 1, 4, 3, 0, 0, 0),
  (1220, .iconst 3, 1, 1, 0, 0, 3, 0),
  (1221, .iadd, 1, 11, 0, 0, 0, 0),
  (1222, .iaload, 1, 45, 0, 0, 0, 0),
  (1223, .aload_n 0, 1, 6, 0, 0, 0, 0),
  (1224, .iload_n 3, 1, 4, 3, 0, 0, 0),
  (1225, .iconst 4, 1, 1, 0, 0, 4, 0),
  (1226, .iadd, 1, 11, 0, 0, 0, 0),
  (1227, .iaload, 1, 45, 0, 0, 0, 0),
  (1228, .invokevirtual 138, 3, 58, 166, 0, 0, 965),
  (1231, .if_icmp .eq 31, 3, 76, 1262, 0, 0, 0),
  (1234, .iconst 0, 1, 1, 0, 0, 0, 0),
  (1235, .ireturn, 1, 63, 1, 0, 0, 0),
  (1236, .aload_n 1, 1, 6, 1, 0, 0, 0),
  (1237, .invokevirtual 139, 3, 58, 85, 0, 0, 607),
  (1240, .aload_n 2, 1, 6, 2, 0, 0, 0),
  (1241, .invokevirtual 142, 3, 58, 167, 0, 0, 969),
  (1244, .if_icmp .eq 18, 3, 76, 1262, 0, 0, 0),
  (1247, .iconst 0, 1, 1, 0, 0, 0, 0),
  (1248, .ireturn, 1, 63, 1, 0, 0, 0),
  (1249, .aload_n 1, 1, 6, 1, 0, 0, 0),
  (1250, .invokevirtual 143, 3, 58, 86, 0, 0, 616),
  (1253, .aload_n 2, 1, 6, 2, 0, 0, 0),
  (1254, .invokevirtual 146, 3, 58, 168, 0, 0, 977),
  (1257, .if_icmp .eq 5, 3, 76, 1262, 0, 0, 0),
  (1260, .iconst 0, 1, 1, 0, 0, 0, 0),
  (1261, .ireturn, 1, 63, 1, 0, 0, 0),
  (1262, .iinc 3 6, 3, 10, 3, 0, 6, 0),
  (1265, .goto (-1247), 3, 37, 18, 0, 0, 0),
  (1268, .iconst 1, 1, 1, 0, 0, 1, 0),
  (1269, .ireturn, 1, 63, 1, 0, 0, 0)]
def vC_171 : List vent := vC_171_0 ++ (vC_171_1 ++ (vC_171_2 ++ (vC_171_3 ++ (vC_171_4 ++ (vC_171_5 ++ (vC_171_6 ++ (vC_171_7)))))))
def vCs_0 : List (List vent) := [vC_0, vC_1, vC_2, vC_3, vC_4, vC_5, vC_6, vC_7, vC_8, vC_9, vC_10, vC_11, vC_12, vC_13, vC_14, vC_15, vC_16, vC_17, vC_18, vC_19, vC_20, vC_21, vC_22, vC_23, vC_24, vC_25, vC_26, vC_27, vC_28, vC_29, vC_30, vC_31, vC_32, vC_33, vC_34, vC_35, vC_36, vC_37, vC_38, vC_39]
def vCs_1 : List (List vent) := [vC_40, vC_41, vC_42, vC_43, vC_44, vC_45, vC_46, vC_47, vC_48, vC_49, vC_50, vC_51, vC_52, vC_53, vC_54, vC_55, vC_56, vC_57, vC_58, vC_59, vC_60, vC_61, vC_62, vC_63, vC_64, vC_65, vC_66, vC_67, vC_68, vC_69, vC_70, vC_71, vC_72, vC_73, vC_74, vC_75, vC_76, vC_77, vC_78, vC_79]
def vCs_2 : List (List vent) := [vC_80, vC_81, vC_82, vC_83, vC_84, vC_85, vC_86, vC_87, vC_88, vC_89, vC_90, vC_91, vC_92, vC_93, vC_94, vC_95, vC_96, vC_97, vC_98, vC_99, vC_100, vC_101, vC_102, vC_103, vC_104, vC_105, vC_106, vC_107, vC_108, vC_109, vC_110, vC_111, vC_112, vC_113, vC_114, vC_115, vC_116, vC_117, vC_118, vC_119]
def vCs_3 : List (List vent) := [vC_120, vC_121, vC_122, vC_123, vC_124, vC_125, vC_126, vC_127, vC_128, vC_129, vC_130, vC_131, vC_132, vC_133, vC_134, vC_135, vC_136, vC_137, vC_138, vC_139, vC_140, vC_141, vC_142, vC_143, vC_144, vC_145, vC_146, vC_147, vC_148, vC_149, vC_150, vC_151, vC_152, vC_153, vC_154, vC_155, vC_156, vC_157, vC_158, vC_159]
def vCs_4 : List (List vent) := [vC_160, vC_161, vC_162, vC_163, vC_164, vC_165, vC_166, vC_167, vC_168, vC_169, vC_170, vC_171]
def vC : List (List vent) := vCs_0 ++ (vCs_1 ++ (vCs_2 ++ (vCs_3 ++ (vCs_4))))
end
section

def iI (z : Int) : Int32 := Int32.ofInt z
def lZ (z : Int) : Int64 := Int64.ofInt z
/-- element class of a kind of row -/
def vec : Nat → String
  | 3 => "RecurringDays$Plan"
  | 4 => "RecurringDays$Days"
  | _ => "RecurringDays$Row"
def vaty : Nat → FieldType
  | 0 => .int
  | 1 => .long
  | _ => .boolean
def vtyx : Nat → Nat → FieldType
  | 0 => tyX0
  | 1 => tyX1
  | 2 => tyX2
  | 3 => tyX3
  | 4 => tyX4
  | 5 => tyX5
  | _ => tyX6
def vat (i : Nat) : Option Jvm.Cond := lw_tbl[i]?
def vis (i : Nat) (w : Jvm.Cond) : Bool := decide (vat i = some w)
def vckm (a : Nat) (f : vNr → Bool) : Bool := match vN[a]? with
  | some r => f r
  | none => false
def vckc (a : Nat) (f : vw_C → Bool) : Bool := match vwCl[a]? with
  | some r => f r
  | none => false
/-- a switch's pairs out of its offsets -/
def vsp (pc : Nat) (lo : Int) : List Int → List (Int × Nat)
  | [] => []
  | o :: l => (lo, ((pc : Int) + o).toNat) :: vsp pc (lo + 1) l
def vps (pc : Nat) : List (Int × Int) → List (Int × Nat)
  | [] => []
  | (k, o) :: l => (k, ((pc : Int) + o).toNat) :: vps pc l
/-- the short form of an instruction says what the instruction is -/
def vchk (own nm : String) (ret : Option FieldType) (pc : Nat) (ins : Instr) (len o a b : Nat) (z : Int) (i : Nat) : Bool :=
  match o with
  | 1 => (match ins with
    | .iconst n => decide (Int32.ofInt n = iI z ∧ len = 1)
    | .bipush n => decide ((Int8.ofInt n).toInt32 = iI z ∧ len = 2)
    | .sipush n => decide ((Int16.ofInt n).toInt32 = iI z ∧ len = 3)
    | .ldc x => vis i (.constant own x (iI z)) && decide (len = 2)
    | .ldc_w x => vis i (.constant own x (iI z)) && decide (len = 3)
    | _ => false)
  | 2 => (match ins with
    | .lconst n => decide (Int64.ofNat (n : Nat) = lZ z ∧ len = 1)
    | .ldc2_w x => vis i (.constantLong own x (lZ z)) && decide (len = 3)
    | _ => false)
  | 3 => decide (ins = .aconst_null ∧ len = 1)
  | 4 => (match ins with
    | .iload x => decide (x = a ∧ len = 2)
    | .iload_n k => decide ((k : Nat) = a ∧ len = 1)
    | _ => false)
  | 5 => (match ins with
    | .lload x => decide (x = a ∧ len = 2)
    | .lload_n k => decide ((k : Nat) = a ∧ len = 1)
    | _ => false)
  | 6 => (match ins with
    | .aload x => decide (x = a ∧ len = 2)
    | .aload_n k => decide ((k : Nat) = a ∧ len = 1)
    | _ => false)
  | 7 => (match ins with
    | .istore x => decide (x = a ∧ len = 2)
    | .istore_n k => decide ((k : Nat) = a ∧ len = 1)
    | _ => false)
  | 8 => (match ins with
    | .lstore x => decide (x = a ∧ len = 2)
    | .lstore_n k => decide ((k : Nat) = a ∧ len = 1)
    | _ => false)
  | 9 => (match ins with
    | .astore x => decide (x = a ∧ len = 2)
    | .astore_n k => decide ((k : Nat) = a ∧ len = 1)
    | _ => false)
  | 10 => decide (ins = .iinc a z ∧ len = 3)
  | 11 => decide (ins = .iadd ∧ len = 1)
  | 12 => decide (ins = .isub ∧ len = 1)
  | 13 => decide (ins = .imul ∧ len = 1)
  | 14 => decide (ins = .idiv ∧ len = 1)
  | 15 => decide (ins = .irem ∧ len = 1)
  | 16 => decide (ins = .ineg ∧ len = 1)
  | 17 => decide (ins = .iand ∧ len = 1)
  | 18 => decide (ins = .ior ∧ len = 1)
  | 19 => decide (ins = .ishl ∧ len = 1)
  | 20 => decide (ins = .ishr ∧ len = 1)
  | 21 => decide (ins = .iushr ∧ len = 1)
  | 22 => decide (ins = .ladd ∧ len = 1)
  | 23 => decide (ins = .lsub ∧ len = 1)
  | 24 => decide (ins = .lmul ∧ len = 1)
  | 25 => decide (ins = .land ∧ len = 1)
  | 26 => decide (ins = .lor ∧ len = 1)
  | 27 => decide (ins = .lxor ∧ len = 1)
  | 28 => decide (ins = .lshl ∧ len = 1)
  | 29 => decide (ins = .lshr ∧ len = 1)
  | 30 => decide (ins = .lushr ∧ len = 1)
  | 31 => decide (ins = .lcmp ∧ len = 1)
  | 32 => decide (ins = .i2l ∧ len = 1)
  | 33 => decide (ins = .l2i ∧ len = 1)
  | 34 => decide (ins = .dup ∧ len = 1)
  | 35 => decide (ins = .dup2 ∧ len = 1)
  | 36 => decide (ins = .pop ∧ len = 1)
  | 37 => (match ins with
    | .goto off => decide ((pc : Int) + off = (a : Int) ∧ len = 3)
    | _ => false)
  | 40 => (match ins with
    | .ifnull off => decide ((pc : Int) + off = (a : Int) ∧ len = 3)
    | _ => false)
  | 41 => (match ins with
    | .ifnonnull off => decide ((pc : Int) + off = (a : Int) ∧ len = 3)
    | _ => false)
  | 42 => (match ins with
    | .getfield x => vckc a fun q => decide (b < q.2.2) && decide ((q.2.1 b).1 = q.1) && vis i (.fieldLink own x q.1 (q.2.1 b).2.1 (q.2.1 b).2.2.1) && decide (len = 3)
    | _ => false)
  | 43 => (match ins with
    | .putfield x => vckc a fun q => decide (b < q.2.2) && decide ((q.2.1 b).1 = q.1) && vis i (.fieldLink own x q.1 (q.2.1 b).2.1 (q.2.1 b).2.2.1) && decide (len = 3) && decide ((q.2.1 b).2.2.2 = false)
    | _ => false)
  | 68 => (match ins with
    | .putfield x => vckc a fun q => decide (b < q.2.2) && decide ((q.2.1 b).1 = q.1) && vis i (.fieldLink own x q.1 (q.2.1 b).2.1 (q.2.1 b).2.2.1) && decide (len = 3) && decide ((q.2.1 b).2.2.2 = true) && decide (own = q.1) && decide (nm = "<init>")
    | _ => false)
  | 44 => (match ins with
    | .getstatic x => (if b = 0 then vis i (.fieldLink own x "RecurringDays" "BLOCK_LENGTHS" "[I") else vis i (.fieldLinkNest own x "RecurringDays" "BLOCK_LENGTHS" "[I" "RecurringDays")) && decide (len = 3)
    | _ => false)
  | 45 => decide (ins = .iaload ∧ len = 1)
  | 46 => decide (ins = .laload ∧ len = 1)
  | 47 => decide (ins = .baload ∧ len = 1)
  | 48 => decide (ins = .aaload ∧ len = 1)
  | 49 => decide (ins = .iastore ∧ len = 1)
  | 50 => decide (ins = .lastore ∧ len = 1)
  | 51 => decide (ins = .bastore ∧ len = 1)
  | 52 => decide (ins = .aastore ∧ len = 1)
  | 53 => decide (ins = .arraylength ∧ len = 1)
  | 54 => (match ins with
    | .new x => vckc a fun q => decide (b = q.2.2) && vis i (.classLink own x q.1) && decide (len = 3)
    | _ => false)
  | 55 => (match ins with
    | .newarray t => decide (newarray.typeOf t = vaty a ∧ a < 3 ∧ len = 2)
    | _ => false)
  | 56 => (match ins with
    | .anewarray x => vis i (.classLink own x (vec a)) && decide (3 ≤ a ∧ a < 6 ∧ len = 3)
    | _ => false)
  | 57 => (match ins with
    | .multianewarray x k => vis i (.classLink own x "[[I") && decide (k = 2 ∧ len = 4)
    | _ => false)
  | 58 => (match ins with
    | .invokevirtual x => vckm a fun r => vis i (.methodLink own x r.1) && decide (len = 3) && !r.2.2.2.2.2.2.1 && vis r.2.2.2.2.2.2.2.2.2.1 (.selects r.1.cls r.1 r.1)
    | _ => false)
  | 59 => (match ins with
    | .invokestatic x => vckm a fun r => vis i (.methodLink own x r.1) && decide (len = 3) && r.2.2.2.2.2.2.1
    | _ => false)
  | 82 => (match ins with
    | .invokestatic x => vckm a fun r => vis i (.methodLinkNest own x r.1 "RecurringDays") && decide (len = 3) && r.2.2.2.2.2.2.1
    | _ => false)
  | 60 => (match ins with
    | .invokespecial x => vckm a fun r => vis i (.methodLink own x r.1) && decide (len = 3) && !r.2.2.2.2.2.2.1 && decide (r.1.name = "<init>")
    | _ => false)
  | 83 => (match ins with
    | .invokespecial x => vckm a fun r => vis i (.methodLinkNest own x r.1 "RecurringDays") && decide (len = 3) && !r.2.2.2.2.2.2.1 && decide (r.1.name = "<init>")
    | _ => false)
  | 61 => (match ins with
    | .invokespecial x => vis i (.methodLink own x objectInit) && decide (len = 3)
    | _ => false)
  | 62 => (match ins with
    | .invokestatic x => vis i (.methodLink own x arraycopyName) && decide (len = 3)
    | _ => false)
  | 84 => (match ins with
    | .invokestatic x => vis i (.methodLink own x Lib.Math.max.name) && decide (len = 3)
    | _ => false)
  | 85 => (match ins with
    | .invokestatic x => vis i (.methodLink own x Lib.Math.min.name) && decide (len = 3)
    | _ => false)
  | 63 => decide (ins = .ireturn ∧ len = 1 ∧ ret = some (if a = 0 then .int else .boolean))
  | 64 => decide (ins = .lreturn ∧ len = 1 ∧ ret = some .long)
  | 65 => decide (ins = .areturn ∧ len = 1) && (match ret with
    | some (.object _) => true
    | _ => false)
  | 66 => decide (ins = .return_ ∧ len = 1 ∧ ret = none)
  | 67 => (match vsw[a]? with
    | some q => (match ins with
      | .tableswitch d lo hi offs => decide (q.1 = vsp pc lo offs.toList ∧ (pc : Int) + d = (q.2 : Int) ∧ hi = lo + offs.toList.length - 1 ∧ (offs.toList.all fun o => decide (0 ≤ (pc : Int) + o)) = true)
      | .lookupswitch d ps => decide (q.1 = vps pc ps.toList ∧ (pc : Int) + d = (q.2 : Int) ∧ (ps.toList.all fun o => decide (0 ≤ (pc : Int) + o.2)) = true ∧ (ps.toList.zip (ps.toList.drop 1)).all (fun (a, next) => a.1 < next.1) = true)
      | _ => false)
    | none => false)
  | 70 => (match ins with
    | .ifCond .eq off => decide ((pc : Int) + off = (a : Int) ∧ len = 3)
    | _ => false)
  | 71 => (match ins with
    | .ifCond .ne off => decide ((pc : Int) + off = (a : Int) ∧ len = 3)
    | _ => false)
  | 72 => (match ins with
    | .ifCond .lt off => decide ((pc : Int) + off = (a : Int) ∧ len = 3)
    | _ => false)
  | 73 => (match ins with
    | .ifCond .ge off => decide ((pc : Int) + off = (a : Int) ∧ len = 3)
    | _ => false)
  | 74 => (match ins with
    | .ifCond .gt off => decide ((pc : Int) + off = (a : Int) ∧ len = 3)
    | _ => false)
  | 75 => (match ins with
    | .ifCond .le off => decide ((pc : Int) + off = (a : Int) ∧ len = 3)
    | _ => false)
  | 76 => (match ins with
    | .if_icmp .eq off => decide ((pc : Int) + off = (a : Int) ∧ len = 3)
    | _ => false)
  | 77 => (match ins with
    | .if_icmp .ne off => decide ((pc : Int) + off = (a : Int) ∧ len = 3)
    | _ => false)
  | 78 => (match ins with
    | .if_icmp .lt off => decide ((pc : Int) + off = (a : Int) ∧ len = 3)
    | _ => false)
  | 79 => (match ins with
    | .if_icmp .ge off => decide ((pc : Int) + off = (a : Int) ∧ len = 3)
    | _ => false)
  | 80 => (match ins with
    | .if_icmp .gt off => decide ((pc : Int) + off = (a : Int) ∧ len = 3)
    | _ => false)
  | 81 => (match ins with
    | .if_icmp .le off => decide ((pc : Int) + off = (a : Int) ∧ len = 3)
    | _ => false)
  | _ => false
def vche (r : vNr) (e : vent) : Bool := decide (decode r.2.1 e.1 = .ok (e.2.1, e.2.2.1)) && vchk r.1.cls r.1.name r.2.2.2.1 e.1 e.2.1 e.2.2.1 e.2.2.2.1 e.2.2.2.2.1 e.2.2.2.2.2.1 e.2.2.2.2.2.2.1 e.2.2.2.2.2.2.2
def vrow (m : Nat) : Bool := match vN[m]?, vC[m]? with
  | some r, some l => l.all (vche r)
  | _, _ => false
/-- a method's row of the table -/
def vnok (r : vNr) : Bool :=
  vis r.2.2.2.2.2.2.2.2.1 (if r.2.2.2.2.2.2.1 then .static r.1 else .instanceMethod r.1) && vis r.2.2.2.2.2.2.2.2.2.2 (.initialized r.1.cls)
  && decide (r.1.cls ≠ "java/lang/invoke/MethodHandle" ∧ r.1.cls ≠ "java/lang/invoke/VarHandle" ∧ (parseMethodDescriptor r.1.desc).map (fun d => d.parameters.length) = some r.2.2.2.2.2.1 ∧ plainName r.1.cls = true ∧ r.2.2.1 ≤ 30)
  && (r.2.2.2.2.2.2.1 || decide ((vwCl[r.2.2.2.2.1]?).map (fun q => q.1) = some r.1.cls))

def vcw (r : vNr) : Prop := vat r.2.2.2.2.2.2.2.1 = some (.code r.1 r.2.1 r.2.2.1 r.2.2.2.1)
end
section
theorem vok_0 : vrow 0 = true := by decide +kernel
theorem vok_1 : vrow 1 = true := by decide +kernel
theorem vok_2 : vrow 2 = true := by decide +kernel
theorem vok_3 : vrow 3 = true := by decide +kernel
theorem vok_4 : vrow 4 = true := by decide +kernel
theorem vok_5 : vrow 5 = true := by decide +kernel
theorem vok_6 : vrow 6 = true := by decide +kernel
theorem vok_7 : vrow 7 = true := by decide +kernel
theorem vok_8 : vrow 8 = true := by decide +kernel
theorem vok_9 : vrow 9 = true := by decide +kernel
theorem vok_10 : vrow 10 = true := by decide +kernel
theorem vok_11 : vrow 11 = true := by decide +kernel
theorem vok_12 : vrow 12 = true := by decide +kernel
theorem vok_13 : vrow 13 = true := by decide +kernel
theorem vok_14 : vrow 14 = true := by decide +kernel
theorem vok_15 : vrow 15 = true := by decide +kernel
theorem vok_16 : vrow 16 = true := by decide +kernel
theorem vok_17 : vrow 17 = true := by decide +kernel
theorem vok_18 : vrow 18 = true := by decide +kernel
theorem vok_19 : vrow 19 = true := by decide +kernel
theorem vok_20 : vrow 20 = true := by decide +kernel
theorem vok_21 : vrow 21 = true := by decide +kernel
theorem vok_22 : vrow 22 = true := by decide +kernel
theorem vok_23 : vrow 23 = true := by decide +kernel
theorem vok_24 : vrow 24 = true := by decide +kernel
theorem vok_25 : vrow 25 = true := by decide +kernel
theorem vok_26 : vrow 26 = true := by decide +kernel
theorem vok_27 : vrow 27 = true := by decide +kernel
theorem vok_28 : vrow 28 = true := by decide +kernel
theorem vok_29 : vrow 29 = true := by decide +kernel
theorem vok_30 : vrow 30 = true := by decide +kernel
theorem vok_31 : vrow 31 = true := by decide +kernel
theorem vok_32 : vrow 32 = true := by decide +kernel
theorem vok_33 : vrow 33 = true := by decide +kernel
theorem vok_34 : vrow 34 = true := by decide +kernel
theorem vok_35 : vrow 35 = true := by decide +kernel
theorem vok_36 : vrow 36 = true := by decide +kernel
theorem vok_37 : vrow 37 = true := by decide +kernel
theorem vok_38 : vrow 38 = true := by decide +kernel
theorem vok_39 : vrow 39 = true := by decide +kernel
theorem vok_40 : vrow 40 = true := by decide +kernel
theorem vok_41 : vrow 41 = true := by decide +kernel
theorem vok_42 : vrow 42 = true := by decide +kernel
theorem vok_43 : vrow 43 = true := by decide +kernel
theorem vok_44 : vrow 44 = true := by decide +kernel
theorem vok_45 : vrow 45 = true := by decide +kernel
theorem vok_46 : vrow 46 = true := by decide +kernel
theorem vok_47 : vrow 47 = true := by decide +kernel
theorem vok_48 : vrow 48 = true := by decide +kernel
theorem vok_49 : vrow 49 = true := by decide +kernel
theorem vok_50 : vrow 50 = true := by decide +kernel
end
section
theorem vok_51 : vrow 51 = true := by decide +kernel
theorem vok_52 : vrow 52 = true := by decide +kernel
theorem vok_53 : vrow 53 = true := by decide +kernel
theorem vok_54 : vrow 54 = true := by decide +kernel
theorem vok_55 : vrow 55 = true := by decide +kernel
theorem vok_56 : vrow 56 = true := by decide +kernel
theorem vok_57 : vrow 57 = true := by decide +kernel
theorem vok_58 : vrow 58 = true := by decide +kernel
theorem vok_59 : vrow 59 = true := by decide +kernel
theorem vok_60 : vrow 60 = true := by decide +kernel
theorem vok_61 : vrow 61 = true := by decide +kernel
theorem vok_62 : vrow 62 = true := by decide +kernel
theorem vok_63 : vrow 63 = true := by decide +kernel
theorem vok_64 : vrow 64 = true := by decide +kernel
theorem vok_65 : vrow 65 = true := by decide +kernel
theorem vok_66 : vrow 66 = true := by decide +kernel
theorem vok_67 : vrow 67 = true := by decide +kernel
theorem vok_68 : vrow 68 = true := by decide +kernel
theorem vok_69 : vrow 69 = true := by decide +kernel
theorem vok_70 : vrow 70 = true := by decide +kernel
theorem vok_71 : vrow 71 = true := by decide +kernel
theorem vok_72 : vrow 72 = true := by decide +kernel
theorem vok_73 : vrow 73 = true := by decide +kernel
theorem vok_74 : vrow 74 = true := by decide +kernel
theorem vok_75 : vrow 75 = true := by decide +kernel
theorem vok_76 : vrow 76 = true := by decide +kernel
theorem vok_77 : vrow 77 = true := by decide +kernel
theorem vok_78 : vrow 78 = true := by decide +kernel
theorem vok_79 : vrow 79 = true := by decide +kernel
theorem vok_80 : vrow 80 = true := by decide +kernel
theorem vok_81 : vrow 81 = true := by decide +kernel
theorem vok_82 : vrow 82 = true := by decide +kernel
theorem vok_83 : vrow 83 = true := by decide +kernel
theorem vok_84 : vrow 84 = true := by decide +kernel
theorem vok_85 : vrow 85 = true := by decide +kernel
theorem vok_86 : vrow 86 = true := by decide +kernel
theorem vok_87 : vrow 87 = true := by decide +kernel
theorem vok_88 : vrow 88 = true := by decide +kernel
theorem vok_89 : vrow 89 = true := by decide +kernel
theorem vok_90 : vrow 90 = true := by decide +kernel
theorem vok_91 : vrow 91 = true := by decide +kernel
theorem vok_92 : vrow 92 = true := by decide +kernel
theorem vok_93 : vrow 93 = true := by decide +kernel
theorem vok_94 : vrow 94 = true := by decide +kernel
theorem vok_95 : vrow 95 = true := by decide +kernel
theorem vok_96 : vrow 96 = true := by decide +kernel
theorem vok_97 : vrow 97 = true := by decide +kernel
theorem vok_98 : vrow 98 = true := by decide +kernel
theorem vok_99 : vrow 99 = true := by decide +kernel
theorem vok_100 : vrow 100 = true := by decide +kernel
theorem vok_101 : vrow 101 = true := by decide +kernel
theorem vok_102 : vrow 102 = true := by decide +kernel
end
section
theorem vok_103 : vrow 103 = true := by decide +kernel
theorem vok_104 : vrow 104 = true := by decide +kernel
theorem vok_105 : vrow 105 = true := by decide +kernel
theorem vok_106 : vrow 106 = true := by decide +kernel
theorem vok_107 : vrow 107 = true := by decide +kernel
theorem vok_108 : vrow 108 = true := by decide +kernel
theorem vok_109 : vrow 109 = true := by decide +kernel
theorem vok_110 : vrow 110 = true := by decide +kernel
theorem vok_111 : vrow 111 = true := by decide +kernel
theorem vok_112 : vrow 112 = true := by decide +kernel
theorem vok_113 : vrow 113 = true := by decide +kernel
theorem vok_114 : vrow 114 = true := by decide +kernel
theorem vok_115 : vrow 115 = true := by decide +kernel
theorem vok_116 : vrow 116 = true := by decide +kernel
theorem vok_117 : vrow 117 = true := by decide +kernel
theorem vok_118 : vrow 118 = true := by decide +kernel
theorem vok_119 : vrow 119 = true := by decide +kernel
theorem vok_120 : vrow 120 = true := by decide +kernel
theorem vok_121 : vrow 121 = true := by decide +kernel
theorem vok_122 : vrow 122 = true := by decide +kernel
theorem vok_123 : vrow 123 = true := by decide +kernel
theorem vok_124 : vrow 124 = true := by decide +kernel
theorem vok_125 : vrow 125 = true := by decide +kernel
theorem vok_126 : vrow 126 = true := by decide +kernel
theorem vok_127 : vrow 127 = true := by decide +kernel
theorem vok_128 : vrow 128 = true := by decide +kernel
theorem vok_129 : vrow 129 = true := by decide +kernel
theorem vok_130 : vrow 130 = true := by decide +kernel
theorem vok_131 : vrow 131 = true := by decide +kernel
theorem vok_132 : vrow 132 = true := by decide +kernel
theorem vok_133 : vrow 133 = true := by decide +kernel
theorem vok_134 : vrow 134 = true := by decide +kernel
theorem vok_135 : vrow 135 = true := by decide +kernel
theorem vok_136 : vrow 136 = true := by decide +kernel
end
section
theorem vok_137 : vrow 137 = true := by decide +kernel
theorem vok_138 : vrow 138 = true := by decide +kernel
theorem vok_139 : vrow 139 = true := by decide +kernel
theorem vok_140 : vrow 140 = true := by decide +kernel
theorem vok_141 : vrow 141 = true := by decide +kernel
theorem vok_142 : vrow 142 = true := by decide +kernel
theorem vok_143 : vrow 143 = true := by decide +kernel
theorem vok_144 : vrow 144 = true := by decide +kernel
theorem vok_145 : vrow 145 = true := by decide +kernel
theorem vok_146 : vrow 146 = true := by decide +kernel
theorem vok_147 : vrow 147 = true := by decide +kernel
theorem vok_148 : vrow 148 = true := by decide +kernel
theorem vok_149 : vrow 149 = true := by decide +kernel
theorem vok_150 : vrow 150 = true := by decide +kernel
theorem vok_151 : vrow 151 = true := by decide +kernel
theorem vok_152 : vrow 152 = true := by decide +kernel
theorem vok_153 : vrow 153 = true := by decide +kernel
theorem vok_154 : vrow 154 = true := by decide +kernel
theorem vok_155 : vrow 155 = true := by decide +kernel
theorem vok_156 : vrow 156 = true := by decide +kernel
theorem vok_157 : vrow 157 = true := by decide +kernel
theorem vok_158 : vrow 158 = true := by decide +kernel
theorem vok_159 : vrow 159 = true := by decide +kernel
theorem vok_160 : vrow 160 = true := by decide +kernel
theorem vok_161 : vrow 161 = true := by decide +kernel
theorem vok_162 : vrow 162 = true := by decide +kernel
theorem vok_163 : vrow 163 = true := by decide +kernel
theorem vok_164 : vrow 164 = true := by decide +kernel
theorem vok_165 : vrow 165 = true := by decide +kernel
theorem vok_166 : vrow 166 = true := by decide +kernel
theorem vok_167 : vrow 167 = true := by decide +kernel
theorem vok_168 : vrow 168 = true := by decide +kernel
theorem vok_169 : vrow 169 = true := by decide +kernel
theorem vok_170 : vrow 170 = true := by decide +kernel
end
section
abbrev vrL : vNr := (yL_law, cL_law, 4, (some .boolean), 99, 1, true, 9999, 9999, 9999, 48)
theorem vokL_0 : vC_171_0.all (vche vrL) = true := by decide +kernel
theorem vokL_1 : vC_171_1.all (vche vrL) = true := by decide +kernel
end
section
theorem vokL_2 : vC_171_2.all (vche vrL) = true := by decide +kernel
theorem vokL_3 : vC_171_3.all (vche vrL) = true := by decide +kernel
end
section
theorem vokL_4 : vC_171_4.all (vche vrL) = true := by decide +kernel
theorem vokL_5 : vC_171_5.all (vche vrL) = true := by decide +kernel
end
section
theorem vokL_6 : vC_171_6.all (vche vrL) = true := by decide +kernel
theorem vokL_7 : vC_171_7.all (vche vrL) = true := by decide +kernel
end
section
theorem vok_law : vrow 171 = true := by
  have h1 : vN[171]? = some vrL := by rfl
  have h2 : vC[171]? = some vC_171 := by rfl
  unfold vrow
  rw [h1, h2]
  show vC_171.all (vche vrL) = true
  unfold vC_171
  simp only [List.all_append, vokL_0, vokL_1, vokL_2, vokL_3, vokL_4, vokL_5, vokL_6, vokL_7, Bool.and_self]
theorem vn_ok_0 : vN_0.all (fun r => r.2.2.2.2.2.2.2.1 == 9999 || vnok r) = true := by decide +kernel
theorem vn_ok_1 : vN_1.all (fun r => r.2.2.2.2.2.2.2.1 == 9999 || vnok r) = true := by decide +kernel
theorem vn_ok_2 : vN_2.all (fun r => r.2.2.2.2.2.2.2.1 == 9999 || vnok r) = true := by decide +kernel
theorem vn_ok_3 : vN_3.all (fun r => r.2.2.2.2.2.2.2.1 == 9999 || vnok r) = true := by decide +kernel
theorem vn_ok_4 : vN_4.all (fun r => r.2.2.2.2.2.2.2.1 == 9999 || vnok r) = true := by decide +kernel
set_option maxRecDepth 20000 in
theorem vcw_0 : vat 81 = some (.code yX0_init cX0_init 1 none) := by rfl
set_option maxRecDepth 20000 in
theorem vcw_1 : vat 343 = some (.code yX0_holds cX0_holds 2 (some .boolean)) := by rfl
set_option maxRecDepth 20000 in
theorem vcw_2 : vat 301 = some (.code yX0_add cX0_add 2 none) := by rfl
set_option maxRecDepth 20000 in
theorem vcw_3 : vat 360 = some (.code yX0_remove cX0_remove 2 none) := by rfl
set_option maxRecDepth 20000 in
theorem vcw_4 : vat 242 = some (.code yX0_wipe cX0_wipe 2 none) := by rfl
set_option maxRecDepth 20000 in
theorem vcw_5 : vat 282 = some (.code yX0_become cX0_become 3 none) := by rfl
set_option maxRecDepth 20000 in
theorem vcw_6 : vat 373 = some (.code yX0_addAll cX0_addAll 3 none) := by rfl
set_option maxRecDepth 20000 in
theorem vcw_7 : vat 369 = some (.code yX0_removeAll cX0_removeAll 3 none) := by rfl
set_option maxRecDepth 20000 in
theorem vcw_8 : vat 365 = some (.code yX0_keepAll cX0_keepAll 3 none) := by rfl
set_option maxRecDepth 20000 in
theorem vcw_9 : vat 250 = some (.code yX0_invert cX0_invert 2 none) := by rfl
set_option maxRecDepth 20000 in
theorem vcw_10 : vat 392 = some (.code yX0_size cX0_size 3 (some .int)) := by rfl
set_option maxRecDepth 20000 in
theorem vcw_11 : vat 456 = some (.code yX0_heldWithin cX0_heldWithin 5 (some .int)) := by rfl
set_option maxRecDepth 20000 in
theorem vcw_12 : vat 339 = some (.code yX0_pick cX0_pick 6 (some .int)) := by rfl
set_option maxRecDepth 20000 in
theorem vcw_13 : vat 308 = some (.code yX0_addSpan cX0_addSpan 4 none) := by rfl
set_option maxRecDepth 20000 in
theorem vcw_14 : vat 297 = some (.code yX0_addEach cX0_addEach 4 none) := by rfl
set_option maxRecDepth 20000 in
theorem vcw_15 : vat 351 = some (.code yX0_addMoved cX0_addMoved 4 none) := by rfl
set_option maxRecDepth 20000 in
theorem vcw_16 : vat 355 = some (.code yX0_addEachNth cX0_addEachNth 5 none) := by rfl
set_option maxRecDepth 20000 in
theorem vcw_17 : vat 329 = some (.code yX0_addOfBlocks cX0_addOfBlocks 5 none) := by rfl
set_option maxRecDepth 20000 in
theorem vcw_18 : vat 493 = some (.code yX0_wordFrom cX0_wordFrom 8 (some .long)) := by rfl
set_option maxRecDepth 20000 in
theorem vcw_19 : vat 487 = some (.code yX0_comesAgainAfter cX0_comesAgainAfter 8 (some .boolean)) := by rfl
set_option maxRecDepth 20000 in
theorem vcw_20 : vat 114 = some (.code yX1_init cX1_init 1 none) := by rfl
set_option maxRecDepth 20000 in
theorem vcw_21 : vat 460 = some (.code yX1_ask cX1_ask 6 none) := by rfl
set_option maxRecDepth 20000 in
theorem vcw_22 : vat 464 = some (.code yX1_find cX1_find 6 (some .int)) := by rfl
set_option maxRecDepth 20000 in
theorem vcw_23 : vat 468 = some (.code yX1_write cX1_write 6 none) := by rfl
set_option maxRecDepth 20000 in
theorem vcw_24 : vat 472 = some (.code yX1_makeLatest cX1_makeLatest 4 none) := by rfl
set_option maxRecDepth 20000 in
theorem vcw_25 : vat 388 = some (.code yX1_forget cX1_forget 5 none) := by rfl
set_option maxRecDepth 20000 in
theorem vcw_26 : vat 623 = some (.code yX1_forgetAll cX1_forgetAll 1 none) := by rfl
set_option maxRecDepth 20000 in
theorem vcw_27 : vat 142 = some (.code yX2_init cX2_init 1 none) := by rfl
set_option maxRecDepth 20000 in
theorem vcw_28 : vat 377 = some (.code yX2_become cX2_become 3 none) := by rfl
set_option maxRecDepth 20000 in
theorem vcw_29 : vat 406 = some (.code yX2_unrule cX2_unrule 1 none) := by rfl
set_option maxRecDepth 20000 in
theorem vcw_30 : vat 614 = some (.code yX2_take cX2_take 2 none) := by rfl
set_option maxRecDepth 20000 in
theorem vcw_31 : vat 382 = some (.code yX2_refresh cX2_refresh 1 none) := by rfl
set_option maxRecDepth 20000 in
theorem vcw_32 : vat 74 = some (.code yX3_init cX3_init 2 none) := by rfl
set_option maxRecDepth 20000 in
theorem vcw_33 : vat 215 = some (.code yX3_append cX3_append 2 (some .int)) := by rfl
set_option maxRecDepth 20000 in
theorem vcw_34 : vat 223 = some (.code yX3_empty cX3_empty 2 (some .int)) := by rfl
set_option maxRecDepth 20000 in
theorem vcw_35 : vat 234 = some (.code yX3_read cX3_read 3 (some (.object "RecurringDays$Days"))) := by rfl
set_option maxRecDepth 20000 in
theorem vcw_36 : vat 263 = some (.code yX3_here cX3_here 1 (some .int)) := by rfl
set_option maxRecDepth 20000 in
theorem vcw_37 : vat 259 = some (.code yX3_take cX3_take 2 (some .boolean)) := by rfl
set_option maxRecDepth 20000 in
theorem vcw_38 : vat 238 = some (.code yX3_readSum cX3_readSum 7 (some (.object "RecurringDays$Days"))) := by rfl
set_option maxRecDepth 20000 in
theorem vcw_39 : vat 246 = some (.code yX3_readProduct cX3_readProduct 6 (some (.object "RecurringDays$Days"))) := by rfl
set_option maxRecDepth 20000 in
theorem vcw_40 : vat 255 = some (.code yX3_readFactor cX3_readFactor 5 (some (.object "RecurringDays$Days"))) := by rfl
set_option maxRecDepth 20000 in
theorem vcw_41 : vat 267 = some (.code yX3_readPlain cX3_readPlain 5 (some .boolean)) := by rfl
set_option maxRecDepth 20000 in
theorem vcw_42 : vat 270 = some (.code yX3_hasBracket cX3_hasBracket 1 (some .boolean)) := by rfl
set_option maxRecDepth 20000 in
theorem vcw_43 : vat 286 = some (.code yX3_readUnit cX3_readUnit 5 (some .boolean)) := by rfl
set_option maxRecDepth 20000 in
theorem vcw_44 : vat 312 = some (.code yX3_readPair cX3_readPair 6 (some .boolean)) := by rfl
set_option maxRecDepth 20000 in
theorem vcw_45 : vat 316 = some (.code yX3_readOfBlocks cX3_readOfBlocks 8 (some .boolean)) := by rfl
set_option maxRecDepth 20000 in
theorem vcw_46 : vat 347 = some (.code yX3_readChanged cX3_readChanged 7 (some .boolean)) := by rfl
set_option maxRecDepth 20000 in
theorem vcw_47 : vat 274 = some (.code yX3_readInner cX3_readInner 5 (some .boolean)) := by rfl
set_option maxRecDepth 20000 in
theorem vcw_48 : vat 278 = some (.code yX3_readBracket cX3_readBracket 4 (some (.object "RecurringDays$Days"))) := by rfl
set_option maxRecDepth 20000 in
theorem vcw_49 : vat 293 = some (.code yX3_readNumber cX3_readNumber 6 (some .int)) := by rfl
set_option maxRecDepth 20000 in
theorem vcw_50 : vat 289 = some (.code yX3_mostOf cX3_mostOf 1 (some .int)) := by rfl
set_option maxRecDepth 20000 in
theorem vcw_51 : vat 319 = some (.code yX3_blockOf cX3_blockOf 1 (some .int)) := by rfl
set_option maxRecDepth 20000 in
theorem vcw_52 : vat 171 = some (.code yX4_init cX4_init 1 none) := by rfl
set_option maxRecDepth 20000 in
theorem vcw_53 : vat 578 = some (.code yX4_begin cX4_begin 3 none) := by rfl
set_option maxRecDepth 20000 in
theorem vcw_54 : vat 64 = some (.code yX5_init cX5_init 2 none) := by rfl
set_option maxRecDepth 20000 in
theorem vcw_55 : vat 211 = some (.code yX5_feed cX5_feed 2 (some .int)) := by rfl
set_option maxRecDepth 20000 in
theorem vcw_56 : vat 219 = some (.code yX5_clear cX5_clear 1 (some .int)) := by rfl
set_option maxRecDepth 20000 in
theorem vcw_57 : vat 227 = some (.code yX5_rule cX5_rule 4 (some .int)) := by rfl
set_option maxRecDepth 20000 in
theorem vcw_58 : vat 402 = some (.code yX5_drop cX5_drop 4 (some .int)) := by rfl
set_option maxRecDepth 20000 in
theorem vcw_59 : vat 411 = some (.code yX5_copy cX5_copy 4 (some .int)) := by rfl
set_option maxRecDepth 20000 in
theorem vcw_60 : vat 415 = some (.code yX5_out cX5_out 3 (some .int)) := by rfl
set_option maxRecDepth 20000 in
theorem vcw_61 : vat 428 = some (.code yX5_extra cX5_extra 3 (some .int)) := by rfl
set_option maxRecDepth 20000 in
theorem vcw_62 : vat 432 = some (.code yX5_has cX5_has 3 (some .int)) := by rfl
set_option maxRecDepth 20000 in
theorem vcw_63 : vat 436 = some (.code yX5_next cX5_next 3 (some .int)) := by rfl
set_option maxRecDepth 20000 in
theorem vcw_64 : vat 441 = some (.code yX5_ahead cX5_ahead 3 (some .int)) := by rfl
set_option maxRecDepth 20000 in
theorem vcw_65 : vat 445 = some (.code yX5_at cX5_at 3 (some .int)) := by rfl
set_option maxRecDepth 20000 in
theorem vcw_66 : vat 449 = some (.code yX5_count cX5_count 5 (some .int)) := by rfl
set_option maxRecDepth 20000 in
theorem vcw_67 : vat 476 = some (.code yX5_gap cX5_gap 6 (some .int)) := by rfl
set_option maxRecDepth 20000 in
theorem vcw_68 : vat 483 = some (.code yX5_period cX5_period 3 (some .int)) := by rfl
set_option maxRecDepth 20000 in
theorem vcw_69 : vat 497 = some (.code yX5_clash cX5_clash 7 (some .int)) := by rfl
set_option maxRecDepth 20000 in
theorem vcw_70 : vat 501 = some (.code yX5_unlike cX5_unlike 6 (some .int)) := by rfl
set_option maxRecDepth 20000 in
theorem vcw_71 : vat 505 = some (.code yX5_merged cX5_merged 3 (some .int)) := by rfl
set_option maxRecDepth 20000 in
theorem vcw_72 : vat 518 = some (.code yX5_whose cX5_whose 3 (some .int)) := by rfl
set_option maxRecDepth 20000 in
theorem vcw_73 : vat 526 = some (.code yX5_busiest cX5_busiest 8 (some .int)) := by rfl
set_option maxRecDepth 20000 in
theorem vcw_74 : vat 536 = some (.code yX5_free cX5_free 6 (some .int)) := by rfl
set_option maxRecDepth 20000 in
theorem vcw_75 : vat 540 = some (.code yX5_parts cX5_parts 7 (some .int)) := by rfl
set_option maxRecDepth 20000 in
theorem vcw_76 : vat 547 = some (.code yX5_nth cX5_nth 7 (some .int)) := by rfl
set_option maxRecDepth 20000 in
theorem vcw_77 : vat 551 = some (.code yX5_told cX5_told 2 (some .int)) := by rfl
set_option maxRecDepth 20000 in
theorem vcw_78 : vat 567 = some (.code yX5_remembered cX5_remembered 3 (some .int)) := by rfl
set_option maxRecDepth 20000 in
theorem vcw_79 : vat 571 = some (.code yX5_list cX5_list 3 (some .int)) := by rfl
set_option maxRecDepth 20000 in
theorem vcw_80 : vat 582 = some (.code yX5_put cX5_put 5 (some .int)) := by rfl
set_option maxRecDepth 20000 in
theorem vcw_81 : vat 586 = some (.code yX5_get cX5_get 4 (some .int)) := by rfl
set_option maxRecDepth 20000 in
theorem vcw_82 : vat 591 = some (.code yX5_move cX5_move 8 (some .int)) := by rfl
set_option maxRecDepth 20000 in
theorem vcw_83 : vat 598 = some (.code yX5_lay cX5_lay 10 (some .int)) := by rfl
set_option maxRecDepth 20000 in
theorem vcw_84 : vat 606 = some (.code yX5_judge cX5_judge 12 (some .int)) := by rfl
set_option maxRecDepth 20000 in
theorem vcw_85 : vat 610 = some (.code yX5_image cX5_image 2 (some .int)) := by rfl
set_option maxRecDepth 20000 in
theorem vcw_86 : vat 619 = some (.code yX5_undo cX5_undo 2 (some .int)) := by rfl
set_option maxRecDepth 20000 in
theorem vcw_87 : vat 230 = some (.code yX5_isName cX5_isName 1 (some .boolean)) := by rfl
set_option maxRecDepth 20000 in
theorem vcw_88 : vat 304 = some (.code yX5_isDay cX5_isDay 1 (some .boolean)) := by rfl
set_option maxRecDepth 20000 in
theorem vcw_89 : vat 452 = some (.code yX5_isSpan cX5_isSpan 2 (some .boolean)) := by rfl
set_option maxRecDepth 20000 in
theorem vcw_90 : vat 508 = some (.code yX5_isSet cX5_isSet 1 (some .boolean)) := by rfl
set_option maxRecDepth 20000 in
theorem vcw_91 : vat 322 = some (.code yX5_isBlock cX5_isBlock 1 (some .boolean)) := by rfl
set_option maxRecDepth 20000 in
theorem vcw_92 : vat 574 = some (.code yX5_isList cX5_isList 1 (some .boolean)) := by rfl
set_option maxRecDepth 20000 in
theorem vcw_93 : vat 332 = some (.code yX5_lastOfBlock cX5_lastOfBlock 2 (some .int)) := by rfl
set_option maxRecDepth 20000 in
theorem vcw_94 : vat 419 = some (.code yX5_toggle cX5_toggle 4 (some .int)) := by rfl
set_option maxRecDepth 20000 in
theorem vcw_95 : vat 512 = some (.code yX5_join cX5_join 3 none) := by rfl
set_option maxRecDepth 20000 in
theorem vcw_96 : vat 522 = some (.code yX5_ownersOf cX5_ownersOf 4 (some .int)) := by rfl
set_option maxRecDepth 20000 in
theorem vcw_97 : vat 555 = some (.code yX5_ruledNames cX5_ruledNames 3 (some .int)) := by rfl
set_option maxRecDepth 20000 in
theorem vcw_98 : vat 559 = some (.code yX5_daysOutOfAll cX5_daysOutOfAll 3 (some .int)) := by rfl
set_option maxRecDepth 20000 in
theorem vcw_99 : vat 563 = some (.code yX5_extraDaysOfAll cX5_extraDaysOfAll 3 (some .int)) := by rfl
set_option maxRecDepth 20000 in
theorem vcw_100 : vat 602 = some (.code yX5_refusalOf cX5_refusalOf 6 (some .int)) := by rfl
set_option maxRecDepth 20000 in
theorem vcw_101 : vat 628 = some (.code yX6_init cX6_init 1 none) := by rfl
set_option maxRecDepth 20000 in
theorem vcw_102 : vat 715 = some (.code yX6_isIn cX6_isIn 6 (some .boolean)) := by rfl
set_option maxRecDepth 20000 in
theorem vcw_103 : vat 726 = some (.code yX6_isName cX6_isName 1 (some .boolean)) := by rfl
set_option maxRecDepth 20000 in
theorem vcw_104 : vat 797 = some (.code yX6_isDay cX6_isDay 1 (some .boolean)) := by rfl
set_option maxRecDepth 20000 in
theorem vcw_105 : vat 975 = some (.code yX6_pours cX6_pours 4 none) := by rfl
set_option maxRecDepth 20000 in
theorem vcw_106 : vat 765 = some (.code yX6_isOf cX6_isOf 4 (some .boolean)) := by rfl
set_option maxRecDepth 20000 in
theorem vcw_107 : vat 809 = some (.code yX6_many cX6_many 4 (some .int)) := by rfl
set_option maxRecDepth 20000 in
theorem vcw_108 : vat 711 = some (.code yX6_feed cX6_feed 2 (some .int)) := by rfl
set_option maxRecDepth 20000 in
theorem vcw_109 : vat 719 = some (.code yX6_clear cX6_clear 2 (some .int)) := by rfl
set_option maxRecDepth 20000 in
theorem vcw_110 : vat 747 = some (.code yX6_peek cX6_peek 1 (some .int)) := by rfl
set_option maxRecDepth 20000 in
theorem vcw_111 : vat 743 = some (.code yX6_isAt cX6_isAt 2 (some .boolean)) := by rfl
set_option maxRecDepth 20000 in
theorem vcw_112 : vat 755 = some (.code yX6_takes cX6_takes 2 none) := by rfl
set_option maxRecDepth 20000 in
theorem vcw_113 : vat 773 = some (.code yX6_number cX6_number 5 (some .int)) := by rfl
set_option maxRecDepth 20000 in
theorem vcw_114 : vat 761 = some (.code yX6_fresh cX6_fresh 3 (some .int)) := by rfl
set_option maxRecDepth 20000 in
theorem vcw_115 : vat 731 = some (.code yX6_expression cX6_expression 6 (some .int)) := by rfl
set_option maxRecDepth 20000 in
theorem vcw_116 : vat 735 = some (.code yX6_term cX6_term 5 (some .int)) := by rfl
set_option maxRecDepth 20000 in
theorem vcw_117 : vat 751 = some (.code yX6_bracketed cX6_bracketed 3 (some .int)) := by rfl
set_option maxRecDepth 20000 in
theorem vcw_118 : vat 739 = some (.code yX6_factor cX6_factor 8 (some .int)) := by rfl
set_option maxRecDepth 20000 in
theorem vcw_119 : vat 769 = some (.code yX6_calendar cX6_calendar 6 (some .int)) := by rfl
set_option maxRecDepth 20000 in
theorem vcw_120 : vat 779 = some (.code yX6_stretch cX6_stretch 7 (some .int)) := by rfl
set_option maxRecDepth 20000 in
theorem vcw_121 : vat 786 = some (.code yX6_blockOf cX6_blockOf 2 (some .int)) := by rfl
set_option maxRecDepth 20000 in
theorem vcw_122 : vat 783 = some (.code yX6_blocks cX6_blocks 11 (some .int)) := by rfl
set_option maxRecDepth 20000 in
theorem vcw_123 : vat 790 = some (.code yX6_over cX6_over 4 (some .int)) := by rfl
set_option maxRecDepth 20000 in
theorem vcw_124 : vat 794 = some (.code yX6_whole cX6_whole 9 (some .int)) := by rfl
set_option maxRecDepth 20000 in
theorem vcw_125 : vat 802 = some (.code yX6_forgets cX6_forgets 4 none) := by rfl
set_option maxRecDepth 20000 in
theorem vcw_126 : vat 723 = some (.code yX6_rule cX6_rule 5 (some .int)) := by rfl
set_option maxRecDepth 20000 in
theorem vcw_127 : vat 813 = some (.code yX6_drop cX6_drop 4 (some .int)) := by rfl
set_option maxRecDepth 20000 in
theorem vcw_128 : vat 817 = some (.code yX6_copy cX6_copy 4 (some .int)) := by rfl
set_option maxRecDepth 20000 in
theorem vcw_129 : vat 825 = some (.code yX6_turns cX6_turns 5 (some .int)) := by rfl
set_option maxRecDepth 20000 in
theorem vcw_130 : vat 821 = some (.code yX6_out cX6_out 3 (some .int)) := by rfl
set_option maxRecDepth 20000 in
theorem vcw_131 : vat 829 = some (.code yX6_extra cX6_extra 3 (some .int)) := by rfl
set_option maxRecDepth 20000 in
theorem vcw_132 : vat 836 = some (.code yX6_amiss cX6_amiss 2 (some .int)) := by rfl
set_option maxRecDepth 20000 in
theorem vcw_133 : vat 833 = some (.code yX6_has cX6_has 4 (some .int)) := by rfl
set_option maxRecDepth 20000 in
theorem vcw_134 : vat 844 = some (.code yX6_nextOf cX6_nextOf 4 (some .int)) := by rfl
set_option maxRecDepth 20000 in
theorem vcw_135 : vat 840 = some (.code yX6_next cX6_next 4 (some .int)) := by rfl
set_option maxRecDepth 20000 in
theorem vcw_136 : vat 848 = some (.code yX6_ahead cX6_ahead 5 (some .int)) := by rfl
set_option maxRecDepth 20000 in
theorem vcw_137 : vat 856 = some (.code yX6_ith cX6_ith 9 (some .int)) := by rfl
set_option maxRecDepth 20000 in
theorem vcw_138 : vat 852 = some (.code yX6_at cX6_at 3 (some .int)) := by rfl
set_option maxRecDepth 20000 in
theorem vcw_139 : vat 860 = some (.code yX6_counted cX6_counted 6 (some .int)) := by rfl
set_option maxRecDepth 20000 in
theorem vcw_140 : vat 806 = some (.code yX6_puts cX6_puts 6 none) := by rfl
set_option maxRecDepth 20000 in
theorem vcw_141 : vat 864 = some (.code yX6_count cX6_count 7 (some .int)) := by rfl
set_option maxRecDepth 20000 in
theorem vcw_142 : vat 868 = some (.code yX6_gap cX6_gap 5 (some .int)) := by rfl
set_option maxRecDepth 20000 in
theorem vcw_143 : vat 873 = some (.code yX6_period cX6_period 5 (some .int)) := by rfl
set_option maxRecDepth 20000 in
theorem vcw_144 : vat 877 = some (.code yX6_clash cX6_clash 5 (some .int)) := by rfl
set_option maxRecDepth 20000 in
theorem vcw_145 : vat 881 = some (.code yX6_unlike cX6_unlike 4 (some .int)) := by rfl
set_option maxRecDepth 20000 in
theorem vcw_146 : vat 888 = some (.code yX6_isSet cX6_isSet 1 (some .boolean)) := by rfl
set_option maxRecDepth 20000 in
theorem vcw_147 : vat 893 = some (.code yX6_having cX6_having 5 (some .int)) := by rfl
set_option maxRecDepth 20000 in
theorem vcw_148 : vat 897 = some (.code yX6_mergedDay cX6_mergedDay 5 (some .int)) := by rfl
set_option maxRecDepth 20000 in
theorem vcw_149 : vat 885 = some (.code yX6_merged cX6_merged 5 (some .int)) := by rfl
set_option maxRecDepth 20000 in
theorem vcw_150 : vat 901 = some (.code yX6_whose cX6_whose 4 (some .int)) := by rfl
set_option maxRecDepth 20000 in
theorem vcw_151 : vat 909 = some (.code yX6_manyAt cX6_manyAt 5 (some .int)) := by rfl
set_option maxRecDepth 20000 in
theorem vcw_152 : vat 905 = some (.code yX6_busiest cX6_busiest 8 (some .int)) := by rfl
set_option maxRecDepth 20000 in
theorem vcw_153 : vat 913 = some (.code yX6_free cX6_free 7 (some .int)) := by rfl
set_option maxRecDepth 20000 in
theorem vcw_154 : vat 921 = some (.code yX6_isBlock cX6_isBlock 1 (some .boolean)) := by rfl
set_option maxRecDepth 20000 in
theorem vcw_155 : vat 918 = some (.code yX6_parts cX6_parts 6 (some .int)) := by rfl
set_option maxRecDepth 20000 in
theorem vcw_156 : vat 926 = some (.code yX6_nth cX6_nth 7 (some .int)) := by rfl
set_option maxRecDepth 20000 in
theorem vcw_157 : vat 931 = some (.code yX6_told cX6_told 4 (some .int)) := by rfl
set_option maxRecDepth 20000 in
theorem vcw_158 : vat 935 = some (.code yX6_remembered cX6_remembered 3 (some .int)) := by rfl
set_option maxRecDepth 20000 in
theorem vcw_159 : vat 943 = some (.code yX6_isList cX6_isList 1 (some .boolean)) := by rfl
set_option maxRecDepth 20000 in
theorem vcw_160 : vat 940 = some (.code yX6_list cX6_list 4 (some .int)) := by rfl
set_option maxRecDepth 20000 in
theorem vcw_161 : vat 947 = some (.code yX6_put cX6_put 4 (some .int)) := by rfl
set_option maxRecDepth 20000 in
theorem vcw_162 : vat 951 = some (.code yX6_get cX6_get 3 (some .int)) := by rfl
set_option maxRecDepth 20000 in
theorem vcw_163 : vat 956 = some (.code yX6_move cX6_move 7 (some .int)) := by rfl
set_option maxRecDepth 20000 in
theorem vcw_164 : vat 964 = some (.code yX6_wrong cX6_wrong 5 (some .int)) := by rfl
set_option maxRecDepth 20000 in
theorem vcw_165 : vat 960 = some (.code yX6_lay cX6_lay 8 (some .int)) := by rfl
set_option maxRecDepth 20000 in
theorem vcw_166 : vat 968 = some (.code yX6_judge cX6_judge 8 (some .int)) := by rfl
set_option maxRecDepth 20000 in
theorem vcw_167 : vat 972 = some (.code yX6_image cX6_image 1 (some .int)) := by rfl
set_option maxRecDepth 20000 in
theorem vcw_168 : vat 980 = some (.code yX6_undo cX6_undo 1 (some .int)) := by rfl
set_option maxRecDepth 20000 in
theorem vcw_169 : vat 529 = some (.code yJ6_bitCount_0f7a4 cJ6_bitCount_0f7a4 1 (some .int)) := by rfl
set_option maxRecDepth 20000 in
theorem vcw_170 : vat 395 = some (.code yJ13_bitCount_95d88 cJ13_bitCount_95d88 2 (some .int)) := by rfl
abbrev vNum : Nat := 172
theorem vn_ok_all : vN.all (fun r => r.2.2.2.2.2.2.2.1 == 9999 || vnok r) = true := by
  have h : ∀ k, k < 5 → True := fun _ _ => trivial
  unfold vN
  simp only [List.all_append, Bool.and_eq_true]
  exact ⟨vn_ok_0, vn_ok_1, vn_ok_2, vn_ok_3, vn_ok_4⟩
theorem vn_init_all : vN.all (fun r => decide (r.1.name = "<init>" → r.2.2.2.1 = none)) = true := by decide +kernel
theorem vcw_all : ∀ m, m < 171 → ∀ r, vN[m]? = some r → vcw r := by
  intro m hm r hr
  match m, hm with
  | 0, _ => have e : vN[0]? = some (yX0_init, cX0_init, 1, none, 0, 0, false, 81, 80, 9999, 51) := rfl; rw [e] at hr; cases hr; exact vcw_0
  | 1, _ => have e : vN[1]? = some (yX0_holds, cX0_holds, 2, (some .boolean), 0, 1, false, 343, 341, 342, 51) := rfl; rw [e] at hr; cases hr; exact vcw_1
  | 2, _ => have e : vN[2]? = some (yX0_add, cX0_add, 2, none, 0, 1, false, 301, 299, 300, 51) := rfl; rw [e] at hr; cases hr; exact vcw_2
  | 3, _ => have e : vN[3]? = some (yX0_remove, cX0_remove, 2, none, 0, 1, false, 360, 358, 359, 51) := rfl; rw [e] at hr; cases hr; exact vcw_3
  | 4, _ => have e : vN[4]? = some (yX0_wipe, cX0_wipe, 2, none, 0, 0, false, 242, 240, 241, 51) := rfl; rw [e] at hr; cases hr; exact vcw_4
  | 5, _ => have e : vN[5]? = some (yX0_become, cX0_become, 3, none, 0, 1, false, 282, 280, 281, 51) := rfl; rw [e] at hr; cases hr; exact vcw_5
  | 6, _ => have e : vN[6]? = some (yX0_addAll, cX0_addAll, 3, none, 0, 1, false, 373, 371, 372, 51) := rfl; rw [e] at hr; cases hr; exact vcw_6
  | 7, _ => have e : vN[7]? = some (yX0_removeAll, cX0_removeAll, 3, none, 0, 1, false, 369, 367, 368, 51) := rfl; rw [e] at hr; cases hr; exact vcw_7
  | 8, _ => have e : vN[8]? = some (yX0_keepAll, cX0_keepAll, 3, none, 0, 1, false, 365, 363, 364, 51) := rfl; rw [e] at hr; cases hr; exact vcw_8
  | 9, _ => have e : vN[9]? = some (yX0_invert, cX0_invert, 2, none, 0, 0, false, 250, 248, 249, 51) := rfl; rw [e] at hr; cases hr; exact vcw_9
  | 10, _ => have e : vN[10]? = some (yX0_size, cX0_size, 3, (some .int), 0, 0, false, 392, 390, 391, 51) := rfl; rw [e] at hr; cases hr; exact vcw_10
  | 11, _ => have e : vN[11]? = some (yX0_heldWithin, cX0_heldWithin, 5, (some .int), 0, 2, false, 456, 454, 455, 51) := rfl; rw [e] at hr; cases hr; exact vcw_11
  | 12, _ => have e : vN[12]? = some (yX0_pick, cX0_pick, 6, (some .int), 0, 3, false, 339, 337, 338, 51) := rfl; rw [e] at hr; cases hr; exact vcw_12
  | 13, _ => have e : vN[13]? = some (yX0_addSpan, cX0_addSpan, 4, none, 0, 2, false, 308, 306, 307, 51) := rfl; rw [e] at hr; cases hr; exact vcw_13
  | 14, _ => have e : vN[14]? = some (yX0_addEach, cX0_addEach, 4, none, 0, 2, false, 297, 295, 296, 51) := rfl; rw [e] at hr; cases hr; exact vcw_14
  | 15, _ => have e : vN[15]? = some (yX0_addMoved, cX0_addMoved, 4, none, 0, 2, false, 351, 349, 350, 51) := rfl; rw [e] at hr; cases hr; exact vcw_15
  | 16, _ => have e : vN[16]? = some (yX0_addEachNth, cX0_addEachNth, 5, none, 0, 2, false, 355, 353, 354, 51) := rfl; rw [e] at hr; cases hr; exact vcw_16
  | 17, _ => have e : vN[17]? = some (yX0_addOfBlocks, cX0_addOfBlocks, 5, none, 0, 3, false, 329, 327, 328, 51) := rfl; rw [e] at hr; cases hr; exact vcw_17
  | 18, _ => have e : vN[18]? = some (yX0_wordFrom, cX0_wordFrom, 8, (some .long), 0, 1, false, 493, 491, 492, 51) := rfl; rw [e] at hr; cases hr; exact vcw_18
  | 19, _ => have e : vN[19]? = some (yX0_comesAgainAfter, cX0_comesAgainAfter, 8, (some .boolean), 0, 1, false, 487, 485, 486, 51) := rfl; rw [e] at hr; cases hr; exact vcw_19
  | 20, _ => have e : vN[20]? = some (yX1_init, cX1_init, 1, none, 1, 0, false, 114, 113, 9999, 52) := rfl; rw [e] at hr; cases hr; exact vcw_20
  | 21, _ => have e : vN[21]? = some (yX1_ask, cX1_ask, 6, none, 1, 4, false, 460, 458, 459, 52) := rfl; rw [e] at hr; cases hr; exact vcw_21
  | 22, _ => have e : vN[22]? = some (yX1_find, cX1_find, 6, (some .int), 1, 3, false, 464, 463, 14, 52) := rfl; rw [e] at hr; cases hr; exact vcw_22
  | 23, _ => have e : vN[23]? = some (yX1_write, cX1_write, 6, none, 1, 4, false, 468, 467, 15, 52) := rfl; rw [e] at hr; cases hr; exact vcw_23
  | 24, _ => have e : vN[24]? = some (yX1_makeLatest, cX1_makeLatest, 4, none, 1, 1, false, 472, 471, 16, 52) := rfl; rw [e] at hr; cases hr; exact vcw_24
  | 25, _ => have e : vN[25]? = some (yX1_forget, cX1_forget, 5, none, 1, 1, false, 388, 386, 387, 52) := rfl; rw [e] at hr; cases hr; exact vcw_25
  | 26, _ => have e : vN[26]? = some (yX1_forgetAll, cX1_forgetAll, 1, none, 1, 0, false, 623, 621, 622, 52) := rfl; rw [e] at hr; cases hr; exact vcw_26
  | 27, _ => have e : vN[27]? = some (yX2_init, cX2_init, 1, none, 2, 0, false, 142, 141, 9999, 53) := rfl; rw [e] at hr; cases hr; exact vcw_27
  | 28, _ => have e : vN[28]? = some (yX2_become, cX2_become, 3, none, 2, 2, false, 377, 375, 376, 53) := rfl; rw [e] at hr; cases hr; exact vcw_28
  | 29, _ => have e : vN[29]? = some (yX2_unrule, cX2_unrule, 1, none, 2, 0, false, 406, 404, 405, 53) := rfl; rw [e] at hr; cases hr; exact vcw_29
  | 30, _ => have e : vN[30]? = some (yX2_take, cX2_take, 2, none, 2, 1, false, 614, 612, 613, 53) := rfl; rw [e] at hr; cases hr; exact vcw_30
  | 31, _ => have e : vN[31]? = some (yX2_refresh, cX2_refresh, 1, none, 2, 0, false, 382, 380, 381, 53) := rfl; rw [e] at hr; cases hr; exact vcw_31
  | 32, _ => have e : vN[32]? = some (yX3_init, cX3_init, 2, none, 3, 0, false, 74, 73, 9999, 50) := rfl; rw [e] at hr; cases hr; exact vcw_32
  | 33, _ => have e : vN[33]? = some (yX3_append, cX3_append, 2, (some .int), 3, 1, false, 215, 213, 214, 50) := rfl; rw [e] at hr; cases hr; exact vcw_33
  | 34, _ => have e : vN[34]? = some (yX3_empty, cX3_empty, 2, (some .int), 3, 0, false, 223, 221, 222, 50) := rfl; rw [e] at hr; cases hr; exact vcw_34
  | 35, _ => have e : vN[35]? = some (yX3_read, cX3_read, 3, (some (.object "RecurringDays$Days")), 3, 1, false, 234, 232, 233, 50) := rfl; rw [e] at hr; cases hr; exact vcw_35
  | 36, _ => have e : vN[36]? = some (yX3_here, cX3_here, 1, (some .int), 3, 0, false, 263, 262, 4, 50) := rfl; rw [e] at hr; cases hr; exact vcw_36
  | 37, _ => have e : vN[37]? = some (yX3_take, cX3_take, 2, (some .boolean), 3, 1, false, 259, 258, 3, 50) := rfl; rw [e] at hr; cases hr; exact vcw_37
  | 38, _ => have e : vN[38]? = some (yX3_readSum, cX3_readSum, 7, (some (.object "RecurringDays$Days")), 3, 2, false, 238, 237, 0, 50) := rfl; rw [e] at hr; cases hr; exact vcw_38
  | 39, _ => have e : vN[39]? = some (yX3_readProduct, cX3_readProduct, 6, (some (.object "RecurringDays$Days")), 3, 2, false, 246, 245, 1, 50) := rfl; rw [e] at hr; cases hr; exact vcw_39
  | 40, _ => have e : vN[40]? = some (yX3_readFactor, cX3_readFactor, 5, (some (.object "RecurringDays$Days")), 3, 2, false, 255, 254, 2, 50) := rfl; rw [e] at hr; cases hr; exact vcw_40
  | 41, _ => have e : vN[41]? = some (yX3_readPlain, cX3_readPlain, 5, (some .boolean), 3, 3, false, 267, 266, 5, 50) := rfl; rw [e] at hr; cases hr; exact vcw_41
  | 42, _ => have e : vN[42]? = some (yX3_hasBracket, cX3_hasBracket, 1, (some .boolean), 3, 1, true, 270, 269, 9999, 50) := rfl; rw [e] at hr; cases hr; exact vcw_42
  | 43, _ => have e : vN[43]? = some (yX3_readUnit, cX3_readUnit, 5, (some .boolean), 3, 2, false, 286, 285, 8, 50) := rfl; rw [e] at hr; cases hr; exact vcw_43
  | 44, _ => have e : vN[44]? = some (yX3_readPair, cX3_readPair, 6, (some .boolean), 3, 2, false, 312, 311, 10, 50) := rfl; rw [e] at hr; cases hr; exact vcw_44
  | 45, _ => have e : vN[45]? = some (yX3_readOfBlocks, cX3_readOfBlocks, 8, (some .boolean), 3, 4, false, 316, 315, 11, 50) := rfl; rw [e] at hr; cases hr; exact vcw_45
  | 46, _ => have e : vN[46]? = some (yX3_readChanged, cX3_readChanged, 7, (some .boolean), 3, 4, false, 347, 346, 12, 50) := rfl; rw [e] at hr; cases hr; exact vcw_46
  | 47, _ => have e : vN[47]? = some (yX3_readInner, cX3_readInner, 5, (some .boolean), 3, 3, false, 274, 273, 6, 50) := rfl; rw [e] at hr; cases hr; exact vcw_47
  | 48, _ => have e : vN[48]? = some (yX3_readBracket, cX3_readBracket, 4, (some (.object "RecurringDays$Days")), 3, 2, false, 278, 277, 7, 50) := rfl; rw [e] at hr; cases hr; exact vcw_48
  | 49, _ => have e : vN[49]? = some (yX3_readNumber, cX3_readNumber, 6, (some .int), 3, 2, false, 293, 292, 9, 50) := rfl; rw [e] at hr; cases hr; exact vcw_49
  | 50, _ => have e : vN[50]? = some (yX3_mostOf, cX3_mostOf, 1, (some .int), 3, 1, true, 289, 288, 9999, 50) := rfl; rw [e] at hr; cases hr; exact vcw_50
  | 51, _ => have e : vN[51]? = some (yX3_blockOf, cX3_blockOf, 1, (some .int), 3, 1, true, 319, 318, 9999, 50) := rfl; rw [e] at hr; cases hr; exact vcw_51
  | 52, _ => have e : vN[52]? = some (yX4_init, cX4_init, 1, none, 4, 0, false, 171, 170, 9999, 54) := rfl; rw [e] at hr; cases hr; exact vcw_52
  | 53, _ => have e : vN[53]? = some (yX4_begin, cX4_begin, 3, none, 4, 1, false, 578, 576, 577, 54) := rfl; rw [e] at hr; cases hr; exact vcw_53
  | 54, _ => have e : vN[54]? = some (yX5_init, cX5_init, 2, none, 5, 0, false, 64, 63, 9999, 49) := rfl; rw [e] at hr; cases hr; exact vcw_54
  | 55, _ => have e : vN[55]? = some (yX5_feed, cX5_feed, 2, (some .int), 5, 1, false, 211, 209, 210, 49) := rfl; rw [e] at hr; cases hr; exact vcw_55
  | 56, _ => have e : vN[56]? = some (yX5_clear, cX5_clear, 1, (some .int), 5, 0, false, 219, 217, 218, 49) := rfl; rw [e] at hr; cases hr; exact vcw_56
  | 57, _ => have e : vN[57]? = some (yX5_rule, cX5_rule, 4, (some .int), 5, 1, false, 227, 225, 226, 49) := rfl; rw [e] at hr; cases hr; exact vcw_57
  | 58, _ => have e : vN[58]? = some (yX5_drop, cX5_drop, 4, (some .int), 5, 1, false, 402, 400, 401, 49) := rfl; rw [e] at hr; cases hr; exact vcw_58
  | 59, _ => have e : vN[59]? = some (yX5_copy, cX5_copy, 4, (some .int), 5, 2, false, 411, 409, 410, 49) := rfl; rw [e] at hr; cases hr; exact vcw_59
  | 60, _ => have e : vN[60]? = some (yX5_out, cX5_out, 3, (some .int), 5, 2, false, 415, 413, 414, 49) := rfl; rw [e] at hr; cases hr; exact vcw_60
  | 61, _ => have e : vN[61]? = some (yX5_extra, cX5_extra, 3, (some .int), 5, 2, false, 428, 426, 427, 49) := rfl; rw [e] at hr; cases hr; exact vcw_61
  | 62, _ => have e : vN[62]? = some (yX5_has, cX5_has, 3, (some .int), 5, 2, false, 432, 430, 431, 49) := rfl; rw [e] at hr; cases hr; exact vcw_62
  | 63, _ => have e : vN[63]? = some (yX5_next, cX5_next, 3, (some .int), 5, 2, false, 436, 434, 435, 49) := rfl; rw [e] at hr; cases hr; exact vcw_63
  | 64, _ => have e : vN[64]? = some (yX5_ahead, cX5_ahead, 3, (some .int), 5, 2, false, 441, 439, 440, 49) := rfl; rw [e] at hr; cases hr; exact vcw_64
  | 65, _ => have e : vN[65]? = some (yX5_at, cX5_at, 3, (some .int), 5, 2, false, 445, 443, 444, 49) := rfl; rw [e] at hr; cases hr; exact vcw_65
  | 66, _ => have e : vN[66]? = some (yX5_count, cX5_count, 5, (some .int), 5, 3, false, 449, 447, 448, 49) := rfl; rw [e] at hr; cases hr; exact vcw_66
  | 67, _ => have e : vN[67]? = some (yX5_gap, cX5_gap, 6, (some .int), 5, 1, false, 476, 474, 475, 49) := rfl; rw [e] at hr; cases hr; exact vcw_67
  | 68, _ => have e : vN[68]? = some (yX5_period, cX5_period, 3, (some .int), 5, 1, false, 483, 481, 482, 49) := rfl; rw [e] at hr; cases hr; exact vcw_68
  | 69, _ => have e : vN[69]? = some (yX5_clash, cX5_clash, 7, (some .int), 5, 3, false, 497, 495, 496, 49) := rfl; rw [e] at hr; cases hr; exact vcw_69
  | 70, _ => have e : vN[70]? = some (yX5_unlike, cX5_unlike, 6, (some .int), 5, 2, false, 501, 499, 500, 49) := rfl; rw [e] at hr; cases hr; exact vcw_70
  | 71, _ => have e : vN[71]? = some (yX5_merged, cX5_merged, 3, (some .int), 5, 2, false, 505, 503, 504, 49) := rfl; rw [e] at hr; cases hr; exact vcw_71
  | 72, _ => have e : vN[72]? = some (yX5_whose, cX5_whose, 3, (some .int), 5, 2, false, 518, 516, 517, 49) := rfl; rw [e] at hr; cases hr; exact vcw_72
  | 73, _ => have e : vN[73]? = some (yX5_busiest, cX5_busiest, 8, (some .int), 5, 3, false, 526, 524, 525, 49) := rfl; rw [e] at hr; cases hr; exact vcw_73
  | 74, _ => have e : vN[74]? = some (yX5_free, cX5_free, 6, (some .int), 5, 3, false, 536, 534, 535, 49) := rfl; rw [e] at hr; cases hr; exact vcw_74
  | 75, _ => have e : vN[75]? = some (yX5_parts, cX5_parts, 7, (some .int), 5, 3, false, 540, 538, 539, 49) := rfl; rw [e] at hr; cases hr; exact vcw_75
  | 76, _ => have e : vN[76]? = some (yX5_nth, cX5_nth, 7, (some .int), 5, 4, false, 547, 545, 546, 49) := rfl; rw [e] at hr; cases hr; exact vcw_76
  | 77, _ => have e : vN[77]? = some (yX5_told, cX5_told, 2, (some .int), 5, 1, false, 551, 549, 550, 49) := rfl; rw [e] at hr; cases hr; exact vcw_77
  | 78, _ => have e : vN[78]? = some (yX5_remembered, cX5_remembered, 3, (some .int), 5, 2, false, 567, 565, 566, 49) := rfl; rw [e] at hr; cases hr; exact vcw_78
  | 79, _ => have e : vN[79]? = some (yX5_list, cX5_list, 3, (some .int), 5, 2, false, 571, 569, 570, 49) := rfl; rw [e] at hr; cases hr; exact vcw_79
  | 80, _ => have e : vN[80]? = some (yX5_put, cX5_put, 5, (some .int), 5, 3, false, 582, 580, 581, 49) := rfl; rw [e] at hr; cases hr; exact vcw_80
  | 81, _ => have e : vN[81]? = some (yX5_get, cX5_get, 4, (some .int), 5, 2, false, 586, 584, 585, 49) := rfl; rw [e] at hr; cases hr; exact vcw_81
  | 82, _ => have e : vN[82]? = some (yX5_move, cX5_move, 8, (some .int), 5, 5, false, 591, 589, 590, 49) := rfl; rw [e] at hr; cases hr; exact vcw_82
  | 83, _ => have e : vN[83]? = some (yX5_lay, cX5_lay, 10, (some .int), 5, 4, false, 598, 596, 597, 49) := rfl; rw [e] at hr; cases hr; exact vcw_83
  | 84, _ => have e : vN[84]? = some (yX5_judge, cX5_judge, 12, (some .int), 5, 4, false, 606, 604, 605, 49) := rfl; rw [e] at hr; cases hr; exact vcw_84
  | 85, _ => have e : vN[85]? = some (yX5_image, cX5_image, 2, (some .int), 5, 0, false, 610, 608, 609, 49) := rfl; rw [e] at hr; cases hr; exact vcw_85
  | 86, _ => have e : vN[86]? = some (yX5_undo, cX5_undo, 2, (some .int), 5, 0, false, 619, 617, 618, 49) := rfl; rw [e] at hr; cases hr; exact vcw_86
  | 87, _ => have e : vN[87]? = some (yX5_isName, cX5_isName, 1, (some .boolean), 5, 1, true, 230, 229, 9999, 49) := rfl; rw [e] at hr; cases hr; exact vcw_87
  | 88, _ => have e : vN[88]? = some (yX5_isDay, cX5_isDay, 1, (some .boolean), 5, 1, true, 304, 303, 9999, 49) := rfl; rw [e] at hr; cases hr; exact vcw_88
  | 89, _ => have e : vN[89]? = some (yX5_isSpan, cX5_isSpan, 2, (some .boolean), 5, 2, true, 452, 451, 9999, 49) := rfl; rw [e] at hr; cases hr; exact vcw_89
  | 90, _ => have e : vN[90]? = some (yX5_isSet, cX5_isSet, 1, (some .boolean), 5, 1, true, 508, 507, 9999, 49) := rfl; rw [e] at hr; cases hr; exact vcw_90
  | 91, _ => have e : vN[91]? = some (yX5_isBlock, cX5_isBlock, 1, (some .boolean), 5, 1, true, 322, 321, 9999, 49) := rfl; rw [e] at hr; cases hr; exact vcw_91
  | 92, _ => have e : vN[92]? = some (yX5_isList, cX5_isList, 1, (some .boolean), 5, 1, true, 574, 573, 9999, 49) := rfl; rw [e] at hr; cases hr; exact vcw_92
  | 93, _ => have e : vN[93]? = some (yX5_lastOfBlock, cX5_lastOfBlock, 2, (some .int), 5, 2, true, 332, 331, 9999, 49) := rfl; rw [e] at hr; cases hr; exact vcw_93
  | 94, _ => have e : vN[94]? = some (yX5_toggle, cX5_toggle, 4, (some .int), 5, 3, false, 419, 418, 13, 49) := rfl; rw [e] at hr; cases hr; exact vcw_94
  | 95, _ => have e : vN[95]? = some (yX5_join, cX5_join, 3, none, 5, 1, false, 512, 511, 17, 49) := rfl; rw [e] at hr; cases hr; exact vcw_95
  | 96, _ => have e : vN[96]? = some (yX5_ownersOf, cX5_ownersOf, 4, (some .int), 5, 1, false, 522, 521, 18, 49) := rfl; rw [e] at hr; cases hr; exact vcw_96
  | 97, _ => have e : vN[97]? = some (yX5_ruledNames, cX5_ruledNames, 3, (some .int), 5, 0, false, 555, 554, 19, 49) := rfl; rw [e] at hr; cases hr; exact vcw_97
  | 98, _ => have e : vN[98]? = some (yX5_daysOutOfAll, cX5_daysOutOfAll, 3, (some .int), 5, 0, false, 559, 558, 20, 49) := rfl; rw [e] at hr; cases hr; exact vcw_98
  | 99, _ => have e : vN[99]? = some (yX5_extraDaysOfAll, cX5_extraDaysOfAll, 3, (some .int), 5, 0, false, 563, 562, 21, 49) := rfl; rw [e] at hr; cases hr; exact vcw_99
  | 100, _ => have e : vN[100]? = some (yX5_refusalOf, cX5_refusalOf, 6, (some .int), 5, 4, false, 602, 601, 22, 49) := rfl; rw [e] at hr; cases hr; exact vcw_100
  | 101, _ => have e : vN[101]? = some (yX6_init, cX6_init, 1, none, 6, 0, false, 628, 627, 9999, 55) := rfl; rw [e] at hr; cases hr; exact vcw_101
  | 102, _ => have e : vN[102]? = some (yX6_isIn, cX6_isIn, 6, (some .boolean), 6, 3, true, 715, 714, 9999, 55) := rfl; rw [e] at hr; cases hr; exact vcw_102
  | 103, _ => have e : vN[103]? = some (yX6_isName, cX6_isName, 1, (some .boolean), 6, 1, true, 726, 725, 9999, 55) := rfl; rw [e] at hr; cases hr; exact vcw_103
  | 104, _ => have e : vN[104]? = some (yX6_isDay, cX6_isDay, 1, (some .boolean), 6, 1, true, 797, 796, 9999, 55) := rfl; rw [e] at hr; cases hr; exact vcw_104
  | 105, _ => have e : vN[105]? = some (yX6_pours, cX6_pours, 4, none, 6, 3, true, 975, 974, 9999, 55) := rfl; rw [e] at hr; cases hr; exact vcw_105
  | 106, _ => have e : vN[106]? = some (yX6_isOf, cX6_isOf, 4, (some .boolean), 6, 2, false, 765, 764, 31, 55) := rfl; rw [e] at hr; cases hr; exact vcw_106
  | 107, _ => have e : vN[107]? = some (yX6_many, cX6_many, 4, (some .int), 6, 2, true, 809, 808, 9999, 55) := rfl; rw [e] at hr; cases hr; exact vcw_107
  | 108, _ => have e : vN[108]? = some (yX6_feed, cX6_feed, 2, (some .int), 6, 1, false, 711, 709, 710, 55) := rfl; rw [e] at hr; cases hr; exact vcw_108
  | 109, _ => have e : vN[109]? = some (yX6_clear, cX6_clear, 2, (some .int), 6, 0, false, 719, 717, 718, 55) := rfl; rw [e] at hr; cases hr; exact vcw_109
  | 110, _ => have e : vN[110]? = some (yX6_peek, cX6_peek, 1, (some .int), 6, 0, false, 747, 746, 27, 55) := rfl; rw [e] at hr; cases hr; exact vcw_110
  | 111, _ => have e : vN[111]? = some (yX6_isAt, cX6_isAt, 2, (some .boolean), 6, 1, false, 743, 742, 26, 55) := rfl; rw [e] at hr; cases hr; exact vcw_111
  | 112, _ => have e : vN[112]? = some (yX6_takes, cX6_takes, 2, none, 6, 1, false, 755, 754, 29, 55) := rfl; rw [e] at hr; cases hr; exact vcw_112
  | 113, _ => have e : vN[113]? = some (yX6_number, cX6_number, 5, (some .int), 6, 2, false, 773, 772, 33, 55) := rfl; rw [e] at hr; cases hr; exact vcw_113
  | 114, _ => have e : vN[114]? = some (yX6_fresh, cX6_fresh, 3, (some .int), 6, 0, false, 761, 760, 30, 55) := rfl; rw [e] at hr; cases hr; exact vcw_114
  | 115, _ => have e : vN[115]? = some (yX6_expression, cX6_expression, 6, (some .int), 6, 1, false, 731, 730, 23, 55) := rfl; rw [e] at hr; cases hr; exact vcw_115
  | 116, _ => have e : vN[116]? = some (yX6_term, cX6_term, 5, (some .int), 6, 1, false, 735, 734, 24, 55) := rfl; rw [e] at hr; cases hr; exact vcw_116
  | 117, _ => have e : vN[117]? = some (yX6_bracketed, cX6_bracketed, 3, (some .int), 6, 1, false, 751, 750, 28, 55) := rfl; rw [e] at hr; cases hr; exact vcw_117
  | 118, _ => have e : vN[118]? = some (yX6_factor, cX6_factor, 8, (some .int), 6, 2, false, 739, 738, 25, 55) := rfl; rw [e] at hr; cases hr; exact vcw_118
  | 119, _ => have e : vN[119]? = some (yX6_calendar, cX6_calendar, 6, (some .int), 6, 1, false, 769, 768, 32, 55) := rfl; rw [e] at hr; cases hr; exact vcw_119
  | 120, _ => have e : vN[120]? = some (yX6_stretch, cX6_stretch, 7, (some .int), 6, 1, false, 779, 778, 34, 55) := rfl; rw [e] at hr; cases hr; exact vcw_120
  | 121, _ => have e : vN[121]? = some (yX6_blockOf, cX6_blockOf, 2, (some .int), 6, 2, true, 786, 785, 9999, 55) := rfl; rw [e] at hr; cases hr; exact vcw_121
  | 122, _ => have e : vN[122]? = some (yX6_blocks, cX6_blocks, 11, (some .int), 6, 2, false, 783, 782, 35, 55) := rfl; rw [e] at hr; cases hr; exact vcw_122
  | 123, _ => have e : vN[123]? = some (yX6_over, cX6_over, 4, (some .int), 6, 2, false, 790, 789, 36, 55) := rfl; rw [e] at hr; cases hr; exact vcw_123
  | 124, _ => have e : vN[124]? = some (yX6_whole, cX6_whole, 9, (some .int), 6, 2, false, 794, 793, 37, 55) := rfl; rw [e] at hr; cases hr; exact vcw_124
  | 125, _ => have e : vN[125]? = some (yX6_forgets, cX6_forgets, 4, none, 6, 1, false, 802, 801, 38, 55) := rfl; rw [e] at hr; cases hr; exact vcw_125
  | 126, _ => have e : vN[126]? = some (yX6_rule, cX6_rule, 5, (some .int), 6, 1, false, 723, 721, 722, 55) := rfl; rw [e] at hr; cases hr; exact vcw_126
  | 127, _ => have e : vN[127]? = some (yX6_drop, cX6_drop, 4, (some .int), 6, 1, false, 813, 811, 812, 55) := rfl; rw [e] at hr; cases hr; exact vcw_127
  | 128, _ => have e : vN[128]? = some (yX6_copy, cX6_copy, 4, (some .int), 6, 2, false, 817, 815, 816, 55) := rfl; rw [e] at hr; cases hr; exact vcw_128
  | 129, _ => have e : vN[129]? = some (yX6_turns, cX6_turns, 5, (some .int), 6, 3, false, 825, 824, 40, 55) := rfl; rw [e] at hr; cases hr; exact vcw_129
  | 130, _ => have e : vN[130]? = some (yX6_out, cX6_out, 3, (some .int), 6, 2, false, 821, 819, 820, 55) := rfl; rw [e] at hr; cases hr; exact vcw_130
  | 131, _ => have e : vN[131]? = some (yX6_extra, cX6_extra, 3, (some .int), 6, 2, false, 829, 827, 828, 55) := rfl; rw [e] at hr; cases hr; exact vcw_131
  | 132, _ => have e : vN[132]? = some (yX6_amiss, cX6_amiss, 2, (some .int), 6, 2, true, 836, 835, 9999, 55) := rfl; rw [e] at hr; cases hr; exact vcw_132
  | 133, _ => have e : vN[133]? = some (yX6_has, cX6_has, 4, (some .int), 6, 2, false, 833, 831, 832, 55) := rfl; rw [e] at hr; cases hr; exact vcw_133
  | 134, _ => have e : vN[134]? = some (yX6_nextOf, cX6_nextOf, 4, (some .int), 6, 2, false, 844, 843, 41, 55) := rfl; rw [e] at hr; cases hr; exact vcw_134
  | 135, _ => have e : vN[135]? = some (yX6_next, cX6_next, 4, (some .int), 6, 2, false, 840, 838, 839, 55) := rfl; rw [e] at hr; cases hr; exact vcw_135
  | 136, _ => have e : vN[136]? = some (yX6_ahead, cX6_ahead, 5, (some .int), 6, 2, false, 848, 846, 847, 55) := rfl; rw [e] at hr; cases hr; exact vcw_136
  | 137, _ => have e : vN[137]? = some (yX6_ith, cX6_ith, 9, (some .int), 6, 4, false, 856, 855, 42, 55) := rfl; rw [e] at hr; cases hr; exact vcw_137
  | 138, _ => have e : vN[138]? = some (yX6_at, cX6_at, 3, (some .int), 6, 2, false, 852, 850, 851, 55) := rfl; rw [e] at hr; cases hr; exact vcw_138
  | 139, _ => have e : vN[139]? = some (yX6_counted, cX6_counted, 6, (some .int), 6, 3, false, 860, 859, 43, 55) := rfl; rw [e] at hr; cases hr; exact vcw_139
  | 140, _ => have e : vN[140]? = some (yX6_puts, cX6_puts, 6, none, 6, 5, false, 806, 805, 39, 55) := rfl; rw [e] at hr; cases hr; exact vcw_140
  | 141, _ => have e : vN[141]? = some (yX6_count, cX6_count, 7, (some .int), 6, 3, false, 864, 862, 863, 55) := rfl; rw [e] at hr; cases hr; exact vcw_141
  | 142, _ => have e : vN[142]? = some (yX6_gap, cX6_gap, 5, (some .int), 6, 1, false, 868, 866, 867, 55) := rfl; rw [e] at hr; cases hr; exact vcw_142
  | 143, _ => have e : vN[143]? = some (yX6_period, cX6_period, 5, (some .int), 6, 1, false, 873, 871, 872, 55) := rfl; rw [e] at hr; cases hr; exact vcw_143
  | 144, _ => have e : vN[144]? = some (yX6_clash, cX6_clash, 5, (some .int), 6, 3, false, 877, 875, 876, 55) := rfl; rw [e] at hr; cases hr; exact vcw_144
  | 145, _ => have e : vN[145]? = some (yX6_unlike, cX6_unlike, 4, (some .int), 6, 2, false, 881, 879, 880, 55) := rfl; rw [e] at hr; cases hr; exact vcw_145
  | 146, _ => have e : vN[146]? = some (yX6_isSet, cX6_isSet, 1, (some .boolean), 6, 1, true, 888, 887, 9999, 55) := rfl; rw [e] at hr; cases hr; exact vcw_146
  | 147, _ => have e : vN[147]? = some (yX6_having, cX6_having, 5, (some .int), 6, 2, false, 893, 892, 44, 55) := rfl; rw [e] at hr; cases hr; exact vcw_147
  | 148, _ => have e : vN[148]? = some (yX6_mergedDay, cX6_mergedDay, 5, (some .int), 6, 2, false, 897, 896, 45, 55) := rfl; rw [e] at hr; cases hr; exact vcw_148
  | 149, _ => have e : vN[149]? = some (yX6_merged, cX6_merged, 5, (some .int), 6, 2, false, 885, 883, 884, 55) := rfl; rw [e] at hr; cases hr; exact vcw_149
  | 150, _ => have e : vN[150]? = some (yX6_whose, cX6_whose, 4, (some .int), 6, 2, false, 901, 899, 900, 55) := rfl; rw [e] at hr; cases hr; exact vcw_150
  | 151, _ => have e : vN[151]? = some (yX6_manyAt, cX6_manyAt, 5, (some .int), 6, 1, false, 909, 908, 46, 55) := rfl; rw [e] at hr; cases hr; exact vcw_151
  | 152, _ => have e : vN[152]? = some (yX6_busiest, cX6_busiest, 8, (some .int), 6, 3, false, 905, 903, 904, 55) := rfl; rw [e] at hr; cases hr; exact vcw_152
  | 153, _ => have e : vN[153]? = some (yX6_free, cX6_free, 7, (some .int), 6, 3, false, 913, 911, 912, 55) := rfl; rw [e] at hr; cases hr; exact vcw_153
  | 154, _ => have e : vN[154]? = some (yX6_isBlock, cX6_isBlock, 1, (some .boolean), 6, 1, true, 921, 920, 9999, 55) := rfl; rw [e] at hr; cases hr; exact vcw_154
  | 155, _ => have e : vN[155]? = some (yX6_parts, cX6_parts, 6, (some .int), 6, 3, false, 918, 916, 917, 55) := rfl; rw [e] at hr; cases hr; exact vcw_155
  | 156, _ => have e : vN[156]? = some (yX6_nth, cX6_nth, 7, (some .int), 6, 4, false, 926, 924, 925, 55) := rfl; rw [e] at hr; cases hr; exact vcw_156
  | 157, _ => have e : vN[157]? = some (yX6_told, cX6_told, 4, (some .int), 6, 1, false, 931, 929, 930, 55) := rfl; rw [e] at hr; cases hr; exact vcw_157
  | 158, _ => have e : vN[158]? = some (yX6_remembered, cX6_remembered, 3, (some .int), 6, 2, false, 935, 933, 934, 55) := rfl; rw [e] at hr; cases hr; exact vcw_158
  | 159, _ => have e : vN[159]? = some (yX6_isList, cX6_isList, 1, (some .boolean), 6, 1, true, 943, 942, 9999, 55) := rfl; rw [e] at hr; cases hr; exact vcw_159
  | 160, _ => have e : vN[160]? = some (yX6_list, cX6_list, 4, (some .int), 6, 2, false, 940, 938, 939, 55) := rfl; rw [e] at hr; cases hr; exact vcw_160
  | 161, _ => have e : vN[161]? = some (yX6_put, cX6_put, 4, (some .int), 6, 3, false, 947, 945, 946, 55) := rfl; rw [e] at hr; cases hr; exact vcw_161
  | 162, _ => have e : vN[162]? = some (yX6_get, cX6_get, 3, (some .int), 6, 2, false, 951, 949, 950, 55) := rfl; rw [e] at hr; cases hr; exact vcw_162
  | 163, _ => have e : vN[163]? = some (yX6_move, cX6_move, 7, (some .int), 6, 5, false, 956, 954, 955, 55) := rfl; rw [e] at hr; cases hr; exact vcw_163
  | 164, _ => have e : vN[164]? = some (yX6_wrong, cX6_wrong, 5, (some .int), 6, 4, false, 964, 963, 47, 55) := rfl; rw [e] at hr; cases hr; exact vcw_164
  | 165, _ => have e : vN[165]? = some (yX6_lay, cX6_lay, 8, (some .int), 6, 4, false, 960, 958, 959, 55) := rfl; rw [e] at hr; cases hr; exact vcw_165
  | 166, _ => have e : vN[166]? = some (yX6_judge, cX6_judge, 8, (some .int), 6, 4, false, 968, 966, 967, 55) := rfl; rw [e] at hr; cases hr; exact vcw_166
  | 167, _ => have e : vN[167]? = some (yX6_image, cX6_image, 1, (some .int), 6, 0, false, 972, 970, 971, 55) := rfl; rw [e] at hr; cases hr; exact vcw_167
  | 168, _ => have e : vN[168]? = some (yX6_undo, cX6_undo, 1, (some .int), 6, 0, false, 980, 978, 979, 55) := rfl; rw [e] at hr; cases hr; exact vcw_168
  | 169, _ => have e : vN[169]? = some (yJ6_bitCount_0f7a4, cJ6_bitCount_0f7a4, 1, (some .int), 99, 1, true, 529, 528, 9999, 58) := rfl; rw [e] at hr; cases hr; exact vcw_169
  | 170, _ => have e : vN[170]? = some (yJ13_bitCount_95d88, cJ13_bitCount_95d88, 2, (some .int), 99, 1, true, 395, 394, 9999, 57) := rfl; rw [e] at hr; cases hr; exact vcw_170
  | k + 171, h => exact absurd h (by omega)
theorem vrow_all : ∀ m, m < 172 → vrow m = true := by
  intro m hm
  match m, hm with
  | 0, _ => exact vok_0
  | 1, _ => exact vok_1
  | 2, _ => exact vok_2
  | 3, _ => exact vok_3
  | 4, _ => exact vok_4
  | 5, _ => exact vok_5
  | 6, _ => exact vok_6
  | 7, _ => exact vok_7
  | 8, _ => exact vok_8
  | 9, _ => exact vok_9
  | 10, _ => exact vok_10
  | 11, _ => exact vok_11
  | 12, _ => exact vok_12
  | 13, _ => exact vok_13
  | 14, _ => exact vok_14
  | 15, _ => exact vok_15
  | 16, _ => exact vok_16
  | 17, _ => exact vok_17
  | 18, _ => exact vok_18
  | 19, _ => exact vok_19
  | 20, _ => exact vok_20
  | 21, _ => exact vok_21
  | 22, _ => exact vok_22
  | 23, _ => exact vok_23
  | 24, _ => exact vok_24
  | 25, _ => exact vok_25
  | 26, _ => exact vok_26
  | 27, _ => exact vok_27
  | 28, _ => exact vok_28
  | 29, _ => exact vok_29
  | 30, _ => exact vok_30
  | 31, _ => exact vok_31
  | 32, _ => exact vok_32
  | 33, _ => exact vok_33
  | 34, _ => exact vok_34
  | 35, _ => exact vok_35
  | 36, _ => exact vok_36
  | 37, _ => exact vok_37
  | 38, _ => exact vok_38
  | 39, _ => exact vok_39
  | 40, _ => exact vok_40
  | 41, _ => exact vok_41
  | 42, _ => exact vok_42
  | 43, _ => exact vok_43
  | 44, _ => exact vok_44
  | 45, _ => exact vok_45
  | 46, _ => exact vok_46
  | 47, _ => exact vok_47
  | 48, _ => exact vok_48
  | 49, _ => exact vok_49
  | 50, _ => exact vok_50
  | 51, _ => exact vok_51
  | 52, _ => exact vok_52
  | 53, _ => exact vok_53
  | 54, _ => exact vok_54
  | 55, _ => exact vok_55
  | 56, _ => exact vok_56
  | 57, _ => exact vok_57
  | 58, _ => exact vok_58
  | 59, _ => exact vok_59
  | 60, _ => exact vok_60
  | 61, _ => exact vok_61
  | 62, _ => exact vok_62
  | 63, _ => exact vok_63
  | 64, _ => exact vok_64
  | 65, _ => exact vok_65
  | 66, _ => exact vok_66
  | 67, _ => exact vok_67
  | 68, _ => exact vok_68
  | 69, _ => exact vok_69
  | 70, _ => exact vok_70
  | 71, _ => exact vok_71
  | 72, _ => exact vok_72
  | 73, _ => exact vok_73
  | 74, _ => exact vok_74
  | 75, _ => exact vok_75
  | 76, _ => exact vok_76
  | 77, _ => exact vok_77
  | 78, _ => exact vok_78
  | 79, _ => exact vok_79
  | 80, _ => exact vok_80
  | 81, _ => exact vok_81
  | 82, _ => exact vok_82
  | 83, _ => exact vok_83
  | 84, _ => exact vok_84
  | 85, _ => exact vok_85
  | 86, _ => exact vok_86
  | 87, _ => exact vok_87
  | 88, _ => exact vok_88
  | 89, _ => exact vok_89
  | 90, _ => exact vok_90
  | 91, _ => exact vok_91
  | 92, _ => exact vok_92
  | 93, _ => exact vok_93
  | 94, _ => exact vok_94
  | 95, _ => exact vok_95
  | 96, _ => exact vok_96
  | 97, _ => exact vok_97
  | 98, _ => exact vok_98
  | 99, _ => exact vok_99
  | 100, _ => exact vok_100
  | 101, _ => exact vok_101
  | 102, _ => exact vok_102
  | 103, _ => exact vok_103
  | 104, _ => exact vok_104
  | 105, _ => exact vok_105
  | 106, _ => exact vok_106
  | 107, _ => exact vok_107
  | 108, _ => exact vok_108
  | 109, _ => exact vok_109
  | 110, _ => exact vok_110
  | 111, _ => exact vok_111
  | 112, _ => exact vok_112
  | 113, _ => exact vok_113
  | 114, _ => exact vok_114
  | 115, _ => exact vok_115
  | 116, _ => exact vok_116
  | 117, _ => exact vok_117
  | 118, _ => exact vok_118
  | 119, _ => exact vok_119
  | 120, _ => exact vok_120
  | 121, _ => exact vok_121
  | 122, _ => exact vok_122
  | 123, _ => exact vok_123
  | 124, _ => exact vok_124
  | 125, _ => exact vok_125
  | 126, _ => exact vok_126
  | 127, _ => exact vok_127
  | 128, _ => exact vok_128
  | 129, _ => exact vok_129
  | 130, _ => exact vok_130
  | 131, _ => exact vok_131
  | 132, _ => exact vok_132
  | 133, _ => exact vok_133
  | 134, _ => exact vok_134
  | 135, _ => exact vok_135
  | 136, _ => exact vok_136
  | 137, _ => exact vok_137
  | 138, _ => exact vok_138
  | 139, _ => exact vok_139
  | 140, _ => exact vok_140
  | 141, _ => exact vok_141
  | 142, _ => exact vok_142
  | 143, _ => exact vok_143
  | 144, _ => exact vok_144
  | 145, _ => exact vok_145
  | 146, _ => exact vok_146
  | 147, _ => exact vok_147
  | 148, _ => exact vok_148
  | 149, _ => exact vok_149
  | 150, _ => exact vok_150
  | 151, _ => exact vok_151
  | 152, _ => exact vok_152
  | 153, _ => exact vok_153
  | 154, _ => exact vok_154
  | 155, _ => exact vok_155
  | 156, _ => exact vok_156
  | 157, _ => exact vok_157
  | 158, _ => exact vok_158
  | 159, _ => exact vok_159
  | 160, _ => exact vok_160
  | 161, _ => exact vok_161
  | 162, _ => exact vok_162
  | 163, _ => exact vok_163
  | 164, _ => exact vok_164
  | 165, _ => exact vok_165
  | 166, _ => exact vok_166
  | 167, _ => exact vok_167
  | 168, _ => exact vok_168
  | 169, _ => exact vok_169
  | 170, _ => exact vok_170
  | 171, _ => exact vok_law
  | k + 172, h => exact absurd h (by omega)
end
section

/-! THE SHORT MACHINE. A heap is: (the first address that may be written, the address of BLOCK_LENGTHS), its size, what each address holds.
A cell: a row (kind, length, contents) or an object (class, fields). Numbers of ints and longs are written as whole numbers (iI, lZ).
vW says: by the rules, this state of a method comes to a return with R. -/
abbrev vHole : Value := .retAddr 0
abbrev vE : Type := (Nat × Nat × ((Nat → Int) ⊕ (Nat → Option Nat))) ⊕ (Nat × List Value)
abbrev vHp : Type := (Nat × Nat) × Nat × (Nat → Option vE)
def hg (h : vHp) (q : Nat) : Option vE := h.2.2 q
abbrev vP : Type := Nat → List Value → List Value → vHp → Nat → Nat → Prop
abbrev vQ : Type := Option Value → vHp → Prop
abbrev vCt : Type := Nat → Nat → Nat → List Value → vHp → vQ → Prop
def vlk (m pc : Nat) : Option (Nat × Nat × Nat × Int × Nat) := ((vC[m]?).bind fun l => l.find? fun e => e.1 == pc).map fun e => (e.2.2.2.1, e.2.2.2.2.1, e.2.2.2.2.2.1, e.2.2.2.2.2.2.1, pc + e.2.2.1)
/-- a method's receiver class, and how many arguments -/
def vrc (m : Nat) : Option (Nat × Nat) := if m < vNum - 1 then (vN[m]?).map fun r => (r.2.2.2.2.1, r.2.2.2.2.2.1) else none
def vml (m : Nat) : Nat := match vN[m]? with
  | some r => r.2.2.1
  | none => 0
def vgt : List Value → Nat → Option Value
  | [], _ => none
  | v :: _, 0 => some v
  | _ :: l, n + 1 => vgt l n
def vst : List Value → Nat → Value → List Value
  | [], _, _ => []
  | _ :: l, 0, v => v :: l
  | w :: l, n + 1, v => w :: vst l n v
/-- a place may be stored to: it is there, and no long stands just ahead of it -/
def vpo : List Value → Nat → Bool
  | [], _ => false
  | _ :: _, 0 => true
  | [_], _ + 1 => false
  | v :: _ :: _, 1 => v.category != 2
  | _ :: w :: l, n + 2 => vpo (w :: l) (n + 1)
def vexp : List Value → List Value
  | [] => []
  | .long x :: l => .long x :: vHole :: vexp l
  | .double x :: l => .double x :: vHole :: vexp l
  | v :: l => v :: vexp l
def vpad : Nat → List Value → List Value
  | 0, l => l
  | n + 1, [] => vHole :: vpad n []
  | n + 1, v :: l => v :: vpad n l
def vpush : Option Value → List Value → List Value
  | none, st => st
  | some v, st => v :: st
def vup {α : Type} (f : Nat → α) (k : Nat) (x : α) : Nat → α := fun j => if j = k then x else f j
def vcpy (f g : Nat → Int) (sp dp n : Nat) : Nat → Int := fun k => if dp ≤ k ∧ k < dp + n then f (sp + (k - dp)) else g k
def vcmp (x y : Int) : Int := if x < y then -1 else if x = y then 0 else 1
def vandI (x y : Int) : Int := (iI x &&& iI y).toInt
def vorI (x y : Int) : Int := (iI x ||| iI y).toInt
def vshlI (x y : Int) : Int := (iI x <<< (iI y &&& 31)).toInt
def vshrI (x y : Int) : Int := (iI x >>> (iI y &&& 31)).toInt
def vushrI (x y : Int) : Int := ((iI x).toUInt32 >>> ((iI y).toUInt32 &&& Int32.toUInt32 31)).toInt32.toInt
def vandL (x y : Int) : Int := (lZ x &&& lZ y).toInt
def vorL (x y : Int) : Int := (lZ x ||| lZ y).toInt
def vxorL (x y : Int) : Int := (lZ x ^^^ lZ y).toInt
def vshlL (x y : Int) : Int := (lZ x <<< ((iI y).toInt64 &&& 63)).toInt
def vshrL (x y : Int) : Int := (lZ x >>> ((iI y).toInt64 &&& 63)).toInt
def vushrL (x y : Int) : Int := ((lZ x).toUInt64 >>> ((iI y).toInt64.toUInt64 &&& Int64.toUInt64 63)).toInt64.toInt
/-- a switch: where a key goes -/
def vfd : List (Int × Nat) → Nat → Int → Nat
  | [], d, _ => d
  | (k, t) :: l, d, x => if x = k then t else vfd l d x
/-- h' is h with one cell written -/
def vSt (h h' : vHp) (a : Nat) (e : vE) : Prop := h'.1 = h.1 ∧ h'.2.1 = h.2.1 ∧ hg h' a = some e ∧ ∀ q, q ≠ a → hg h' q = hg h q
/-- h' is h with one cell made -/
def vNw (h h' : vHp) (e : vE) : Prop := h'.1 = h.1 ∧ h'.2.1 = h.2.1 + 1 ∧ hg h' h.2.1 = some e ∧ ∀ q, q ≠ h.2.1 → hg h' q = hg h q
/-- h' is h with a row of n rows of k ints made -/
def vNm (h h' : vHp) (n k : Nat) : Prop := h'.1 = h.1 ∧ h'.2.1 = h.2.1 + 1 + n ∧ hg h' h.2.1 = some (.inl (6, n, .inr fun i => if i < n then some (h.2.1 + 1 + i) else none)) ∧ (∀ j, j < n → hg h' (h.2.1 + 1 + j) = some (.inl (0, k, .inl fun _ => 0))) ∧ ∀ q, q < h.2.1 → hg h' q = hg h q
/-- a field takes a value -/
def vfit (ci k : Nat) (v : Value) : Prop := narrow (vtyx ci k) v = v ∧ fits (vtyx ci k) v = true
/-- the class of the objects that a row of kind t holds -/
def vek : Nat → Nat
  | 3 => 2
  | 4 => 0
  | _ => 4
def vdef : FieldType → Value
  | .long => .long (lZ 0)
  | .object _ => .null
  | .array _ => .null
  | _ => .int (iI 0)
def vblank (ci : Nat) : Nat → List Value
  | 0 => []
  | n + 1 => vblank ci n ++ [vdef (vtyx ci n)]
abbrev vlo32 (x : Int) : Prop := -2147483648 ≤ x
abbrev vhi32 (x : Int) : Prop := x ≤ 2147483647
abbrev vlo64 (x : Int) : Prop := -9223372036854775808 ≤ x
abbrev vhi64 (x : Int) : Prop := x ≤ 9223372036854775807

def vk_ci (C : vCt) (m : Nat) (R : vQ) (P : vP) : Prop := ∀ (pc nx : Nat) (lv st : List Value) (h : vHp) (bc bs : Nat) (z : Int), vlk m pc = some (1, 0, 0, z, nx) → P nx lv (.int (iI z) :: st) h bc bs → P pc lv (st) h bc bs
def vk_cl (C : vCt) (m : Nat) (R : vQ) (P : vP) : Prop := ∀ (pc nx : Nat) (lv st : List Value) (h : vHp) (bc bs : Nat) (z : Int), vlk m pc = some (2, 0, 0, z, nx) → P nx lv (.long (lZ z) :: st) h bc bs → P pc lv (st) h bc bs
def vk_null (C : vCt) (m : Nat) (R : vQ) (P : vP) : Prop := ∀ (pc nx : Nat) (lv st : List Value) (h : vHp) (bc bs : Nat), vlk m pc = some (3, 0, 0, 0, nx) → P nx lv (.null :: st) h bc bs → P pc lv (st) h bc bs
def vk_iload (C : vCt) (m : Nat) (R : vQ) (P : vP) : Prop := ∀ (pc nx : Nat) (lv st : List Value) (h : vHp) (bc bs : Nat) (a : Nat) (X : Int32), vlk m pc = some (4, a, 0, 0, nx) → vgt lv a = some (.int X) → P nx lv (.int X :: st) h bc bs → P pc lv (st) h bc bs
def vk_lload (C : vCt) (m : Nat) (R : vQ) (P : vP) : Prop := ∀ (pc nx : Nat) (lv st : List Value) (h : vHp) (bc bs : Nat) (a : Nat) (L : Int64), vlk m pc = some (5, a, 0, 0, nx) → vgt lv a = some (.long L) → P nx lv (.long L :: st) h bc bs → P pc lv (st) h bc bs
def vk_aload (C : vCt) (m : Nat) (R : vQ) (P : vP) : Prop := ∀ (pc nx : Nat) (lv st : List Value) (h : vHp) (bc bs : Nat) (a : Nat) (r : Nat), vlk m pc = some (6, a, 0, 0, nx) → vgt lv a = some (.ref r) → P nx lv (.ref r :: st) h bc bs → P pc lv (st) h bc bs
def vk_aloadN (C : vCt) (m : Nat) (R : vQ) (P : vP) : Prop := ∀ (pc nx : Nat) (lv st : List Value) (h : vHp) (bc bs : Nat) (a : Nat), vlk m pc = some (6, a, 0, 0, nx) → vgt lv a = some .null → P nx lv (.null :: st) h bc bs → P pc lv (st) h bc bs
def vk_istore (C : vCt) (m : Nat) (R : vQ) (P : vP) : Prop := ∀ (pc nx : Nat) (lv st : List Value) (h : vHp) (bc bs : Nat) (a : Nat) (X : Int32), vlk m pc = some (7, a, 0, 0, nx) → vpo lv a = true → P nx (vst lv a (.int X)) (st) h bc bs → P pc lv (.int X :: st) h bc bs
def vk_lstore (C : vCt) (m : Nat) (R : vQ) (P : vP) : Prop := ∀ (pc nx : Nat) (lv st : List Value) (h : vHp) (bc bs : Nat) (a : Nat) (L : Int64), vlk m pc = some (8, a, 0, 0, nx) → vpo lv a = true → (vgt lv (a + 1)).isSome = true → P nx (vst (vst lv a (.long L)) (a + 1) vHole) (st) h bc bs → P pc lv (.long L :: st) h bc bs
def vk_astore (C : vCt) (m : Nat) (R : vQ) (P : vP) : Prop := ∀ (pc nx : Nat) (lv st : List Value) (h : vHp) (bc bs : Nat) (a : Nat) (r : Nat), vlk m pc = some (9, a, 0, 0, nx) → vpo lv a = true → P nx (vst lv a (.ref r)) (st) h bc bs → P pc lv (.ref r :: st) h bc bs
def vk_astoreN (C : vCt) (m : Nat) (R : vQ) (P : vP) : Prop := ∀ (pc nx : Nat) (lv st : List Value) (h : vHp) (bc bs : Nat) (a : Nat), vlk m pc = some (9, a, 0, 0, nx) → vpo lv a = true → P nx (vst lv a .null) (st) h bc bs → P pc lv (.null :: st) h bc bs
def vk_iinc (C : vCt) (m : Nat) (R : vQ) (P : vP) : Prop := ∀ (pc nx : Nat) (lv st : List Value) (h : vHp) (bc bs : Nat) (a : Nat) (z : Int) (x : Int), vlk m pc = some (10, a, 0, z, nx) → vgt lv a = some (.int (iI x)) → vpo lv a = true → P nx (vst lv a (.int (iI (x + z)))) (st) h bc bs → P pc lv (st) h bc bs
def vk_iadd (C : vCt) (m : Nat) (R : vQ) (P : vP) : Prop := ∀ (pc nx : Nat) (lv st : List Value) (h : vHp) (bc bs : Nat) (x : Int) (y : Int), vlk m pc = some (11, 0, 0, 0, nx) → P nx lv (.int (iI (x + y)) :: st) h bc bs → P pc lv (.int (iI y) :: .int (iI x) :: st) h bc bs
def vk_isub (C : vCt) (m : Nat) (R : vQ) (P : vP) : Prop := ∀ (pc nx : Nat) (lv st : List Value) (h : vHp) (bc bs : Nat) (x : Int) (y : Int), vlk m pc = some (12, 0, 0, 0, nx) → P nx lv (.int (iI (x - y)) :: st) h bc bs → P pc lv (.int (iI y) :: .int (iI x) :: st) h bc bs
def vk_imul (C : vCt) (m : Nat) (R : vQ) (P : vP) : Prop := ∀ (pc nx : Nat) (lv st : List Value) (h : vHp) (bc bs : Nat) (x : Int) (y : Int), vlk m pc = some (13, 0, 0, 0, nx) → P nx lv (.int (iI (x * y)) :: st) h bc bs → P pc lv (.int (iI y) :: .int (iI x) :: st) h bc bs
def vk_iand (C : vCt) (m : Nat) (R : vQ) (P : vP) : Prop := ∀ (pc nx : Nat) (lv st : List Value) (h : vHp) (bc bs : Nat) (x : Int) (y : Int), vlk m pc = some (17, 0, 0, 0, nx) → P nx lv (.int (iI (vandI x y)) :: st) h bc bs → P pc lv (.int (iI y) :: .int (iI x) :: st) h bc bs
def vk_ior (C : vCt) (m : Nat) (R : vQ) (P : vP) : Prop := ∀ (pc nx : Nat) (lv st : List Value) (h : vHp) (bc bs : Nat) (x : Int) (y : Int), vlk m pc = some (18, 0, 0, 0, nx) → P nx lv (.int (iI (vorI x y)) :: st) h bc bs → P pc lv (.int (iI y) :: .int (iI x) :: st) h bc bs
def vk_ishl (C : vCt) (m : Nat) (R : vQ) (P : vP) : Prop := ∀ (pc nx : Nat) (lv st : List Value) (h : vHp) (bc bs : Nat) (x : Int) (y : Int), vlk m pc = some (19, 0, 0, 0, nx) → P nx lv (.int (iI (vshlI x y)) :: st) h bc bs → P pc lv (.int (iI y) :: .int (iI x) :: st) h bc bs
def vk_ishr (C : vCt) (m : Nat) (R : vQ) (P : vP) : Prop := ∀ (pc nx : Nat) (lv st : List Value) (h : vHp) (bc bs : Nat) (x : Int) (y : Int), vlk m pc = some (20, 0, 0, 0, nx) → P nx lv (.int (iI (vshrI x y)) :: st) h bc bs → P pc lv (.int (iI y) :: .int (iI x) :: st) h bc bs
def vk_iushr (C : vCt) (m : Nat) (R : vQ) (P : vP) : Prop := ∀ (pc nx : Nat) (lv st : List Value) (h : vHp) (bc bs : Nat) (x : Int) (y : Int), vlk m pc = some (21, 0, 0, 0, nx) → P nx lv (.int (iI (vushrI x y)) :: st) h bc bs → P pc lv (.int (iI y) :: .int (iI x) :: st) h bc bs
def vk_idiv (C : vCt) (m : Nat) (R : vQ) (P : vP) : Prop := ∀ (pc nx : Nat) (lv st : List Value) (h : vHp) (bc bs : Nat) (x : Int) (y : Int), vlk m pc = some (14, 0, 0, 0, nx) → 0 ≤ x → x ≤ 2147483647 → 0 < y → y ≤ 2147483647 → P nx lv (.int (iI (x / y)) :: st) h bc bs → P pc lv (.int (iI y) :: .int (iI x) :: st) h bc bs
def vk_irem (C : vCt) (m : Nat) (R : vQ) (P : vP) : Prop := ∀ (pc nx : Nat) (lv st : List Value) (h : vHp) (bc bs : Nat) (x : Int) (y : Int), vlk m pc = some (15, 0, 0, 0, nx) → 0 ≤ x → x ≤ 2147483647 → 0 < y → y ≤ 2147483647 → P nx lv (.int (iI (x % y)) :: st) h bc bs → P pc lv (.int (iI y) :: .int (iI x) :: st) h bc bs
def vk_ineg (C : vCt) (m : Nat) (R : vQ) (P : vP) : Prop := ∀ (pc nx : Nat) (lv st : List Value) (h : vHp) (bc bs : Nat) (x : Int), vlk m pc = some (16, 0, 0, 0, nx) → P nx lv (.int (iI (-x)) :: st) h bc bs → P pc lv (.int (iI x) :: st) h bc bs
def vk_ladd (C : vCt) (m : Nat) (R : vQ) (P : vP) : Prop := ∀ (pc nx : Nat) (lv st : List Value) (h : vHp) (bc bs : Nat) (x : Int) (y : Int), vlk m pc = some (22, 0, 0, 0, nx) → P nx lv (.long (lZ (x + y)) :: st) h bc bs → P pc lv (.long (lZ y) :: .long (lZ x) :: st) h bc bs
def vk_lsub (C : vCt) (m : Nat) (R : vQ) (P : vP) : Prop := ∀ (pc nx : Nat) (lv st : List Value) (h : vHp) (bc bs : Nat) (x : Int) (y : Int), vlk m pc = some (23, 0, 0, 0, nx) → P nx lv (.long (lZ (x - y)) :: st) h bc bs → P pc lv (.long (lZ y) :: .long (lZ x) :: st) h bc bs
def vk_lmul (C : vCt) (m : Nat) (R : vQ) (P : vP) : Prop := ∀ (pc nx : Nat) (lv st : List Value) (h : vHp) (bc bs : Nat) (x : Int) (y : Int), vlk m pc = some (24, 0, 0, 0, nx) → P nx lv (.long (lZ (x * y)) :: st) h bc bs → P pc lv (.long (lZ y) :: .long (lZ x) :: st) h bc bs
def vk_land (C : vCt) (m : Nat) (R : vQ) (P : vP) : Prop := ∀ (pc nx : Nat) (lv st : List Value) (h : vHp) (bc bs : Nat) (x : Int) (y : Int), vlk m pc = some (25, 0, 0, 0, nx) → P nx lv (.long (lZ (vandL x y)) :: st) h bc bs → P pc lv (.long (lZ y) :: .long (lZ x) :: st) h bc bs
def vk_lor (C : vCt) (m : Nat) (R : vQ) (P : vP) : Prop := ∀ (pc nx : Nat) (lv st : List Value) (h : vHp) (bc bs : Nat) (x : Int) (y : Int), vlk m pc = some (26, 0, 0, 0, nx) → P nx lv (.long (lZ (vorL x y)) :: st) h bc bs → P pc lv (.long (lZ y) :: .long (lZ x) :: st) h bc bs
def vk_lxor (C : vCt) (m : Nat) (R : vQ) (P : vP) : Prop := ∀ (pc nx : Nat) (lv st : List Value) (h : vHp) (bc bs : Nat) (x : Int) (y : Int), vlk m pc = some (27, 0, 0, 0, nx) → P nx lv (.long (lZ (vxorL x y)) :: st) h bc bs → P pc lv (.long (lZ y) :: .long (lZ x) :: st) h bc bs
def vk_lshl (C : vCt) (m : Nat) (R : vQ) (P : vP) : Prop := ∀ (pc nx : Nat) (lv st : List Value) (h : vHp) (bc bs : Nat) (x : Int) (y : Int), vlk m pc = some (28, 0, 0, 0, nx) → P nx lv (.long (lZ (vshlL x y)) :: st) h bc bs → P pc lv (.int (iI y) :: .long (lZ x) :: st) h bc bs
def vk_lshr (C : vCt) (m : Nat) (R : vQ) (P : vP) : Prop := ∀ (pc nx : Nat) (lv st : List Value) (h : vHp) (bc bs : Nat) (x : Int) (y : Int), vlk m pc = some (29, 0, 0, 0, nx) → P nx lv (.long (lZ (vshrL x y)) :: st) h bc bs → P pc lv (.int (iI y) :: .long (lZ x) :: st) h bc bs
def vk_lushr (C : vCt) (m : Nat) (R : vQ) (P : vP) : Prop := ∀ (pc nx : Nat) (lv st : List Value) (h : vHp) (bc bs : Nat) (x : Int) (y : Int), vlk m pc = some (30, 0, 0, 0, nx) → P nx lv (.long (lZ (vushrL x y)) :: st) h bc bs → P pc lv (.int (iI y) :: .long (lZ x) :: st) h bc bs
def vk_lcmp (C : vCt) (m : Nat) (R : vQ) (P : vP) : Prop := ∀ (pc nx : Nat) (lv st : List Value) (h : vHp) (bc bs : Nat) (x : Int) (y : Int), vlk m pc = some (31, 0, 0, 0, nx) → -9223372036854775808 ≤ x → x ≤ 9223372036854775807 → -9223372036854775808 ≤ y → y ≤ 9223372036854775807 → P nx lv (.int (iI (vcmp x y)) :: st) h bc bs → P pc lv (.long (lZ y) :: .long (lZ x) :: st) h bc bs
def vk_i2l (C : vCt) (m : Nat) (R : vQ) (P : vP) : Prop := ∀ (pc nx : Nat) (lv st : List Value) (h : vHp) (bc bs : Nat) (x : Int), vlk m pc = some (32, 0, 0, 0, nx) → -2147483648 ≤ x → x ≤ 2147483647 → P nx lv (.long (lZ x) :: st) h bc bs → P pc lv (.int (iI x) :: st) h bc bs
def vk_l2i (C : vCt) (m : Nat) (R : vQ) (P : vP) : Prop := ∀ (pc nx : Nat) (lv st : List Value) (h : vHp) (bc bs : Nat) (x : Int), vlk m pc = some (33, 0, 0, 0, nx) → P nx lv (.int (iI x) :: st) h bc bs → P pc lv (.long (lZ x) :: st) h bc bs
def vk_dup (C : vCt) (m : Nat) (R : vQ) (P : vP) : Prop := ∀ (pc nx : Nat) (lv st : List Value) (h : vHp) (bc bs : Nat) (v : Value), vlk m pc = some (34, 0, 0, 0, nx) → v.category = 1 → P nx lv (v :: v :: st) h bc bs → P pc lv (v :: st) h bc bs
def vk_dup2 (C : vCt) (m : Nat) (R : vQ) (P : vP) : Prop := ∀ (pc nx : Nat) (lv st : List Value) (h : vHp) (bc bs : Nat) (v : Value) (u : Value), vlk m pc = some (35, 0, 0, 0, nx) → v.category = 1 → u.category = 1 → P nx lv (v :: u :: v :: u :: st) h bc bs → P pc lv (v :: u :: st) h bc bs
def vk_pop (C : vCt) (m : Nat) (R : vQ) (P : vP) : Prop := ∀ (pc nx : Nat) (lv st : List Value) (h : vHp) (bc bs : Nat) (v : Value), vlk m pc = some (36, 0, 0, 0, nx) → v.category = 1 → P nx lv (st) h bc bs → P pc lv (v :: st) h bc bs
def vk_goto (C : vCt) (m : Nat) (R : vQ) (P : vP) : Prop := ∀ (pc nx : Nat) (lv st : List Value) (h : vHp) (bc bs : Nat) (a : Nat), vlk m pc = some (37, a, 0, 0, nx) → P a lv (st) h bc bs → P pc lv (st) h bc bs
def vk_ifeq (C : vCt) (m : Nat) (R : vQ) (P : vP) : Prop := ∀ (pc nx : Nat) (lv st : List Value) (h : vHp) (bc bs : Nat) (a : Nat) (x : Int), vlk m pc = some (70, a, 0, 0, nx) → -2147483648 ≤ x → x ≤ 2147483647 → (x = 0 → P a lv (st) h bc bs) → (x ≠ 0 → P nx lv (st) h bc bs) → P pc lv (.int (iI x) :: st) h bc bs
def vk_ifne (C : vCt) (m : Nat) (R : vQ) (P : vP) : Prop := ∀ (pc nx : Nat) (lv st : List Value) (h : vHp) (bc bs : Nat) (a : Nat) (x : Int), vlk m pc = some (71, a, 0, 0, nx) → -2147483648 ≤ x → x ≤ 2147483647 → (x ≠ 0 → P a lv (st) h bc bs) → (x = 0 → P nx lv (st) h bc bs) → P pc lv (.int (iI x) :: st) h bc bs
def vk_iflt (C : vCt) (m : Nat) (R : vQ) (P : vP) : Prop := ∀ (pc nx : Nat) (lv st : List Value) (h : vHp) (bc bs : Nat) (a : Nat) (x : Int), vlk m pc = some (72, a, 0, 0, nx) → -2147483648 ≤ x → x ≤ 2147483647 → (x < 0 → P a lv (st) h bc bs) → (0 ≤ x → P nx lv (st) h bc bs) → P pc lv (.int (iI x) :: st) h bc bs
def vk_ifge (C : vCt) (m : Nat) (R : vQ) (P : vP) : Prop := ∀ (pc nx : Nat) (lv st : List Value) (h : vHp) (bc bs : Nat) (a : Nat) (x : Int), vlk m pc = some (73, a, 0, 0, nx) → -2147483648 ≤ x → x ≤ 2147483647 → (0 ≤ x → P a lv (st) h bc bs) → (x < 0 → P nx lv (st) h bc bs) → P pc lv (.int (iI x) :: st) h bc bs
def vk_ifgt (C : vCt) (m : Nat) (R : vQ) (P : vP) : Prop := ∀ (pc nx : Nat) (lv st : List Value) (h : vHp) (bc bs : Nat) (a : Nat) (x : Int), vlk m pc = some (74, a, 0, 0, nx) → -2147483648 ≤ x → x ≤ 2147483647 → (0 < x → P a lv (st) h bc bs) → (x ≤ 0 → P nx lv (st) h bc bs) → P pc lv (.int (iI x) :: st) h bc bs
def vk_ifle (C : vCt) (m : Nat) (R : vQ) (P : vP) : Prop := ∀ (pc nx : Nat) (lv st : List Value) (h : vHp) (bc bs : Nat) (a : Nat) (x : Int), vlk m pc = some (75, a, 0, 0, nx) → -2147483648 ≤ x → x ≤ 2147483647 → (x ≤ 0 → P a lv (st) h bc bs) → (0 < x → P nx lv (st) h bc bs) → P pc lv (.int (iI x) :: st) h bc bs
def vk_iceq (C : vCt) (m : Nat) (R : vQ) (P : vP) : Prop := ∀ (pc nx : Nat) (lv st : List Value) (h : vHp) (bc bs : Nat) (a : Nat) (x : Int) (y : Int), vlk m pc = some (76, a, 0, 0, nx) → -2147483648 ≤ x → x ≤ 2147483647 → -2147483648 ≤ y → y ≤ 2147483647 → (x = y → P a lv (st) h bc bs) → (x ≠ y → P nx lv (st) h bc bs) → P pc lv (.int (iI y) :: .int (iI x) :: st) h bc bs
def vk_icne (C : vCt) (m : Nat) (R : vQ) (P : vP) : Prop := ∀ (pc nx : Nat) (lv st : List Value) (h : vHp) (bc bs : Nat) (a : Nat) (x : Int) (y : Int), vlk m pc = some (77, a, 0, 0, nx) → -2147483648 ≤ x → x ≤ 2147483647 → -2147483648 ≤ y → y ≤ 2147483647 → (x ≠ y → P a lv (st) h bc bs) → (x = y → P nx lv (st) h bc bs) → P pc lv (.int (iI y) :: .int (iI x) :: st) h bc bs
def vk_iclt (C : vCt) (m : Nat) (R : vQ) (P : vP) : Prop := ∀ (pc nx : Nat) (lv st : List Value) (h : vHp) (bc bs : Nat) (a : Nat) (x : Int) (y : Int), vlk m pc = some (78, a, 0, 0, nx) → -2147483648 ≤ x → x ≤ 2147483647 → -2147483648 ≤ y → y ≤ 2147483647 → (x < y → P a lv (st) h bc bs) → (y ≤ x → P nx lv (st) h bc bs) → P pc lv (.int (iI y) :: .int (iI x) :: st) h bc bs
def vk_icge (C : vCt) (m : Nat) (R : vQ) (P : vP) : Prop := ∀ (pc nx : Nat) (lv st : List Value) (h : vHp) (bc bs : Nat) (a : Nat) (x : Int) (y : Int), vlk m pc = some (79, a, 0, 0, nx) → -2147483648 ≤ x → x ≤ 2147483647 → -2147483648 ≤ y → y ≤ 2147483647 → (y ≤ x → P a lv (st) h bc bs) → (x < y → P nx lv (st) h bc bs) → P pc lv (.int (iI y) :: .int (iI x) :: st) h bc bs
def vk_icgt (C : vCt) (m : Nat) (R : vQ) (P : vP) : Prop := ∀ (pc nx : Nat) (lv st : List Value) (h : vHp) (bc bs : Nat) (a : Nat) (x : Int) (y : Int), vlk m pc = some (80, a, 0, 0, nx) → -2147483648 ≤ x → x ≤ 2147483647 → -2147483648 ≤ y → y ≤ 2147483647 → (y < x → P a lv (st) h bc bs) → (x ≤ y → P nx lv (st) h bc bs) → P pc lv (.int (iI y) :: .int (iI x) :: st) h bc bs
def vk_icle (C : vCt) (m : Nat) (R : vQ) (P : vP) : Prop := ∀ (pc nx : Nat) (lv st : List Value) (h : vHp) (bc bs : Nat) (a : Nat) (x : Int) (y : Int), vlk m pc = some (81, a, 0, 0, nx) → -2147483648 ≤ x → x ≤ 2147483647 → -2147483648 ≤ y → y ≤ 2147483647 → (x ≤ y → P a lv (st) h bc bs) → (y < x → P nx lv (st) h bc bs) → P pc lv (.int (iI y) :: .int (iI x) :: st) h bc bs
def vk_ifnullR (C : vCt) (m : Nat) (R : vQ) (P : vP) : Prop := ∀ (pc nx : Nat) (lv st : List Value) (h : vHp) (bc bs : Nat) (a : Nat) (r : Nat), vlk m pc = some (40, a, 0, 0, nx) → P nx lv (st) h bc bs → P pc lv (.ref r :: st) h bc bs
def vk_ifnullN (C : vCt) (m : Nat) (R : vQ) (P : vP) : Prop := ∀ (pc nx : Nat) (lv st : List Value) (h : vHp) (bc bs : Nat) (a : Nat), vlk m pc = some (40, a, 0, 0, nx) → P a lv (st) h bc bs → P pc lv (.null :: st) h bc bs
def vk_ifnonR (C : vCt) (m : Nat) (R : vQ) (P : vP) : Prop := ∀ (pc nx : Nat) (lv st : List Value) (h : vHp) (bc bs : Nat) (a : Nat) (r : Nat), vlk m pc = some (41, a, 0, 0, nx) → P a lv (st) h bc bs → P pc lv (.ref r :: st) h bc bs
def vk_ifnonN (C : vCt) (m : Nat) (R : vQ) (P : vP) : Prop := ∀ (pc nx : Nat) (lv st : List Value) (h : vHp) (bc bs : Nat) (a : Nat), vlk m pc = some (41, a, 0, 0, nx) → P nx lv (st) h bc bs → P pc lv (.null :: st) h bc bs
def vk_sw (C : vCt) (m : Nat) (R : vQ) (P : vP) : Prop := ∀ (pc nx : Nat) (lv st : List Value) (h : vHp) (bc bs : Nat) (a : Nat) (b : Nat) (x : Int) (ps : List (Int × Nat)) (d : Nat), vlk m pc = some (67, a, b, 0, nx) → vsw[a]? = some (ps, d) → -2147483648 ≤ x → x ≤ 2147483647 → P (vfd ps d x) lv (st) h bc bs → P pc lv (.int (iI x) :: st) h bc bs
def vk_get (C : vCt) (m : Nat) (R : vQ) (P : vP) : Prop := ∀ (pc nx : Nat) (lv st : List Value) (h : vHp) (bc bs : Nat) (ci : Nat) (k : Nat) (a : Nat) (fs : List Value) (v : Value), vlk m pc = some (42, ci, k, 0, nx) → hg h a = some (.inr (ci, fs)) → vgt fs k = some v → P nx lv (v :: st) h bc bs → P pc lv (.ref a :: st) h bc bs
def vk_put (C : vCt) (m : Nat) (R : vQ) (P : vP) : Prop := ∀ (pc nx : Nat) (lv st : List Value) (h : vHp) (bc bs : Nat) (ci : Nat) (k : Nat) (a : Nat) (fs : List Value) (v : Value) (u : Value), vlk m pc = some (43, ci, k, 0, nx) → hg h a = some (.inr (ci, fs)) → h.1.1 ≤ a → vgt fs k = some u → vfit ci k v → (∀ h' : vHp, vSt h h' a (.inr (ci, vst fs k v)) → P nx lv (st) h' bc bs) → P pc lv (v :: .ref a :: st) h bc bs
def vk_putF (C : vCt) (m : Nat) (R : vQ) (P : vP) : Prop := ∀ (pc nx : Nat) (lv st : List Value) (h : vHp) (bc bs : Nat) (ci : Nat) (k : Nat) (a : Nat) (fs : List Value) (v : Value) (u : Value), vlk m pc = some (68, ci, k, 0, nx) → hg h a = some (.inr (ci, fs)) → h.1.1 ≤ a → vgt fs k = some u → vfit ci k v → (∀ h' : vHp, vSt h h' a (.inr (ci, vst fs k v)) → P nx lv (st) h' bc bs) → P pc lv (v :: .ref a :: st) h bc bs
def vk_gets (C : vCt) (m : Nat) (R : vQ) (P : vP) : Prop := ∀ (pc nx : Nat) (lv st : List Value) (h : vHp) (bc bs : Nat) (b : Nat), vlk m pc = some (44, 0, b, 0, nx) → P nx lv (.ref h.1.2 :: st) h bc bs → P pc lv (st) h bc bs
def vk_iald (C : vCt) (m : Nat) (R : vQ) (P : vP) : Prop := ∀ (pc nx : Nat) (lv st : List Value) (h : vHp) (bc bs : Nat) (x : Int) (a : Nat) (n : Nat) (f : Nat → Int), vlk m pc = some (45, 0, 0, 0, nx) → hg h a = some (.inl (0, n, .inl f)) → 0 ≤ x → x < n → P nx lv (.int (iI (f x.toNat)) :: st) h bc bs → P pc lv (.int (iI x) :: .ref a :: st) h bc bs
def vk_lald (C : vCt) (m : Nat) (R : vQ) (P : vP) : Prop := ∀ (pc nx : Nat) (lv st : List Value) (h : vHp) (bc bs : Nat) (x : Int) (a : Nat) (n : Nat) (f : Nat → Int), vlk m pc = some (46, 0, 0, 0, nx) → hg h a = some (.inl (1, n, .inl f)) → 0 ≤ x → x < n → P nx lv (.long (lZ (f x.toNat)) :: st) h bc bs → P pc lv (.int (iI x) :: .ref a :: st) h bc bs
def vk_bald (C : vCt) (m : Nat) (R : vQ) (P : vP) : Prop := ∀ (pc nx : Nat) (lv st : List Value) (h : vHp) (bc bs : Nat) (x : Int) (a : Nat) (n : Nat) (f : Nat → Int), vlk m pc = some (47, 0, 0, 0, nx) → hg h a = some (.inl (2, n, .inl f)) → 0 ≤ x → x < n → P nx lv (.int (iI (f x.toNat)) :: st) h bc bs → P pc lv (.int (iI x) :: .ref a :: st) h bc bs
def vk_aald (C : vCt) (m : Nat) (R : vQ) (P : vP) : Prop := ∀ (pc nx : Nat) (lv st : List Value) (h : vHp) (bc bs : Nat) (x : Int) (a : Nat) (n : Nat) (τ : Nat) (p : Nat → Option Nat) (r : Nat), vlk m pc = some (48, 0, 0, 0, nx) → hg h a = some (.inl (τ, n, .inr p)) → 3 ≤ τ ∧ τ < 7 → 0 ≤ x → x < n → p x.toNat = some r → P nx lv (.ref r :: st) h bc bs → P pc lv (.int (iI x) :: .ref a :: st) h bc bs
def vk_iast (C : vCt) (m : Nat) (R : vQ) (P : vP) : Prop := ∀ (pc nx : Nat) (lv st : List Value) (h : vHp) (bc bs : Nat) (x : Int) (y : Int) (a : Nat) (n : Nat) (f : Nat → Int), vlk m pc = some (49, 0, 0, 0, nx) → hg h a = some (.inl (0, n, .inl f)) → h.1.1 ≤ a → 0 ≤ x → x < n → (∀ h' : vHp, vSt h h' a (.inl (0, n, .inl (vup f x.toNat y))) → P nx lv (st) h' bc bs) → P pc lv (.int (iI y) :: .int (iI x) :: .ref a :: st) h bc bs
def vk_last (C : vCt) (m : Nat) (R : vQ) (P : vP) : Prop := ∀ (pc nx : Nat) (lv st : List Value) (h : vHp) (bc bs : Nat) (x : Int) (y : Int) (a : Nat) (n : Nat) (f : Nat → Int), vlk m pc = some (50, 0, 0, 0, nx) → hg h a = some (.inl (1, n, .inl f)) → h.1.1 ≤ a → 0 ≤ x → x < n → (∀ h' : vHp, vSt h h' a (.inl (1, n, .inl (vup f x.toNat y))) → P nx lv (st) h' bc bs) → P pc lv (.long (lZ y) :: .int (iI x) :: .ref a :: st) h bc bs
def vk_bast (C : vCt) (m : Nat) (R : vQ) (P : vP) : Prop := ∀ (pc nx : Nat) (lv st : List Value) (h : vHp) (bc bs : Nat) (x : Int) (y : Int) (a : Nat) (n : Nat) (f : Nat → Int), vlk m pc = some (51, 0, 0, 0, nx) → hg h a = some (.inl (2, n, .inl f)) → h.1.1 ≤ a → 0 ≤ x → x < n → y = 0 ∨ y = 1 → (∀ h' : vHp, vSt h h' a (.inl (2, n, .inl (vup f x.toNat y))) → P nx lv (st) h' bc bs) → P pc lv (.int (iI y) :: .int (iI x) :: .ref a :: st) h bc bs
def vk_aast (C : vCt) (m : Nat) (R : vQ) (P : vP) : Prop := ∀ (pc nx : Nat) (lv st : List Value) (h : vHp) (bc bs : Nat) (x : Int) (a : Nat) (n : Nat) (τ : Nat) (p : Nat → Option Nat) (r : Nat) (ci : Nat) (vs : List Value), vlk m pc = some (52, 0, 0, 0, nx) → hg h a = some (.inl (τ, n, .inr p)) → 3 ≤ τ ∧ τ < 6 → h.1.1 ≤ a → 0 ≤ x → x < n → hg h r = some (.inr (vek τ, vs)) → (∀ h' : vHp, vSt h h' a (.inl (τ, n, .inr (vup p x.toNat (some r)))) → P nx lv (st) h' bc bs) → P pc lv (.ref r :: .int (iI x) :: .ref a :: st) h bc bs
def vk_aastA (C : vCt) (m : Nat) (R : vQ) (P : vP) : Prop := ∀ (pc nx : Nat) (lv st : List Value) (h : vHp) (bc bs : Nat) (x : Int) (a : Nat) (n : Nat) (p : Nat → Option Nat) (r : Nat) (n2 : Nat) (f : Nat → Int), vlk m pc = some (52, 0, 0, 0, nx) → hg h a = some (.inl (6, n, .inr p)) → h.1.1 ≤ a → 0 ≤ x → x < n → hg h r = some (.inl (0, n2, .inl f)) → (∀ h' : vHp, vSt h h' a (.inl (6, n, .inr (vup p x.toNat (some r)))) → P nx lv (st) h' bc bs) → P pc lv (.ref r :: .int (iI x) :: .ref a :: st) h bc bs
def vk_alen (C : vCt) (m : Nat) (R : vQ) (P : vP) : Prop := ∀ (pc nx : Nat) (lv st : List Value) (h : vHp) (bc bs : Nat) (a : Nat) (n : Nat) (f : Nat → Int), vlk m pc = some (53, 0, 0, 0, nx) → hg h a = some (.inl (0, n, .inl f)) → P nx lv (.int (iI (n : Int)) :: st) h bc bs → P pc lv (.ref a :: st) h bc bs
def vk_new (C : vCt) (m : Nat) (R : vQ) (P : vP) : Prop := ∀ (pc nx : Nat) (lv st : List Value) (h : vHp) (bc bs : Nat) (ci : Nat) (n : Nat), vlk m pc = some (54, ci, n, 0, nx) → (∀ h' : vHp, vNw h h' (.inr (ci, vblank ci n)) → P nx lv (.ref h.2.1 :: st) h' bc bs) → P pc lv (st) h (bc + 1) (bs + n)
def vk_newa (C : vCt) (m : Nat) (R : vQ) (P : vP) : Prop := ∀ (pc nx : Nat) (lv st : List Value) (h : vHp) (bc bs : Nat) (a : Nat) (x : Int), vlk m pc = some (55, a, 0, 0, nx) → 0 ≤ x → x ≤ 60000 → (∀ h' : vHp, vNw h h' (.inl (a, x.toNat, .inl fun _ => 0)) → P nx lv (.ref h.2.1 :: st) h' bc bs) → P pc lv (.int (iI x) :: st) h (bc + 1) (bs + x.toNat)
def vk_anew (C : vCt) (m : Nat) (R : vQ) (P : vP) : Prop := ∀ (pc nx : Nat) (lv st : List Value) (h : vHp) (bc bs : Nat) (τ : Nat) (x : Int), vlk m pc = some (56, τ, 0, 0, nx) → 0 ≤ x → x ≤ 60000 → (∀ h' : vHp, vNw h h' (.inl (τ, x.toNat, .inr fun _ => none)) → P nx lv (.ref h.2.1 :: st) h' bc bs) → P pc lv (.int (iI x) :: st) h (bc + 1) (bs + x.toNat)
def vk_mnew (C : vCt) (m : Nat) (R : vQ) (P : vP) : Prop := ∀ (pc nx : Nat) (lv st : List Value) (h : vHp) (bc bs : Nat) (x : Int) (y : Int), vlk m pc = some (57, 0, 0, 0, nx) → 0 ≤ x → x ≤ 60000 → 0 ≤ y → y ≤ 60000 → (∀ h' : vHp, vNm h h' x.toNat y.toNat → P nx lv (.ref h.2.1 :: st) h' bc bs) → P pc lv (.int (iI y) :: .int (iI x) :: st) h (bc + (1 + x.toNat)) (bs + (x.toNat + x.toNat * y.toNat))
def vk_inv (C : vCt) (m : Nat) (R : vQ) (P : vP) : Prop := ∀ (pc nx : Nat) (lv st : List Value) (h : vHp) (bc bs : Nat) (mj : Nat) (As : List Value) (stk : List Value) (b : Nat) (ci : Nat) (fs : List Value) (mc : Nat) (ms : Nat), vlk m pc = some (58, mj, 0, 0, nx) → stk = As.reverse ++ .ref b :: st → vrc mj = some (ci, As.length) → hg h b = some (.inr (ci, fs)) → (st.map fun v => v.category).sum ≤ 8 → C mc ms mj (.ref b :: As) h (fun v h' => P nx lv (vpush v st) h' bc bs) → P pc lv (stk) h (bc + mc) (bs + ms)
def vk_ins (C : vCt) (m : Nat) (R : vQ) (P : vP) : Prop := ∀ (pc nx : Nat) (lv st : List Value) (h : vHp) (bc bs : Nat) (mj : Nat) (As : List Value) (stk : List Value) (ci : Nat) (mc : Nat) (ms : Nat), vlk m pc = some (59, mj, 0, 0, nx) → stk = As.reverse ++ st → vrc mj = some (ci, As.length) → (st.map fun v => v.category).sum ≤ 8 → C mc ms mj As h (fun v h' => P nx lv (vpush v st) h' bc bs) → P pc lv (stk) h (bc + mc) (bs + ms)
def vk_insN (C : vCt) (m : Nat) (R : vQ) (P : vP) : Prop := ∀ (pc nx : Nat) (lv st : List Value) (h : vHp) (bc bs : Nat) (mj : Nat) (As : List Value) (stk : List Value) (ci : Nat) (mc : Nat) (ms : Nat), vlk m pc = some (82, mj, 0, 0, nx) → stk = As.reverse ++ st → vrc mj = some (ci, As.length) → (st.map fun v => v.category).sum ≤ 8 → C mc ms mj As h (fun v h' => P nx lv (vpush v st) h' bc bs) → P pc lv (stk) h (bc + mc) (bs + ms)
def vk_inp (C : vCt) (m : Nat) (R : vQ) (P : vP) : Prop := ∀ (pc nx : Nat) (lv st : List Value) (h : vHp) (bc bs : Nat) (mj : Nat) (As : List Value) (stk : List Value) (b : Nat) (ci : Nat) (mc : Nat) (ms : Nat), vlk m pc = some (60, mj, 0, 0, nx) → stk = As.reverse ++ .ref b :: st → vrc mj = some (ci, As.length) → (st.map fun v => v.category).sum ≤ 8 → C mc ms mj (.ref b :: As) h (fun v h' => P nx lv (vpush v st) h' bc bs) → P pc lv (stk) h (bc + mc) (bs + ms)
def vk_inpN (C : vCt) (m : Nat) (R : vQ) (P : vP) : Prop := ∀ (pc nx : Nat) (lv st : List Value) (h : vHp) (bc bs : Nat) (mj : Nat) (As : List Value) (stk : List Value) (b : Nat) (ci : Nat) (mc : Nat) (ms : Nat), vlk m pc = some (83, mj, 0, 0, nx) → stk = As.reverse ++ .ref b :: st → vrc mj = some (ci, As.length) → (st.map fun v => v.category).sum ≤ 8 → C mc ms mj (.ref b :: As) h (fun v h' => P nx lv (vpush v st) h' bc bs) → P pc lv (stk) h (bc + mc) (bs + ms)
def vk_obj (C : vCt) (m : Nat) (R : vQ) (P : vP) : Prop := ∀ (pc nx : Nat) (lv st : List Value) (h : vHp) (bc bs : Nat) (a : Nat), vlk m pc = some (61, 0, 0, 0, nx) → (st.map fun v => v.category).sum ≤ 8 → P nx lv (st) h bc bs → P pc lv (.ref a :: st) h bc bs
def vk_acpy (C : vCt) (m : Nat) (R : vQ) (P : vP) : Prop := ∀ (pc nx : Nat) (lv st : List Value) (h : vHp) (bc bs : Nat) (x : Int) (y : Int) (w : Int) (a : Nat) (b : Nat) (n : Nat) (n2 : Nat) (f : Nat → Int) (g : Nat → Int), vlk m pc = some (62, 0, 0, 0, nx) → hg h a = some (.inl (0, n, .inl f)) → hg h b = some (.inl (0, n2, .inl g)) → h.1.1 ≤ b → 0 ≤ x → 0 ≤ y → 0 ≤ w → x + w ≤ n → y + w ≤ n2 → (st.map fun v => v.category).sum ≤ 8 → (∀ h' : vHp, vSt h h' b (.inl (0, n2, .inl (vcpy f g x.toNat y.toNat w.toNat))) → P nx lv (st) h' bc bs) → P pc lv (.int (iI w) :: .int (iI y) :: .ref b :: .int (iI x) :: .ref a :: st) h bc bs
def vk_mmax (C : vCt) (m : Nat) (R : vQ) (P : vP) : Prop := ∀ (pc nx : Nat) (lv st : List Value) (h : vHp) (bc bs : Nat) (x : Int) (y : Int), vlk m pc = some (84, 0, 0, 0, nx) → -2147483648 ≤ x → x ≤ 2147483647 → -2147483648 ≤ y → y ≤ 2147483647 → (st.map fun v => v.category).sum ≤ 8 → P nx lv (.int (iI (if x < y then y else x)) :: st) h bc bs → P pc lv (.int (iI y) :: .int (iI x) :: st) h bc bs
def vk_mmin (C : vCt) (m : Nat) (R : vQ) (P : vP) : Prop := ∀ (pc nx : Nat) (lv st : List Value) (h : vHp) (bc bs : Nat) (x : Int) (y : Int), vlk m pc = some (85, 0, 0, 0, nx) → -2147483648 ≤ x → x ≤ 2147483647 → -2147483648 ≤ y → y ≤ 2147483647 → (st.map fun v => v.category).sum ≤ 8 → P nx lv (.int (iI (if y < x then y else x)) :: st) h bc bs → P pc lv (.int (iI y) :: .int (iI x) :: st) h bc bs
def vk_iret (C : vCt) (m : Nat) (R : vQ) (P : vP) : Prop := ∀ (pc nx : Nat) (lv st : List Value) (h : vHp) (bc bs : Nat) (X : Int32), vlk m pc = some (63, 0, 0, 0, nx) → R (some (.int X)) h → P pc lv ([.int X]) h bc bs
def vk_zret (C : vCt) (m : Nat) (R : vQ) (P : vP) : Prop := ∀ (pc nx : Nat) (lv st : List Value) (h : vHp) (bc bs : Nat) (x : Int), vlk m pc = some (63, 1, 0, 0, nx) → x = 0 ∨ x = 1 → R (some (.int (iI x))) h → P pc lv ([.int (iI x)]) h bc bs
def vk_lret (C : vCt) (m : Nat) (R : vQ) (P : vP) : Prop := ∀ (pc nx : Nat) (lv st : List Value) (h : vHp) (bc bs : Nat) (L : Int64), vlk m pc = some (64, 0, 0, 0, nx) → R (some (.long L)) h → P pc lv ([.long L]) h bc bs
def vk_aret (C : vCt) (m : Nat) (R : vQ) (P : vP) : Prop := ∀ (pc nx : Nat) (lv st : List Value) (h : vHp) (bc bs : Nat) (r : Nat), vlk m pc = some (65, 0, 0, 0, nx) → R (some (.ref r)) h → P pc lv ([.ref r]) h bc bs
def vk_aretN (C : vCt) (m : Nat) (R : vQ) (P : vP) : Prop := ∀ (pc nx : Nat) (lv st : List Value) (h : vHp) (bc bs : Nat), vlk m pc = some (65, 0, 0, 0, nx) → R (some .null) h → P pc lv ([.null]) h bc bs
def vk_vret (C : vCt) (m : Nat) (R : vQ) (P : vP) : Prop := ∀ (pc nx : Nat) (lv st : List Value) (h : vHp) (bc bs : Nat), vlk m pc = some (66, 0, 0, 0, nx) → R none h → P pc lv ([]) h bc bs
def vkg_0 (C : vCt) (m : Nat) (R : vQ) (P : vP) : Prop := vk_ci C m R P ∧ vk_cl C m R P ∧ vk_null C m R P ∧ vk_iload C m R P ∧ vk_lload C m R P ∧ vk_aload C m R P ∧ vk_aloadN C m R P ∧ vk_istore C m R P
def vkg_1 (C : vCt) (m : Nat) (R : vQ) (P : vP) : Prop := vk_lstore C m R P ∧ vk_astore C m R P ∧ vk_astoreN C m R P ∧ vk_iinc C m R P ∧ vk_iadd C m R P ∧ vk_isub C m R P ∧ vk_imul C m R P ∧ vk_iand C m R P
def vkg_2 (C : vCt) (m : Nat) (R : vQ) (P : vP) : Prop := vk_ior C m R P ∧ vk_ishl C m R P ∧ vk_ishr C m R P ∧ vk_iushr C m R P ∧ vk_idiv C m R P ∧ vk_irem C m R P ∧ vk_ineg C m R P ∧ vk_ladd C m R P
def vkg_3 (C : vCt) (m : Nat) (R : vQ) (P : vP) : Prop := vk_lsub C m R P ∧ vk_lmul C m R P ∧ vk_land C m R P ∧ vk_lor C m R P ∧ vk_lxor C m R P ∧ vk_lshl C m R P ∧ vk_lshr C m R P ∧ vk_lushr C m R P
def vkg_4 (C : vCt) (m : Nat) (R : vQ) (P : vP) : Prop := vk_lcmp C m R P ∧ vk_i2l C m R P ∧ vk_l2i C m R P ∧ vk_dup C m R P ∧ vk_dup2 C m R P ∧ vk_pop C m R P ∧ vk_goto C m R P ∧ vk_ifeq C m R P
def vkg_5 (C : vCt) (m : Nat) (R : vQ) (P : vP) : Prop := vk_ifne C m R P ∧ vk_iflt C m R P ∧ vk_ifge C m R P ∧ vk_ifgt C m R P ∧ vk_ifle C m R P ∧ vk_iceq C m R P ∧ vk_icne C m R P ∧ vk_iclt C m R P
def vkg_6 (C : vCt) (m : Nat) (R : vQ) (P : vP) : Prop := vk_icge C m R P ∧ vk_icgt C m R P ∧ vk_icle C m R P ∧ vk_ifnullR C m R P ∧ vk_ifnullN C m R P ∧ vk_ifnonR C m R P ∧ vk_ifnonN C m R P ∧ vk_sw C m R P
def vkg_7 (C : vCt) (m : Nat) (R : vQ) (P : vP) : Prop := vk_get C m R P ∧ vk_put C m R P ∧ vk_putF C m R P ∧ vk_gets C m R P ∧ vk_iald C m R P ∧ vk_lald C m R P ∧ vk_bald C m R P ∧ vk_aald C m R P
def vkg_8 (C : vCt) (m : Nat) (R : vQ) (P : vP) : Prop := vk_iast C m R P ∧ vk_last C m R P ∧ vk_bast C m R P ∧ vk_aast C m R P ∧ vk_aastA C m R P ∧ vk_alen C m R P ∧ vk_new C m R P ∧ vk_newa C m R P
def vkg_9 (C : vCt) (m : Nat) (R : vQ) (P : vP) : Prop := vk_anew C m R P ∧ vk_mnew C m R P ∧ vk_inv C m R P ∧ vk_ins C m R P ∧ vk_insN C m R P ∧ vk_inp C m R P ∧ vk_inpN C m R P ∧ vk_obj C m R P
def vkg_10 (C : vCt) (m : Nat) (R : vQ) (P : vP) : Prop := vk_acpy C m R P ∧ vk_mmax C m R P ∧ vk_mmin C m R P ∧ vk_iret C m R P ∧ vk_zret C m R P ∧ vk_lret C m R P ∧ vk_aret C m R P ∧ vk_aretN C m R P
def vkg_11 (C : vCt) (m : Nat) (R : vQ) (P : vP) : Prop := vk_vret C m R P
/-- P bears all rules -/
def vCl (C : vCt) (m : Nat) (R : vQ) (P : vP) : Prop := vkg_0 C m R P ∧ vkg_1 C m R P ∧ vkg_2 C m R P ∧ vkg_3 C m R P ∧ vkg_4 C m R P ∧ vkg_5 C m R P ∧ vkg_6 C m R P ∧ vkg_7 C m R P ∧ vkg_8 C m R P ∧ vkg_9 C m R P ∧ vkg_10 C m R P ∧ vkg_11 C m R P
def vW (C : vCt) (m : Nat) (R : vQ) (pc : Nat) (lv st : List Value) (h : vHp) (bc bs : Nat) : Prop := ∀ P : vP, vCl C m R P → P pc lv st h bc bs
/-- a method answers: at most so many calls deep, with so many cells and slots -/
def vCall : Nat → vCt
  | 0 => fun _ _ _ _ _ _ => False
  | d + 1 => fun mc ms m args h Q => (vexp args).length ≤ vml m ∧ vW (vCall d) m Q 0 (vpad (vml m) (vexp args)) [] h mc ms
set_option maxRecDepth 20000 in
theorem vCl_R {C : vCt} {m : Nat} {R R' : vQ} {P : vP} (hm : ∀ v h, R v h → R' v h) (hP : vCl C m R' P) : vCl C m R P :=
  ⟨⟨hP.1.1, hP.1.2.1, hP.1.2.2.1, hP.1.2.2.2.1, hP.1.2.2.2.2.1, hP.1.2.2.2.2.2.1, hP.1.2.2.2.2.2.2.1, hP.1.2.2.2.2.2.2.2⟩, ⟨hP.2.1.1, hP.2.1.2.1, hP.2.1.2.2.1, hP.2.1.2.2.2.1, hP.2.1.2.2.2.2.1, hP.2.1.2.2.2.2.2.1, hP.2.1.2.2.2.2.2.2.1, hP.2.1.2.2.2.2.2.2.2⟩, ⟨hP.2.2.1.1, hP.2.2.1.2.1, hP.2.2.1.2.2.1, hP.2.2.1.2.2.2.1, hP.2.2.1.2.2.2.2.1, hP.2.2.1.2.2.2.2.2.1, hP.2.2.1.2.2.2.2.2.2.1, hP.2.2.1.2.2.2.2.2.2.2⟩, ⟨hP.2.2.2.1.1, hP.2.2.2.1.2.1, hP.2.2.2.1.2.2.1, hP.2.2.2.1.2.2.2.1, hP.2.2.2.1.2.2.2.2.1, hP.2.2.2.1.2.2.2.2.2.1, hP.2.2.2.1.2.2.2.2.2.2.1, hP.2.2.2.1.2.2.2.2.2.2.2⟩, ⟨hP.2.2.2.2.1.1, hP.2.2.2.2.1.2.1, hP.2.2.2.2.1.2.2.1, hP.2.2.2.2.1.2.2.2.1, hP.2.2.2.2.1.2.2.2.2.1, hP.2.2.2.2.1.2.2.2.2.2.1, hP.2.2.2.2.1.2.2.2.2.2.2.1, hP.2.2.2.2.1.2.2.2.2.2.2.2⟩, ⟨hP.2.2.2.2.2.1.1, hP.2.2.2.2.2.1.2.1, hP.2.2.2.2.2.1.2.2.1, hP.2.2.2.2.2.1.2.2.2.1, hP.2.2.2.2.2.1.2.2.2.2.1, hP.2.2.2.2.2.1.2.2.2.2.2.1, hP.2.2.2.2.2.1.2.2.2.2.2.2.1, hP.2.2.2.2.2.1.2.2.2.2.2.2.2⟩, ⟨hP.2.2.2.2.2.2.1.1, hP.2.2.2.2.2.2.1.2.1, hP.2.2.2.2.2.2.1.2.2.1, hP.2.2.2.2.2.2.1.2.2.2.1, hP.2.2.2.2.2.2.1.2.2.2.2.1, hP.2.2.2.2.2.2.1.2.2.2.2.2.1, hP.2.2.2.2.2.2.1.2.2.2.2.2.2.1, hP.2.2.2.2.2.2.1.2.2.2.2.2.2.2⟩, ⟨hP.2.2.2.2.2.2.2.1.1, hP.2.2.2.2.2.2.2.1.2.1, hP.2.2.2.2.2.2.2.1.2.2.1, hP.2.2.2.2.2.2.2.1.2.2.2.1, hP.2.2.2.2.2.2.2.1.2.2.2.2.1, hP.2.2.2.2.2.2.2.1.2.2.2.2.2.1, hP.2.2.2.2.2.2.2.1.2.2.2.2.2.2.1, hP.2.2.2.2.2.2.2.1.2.2.2.2.2.2.2⟩, ⟨hP.2.2.2.2.2.2.2.2.1.1, hP.2.2.2.2.2.2.2.2.1.2.1, hP.2.2.2.2.2.2.2.2.1.2.2.1, hP.2.2.2.2.2.2.2.2.1.2.2.2.1, hP.2.2.2.2.2.2.2.2.1.2.2.2.2.1, hP.2.2.2.2.2.2.2.2.1.2.2.2.2.2.1, hP.2.2.2.2.2.2.2.2.1.2.2.2.2.2.2.1, hP.2.2.2.2.2.2.2.2.1.2.2.2.2.2.2.2⟩, ⟨hP.2.2.2.2.2.2.2.2.2.1.1, hP.2.2.2.2.2.2.2.2.2.1.2.1, hP.2.2.2.2.2.2.2.2.2.1.2.2.1, hP.2.2.2.2.2.2.2.2.2.1.2.2.2.1, hP.2.2.2.2.2.2.2.2.2.1.2.2.2.2.1, hP.2.2.2.2.2.2.2.2.2.1.2.2.2.2.2.1, hP.2.2.2.2.2.2.2.2.2.1.2.2.2.2.2.2.1, hP.2.2.2.2.2.2.2.2.2.1.2.2.2.2.2.2.2⟩, ⟨hP.2.2.2.2.2.2.2.2.2.2.1.1, hP.2.2.2.2.2.2.2.2.2.2.1.2.1, hP.2.2.2.2.2.2.2.2.2.2.1.2.2.1, (fun pc nx lv st h bc bs X hc hR => hP.2.2.2.2.2.2.2.2.2.2.1.2.2.2.1 pc nx lv st h bc bs X hc (hm _ _ hR)), (fun pc nx lv st h bc bs x hc hx hR => hP.2.2.2.2.2.2.2.2.2.2.1.2.2.2.2.1 pc nx lv st h bc bs x hc hx (hm _ _ hR)), (fun pc nx lv st h bc bs L hc hR => hP.2.2.2.2.2.2.2.2.2.2.1.2.2.2.2.2.1 pc nx lv st h bc bs L hc (hm _ _ hR)), (fun pc nx lv st h bc bs r hc hR => hP.2.2.2.2.2.2.2.2.2.2.1.2.2.2.2.2.2.1 pc nx lv st h bc bs r hc (hm _ _ hR)), (fun pc nx lv st h bc bs  hc hR => hP.2.2.2.2.2.2.2.2.2.2.1.2.2.2.2.2.2.2 pc nx lv st h bc bs  hc (hm _ _ hR))⟩, (fun pc nx lv st h bc bs  hc hR => hP.2.2.2.2.2.2.2.2.2.2.2 pc nx lv st h bc bs  hc (hm _ _ hR))⟩
set_option maxRecDepth 20000 in
theorem vCl_C {C C' : vCt} {m : Nat} {R : vQ} {P : vP} (hm : ∀ mc ms m a h Q, C mc ms m a h Q → C' mc ms m a h Q) (hP : vCl C' m R P) : vCl C m R P :=
  ⟨⟨hP.1.1, hP.1.2.1, hP.1.2.2.1, hP.1.2.2.2.1, hP.1.2.2.2.2.1, hP.1.2.2.2.2.2.1, hP.1.2.2.2.2.2.2.1, hP.1.2.2.2.2.2.2.2⟩, ⟨hP.2.1.1, hP.2.1.2.1, hP.2.1.2.2.1, hP.2.1.2.2.2.1, hP.2.1.2.2.2.2.1, hP.2.1.2.2.2.2.2.1, hP.2.1.2.2.2.2.2.2.1, hP.2.1.2.2.2.2.2.2.2⟩, ⟨hP.2.2.1.1, hP.2.2.1.2.1, hP.2.2.1.2.2.1, hP.2.2.1.2.2.2.1, hP.2.2.1.2.2.2.2.1, hP.2.2.1.2.2.2.2.2.1, hP.2.2.1.2.2.2.2.2.2.1, hP.2.2.1.2.2.2.2.2.2.2⟩, ⟨hP.2.2.2.1.1, hP.2.2.2.1.2.1, hP.2.2.2.1.2.2.1, hP.2.2.2.1.2.2.2.1, hP.2.2.2.1.2.2.2.2.1, hP.2.2.2.1.2.2.2.2.2.1, hP.2.2.2.1.2.2.2.2.2.2.1, hP.2.2.2.1.2.2.2.2.2.2.2⟩, ⟨hP.2.2.2.2.1.1, hP.2.2.2.2.1.2.1, hP.2.2.2.2.1.2.2.1, hP.2.2.2.2.1.2.2.2.1, hP.2.2.2.2.1.2.2.2.2.1, hP.2.2.2.2.1.2.2.2.2.2.1, hP.2.2.2.2.1.2.2.2.2.2.2.1, hP.2.2.2.2.1.2.2.2.2.2.2.2⟩, ⟨hP.2.2.2.2.2.1.1, hP.2.2.2.2.2.1.2.1, hP.2.2.2.2.2.1.2.2.1, hP.2.2.2.2.2.1.2.2.2.1, hP.2.2.2.2.2.1.2.2.2.2.1, hP.2.2.2.2.2.1.2.2.2.2.2.1, hP.2.2.2.2.2.1.2.2.2.2.2.2.1, hP.2.2.2.2.2.1.2.2.2.2.2.2.2⟩, ⟨hP.2.2.2.2.2.2.1.1, hP.2.2.2.2.2.2.1.2.1, hP.2.2.2.2.2.2.1.2.2.1, hP.2.2.2.2.2.2.1.2.2.2.1, hP.2.2.2.2.2.2.1.2.2.2.2.1, hP.2.2.2.2.2.2.1.2.2.2.2.2.1, hP.2.2.2.2.2.2.1.2.2.2.2.2.2.1, hP.2.2.2.2.2.2.1.2.2.2.2.2.2.2⟩, ⟨hP.2.2.2.2.2.2.2.1.1, hP.2.2.2.2.2.2.2.1.2.1, hP.2.2.2.2.2.2.2.1.2.2.1, hP.2.2.2.2.2.2.2.1.2.2.2.1, hP.2.2.2.2.2.2.2.1.2.2.2.2.1, hP.2.2.2.2.2.2.2.1.2.2.2.2.2.1, hP.2.2.2.2.2.2.2.1.2.2.2.2.2.2.1, hP.2.2.2.2.2.2.2.1.2.2.2.2.2.2.2⟩, ⟨hP.2.2.2.2.2.2.2.2.1.1, hP.2.2.2.2.2.2.2.2.1.2.1, hP.2.2.2.2.2.2.2.2.1.2.2.1, hP.2.2.2.2.2.2.2.2.1.2.2.2.1, hP.2.2.2.2.2.2.2.2.1.2.2.2.2.1, hP.2.2.2.2.2.2.2.2.1.2.2.2.2.2.1, hP.2.2.2.2.2.2.2.2.1.2.2.2.2.2.2.1, hP.2.2.2.2.2.2.2.2.1.2.2.2.2.2.2.2⟩, ⟨hP.2.2.2.2.2.2.2.2.2.1.1, hP.2.2.2.2.2.2.2.2.2.1.2.1, (fun pc nx lv st h bc bs mj As stk b ci fs mc ms hc hk hn ho hw k => hP.2.2.2.2.2.2.2.2.2.1.2.2.1 pc nx lv st h bc bs mj As stk b ci fs mc ms hc hk hn ho hw (hm _ _ _ _ _ _ k)), (fun pc nx lv st h bc bs mj As stk ci mc ms hc hk hn hw k => hP.2.2.2.2.2.2.2.2.2.1.2.2.2.1 pc nx lv st h bc bs mj As stk ci mc ms hc hk hn hw (hm _ _ _ _ _ _ k)), (fun pc nx lv st h bc bs mj As stk ci mc ms hc hk hn hw k => hP.2.2.2.2.2.2.2.2.2.1.2.2.2.2.1 pc nx lv st h bc bs mj As stk ci mc ms hc hk hn hw (hm _ _ _ _ _ _ k)), (fun pc nx lv st h bc bs mj As stk b ci mc ms hc hk hn hw k => hP.2.2.2.2.2.2.2.2.2.1.2.2.2.2.2.1 pc nx lv st h bc bs mj As stk b ci mc ms hc hk hn hw (hm _ _ _ _ _ _ k)), (fun pc nx lv st h bc bs mj As stk b ci mc ms hc hk hn hw k => hP.2.2.2.2.2.2.2.2.2.1.2.2.2.2.2.2.1 pc nx lv st h bc bs mj As stk b ci mc ms hc hk hn hw (hm _ _ _ _ _ _ k)), hP.2.2.2.2.2.2.2.2.2.1.2.2.2.2.2.2.2⟩, ⟨hP.2.2.2.2.2.2.2.2.2.2.1.1, hP.2.2.2.2.2.2.2.2.2.2.1.2.1, hP.2.2.2.2.2.2.2.2.2.2.1.2.2.1, hP.2.2.2.2.2.2.2.2.2.2.1.2.2.2.1, hP.2.2.2.2.2.2.2.2.2.2.1.2.2.2.2.1, hP.2.2.2.2.2.2.2.2.2.2.1.2.2.2.2.2.1, hP.2.2.2.2.2.2.2.2.2.2.1.2.2.2.2.2.2.1, hP.2.2.2.2.2.2.2.2.2.2.1.2.2.2.2.2.2.2⟩, hP.2.2.2.2.2.2.2.2.2.2.2⟩
theorem vW_R {C : vCt} {m : Nat} {R R' : vQ} (hm : ∀ v h, R v h → R' v h) {pc : Nat} {lv st : List Value} {h : vHp} {bc bs : Nat} (k : vW C m R pc lv st h bc bs) : vW C m R' pc lv st h bc bs := fun P hP => k P (vCl_R hm hP)
theorem vCall_Q : ∀ {d mc ms m : Nat} {a : List Value} {h : vHp} {Q Q' : vQ}, (∀ v h, Q v h → Q' v h) → vCall d mc ms m a h Q → vCall d mc ms m a h Q'
  | 0, _, _, _, _, _, _, _, _, k => k
  | _ + 1, _, _, _, _, _, _, _, hm, k => ⟨k.1, vW_R hm k.2⟩
theorem vCall_up : ∀ {d mc ms m : Nat} {a : List Value} {h : vHp} {Q : vQ}, vCall d mc ms m a h Q → vCall (d + 1) mc ms m a h Q
  | 0, _, _, _, _, _, _, k => k.elim
  | d + 1, _, _, _, _, _, _, k => ⟨k.1, fun P hP => k.2 P (vCl_C (fun _ _ _ _ _ _ z => vCall_up z) hP)⟩
theorem vCall_le {d d' mc ms m : Nat} {a : List Value} {h : vHp} {Q : vQ} (hd : d ≤ d') (k : vCall d mc ms m a h Q) : vCall d' mc ms m a h Q := by
  induction hd with
  | refl => exact k
  | step _ ih => exact vCall_up ih
/-- a method's entry -/
theorem vin {d mc ms m : Nat} {a : List Value} {h : vHp} {Q : vQ} (n : Nat) (lv : List Value) (hn : vml m = n) (hl : Nat.ble (vexp a).length n = true) (hlv : vpad n (vexp a) = lv) (k : vW (vCall d) m Q 0 lv [] h mc ms) : vCall (d + 1) mc ms m a h Q :=
  ⟨by rw [hn]; exact Nat.le_of_ble_eq_true hl, by rw [hn, hlv]; exact k⟩
theorem r_ci {d_ m : Nat} {R : vQ} {pc nx : Nat} {lv st : List Value} {h : vHp} {bc bs : Nat} {z : Int} (hc : vlk m pc = some (1, 0, 0, z, nx))  (k0 : vW (vCall d_) m R nx lv (.int (iI z) :: st) h bc bs) : vW (vCall d_) m R pc lv (st) h bc bs :=
  fun P hP => hP.1.1 pc nx lv st h bc bs z hc  (k0 P hP)
theorem r_cl {d_ m : Nat} {R : vQ} {pc nx : Nat} {lv st : List Value} {h : vHp} {bc bs : Nat} {z : Int} (hc : vlk m pc = some (2, 0, 0, z, nx))  (k0 : vW (vCall d_) m R nx lv (.long (lZ z) :: st) h bc bs) : vW (vCall d_) m R pc lv (st) h bc bs :=
  fun P hP => hP.1.2.1 pc nx lv st h bc bs z hc  (k0 P hP)
theorem r_null {d_ m : Nat} {R : vQ} {pc nx : Nat} {lv st : List Value} {h : vHp} {bc bs : Nat}  (hc : vlk m pc = some (3, 0, 0, 0, nx))  (k0 : vW (vCall d_) m R nx lv (.null :: st) h bc bs) : vW (vCall d_) m R pc lv (st) h bc bs :=
  fun P hP => hP.1.2.2.1 pc nx lv st h bc bs  hc  (k0 P hP)
theorem r_iload {d_ m : Nat} {R : vQ} {pc nx : Nat} {lv st : List Value} {h : vHp} {bc bs : Nat} {a : Nat} {X : Int32} (hc : vlk m pc = some (4, a, 0, 0, nx)) (hl : vgt lv a = some (.int X)) (k0 : vW (vCall d_) m R nx lv (.int X :: st) h bc bs) : vW (vCall d_) m R pc lv (st) h bc bs :=
  fun P hP => hP.1.2.2.2.1 pc nx lv st h bc bs a X hc hl (k0 P hP)
theorem r_lload {d_ m : Nat} {R : vQ} {pc nx : Nat} {lv st : List Value} {h : vHp} {bc bs : Nat} {a : Nat} {L : Int64} (hc : vlk m pc = some (5, a, 0, 0, nx)) (hl : vgt lv a = some (.long L)) (k0 : vW (vCall d_) m R nx lv (.long L :: st) h bc bs) : vW (vCall d_) m R pc lv (st) h bc bs :=
  fun P hP => hP.1.2.2.2.2.1 pc nx lv st h bc bs a L hc hl (k0 P hP)
theorem r_aload {d_ m : Nat} {R : vQ} {pc nx : Nat} {lv st : List Value} {h : vHp} {bc bs : Nat} {a : Nat} {r : Nat} (hc : vlk m pc = some (6, a, 0, 0, nx)) (hl : vgt lv a = some (.ref r)) (k0 : vW (vCall d_) m R nx lv (.ref r :: st) h bc bs) : vW (vCall d_) m R pc lv (st) h bc bs :=
  fun P hP => hP.1.2.2.2.2.2.1 pc nx lv st h bc bs a r hc hl (k0 P hP)
theorem r_aloadN {d_ m : Nat} {R : vQ} {pc nx : Nat} {lv st : List Value} {h : vHp} {bc bs : Nat} {a : Nat} (hc : vlk m pc = some (6, a, 0, 0, nx)) (hl : vgt lv a = some .null) (k0 : vW (vCall d_) m R nx lv (.null :: st) h bc bs) : vW (vCall d_) m R pc lv (st) h bc bs :=
  fun P hP => hP.1.2.2.2.2.2.2.1 pc nx lv st h bc bs a hc hl (k0 P hP)
theorem r_istore {d_ m : Nat} {R : vQ} {pc nx : Nat} {lv st : List Value} {h : vHp} {bc bs : Nat} {a : Nat} {X : Int32} (hc : vlk m pc = some (7, a, 0, 0, nx)) (hp : vpo lv a = true) (k0 : vW (vCall d_) m R nx (vst lv a (.int X)) (st) h bc bs) : vW (vCall d_) m R pc lv (.int X :: st) h bc bs :=
  fun P hP => hP.1.2.2.2.2.2.2.2 pc nx lv st h bc bs a X hc hp (k0 P hP)
theorem r_lstore {d_ m : Nat} {R : vQ} {pc nx : Nat} {lv st : List Value} {h : vHp} {bc bs : Nat} {a : Nat} {L : Int64} (hc : vlk m pc = some (8, a, 0, 0, nx)) (hp : vpo lv a = true) (hp2 : (vgt lv (a + 1)).isSome = true) (k0 : vW (vCall d_) m R nx (vst (vst lv a (.long L)) (a + 1) vHole) (st) h bc bs) : vW (vCall d_) m R pc lv (.long L :: st) h bc bs :=
  fun P hP => hP.2.1.1 pc nx lv st h bc bs a L hc hp hp2 (k0 P hP)
theorem r_astore {d_ m : Nat} {R : vQ} {pc nx : Nat} {lv st : List Value} {h : vHp} {bc bs : Nat} {a : Nat} {r : Nat} (hc : vlk m pc = some (9, a, 0, 0, nx)) (hp : vpo lv a = true) (k0 : vW (vCall d_) m R nx (vst lv a (.ref r)) (st) h bc bs) : vW (vCall d_) m R pc lv (.ref r :: st) h bc bs :=
  fun P hP => hP.2.1.2.1 pc nx lv st h bc bs a r hc hp (k0 P hP)
theorem r_astoreN {d_ m : Nat} {R : vQ} {pc nx : Nat} {lv st : List Value} {h : vHp} {bc bs : Nat} {a : Nat} (hc : vlk m pc = some (9, a, 0, 0, nx)) (hp : vpo lv a = true) (k0 : vW (vCall d_) m R nx (vst lv a .null) (st) h bc bs) : vW (vCall d_) m R pc lv (.null :: st) h bc bs :=
  fun P hP => hP.2.1.2.2.1 pc nx lv st h bc bs a hc hp (k0 P hP)
theorem r_iinc {d_ m : Nat} {R : vQ} {pc nx : Nat} {lv st : List Value} {h : vHp} {bc bs : Nat} {a : Nat} {z : Int} {x : Int} (hc : vlk m pc = some (10, a, 0, z, nx)) (hl : vgt lv a = some (.int (iI x))) (hp : vpo lv a = true) (k0 : vW (vCall d_) m R nx (vst lv a (.int (iI (x + z)))) (st) h bc bs) : vW (vCall d_) m R pc lv (st) h bc bs :=
  fun P hP => hP.2.1.2.2.2.1 pc nx lv st h bc bs a z x hc hl hp (k0 P hP)
theorem r_iadd {d_ m : Nat} {R : vQ} {pc nx : Nat} {lv st : List Value} {h : vHp} {bc bs : Nat} {x : Int} {y : Int} (hc : vlk m pc = some (11, 0, 0, 0, nx))  (k0 : vW (vCall d_) m R nx lv (.int (iI (x + y)) :: st) h bc bs) : vW (vCall d_) m R pc lv (.int (iI y) :: .int (iI x) :: st) h bc bs :=
  fun P hP => hP.2.1.2.2.2.2.1 pc nx lv st h bc bs x y hc  (k0 P hP)
theorem r_isub {d_ m : Nat} {R : vQ} {pc nx : Nat} {lv st : List Value} {h : vHp} {bc bs : Nat} {x : Int} {y : Int} (hc : vlk m pc = some (12, 0, 0, 0, nx))  (k0 : vW (vCall d_) m R nx lv (.int (iI (x - y)) :: st) h bc bs) : vW (vCall d_) m R pc lv (.int (iI y) :: .int (iI x) :: st) h bc bs :=
  fun P hP => hP.2.1.2.2.2.2.2.1 pc nx lv st h bc bs x y hc  (k0 P hP)
theorem r_imul {d_ m : Nat} {R : vQ} {pc nx : Nat} {lv st : List Value} {h : vHp} {bc bs : Nat} {x : Int} {y : Int} (hc : vlk m pc = some (13, 0, 0, 0, nx))  (k0 : vW (vCall d_) m R nx lv (.int (iI (x * y)) :: st) h bc bs) : vW (vCall d_) m R pc lv (.int (iI y) :: .int (iI x) :: st) h bc bs :=
  fun P hP => hP.2.1.2.2.2.2.2.2.1 pc nx lv st h bc bs x y hc  (k0 P hP)
theorem r_iand {d_ m : Nat} {R : vQ} {pc nx : Nat} {lv st : List Value} {h : vHp} {bc bs : Nat} {x : Int} {y : Int} (hc : vlk m pc = some (17, 0, 0, 0, nx))  (k0 : vW (vCall d_) m R nx lv (.int (iI (vandI x y)) :: st) h bc bs) : vW (vCall d_) m R pc lv (.int (iI y) :: .int (iI x) :: st) h bc bs :=
  fun P hP => hP.2.1.2.2.2.2.2.2.2 pc nx lv st h bc bs x y hc  (k0 P hP)
theorem r_ior {d_ m : Nat} {R : vQ} {pc nx : Nat} {lv st : List Value} {h : vHp} {bc bs : Nat} {x : Int} {y : Int} (hc : vlk m pc = some (18, 0, 0, 0, nx))  (k0 : vW (vCall d_) m R nx lv (.int (iI (vorI x y)) :: st) h bc bs) : vW (vCall d_) m R pc lv (.int (iI y) :: .int (iI x) :: st) h bc bs :=
  fun P hP => hP.2.2.1.1 pc nx lv st h bc bs x y hc  (k0 P hP)
theorem r_ishl {d_ m : Nat} {R : vQ} {pc nx : Nat} {lv st : List Value} {h : vHp} {bc bs : Nat} {x : Int} {y : Int} (hc : vlk m pc = some (19, 0, 0, 0, nx))  (k0 : vW (vCall d_) m R nx lv (.int (iI (vshlI x y)) :: st) h bc bs) : vW (vCall d_) m R pc lv (.int (iI y) :: .int (iI x) :: st) h bc bs :=
  fun P hP => hP.2.2.1.2.1 pc nx lv st h bc bs x y hc  (k0 P hP)
theorem r_ishr {d_ m : Nat} {R : vQ} {pc nx : Nat} {lv st : List Value} {h : vHp} {bc bs : Nat} {x : Int} {y : Int} (hc : vlk m pc = some (20, 0, 0, 0, nx))  (k0 : vW (vCall d_) m R nx lv (.int (iI (vshrI x y)) :: st) h bc bs) : vW (vCall d_) m R pc lv (.int (iI y) :: .int (iI x) :: st) h bc bs :=
  fun P hP => hP.2.2.1.2.2.1 pc nx lv st h bc bs x y hc  (k0 P hP)
theorem r_iushr {d_ m : Nat} {R : vQ} {pc nx : Nat} {lv st : List Value} {h : vHp} {bc bs : Nat} {x : Int} {y : Int} (hc : vlk m pc = some (21, 0, 0, 0, nx))  (k0 : vW (vCall d_) m R nx lv (.int (iI (vushrI x y)) :: st) h bc bs) : vW (vCall d_) m R pc lv (.int (iI y) :: .int (iI x) :: st) h bc bs :=
  fun P hP => hP.2.2.1.2.2.2.1 pc nx lv st h bc bs x y hc  (k0 P hP)
theorem r_idiv {d_ m : Nat} {R : vQ} {pc nx : Nat} {lv st : List Value} {h : vHp} {bc bs : Nat} {x : Int} {y : Int} (hc : vlk m pc = some (14, 0, 0, 0, nx)) (h1 : 0 ≤ x) (h2 : x ≤ 2147483647) (h3 : 0 < y) (h4 : y ≤ 2147483647) (k0 : vW (vCall d_) m R nx lv (.int (iI (x / y)) :: st) h bc bs) : vW (vCall d_) m R pc lv (.int (iI y) :: .int (iI x) :: st) h bc bs :=
  fun P hP => hP.2.2.1.2.2.2.2.1 pc nx lv st h bc bs x y hc h1 h2 h3 h4 (k0 P hP)
theorem r_irem {d_ m : Nat} {R : vQ} {pc nx : Nat} {lv st : List Value} {h : vHp} {bc bs : Nat} {x : Int} {y : Int} (hc : vlk m pc = some (15, 0, 0, 0, nx)) (h1 : 0 ≤ x) (h2 : x ≤ 2147483647) (h3 : 0 < y) (h4 : y ≤ 2147483647) (k0 : vW (vCall d_) m R nx lv (.int (iI (x % y)) :: st) h bc bs) : vW (vCall d_) m R pc lv (.int (iI y) :: .int (iI x) :: st) h bc bs :=
  fun P hP => hP.2.2.1.2.2.2.2.2.1 pc nx lv st h bc bs x y hc h1 h2 h3 h4 (k0 P hP)
theorem r_ineg {d_ m : Nat} {R : vQ} {pc nx : Nat} {lv st : List Value} {h : vHp} {bc bs : Nat} {x : Int} (hc : vlk m pc = some (16, 0, 0, 0, nx))  (k0 : vW (vCall d_) m R nx lv (.int (iI (-x)) :: st) h bc bs) : vW (vCall d_) m R pc lv (.int (iI x) :: st) h bc bs :=
  fun P hP => hP.2.2.1.2.2.2.2.2.2.1 pc nx lv st h bc bs x hc  (k0 P hP)
theorem r_ladd {d_ m : Nat} {R : vQ} {pc nx : Nat} {lv st : List Value} {h : vHp} {bc bs : Nat} {x : Int} {y : Int} (hc : vlk m pc = some (22, 0, 0, 0, nx))  (k0 : vW (vCall d_) m R nx lv (.long (lZ (x + y)) :: st) h bc bs) : vW (vCall d_) m R pc lv (.long (lZ y) :: .long (lZ x) :: st) h bc bs :=
  fun P hP => hP.2.2.1.2.2.2.2.2.2.2 pc nx lv st h bc bs x y hc  (k0 P hP)
theorem r_lsub {d_ m : Nat} {R : vQ} {pc nx : Nat} {lv st : List Value} {h : vHp} {bc bs : Nat} {x : Int} {y : Int} (hc : vlk m pc = some (23, 0, 0, 0, nx))  (k0 : vW (vCall d_) m R nx lv (.long (lZ (x - y)) :: st) h bc bs) : vW (vCall d_) m R pc lv (.long (lZ y) :: .long (lZ x) :: st) h bc bs :=
  fun P hP => hP.2.2.2.1.1 pc nx lv st h bc bs x y hc  (k0 P hP)
theorem r_lmul {d_ m : Nat} {R : vQ} {pc nx : Nat} {lv st : List Value} {h : vHp} {bc bs : Nat} {x : Int} {y : Int} (hc : vlk m pc = some (24, 0, 0, 0, nx))  (k0 : vW (vCall d_) m R nx lv (.long (lZ (x * y)) :: st) h bc bs) : vW (vCall d_) m R pc lv (.long (lZ y) :: .long (lZ x) :: st) h bc bs :=
  fun P hP => hP.2.2.2.1.2.1 pc nx lv st h bc bs x y hc  (k0 P hP)
theorem r_land {d_ m : Nat} {R : vQ} {pc nx : Nat} {lv st : List Value} {h : vHp} {bc bs : Nat} {x : Int} {y : Int} (hc : vlk m pc = some (25, 0, 0, 0, nx))  (k0 : vW (vCall d_) m R nx lv (.long (lZ (vandL x y)) :: st) h bc bs) : vW (vCall d_) m R pc lv (.long (lZ y) :: .long (lZ x) :: st) h bc bs :=
  fun P hP => hP.2.2.2.1.2.2.1 pc nx lv st h bc bs x y hc  (k0 P hP)
theorem r_lor {d_ m : Nat} {R : vQ} {pc nx : Nat} {lv st : List Value} {h : vHp} {bc bs : Nat} {x : Int} {y : Int} (hc : vlk m pc = some (26, 0, 0, 0, nx))  (k0 : vW (vCall d_) m R nx lv (.long (lZ (vorL x y)) :: st) h bc bs) : vW (vCall d_) m R pc lv (.long (lZ y) :: .long (lZ x) :: st) h bc bs :=
  fun P hP => hP.2.2.2.1.2.2.2.1 pc nx lv st h bc bs x y hc  (k0 P hP)
theorem r_lxor {d_ m : Nat} {R : vQ} {pc nx : Nat} {lv st : List Value} {h : vHp} {bc bs : Nat} {x : Int} {y : Int} (hc : vlk m pc = some (27, 0, 0, 0, nx))  (k0 : vW (vCall d_) m R nx lv (.long (lZ (vxorL x y)) :: st) h bc bs) : vW (vCall d_) m R pc lv (.long (lZ y) :: .long (lZ x) :: st) h bc bs :=
  fun P hP => hP.2.2.2.1.2.2.2.2.1 pc nx lv st h bc bs x y hc  (k0 P hP)
theorem r_lshl {d_ m : Nat} {R : vQ} {pc nx : Nat} {lv st : List Value} {h : vHp} {bc bs : Nat} {x : Int} {y : Int} (hc : vlk m pc = some (28, 0, 0, 0, nx))  (k0 : vW (vCall d_) m R nx lv (.long (lZ (vshlL x y)) :: st) h bc bs) : vW (vCall d_) m R pc lv (.int (iI y) :: .long (lZ x) :: st) h bc bs :=
  fun P hP => hP.2.2.2.1.2.2.2.2.2.1 pc nx lv st h bc bs x y hc  (k0 P hP)
theorem r_lshr {d_ m : Nat} {R : vQ} {pc nx : Nat} {lv st : List Value} {h : vHp} {bc bs : Nat} {x : Int} {y : Int} (hc : vlk m pc = some (29, 0, 0, 0, nx))  (k0 : vW (vCall d_) m R nx lv (.long (lZ (vshrL x y)) :: st) h bc bs) : vW (vCall d_) m R pc lv (.int (iI y) :: .long (lZ x) :: st) h bc bs :=
  fun P hP => hP.2.2.2.1.2.2.2.2.2.2.1 pc nx lv st h bc bs x y hc  (k0 P hP)
theorem r_lushr {d_ m : Nat} {R : vQ} {pc nx : Nat} {lv st : List Value} {h : vHp} {bc bs : Nat} {x : Int} {y : Int} (hc : vlk m pc = some (30, 0, 0, 0, nx))  (k0 : vW (vCall d_) m R nx lv (.long (lZ (vushrL x y)) :: st) h bc bs) : vW (vCall d_) m R pc lv (.int (iI y) :: .long (lZ x) :: st) h bc bs :=
  fun P hP => hP.2.2.2.1.2.2.2.2.2.2.2 pc nx lv st h bc bs x y hc  (k0 P hP)
theorem r_lcmp {d_ m : Nat} {R : vQ} {pc nx : Nat} {lv st : List Value} {h : vHp} {bc bs : Nat} {x : Int} {y : Int} (hc : vlk m pc = some (31, 0, 0, 0, nx)) (h1 : -9223372036854775808 ≤ x) (h2 : x ≤ 9223372036854775807) (h3 : -9223372036854775808 ≤ y) (h4 : y ≤ 9223372036854775807) (k0 : vW (vCall d_) m R nx lv (.int (iI (vcmp x y)) :: st) h bc bs) : vW (vCall d_) m R pc lv (.long (lZ y) :: .long (lZ x) :: st) h bc bs :=
  fun P hP => hP.2.2.2.2.1.1 pc nx lv st h bc bs x y hc h1 h2 h3 h4 (k0 P hP)
theorem r_i2l {d_ m : Nat} {R : vQ} {pc nx : Nat} {lv st : List Value} {h : vHp} {bc bs : Nat} {x : Int} (hc : vlk m pc = some (32, 0, 0, 0, nx)) (h1 : -2147483648 ≤ x) (h2 : x ≤ 2147483647) (k0 : vW (vCall d_) m R nx lv (.long (lZ x) :: st) h bc bs) : vW (vCall d_) m R pc lv (.int (iI x) :: st) h bc bs :=
  fun P hP => hP.2.2.2.2.1.2.1 pc nx lv st h bc bs x hc h1 h2 (k0 P hP)
theorem r_l2i {d_ m : Nat} {R : vQ} {pc nx : Nat} {lv st : List Value} {h : vHp} {bc bs : Nat} {x : Int} (hc : vlk m pc = some (33, 0, 0, 0, nx))  (k0 : vW (vCall d_) m R nx lv (.int (iI x) :: st) h bc bs) : vW (vCall d_) m R pc lv (.long (lZ x) :: st) h bc bs :=
  fun P hP => hP.2.2.2.2.1.2.2.1 pc nx lv st h bc bs x hc  (k0 P hP)
theorem r_dup {d_ m : Nat} {R : vQ} {pc nx : Nat} {lv st : List Value} {h : vHp} {bc bs : Nat} {v : Value} (hc : vlk m pc = some (34, 0, 0, 0, nx)) (hv : v.category = 1) (k0 : vW (vCall d_) m R nx lv (v :: v :: st) h bc bs) : vW (vCall d_) m R pc lv (v :: st) h bc bs :=
  fun P hP => hP.2.2.2.2.1.2.2.2.1 pc nx lv st h bc bs v hc hv (k0 P hP)
theorem r_dup2 {d_ m : Nat} {R : vQ} {pc nx : Nat} {lv st : List Value} {h : vHp} {bc bs : Nat} {v : Value} {u : Value} (hc : vlk m pc = some (35, 0, 0, 0, nx)) (hv : v.category = 1) (hu : u.category = 1) (k0 : vW (vCall d_) m R nx lv (v :: u :: v :: u :: st) h bc bs) : vW (vCall d_) m R pc lv (v :: u :: st) h bc bs :=
  fun P hP => hP.2.2.2.2.1.2.2.2.2.1 pc nx lv st h bc bs v u hc hv hu (k0 P hP)
theorem r_pop {d_ m : Nat} {R : vQ} {pc nx : Nat} {lv st : List Value} {h : vHp} {bc bs : Nat} {v : Value} (hc : vlk m pc = some (36, 0, 0, 0, nx)) (hv : v.category = 1) (k0 : vW (vCall d_) m R nx lv (st) h bc bs) : vW (vCall d_) m R pc lv (v :: st) h bc bs :=
  fun P hP => hP.2.2.2.2.1.2.2.2.2.2.1 pc nx lv st h bc bs v hc hv (k0 P hP)
theorem r_goto {d_ m : Nat} {R : vQ} {pc nx : Nat} {lv st : List Value} {h : vHp} {bc bs : Nat} {a : Nat} (hc : vlk m pc = some (37, a, 0, 0, nx))  (k0 : vW (vCall d_) m R a lv (st) h bc bs) : vW (vCall d_) m R pc lv (st) h bc bs :=
  fun P hP => hP.2.2.2.2.1.2.2.2.2.2.2.1 pc nx lv st h bc bs a hc  (k0 P hP)
theorem r_ifeq {d_ m : Nat} {R : vQ} {pc nx : Nat} {lv st : List Value} {h : vHp} {bc bs : Nat} {a : Nat} {x : Int} (hc : vlk m pc = some (70, a, 0, 0, nx)) (h1 : -2147483648 ≤ x) (h2 : x ≤ 2147483647) (k0 : (x = 0 → vW (vCall d_) m R a lv (st) h bc bs)) (k1 : (x ≠ 0 → vW (vCall d_) m R nx lv (st) h bc bs)) : vW (vCall d_) m R pc lv (.int (iI x) :: st) h bc bs :=
  fun P hP => hP.2.2.2.2.1.2.2.2.2.2.2.2 pc nx lv st h bc bs a x hc h1 h2 (fun z => k0 z P hP) (fun z => k1 z P hP)
theorem r_ifne {d_ m : Nat} {R : vQ} {pc nx : Nat} {lv st : List Value} {h : vHp} {bc bs : Nat} {a : Nat} {x : Int} (hc : vlk m pc = some (71, a, 0, 0, nx)) (h1 : -2147483648 ≤ x) (h2 : x ≤ 2147483647) (k0 : (x ≠ 0 → vW (vCall d_) m R a lv (st) h bc bs)) (k1 : (x = 0 → vW (vCall d_) m R nx lv (st) h bc bs)) : vW (vCall d_) m R pc lv (.int (iI x) :: st) h bc bs :=
  fun P hP => hP.2.2.2.2.2.1.1 pc nx lv st h bc bs a x hc h1 h2 (fun z => k0 z P hP) (fun z => k1 z P hP)
theorem r_iflt {d_ m : Nat} {R : vQ} {pc nx : Nat} {lv st : List Value} {h : vHp} {bc bs : Nat} {a : Nat} {x : Int} (hc : vlk m pc = some (72, a, 0, 0, nx)) (h1 : -2147483648 ≤ x) (h2 : x ≤ 2147483647) (k0 : (x < 0 → vW (vCall d_) m R a lv (st) h bc bs)) (k1 : (0 ≤ x → vW (vCall d_) m R nx lv (st) h bc bs)) : vW (vCall d_) m R pc lv (.int (iI x) :: st) h bc bs :=
  fun P hP => hP.2.2.2.2.2.1.2.1 pc nx lv st h bc bs a x hc h1 h2 (fun z => k0 z P hP) (fun z => k1 z P hP)
theorem r_ifge {d_ m : Nat} {R : vQ} {pc nx : Nat} {lv st : List Value} {h : vHp} {bc bs : Nat} {a : Nat} {x : Int} (hc : vlk m pc = some (73, a, 0, 0, nx)) (h1 : -2147483648 ≤ x) (h2 : x ≤ 2147483647) (k0 : (0 ≤ x → vW (vCall d_) m R a lv (st) h bc bs)) (k1 : (x < 0 → vW (vCall d_) m R nx lv (st) h bc bs)) : vW (vCall d_) m R pc lv (.int (iI x) :: st) h bc bs :=
  fun P hP => hP.2.2.2.2.2.1.2.2.1 pc nx lv st h bc bs a x hc h1 h2 (fun z => k0 z P hP) (fun z => k1 z P hP)
theorem r_ifgt {d_ m : Nat} {R : vQ} {pc nx : Nat} {lv st : List Value} {h : vHp} {bc bs : Nat} {a : Nat} {x : Int} (hc : vlk m pc = some (74, a, 0, 0, nx)) (h1 : -2147483648 ≤ x) (h2 : x ≤ 2147483647) (k0 : (0 < x → vW (vCall d_) m R a lv (st) h bc bs)) (k1 : (x ≤ 0 → vW (vCall d_) m R nx lv (st) h bc bs)) : vW (vCall d_) m R pc lv (.int (iI x) :: st) h bc bs :=
  fun P hP => hP.2.2.2.2.2.1.2.2.2.1 pc nx lv st h bc bs a x hc h1 h2 (fun z => k0 z P hP) (fun z => k1 z P hP)
theorem r_ifle {d_ m : Nat} {R : vQ} {pc nx : Nat} {lv st : List Value} {h : vHp} {bc bs : Nat} {a : Nat} {x : Int} (hc : vlk m pc = some (75, a, 0, 0, nx)) (h1 : -2147483648 ≤ x) (h2 : x ≤ 2147483647) (k0 : (x ≤ 0 → vW (vCall d_) m R a lv (st) h bc bs)) (k1 : (0 < x → vW (vCall d_) m R nx lv (st) h bc bs)) : vW (vCall d_) m R pc lv (.int (iI x) :: st) h bc bs :=
  fun P hP => hP.2.2.2.2.2.1.2.2.2.2.1 pc nx lv st h bc bs a x hc h1 h2 (fun z => k0 z P hP) (fun z => k1 z P hP)
theorem r_iceq {d_ m : Nat} {R : vQ} {pc nx : Nat} {lv st : List Value} {h : vHp} {bc bs : Nat} {a : Nat} {x : Int} {y : Int} (hc : vlk m pc = some (76, a, 0, 0, nx)) (h1 : -2147483648 ≤ x) (h2 : x ≤ 2147483647) (h3 : -2147483648 ≤ y) (h4 : y ≤ 2147483647) (k0 : (x = y → vW (vCall d_) m R a lv (st) h bc bs)) (k1 : (x ≠ y → vW (vCall d_) m R nx lv (st) h bc bs)) : vW (vCall d_) m R pc lv (.int (iI y) :: .int (iI x) :: st) h bc bs :=
  fun P hP => hP.2.2.2.2.2.1.2.2.2.2.2.1 pc nx lv st h bc bs a x y hc h1 h2 h3 h4 (fun z => k0 z P hP) (fun z => k1 z P hP)
theorem r_icne {d_ m : Nat} {R : vQ} {pc nx : Nat} {lv st : List Value} {h : vHp} {bc bs : Nat} {a : Nat} {x : Int} {y : Int} (hc : vlk m pc = some (77, a, 0, 0, nx)) (h1 : -2147483648 ≤ x) (h2 : x ≤ 2147483647) (h3 : -2147483648 ≤ y) (h4 : y ≤ 2147483647) (k0 : (x ≠ y → vW (vCall d_) m R a lv (st) h bc bs)) (k1 : (x = y → vW (vCall d_) m R nx lv (st) h bc bs)) : vW (vCall d_) m R pc lv (.int (iI y) :: .int (iI x) :: st) h bc bs :=
  fun P hP => hP.2.2.2.2.2.1.2.2.2.2.2.2.1 pc nx lv st h bc bs a x y hc h1 h2 h3 h4 (fun z => k0 z P hP) (fun z => k1 z P hP)
theorem r_iclt {d_ m : Nat} {R : vQ} {pc nx : Nat} {lv st : List Value} {h : vHp} {bc bs : Nat} {a : Nat} {x : Int} {y : Int} (hc : vlk m pc = some (78, a, 0, 0, nx)) (h1 : -2147483648 ≤ x) (h2 : x ≤ 2147483647) (h3 : -2147483648 ≤ y) (h4 : y ≤ 2147483647) (k0 : (x < y → vW (vCall d_) m R a lv (st) h bc bs)) (k1 : (y ≤ x → vW (vCall d_) m R nx lv (st) h bc bs)) : vW (vCall d_) m R pc lv (.int (iI y) :: .int (iI x) :: st) h bc bs :=
  fun P hP => hP.2.2.2.2.2.1.2.2.2.2.2.2.2 pc nx lv st h bc bs a x y hc h1 h2 h3 h4 (fun z => k0 z P hP) (fun z => k1 z P hP)
theorem r_icge {d_ m : Nat} {R : vQ} {pc nx : Nat} {lv st : List Value} {h : vHp} {bc bs : Nat} {a : Nat} {x : Int} {y : Int} (hc : vlk m pc = some (79, a, 0, 0, nx)) (h1 : -2147483648 ≤ x) (h2 : x ≤ 2147483647) (h3 : -2147483648 ≤ y) (h4 : y ≤ 2147483647) (k0 : (y ≤ x → vW (vCall d_) m R a lv (st) h bc bs)) (k1 : (x < y → vW (vCall d_) m R nx lv (st) h bc bs)) : vW (vCall d_) m R pc lv (.int (iI y) :: .int (iI x) :: st) h bc bs :=
  fun P hP => hP.2.2.2.2.2.2.1.1 pc nx lv st h bc bs a x y hc h1 h2 h3 h4 (fun z => k0 z P hP) (fun z => k1 z P hP)
theorem r_icgt {d_ m : Nat} {R : vQ} {pc nx : Nat} {lv st : List Value} {h : vHp} {bc bs : Nat} {a : Nat} {x : Int} {y : Int} (hc : vlk m pc = some (80, a, 0, 0, nx)) (h1 : -2147483648 ≤ x) (h2 : x ≤ 2147483647) (h3 : -2147483648 ≤ y) (h4 : y ≤ 2147483647) (k0 : (y < x → vW (vCall d_) m R a lv (st) h bc bs)) (k1 : (x ≤ y → vW (vCall d_) m R nx lv (st) h bc bs)) : vW (vCall d_) m R pc lv (.int (iI y) :: .int (iI x) :: st) h bc bs :=
  fun P hP => hP.2.2.2.2.2.2.1.2.1 pc nx lv st h bc bs a x y hc h1 h2 h3 h4 (fun z => k0 z P hP) (fun z => k1 z P hP)
theorem r_icle {d_ m : Nat} {R : vQ} {pc nx : Nat} {lv st : List Value} {h : vHp} {bc bs : Nat} {a : Nat} {x : Int} {y : Int} (hc : vlk m pc = some (81, a, 0, 0, nx)) (h1 : -2147483648 ≤ x) (h2 : x ≤ 2147483647) (h3 : -2147483648 ≤ y) (h4 : y ≤ 2147483647) (k0 : (x ≤ y → vW (vCall d_) m R a lv (st) h bc bs)) (k1 : (y < x → vW (vCall d_) m R nx lv (st) h bc bs)) : vW (vCall d_) m R pc lv (.int (iI y) :: .int (iI x) :: st) h bc bs :=
  fun P hP => hP.2.2.2.2.2.2.1.2.2.1 pc nx lv st h bc bs a x y hc h1 h2 h3 h4 (fun z => k0 z P hP) (fun z => k1 z P hP)
theorem r_ifnullR {d_ m : Nat} {R : vQ} {pc nx : Nat} {lv st : List Value} {h : vHp} {bc bs : Nat} {a : Nat} {r : Nat} (hc : vlk m pc = some (40, a, 0, 0, nx))  (k0 : vW (vCall d_) m R nx lv (st) h bc bs) : vW (vCall d_) m R pc lv (.ref r :: st) h bc bs :=
  fun P hP => hP.2.2.2.2.2.2.1.2.2.2.1 pc nx lv st h bc bs a r hc  (k0 P hP)
theorem r_ifnullN {d_ m : Nat} {R : vQ} {pc nx : Nat} {lv st : List Value} {h : vHp} {bc bs : Nat} {a : Nat} (hc : vlk m pc = some (40, a, 0, 0, nx))  (k0 : vW (vCall d_) m R a lv (st) h bc bs) : vW (vCall d_) m R pc lv (.null :: st) h bc bs :=
  fun P hP => hP.2.2.2.2.2.2.1.2.2.2.2.1 pc nx lv st h bc bs a hc  (k0 P hP)
theorem r_ifnonR {d_ m : Nat} {R : vQ} {pc nx : Nat} {lv st : List Value} {h : vHp} {bc bs : Nat} {a : Nat} {r : Nat} (hc : vlk m pc = some (41, a, 0, 0, nx))  (k0 : vW (vCall d_) m R a lv (st) h bc bs) : vW (vCall d_) m R pc lv (.ref r :: st) h bc bs :=
  fun P hP => hP.2.2.2.2.2.2.1.2.2.2.2.2.1 pc nx lv st h bc bs a r hc  (k0 P hP)
theorem r_ifnonN {d_ m : Nat} {R : vQ} {pc nx : Nat} {lv st : List Value} {h : vHp} {bc bs : Nat} {a : Nat} (hc : vlk m pc = some (41, a, 0, 0, nx))  (k0 : vW (vCall d_) m R nx lv (st) h bc bs) : vW (vCall d_) m R pc lv (.null :: st) h bc bs :=
  fun P hP => hP.2.2.2.2.2.2.1.2.2.2.2.2.2.1 pc nx lv st h bc bs a hc  (k0 P hP)
theorem r_sw {d_ m : Nat} {R : vQ} {pc nx : Nat} {lv st : List Value} {h : vHp} {bc bs : Nat} {a : Nat} {b : Nat} {x : Int} {ps : List (Int × Nat)} {d : Nat} (hc : vlk m pc = some (67, a, b, 0, nx)) (hs : vsw[a]? = some (ps, d)) (h1 : -2147483648 ≤ x) (h2 : x ≤ 2147483647) (k0 : vW (vCall d_) m R (vfd ps d x) lv (st) h bc bs) : vW (vCall d_) m R pc lv (.int (iI x) :: st) h bc bs :=
  fun P hP => hP.2.2.2.2.2.2.1.2.2.2.2.2.2.2 pc nx lv st h bc bs a b x ps d hc hs h1 h2 (k0 P hP)
theorem r_get {d_ m : Nat} {R : vQ} {pc nx : Nat} {lv st : List Value} {h : vHp} {bc bs : Nat} {ci : Nat} {k : Nat} {a : Nat} {fs : List Value} {v : Value} (hc : vlk m pc = some (42, ci, k, 0, nx)) (ho : hg h a = some (.inr (ci, fs))) (hv : vgt fs k = some v) (k0 : vW (vCall d_) m R nx lv (v :: st) h bc bs) : vW (vCall d_) m R pc lv (.ref a :: st) h bc bs :=
  fun P hP => hP.2.2.2.2.2.2.2.1.1 pc nx lv st h bc bs ci k a fs v hc ho hv (k0 P hP)
theorem r_put {d_ m : Nat} {R : vQ} {pc nx : Nat} {lv st : List Value} {h : vHp} {bc bs : Nat} {ci : Nat} {k : Nat} {a : Nat} {fs : List Value} {v : Value} {u : Value} (hc : vlk m pc = some (43, ci, k, 0, nx)) (ho : hg h a = some (.inr (ci, fs))) (hlo : h.1.1 ≤ a) (hu : vgt fs k = some u) (hf : vfit ci k v) (k0 : (∀ h' : vHp, vSt h h' a (.inr (ci, vst fs k v)) → vW (vCall d_) m R nx lv (st) h' bc bs)) : vW (vCall d_) m R pc lv (v :: .ref a :: st) h bc bs :=
  fun P hP => hP.2.2.2.2.2.2.2.1.2.1 pc nx lv st h bc bs ci k a fs v u hc ho hlo hu hf (fun h' z => k0 h' z P hP)
theorem r_putF {d_ m : Nat} {R : vQ} {pc nx : Nat} {lv st : List Value} {h : vHp} {bc bs : Nat} {ci : Nat} {k : Nat} {a : Nat} {fs : List Value} {v : Value} {u : Value} (hc : vlk m pc = some (68, ci, k, 0, nx)) (ho : hg h a = some (.inr (ci, fs))) (hlo : h.1.1 ≤ a) (hu : vgt fs k = some u) (hf : vfit ci k v) (k0 : (∀ h' : vHp, vSt h h' a (.inr (ci, vst fs k v)) → vW (vCall d_) m R nx lv (st) h' bc bs)) : vW (vCall d_) m R pc lv (v :: .ref a :: st) h bc bs :=
  fun P hP => hP.2.2.2.2.2.2.2.1.2.2.1 pc nx lv st h bc bs ci k a fs v u hc ho hlo hu hf (fun h' z => k0 h' z P hP)
theorem r_gets {d_ m : Nat} {R : vQ} {pc nx : Nat} {lv st : List Value} {h : vHp} {bc bs : Nat} {b : Nat} (hc : vlk m pc = some (44, 0, b, 0, nx))  (k0 : vW (vCall d_) m R nx lv (.ref h.1.2 :: st) h bc bs) : vW (vCall d_) m R pc lv (st) h bc bs :=
  fun P hP => hP.2.2.2.2.2.2.2.1.2.2.2.1 pc nx lv st h bc bs b hc  (k0 P hP)
theorem r_iald {d_ m : Nat} {R : vQ} {pc nx : Nat} {lv st : List Value} {h : vHp} {bc bs : Nat} {x : Int} {a : Nat} {n : Nat} {f : Nat → Int} (hc : vlk m pc = some (45, 0, 0, 0, nx)) (ho : hg h a = some (.inl (0, n, .inl f))) (h1 : 0 ≤ x) (h2 : x < n) (k0 : vW (vCall d_) m R nx lv (.int (iI (f x.toNat)) :: st) h bc bs) : vW (vCall d_) m R pc lv (.int (iI x) :: .ref a :: st) h bc bs :=
  fun P hP => hP.2.2.2.2.2.2.2.1.2.2.2.2.1 pc nx lv st h bc bs x a n f hc ho h1 h2 (k0 P hP)
theorem r_lald {d_ m : Nat} {R : vQ} {pc nx : Nat} {lv st : List Value} {h : vHp} {bc bs : Nat} {x : Int} {a : Nat} {n : Nat} {f : Nat → Int} (hc : vlk m pc = some (46, 0, 0, 0, nx)) (ho : hg h a = some (.inl (1, n, .inl f))) (h1 : 0 ≤ x) (h2 : x < n) (k0 : vW (vCall d_) m R nx lv (.long (lZ (f x.toNat)) :: st) h bc bs) : vW (vCall d_) m R pc lv (.int (iI x) :: .ref a :: st) h bc bs :=
  fun P hP => hP.2.2.2.2.2.2.2.1.2.2.2.2.2.1 pc nx lv st h bc bs x a n f hc ho h1 h2 (k0 P hP)
theorem r_bald {d_ m : Nat} {R : vQ} {pc nx : Nat} {lv st : List Value} {h : vHp} {bc bs : Nat} {x : Int} {a : Nat} {n : Nat} {f : Nat → Int} (hc : vlk m pc = some (47, 0, 0, 0, nx)) (ho : hg h a = some (.inl (2, n, .inl f))) (h1 : 0 ≤ x) (h2 : x < n) (k0 : vW (vCall d_) m R nx lv (.int (iI (f x.toNat)) :: st) h bc bs) : vW (vCall d_) m R pc lv (.int (iI x) :: .ref a :: st) h bc bs :=
  fun P hP => hP.2.2.2.2.2.2.2.1.2.2.2.2.2.2.1 pc nx lv st h bc bs x a n f hc ho h1 h2 (k0 P hP)
theorem r_aald {d_ m : Nat} {R : vQ} {pc nx : Nat} {lv st : List Value} {h : vHp} {bc bs : Nat} {x : Int} {a : Nat} {n : Nat} {τ : Nat} {p : Nat → Option Nat} {r : Nat} (hc : vlk m pc = some (48, 0, 0, 0, nx)) (ho : hg h a = some (.inl (τ, n, .inr p))) (ht : 3 ≤ τ ∧ τ < 7) (h1 : 0 ≤ x) (h2 : x < n) (hr : p x.toNat = some r) (k0 : vW (vCall d_) m R nx lv (.ref r :: st) h bc bs) : vW (vCall d_) m R pc lv (.int (iI x) :: .ref a :: st) h bc bs :=
  fun P hP => hP.2.2.2.2.2.2.2.1.2.2.2.2.2.2.2 pc nx lv st h bc bs x a n τ p r hc ho ht h1 h2 hr (k0 P hP)
theorem r_iast {d_ m : Nat} {R : vQ} {pc nx : Nat} {lv st : List Value} {h : vHp} {bc bs : Nat} {x : Int} {y : Int} {a : Nat} {n : Nat} {f : Nat → Int} (hc : vlk m pc = some (49, 0, 0, 0, nx)) (ho : hg h a = some (.inl (0, n, .inl f))) (hlo : h.1.1 ≤ a) (h1 : 0 ≤ x) (h2 : x < n) (k0 : (∀ h' : vHp, vSt h h' a (.inl (0, n, .inl (vup f x.toNat y))) → vW (vCall d_) m R nx lv (st) h' bc bs)) : vW (vCall d_) m R pc lv (.int (iI y) :: .int (iI x) :: .ref a :: st) h bc bs :=
  fun P hP => hP.2.2.2.2.2.2.2.2.1.1 pc nx lv st h bc bs x y a n f hc ho hlo h1 h2 (fun h' z => k0 h' z P hP)
theorem r_last {d_ m : Nat} {R : vQ} {pc nx : Nat} {lv st : List Value} {h : vHp} {bc bs : Nat} {x : Int} {y : Int} {a : Nat} {n : Nat} {f : Nat → Int} (hc : vlk m pc = some (50, 0, 0, 0, nx)) (ho : hg h a = some (.inl (1, n, .inl f))) (hlo : h.1.1 ≤ a) (h1 : 0 ≤ x) (h2 : x < n) (k0 : (∀ h' : vHp, vSt h h' a (.inl (1, n, .inl (vup f x.toNat y))) → vW (vCall d_) m R nx lv (st) h' bc bs)) : vW (vCall d_) m R pc lv (.long (lZ y) :: .int (iI x) :: .ref a :: st) h bc bs :=
  fun P hP => hP.2.2.2.2.2.2.2.2.1.2.1 pc nx lv st h bc bs x y a n f hc ho hlo h1 h2 (fun h' z => k0 h' z P hP)
theorem r_bast {d_ m : Nat} {R : vQ} {pc nx : Nat} {lv st : List Value} {h : vHp} {bc bs : Nat} {x : Int} {y : Int} {a : Nat} {n : Nat} {f : Nat → Int} (hc : vlk m pc = some (51, 0, 0, 0, nx)) (ho : hg h a = some (.inl (2, n, .inl f))) (hlo : h.1.1 ≤ a) (h1 : 0 ≤ x) (h2 : x < n) (hy : y = 0 ∨ y = 1) (k0 : (∀ h' : vHp, vSt h h' a (.inl (2, n, .inl (vup f x.toNat y))) → vW (vCall d_) m R nx lv (st) h' bc bs)) : vW (vCall d_) m R pc lv (.int (iI y) :: .int (iI x) :: .ref a :: st) h bc bs :=
  fun P hP => hP.2.2.2.2.2.2.2.2.1.2.2.1 pc nx lv st h bc bs x y a n f hc ho hlo h1 h2 hy (fun h' z => k0 h' z P hP)
theorem r_aast {d_ m : Nat} {R : vQ} {pc nx : Nat} {lv st : List Value} {h : vHp} {bc bs : Nat} {x : Int} {a : Nat} {n : Nat} {τ : Nat} {p : Nat → Option Nat} {r : Nat} {ci : Nat} {vs : List Value} (hc : vlk m pc = some (52, 0, 0, 0, nx)) (ho : hg h a = some (.inl (τ, n, .inr p))) (ht : 3 ≤ τ ∧ τ < 6) (hlo : h.1.1 ≤ a) (h1 : 0 ≤ x) (h2 : x < n) (hr : hg h r = some (.inr (vek τ, vs))) (k0 : (∀ h' : vHp, vSt h h' a (.inl (τ, n, .inr (vup p x.toNat (some r)))) → vW (vCall d_) m R nx lv (st) h' bc bs)) : vW (vCall d_) m R pc lv (.ref r :: .int (iI x) :: .ref a :: st) h bc bs :=
  fun P hP => hP.2.2.2.2.2.2.2.2.1.2.2.2.1 pc nx lv st h bc bs x a n τ p r ci vs hc ho ht hlo h1 h2 hr (fun h' z => k0 h' z P hP)
theorem r_aastA {d_ m : Nat} {R : vQ} {pc nx : Nat} {lv st : List Value} {h : vHp} {bc bs : Nat} {x : Int} {a : Nat} {n : Nat} {p : Nat → Option Nat} {r : Nat} {n2 : Nat} {f : Nat → Int} (hc : vlk m pc = some (52, 0, 0, 0, nx)) (ho : hg h a = some (.inl (6, n, .inr p))) (hlo : h.1.1 ≤ a) (h1 : 0 ≤ x) (h2 : x < n) (hr : hg h r = some (.inl (0, n2, .inl f))) (k0 : (∀ h' : vHp, vSt h h' a (.inl (6, n, .inr (vup p x.toNat (some r)))) → vW (vCall d_) m R nx lv (st) h' bc bs)) : vW (vCall d_) m R pc lv (.ref r :: .int (iI x) :: .ref a :: st) h bc bs :=
  fun P hP => hP.2.2.2.2.2.2.2.2.1.2.2.2.2.1 pc nx lv st h bc bs x a n p r n2 f hc ho hlo h1 h2 hr (fun h' z => k0 h' z P hP)
theorem r_alen {d_ m : Nat} {R : vQ} {pc nx : Nat} {lv st : List Value} {h : vHp} {bc bs : Nat} {a : Nat} {n : Nat} {f : Nat → Int} (hc : vlk m pc = some (53, 0, 0, 0, nx)) (ho : hg h a = some (.inl (0, n, .inl f))) (k0 : vW (vCall d_) m R nx lv (.int (iI (n : Int)) :: st) h bc bs) : vW (vCall d_) m R pc lv (.ref a :: st) h bc bs :=
  fun P hP => hP.2.2.2.2.2.2.2.2.1.2.2.2.2.2.1 pc nx lv st h bc bs a n f hc ho (k0 P hP)
theorem r_new {d_ m : Nat} {R : vQ} {pc nx : Nat} {lv st : List Value} {h : vHp} {bc bs : Nat} {ci : Nat} {n : Nat} (hc : vlk m pc = some (54, ci, n, 0, nx))  (k0 : (∀ h' : vHp, vNw h h' (.inr (ci, vblank ci n)) → vW (vCall d_) m R nx lv (.ref h.2.1 :: st) h' bc bs)) : vW (vCall d_) m R pc lv (st) h (bc + 1) (bs + n) :=
  fun P hP => hP.2.2.2.2.2.2.2.2.1.2.2.2.2.2.2.1 pc nx lv st h bc bs ci n hc  (fun h' z => k0 h' z P hP)
theorem r_newa {d_ m : Nat} {R : vQ} {pc nx : Nat} {lv st : List Value} {h : vHp} {bc bs : Nat} {a : Nat} {x : Int} (hc : vlk m pc = some (55, a, 0, 0, nx)) (h1 : 0 ≤ x) (h2 : x ≤ 60000) (k0 : (∀ h' : vHp, vNw h h' (.inl (a, x.toNat, .inl fun _ => 0)) → vW (vCall d_) m R nx lv (.ref h.2.1 :: st) h' bc bs)) : vW (vCall d_) m R pc lv (.int (iI x) :: st) h (bc + 1) (bs + x.toNat) :=
  fun P hP => hP.2.2.2.2.2.2.2.2.1.2.2.2.2.2.2.2 pc nx lv st h bc bs a x hc h1 h2 (fun h' z => k0 h' z P hP)
theorem r_anew {d_ m : Nat} {R : vQ} {pc nx : Nat} {lv st : List Value} {h : vHp} {bc bs : Nat} {τ : Nat} {x : Int} (hc : vlk m pc = some (56, τ, 0, 0, nx)) (h1 : 0 ≤ x) (h2 : x ≤ 60000) (k0 : (∀ h' : vHp, vNw h h' (.inl (τ, x.toNat, .inr fun _ => none)) → vW (vCall d_) m R nx lv (.ref h.2.1 :: st) h' bc bs)) : vW (vCall d_) m R pc lv (.int (iI x) :: st) h (bc + 1) (bs + x.toNat) :=
  fun P hP => hP.2.2.2.2.2.2.2.2.2.1.1 pc nx lv st h bc bs τ x hc h1 h2 (fun h' z => k0 h' z P hP)
theorem r_mnew {d_ m : Nat} {R : vQ} {pc nx : Nat} {lv st : List Value} {h : vHp} {bc bs : Nat} {x : Int} {y : Int} (hc : vlk m pc = some (57, 0, 0, 0, nx)) (h1 : 0 ≤ x) (h2 : x ≤ 60000) (h3 : 0 ≤ y) (h4 : y ≤ 60000) (k0 : (∀ h' : vHp, vNm h h' x.toNat y.toNat → vW (vCall d_) m R nx lv (.ref h.2.1 :: st) h' bc bs)) : vW (vCall d_) m R pc lv (.int (iI y) :: .int (iI x) :: st) h (bc + (1 + x.toNat)) (bs + (x.toNat + x.toNat * y.toNat)) :=
  fun P hP => hP.2.2.2.2.2.2.2.2.2.1.2.1 pc nx lv st h bc bs x y hc h1 h2 h3 h4 (fun h' z => k0 h' z P hP)
theorem r_inv {d_ m : Nat} {R : vQ} {pc nx : Nat} {lv st : List Value} {h : vHp} {bc bs : Nat} {mj : Nat} {As : List Value} {stk : List Value} {b : Nat} {ci : Nat} {fs : List Value} {mc : Nat} {ms : Nat} (hc : vlk m pc = some (58, mj, 0, 0, nx)) (hk : stk = As.reverse ++ .ref b :: st) (hn : vrc mj = some (ci, As.length)) (ho : hg h b = some (.inr (ci, fs))) (hw : (st.map fun v => v.category).sum ≤ 8) (k0 : vCall d_ mc ms mj (.ref b :: As) h (fun v h' => vW (vCall d_) m R nx lv (vpush v st) h' bc bs)) : vW (vCall d_) m R pc lv (stk) h (bc + mc) (bs + ms) :=
  fun P hP => hP.2.2.2.2.2.2.2.2.2.1.2.2.1 pc nx lv st h bc bs mj As stk b ci fs mc ms hc hk hn ho hw (vCall_Q (fun v h' z => z P hP) k0)
theorem r_ins {d_ m : Nat} {R : vQ} {pc nx : Nat} {lv st : List Value} {h : vHp} {bc bs : Nat} {mj : Nat} {As : List Value} {stk : List Value} {ci : Nat} {mc : Nat} {ms : Nat} (hc : vlk m pc = some (59, mj, 0, 0, nx)) (hk : stk = As.reverse ++ st) (hn : vrc mj = some (ci, As.length)) (hw : (st.map fun v => v.category).sum ≤ 8) (k0 : vCall d_ mc ms mj As h (fun v h' => vW (vCall d_) m R nx lv (vpush v st) h' bc bs)) : vW (vCall d_) m R pc lv (stk) h (bc + mc) (bs + ms) :=
  fun P hP => hP.2.2.2.2.2.2.2.2.2.1.2.2.2.1 pc nx lv st h bc bs mj As stk ci mc ms hc hk hn hw (vCall_Q (fun v h' z => z P hP) k0)
theorem r_insN {d_ m : Nat} {R : vQ} {pc nx : Nat} {lv st : List Value} {h : vHp} {bc bs : Nat} {mj : Nat} {As : List Value} {stk : List Value} {ci : Nat} {mc : Nat} {ms : Nat} (hc : vlk m pc = some (82, mj, 0, 0, nx)) (hk : stk = As.reverse ++ st) (hn : vrc mj = some (ci, As.length)) (hw : (st.map fun v => v.category).sum ≤ 8) (k0 : vCall d_ mc ms mj As h (fun v h' => vW (vCall d_) m R nx lv (vpush v st) h' bc bs)) : vW (vCall d_) m R pc lv (stk) h (bc + mc) (bs + ms) :=
  fun P hP => hP.2.2.2.2.2.2.2.2.2.1.2.2.2.2.1 pc nx lv st h bc bs mj As stk ci mc ms hc hk hn hw (vCall_Q (fun v h' z => z P hP) k0)
theorem r_inp {d_ m : Nat} {R : vQ} {pc nx : Nat} {lv st : List Value} {h : vHp} {bc bs : Nat} {mj : Nat} {As : List Value} {stk : List Value} {b : Nat} {ci : Nat} {mc : Nat} {ms : Nat} (hc : vlk m pc = some (60, mj, 0, 0, nx)) (hk : stk = As.reverse ++ .ref b :: st) (hn : vrc mj = some (ci, As.length)) (hw : (st.map fun v => v.category).sum ≤ 8) (k0 : vCall d_ mc ms mj (.ref b :: As) h (fun v h' => vW (vCall d_) m R nx lv (vpush v st) h' bc bs)) : vW (vCall d_) m R pc lv (stk) h (bc + mc) (bs + ms) :=
  fun P hP => hP.2.2.2.2.2.2.2.2.2.1.2.2.2.2.2.1 pc nx lv st h bc bs mj As stk b ci mc ms hc hk hn hw (vCall_Q (fun v h' z => z P hP) k0)
theorem r_inpN {d_ m : Nat} {R : vQ} {pc nx : Nat} {lv st : List Value} {h : vHp} {bc bs : Nat} {mj : Nat} {As : List Value} {stk : List Value} {b : Nat} {ci : Nat} {mc : Nat} {ms : Nat} (hc : vlk m pc = some (83, mj, 0, 0, nx)) (hk : stk = As.reverse ++ .ref b :: st) (hn : vrc mj = some (ci, As.length)) (hw : (st.map fun v => v.category).sum ≤ 8) (k0 : vCall d_ mc ms mj (.ref b :: As) h (fun v h' => vW (vCall d_) m R nx lv (vpush v st) h' bc bs)) : vW (vCall d_) m R pc lv (stk) h (bc + mc) (bs + ms) :=
  fun P hP => hP.2.2.2.2.2.2.2.2.2.1.2.2.2.2.2.2.1 pc nx lv st h bc bs mj As stk b ci mc ms hc hk hn hw (vCall_Q (fun v h' z => z P hP) k0)
theorem r_obj {d_ m : Nat} {R : vQ} {pc nx : Nat} {lv st : List Value} {h : vHp} {bc bs : Nat} {a : Nat} (hc : vlk m pc = some (61, 0, 0, 0, nx)) (hw : (st.map fun v => v.category).sum ≤ 8) (k0 : vW (vCall d_) m R nx lv (st) h bc bs) : vW (vCall d_) m R pc lv (.ref a :: st) h bc bs :=
  fun P hP => hP.2.2.2.2.2.2.2.2.2.1.2.2.2.2.2.2.2 pc nx lv st h bc bs a hc hw (k0 P hP)
theorem r_acpy {d_ m : Nat} {R : vQ} {pc nx : Nat} {lv st : List Value} {h : vHp} {bc bs : Nat} {x : Int} {y : Int} {w : Int} {a : Nat} {b : Nat} {n : Nat} {n2 : Nat} {f : Nat → Int} {g : Nat → Int} (hc : vlk m pc = some (62, 0, 0, 0, nx)) (ho : hg h a = some (.inl (0, n, .inl f))) (ho2 : hg h b = some (.inl (0, n2, .inl g))) (hlo : h.1.1 ≤ b) (h1 : 0 ≤ x) (h2 : 0 ≤ y) (h3 : 0 ≤ w) (h4 : x + w ≤ n) (h5 : y + w ≤ n2) (hw : (st.map fun v => v.category).sum ≤ 8) (k0 : (∀ h' : vHp, vSt h h' b (.inl (0, n2, .inl (vcpy f g x.toNat y.toNat w.toNat))) → vW (vCall d_) m R nx lv (st) h' bc bs)) : vW (vCall d_) m R pc lv (.int (iI w) :: .int (iI y) :: .ref b :: .int (iI x) :: .ref a :: st) h bc bs :=
  fun P hP => hP.2.2.2.2.2.2.2.2.2.2.1.1 pc nx lv st h bc bs x y w a b n n2 f g hc ho ho2 hlo h1 h2 h3 h4 h5 hw (fun h' z => k0 h' z P hP)
theorem r_mmax {d_ m : Nat} {R : vQ} {pc nx : Nat} {lv st : List Value} {h : vHp} {bc bs : Nat} {x : Int} {y : Int} (hc : vlk m pc = some (84, 0, 0, 0, nx)) (h1 : -2147483648 ≤ x) (h2 : x ≤ 2147483647) (h3 : -2147483648 ≤ y) (h4 : y ≤ 2147483647) (hw : (st.map fun v => v.category).sum ≤ 8) (k0 : vW (vCall d_) m R nx lv (.int (iI (if x < y then y else x)) :: st) h bc bs) : vW (vCall d_) m R pc lv (.int (iI y) :: .int (iI x) :: st) h bc bs :=
  fun P hP => hP.2.2.2.2.2.2.2.2.2.2.1.2.1 pc nx lv st h bc bs x y hc h1 h2 h3 h4 hw (k0 P hP)
theorem r_mmin {d_ m : Nat} {R : vQ} {pc nx : Nat} {lv st : List Value} {h : vHp} {bc bs : Nat} {x : Int} {y : Int} (hc : vlk m pc = some (85, 0, 0, 0, nx)) (h1 : -2147483648 ≤ x) (h2 : x ≤ 2147483647) (h3 : -2147483648 ≤ y) (h4 : y ≤ 2147483647) (hw : (st.map fun v => v.category).sum ≤ 8) (k0 : vW (vCall d_) m R nx lv (.int (iI (if y < x then y else x)) :: st) h bc bs) : vW (vCall d_) m R pc lv (.int (iI y) :: .int (iI x) :: st) h bc bs :=
  fun P hP => hP.2.2.2.2.2.2.2.2.2.2.1.2.2.1 pc nx lv st h bc bs x y hc h1 h2 h3 h4 hw (k0 P hP)
theorem r_iret {d_ m : Nat} {R : vQ} {pc nx : Nat} {lv st : List Value} {h : vHp} {bc bs : Nat} {X : Int32} (hc : vlk m pc = some (63, 0, 0, 0, nx)) (hR : R (some (.int X)) h)  : vW (vCall d_) m R pc lv ([.int X]) h bc bs :=
  fun P hP => hP.2.2.2.2.2.2.2.2.2.2.1.2.2.2.1 pc nx lv st h bc bs X hc hR 
theorem r_zret {d_ m : Nat} {R : vQ} {pc nx : Nat} {lv st : List Value} {h : vHp} {bc bs : Nat} {x : Int} (hc : vlk m pc = some (63, 1, 0, 0, nx)) (hx : x = 0 ∨ x = 1) (hR : R (some (.int (iI x))) h)  : vW (vCall d_) m R pc lv ([.int (iI x)]) h bc bs :=
  fun P hP => hP.2.2.2.2.2.2.2.2.2.2.1.2.2.2.2.1 pc nx lv st h bc bs x hc hx hR 
theorem r_lret {d_ m : Nat} {R : vQ} {pc nx : Nat} {lv st : List Value} {h : vHp} {bc bs : Nat} {L : Int64} (hc : vlk m pc = some (64, 0, 0, 0, nx)) (hR : R (some (.long L)) h)  : vW (vCall d_) m R pc lv ([.long L]) h bc bs :=
  fun P hP => hP.2.2.2.2.2.2.2.2.2.2.1.2.2.2.2.2.1 pc nx lv st h bc bs L hc hR 
theorem r_aret {d_ m : Nat} {R : vQ} {pc nx : Nat} {lv st : List Value} {h : vHp} {bc bs : Nat} {r : Nat} (hc : vlk m pc = some (65, 0, 0, 0, nx)) (hR : R (some (.ref r)) h)  : vW (vCall d_) m R pc lv ([.ref r]) h bc bs :=
  fun P hP => hP.2.2.2.2.2.2.2.2.2.2.1.2.2.2.2.2.2.1 pc nx lv st h bc bs r hc hR 
theorem r_aretN {d_ m : Nat} {R : vQ} {pc nx : Nat} {lv st : List Value} {h : vHp} {bc bs : Nat}  (hc : vlk m pc = some (65, 0, 0, 0, nx)) (hR : R (some .null) h)  : vW (vCall d_) m R pc lv ([.null]) h bc bs :=
  fun P hP => hP.2.2.2.2.2.2.2.2.2.2.1.2.2.2.2.2.2.2 pc nx lv st h bc bs  hc hR 
theorem r_vret {d_ m : Nat} {R : vQ} {pc nx : Nat} {lv st : List Value} {h : vHp} {bc bs : Nat}  (hc : vlk m pc = some (66, 0, 0, 0, nx)) (hR : R none h)  : vW (vCall d_) m R pc lv ([]) h bc bs :=
  fun P hP => hP.2.2.2.2.2.2.2.2.2.2.2 pc nx lv st h bc bs  hc hR 
end
section
/-! numbers -/
theorem iI_toInt {x : Int} (h1 : -2147483648 ≤ x) (h2 : x ≤ 2147483647) : (iI x).toInt = x := Int32.toInt_ofInt_of_le (by omega) (by omega)
theorem lZ_toInt {x : Int} (h1 : -9223372036854775808 ≤ x) (h2 : x ≤ 9223372036854775807) : (lZ x).toInt = x := Int64.toInt_ofInt_of_le (by omega) (by omega)
theorem iI_of (X : Int32) : iI X.toInt = X := Int32.ofInt_toInt X
theorem lZ_of (X : Int64) : lZ X.toInt = X := Int64.ofInt_toInt X
theorem iI_lo (X : Int32) : -2147483648 ≤ X.toInt := by have := X.le_toInt; omega
theorem iI_hi (X : Int32) : X.toInt ≤ 2147483647 := by have := X.toInt_lt; omega
theorem iI_add (x y : Int) : iI x + iI y = iI (x + y) := (Int32.ofInt_add x y).symm
theorem iI_sub (x y : Int) : iI x - iI y = iI (x - y) := (Int32.ofInt_sub x y).symm
theorem iI_mul (x y : Int) : iI x * iI y = iI (x * y) := (Int32.ofInt_mul x y).symm
theorem iI_neg (x : Int) : -(iI x) = iI (-x) := (Int32.ofInt_neg x).symm
theorem lZ_add (x y : Int) : lZ x + lZ y = lZ (x + y) := (Int64.ofInt_add x y).symm
theorem lZ_sub (x y : Int) : lZ x - lZ y = lZ (x - y) := (Int64.ofInt_sub x y).symm
theorem lZ_mul (x y : Int) : lZ x * lZ y = lZ (x * y) := (Int64.ofInt_mul x y).symm
theorem iI_div {x y : Int} (h1 : 0 ≤ x) (h2 : x ≤ 2147483647) (h3 : 0 < y) (h4 : y ≤ 2147483647) : iI x / iI y = iI (x / y) := by
  have e0 : iI y ≠ -1 := fun h => by
    have := congrArg Int32.toInt h
    rw [iI_toInt (by omega) h4] at this
    have e1 : (-1 : Int32).toInt = -1 := by decide
    omega
  have h5 : x / y ≤ x := Int.ediv_le_self y h1
  have h6 : 0 ≤ x / y := Int.ediv_nonneg h1 (by omega)
  refine Int32.toInt_inj.1 ?_
  rw [Int32.toInt_div_of_ne_right _ _ e0, iI_toInt (by omega) h2, iI_toInt (by omega) h4, iI_toInt (by omega) (by omega), Int.tdiv_eq_ediv_of_nonneg h1]
theorem iI_rem {x y : Int} (h1 : 0 ≤ x) (h2 : x ≤ 2147483647) (h3 : 0 < y) (h4 : y ≤ 2147483647) : iI x - iI x / iI y * iI y = iI (x % y) := by
  rw [iI_div h1 h2 h3 h4, iI_mul, iI_sub, Int.emod_def, Int.mul_comm]
theorem iI_eq0 {x : Int} (h1 : -2147483648 ≤ x) (h2 : x ≤ 2147483647) : iI x = 0 ↔ x = 0 := by
  rw [← Int32.toInt_inj, iI_toInt h1 h2]; rfl
theorem iI_eq {x y : Int} (h1 : -2147483648 ≤ x) (h2 : x ≤ 2147483647) (h3 : -2147483648 ≤ y) (h4 : y ≤ 2147483647) : iI x = iI y ↔ x = y := by
  rw [← Int32.toInt_inj, iI_toInt h1 h2, iI_toInt h3 h4]
theorem iI_lt {x y : Int} (h1 : -2147483648 ≤ x) (h2 : x ≤ 2147483647) (h3 : -2147483648 ≤ y) (h4 : y ≤ 2147483647) : iI x < iI y ↔ x < y := by
  rw [Int32.lt_iff_toInt_lt, iI_toInt h1 h2, iI_toInt h3 h4]
theorem iI_le {x y : Int} (h1 : -2147483648 ≤ x) (h2 : x ≤ 2147483647) (h3 : -2147483648 ≤ y) (h4 : y ≤ 2147483647) : iI x ≤ iI y ↔ x ≤ y := by
  rw [Int32.le_iff_toInt_le, iI_toInt h1 h2, iI_toInt h3 h4]
theorem iI_0 : iI 0 = 0 := rfl
theorem iI_lt0 {x : Int} (h1 : -2147483648 ≤ x) (h2 : x ≤ 2147483647) : iI x < 0 ↔ x < 0 := by
  rw [← iI_0, iI_lt h1 h2 (by omega) (by omega)]
theorem iI_ge0 {x : Int} (h1 : -2147483648 ≤ x) (h2 : x ≤ 2147483647) : iI x ≥ 0 ↔ 0 ≤ x := by
  rw [← iI_0]; exact iI_le (by omega) (by omega) h1 h2
theorem iI_gt0 {x : Int} (h1 : -2147483648 ≤ x) (h2 : x ≤ 2147483647) : iI x > 0 ↔ 0 < x := by
  rw [← iI_0]; exact iI_lt (by omega) (by omega) h1 h2
theorem iI_le0 {x : Int} (h1 : -2147483648 ≤ x) (h2 : x ≤ 2147483647) : iI x ≤ 0 ↔ x ≤ 0 := by
  rw [← iI_0, iI_le h1 h2 (by omega) (by omega)]
theorem iI_nat {x : Int} (h1 : -2147483648 ≤ x) (h2 : x ≤ 2147483647) : (iI x).toNatClampNeg = x.toNat := Int32.toNatClampNeg_ofInt_of_le (by omega) (by omega)
theorem iI_in {x : Int} {n : Nat} (h0 : 0 ≤ x) (h : x < n) (hn : n < 2147483648) : vp_in (iI x) n := by
  intro q
  rcases q with q | q
  · rw [iI_lt0 (by omega) (by omega)] at q; omega
  · rw [iI_nat (by omega) (by omega)] at q; omega
theorem iI_l {x : Int} (h1 : -2147483648 ≤ x) (h2 : x ≤ 2147483647) : (iI x).toInt64 = lZ x := by
  refine Int64.toInt_inj.1 ?_
  rw [Int32.toInt_toInt64, iI_toInt h1 h2, lZ_toInt (by omega) (by omega)]
theorem lZ_i (x : Int) : (lZ x).toInt32 = iI x := Int64.toInt32_ofInt
theorem lZ_cmp {x y : Int} (h1 : -9223372036854775808 ≤ x) (h2 : x ≤ 9223372036854775807) (h3 : -9223372036854775808 ≤ y) (h4 : y ≤ 9223372036854775807) : lg_cmp (lZ x) (lZ y) = iI (vcmp x y) := by
  have e1 : (lZ x > lZ y) ↔ y < x := by
    show lZ y < lZ x ↔ _
    rw [Int64.lt_iff_toInt_lt, lZ_toInt h1 h2, lZ_toInt h3 h4]
  have e2 : (lZ x = lZ y) ↔ x = y := by rw [← Int64.toInt_inj, lZ_toInt h1 h2, lZ_toInt h3 h4]
  unfold lg_cmp vcmp
  by_cases a : y < x
  · rw [if_pos (e1.mpr a), if_neg (by omega), if_neg (by omega)]; rfl
  · rw [if_neg (fun z => a (e1.mp z))]
    by_cases b : x = y
    · rw [if_pos (e2.mpr b), if_neg (by omega), if_pos b]; rfl
    · rw [if_neg (fun z => b (e2.mp z)), if_pos (by omega)]; rfl
/-! locals -/
def vas (lv : List Value) : List (Nat × Value) := (List.range lv.length).filterMap fun i => (vgt lv i).bind fun v => if v = vHole then none else some (i, v)
def vLv (ls : Array Slot) (lv : List Value) : Prop := lv_has ls lv.length (vas lv)
theorem vgt_lt : ∀ {lv : List Value} {i : Nat} {v : Value}, vgt lv i = some v → i < lv.length
  | [], _, _, h => by simp [vgt] at h
  | _ :: _, 0, _, _ => by simp
  | _ :: l, i + 1, v, h => by have := vgt_lt (lv := l) (i := i) (v := v) h; simp; omega
theorem vas_mem {lv : List Value} {i : Nat} {v : Value} : (i, v) ∈ vas lv ↔ vgt lv i = some v ∧ v ≠ vHole := by
  unfold vas
  rw [List.mem_filterMap]
  constructor
  · rintro ⟨j, hj, h⟩
    cases hg : vgt lv j with
    | none => rw [hg] at h; simp at h
    | some w =>
      rw [hg] at h
      simp only [Option.bind_some] at h
      by_cases hw : w = vHole
      · rw [if_pos hw] at h; cases h
      · rw [if_neg hw] at h
        cases h
        exact ⟨hg, hw⟩
  · rintro ⟨h, hv⟩
    exact ⟨i, List.mem_range.mpr (vgt_lt h), by rw [h]; simp [hv]⟩
theorem vLv_get {ls : Array Slot} {lv : List Value} {i : Nat} {v : Value} (h : vLv ls lv) (hg : vgt lv i = some v) (hv : v ≠ vHole) : ls[i]? = some (.val v) := h.2.2 (i, v) (vas_mem.mpr ⟨hg, hv⟩)
theorem vst_len : ∀ (lv : List Value) (i : Nat) (v : Value), (vst lv i v).length = lv.length
  | [], _, _ => rfl
  | _ :: _, 0, _ => rfl
  | _ :: l, i + 1, v => by simp [vst, vst_len l i v]
theorem vst_self : ∀ {lv : List Value} {i : Nat} {v : Value}, i < lv.length → vgt (vst lv i v) i = some v
  | [], _, _, h => by simp at h
  | _ :: _, 0, _, _ => rfl
  | _ :: l, i + 1, v, h => by simp [vst, vgt]; exact vst_self (by simpa using h)
theorem vst_ne : ∀ {lv : List Value} {i j : Nat} {v : Value}, j ≠ i → vgt (vst lv i v) j = vgt lv j
  | [], _, _, _, _ => rfl
  | _ :: _, 0, 0, _, h => absurd rfl h
  | _ :: _, 0, j + 1, _, _ => rfl
  | _ :: _, i + 1, 0, _, _ => rfl
  | _ :: l, i + 1, j + 1, v, h => by simp [vst, vgt]; exact vst_ne (by omega)
theorem vpo_lt : ∀ {lv : List Value} {i : Nat}, vpo lv i = true → i < lv.length
  | [], _, h => by simp [vpo] at h
  | _ :: _, 0, _ => by simp
  | [_], i + 1, h => by cases i <;> simp [vpo] at h
  | _ :: _ :: _, 1, _ => by simp
  | _ :: w :: l, i + 2, h => by
    have := vpo_lt (lv := w :: l) (i := i + 1) (by simpa [vpo] using h)
    simp at this ⊢; omega
theorem vpo_cat : ∀ {lv : List Value} {i : Nat} {w : Value}, vpo lv (i + 1) = true → vgt lv i = some w → w.category ≠ 2
  | [], _, _, h, _ => by simp [vpo] at h
  | [_], i, _, h, _ => by cases i <;> simp [vpo] at h
  | v :: _ :: _, 0, w, h, hg => by
    simp [vgt] at hg; subst hg
    simpa [vpo] using h
  | _ :: u :: l, i + 1, w, h, hg => by
    refine vpo_cat (lv := u :: l) (i := i) (w := w) (by simpa [vpo] using h) (by simpa [vgt] using hg)
theorem vLv_st1 {ls ls' : Array Slot} {lv : List Value} {i : Nat} {v : Value} (h : vLv ls lv) (hp : vpo lv i = true) (hc : v.category = 1) (h' : lv_has ls' lv.length ((i, v) :: (vas lv).filter (fun q => !(q.1 == i) && !(q.1 + 1 == i && q.2.category == 2)))) : vLv ls' (vst lv i v) := by
  refine ⟨by rw [vst_len]; exact h'.1, h'.2.1, fun q hq => ?_⟩
  obtain ⟨j, w⟩ := q
  obtain ⟨hg, hw⟩ := vas_mem.mp hq
  refine h'.2.2 (j, w) ?_
  by_cases e : j = i
  · subst e
    rw [vst_self (vpo_lt hp)] at hg
    cases hg
    exact List.mem_cons_self
  · rw [vst_ne e] at hg
    refine List.mem_cons_of_mem _ (List.mem_filter.mpr ⟨vas_mem.mpr ⟨hg, hw⟩, ?_⟩)
    simp only [Bool.and_eq_true, Bool.not_eq_true', beq_eq_false_iff_ne, ne_eq, Bool.and_eq_false_iff]
    refine ⟨e, ?_⟩
    by_cases e2 : j + 1 = i
    · subst e2
      exact Or.inr (by simpa using vpo_cat hp hg)
    · exact Or.inl (by simpa using e2)
theorem vLv_st2 {ls ls' : Array Slot} {lv : List Value} {i : Nat} {v : Value} (h : vLv ls lv) (hp : vpo lv i = true) (h2 : (vgt lv (i + 1)).isSome = true) (h' : lv_has ls' lv.length ((i, v) :: (vas lv).filter (fun q => !(q.1 == i) && (!(q.1 == i + 1) && !(q.1 + 1 == i && q.2.category == 2))))) : vLv ls' (vst (vst lv i v) (i + 1) vHole) := by
  have hl2 : i + 1 < lv.length := by
    obtain ⟨u, hu⟩ := Option.isSome_iff_exists.mp h2
    exact vgt_lt hu
  refine ⟨by rw [vst_len, vst_len]; exact h'.1, h'.2.1, fun q hq => ?_⟩
  obtain ⟨j, w⟩ := q
  obtain ⟨hg, hw⟩ := vas_mem.mp hq
  refine h'.2.2 (j, w) ?_
  by_cases e1 : j = i + 1
  · subst e1
    rw [vst_self (by rw [vst_len]; exact hl2)] at hg
    exact absurd (Option.some.inj hg).symm hw
  · rw [vst_ne e1] at hg
    by_cases e : j = i
    · subst e
      rw [vst_self (vpo_lt hp)] at hg
      cases hg
      exact List.mem_cons_self
    · rw [vst_ne e] at hg
      refine List.mem_cons_of_mem _ (List.mem_filter.mpr ⟨vas_mem.mpr ⟨hg, hw⟩, ?_⟩)
      simp only [Bool.and_eq_true, Bool.not_eq_true', beq_eq_false_iff_ne, ne_eq, Bool.and_eq_false_iff]
      refine ⟨e, e1, ?_⟩
      by_cases e2 : j + 1 = i
      · subst e2
        exact Or.inr (by simpa using vpo_cat hp hg)
      · exact Or.inl (by simpa using e2)
theorem vexp_mem : ∀ {vs : List Value} {i j : Nat} {w : Value}, vgt (vexp vs) j = some w → w ≠ vHole → (i + j, w) ∈ lv_args i vs
  | [], _, _, _, h, _ => by simp [vexp, vgt] at h
  | v :: l, i, j, w, h, hw => by
    have one : ∀ {v : Value}, v.category = 1 → vgt (v :: vexp l) j = some w → (i + j, w) ∈ lv_args i (v :: l) := by
      intro v hc h
      unfold lv_args
      rw [if_neg (by omega)]
      cases j with
      | zero => simp [vgt] at h; subst h; exact List.mem_cons_self
      | succ j =>
        refine List.mem_cons_of_mem _ ?_
        have := vexp_mem (vs := l) (i := i + 1) (j := j) (w := w) (by simpa [vgt] using h) hw
        rw [show i + (j + 1) = i + 1 + j by omega]; exact this
    have two : ∀ {v : Value}, v.category = 2 → vgt (v :: vHole :: vexp l) j = some w → (i + j, w) ∈ lv_args i (v :: l) := by
      intro v hc h
      unfold lv_args
      rw [if_pos hc]
      match j, h with
      | 0, h => simp [vgt] at h; subst h; exact List.mem_cons_self
      | 1, h => simp [vgt] at h; exact absurd h.symm hw
      | j + 2, h =>
        refine List.mem_cons_of_mem _ ?_
        have := vexp_mem (vs := l) (i := i + 2) (j := j) (w := w) (by simpa [vgt] using h) hw
        rw [show i + (j + 2) = i + 2 + j by omega]; exact this
    cases v with
    | long x => exact two rfl (by simpa [vexp] using h)
    | double x => exact two rfl (by simpa [vexp] using h)
    | int x => exact one rfl (by simpa [vexp] using h)
    | float x => exact one rfl (by simpa [vexp] using h)
    | null => exact one rfl (by simpa [vexp] using h)
    | ref x => exact one rfl (by simpa [vexp] using h)
    | retAddr x => exact one rfl (by simpa [vexp] using h)
theorem vpad_gt : ∀ {n : Nat} {l : List Value} {j : Nat} {w : Value}, vgt (vpad n l) j = some w → w ≠ vHole → vgt l j = some w
  | 0, _, _, _, h, _ => h
  | n + 1, [], 0, w, h, hw => by simp [vpad, vgt] at h; exact absurd h.symm hw
  | n + 1, [], j + 1, w, h, hw => by
    have := vpad_gt (n := n) (l := []) (j := j) (w := w) (by simpa [vpad, vgt] using h) hw
    simp [vgt] at this
  | n + 1, v :: l, 0, w, h, _ => by simpa [vpad, vgt] using h
  | n + 1, v :: l, j + 1, w, h, hw => by
    have := vpad_gt (n := n) (l := l) (j := j) (w := w) (by simpa [vpad, vgt] using h) hw
    simpa [vgt] using this
theorem vpad_len : ∀ {n : Nat} {l : List Value}, l.length ≤ n → (vpad n l).length = n
  | 0, l, h => by simpa [vpad] using h
  | n + 1, [], _ => by simp [vpad, vpad_len (n := n) (l := []) (by simp)]
  | n + 1, v :: l, h => by simp [vpad, vpad_len (n := n) (l := l) (by simpa using h)]
theorem vexp_len : ∀ vs : List Value, (lg_sl vs).length = (vexp vs).length
  | [] => rfl
  | v :: l => by
    have ih := vexp_len l
    have e : lg_sl (v :: l) = (if v.category = 2 then [.val v, .second] else [.val v]) ++ lg_sl l := rfl
    rw [e, List.length_append, ih]
    cases v <;> simp [vexp, Value.category] <;> omega
theorem vLv_entry {vs : List Value} {n : Nat} (h : (vexp vs).length ≤ n) : vLv ((lg_sl vs ++ List.replicate (n - (lg_sl vs).length) Slot.unset).toArray) (vpad n (vexp vs)) := by
  have e := lv_entry vs (n := n) (by rw [vexp_len]; exact h)
  refine ⟨by rw [vpad_len h]; exact e.1, e.2.1, fun q hq => ?_⟩
  obtain ⟨j, w⟩ := q
  obtain ⟨hg, hw⟩ := vas_mem.mp hq
  have := vexp_mem (i := 0) (vpad_gt hg hw) hw
  rw [Nat.zero_add] at this
  exact e.2.2 (j, w) this
end
section
/-! what a heap of the short machine says of a heap of the machine, and what is known of the tables -/
abbrev vG : Type := (Nat → ClassId) × (Nat → Nat → Nat) × (Nat → ClassId)
def vcv (tA : Nat → ClassId) : vE → va_E
  | .inl (τ, n, .inl f) => .inl (tA τ, n, if τ = 1 then .inr (.inl fun i => lZ (f i)) else .inl fun i => iI (f i))
  | .inl (τ, n, .inr p) => .inl (tA τ, n, .inr (.inr (.inr (.inr p))))
  | .inr o => .inr o
def vtys (tA : Nat → ClassId) : List (ClassId × FieldType) := [(tA 0, .int), (tA 1, .long), (tA 2, .boolean), (tA 3, .object "RecurringDays$Plan"), (tA 4, .object "RecurringDays$Days"), (tA 5, .object "RecurringDays$Row"), (tA 6, .array .int)]
def vHl (G : vG) (lt : Nat × Nat) (h : vHp) (H : Heap) : Prop := h.1 = lt ∧ h.2.1 = H.size ∧ lt.1 ≤ H.size ∧ ∀ q x, hg h q = some x → va_at (G.1, G.2.1) vwCl (q, vcv G.2.2 x) H ∧ ∀ τ n d, x = .inl (τ, n, d) → n < 2147483648
def vT1 : List Jvm.Cond := lw_tbl.filter goodWord
def visN : Jvm.Cond → Bool
  | .methodLinkNest .. => true
  | .fieldLinkNest .. => true
  | _ => false
def vT2 : List Jvm.Cond := lw_tbl.filter visN
def vAr (G : vG) (U : State) : Prop := va_Nw (.arrayOver (.array .int)) U ∧ ∃ kA : Class, U.vm.classes[G.2.2 6]? = some kA ∧ kA.kind = .array (G.2.2 0) (.array .int)
def vWd (G : vG) (lt : Nat × Nat) (U : State) (H : Heap) : Prop := va_K (G.1, G.2.1) vwCl (vtys G.2.2) U ∧ va_Z "RecurringDays" "BLOCK_LENGTHS" "[I" (.ref lt.2) (fun q => lt.1 ≤ q) U H ∧ (∀ w ∈ vT2, va_Nw w U) ∧ (va_AO "RecurringDays$Plan" U ∧ va_AO "RecurringDays$Days" U ∧ va_AO "RecurringDays$Row" U) ∧ vAr G U
theorem vAr_moved {G : vG} {u U : State} (hvm : u.vm.Alike U.vm) (h : vAr G u) : vAr G U := by
  obtain ⟨h, kA, g1, g2⟩ := h
  refine ⟨?_, ?_⟩
  · obtain ⟨comp, c, k, h1, h2, h3, h4, h5⟩ := arrayOverA_spec h
    obtain ⟨k', hk', he⟩ := hvm.2.2 _ _ h3
    have hi : (U.vm.classes.findIdx? fun (x : Class) => match x.kind with | .array component _ => component == comp | _ => false) = some c := by
      rw [hvm.findIdx?_eq _ (fun _ => rfl)]; exact h2
    have hkind : k'.kind = .array comp (.array .int) := by rw [he]; exact h4
    have f1 : U.vm.findClass (FieldType.array .int).toString = some comp := by rw [hvm.findClass]; exact h1
    have f2 : U.vm.findClass ("[" ++ (FieldType.array .int).toString) = some c := by rw [hvm.findClass]; exact h5
    unfold va_Nw Cond.before Cond.holds
    simp only [Cond.value]
    rw [f1, Option.bind_some]
    refine (congrArg (fun o : Option Nat => (o.bind (fun c => (U.vm.classes[c]?).map fun (k : Class) => match k.kind with | .array _ ty => decide (ty = FieldType.array .int) && decide (U.vm.findClass ("[" ++ (FieldType.array .int).toString) = some c) | _ => false) == some true)) hi).trans ?_
    simp [hk', hkind, f2]
  · obtain ⟨k', hk', he⟩ := hvm.2.2 _ _ g1
    exact ⟨k', hk', by rw [he]; exact g2⟩
theorem vT2_warm {s U : State} (hW : s.WarmedH U.vm) (h : ∀ w ∈ vT2, va_Nw w s) : ∀ w ∈ vT2, va_Nw w U := by
  intro w hw
  have h1 := h w hw
  have h2 : visN w = true := (List.mem_filter.mp hw).2
  cases w <;> first | (simp [visN] at h2; done) | exact va_Nw.warmM hW h1 | exact va_Nw.warmF hW h1
theorem vWd_moved {G : vG} {lt : Nat × Nat} {s U : State} {H H1 : Heap} (hW : s.WarmedH U.vm) (h : vWd G lt s H) (hq : ∀ a : Nat, a < H.size → ¬ lt.1 ≤ a → H1[a]? = H[a]?) : vWd G lt U H1 := by
  obtain ⟨h1, h2, h3, ⟨h4, h5, h6⟩, h7⟩ := h
  exact ⟨va_K.moved hW.alike h1, (va_Z.moved hW.alike h2).kept hq, vT2_warm hW h3, ⟨h4.moved hW.alike, h5.moved hW.alike, h6.moved hW.alike⟩, vAr_moved hW.alike h7⟩
theorem vWd_same {G : vG} {lt : Nat × Nat} {s U : State} {H : Heap} (e : s.vm = U.vm) (h : vWd G lt s H) : vWd G lt U H := by
  refine vWd_moved (s := s) (U := U) ?_ h (fun _ _ _ => rfl)
  rw [← e]
  exact State.WarmedH.refl s
/-! the tables, read -/
theorem vis_eq {i : Nat} {w : Jvm.Cond} (h : vis i w = true) : w ∈ lw_tbl := List.mem_of_getElem? (of_decide_eq_true h : vat i = some w)
theorem vT1_of {w : Jvm.Cond} (h : w ∈ lw_tbl) (g : goodWord w = true) : w ∈ vT1 := List.mem_filter.mpr ⟨h, g⟩
theorem vT2_of {w : Jvm.Cond} (h : w ∈ lw_tbl) (g : visN w = true) : w ∈ vT2 := List.mem_filter.mpr ⟨h, g⟩
theorem vT1_good {w : Jvm.Cond} (h : w ∈ vT1) : goodWord w = true := (List.mem_filter.mp h).2
theorem vT1_in {w : Jvm.Cond} (h : w ∈ vT1) : w ∈ lw_tbl := (List.mem_filter.mp h).1
theorem vlk_ok {m pc o a b nx : Nat} {z : Int} (hm : m < vNum) {r : vNr} (hr : vN[m]? = some r) (hc : vlk m pc = some (o, a, b, z, nx)) :
    ∃ ins len i, decode r.2.1 pc = .ok (ins, len) ∧ vchk r.1.cls r.1.name r.2.2.2.1 pc ins len o a b z i = true ∧ nx = pc + len := by
  unfold vlk at hc
  have hv := vrow_all m hm
  unfold vrow at hv
  rw [hr] at hv
  cases hl : vC[m]? with
  | none => rw [hl] at hv; cases hv
  | some l =>
    rw [hl] at hv hc
    simp only [Option.bind_some] at hc
    obtain ⟨e, he, hh⟩ := Option.map_eq_some_iff.mp hc
    have h1 := List.find?_some he
    have h2 : e ∈ l := List.mem_of_find?_eq_some he
    have h3 := List.all_eq_true.mp hv e h2
    simp only [beq_iff_eq] at h1
    unfold vche at h3
    rw [Bool.and_eq_true] at h3
    obtain ⟨h4, h5⟩ := h3
    have h4 := of_decide_eq_true h4
    rw [h1] at h4 h5
    cases hh
    exact ⟨e.2.1, e.2.2.1, e.2.2.2.2.2.2.2, h4, h5, rfl⟩
end
section
/-! what the check says, kind by kind -/
theorem vq_1 (own nm : String) (ret : Option FieldType) (pc : Nat) (ins : Instr) (len a b : Nat) (z : Int) (i : Nat) : vchk own nm ret pc ins len 1 a b z i = ((match ins with
    | .iconst n => decide (Int32.ofInt n = iI z ∧ len = 1)
    | .bipush n => decide ((Int8.ofInt n).toInt32 = iI z ∧ len = 2)
    | .sipush n => decide ((Int16.ofInt n).toInt32 = iI z ∧ len = 3)
    | .ldc x => vis i (.constant own x (iI z)) && decide (len = 2)
    | .ldc_w x => vis i (.constant own x (iI z)) && decide (len = 3)
    | _ => false)) := rfl
theorem vq_2 (own nm : String) (ret : Option FieldType) (pc : Nat) (ins : Instr) (len a b : Nat) (z : Int) (i : Nat) : vchk own nm ret pc ins len 2 a b z i = ((match ins with
    | .lconst n => decide (Int64.ofNat (n : Nat) = lZ z ∧ len = 1)
    | .ldc2_w x => vis i (.constantLong own x (lZ z)) && decide (len = 3)
    | _ => false)) := rfl
theorem vq_3 (own nm : String) (ret : Option FieldType) (pc : Nat) (ins : Instr) (len a b : Nat) (z : Int) (i : Nat) : vchk own nm ret pc ins len 3 a b z i = (decide (ins = .aconst_null ∧ len = 1)) := rfl
theorem vq_4 (own nm : String) (ret : Option FieldType) (pc : Nat) (ins : Instr) (len a b : Nat) (z : Int) (i : Nat) : vchk own nm ret pc ins len 4 a b z i = ((match ins with
    | .iload x => decide (x = a ∧ len = 2)
    | .iload_n k => decide ((k : Nat) = a ∧ len = 1)
    | _ => false)) := rfl
theorem vq_5 (own nm : String) (ret : Option FieldType) (pc : Nat) (ins : Instr) (len a b : Nat) (z : Int) (i : Nat) : vchk own nm ret pc ins len 5 a b z i = ((match ins with
    | .lload x => decide (x = a ∧ len = 2)
    | .lload_n k => decide ((k : Nat) = a ∧ len = 1)
    | _ => false)) := rfl
theorem vq_6 (own nm : String) (ret : Option FieldType) (pc : Nat) (ins : Instr) (len a b : Nat) (z : Int) (i : Nat) : vchk own nm ret pc ins len 6 a b z i = ((match ins with
    | .aload x => decide (x = a ∧ len = 2)
    | .aload_n k => decide ((k : Nat) = a ∧ len = 1)
    | _ => false)) := rfl
theorem vq_7 (own nm : String) (ret : Option FieldType) (pc : Nat) (ins : Instr) (len a b : Nat) (z : Int) (i : Nat) : vchk own nm ret pc ins len 7 a b z i = ((match ins with
    | .istore x => decide (x = a ∧ len = 2)
    | .istore_n k => decide ((k : Nat) = a ∧ len = 1)
    | _ => false)) := rfl
theorem vq_8 (own nm : String) (ret : Option FieldType) (pc : Nat) (ins : Instr) (len a b : Nat) (z : Int) (i : Nat) : vchk own nm ret pc ins len 8 a b z i = ((match ins with
    | .lstore x => decide (x = a ∧ len = 2)
    | .lstore_n k => decide ((k : Nat) = a ∧ len = 1)
    | _ => false)) := rfl
theorem vq_9 (own nm : String) (ret : Option FieldType) (pc : Nat) (ins : Instr) (len a b : Nat) (z : Int) (i : Nat) : vchk own nm ret pc ins len 9 a b z i = ((match ins with
    | .astore x => decide (x = a ∧ len = 2)
    | .astore_n k => decide ((k : Nat) = a ∧ len = 1)
    | _ => false)) := rfl
theorem vq_10 (own nm : String) (ret : Option FieldType) (pc : Nat) (ins : Instr) (len a b : Nat) (z : Int) (i : Nat) : vchk own nm ret pc ins len 10 a b z i = (decide (ins = .iinc a z ∧ len = 3)) := rfl
theorem vq_11 (own nm : String) (ret : Option FieldType) (pc : Nat) (ins : Instr) (len a b : Nat) (z : Int) (i : Nat) : vchk own nm ret pc ins len 11 a b z i = (decide (ins = .iadd ∧ len = 1)) := rfl
theorem vq_12 (own nm : String) (ret : Option FieldType) (pc : Nat) (ins : Instr) (len a b : Nat) (z : Int) (i : Nat) : vchk own nm ret pc ins len 12 a b z i = (decide (ins = .isub ∧ len = 1)) := rfl
theorem vq_13 (own nm : String) (ret : Option FieldType) (pc : Nat) (ins : Instr) (len a b : Nat) (z : Int) (i : Nat) : vchk own nm ret pc ins len 13 a b z i = (decide (ins = .imul ∧ len = 1)) := rfl
theorem vq_14 (own nm : String) (ret : Option FieldType) (pc : Nat) (ins : Instr) (len a b : Nat) (z : Int) (i : Nat) : vchk own nm ret pc ins len 14 a b z i = (decide (ins = .idiv ∧ len = 1)) := rfl
theorem vq_15 (own nm : String) (ret : Option FieldType) (pc : Nat) (ins : Instr) (len a b : Nat) (z : Int) (i : Nat) : vchk own nm ret pc ins len 15 a b z i = (decide (ins = .irem ∧ len = 1)) := rfl
theorem vq_16 (own nm : String) (ret : Option FieldType) (pc : Nat) (ins : Instr) (len a b : Nat) (z : Int) (i : Nat) : vchk own nm ret pc ins len 16 a b z i = (decide (ins = .ineg ∧ len = 1)) := rfl
theorem vq_17 (own nm : String) (ret : Option FieldType) (pc : Nat) (ins : Instr) (len a b : Nat) (z : Int) (i : Nat) : vchk own nm ret pc ins len 17 a b z i = (decide (ins = .iand ∧ len = 1)) := rfl
theorem vq_18 (own nm : String) (ret : Option FieldType) (pc : Nat) (ins : Instr) (len a b : Nat) (z : Int) (i : Nat) : vchk own nm ret pc ins len 18 a b z i = (decide (ins = .ior ∧ len = 1)) := rfl
theorem vq_19 (own nm : String) (ret : Option FieldType) (pc : Nat) (ins : Instr) (len a b : Nat) (z : Int) (i : Nat) : vchk own nm ret pc ins len 19 a b z i = (decide (ins = .ishl ∧ len = 1)) := rfl
theorem vq_20 (own nm : String) (ret : Option FieldType) (pc : Nat) (ins : Instr) (len a b : Nat) (z : Int) (i : Nat) : vchk own nm ret pc ins len 20 a b z i = (decide (ins = .ishr ∧ len = 1)) := rfl
theorem vq_21 (own nm : String) (ret : Option FieldType) (pc : Nat) (ins : Instr) (len a b : Nat) (z : Int) (i : Nat) : vchk own nm ret pc ins len 21 a b z i = (decide (ins = .iushr ∧ len = 1)) := rfl
theorem vq_22 (own nm : String) (ret : Option FieldType) (pc : Nat) (ins : Instr) (len a b : Nat) (z : Int) (i : Nat) : vchk own nm ret pc ins len 22 a b z i = (decide (ins = .ladd ∧ len = 1)) := rfl
theorem vq_23 (own nm : String) (ret : Option FieldType) (pc : Nat) (ins : Instr) (len a b : Nat) (z : Int) (i : Nat) : vchk own nm ret pc ins len 23 a b z i = (decide (ins = .lsub ∧ len = 1)) := rfl
theorem vq_24 (own nm : String) (ret : Option FieldType) (pc : Nat) (ins : Instr) (len a b : Nat) (z : Int) (i : Nat) : vchk own nm ret pc ins len 24 a b z i = (decide (ins = .lmul ∧ len = 1)) := rfl
theorem vq_25 (own nm : String) (ret : Option FieldType) (pc : Nat) (ins : Instr) (len a b : Nat) (z : Int) (i : Nat) : vchk own nm ret pc ins len 25 a b z i = (decide (ins = .land ∧ len = 1)) := rfl
theorem vq_26 (own nm : String) (ret : Option FieldType) (pc : Nat) (ins : Instr) (len a b : Nat) (z : Int) (i : Nat) : vchk own nm ret pc ins len 26 a b z i = (decide (ins = .lor ∧ len = 1)) := rfl
theorem vq_27 (own nm : String) (ret : Option FieldType) (pc : Nat) (ins : Instr) (len a b : Nat) (z : Int) (i : Nat) : vchk own nm ret pc ins len 27 a b z i = (decide (ins = .lxor ∧ len = 1)) := rfl
theorem vq_28 (own nm : String) (ret : Option FieldType) (pc : Nat) (ins : Instr) (len a b : Nat) (z : Int) (i : Nat) : vchk own nm ret pc ins len 28 a b z i = (decide (ins = .lshl ∧ len = 1)) := rfl
theorem vq_29 (own nm : String) (ret : Option FieldType) (pc : Nat) (ins : Instr) (len a b : Nat) (z : Int) (i : Nat) : vchk own nm ret pc ins len 29 a b z i = (decide (ins = .lshr ∧ len = 1)) := rfl
theorem vq_30 (own nm : String) (ret : Option FieldType) (pc : Nat) (ins : Instr) (len a b : Nat) (z : Int) (i : Nat) : vchk own nm ret pc ins len 30 a b z i = (decide (ins = .lushr ∧ len = 1)) := rfl
theorem vq_31 (own nm : String) (ret : Option FieldType) (pc : Nat) (ins : Instr) (len a b : Nat) (z : Int) (i : Nat) : vchk own nm ret pc ins len 31 a b z i = (decide (ins = .lcmp ∧ len = 1)) := rfl
theorem vq_32 (own nm : String) (ret : Option FieldType) (pc : Nat) (ins : Instr) (len a b : Nat) (z : Int) (i : Nat) : vchk own nm ret pc ins len 32 a b z i = (decide (ins = .i2l ∧ len = 1)) := rfl
theorem vq_33 (own nm : String) (ret : Option FieldType) (pc : Nat) (ins : Instr) (len a b : Nat) (z : Int) (i : Nat) : vchk own nm ret pc ins len 33 a b z i = (decide (ins = .l2i ∧ len = 1)) := rfl
theorem vq_34 (own nm : String) (ret : Option FieldType) (pc : Nat) (ins : Instr) (len a b : Nat) (z : Int) (i : Nat) : vchk own nm ret pc ins len 34 a b z i = (decide (ins = .dup ∧ len = 1)) := rfl
theorem vq_35 (own nm : String) (ret : Option FieldType) (pc : Nat) (ins : Instr) (len a b : Nat) (z : Int) (i : Nat) : vchk own nm ret pc ins len 35 a b z i = (decide (ins = .dup2 ∧ len = 1)) := rfl
theorem vq_36 (own nm : String) (ret : Option FieldType) (pc : Nat) (ins : Instr) (len a b : Nat) (z : Int) (i : Nat) : vchk own nm ret pc ins len 36 a b z i = (decide (ins = .pop ∧ len = 1)) := rfl
theorem vq_37 (own nm : String) (ret : Option FieldType) (pc : Nat) (ins : Instr) (len a b : Nat) (z : Int) (i : Nat) : vchk own nm ret pc ins len 37 a b z i = ((match ins with
    | .goto off => decide ((pc : Int) + off = (a : Int) ∧ len = 3)
    | _ => false)) := rfl
theorem vq_40 (own nm : String) (ret : Option FieldType) (pc : Nat) (ins : Instr) (len a b : Nat) (z : Int) (i : Nat) : vchk own nm ret pc ins len 40 a b z i = ((match ins with
    | .ifnull off => decide ((pc : Int) + off = (a : Int) ∧ len = 3)
    | _ => false)) := rfl
theorem vq_41 (own nm : String) (ret : Option FieldType) (pc : Nat) (ins : Instr) (len a b : Nat) (z : Int) (i : Nat) : vchk own nm ret pc ins len 41 a b z i = ((match ins with
    | .ifnonnull off => decide ((pc : Int) + off = (a : Int) ∧ len = 3)
    | _ => false)) := rfl
theorem vq_42 (own nm : String) (ret : Option FieldType) (pc : Nat) (ins : Instr) (len a b : Nat) (z : Int) (i : Nat) : vchk own nm ret pc ins len 42 a b z i = ((match ins with
    | .getfield x => vckc a fun q => decide (b < q.2.2) && decide ((q.2.1 b).1 = q.1) && vis i (.fieldLink own x q.1 (q.2.1 b).2.1 (q.2.1 b).2.2.1) && decide (len = 3)
    | _ => false)) := rfl
theorem vq_43 (own nm : String) (ret : Option FieldType) (pc : Nat) (ins : Instr) (len a b : Nat) (z : Int) (i : Nat) : vchk own nm ret pc ins len 43 a b z i = ((match ins with
    | .putfield x => vckc a fun q => decide (b < q.2.2) && decide ((q.2.1 b).1 = q.1) && vis i (.fieldLink own x q.1 (q.2.1 b).2.1 (q.2.1 b).2.2.1) && decide (len = 3) && decide ((q.2.1 b).2.2.2 = false)
    | _ => false)) := rfl
theorem vq_44 (own nm : String) (ret : Option FieldType) (pc : Nat) (ins : Instr) (len a b : Nat) (z : Int) (i : Nat) : vchk own nm ret pc ins len 44 a b z i = ((match ins with
    | .getstatic x => (if b = 0 then vis i (.fieldLink own x "RecurringDays" "BLOCK_LENGTHS" "[I") else vis i (.fieldLinkNest own x "RecurringDays" "BLOCK_LENGTHS" "[I" "RecurringDays")) && decide (len = 3)
    | _ => false)) := rfl
theorem vq_45 (own nm : String) (ret : Option FieldType) (pc : Nat) (ins : Instr) (len a b : Nat) (z : Int) (i : Nat) : vchk own nm ret pc ins len 45 a b z i = (decide (ins = .iaload ∧ len = 1)) := rfl
theorem vq_46 (own nm : String) (ret : Option FieldType) (pc : Nat) (ins : Instr) (len a b : Nat) (z : Int) (i : Nat) : vchk own nm ret pc ins len 46 a b z i = (decide (ins = .laload ∧ len = 1)) := rfl
theorem vq_47 (own nm : String) (ret : Option FieldType) (pc : Nat) (ins : Instr) (len a b : Nat) (z : Int) (i : Nat) : vchk own nm ret pc ins len 47 a b z i = (decide (ins = .baload ∧ len = 1)) := rfl
theorem vq_48 (own nm : String) (ret : Option FieldType) (pc : Nat) (ins : Instr) (len a b : Nat) (z : Int) (i : Nat) : vchk own nm ret pc ins len 48 a b z i = (decide (ins = .aaload ∧ len = 1)) := rfl
theorem vq_49 (own nm : String) (ret : Option FieldType) (pc : Nat) (ins : Instr) (len a b : Nat) (z : Int) (i : Nat) : vchk own nm ret pc ins len 49 a b z i = (decide (ins = .iastore ∧ len = 1)) := rfl
theorem vq_50 (own nm : String) (ret : Option FieldType) (pc : Nat) (ins : Instr) (len a b : Nat) (z : Int) (i : Nat) : vchk own nm ret pc ins len 50 a b z i = (decide (ins = .lastore ∧ len = 1)) := rfl
theorem vq_51 (own nm : String) (ret : Option FieldType) (pc : Nat) (ins : Instr) (len a b : Nat) (z : Int) (i : Nat) : vchk own nm ret pc ins len 51 a b z i = (decide (ins = .bastore ∧ len = 1)) := rfl
theorem vq_52 (own nm : String) (ret : Option FieldType) (pc : Nat) (ins : Instr) (len a b : Nat) (z : Int) (i : Nat) : vchk own nm ret pc ins len 52 a b z i = (decide (ins = .aastore ∧ len = 1)) := rfl
theorem vq_53 (own nm : String) (ret : Option FieldType) (pc : Nat) (ins : Instr) (len a b : Nat) (z : Int) (i : Nat) : vchk own nm ret pc ins len 53 a b z i = (decide (ins = .arraylength ∧ len = 1)) := rfl
theorem vq_54 (own nm : String) (ret : Option FieldType) (pc : Nat) (ins : Instr) (len a b : Nat) (z : Int) (i : Nat) : vchk own nm ret pc ins len 54 a b z i = ((match ins with
    | .new x => vckc a fun q => decide (b = q.2.2) && vis i (.classLink own x q.1) && decide (len = 3)
    | _ => false)) := rfl
theorem vq_55 (own nm : String) (ret : Option FieldType) (pc : Nat) (ins : Instr) (len a b : Nat) (z : Int) (i : Nat) : vchk own nm ret pc ins len 55 a b z i = ((match ins with
    | .newarray t => decide (newarray.typeOf t = vaty a ∧ a < 3 ∧ len = 2)
    | _ => false)) := rfl
theorem vq_56 (own nm : String) (ret : Option FieldType) (pc : Nat) (ins : Instr) (len a b : Nat) (z : Int) (i : Nat) : vchk own nm ret pc ins len 56 a b z i = ((match ins with
    | .anewarray x => vis i (.classLink own x (vec a)) && decide (3 ≤ a ∧ a < 6 ∧ len = 3)
    | _ => false)) := rfl
theorem vq_57 (own nm : String) (ret : Option FieldType) (pc : Nat) (ins : Instr) (len a b : Nat) (z : Int) (i : Nat) : vchk own nm ret pc ins len 57 a b z i = ((match ins with
    | .multianewarray x k => vis i (.classLink own x "[[I") && decide (k = 2 ∧ len = 4)
    | _ => false)) := rfl
theorem vq_58 (own nm : String) (ret : Option FieldType) (pc : Nat) (ins : Instr) (len a b : Nat) (z : Int) (i : Nat) : vchk own nm ret pc ins len 58 a b z i = ((match ins with
    | .invokevirtual x => vckm a fun r => vis i (.methodLink own x r.1) && decide (len = 3) && !r.2.2.2.2.2.2.1 && vis r.2.2.2.2.2.2.2.2.2.1 (.selects r.1.cls r.1 r.1)
    | _ => false)) := rfl
theorem vq_59 (own nm : String) (ret : Option FieldType) (pc : Nat) (ins : Instr) (len a b : Nat) (z : Int) (i : Nat) : vchk own nm ret pc ins len 59 a b z i = ((match ins with
    | .invokestatic x => vckm a fun r => vis i (.methodLink own x r.1) && decide (len = 3) && r.2.2.2.2.2.2.1
    | _ => false)) := rfl
theorem vq_60 (own nm : String) (ret : Option FieldType) (pc : Nat) (ins : Instr) (len a b : Nat) (z : Int) (i : Nat) : vchk own nm ret pc ins len 60 a b z i = ((match ins with
    | .invokespecial x => vckm a fun r => vis i (.methodLink own x r.1) && decide (len = 3) && !r.2.2.2.2.2.2.1 && decide (r.1.name = "<init>")
    | _ => false)) := rfl
theorem vq_61 (own nm : String) (ret : Option FieldType) (pc : Nat) (ins : Instr) (len a b : Nat) (z : Int) (i : Nat) : vchk own nm ret pc ins len 61 a b z i = ((match ins with
    | .invokespecial x => vis i (.methodLink own x objectInit) && decide (len = 3)
    | _ => false)) := rfl
theorem vq_62 (own nm : String) (ret : Option FieldType) (pc : Nat) (ins : Instr) (len a b : Nat) (z : Int) (i : Nat) : vchk own nm ret pc ins len 62 a b z i = ((match ins with
    | .invokestatic x => vis i (.methodLink own x arraycopyName) && decide (len = 3)
    | _ => false)) := rfl
theorem vq_63 (own nm : String) (ret : Option FieldType) (pc : Nat) (ins : Instr) (len a b : Nat) (z : Int) (i : Nat) : vchk own nm ret pc ins len 63 a b z i = (decide (ins = .ireturn ∧ len = 1 ∧ ret = some (if a = 0 then .int else .boolean))) := rfl
theorem vq_64 (own nm : String) (ret : Option FieldType) (pc : Nat) (ins : Instr) (len a b : Nat) (z : Int) (i : Nat) : vchk own nm ret pc ins len 64 a b z i = (decide (ins = .lreturn ∧ len = 1 ∧ ret = some .long)) := rfl
theorem vq_65 (own nm : String) (ret : Option FieldType) (pc : Nat) (ins : Instr) (len a b : Nat) (z : Int) (i : Nat) : vchk own nm ret pc ins len 65 a b z i = (decide (ins = .areturn ∧ len = 1) && (match ret with
    | some (.object _) => true
    | _ => false)) := rfl
theorem vq_66 (own nm : String) (ret : Option FieldType) (pc : Nat) (ins : Instr) (len a b : Nat) (z : Int) (i : Nat) : vchk own nm ret pc ins len 66 a b z i = (decide (ins = .return_ ∧ len = 1 ∧ ret = none)) := rfl
theorem vq_67 (own nm : String) (ret : Option FieldType) (pc : Nat) (ins : Instr) (len a b : Nat) (z : Int) (i : Nat) : vchk own nm ret pc ins len 67 a b z i = ((match vsw[a]? with
    | some q => (match ins with
      | .tableswitch d lo hi offs => decide (q.1 = vsp pc lo offs.toList ∧ (pc : Int) + d = (q.2 : Int) ∧ hi = lo + offs.toList.length - 1 ∧ (offs.toList.all fun o => decide (0 ≤ (pc : Int) + o)) = true)
      | .lookupswitch d ps => decide (q.1 = vps pc ps.toList ∧ (pc : Int) + d = (q.2 : Int) ∧ (ps.toList.all fun o => decide (0 ≤ (pc : Int) + o.2)) = true ∧ (ps.toList.zip (ps.toList.drop 1)).all (fun (a, next) => a.1 < next.1) = true)
      | _ => false)
    | none => false)) := rfl
theorem vq_68 (own nm : String) (ret : Option FieldType) (pc : Nat) (ins : Instr) (len a b : Nat) (z : Int) (i : Nat) : vchk own nm ret pc ins len 68 a b z i = ((match ins with
    | .putfield x => vckc a fun q => decide (b < q.2.2) && decide ((q.2.1 b).1 = q.1) && vis i (.fieldLink own x q.1 (q.2.1 b).2.1 (q.2.1 b).2.2.1) && decide (len = 3) && decide ((q.2.1 b).2.2.2 = true) && decide (own = q.1) && decide (nm = "<init>")
    | _ => false)) := rfl
theorem vq_70 (own nm : String) (ret : Option FieldType) (pc : Nat) (ins : Instr) (len a b : Nat) (z : Int) (i : Nat) : vchk own nm ret pc ins len 70 a b z i = ((match ins with
    | .ifCond .eq off => decide ((pc : Int) + off = (a : Int) ∧ len = 3)
    | _ => false)) := rfl
theorem vq_71 (own nm : String) (ret : Option FieldType) (pc : Nat) (ins : Instr) (len a b : Nat) (z : Int) (i : Nat) : vchk own nm ret pc ins len 71 a b z i = ((match ins with
    | .ifCond .ne off => decide ((pc : Int) + off = (a : Int) ∧ len = 3)
    | _ => false)) := rfl
theorem vq_72 (own nm : String) (ret : Option FieldType) (pc : Nat) (ins : Instr) (len a b : Nat) (z : Int) (i : Nat) : vchk own nm ret pc ins len 72 a b z i = ((match ins with
    | .ifCond .lt off => decide ((pc : Int) + off = (a : Int) ∧ len = 3)
    | _ => false)) := rfl
theorem vq_73 (own nm : String) (ret : Option FieldType) (pc : Nat) (ins : Instr) (len a b : Nat) (z : Int) (i : Nat) : vchk own nm ret pc ins len 73 a b z i = ((match ins with
    | .ifCond .ge off => decide ((pc : Int) + off = (a : Int) ∧ len = 3)
    | _ => false)) := rfl
theorem vq_74 (own nm : String) (ret : Option FieldType) (pc : Nat) (ins : Instr) (len a b : Nat) (z : Int) (i : Nat) : vchk own nm ret pc ins len 74 a b z i = ((match ins with
    | .ifCond .gt off => decide ((pc : Int) + off = (a : Int) ∧ len = 3)
    | _ => false)) := rfl
theorem vq_75 (own nm : String) (ret : Option FieldType) (pc : Nat) (ins : Instr) (len a b : Nat) (z : Int) (i : Nat) : vchk own nm ret pc ins len 75 a b z i = ((match ins with
    | .ifCond .le off => decide ((pc : Int) + off = (a : Int) ∧ len = 3)
    | _ => false)) := rfl
theorem vq_76 (own nm : String) (ret : Option FieldType) (pc : Nat) (ins : Instr) (len a b : Nat) (z : Int) (i : Nat) : vchk own nm ret pc ins len 76 a b z i = ((match ins with
    | .if_icmp .eq off => decide ((pc : Int) + off = (a : Int) ∧ len = 3)
    | _ => false)) := rfl
theorem vq_77 (own nm : String) (ret : Option FieldType) (pc : Nat) (ins : Instr) (len a b : Nat) (z : Int) (i : Nat) : vchk own nm ret pc ins len 77 a b z i = ((match ins with
    | .if_icmp .ne off => decide ((pc : Int) + off = (a : Int) ∧ len = 3)
    | _ => false)) := rfl
theorem vq_78 (own nm : String) (ret : Option FieldType) (pc : Nat) (ins : Instr) (len a b : Nat) (z : Int) (i : Nat) : vchk own nm ret pc ins len 78 a b z i = ((match ins with
    | .if_icmp .lt off => decide ((pc : Int) + off = (a : Int) ∧ len = 3)
    | _ => false)) := rfl
theorem vq_79 (own nm : String) (ret : Option FieldType) (pc : Nat) (ins : Instr) (len a b : Nat) (z : Int) (i : Nat) : vchk own nm ret pc ins len 79 a b z i = ((match ins with
    | .if_icmp .ge off => decide ((pc : Int) + off = (a : Int) ∧ len = 3)
    | _ => false)) := rfl
theorem vq_80 (own nm : String) (ret : Option FieldType) (pc : Nat) (ins : Instr) (len a b : Nat) (z : Int) (i : Nat) : vchk own nm ret pc ins len 80 a b z i = ((match ins with
    | .if_icmp .gt off => decide ((pc : Int) + off = (a : Int) ∧ len = 3)
    | _ => false)) := rfl
theorem vq_81 (own nm : String) (ret : Option FieldType) (pc : Nat) (ins : Instr) (len a b : Nat) (z : Int) (i : Nat) : vchk own nm ret pc ins len 81 a b z i = ((match ins with
    | .if_icmp .le off => decide ((pc : Int) + off = (a : Int) ∧ len = 3)
    | _ => false)) := rfl
theorem vq_82 (own nm : String) (ret : Option FieldType) (pc : Nat) (ins : Instr) (len a b : Nat) (z : Int) (i : Nat) : vchk own nm ret pc ins len 82 a b z i = ((match ins with
    | .invokestatic x => vckm a fun r => vis i (.methodLinkNest own x r.1 "RecurringDays") && decide (len = 3) && r.2.2.2.2.2.2.1
    | _ => false)) := rfl
theorem vq_83 (own nm : String) (ret : Option FieldType) (pc : Nat) (ins : Instr) (len a b : Nat) (z : Int) (i : Nat) : vchk own nm ret pc ins len 83 a b z i = ((match ins with
    | .invokespecial x => vckm a fun r => vis i (.methodLinkNest own x r.1 "RecurringDays") && decide (len = 3) && !r.2.2.2.2.2.2.1 && decide (r.1.name = "<init>")
    | _ => false)) := rfl
theorem vq_84 (own nm : String) (ret : Option FieldType) (pc : Nat) (ins : Instr) (len a b : Nat) (z : Int) (i : Nat) : vchk own nm ret pc ins len 84 a b z i = ((match ins with
    | .invokestatic x => vis i (.methodLink own x Lib.Math.max.name) && decide (len = 3)
    | _ => false)) := rfl
theorem vq_85 (own nm : String) (ret : Option FieldType) (pc : Nat) (ins : Instr) (len a b : Nat) (z : Int) (i : Nat) : vchk own nm ret pc ins len 85 a b z i = ((match ins with
    | .invokestatic x => vis i (.methodLink own x Lib.Math.min.name) && decide (len = 3)
    | _ => false)) := rfl
abbrev vSm (p : Program) (l : Launch) (e : Env) (Rm : Room) (s : State) (mid : MethodId) (args : Array Value) (below : List Frame) (meth : Method) (c : Code) (Qf : State → Prop) (G : vG) (lt : Nat × Nat) : vP := fun pc lv st h bc bs =>
  lv.length = c.maxLocals → ∀ (ls : Array Slot) (H : Heap) (locs : List Loc) (cells slots : Nat), vLv ls lv → vHl G lt h H → va_S (fun q => lt.1 ≤ q) s.heap H locs → cells + bc ≤ Rm.cells → slots + bs ≤ Rm.slots → W p l e Rm s mid args below meth c H locs cells slots Qf (F0 mid pc ls st)
def vCx (p : Program) (Rm : Room) (s : State) (mid : MethodId) (args : Array Value) (meth : Method) (c : Code) (r : vNr) (m d : Nat) (G : vG) (lt : Nat × Nat) : Prop :=
  p.tables.exec = Jvm.exec ∧ c.code = r.2.1 ∧ c.maxLocals = r.2.2.1 ∧ s.vm.findClass r.1.cls = some mid.cls ∧ (∀ w ∈ vT1, w.before args s = true) ∧ vWd G lt s s.heap ∧ meth.sig.returnType = r.2.2.2.1 ∧ meth.name = r.1.name ∧ m < vNum ∧ vN[m]? = some r ∧ d + 1 ≤ Rm.frames ∧ 60 * d + 60 ≤ Rm.locals ∧ lt.1 ≤ s.heap.size
section SD1
variable {p : Program} {l : Launch} {e : Env} {Rm : Room} {s : State} {mid : MethodId} {args : Array Value} {below : List Frame} {meth : Method} {c : Code} {Qf : State → Prop} {G : vG} {lt : Nat × Nat} {r : vNr} {m d : Nat} {C : vCt} {R : vQ}
theorem sd_null (X : vCx p Rm s mid args meth c r m d G lt) : vk_null C m R (vSm p l e Rm s mid args below meth c Qf G lt) := by
  obtain ⟨hx, hb, hml, hown, hts, hw, hrt, hnm, hm, hr, hfr, hlo, hsz⟩ := X
  intro pc nx lv st h bc bs  hc  k0 hlen ls H locs cells slots hv0 hH hS hbc hbs
  obtain ⟨ins, len, i, hd, hk, rfl⟩ := vlk_ok hm hr hc
  rw [vq_3] at hk
  obtain ⟨rfl, rfl⟩ := of_decide_eq_true hk
  exact lv_null hx hb hd (k0 hlen ls H locs cells slots hv0 hH hS hbc hbs)
theorem sd_ci (X : vCx p Rm s mid args meth c r m d G lt) : vk_ci C m R (vSm p l e Rm s mid args below meth c Qf G lt) := by
  obtain ⟨hx, hb, hml, hown, hts, hw, hrt, hnm, hm, hr, hfr, hlo, hsz⟩ := X
  intro pc nx lv st h bc bs z hc  k0 hlen ls H locs cells slots hv0 hH hS hbc hbs
  obtain ⟨ins, len, i, hd, hk, rfl⟩ := vlk_ok hm hr hc
  rw [vq_1] at hk
  split at hk
  · obtain ⟨hv, rfl⟩ := of_decide_eq_true hk
    exact lv_iconst hx hb hd hv (k0 hlen ls H locs cells slots hv0 hH hS hbc hbs)
  · obtain ⟨hv, rfl⟩ := of_decide_eq_true hk
    exact lv_bipush hx hb hd hv (k0 hlen ls H locs cells slots hv0 hH hS hbc hbs)
  · obtain ⟨hv, rfl⟩ := of_decide_eq_true hk
    exact lv_sipush hx hb hd hv (k0 hlen ls H locs cells slots hv0 hH hS hbc hbs)
  · obtain ⟨hv, hl⟩ := Bool.and_eq_true_iff.mp hk
    have hl := of_decide_eq_true hl
    subst hl
    exact lv_ldc hx hb hown (hts _ (vT1_of (vis_eq hv) rfl)) hd (k0 hlen ls H locs cells slots hv0 hH hS hbc hbs)
  · obtain ⟨hv, hl⟩ := Bool.and_eq_true_iff.mp hk
    have hl := of_decide_eq_true hl
    subst hl
    exact lv_ldcw hx hb hown (hts _ (vT1_of (vis_eq hv) rfl)) hd (k0 hlen ls H locs cells slots hv0 hH hS hbc hbs)
  · cases hk
theorem sd_cl (X : vCx p Rm s mid args meth c r m d G lt) : vk_cl C m R (vSm p l e Rm s mid args below meth c Qf G lt) := by
  obtain ⟨hx, hb, hml, hown, hts, hw, hrt, hnm, hm, hr, hfr, hlo, hsz⟩ := X
  intro pc nx lv st h bc bs z hc  k0 hlen ls H locs cells slots hv0 hH hS hbc hbs
  obtain ⟨ins, len, i, hd, hk, rfl⟩ := vlk_ok hm hr hc
  rw [vq_2] at hk
  split at hk
  · obtain ⟨hv, rfl⟩ := of_decide_eq_true hk
    exact lv_lconst hx hb hd hv (k0 hlen ls H locs cells slots hv0 hH hS hbc hbs)
  · obtain ⟨hv, hl⟩ := Bool.and_eq_true_iff.mp hk
    have hl := of_decide_eq_true hl
    subst hl
    exact lv_ldc2 hx hb hown (hts _ (vT1_of (vis_eq hv) rfl)) hd (k0 hlen ls H locs cells slots hv0 hH hS hbc hbs)
  · cases hk
theorem sd_iload (X : vCx p Rm s mid args meth c r m d G lt) : vk_iload C m R (vSm p l e Rm s mid args below meth c Qf G lt) := by
  obtain ⟨hx, hb, hml, hown, hts, hw, hrt, hnm, hm, hr, hfr, hlo, hsz⟩ := X
  intro pc nx lv st h bc bs a X hc hlp k0 hlen ls H locs cells slots hv0 hH hS hbc hbs
  obtain ⟨ins, len, i, hd, hk, rfl⟩ := vlk_ok hm hr hc
  have hg := vLv_get hv0 hlp (by intro q; cases q)
  rw [vq_4] at hk
  split at hk
  · obtain ⟨rfl, rfl⟩ := of_decide_eq_true hk
    exact lv_iload hx hb hd hg (k0 hlen ls H locs cells slots hv0 hH hS hbc hbs)
  · obtain ⟨ha, rfl⟩ := of_decide_eq_true hk
    exact lv_iload_n hx hb hd ha hg (k0 hlen ls H locs cells slots hv0 hH hS hbc hbs)
  · cases hk
theorem sd_lload (X : vCx p Rm s mid args meth c r m d G lt) : vk_lload C m R (vSm p l e Rm s mid args below meth c Qf G lt) := by
  obtain ⟨hx, hb, hml, hown, hts, hw, hrt, hnm, hm, hr, hfr, hlo, hsz⟩ := X
  intro pc nx lv st h bc bs a L hc hlp k0 hlen ls H locs cells slots hv0 hH hS hbc hbs
  obtain ⟨ins, len, i, hd, hk, rfl⟩ := vlk_ok hm hr hc
  have hg := vLv_get hv0 hlp (by intro q; cases q)
  rw [vq_5] at hk
  split at hk
  · obtain ⟨rfl, rfl⟩ := of_decide_eq_true hk
    exact lv_lload hx hb hd hg (k0 hlen ls H locs cells slots hv0 hH hS hbc hbs)
  · obtain ⟨ha, rfl⟩ := of_decide_eq_true hk
    exact lv_lload_n hx hb hd ha hg (k0 hlen ls H locs cells slots hv0 hH hS hbc hbs)
  · cases hk
theorem sd_aload (X : vCx p Rm s mid args meth c r m d G lt) : vk_aload C m R (vSm p l e Rm s mid args below meth c Qf G lt) := by
  obtain ⟨hx, hb, hml, hown, hts, hw, hrt, hnm, hm, hr, hfr, hlo, hsz⟩ := X
  intro pc nx lv st h bc bs a r hc hlp k0 hlen ls H locs cells slots hv0 hH hS hbc hbs
  obtain ⟨ins, len, i, hd, hk, rfl⟩ := vlk_ok hm hr hc
  have hg := vLv_get hv0 hlp (by intro q; cases q)
  rw [vq_6] at hk
  split at hk
  · obtain ⟨rfl, rfl⟩ := of_decide_eq_true hk
    exact lv_aload hx hb hd hg (k0 hlen ls H locs cells slots hv0 hH hS hbc hbs)
  · obtain ⟨ha, rfl⟩ := of_decide_eq_true hk
    exact lv_aload_n hx hb hd ha hg (k0 hlen ls H locs cells slots hv0 hH hS hbc hbs)
  · cases hk
theorem sd_aloadN (X : vCx p Rm s mid args meth c r m d G lt) : vk_aloadN C m R (vSm p l e Rm s mid args below meth c Qf G lt) := by
  obtain ⟨hx, hb, hml, hown, hts, hw, hrt, hnm, hm, hr, hfr, hlo, hsz⟩ := X
  intro pc nx lv st h bc bs a hc hlp k0 hlen ls H locs cells slots hv0 hH hS hbc hbs
  obtain ⟨ins, len, i, hd, hk, rfl⟩ := vlk_ok hm hr hc
  have hg := vLv_get hv0 hlp (by intro q; cases q)
  rw [vq_6] at hk
  split at hk
  · obtain ⟨rfl, rfl⟩ := of_decide_eq_true hk
    exact lv_aloadN hx hb hd hg (k0 hlen ls H locs cells slots hv0 hH hS hbc hbs)
  · obtain ⟨ha, rfl⟩ := of_decide_eq_true hk
    exact lv_aload_nN hx hb hd ha hg (k0 hlen ls H locs cells slots hv0 hH hS hbc hbs)
  · cases hk
theorem sd_istore (X : vCx p Rm s mid args meth c r m d G lt) : vk_istore C m R (vSm p l e Rm s mid args below meth c Qf G lt) := by
  obtain ⟨hx, hb, hml, hown, hts, hw, hrt, hnm, hm, hr, hfr, hlo, hsz⟩ := X
  intro pc nx lv st h bc bs a X hc hpp k0 hlen ls H locs cells slots hv0 hH hS hbc hbs
  obtain ⟨ins, len, i, hd, hk, rfl⟩ := vlk_ok hm hr hc
  rw [vq_7] at hk
  split at hk
  · obtain ⟨rfl, rfl⟩ := of_decide_eq_true hk
    exact lv_istore hx hb hd hv0 (vpo_lt hpp) rfl (fun ls' h' => k0 ((vst_len _ _ _).trans hlen) ls' H locs cells slots (vLv_st1 hv0 hpp rfl h') hH hS hbc hbs)
  · obtain ⟨ha, rfl⟩ := of_decide_eq_true hk
    exact lv_istore_n hx hb hd ha hv0 (vpo_lt hpp) rfl (fun ls' h' => k0 ((vst_len _ _ _).trans hlen) ls' H locs cells slots (vLv_st1 hv0 hpp rfl h') hH hS hbc hbs)
  · cases hk
theorem sd_astore (X : vCx p Rm s mid args meth c r m d G lt) : vk_astore C m R (vSm p l e Rm s mid args below meth c Qf G lt) := by
  obtain ⟨hx, hb, hml, hown, hts, hw, hrt, hnm, hm, hr, hfr, hlo, hsz⟩ := X
  intro pc nx lv st h bc bs a r hc hpp k0 hlen ls H locs cells slots hv0 hH hS hbc hbs
  obtain ⟨ins, len, i, hd, hk, rfl⟩ := vlk_ok hm hr hc
  rw [vq_9] at hk
  split at hk
  · obtain ⟨rfl, rfl⟩ := of_decide_eq_true hk
    exact lv_astore hx hb hd hv0 (vpo_lt hpp) rfl (fun ls' h' => k0 ((vst_len _ _ _).trans hlen) ls' H locs cells slots (vLv_st1 hv0 hpp rfl h') hH hS hbc hbs)
  · obtain ⟨ha, rfl⟩ := of_decide_eq_true hk
    exact lv_astore_n hx hb hd ha hv0 (vpo_lt hpp) rfl (fun ls' h' => k0 ((vst_len _ _ _).trans hlen) ls' H locs cells slots (vLv_st1 hv0 hpp rfl h') hH hS hbc hbs)
  · cases hk
theorem sd_astoreN (X : vCx p Rm s mid args meth c r m d G lt) : vk_astoreN C m R (vSm p l e Rm s mid args below meth c Qf G lt) := by
  obtain ⟨hx, hb, hml, hown, hts, hw, hrt, hnm, hm, hr, hfr, hlo, hsz⟩ := X
  intro pc nx lv st h bc bs a hc hpp k0 hlen ls H locs cells slots hv0 hH hS hbc hbs
  obtain ⟨ins, len, i, hd, hk, rfl⟩ := vlk_ok hm hr hc
  rw [vq_9] at hk
  split at hk
  · obtain ⟨rfl, rfl⟩ := of_decide_eq_true hk
    exact lv_astoreN hx hb hd hv0 (vpo_lt hpp) rfl (fun ls' h' => k0 ((vst_len _ _ _).trans hlen) ls' H locs cells slots (vLv_st1 hv0 hpp rfl h') hH hS hbc hbs)
  · obtain ⟨ha, rfl⟩ := of_decide_eq_true hk
    exact lv_astore_nN hx hb hd ha hv0 (vpo_lt hpp) rfl (fun ls' h' => k0 ((vst_len _ _ _).trans hlen) ls' H locs cells slots (vLv_st1 hv0 hpp rfl h') hH hS hbc hbs)
  · cases hk
theorem sd_lstore (X : vCx p Rm s mid args meth c r m d G lt) : vk_lstore C m R (vSm p l e Rm s mid args below meth c Qf G lt) := by
  obtain ⟨hx, hb, hml, hown, hts, hw, hrt, hnm, hm, hr, hfr, hlo, hsz⟩ := X
  intro pc nx lv st h bc bs a L hc hpp hp2p k0 hlen ls H locs cells slots hv0 hH hS hbc hbs
  obtain ⟨ins, len, i, hd, hk, rfl⟩ := vlk_ok hm hr hc
  have hl2 : a + 1 < lv.length := by
    obtain ⟨u, hu⟩ := Option.isSome_iff_exists.mp hp2p
    exact vgt_lt hu
  rw [vq_8] at hk
  split at hk
  · obtain ⟨rfl, rfl⟩ := of_decide_eq_true hk
    exact lv_lstore hx hb hd hv0 hl2 rfl (fun ls' h' => k0 ((vst_len _ _ _).trans ((vst_len _ _ _).trans hlen)) ls' H locs cells slots (vLv_st2 hv0 hpp hp2p h') hH hS hbc hbs)
  · obtain ⟨ha, rfl⟩ := of_decide_eq_true hk
    exact lv_lstore_n hx hb hd ha hv0 hl2 rfl (fun ls' h' => k0 ((vst_len _ _ _).trans ((vst_len _ _ _).trans hlen)) ls' H locs cells slots (vLv_st2 hv0 hpp hp2p h') hH hS hbc hbs)
  · cases hk
theorem sd_iinc (X : vCx p Rm s mid args meth c r m d G lt) : vk_iinc C m R (vSm p l e Rm s mid args below meth c Qf G lt) := by
  obtain ⟨hx, hb, hml, hown, hts, hw, hrt, hnm, hm, hr, hfr, hlo, hsz⟩ := X
  intro pc nx lv st h bc bs a z x hc hlp hpp k0 hlen ls H locs cells slots hv0 hH hS hbc hbs
  obtain ⟨ins, len, i, hd, hk, rfl⟩ := vlk_ok hm hr hc
  rw [vq_10] at hk
  obtain ⟨rfl, rfl⟩ := of_decide_eq_true hk
  obtain ⟨j, hj⟩ := List.getElem?_of_mem (vas_mem.mpr ⟨hlp, by intro q; cases q⟩)
  exact lv_iinc hx hb hd hv0 hj (iI_add x z) (vpo_lt hpp) rfl (fun ls' h' => k0 ((vst_len _ _ _).trans hlen) ls' H locs cells slots (vLv_st1 hv0 hpp rfl h') hH hS hbc hbs)
theorem sd_iadd (X : vCx p Rm s mid args meth c r m d G lt) : vk_iadd C m R (vSm p l e Rm s mid args below meth c Qf G lt) := by
  obtain ⟨hx, hb, hml, hown, hts, hw, hrt, hnm, hm, hr, hfr, hlo, hsz⟩ := X
  intro pc nx lv st h bc bs x y hc  k0 hlen ls H locs cells slots hv0 hH hS hbc hbs
  obtain ⟨ins, len, i, hd, hk, rfl⟩ := vlk_ok hm hr hc
  rw [vq_11] at hk
  obtain ⟨rfl, rfl⟩ := of_decide_eq_true hk
  refine lv_iadd hx hb hd ?_
  rw [iI_add x y]
  exact k0 hlen ls H locs cells slots hv0 hH hS hbc hbs
theorem sd_isub (X : vCx p Rm s mid args meth c r m d G lt) : vk_isub C m R (vSm p l e Rm s mid args below meth c Qf G lt) := by
  obtain ⟨hx, hb, hml, hown, hts, hw, hrt, hnm, hm, hr, hfr, hlo, hsz⟩ := X
  intro pc nx lv st h bc bs x y hc  k0 hlen ls H locs cells slots hv0 hH hS hbc hbs
  obtain ⟨ins, len, i, hd, hk, rfl⟩ := vlk_ok hm hr hc
  rw [vq_12] at hk
  obtain ⟨rfl, rfl⟩ := of_decide_eq_true hk
  refine lv_isub hx hb hd ?_
  rw [iI_sub x y]
  exact k0 hlen ls H locs cells slots hv0 hH hS hbc hbs
theorem sd_imul (X : vCx p Rm s mid args meth c r m d G lt) : vk_imul C m R (vSm p l e Rm s mid args below meth c Qf G lt) := by
  obtain ⟨hx, hb, hml, hown, hts, hw, hrt, hnm, hm, hr, hfr, hlo, hsz⟩ := X
  intro pc nx lv st h bc bs x y hc  k0 hlen ls H locs cells slots hv0 hH hS hbc hbs
  obtain ⟨ins, len, i, hd, hk, rfl⟩ := vlk_ok hm hr hc
  rw [vq_13] at hk
  obtain ⟨rfl, rfl⟩ := of_decide_eq_true hk
  refine lv_imul hx hb hd ?_
  rw [iI_mul x y]
  exact k0 hlen ls H locs cells slots hv0 hH hS hbc hbs
theorem sd_iand (X : vCx p Rm s mid args meth c r m d G lt) : vk_iand C m R (vSm p l e Rm s mid args below meth c Qf G lt) := by
  obtain ⟨hx, hb, hml, hown, hts, hw, hrt, hnm, hm, hr, hfr, hlo, hsz⟩ := X
  intro pc nx lv st h bc bs x y hc  k0 hlen ls H locs cells slots hv0 hH hS hbc hbs
  obtain ⟨ins, len, i, hd, hk, rfl⟩ := vlk_ok hm hr hc
  rw [vq_17] at hk
  obtain ⟨rfl, rfl⟩ := of_decide_eq_true hk
  refine lv_iand hx hb hd ?_
  have e1 : iI x &&& iI y = iI (vandI x y) := (iI_of _).symm
  rw [e1]
  exact k0 hlen ls H locs cells slots hv0 hH hS hbc hbs
theorem sd_ior (X : vCx p Rm s mid args meth c r m d G lt) : vk_ior C m R (vSm p l e Rm s mid args below meth c Qf G lt) := by
  obtain ⟨hx, hb, hml, hown, hts, hw, hrt, hnm, hm, hr, hfr, hlo, hsz⟩ := X
  intro pc nx lv st h bc bs x y hc  k0 hlen ls H locs cells slots hv0 hH hS hbc hbs
  obtain ⟨ins, len, i, hd, hk, rfl⟩ := vlk_ok hm hr hc
  rw [vq_18] at hk
  obtain ⟨rfl, rfl⟩ := of_decide_eq_true hk
  refine lv_ior hx hb hd ?_
  have e1 : iI x ||| iI y = iI (vorI x y) := (iI_of _).symm
  rw [e1]
  exact k0 hlen ls H locs cells slots hv0 hH hS hbc hbs
theorem sd_ishl (X : vCx p Rm s mid args meth c r m d G lt) : vk_ishl C m R (vSm p l e Rm s mid args below meth c Qf G lt) := by
  obtain ⟨hx, hb, hml, hown, hts, hw, hrt, hnm, hm, hr, hfr, hlo, hsz⟩ := X
  intro pc nx lv st h bc bs x y hc  k0 hlen ls H locs cells slots hv0 hH hS hbc hbs
  obtain ⟨ins, len, i, hd, hk, rfl⟩ := vlk_ok hm hr hc
  rw [vq_19] at hk
  obtain ⟨rfl, rfl⟩ := of_decide_eq_true hk
  refine lv_ishl hx hb hd ?_
  have e1 : iI x <<< (iI y &&& 31) = iI (vshlI x y) := (iI_of _).symm
  rw [e1]
  exact k0 hlen ls H locs cells slots hv0 hH hS hbc hbs
theorem sd_ishr (X : vCx p Rm s mid args meth c r m d G lt) : vk_ishr C m R (vSm p l e Rm s mid args below meth c Qf G lt) := by
  obtain ⟨hx, hb, hml, hown, hts, hw, hrt, hnm, hm, hr, hfr, hlo, hsz⟩ := X
  intro pc nx lv st h bc bs x y hc  k0 hlen ls H locs cells slots hv0 hH hS hbc hbs
  obtain ⟨ins, len, i, hd, hk, rfl⟩ := vlk_ok hm hr hc
  rw [vq_20] at hk
  obtain ⟨rfl, rfl⟩ := of_decide_eq_true hk
  refine lv_ishr hx hb hd ?_
  have e1 : iI x >>> (iI y &&& 31) = iI (vshrI x y) := (iI_of _).symm
  rw [e1]
  exact k0 hlen ls H locs cells slots hv0 hH hS hbc hbs
theorem sd_iushr (X : vCx p Rm s mid args meth c r m d G lt) : vk_iushr C m R (vSm p l e Rm s mid args below meth c Qf G lt) := by
  obtain ⟨hx, hb, hml, hown, hts, hw, hrt, hnm, hm, hr, hfr, hlo, hsz⟩ := X
  intro pc nx lv st h bc bs x y hc  k0 hlen ls H locs cells slots hv0 hH hS hbc hbs
  obtain ⟨ins, len, i, hd, hk, rfl⟩ := vlk_ok hm hr hc
  rw [vq_21] at hk
  obtain ⟨rfl, rfl⟩ := of_decide_eq_true hk
  exact lv_iushr hx hb hd (v := iI (vushrI x y)) (iI_of _).symm (k0 hlen ls H locs cells slots hv0 hH hS hbc hbs)
theorem sd_ineg (X : vCx p Rm s mid args meth c r m d G lt) : vk_ineg C m R (vSm p l e Rm s mid args below meth c Qf G lt) := by
  obtain ⟨hx, hb, hml, hown, hts, hw, hrt, hnm, hm, hr, hfr, hlo, hsz⟩ := X
  intro pc nx lv st h bc bs x hc  k0 hlen ls H locs cells slots hv0 hH hS hbc hbs
  obtain ⟨ins, len, i, hd, hk, rfl⟩ := vlk_ok hm hr hc
  rw [vq_16] at hk
  obtain ⟨rfl, rfl⟩ := of_decide_eq_true hk
  refine lv_ineg hx hb hd ?_
  rw [iI_neg]
  exact k0 hlen ls H locs cells slots hv0 hH hS hbc hbs
theorem sd_idiv (X : vCx p Rm s mid args meth c r m d G lt) : vk_idiv C m R (vSm p l e Rm s mid args below meth c Qf G lt) := by
  obtain ⟨hx, hb, hml, hown, hts, hw, hrt, hnm, hm, hr, hfr, hlo, hsz⟩ := X
  intro pc nx lv st h bc bs x y hc h1p h2p h3p h4p k0 hlen ls H locs cells slots hv0 hH hS hbc hbs
  obtain ⟨ins, len, i, hd, hk, rfl⟩ := vlk_ok hm hr hc
  rw [vq_14] at hk
  obtain ⟨rfl, rfl⟩ := of_decide_eq_true hk
  refine lv_idiv hx hb hd (fun q => by rw [iI_eq0 (by omega) h4p] at q; omega) ?_
  rw [iI_div h1p h2p h3p h4p]
  exact k0 hlen ls H locs cells slots hv0 hH hS hbc hbs
theorem sd_irem (X : vCx p Rm s mid args meth c r m d G lt) : vk_irem C m R (vSm p l e Rm s mid args below meth c Qf G lt) := by
  obtain ⟨hx, hb, hml, hown, hts, hw, hrt, hnm, hm, hr, hfr, hlo, hsz⟩ := X
  intro pc nx lv st h bc bs x y hc h1p h2p h3p h4p k0 hlen ls H locs cells slots hv0 hH hS hbc hbs
  obtain ⟨ins, len, i, hd, hk, rfl⟩ := vlk_ok hm hr hc
  rw [vq_15] at hk
  obtain ⟨rfl, rfl⟩ := of_decide_eq_true hk
  refine lv_irem hx hb hd (fun q => by rw [iI_eq0 (by omega) h4p] at q; omega) ?_
  rw [iI_rem h1p h2p h3p h4p]
  exact k0 hlen ls H locs cells slots hv0 hH hS hbc hbs
theorem sd_ladd (X : vCx p Rm s mid args meth c r m d G lt) : vk_ladd C m R (vSm p l e Rm s mid args below meth c Qf G lt) := by
  obtain ⟨hx, hb, hml, hown, hts, hw, hrt, hnm, hm, hr, hfr, hlo, hsz⟩ := X
  intro pc nx lv st h bc bs x y hc  k0 hlen ls H locs cells slots hv0 hH hS hbc hbs
  obtain ⟨ins, len, i, hd, hk, rfl⟩ := vlk_ok hm hr hc
  rw [vq_22] at hk
  obtain ⟨rfl, rfl⟩ := of_decide_eq_true hk
  refine lv_ladd hx hb hd ?_
  rw [lZ_add x y]
  exact k0 hlen ls H locs cells slots hv0 hH hS hbc hbs
theorem sd_lsub (X : vCx p Rm s mid args meth c r m d G lt) : vk_lsub C m R (vSm p l e Rm s mid args below meth c Qf G lt) := by
  obtain ⟨hx, hb, hml, hown, hts, hw, hrt, hnm, hm, hr, hfr, hlo, hsz⟩ := X
  intro pc nx lv st h bc bs x y hc  k0 hlen ls H locs cells slots hv0 hH hS hbc hbs
  obtain ⟨ins, len, i, hd, hk, rfl⟩ := vlk_ok hm hr hc
  rw [vq_23] at hk
  obtain ⟨rfl, rfl⟩ := of_decide_eq_true hk
  refine lv_lsub hx hb hd ?_
  rw [lZ_sub x y]
  exact k0 hlen ls H locs cells slots hv0 hH hS hbc hbs
theorem sd_lmul (X : vCx p Rm s mid args meth c r m d G lt) : vk_lmul C m R (vSm p l e Rm s mid args below meth c Qf G lt) := by
  obtain ⟨hx, hb, hml, hown, hts, hw, hrt, hnm, hm, hr, hfr, hlo, hsz⟩ := X
  intro pc nx lv st h bc bs x y hc  k0 hlen ls H locs cells slots hv0 hH hS hbc hbs
  obtain ⟨ins, len, i, hd, hk, rfl⟩ := vlk_ok hm hr hc
  rw [vq_24] at hk
  obtain ⟨rfl, rfl⟩ := of_decide_eq_true hk
  refine lv_lmul hx hb hd ?_
  rw [lZ_mul x y]
  exact k0 hlen ls H locs cells slots hv0 hH hS hbc hbs
theorem sd_land (X : vCx p Rm s mid args meth c r m d G lt) : vk_land C m R (vSm p l e Rm s mid args below meth c Qf G lt) := by
  obtain ⟨hx, hb, hml, hown, hts, hw, hrt, hnm, hm, hr, hfr, hlo, hsz⟩ := X
  intro pc nx lv st h bc bs x y hc  k0 hlen ls H locs cells slots hv0 hH hS hbc hbs
  obtain ⟨ins, len, i, hd, hk, rfl⟩ := vlk_ok hm hr hc
  rw [vq_25] at hk
  obtain ⟨rfl, rfl⟩ := of_decide_eq_true hk
  refine lv_land hx hb hd ?_
  have e1 : lZ x &&& lZ y = lZ (vandL x y) := (lZ_of _).symm
  rw [e1]
  exact k0 hlen ls H locs cells slots hv0 hH hS hbc hbs
theorem sd_lor (X : vCx p Rm s mid args meth c r m d G lt) : vk_lor C m R (vSm p l e Rm s mid args below meth c Qf G lt) := by
  obtain ⟨hx, hb, hml, hown, hts, hw, hrt, hnm, hm, hr, hfr, hlo, hsz⟩ := X
  intro pc nx lv st h bc bs x y hc  k0 hlen ls H locs cells slots hv0 hH hS hbc hbs
  obtain ⟨ins, len, i, hd, hk, rfl⟩ := vlk_ok hm hr hc
  rw [vq_26] at hk
  obtain ⟨rfl, rfl⟩ := of_decide_eq_true hk
  refine lv_lor hx hb hd ?_
  have e1 : lZ x ||| lZ y = lZ (vorL x y) := (lZ_of _).symm
  rw [e1]
  exact k0 hlen ls H locs cells slots hv0 hH hS hbc hbs
theorem sd_lxor (X : vCx p Rm s mid args meth c r m d G lt) : vk_lxor C m R (vSm p l e Rm s mid args below meth c Qf G lt) := by
  obtain ⟨hx, hb, hml, hown, hts, hw, hrt, hnm, hm, hr, hfr, hlo, hsz⟩ := X
  intro pc nx lv st h bc bs x y hc  k0 hlen ls H locs cells slots hv0 hH hS hbc hbs
  obtain ⟨ins, len, i, hd, hk, rfl⟩ := vlk_ok hm hr hc
  rw [vq_27] at hk
  obtain ⟨rfl, rfl⟩ := of_decide_eq_true hk
  refine lv_lxor hx hb hd ?_
  have e1 : lZ x ^^^ lZ y = lZ (vxorL x y) := (lZ_of _).symm
  rw [e1]
  exact k0 hlen ls H locs cells slots hv0 hH hS hbc hbs
theorem sd_lshl (X : vCx p Rm s mid args meth c r m d G lt) : vk_lshl C m R (vSm p l e Rm s mid args below meth c Qf G lt) := by
  obtain ⟨hx, hb, hml, hown, hts, hw, hrt, hnm, hm, hr, hfr, hlo, hsz⟩ := X
  intro pc nx lv st h bc bs x y hc  k0 hlen ls H locs cells slots hv0 hH hS hbc hbs
  obtain ⟨ins, len, i, hd, hk, rfl⟩ := vlk_ok hm hr hc
  rw [vq_28] at hk
  obtain ⟨rfl, rfl⟩ := of_decide_eq_true hk
  exact lv_lshl hx hb hd (v := lZ (vshlL x y)) (lZ_of _).symm (k0 hlen ls H locs cells slots hv0 hH hS hbc hbs)
theorem sd_lshr (X : vCx p Rm s mid args meth c r m d G lt) : vk_lshr C m R (vSm p l e Rm s mid args below meth c Qf G lt) := by
  obtain ⟨hx, hb, hml, hown, hts, hw, hrt, hnm, hm, hr, hfr, hlo, hsz⟩ := X
  intro pc nx lv st h bc bs x y hc  k0 hlen ls H locs cells slots hv0 hH hS hbc hbs
  obtain ⟨ins, len, i, hd, hk, rfl⟩ := vlk_ok hm hr hc
  rw [vq_29] at hk
  obtain ⟨rfl, rfl⟩ := of_decide_eq_true hk
  exact lv_lshr hx hb hd (v := lZ (vshrL x y)) (lZ_of _).symm (k0 hlen ls H locs cells slots hv0 hH hS hbc hbs)
theorem sd_lushr (X : vCx p Rm s mid args meth c r m d G lt) : vk_lushr C m R (vSm p l e Rm s mid args below meth c Qf G lt) := by
  obtain ⟨hx, hb, hml, hown, hts, hw, hrt, hnm, hm, hr, hfr, hlo, hsz⟩ := X
  intro pc nx lv st h bc bs x y hc  k0 hlen ls H locs cells slots hv0 hH hS hbc hbs
  obtain ⟨ins, len, i, hd, hk, rfl⟩ := vlk_ok hm hr hc
  rw [vq_30] at hk
  obtain ⟨rfl, rfl⟩ := of_decide_eq_true hk
  exact lv_lushr hx hb hd (v := lZ (vushrL x y)) (lZ_of _).symm (k0 hlen ls H locs cells slots hv0 hH hS hbc hbs)
theorem sd_lcmp (X : vCx p Rm s mid args meth c r m d G lt) : vk_lcmp C m R (vSm p l e Rm s mid args below meth c Qf G lt) := by
  obtain ⟨hx, hb, hml, hown, hts, hw, hrt, hnm, hm, hr, hfr, hlo, hsz⟩ := X
  intro pc nx lv st h bc bs x y hc h1p h2p h3p h4p k0 hlen ls H locs cells slots hv0 hH hS hbc hbs
  obtain ⟨ins, len, i, hd, hk, rfl⟩ := vlk_ok hm hr hc
  rw [vq_31] at hk
  obtain ⟨rfl, rfl⟩ := of_decide_eq_true hk
  refine W.lcmp hx hb hd ?_
  rw [lZ_cmp h1p h2p h3p h4p]
  exact k0 hlen ls H locs cells slots hv0 hH hS hbc hbs
theorem sd_i2l (X : vCx p Rm s mid args meth c r m d G lt) : vk_i2l C m R (vSm p l e Rm s mid args below meth c Qf G lt) := by
  obtain ⟨hx, hb, hml, hown, hts, hw, hrt, hnm, hm, hr, hfr, hlo, hsz⟩ := X
  intro pc nx lv st h bc bs x hc h1p h2p k0 hlen ls H locs cells slots hv0 hH hS hbc hbs
  obtain ⟨ins, len, i, hd, hk, rfl⟩ := vlk_ok hm hr hc
  rw [vq_32] at hk
  obtain ⟨rfl, rfl⟩ := of_decide_eq_true hk
  exact lv_i2l hx hb hd (iI_l h1p h2p) (k0 hlen ls H locs cells slots hv0 hH hS hbc hbs)
theorem sd_l2i (X : vCx p Rm s mid args meth c r m d G lt) : vk_l2i C m R (vSm p l e Rm s mid args below meth c Qf G lt) := by
  obtain ⟨hx, hb, hml, hown, hts, hw, hrt, hnm, hm, hr, hfr, hlo, hsz⟩ := X
  intro pc nx lv st h bc bs x hc  k0 hlen ls H locs cells slots hv0 hH hS hbc hbs
  obtain ⟨ins, len, i, hd, hk, rfl⟩ := vlk_ok hm hr hc
  rw [vq_33] at hk
  obtain ⟨rfl, rfl⟩ := of_decide_eq_true hk
  exact lv_l2i hx hb hd (lZ_i x) (k0 hlen ls H locs cells slots hv0 hH hS hbc hbs)
theorem sd_dup (X : vCx p Rm s mid args meth c r m d G lt) : vk_dup C m R (vSm p l e Rm s mid args below meth c Qf G lt) := by
  obtain ⟨hx, hb, hml, hown, hts, hw, hrt, hnm, hm, hr, hfr, hlo, hsz⟩ := X
  intro pc nx lv st h bc bs v hc hvp k0 hlen ls H locs cells slots hv0 hH hS hbc hbs
  obtain ⟨ins, len, i, hd, hk, rfl⟩ := vlk_ok hm hr hc
  rw [vq_34] at hk
  obtain ⟨rfl, rfl⟩ := of_decide_eq_true hk
  exact lv_dup hx hb hd hvp (k0 hlen ls H locs cells slots hv0 hH hS hbc hbs)
theorem sd_dup2 (X : vCx p Rm s mid args meth c r m d G lt) : vk_dup2 C m R (vSm p l e Rm s mid args below meth c Qf G lt) := by
  obtain ⟨hx, hb, hml, hown, hts, hw, hrt, hnm, hm, hr, hfr, hlo, hsz⟩ := X
  intro pc nx lv st h bc bs v u hc hvp hup k0 hlen ls H locs cells slots hv0 hH hS hbc hbs
  obtain ⟨ins, len, i, hd, hk, rfl⟩ := vlk_ok hm hr hc
  rw [vq_35] at hk
  obtain ⟨rfl, rfl⟩ := of_decide_eq_true hk
  exact lv_dup2_11 hx hb hd hvp hup (k0 hlen ls H locs cells slots hv0 hH hS hbc hbs)
theorem sd_pop (X : vCx p Rm s mid args meth c r m d G lt) : vk_pop C m R (vSm p l e Rm s mid args below meth c Qf G lt) := by
  obtain ⟨hx, hb, hml, hown, hts, hw, hrt, hnm, hm, hr, hfr, hlo, hsz⟩ := X
  intro pc nx lv st h bc bs v hc hvp k0 hlen ls H locs cells slots hv0 hH hS hbc hbs
  obtain ⟨ins, len, i, hd, hk, rfl⟩ := vlk_ok hm hr hc
  rw [vq_36] at hk
  obtain ⟨rfl, rfl⟩ := of_decide_eq_true hk
  exact lv_pop hx hb hd hvp (k0 hlen ls H locs cells slots hv0 hH hS hbc hbs)
theorem sd_goto (X : vCx p Rm s mid args meth c r m d G lt) : vk_goto C m R (vSm p l e Rm s mid args below meth c Qf G lt) := by
  obtain ⟨hx, hb, hml, hown, hts, hw, hrt, hnm, hm, hr, hfr, hlo, hsz⟩ := X
  intro pc nx lv st h bc bs a hc  k0 hlen ls H locs cells slots hv0 hH hS hbc hbs
  obtain ⟨ins, len, i, hd, hk, rfl⟩ := vlk_ok hm hr hc
  rw [vq_37] at hk
  split at hk
  · obtain ⟨ha, rfl⟩ := of_decide_eq_true hk
    exact lv_goto hx hb hd ha (k0 hlen ls H locs cells slots hv0 hH hS hbc hbs)
  · cases hk
theorem sd_ifnullR (X : vCx p Rm s mid args meth c r m d G lt) : vk_ifnullR C m R (vSm p l e Rm s mid args below meth c Qf G lt) := by
  obtain ⟨hx, hb, hml, hown, hts, hw, hrt, hnm, hm, hr, hfr, hlo, hsz⟩ := X
  intro pc nx lv st h bc bs a r hc  k0 hlen ls H locs cells slots hv0 hH hS hbc hbs
  obtain ⟨ins, len, i, hd, hk, rfl⟩ := vlk_ok hm hr hc
  rw [vq_40] at hk
  split at hk
  · obtain ⟨ha, rfl⟩ := of_decide_eq_true hk
    exact lv_ifnull hx hb hd (k0 hlen ls H locs cells slots hv0 hH hS hbc hbs)
  · cases hk
theorem sd_ifnullN (X : vCx p Rm s mid args meth c r m d G lt) : vk_ifnullN C m R (vSm p l e Rm s mid args below meth c Qf G lt) := by
  obtain ⟨hx, hb, hml, hown, hts, hw, hrt, hnm, hm, hr, hfr, hlo, hsz⟩ := X
  intro pc nx lv st h bc bs a hc  k0 hlen ls H locs cells slots hv0 hH hS hbc hbs
  obtain ⟨ins, len, i, hd, hk, rfl⟩ := vlk_ok hm hr hc
  rw [vq_40] at hk
  split at hk
  · obtain ⟨ha, rfl⟩ := of_decide_eq_true hk
    exact lv_ifnullN hx hb hd ha (k0 hlen ls H locs cells slots hv0 hH hS hbc hbs)
  · cases hk
theorem sd_ifnonR (X : vCx p Rm s mid args meth c r m d G lt) : vk_ifnonR C m R (vSm p l e Rm s mid args below meth c Qf G lt) := by
  obtain ⟨hx, hb, hml, hown, hts, hw, hrt, hnm, hm, hr, hfr, hlo, hsz⟩ := X
  intro pc nx lv st h bc bs a r hc  k0 hlen ls H locs cells slots hv0 hH hS hbc hbs
  obtain ⟨ins, len, i, hd, hk, rfl⟩ := vlk_ok hm hr hc
  rw [vq_41] at hk
  split at hk
  · obtain ⟨ha, rfl⟩ := of_decide_eq_true hk
    exact lv_ifnonnull hx hb hd ha (k0 hlen ls H locs cells slots hv0 hH hS hbc hbs)
  · cases hk
theorem sd_ifnonN (X : vCx p Rm s mid args meth c r m d G lt) : vk_ifnonN C m R (vSm p l e Rm s mid args below meth c Qf G lt) := by
  obtain ⟨hx, hb, hml, hown, hts, hw, hrt, hnm, hm, hr, hfr, hlo, hsz⟩ := X
  intro pc nx lv st h bc bs a hc  k0 hlen ls H locs cells slots hv0 hH hS hbc hbs
  obtain ⟨ins, len, i, hd, hk, rfl⟩ := vlk_ok hm hr hc
  rw [vq_41] at hk
  split at hk
  · obtain ⟨ha, rfl⟩ := of_decide_eq_true hk
    exact lv_ifnonnullN hx hb hd (k0 hlen ls H locs cells slots hv0 hH hS hbc hbs)
  · cases hk
theorem sd_ifeq (X : vCx p Rm s mid args meth c r m d G lt) : vk_ifeq C m R (vSm p l e Rm s mid args below meth c Qf G lt) := by
  obtain ⟨hx, hb, hml, hown, hts, hw, hrt, hnm, hm, hr, hfr, hlo, hsz⟩ := X
  intro pc nx lv st h bc bs a x hc h1p h2p k0 k1 hlen ls H locs cells slots hv0 hH hS hbc hbs
  obtain ⟨ins, len, i, hd, hk, rfl⟩ := vlk_ok hm hr hc
  rw [vq_70] at hk
  split at hk
  · obtain ⟨ha, rfl⟩ := of_decide_eq_true hk
    exact lv_if_eq hx hb hd ha (fun q => k0 ((iI_eq0 h1p h2p).mp q) hlen ls H locs cells slots hv0 hH hS hbc hbs) (fun q => k1 (id fun z => q ((iI_eq0 h1p h2p).mpr z)) hlen ls H locs cells slots hv0 hH hS hbc hbs)
  · cases hk
theorem sd_ifne (X : vCx p Rm s mid args meth c r m d G lt) : vk_ifne C m R (vSm p l e Rm s mid args below meth c Qf G lt) := by
  obtain ⟨hx, hb, hml, hown, hts, hw, hrt, hnm, hm, hr, hfr, hlo, hsz⟩ := X
  intro pc nx lv st h bc bs a x hc h1p h2p k0 k1 hlen ls H locs cells slots hv0 hH hS hbc hbs
  obtain ⟨ins, len, i, hd, hk, rfl⟩ := vlk_ok hm hr hc
  rw [vq_71] at hk
  split at hk
  · obtain ⟨ha, rfl⟩ := of_decide_eq_true hk
    exact lv_if_ne hx hb hd ha (fun q => k0 (fun z => q ((iI_eq0 h1p h2p).mpr z)) hlen ls H locs cells slots hv0 hH hS hbc hbs) (fun q => k1 ((iI_eq0 h1p h2p).mp q) hlen ls H locs cells slots hv0 hH hS hbc hbs)
  · cases hk
theorem sd_iflt (X : vCx p Rm s mid args meth c r m d G lt) : vk_iflt C m R (vSm p l e Rm s mid args below meth c Qf G lt) := by
  obtain ⟨hx, hb, hml, hown, hts, hw, hrt, hnm, hm, hr, hfr, hlo, hsz⟩ := X
  intro pc nx lv st h bc bs a x hc h1p h2p k0 k1 hlen ls H locs cells slots hv0 hH hS hbc hbs
  obtain ⟨ins, len, i, hd, hk, rfl⟩ := vlk_ok hm hr hc
  rw [vq_72] at hk
  split at hk
  · obtain ⟨ha, rfl⟩ := of_decide_eq_true hk
    exact lv_if_lt hx hb hd ha (fun q => k0 ((iI_lt0 h1p h2p).mp q) hlen ls H locs cells slots hv0 hH hS hbc hbs) (fun q => k1 (Int.not_lt.mp fun z => q ((iI_lt0 h1p h2p).mpr z)) hlen ls H locs cells slots hv0 hH hS hbc hbs)
  · cases hk
theorem sd_ifge (X : vCx p Rm s mid args meth c r m d G lt) : vk_ifge C m R (vSm p l e Rm s mid args below meth c Qf G lt) := by
  obtain ⟨hx, hb, hml, hown, hts, hw, hrt, hnm, hm, hr, hfr, hlo, hsz⟩ := X
  intro pc nx lv st h bc bs a x hc h1p h2p k0 k1 hlen ls H locs cells slots hv0 hH hS hbc hbs
  obtain ⟨ins, len, i, hd, hk, rfl⟩ := vlk_ok hm hr hc
  rw [vq_73] at hk
  split at hk
  · obtain ⟨ha, rfl⟩ := of_decide_eq_true hk
    exact lv_if_ge hx hb hd ha (fun q => k0 ((iI_ge0 h1p h2p).mp q) hlen ls H locs cells slots hv0 hH hS hbc hbs) (fun q => k1 (Int.not_le.mp fun z => q ((iI_ge0 h1p h2p).mpr z)) hlen ls H locs cells slots hv0 hH hS hbc hbs)
  · cases hk
theorem sd_ifgt (X : vCx p Rm s mid args meth c r m d G lt) : vk_ifgt C m R (vSm p l e Rm s mid args below meth c Qf G lt) := by
  obtain ⟨hx, hb, hml, hown, hts, hw, hrt, hnm, hm, hr, hfr, hlo, hsz⟩ := X
  intro pc nx lv st h bc bs a x hc h1p h2p k0 k1 hlen ls H locs cells slots hv0 hH hS hbc hbs
  obtain ⟨ins, len, i, hd, hk, rfl⟩ := vlk_ok hm hr hc
  rw [vq_74] at hk
  split at hk
  · obtain ⟨ha, rfl⟩ := of_decide_eq_true hk
    exact lv_if_gt hx hb hd ha (fun q => k0 ((iI_gt0 h1p h2p).mp q) hlen ls H locs cells slots hv0 hH hS hbc hbs) (fun q => k1 (Int.not_lt.mp fun z => q ((iI_gt0 h1p h2p).mpr z)) hlen ls H locs cells slots hv0 hH hS hbc hbs)
  · cases hk
theorem sd_ifle (X : vCx p Rm s mid args meth c r m d G lt) : vk_ifle C m R (vSm p l e Rm s mid args below meth c Qf G lt) := by
  obtain ⟨hx, hb, hml, hown, hts, hw, hrt, hnm, hm, hr, hfr, hlo, hsz⟩ := X
  intro pc nx lv st h bc bs a x hc h1p h2p k0 k1 hlen ls H locs cells slots hv0 hH hS hbc hbs
  obtain ⟨ins, len, i, hd, hk, rfl⟩ := vlk_ok hm hr hc
  rw [vq_75] at hk
  split at hk
  · obtain ⟨ha, rfl⟩ := of_decide_eq_true hk
    exact lv_if_le hx hb hd ha (fun q => k0 ((iI_le0 h1p h2p).mp q) hlen ls H locs cells slots hv0 hH hS hbc hbs) (fun q => k1 (Int.not_le.mp fun z => q ((iI_le0 h1p h2p).mpr z)) hlen ls H locs cells slots hv0 hH hS hbc hbs)
  · cases hk
theorem sd_iceq (X : vCx p Rm s mid args meth c r m d G lt) : vk_iceq C m R (vSm p l e Rm s mid args below meth c Qf G lt) := by
  obtain ⟨hx, hb, hml, hown, hts, hw, hrt, hnm, hm, hr, hfr, hlo, hsz⟩ := X
  intro pc nx lv st h bc bs a x y hc h1p h2p h3p h4p k0 k1 hlen ls H locs cells slots hv0 hH hS hbc hbs
  obtain ⟨ins, len, i, hd, hk, rfl⟩ := vlk_ok hm hr hc
  rw [vq_76] at hk
  split at hk
  · obtain ⟨ha, rfl⟩ := of_decide_eq_true hk
    exact lv_icmp_eq hx hb hd ha (fun q => k0 ((iI_eq h1p h2p h3p h4p).mp q) hlen ls H locs cells slots hv0 hH hS hbc hbs) (fun q => k1 (id fun z => q ((iI_eq h1p h2p h3p h4p).mpr z)) hlen ls H locs cells slots hv0 hH hS hbc hbs)
  · cases hk
theorem sd_icne (X : vCx p Rm s mid args meth c r m d G lt) : vk_icne C m R (vSm p l e Rm s mid args below meth c Qf G lt) := by
  obtain ⟨hx, hb, hml, hown, hts, hw, hrt, hnm, hm, hr, hfr, hlo, hsz⟩ := X
  intro pc nx lv st h bc bs a x y hc h1p h2p h3p h4p k0 k1 hlen ls H locs cells slots hv0 hH hS hbc hbs
  obtain ⟨ins, len, i, hd, hk, rfl⟩ := vlk_ok hm hr hc
  rw [vq_77] at hk
  split at hk
  · obtain ⟨ha, rfl⟩ := of_decide_eq_true hk
    exact lv_icmp_ne hx hb hd ha (fun q => k0 (fun z => q ((iI_eq h1p h2p h3p h4p).mpr z)) hlen ls H locs cells slots hv0 hH hS hbc hbs) (fun q => k1 ((iI_eq h1p h2p h3p h4p).mp q) hlen ls H locs cells slots hv0 hH hS hbc hbs)
  · cases hk
theorem sd_iclt (X : vCx p Rm s mid args meth c r m d G lt) : vk_iclt C m R (vSm p l e Rm s mid args below meth c Qf G lt) := by
  obtain ⟨hx, hb, hml, hown, hts, hw, hrt, hnm, hm, hr, hfr, hlo, hsz⟩ := X
  intro pc nx lv st h bc bs a x y hc h1p h2p h3p h4p k0 k1 hlen ls H locs cells slots hv0 hH hS hbc hbs
  obtain ⟨ins, len, i, hd, hk, rfl⟩ := vlk_ok hm hr hc
  rw [vq_78] at hk
  split at hk
  · obtain ⟨ha, rfl⟩ := of_decide_eq_true hk
    exact lv_icmp_lt hx hb hd ha (fun q => k0 ((iI_lt h1p h2p h3p h4p).mp q) hlen ls H locs cells slots hv0 hH hS hbc hbs) (fun q => k1 (Int.not_lt.mp fun z => q ((iI_lt h1p h2p h3p h4p).mpr z)) hlen ls H locs cells slots hv0 hH hS hbc hbs)
  · cases hk
theorem sd_icge (X : vCx p Rm s mid args meth c r m d G lt) : vk_icge C m R (vSm p l e Rm s mid args below meth c Qf G lt) := by
  obtain ⟨hx, hb, hml, hown, hts, hw, hrt, hnm, hm, hr, hfr, hlo, hsz⟩ := X
  intro pc nx lv st h bc bs a x y hc h1p h2p h3p h4p k0 k1 hlen ls H locs cells slots hv0 hH hS hbc hbs
  obtain ⟨ins, len, i, hd, hk, rfl⟩ := vlk_ok hm hr hc
  rw [vq_79] at hk
  split at hk
  · obtain ⟨ha, rfl⟩ := of_decide_eq_true hk
    exact lv_icmp_ge hx hb hd ha (fun q => k0 ((iI_le h3p h4p h1p h2p).mp q) hlen ls H locs cells slots hv0 hH hS hbc hbs) (fun q => k1 (Int.not_le.mp fun z => q ((iI_le h3p h4p h1p h2p).mpr z)) hlen ls H locs cells slots hv0 hH hS hbc hbs)
  · cases hk
theorem sd_icgt (X : vCx p Rm s mid args meth c r m d G lt) : vk_icgt C m R (vSm p l e Rm s mid args below meth c Qf G lt) := by
  obtain ⟨hx, hb, hml, hown, hts, hw, hrt, hnm, hm, hr, hfr, hlo, hsz⟩ := X
  intro pc nx lv st h bc bs a x y hc h1p h2p h3p h4p k0 k1 hlen ls H locs cells slots hv0 hH hS hbc hbs
  obtain ⟨ins, len, i, hd, hk, rfl⟩ := vlk_ok hm hr hc
  rw [vq_80] at hk
  split at hk
  · obtain ⟨ha, rfl⟩ := of_decide_eq_true hk
    exact lv_icmp_gt hx hb hd ha (fun q => k0 ((iI_lt h3p h4p h1p h2p).mp q) hlen ls H locs cells slots hv0 hH hS hbc hbs) (fun q => k1 (Int.not_lt.mp fun z => q ((iI_lt h3p h4p h1p h2p).mpr z)) hlen ls H locs cells slots hv0 hH hS hbc hbs)
  · cases hk
theorem sd_icle (X : vCx p Rm s mid args meth c r m d G lt) : vk_icle C m R (vSm p l e Rm s mid args below meth c Qf G lt) := by
  obtain ⟨hx, hb, hml, hown, hts, hw, hrt, hnm, hm, hr, hfr, hlo, hsz⟩ := X
  intro pc nx lv st h bc bs a x y hc h1p h2p h3p h4p k0 k1 hlen ls H locs cells slots hv0 hH hS hbc hbs
  obtain ⟨ins, len, i, hd, hk, rfl⟩ := vlk_ok hm hr hc
  rw [vq_81] at hk
  split at hk
  · obtain ⟨ha, rfl⟩ := of_decide_eq_true hk
    exact lv_icmp_le hx hb hd ha (fun q => k0 ((iI_le h1p h2p h3p h4p).mp q) hlen ls H locs cells slots hv0 hH hS hbc hbs) (fun q => k1 (Int.not_le.mp fun z => q ((iI_le h1p h2p h3p h4p).mpr z)) hlen ls H locs cells slots hv0 hH hS hbc hbs)
  · cases hk
theorem vsp_in : ∀ (pc : Nat) (lo : Int) (offs : List Int) (d : Nat) (x : Int), (offs.all fun o => decide (0 ≤ (pc : Int) + o)) = true → lo ≤ x → x < lo + offs.length → ∃ off, offs[(x - lo).toNat]? = some off ∧ (pc : Int) + off = (vfd (vsp pc lo offs) d x : Int)
  | pc, lo, [], d, x, _, h1, h2 => by simp at h2; omega
  | pc, lo, o :: l, d, x, h, h1, h2 => by
    simp only [List.all_cons, Bool.and_eq_true, decide_eq_true_eq] at h
    by_cases e : x = lo
    · subst e
      refine ⟨o, by simp, ?_⟩
      show _ = ((if x = x then ((pc : Int) + o).toNat else _ : Nat) : Int)
      rw [if_pos rfl]; omega
    · obtain ⟨off, g1, g2⟩ := vsp_in pc (lo + 1) l d x h.2 (by omega) (by simp at h2; omega)
      refine ⟨off, ?_, ?_⟩
      · rw [show (x - lo).toNat = (x - (lo + 1)).toNat + 1 by omega]
        simpa using g1
      · show _ = ((if x = lo then _ else vfd (vsp pc (lo + 1) l) d x : Nat) : Int)
        rw [if_neg e]; exact g2
theorem vsp_out : ∀ (pc : Nat) (lo : Int) (offs : List Int) (d : Nat) (x : Int), (x < lo ∨ lo + offs.length ≤ x) → vfd (vsp pc lo offs) d x = d
  | _, _, [], _, _, _ => rfl
  | pc, lo, o :: l, d, x, h => by
    show (if x = lo then _ else vfd (vsp pc (lo + 1) l) d x) = d
    rw [if_neg (by simp at h; omega)]
    exact vsp_out pc (lo + 1) l d x (by simp at h; omega)
theorem vps_of : ∀ (pc : Nat) (ps : List (Int × Int)) (d : Nat) (dd : Int) (x : Int), (ps.all fun o => decide (0 ≤ (pc : Int) + o.2)) = true → (pc : Int) + dd = (d : Int) → (pc : Int) + Op.lookupswitch.offset ps dd x = (vfd (vps pc ps) d x : Int)
  | pc, [], d, dd, x, _, hd => by simpa [vps, vfd, Op.lookupswitch.offset] using hd
  | pc, (k, o) :: l, d, dd, x, h, hd => by
    simp only [List.all_cons, Bool.and_eq_true, decide_eq_true_eq] at h
    rw [Op.lookupswitch.offset_cons]
    show _ = ((if x = k then ((pc : Int) + o).toNat else vfd (vps pc l) d x : Nat) : Int)
    by_cases e : x = k
    · rw [if_pos e, if_pos e.symm]; omega
    · rw [if_neg e, if_neg (fun q => e q.symm)]
      exact vps_of pc l d dd x h.2 hd
theorem sd_sw (X : vCx p Rm s mid args meth c r m d G lt) : vk_sw C m R (vSm p l e Rm s mid args below meth c Qf G lt) := by
  obtain ⟨hx, hb, hml, hown, hts, hw, hrt, hnm, hm, hr, hfr, hlo, hsz⟩ := X
  intro pc nx lv st h bc bs a b x ps d hc hsp h1p h2p k0 hlen ls H locs cells slots hv0 hH hS hbc hbs
  obtain ⟨ins, len, i, hd, hk, rfl⟩ := vlk_ok hm hr hc
  rw [vq_67, hsp] at hk
  have e1 := iI_toInt h1p h2p
  simp only at hk
  split at hk
  · rename_i dd lo hi offs
    obtain ⟨q1, q2, q3, q4⟩ := of_decide_eq_true hk
    by_cases hin : lo ≤ x ∧ x < lo + offs.toList.length
    · obtain ⟨off, g1, g2⟩ := vsp_in pc lo offs.toList d x q4 hin.1 hin.2
      rw [← q1] at g2
      exact lv_tableIn hx hb hd (by rw [e1]; omega) (by rw [e1]; omega) (by rw [e1]; simpa using g1) g2 (k0 hlen ls H locs cells slots hv0 hH hS hbc hbs)
    · have g := vsp_out pc lo offs.toList d x (by omega)
      rw [← q1] at g
      rw [g] at k0
      exact lv_tableOut hx hb hd (by rw [e1]; omega) q2 (k0 hlen ls H locs cells slots hv0 hH hS hbc hbs)
  · rename_i dd qs
    obtain ⟨q1, q2, q3, q4⟩ := of_decide_eq_true hk
    have g := vps_of pc qs.toList d dd x q3 q2
    rw [← q1] at g
    exact lv_lookup hx hb hd q4 (by rw [e1]) g (k0 hlen ls H locs cells slots hv0 hH hS hbc hbs)
  · cases hk
end SD1
end
section

theorem vcls : ∀ (ci : Nat) (q : vw_C), vwCl[ci]? = some q → (∀ w ∈ u_ws q.1 q.2.1 q.2.2, w ∈ vT1) ∧ (∀ k, k < q.2.2 → parseFieldDescriptor (q.2.1 k).2.2.1 = some (vtyx ci k)) ∧ (∀ a, a < q.2.2 → ∀ b, b < q.2.2 → a ≠ b → (q.2.1 a).2.1 ≠ (q.2.1 b).2.1) := by
  have go : ∀ ws : List Jvm.Cond, (∀ w ∈ ws, w ∈ lw_tbl ∧ goodWord w = true) → ∀ w ∈ ws, w ∈ vT1 := fun ws h w hw => vT1_of (h w hw).1 (h w hw).2
  intro ci q hq
  match ci, hq with
  | 0, hq => cases hq; exact ⟨go _ (by decide +kernel), tyX0_ok, nmX0⟩
  | 1, hq => cases hq; exact ⟨go _ (by decide +kernel), tyX1_ok, nmX1⟩
  | 2, hq => cases hq; exact ⟨go _ (by decide +kernel), tyX2_ok, nmX2⟩
  | 3, hq => cases hq; exact ⟨go _ (by decide +kernel), tyX3_ok, nmX3⟩
  | 4, hq => cases hq; exact ⟨go _ (by decide +kernel), tyX4_ok, nmX4⟩
  | 5, hq => cases hq; exact ⟨go _ (by decide +kernel), tyX5_ok, nmX5⟩
  | 6, hq => cases hq; exact ⟨go _ (by decide +kernel), tyX6_ok, nmX6⟩
  | k + 7, hq => simp [vwCl] at hq
theorem vgt_get : ∀ (l : List Value) (i : Nat), vgt l i = l[i]?
  | [], _ => by simp [vgt]
  | _ :: _, 0 => by simp [vgt]
  | _ :: l, i + 1 => by simp [vgt, vgt_get l i]
theorem vst_set : ∀ (l : List Value) (i : Nat) (v : Value), vst l i v = l.set i v
  | [], _, _ => by simp [vst]
  | _ :: _, 0, _ => by simp [vst]
  | _ :: l, i + 1, v => by simp [vst, vst_set l i v]
theorem vP1 {D : va_G} {cl : List vw_C} {q : Nat × va_E} {H : Heap} (h : va_at D cl q H) : va_P D cl [q] H := by
  intro k x hx
  have h0 : k < 1 := (List.getElem?_eq_some_iff.mp hx).1
  rw [show k = 0 by omega] at hx
  cases hx
  exact h
def vwr (h : vHp) (a : Nat) (x : vE) : vHp := (h.1, h.2.1, fun q => if q = a then some x else h.2.2 q)
theorem vwr_St (h : vHp) (a : Nat) (x : vE) : vSt h (vwr h a x) a x := ⟨rfl, rfl, by simp [vwr, hg], fun q hq => by simp [vwr, hg, hq]⟩
theorem vHl_put {G : vG} {lt : Nat × Nat} {h : vHp} {H H1 : Heap} {a : Nat} {x : vE} (hH : vHl G lt h H) (z : H1.size = H.size) (oq : ∀ q : Nat, q ≠ a → H1[q]? = H[q]?) (hat : va_at (G.1, G.2.1) vwCl (a, vcv G.2.2 x) H1) (hn : ∀ τ n d, x = .inl (τ, n, d) → n < 2147483648) : vHl G lt (vwr h a x) H1 := by
  obtain ⟨h1, h2, h3, h4⟩ := hH
  refine ⟨h1, h2.trans z.symm, by rw [z]; exact h3, fun q y hq => ?_⟩
  by_cases e : q = a
  · subst e
    simp [vwr, hg] at hq
    subst hq
    exact ⟨hat, hn⟩
  · have hq' : hg h q = some y := by simpa [vwr, hg, e] using hq
    obtain ⟨g1, g2⟩ := h4 q y hq'
    exact ⟨g1.kept (oq q e), g2⟩
def vmk (h : vHp) (x : vE) : vHp := (h.1, h.2.1 + 1, fun q => if q = h.2.1 then some x else h.2.2 q)
theorem vmk_Nw (h : vHp) (x : vE) : vNw h (vmk h x) x := ⟨rfl, rfl, by simp [vmk, hg], fun q hq => by simp [vmk, hg, hq]⟩
theorem vHl_new {G : vG} {lt : Nat × Nat} {h : vHp} {H H1 : Heap} {x : vE} (hH : vHl G lt h H) (z : H1.size = H.size + 1) (oq : ∀ q : Nat, q < H.size → H1[q]? = H[q]?) (hat : va_at (G.1, G.2.1) vwCl (H.size, vcv G.2.2 x) H1) (hn : ∀ τ n d, x = .inl (τ, n, d) → n < 2147483648) : vHl G lt (vmk h x) H1 := by
  obtain ⟨h1, h2, h3, h4⟩ := hH
  refine ⟨h1, by show h.2.1 + 1 = _; rw [h2, z], by rw [z]; omega, fun q y hq => ?_⟩
  by_cases e : q = h.2.1
  · subst e
    simp [vmk, hg] at hq
    subst hq
    rw [h2]
    exact ⟨hat, hn⟩
  · have hq' : hg h q = some y := by simpa [vmk, hg, e] using hq
    obtain ⟨g1, g2⟩ := h4 q y hq'
    exact ⟨g1.kept (oq q g1.lt), g2⟩
theorem vS_new {A : Nat → Prop} {H0 H H1 : Heap} {locs : List Loc} (hS : va_S A H0 H locs) (z : H1.size = H.size + 1) (oq : ∀ q : Nat, q < H.size → H1[q]? = H[q]?) : va_S A H0 H1 locs :=
  ⟨Nat.le_trans hS.1 (by omega), fun x h1 h2 => (oq x (Nat.lt_of_lt_of_le h1 hS.1)).trans (hS.2.1 x h1 h2), hS.2.2⟩
section SD2
variable {p : Program} {l : Launch} {e : Env} {Rm : Room} {s : State} {mid : MethodId} {args : Array Value} {below : List Frame} {meth : Method} {c : Code} {Qf : State → Prop} {G : vG} {lt : Nat × Nat} {r : vNr} {m d : Nat} {C : vCt} {R : vQ}
theorem sd_get (X : vCx p Rm s mid args meth c r m d G lt) : vk_get C m R (vSm p l e Rm s mid args below meth c Qf G lt) := by
  obtain ⟨hx, hb, hml, hown, hts, hw, hrt, hnm, hm, hr, hfr, hlo, hsz⟩ := X
  have hK := hw.1
  intro pc nx lv st h bc bs ci k a fs v hc hop hvp k0 hlen ls H locs cells slots hv0 hH hS hbc hbs
  obtain ⟨ins, len, i, hd, hk, rfl⟩ := vlk_ok hm hr hc
  obtain ⟨hH1, hH2, hH3, hH4⟩ := id hH
  rw [vq_42] at hk
  split at hk
  · rename_i x
    unfold vckc at hk
    cases hq : vwCl[ci]? with
    | none => rw [hq] at hk; cases hk
    | some q =>
      rw [hq] at hk
      obtain ⟨Cn, T, N⟩ := q
      simp only [Bool.and_eq_true, decide_eq_true_eq] at hk
      obtain ⟨hws, hty, hap0⟩ := vcls ci _ hq
      have hat : va_at (G.1, G.2.1) vwCl (a, .inr (ci, fs)) H := (hH4 _ _ hop).1
      have hin : ∀ w ∈ u_ws Cn T N, w ∈ vT1 := hws
      obtain ⟨⟨⟨g1, g2⟩, g3⟩, rfl⟩ := hk
      exact va_get (D := (G.1, G.2.1)) (ci := ci) (C := Cn) (T := T) (N := N) hx hb hts hin hown hK (vP1 hat) 0 rfl hq k g1 (hts _ (vT1_of (vis_eq g3) rfl)) (fun _ h9 => by rw [g2] at h9; exact h9) (by rw [← vgt_get]; exact hvp) hd (k0 hlen ls H locs cells slots hv0 hH hS hbc hbs)
  · cases hk
theorem sd_put (X : vCx p Rm s mid args meth c r m d G lt) : vk_put C m R (vSm p l e Rm s mid args below meth c Qf G lt) := by
  obtain ⟨hx, hb, hml, hown, hts, hw, hrt, hnm, hm, hr, hfr, hlo, hsz⟩ := X
  have hK := hw.1
  intro pc nx lv st h bc bs ci k a fs v u hc hop hlop hup hfp k0 hlen ls H locs cells slots hv0 hH hS hbc hbs
  obtain ⟨ins, len, i, hd, hk, rfl⟩ := vlk_ok hm hr hc
  obtain ⟨hH1, hH2, hH3, hH4⟩ := id hH
  rw [vq_43] at hk
  split at hk
  · rename_i x
    unfold vckc at hk
    cases hq : vwCl[ci]? with
    | none => rw [hq] at hk; cases hk
    | some q =>
      rw [hq] at hk
      obtain ⟨Cn, T, N⟩ := q
      simp only [Bool.and_eq_true, decide_eq_true_eq] at hk
      obtain ⟨hws, hty, hap0⟩ := vcls ci _ hq
      have hat : va_at (G.1, G.2.1) vwCl (a, .inr (ci, fs)) H := (hH4 _ _ hop).1
      have hin : ∀ w ∈ u_ws Cn T N, w ∈ vT1 := hws
      obtain ⟨⟨⟨⟨g1, g2⟩, g3⟩, rfl⟩, g4⟩ := hk
      have hkl : k < fs.length := vgt_lt hup
      have hapt := va_apart (own := r.1.cls) hts hin (vtyx ci) hty hap0 hK hq
      obtain ⟨r0, e0, cell, q1, q2, q3, q4⟩ := hat
      have hr0 : r0 = (Cn, T, N) := Option.some.inj (e0.symm.trans hq)
      subst hr0
      obtain ⟨hS', hfc, kC, hkC, hkind⟩ := hK.1 ci _ hq
      obtain ⟨cf, kf, fi, f, hi, hsl⟩ := hS' k g1
      have hlay := hts _ (hin _ (u_in_lay g1))
      unfold u_lay at hlay
      rw [if_neg (by rw [g4]; decide)] at hlay
      have hst := (u_facts hfc hkC (u_lays hts hin g1) hi).1
      have h6 := u_store hfc hkC hkind hlay hi (hty k g1) hfp.1 hfp.2
      refine W.putK hx hb (f := f) ⟨hown, hts _ (vT1_of (vis_eq g3) rfl), ⟨_, _, _, by have h9 := hi; rw [g2] at h9; exact h9⟩, hst⟩ (by rw [q2]; exact h6) q1 q3 (by rw [hsl]; exact k2_hasslot (q4 k g1)) rfl rfl hd fun H1 e1 e2 e3 => ?_
      rw [hsl] at e1 ⊢
      have hnew : va_at (G.1, G.2.1) vwCl (a, .inr (ci, vst fs k v)) H1 := ⟨_, hq, by rw [vst_set]; exact t_OB.to (V := updV (vp_V fs) k v) ⟨_, e1, q2, q3, t_set q4 hapt g1 v⟩ (fun j _ => vp_updV_set hkl v j)⟩
      exact k0 (vwr h a (.inr (ci, vst fs k v))) (vwr_St _ _ _) hlen ls H1 _ cells slots hv0 (vHl_put hH e2 e3 hnew (fun _ _ _ z => by cases z)) (hS.put e2 e3 (by rw [hH1] at hlop; exact hlop)) hbc hbs
  · cases hk
theorem sd_putF (X : vCx p Rm s mid args meth c r m d G lt) : vk_putF C m R (vSm p l e Rm s mid args below meth c Qf G lt) := by
  obtain ⟨hx, hb, hml, hown, hts, hw, hrt, hnm, hm, hr, hfr, hlo, hsz⟩ := X
  have hK := hw.1
  intro pc nx lv st h bc bs ci k a fs v u hc hop hlop hup hfp k0 hlen ls H locs cells slots hv0 hH hS hbc hbs
  obtain ⟨ins, len, i, hd, hk, rfl⟩ := vlk_ok hm hr hc
  obtain ⟨hH1, hH2, hH3, hH4⟩ := id hH
  rw [vq_68] at hk
  split at hk
  · rename_i x
    unfold vckc at hk
    cases hq : vwCl[ci]? with
    | none => rw [hq] at hk; cases hk
    | some q =>
      rw [hq] at hk
      obtain ⟨Cn, T, N⟩ := q
      simp only [Bool.and_eq_true, decide_eq_true_eq] at hk
      obtain ⟨hws, hty, hap0⟩ := vcls ci _ hq
      have hat : va_at (G.1, G.2.1) vwCl (a, .inr (ci, fs)) H := (hH4 _ _ hop).1
      have hin : ∀ w ∈ u_ws Cn T N, w ∈ vT1 := hws
      obtain ⟨⟨⟨⟨⟨⟨g1, g2⟩, g3⟩, rfl⟩, g4⟩, g5⟩, g6⟩ := hk
      have hkl : k < fs.length := vgt_lt hup
      have hapt := va_apart (own := r.1.cls) hts hin (vtyx ci) hty hap0 hK hq
      obtain ⟨r0, e0, cell, q1, q2, q3, q4⟩ := hat
      have hr0 : r0 = (Cn, T, N) := Option.some.inj (e0.symm.trans hq)
      subst hr0
      obtain ⟨hS', hfc, kC, hkC, hkind⟩ := hK.1 ci _ hq
      obtain ⟨cf, kf, fi, f, hi, hsl⟩ := hS' k g1
      have hlay := hts _ (hin _ (u_in_lay g1))
      unfold u_lay at hlay
      rw [if_pos g4] at hlay
      have hst := (u_facts hfc hkC (u_lays hts hin g1) hi).1
      have hcf : mid.cls = cf := by
        obtain ⟨_, _, c', _, _, _, -, -, hf', -, -, -, hown2, -⟩ := Cond.laysFinal_spec hlay
        have e1 : c' = cf := by have := hi.symm.trans hf'; simp at this; exact this.1.symm
        rw [g2, ← g5] at hown2
        rw [← e1]; exact Option.some.inj (hown.symm.trans hown2)
      have h6 := u_fits hfc hkC hkind (Or.inr hlay) hi (hty k g1) hfp.1 hfp.2
      refine W.putFinK hx hb hown (hts _ (vT1_of (vis_eq g3) rfl)) (by have h9 := hi; rw [g2] at h9; exact h9) hst hcf (by rw [hnm]; exact g6) (by rw [q2]; exact h6) q1 q3 (by rw [hsl]; exact k2_hasslot (q4 k g1)) rfl rfl hd fun H1 e1 e2 e3 => ?_
      rw [hsl] at e1 ⊢
      have hnew : va_at (G.1, G.2.1) vwCl (a, .inr (ci, vst fs k v)) H1 := ⟨_, hq, by rw [vst_set]; exact t_OB.to (V := updV (vp_V fs) k v) ⟨_, e1, q2, q3, t_set q4 hapt g1 v⟩ (fun j _ => vp_updV_set hkl v j)⟩
      exact k0 (vwr h a (.inr (ci, vst fs k v))) (vwr_St _ _ _) hlen ls H1 _ cells slots hv0 (vHl_put hH e2 e3 hnew (fun _ _ _ z => by cases z)) (hS.put e2 e3 (by rw [hH1] at hlop; exact hlop)) hbc hbs
  · cases hk
theorem sd_gets (X : vCx p Rm s mid args meth c r m d G lt) : vk_gets C m R (vSm p l e Rm s mid args below meth c Qf G lt) := by
  obtain ⟨hx, hb, hml, hown, hts, hw, hrt, hnm, hm, hr, hfr, hlo, hsz⟩ := X
  have hK := hw.1
  intro pc nx lv st h bc bs b hc  k0 hlen ls H locs cells slots hv0 hH hS hbc hbs
  obtain ⟨ins, len, i, hd, hk, rfl⟩ := vlk_ok hm hr hc
  obtain ⟨hH1, hH2, hH3, hH4⟩ := id hH
  rw [vq_44] at hk
  split at hk
  · obtain ⟨g1, g2⟩ := Bool.and_eq_true_iff.mp hk
    have g2 := of_decide_eq_true g2
    subst g2
    rw [hH1] at k0
    by_cases hb0 : b = 0
    · rw [if_pos hb0] at g1
      exact va_gets hx hb hw.2.1 hS hown (hts _ (vT1_of (vis_eq g1) rfl)) (fun _ h9 => h9) hd (k0 hlen ls H locs cells slots hv0 hH hS hbc hbs)
    · rw [if_neg hb0] at g1
      exact va_getsN hx hb hw.2.1 hS hown (va_Nw.use rfl (hw.2.2.1 _ (vT2_of (vis_eq g1) rfl))) (fun _ h9 => h9) hd (k0 hlen ls H locs cells slots hv0 hH hS hbc hbs)
  · cases hk
theorem sd_iald (X : vCx p Rm s mid args meth c r m d G lt) : vk_iald C m R (vSm p l e Rm s mid args below meth c Qf G lt) := by
  obtain ⟨hx, hb, hml, hown, hts, hw, hrt, hnm, hm, hr, hfr, hlo, hsz⟩ := X
  have hK := hw.1
  intro pc nx lv st h bc bs x a n f hc hop h1p h2p k0 hlen ls H locs cells slots hv0 hH hS hbc hbs
  obtain ⟨ins, len, i, hd, hk, rfl⟩ := vlk_ok hm hr hc
  obtain ⟨hH1, hH2, hH3, hH4⟩ := id hH
  rw [vq_45] at hk
  obtain ⟨rfl, rfl⟩ := of_decide_eq_true hk
  have hat : va_at (G.1, G.2.1) vwCl (a, .inl (G.2.2 0, n, .inl fun i => iI (f i))) H := (hH4 _ _ hop).1
  have hn := (hH4 _ _ hop).2 _ _ _ rfl
  refine va_iald (D := (G.1, G.2.1)) hx hb hK (vP1 hat) 0 0 rfl rfl (iI_in h1p h2p hn) hd ?_
  have e1 : (iI x).toNatClampNeg = x.toNat := iI_nat (by omega) (by omega)
  rw [e1]
  exact k0 hlen ls H locs cells slots hv0 hH hS hbc hbs
theorem sd_lald (X : vCx p Rm s mid args meth c r m d G lt) : vk_lald C m R (vSm p l e Rm s mid args below meth c Qf G lt) := by
  obtain ⟨hx, hb, hml, hown, hts, hw, hrt, hnm, hm, hr, hfr, hlo, hsz⟩ := X
  have hK := hw.1
  intro pc nx lv st h bc bs x a n f hc hop h1p h2p k0 hlen ls H locs cells slots hv0 hH hS hbc hbs
  obtain ⟨ins, len, i, hd, hk, rfl⟩ := vlk_ok hm hr hc
  obtain ⟨hH1, hH2, hH3, hH4⟩ := id hH
  rw [vq_46] at hk
  obtain ⟨rfl, rfl⟩ := of_decide_eq_true hk
  have hat : va_at (G.1, G.2.1) vwCl (a, .inl (G.2.2 1, n, .inr (.inl fun i => lZ (f i)))) H := (hH4 _ _ hop).1
  have hn := (hH4 _ _ hop).2 _ _ _ rfl
  refine va_lald (D := (G.1, G.2.1)) hx hb hK (vP1 hat) 0 1 rfl rfl (iI_in h1p h2p hn) hd ?_
  have e1 : (iI x).toNatClampNeg = x.toNat := iI_nat (by omega) (by omega)
  rw [e1]
  exact k0 hlen ls H locs cells slots hv0 hH hS hbc hbs
theorem sd_bald (X : vCx p Rm s mid args meth c r m d G lt) : vk_bald C m R (vSm p l e Rm s mid args below meth c Qf G lt) := by
  obtain ⟨hx, hb, hml, hown, hts, hw, hrt, hnm, hm, hr, hfr, hlo, hsz⟩ := X
  have hK := hw.1
  intro pc nx lv st h bc bs x a n f hc hop h1p h2p k0 hlen ls H locs cells slots hv0 hH hS hbc hbs
  obtain ⟨ins, len, i, hd, hk, rfl⟩ := vlk_ok hm hr hc
  obtain ⟨hH1, hH2, hH3, hH4⟩ := id hH
  rw [vq_47] at hk
  obtain ⟨rfl, rfl⟩ := of_decide_eq_true hk
  have hat : va_at (G.1, G.2.1) vwCl (a, .inl (G.2.2 2, n, .inl fun i => iI (f i))) H := (hH4 _ _ hop).1
  have hn := (hH4 _ _ hop).2 _ _ _ rfl
  refine va_zald (D := (G.1, G.2.1)) hx hb hK (vP1 hat) 0 2 rfl rfl (iI_in h1p h2p hn) hd ?_
  have e1 : (iI x).toNatClampNeg = x.toNat := iI_nat (by omega) (by omega)
  rw [e1]
  exact k0 hlen ls H locs cells slots hv0 hH hS hbc hbs
theorem vtys_at {G : vG} {s : State} (hK : va_K (G.1, G.2.1) vwCl (vtys G.2.2) s) : ∀ τ : Nat, 3 ≤ τ → τ < 7 → ∃ ty : FieldType, ty.isReference = true ∧ ArrOfT s (G.2.2 τ) ty
  | 3, _, _ => ⟨_, rfl, (hK.2 3 _ rfl).1⟩
  | 4, _, _ => ⟨_, rfl, (hK.2 4 _ rfl).1⟩
  | 5, _, _ => ⟨_, rfl, (hK.2 5 _ rfl).1⟩
  | 6, _, _ => ⟨_, rfl, (hK.2 6 _ rfl).1⟩
  | 0, h, _ => absurd h (by omega)
  | 1, h, _ => absurd h (by omega)
  | 2, h, _ => absurd h (by omega)
  | τ + 7, _, h => absurd h (by omega)
theorem sd_aald (X : vCx p Rm s mid args meth c r m d G lt) : vk_aald C m R (vSm p l e Rm s mid args below meth c Qf G lt) := by
  obtain ⟨hx, hb, hml, hown, hts, hw, hrt, hnm, hm, hr, hfr, hlo, hsz⟩ := X
  have hK := hw.1
  intro pc nx lv st h bc bs x a n τ pp rr hc hop htp h1p h2p hrp k0 hlen ls H locs cells slots hv0 hH hS hbc hbs
  obtain ⟨ins, len, i, hd, hk, rfl⟩ := vlk_ok hm hr hc
  obtain ⟨hH1, hH2, hH3, hH4⟩ := id hH
  rw [vq_48] at hk
  obtain ⟨rfl, rfl⟩ := of_decide_eq_true hk
  have hat : va_at (G.1, G.2.1) vwCl (a, .inl (G.2.2 τ, n, .inr (.inr (.inr (.inr pp))))) H := (hH4 _ _ hop).1
  have hn := (hH4 _ _ hop).2 _ _ _ rfl
  obtain ⟨ty, hre, hty⟩ := vtys_at hK τ htp.1 htp.2
  have e1 : (iI x).toNatClampNeg = x.toNat := iI_nat (by omega) (by omega)
  have hin := iI_in h1p h2p hn
  have hlt : (iI x).toNatClampNeg < n := by rw [e1]; omega
  refine W.aald (v := .ref rr) (ty := ty) hx hb hat (hty n (fun j => va_rf (pp j))) hre (fun q => by cases q) (by show ¬ (iI x < 0 ∨ (arrV _ _ _).slots.size ≤ _); rw [arrV_size]; exact hin) (by show (arrV _ _ _).slots[_]? = _; rw [arrV_read _ _ hlt, e1, hrp]; rfl) rfl rfl hd ?_
  exact k0 hlen ls H locs cells slots hv0 hH hS hbc hbs
theorem sd_iast (X : vCx p Rm s mid args meth c r m d G lt) : vk_iast C m R (vSm p l e Rm s mid args below meth c Qf G lt) := by
  obtain ⟨hx, hb, hml, hown, hts, hw, hrt, hnm, hm, hr, hfr, hlo, hsz⟩ := X
  have hK := hw.1
  intro pc nx lv st h bc bs x y a n f hc hop hlop h1p h2p k0 hlen ls H locs cells slots hv0 hH hS hbc hbs
  obtain ⟨ins, len, i, hd, hk, rfl⟩ := vlk_ok hm hr hc
  obtain ⟨hH1, hH2, hH3, hH4⟩ := id hH
  rw [vq_49] at hk
  obtain ⟨rfl, rfl⟩ := of_decide_eq_true hk
  have hat : va_at (G.1, G.2.1) vwCl (a, .inl (G.2.2 0, n, .inl fun i => iI (f i))) H := (hH4 _ _ hop).1
  have hn := (hH4 _ _ hop).2 _ _ _ rfl
  have e1 : (iI x).toNatClampNeg = x.toNat := iI_nat (by omega) (by omega)
  have hin := iI_in h1p h2p hn
  refine W.iast hx hb hat ((hK.2 0 _ rfl).1 n (fun j => .int (iI (f j)))) (fun q => by cases q) (by show ¬ (iI x < 0 ∨ (arrV _ _ _).slots.size ≤ _); rw [arrV_size]; exact hin) rfl rfl hd fun H1 e z oq => ?_
  have hnew : va_at (G.1, G.2.1) vwCl (a, .inl (G.2.2 0, n, .inl fun i => iI ((vup f x.toNat y) i))) H1 := by
    show H1[a]? = some (vp_cell _ _)
    rw [e, e1]
    rw [vp_cell_i, vp_cell_i, arrV_store]
    congr 2
    funext q
    by_cases hq : q = x.toNat
    · subst hq
      simp [updV, vup]
    · simp [updV, vup, hq]
  exact k0 (vwr h a (.inl (0, n, .inl (vup f x.toNat y)))) (vwr_St _ _ _) hlen ls H1 _ cells slots hv0 (vHl_put hH z oq hnew (fun _ _ _ q => by cases q; exact hn)) (hS.put z oq (by rw [hH1] at hlop; exact hlop)) hbc hbs
theorem sd_last (X : vCx p Rm s mid args meth c r m d G lt) : vk_last C m R (vSm p l e Rm s mid args below meth c Qf G lt) := by
  obtain ⟨hx, hb, hml, hown, hts, hw, hrt, hnm, hm, hr, hfr, hlo, hsz⟩ := X
  have hK := hw.1
  intro pc nx lv st h bc bs x y a n f hc hop hlop h1p h2p k0 hlen ls H locs cells slots hv0 hH hS hbc hbs
  obtain ⟨ins, len, i, hd, hk, rfl⟩ := vlk_ok hm hr hc
  obtain ⟨hH1, hH2, hH3, hH4⟩ := id hH
  rw [vq_50] at hk
  obtain ⟨rfl, rfl⟩ := of_decide_eq_true hk
  have hat : va_at (G.1, G.2.1) vwCl (a, .inl (G.2.2 1, n, .inr (.inl fun i => lZ (f i)))) H := (hH4 _ _ hop).1
  have hn := (hH4 _ _ hop).2 _ _ _ rfl
  have e1 : (iI x).toNatClampNeg = x.toNat := iI_nat (by omega) (by omega)
  have hin := iI_in h1p h2p hn
  refine W.last hx hb hat ((hK.2 1 _ rfl).1 n (fun j => .long (lZ (f j)))) (fun q => by cases q) (by show ¬ (iI x < 0 ∨ (arrV _ _ _).slots.size ≤ _); rw [arrV_size]; exact hin) rfl rfl hd fun H1 e z oq => ?_
  have hnew : va_at (G.1, G.2.1) vwCl (a, .inl (G.2.2 1, n, .inr (.inl fun i => lZ ((vup f x.toNat y) i)))) H1 := by
    show H1[a]? = some (vp_cell _ _)
    rw [e, e1]
    rw [vp_cell_l, vp_cell_l, arrV_store]
    congr 2
    funext q
    by_cases hq : q = x.toNat
    · subst hq
      simp [updV, vup]
    · simp [updV, vup, hq]
  exact k0 (vwr h a (.inl (1, n, .inl (vup f x.toNat y)))) (vwr_St _ _ _) hlen ls H1 _ cells slots hv0 (vHl_put hH z oq hnew (fun _ _ _ q => by cases q; exact hn)) (hS.put z oq (by rw [hH1] at hlop; exact hlop)) hbc hbs
theorem sd_bast (X : vCx p Rm s mid args meth c r m d G lt) : vk_bast C m R (vSm p l e Rm s mid args below meth c Qf G lt) := by
  obtain ⟨hx, hb, hml, hown, hts, hw, hrt, hnm, hm, hr, hfr, hlo, hsz⟩ := X
  have hK := hw.1
  intro pc nx lv st h bc bs x y a n f hc hop hlop h1p h2p hyp k0 hlen ls H locs cells slots hv0 hH hS hbc hbs
  obtain ⟨ins, len, i, hd, hk, rfl⟩ := vlk_ok hm hr hc
  obtain ⟨hH1, hH2, hH3, hH4⟩ := id hH
  rw [vq_51] at hk
  obtain ⟨rfl, rfl⟩ := of_decide_eq_true hk
  have hat : va_at (G.1, G.2.1) vwCl (a, .inl (G.2.2 2, n, .inl fun i => iI (f i))) H := (hH4 _ _ hop).1
  have hn := (hH4 _ _ hop).2 _ _ _ rfl
  have e1 : (iI x).toNatClampNeg = x.toNat := iI_nat (by omega) (by omega)
  have hin := iI_in h1p h2p hn
  refine W.zast hx hb hat ((hK.2 2 _ rfl).1 n (fun j => .int (iI (f j)))) (fun q => by cases q) (by show ¬ (iI x < 0 ∨ (arrV _ _ _).slots.size ≤ _); rw [arrV_size]; exact hin) rfl rfl hd fun H1 e z oq => ?_
  have hnew : va_at (G.1, G.2.1) vwCl (a, .inl (G.2.2 2, n, .inl fun i => iI ((vup f x.toNat y) i))) H1 := by
    show H1[a]? = some (vp_cell _ _)
    rw [e, e1]
    rw [vp_cell_i, vp_cell_i, arrV_store]
    congr 2
    funext q
    by_cases hq : q = x.toNat
    · subst hq
      simp [updV, vup]
      rcases hyp with rfl | rfl <;> rfl
    · simp [updV, vup, hq]
  exact k0 (vwr h a (.inl (2, n, .inl (vup f x.toNat y)))) (vwr_St _ _ _) hlen ls H1 _ cells slots hv0 (vHl_put hH z oq hnew (fun _ _ _ q => by cases q; exact hn)) (hS.put z oq (by rw [hH1] at hlop; exact hlop)) hbc hbs
theorem vtys_cl {G : vG} {s : State} (hK : va_K (G.1, G.2.1) vwCl (vtys G.2.2) s) : ∀ τ : Nat, 3 ≤ τ ∧ τ < 6 → ∃ q : vw_C, vwCl[vek τ]? = some q ∧ va_RA s (G.2.2 τ) (.object q.1)
  | 3, _ => ⟨_, rfl, (hK.2 3 _ rfl).2⟩
  | 4, _ => ⟨_, rfl, (hK.2 4 _ rfl).2⟩
  | 5, _ => ⟨_, rfl, (hK.2 5 _ rfl).2⟩
  | 0, h => absurd h (by omega)
  | 1, h => absurd h (by omega)
  | 2, h => absurd h (by omega)
  | τ + 6, h => absurd h (by omega)
theorem sd_aast (X : vCx p Rm s mid args meth c r m d G lt) : vk_aast C m R (vSm p l e Rm s mid args below meth c Qf G lt) := by
  obtain ⟨hx, hb, hml, hown, hts, hw, hrt, hnm, hm, hr, hfr, hlo, hsz⟩ := X
  have hK := hw.1
  intro pc nx lv st h bc bs x a n τ pp rr ci vs hc hop htp hlop h1p h2p hrp k0 hlen ls H locs cells slots hv0 hH hS hbc hbs
  obtain ⟨ins, len, i, hd, hk, rfl⟩ := vlk_ok hm hr hc
  obtain ⟨hH1, hH2, hH3, hH4⟩ := id hH
  rw [vq_52] at hk
  obtain ⟨rfl, rfl⟩ := of_decide_eq_true hk
  have hat : va_at (G.1, G.2.1) vwCl (a, .inl (G.2.2 τ, n, .inr (.inr (.inr (.inr pp))))) H := (hH4 _ _ hop).1
  have hn := (hH4 _ _ hop).2 _ _ _ rfl
  have hatv : va_at (G.1, G.2.1) vwCl (rr, .inr (vek τ, vs)) H := (hH4 _ _ hrp).1
  obtain ⟨q0, hq0, kA, comp, c1, c2, c3, -⟩ := vtys_cl hK τ htp
  obtain ⟨r', hr', cellV, g1, g2, g3, -⟩ := hatv
  have hcls := (hK.1 _ q0 hq0).2
  have hcomp : comp = G.1 (vek τ) := Option.some.inj (c3.symm.trans hcls.1)
  subst hcomp
  obtain ⟨kC, hkC, -⟩ := hcls.2
  have e1 : (iI x).toNatClampNeg = x.toNat := iI_nat (by omega) (by omega)
  have hlt : (iI x).toNatClampNeg < n := by rw [e1]; omega
  refine W.aast hx hb hat (fun q h => by cases h) (fun h => by cases h) c1 c2 rfl hkC ⟨fun z => by rw [iI_lt0 (by omega) (by omega)] at z; omega, by show _ < (arrV _ _ _).slots.size; rw [arrV_size]; exact hlt⟩ g1 (fun q h => by rw [g3] at h; cases h) (by rw [g2]; exact hkC) (by rw [g2]; exact va_assign hcls) rfl rfl hd fun H1 e z oq => ?_
  have hnew : va_at (G.1, G.2.1) vwCl (a, .inl (G.2.2 τ, n, .inr (.inr (.inr (.inr (vup pp x.toNat (some rr))))))) H1 := by
    show H1[a]? = some (vp_cell _ _)
    rw [e, e1]
    rw [vp_cell_q, vp_cell_q, arrV_store]
    congr 2
    funext q
    by_cases hq : q = x.toNat
    · subst hq
      simp [updV, vup, va_rf]
    · simp [updV, vup, hq]
  exact k0 (vwr h a (.inl (τ, n, .inr (vup pp x.toNat (some rr))))) (vwr_St _ _ _) hlen ls H1 _ cells slots hv0 (vHl_put hH z oq hnew (fun _ _ _ q => by cases q; exact hn)) (hS.put z oq (by rw [hH1] at hlop; exact hlop)) hbc hbs
theorem sd_aastA (X : vCx p Rm s mid args meth c r m d G lt) : vk_aastA C m R (vSm p l e Rm s mid args below meth c Qf G lt) := by
  obtain ⟨hx, hb, hml, hown, hts, hw, hrt, hnm, hm, hr, hfr, hlo, hsz⟩ := X
  have hK := hw.1
  intro pc nx lv st h bc bs x a n pp rr n2 f hc hop hlop h1p h2p hrp k0 hlen ls H locs cells slots hv0 hH hS hbc hbs
  obtain ⟨ins, len, i, hd, hk, rfl⟩ := vlk_ok hm hr hc
  obtain ⟨hH1, hH2, hH3, hH4⟩ := id hH
  rw [vq_52] at hk
  obtain ⟨rfl, rfl⟩ := of_decide_eq_true hk
  have hat : va_at (G.1, G.2.1) vwCl (a, .inl (G.2.2 6, n, .inr (.inr (.inr (.inr pp))))) H := (hH4 _ _ hop).1
  have hn := (hH4 _ _ hop).2 _ _ _ rfl
  have hatv : va_at (G.1, G.2.1) vwCl (rr, .inl (G.2.2 0, n2, .inl fun i => iI (f i))) H := (hH4 _ _ hrp).1
  obtain ⟨-, kA, c1, c2⟩ := hw.2.2.2.2
  obtain ⟨-, k0', hk0, cm0, hkk0⟩ := (hK.2 0 _ rfl).1 n2 (fun j => .int (iI (f j)))
  have e1 : (iI x).toNatClampNeg = x.toNat := iI_nat (by omega) (by omega)
  have hlt : (iI x).toNatClampNeg < n := by rw [e1]; omega
  have hasg : s.vm.assignable (G.2.2 0) (G.2.2 0) = true := by unfold Vm.assignable Vm.assignableAux; simp
  refine W.aast hx hb hat (fun q h => by cases h) (fun h => by cases h) c1 c2 rfl hk0 ⟨fun z => by rw [iI_lt0 (by omega) (by omega)] at z; omega, by show _ < (arrV _ _ _).slots.size; rw [arrV_size]; exact hlt⟩ hatv (fun q h => by cases h) hk0 hasg rfl rfl hd fun H1 e z oq => ?_
  have hnew : va_at (G.1, G.2.1) vwCl (a, .inl (G.2.2 6, n, .inr (.inr (.inr (.inr (vup pp x.toNat (some rr))))))) H1 := by
    show H1[a]? = some (vp_cell _ _)
    rw [e, e1]
    rw [vp_cell_q, vp_cell_q, arrV_store]
    congr 2
    funext q
    by_cases hq : q = x.toNat
    · subst hq
      simp [updV, vup, va_rf]
    · simp [updV, vup, hq]
  exact k0 (vwr h a (.inl (6, n, .inr (vup pp x.toNat (some rr))))) (vwr_St _ _ _) hlen ls H1 _ cells slots hv0 (vHl_put hH z oq hnew (fun _ _ _ q => by cases q; exact hn)) (hS.put z oq (by rw [hH1] at hlop; exact hlop)) hbc hbs
theorem sd_alen (X : vCx p Rm s mid args meth c r m d G lt) : vk_alen C m R (vSm p l e Rm s mid args below meth c Qf G lt) := by
  obtain ⟨hx, hb, hml, hown, hts, hw, hrt, hnm, hm, hr, hfr, hlo, hsz⟩ := X
  have hK := hw.1
  intro pc nx lv st h bc bs a n f hc hop k0 hlen ls H locs cells slots hv0 hH hS hbc hbs
  obtain ⟨ins, len, i, hd, hk, rfl⟩ := vlk_ok hm hr hc
  obtain ⟨hH1, hH2, hH3, hH4⟩ := id hH
  rw [vq_53] at hk
  obtain ⟨rfl, rfl⟩ := of_decide_eq_true hk
  have hat : va_at (G.1, G.2.1) vwCl (a, .inl (G.2.2 0, n, .inl fun i => iI (f i))) H := (hH4 _ _ hop).1
  exact va_alen (D := (G.1, G.2.1)) hx hb hK (vP1 hat) 0 0 rfl rfl (v := iI (n : Int)) (Int32.ofInt_eq_ofNat).symm hd (k0 hlen ls H locs cells slots hv0 hH hS hbc hbs)
theorem vdef_eq : ∀ ty : FieldType, (ty = .int ∨ ty = .boolean ∨ ty = .long ∨ (∃ C, ty = .object C) ∨ ∃ t, ty = .array t) → defaultValue ty = vdef ty := by
  intro ty h
  rcases h with rfl | rfl | rfl | ⟨C, rfl⟩ | ⟨t, rfl⟩ <;> rfl
def vtyok : FieldType → Bool
  | .int => true
  | .boolean => true
  | .long => true
  | .object _ => true
  | .array _ => true
  | _ => false
theorem vdef_ok {ty : FieldType} (h : vtyok ty = true) : defaultValue ty = vdef ty := by
  cases ty <;> first | rfl | (simp [vtyok] at h)
theorem vblank_len (ci : Nat) : ∀ n, (vblank ci n).length = n
  | 0 => rfl
  | n + 1 => by simp [vblank, vblank_len ci n]
theorem vblank_at (ci : Nat) : ∀ (n j : Nat), j < n → (vblank ci n)[j]? = some (vdef (vtyx ci j))
  | 0, _, h => absurd h (by omega)
  | n + 1, j, h => by
    by_cases e : j < n
    · rw [vblank, List.getElem?_append_left (by rw [vblank_len]; exact e)]
      exact vblank_at ci n j e
    · have : j = n := by omega
      subst this
      rw [vblank, List.getElem?_append_right (by rw [vblank_len]; exact Nat.le_refl _), vblank_len, Nat.sub_self]
      rfl
theorem vtyok_all : ∀ ci, ci < 7 → ∀ k, k < 25 → vtyok (vtyx ci k) = true := by decide +kernel
theorem vinst : ∀ (ci : Nat) (q : vw_C), vwCl[ci]? = some q → q.2.2 ≤ 25 ∧ ci < 7 ∧ Cond.instantiable q.1 q.2.2 ∈ vT1 ∧ Cond.initialized q.1 ∈ vT1 := by
  intro ci q hq
  match ci, hq with
  | 0, hq => cases hq; exact ⟨by decide, by decide, vT1_of (List.mem_of_getElem? (i := 78) (by decide +kernel)) rfl, vT1_of (List.mem_of_getElem? (i := 51) (by decide +kernel)) rfl⟩
  | 1, hq => cases hq; exact ⟨by decide, by decide, vT1_of (List.mem_of_getElem? (i := 111) (by decide +kernel)) rfl, vT1_of (List.mem_of_getElem? (i := 52) (by decide +kernel)) rfl⟩
  | 2, hq => cases hq; exact ⟨by decide, by decide, vT1_of (List.mem_of_getElem? (i := 139) (by decide +kernel)) rfl, vT1_of (List.mem_of_getElem? (i := 53) (by decide +kernel)) rfl⟩
  | 3, hq => cases hq; exact ⟨by decide, by decide, vT1_of (List.mem_of_getElem? (i := 71) (by decide +kernel)) rfl, vT1_of (List.mem_of_getElem? (i := 50) (by decide +kernel)) rfl⟩
  | 4, hq => cases hq; exact ⟨by decide, by decide, vT1_of (List.mem_of_getElem? (i := 168) (by decide +kernel)) rfl, vT1_of (List.mem_of_getElem? (i := 54) (by decide +kernel)) rfl⟩
  | 5, hq => cases hq; exact ⟨by decide, by decide, vT1_of (List.mem_of_getElem? (i := 61) (by decide +kernel)) rfl, vT1_of (List.mem_of_getElem? (i := 49) (by decide +kernel)) rfl⟩
  | 6, hq => cases hq; exact ⟨by decide, by decide, vT1_of (List.mem_of_getElem? (i := 625) (by decide +kernel)) rfl, vT1_of (List.mem_of_getElem? (i := 55) (by decide +kernel)) rfl⟩
  | k + 7, hq => simp [vwCl] at hq
theorem sd_new (X : vCx p Rm s mid args meth c r m d G lt) : vk_new C m R (vSm p l e Rm s mid args below meth c Qf G lt) := by
  obtain ⟨hx, hb, hml, hown, hts, hw, hrt, hnm, hm, hr, hfr, hlo, hsz⟩ := X
  have hK := hw.1
  intro pc nx lv st h bc bs ci n hc  k0 hlen ls H locs cells slots hv0 hH hS hbc hbs
  obtain ⟨ins, len, i, hd, hk, rfl⟩ := vlk_ok hm hr hc
  obtain ⟨hH1, hH2, hH3, hH4⟩ := id hH
  rw [vq_54] at hk
  split at hk
  · rename_i x
    unfold vckc at hk
    cases hq : vwCl[ci]? with
    | none => rw [hq] at hk; cases hk
    | some q =>
      rw [hq] at hk
      obtain ⟨Cn, T, N⟩ := q
      simp only [Bool.and_eq_true, decide_eq_true_eq] at hk
      obtain ⟨⟨g1, g2⟩, rfl⟩ := hk
      subst g1
      obtain ⟨hws, hty, hap0⟩ := vcls ci _ hq
      have hin : ∀ w ∈ u_ws Cn T n, w ∈ vT1 := hws
      obtain ⟨g3, g4, g5, g6⟩ := vinst ci _ hq
      have hKn := hK.1 ci _ hq
      refine W.newcK (n := n) hx hb hown (hts _ (vT1_of (vis_eq g2) rfl)) (hts _ (show Cond.instantiable Cn n ∈ vT1 from g5)) (hts _ g6) rfl hd (by omega) (by omega) hKn.2.1 rfl fun H1 kC hkC e1 z1 o1 => ?_
      have hnew : va_at (G.1, G.2.1) vwCl (H.size, .inr (ci, vblank ci n)) H1 := ⟨_, hq, (u_born (vtyx ci) hts hin hKn hkC e1 hty).to (fun j hj => by
        rw [vdef_ok (vtyok_all ci g4 j (Nat.lt_of_lt_of_le hj g3))]
        show _ = (vblank ci n).getD j .null
        rw [List.getD_eq_getElem?_getD, vblank_at ci n j hj]; rfl)⟩
      have k1 := k0 (vmk h (.inr (ci, vblank ci n))) (vmk_Nw _ _) hlen ls H1 locs (cells + 1) (slots + n) hv0 (vHl_new hH z1 o1 hnew (fun _ _ _ z => by cases z)) (vS_new hS z1 o1) (by omega) (by omega)
      rw [hH2] at k1
      exact k1
  · cases hk
theorem vtys_prim {G : vG} {s : State} (hK : va_K (G.1, G.2.1) vwCl (vtys G.2.2) s) : ∀ τ : Nat, τ < 3 → ArrOfT s (G.2.2 τ) (vaty τ) ∧ s.vm.findClass ("[" ++ (vaty τ).toString) = some (G.2.2 τ)
  | 0, _ => hK.2 0 _ rfl
  | 1, _ => hK.2 1 _ rfl
  | 2, _ => hK.2 2 _ rfl
  | τ + 3, h => absurd h (by omega)
theorem vT1_arr : ∀ τ : Nat, τ < 3 → Cond.arrayClass (vaty τ) ∈ vT1
  | 0, _ => vT1_of (List.mem_of_getElem? (i := 87) (by decide +kernel)) rfl
  | 1, _ => vT1_of (List.mem_of_getElem? (i := 88) (by decide +kernel)) rfl
  | 2, _ => vT1_of (List.mem_of_getElem? (i := 707) (by decide +kernel)) rfl
  | τ + 3, h => absurd h (by omega)
theorem sd_newa (X : vCx p Rm s mid args meth c r m d G lt) : vk_newa C m R (vSm p l e Rm s mid args below meth c Qf G lt) := by
  obtain ⟨hx, hb, hml, hown, hts, hw, hrt, hnm, hm, hr, hfr, hlo, hsz⟩ := X
  have hK := hw.1
  intro pc nx lv st h bc bs a x hc h1p h2p k0 hlen ls H locs cells slots hv0 hH hS hbc hbs
  obtain ⟨ins, len, i, hd, hk, rfl⟩ := vlk_ok hm hr hc
  obtain ⟨hH1, hH2, hH3, hH4⟩ := id hH
  rw [vq_55] at hk
  split at hk
  · rename_i at0
    obtain ⟨g1, g2, rfl⟩ := of_decide_eq_true hk
    obtain ⟨hA1, hA2⟩ := vtys_prim hK a g2
    have e1 : (iI x).toNatClampNeg = x.toNat := iI_nat (by omega) (by omega)
    have hcb : componentBytes (vaty a) ≤ 8 := by
      match a, g2 with
      | 0, _ => decide
      | 1, _ => decide
      | 2, _ => decide
      | k + 3, h => exact absurd h (by omega)
    refine va_newaK (N := x.toNat) hx hb (by rw [g1]; exact hts _ (vT1_arr a g2)) rfl hd rfl (fun z => by rw [iI_lt0 (by omega) (by omega)] at z; omega) e1 (by rw [g1]; have := Nat.mul_le_mul (show x.toNat ≤ 60000 by omega) hcb; omega) (by omega) (by omega) rfl fun H1 cA e2 z1 o1 hAr hNm => ?_
    rw [g1] at e2 hNm
    have hcA : cA = G.2.2 a := Option.some.inj (hNm.symm.trans hA2)
    subst hcA
    have hnew : va_at (G.1, G.2.1) vwCl (H.size, vcv G.2.2 (.inl (a, x.toNat, .inl fun _ => 0))) H1 := by
      show H1[H.size]? = some (vp_cell _ _)
      rw [e2]
      match a, g2 with
      | 0, _ => rfl
      | 1, _ => rfl
      | 2, _ => rfl
      | k + 3, h => exact absurd h (by omega)
    have k1 := k0 (vmk h (.inl (a, x.toNat, .inl fun _ => 0))) (vmk_Nw _ _) hlen ls H1 locs (cells + 1) (slots + x.toNat) hv0 (vHl_new hH z1 o1 hnew (fun _ _ _ z => by cases z; omega)) (vS_new hS z1 o1) (by omega) (by omega)
    rw [hH2] at k1
    exact k1
  · cases hk
theorem vtys_obj {G : vG} {lt : Nat × Nat} {s : State} {H : Heap} (hw : vWd G lt s H) : ∀ τ : Nat, 3 ≤ τ → τ < 6 → va_AO (vec τ) s ∧ va_RA s (G.2.2 τ) (.object (vec τ))
  | 3, _, _ => ⟨hw.2.2.2.1.1, (hw.1.2 3 _ rfl).2⟩
  | 4, _, _ => ⟨hw.2.2.2.1.2.1, (hw.1.2 4 _ rfl).2⟩
  | 5, _, _ => ⟨hw.2.2.2.1.2.2, (hw.1.2 5 _ rfl).2⟩
  | 0, h, _ => absurd h (by omega)
  | 1, h, _ => absurd h (by omega)
  | 2, h, _ => absurd h (by omega)
  | τ + 6, _, h => absurd h (by omega)
theorem sd_anew (X : vCx p Rm s mid args meth c r m d G lt) : vk_anew C m R (vSm p l e Rm s mid args below meth c Qf G lt) := by
  obtain ⟨hx, hb, hml, hown, hts, hw, hrt, hnm, hm, hr, hfr, hlo, hsz⟩ := X
  have hK := hw.1
  intro pc nx lv st h bc bs τ x hc h1p h2p k0 hlen ls H locs cells slots hv0 hH hS hbc hbs
  obtain ⟨ins, len, i, hd, hk, rfl⟩ := vlk_ok hm hr hc
  obtain ⟨hH1, hH2, hH3, hH4⟩ := id hH
  rw [vq_56] at hk
  split at hk
  · rename_i ix
    obtain ⟨g1, g2⟩ := Bool.and_eq_true_iff.mp hk
    obtain ⟨g3, g4, rfl⟩ := of_decide_eq_true g2
    obtain ⟨hAO, kA', comp', -, -, -, hA2⟩ := vtys_obj hw τ g3 g4
    have e1 : (iI x).toNatClampNeg = x.toNat := iI_nat (by omega) (by omega)
    refine W.anew hx hb hown (hts _ (vT1_of (vis_eq g1) rfl)) (va_AO.use hAO) rfl hd rfl (fun z => by rw [iI_lt0 (by omega) (by omega)] at z; omega) (by rw [e1]; omega) (by omega) (by rw [e1]; omega) fun cA kA comp f1 f2 f3 f4 => ?_
    rw [e1]
    have hcA : cA = G.2.2 τ := Option.some.inj (f1.symm.trans hA2)
    subst hcA
    generalize hH1 : H.push ({ cls := G.2.2 τ, slots := Array.replicate x.toNat .null, vm := .none } : Cell) = H1
    have z1 : H1.size = H.size + 1 := by rw [← hH1, Array.size_push]
    have e2 : H1[H.size]? = some (arrV (G.2.2 τ) x.toNat (fun _ => .null)) := by rw [← hH1, Array.getElem?_push_size, ← arrV_new]
    have o1 : ∀ q : Nat, q < H.size → H1[q]? = H[q]? := fun q hq => by rw [← hH1, Array.getElem?_push, if_neg (Nat.ne_of_lt hq)]
    have hnew : va_at (G.1, G.2.1) vwCl (H.size, vcv G.2.2 (.inl (τ, x.toNat, .inr fun _ => none))) H1 := e2
    have k1 := k0 (vmk h (.inl (τ, x.toNat, .inr fun _ => none))) (vmk_Nw _ _) hlen ls H1 locs (cells + 1) (slots + x.toNat) hv0 (vHl_new hH z1 o1 hnew (fun _ _ _ z => by cases z; omega)) (vS_new hS z1 o1) (by omega) (by omega)
    rw [hH2] at k1
    exact k1
  · cases hk
end SD2
end
section

theorem vrc_spec {mj ci n : Nat} (h : vrc mj = some (ci, n)) : mj < vNum - 1 ∧ ∃ rj, vN[mj]? = some rj ∧ rj.2.2.2.2.1 = ci ∧ rj.2.2.2.2.2.1 = n := by
  unfold vrc at h
  by_cases hj : mj < vNum - 1
  · rw [if_pos hj] at h
    obtain ⟨rj, h1, h2⟩ := Option.map_eq_some_iff.mp h
    cases h2
    exact ⟨hj, rj, h1, rfl, rfl⟩
  · rw [if_neg hj] at h; cases h
theorem vnok_all {mj : Nat} {rj : vNr} (hj : mj < vNum - 1) (h : vN[mj]? = some rj) : Cond.code rj.1 rj.2.1 rj.2.2.1 rj.2.2.2.1 ∈ vT1 ∧ (rj.2.2.2.2.2.2.1 = true → Cond.static rj.1 ∈ vT1) ∧ (rj.2.2.2.2.2.2.1 = false → Cond.instanceMethod rj.1 ∈ vT1) ∧ Cond.initialized rj.1.cls ∈ vT1 ∧
    (rj.1.cls ≠ "java/lang/invoke/MethodHandle" ∧ rj.1.cls ≠ "java/lang/invoke/VarHandle") ∧ (∀ sig, parseMethodDescriptor rj.1.desc = some sig → rj.2.2.2.2.2.1 = sig.parameters.length) ∧ plainName rj.1.cls = true ∧ rj.2.2.1 ≤ 30 ∧ (rj.2.2.2.2.2.2.1 = false → ∃ q, vwCl[rj.2.2.2.2.1]? = some q ∧ q.1 = rj.1.cls) ∧ (rj.1.name = "<init>" → rj.2.2.2.1 = none) := by
  have hcw := vcw_all mj hj rj h
  have hmem : rj ∈ vN := List.mem_of_getElem? h
  have h0 : (rj.2.2.2.2.2.2.2.1 == 9999 || vnok rj) = true := List.all_eq_true.mp vn_ok_all rj hmem
  have hini := List.all_eq_true.mp vn_init_all rj hmem
  have h1 : vnok rj = true := by
    rcases Bool.or_eq_true_iff.mp h0 with q | q
    · exfalso
      have e : rj.2.2.2.2.2.2.2.1 = 9999 := by simpa using q
      unfold vcw at hcw
      rw [e] at hcw
      have e2 : vat 9999 = none := by decide +kernel
      rw [e2] at hcw; cases hcw
    · exact q
  unfold vnok at h1
  simp only [Bool.and_eq_true, Bool.or_eq_true] at h1
  obtain ⟨⟨⟨g1, g2⟩, g3⟩, g4⟩ := h1
  obtain ⟨a1, a2, a3, a4, a5⟩ := of_decide_eq_true g3
  refine ⟨vT1_of (List.mem_of_getElem? hcw) rfl, fun z => ?_, fun z => ?_, vT1_of (vis_eq g2) rfl, ⟨a1, a2⟩, fun sig z => ?_, a4, a5, fun z => ?_, fun z => of_decide_eq_true hini z⟩
  · rw [if_pos z] at g1; exact vT1_of (vis_eq g1) rfl
  · rw [if_neg (by rw [z]; decide)] at g1; exact vT1_of (vis_eq g1) rfl
  · rw [z] at a3; exact (Option.some.inj a3).symm
  · rcases g4 with q | q
    · rw [z] at q; cases q
    · obtain ⟨q0, h2, h3⟩ := Option.map_eq_some_iff.mp (of_decide_eq_true q)
      exact ⟨q0, h2, h3⟩
def vQc (G : vG) (lt : Nat × Nat) (Q : vQ) : Array Value → State → Outcome → State → Prop := fun _ st oc t => (∃ v h', oc = .returned v ∧ Q v h' ∧ vHl G lt h' t.heap ∧ vWd G lt t t.heap) ∧ va_F (fun q => lt.1 ≤ q) st t
abbrev vrm (d mc ms : Nat) : Room := { frames := d, cells := mc, slots := ms, locals := 60 * d }
abbrev vPc (G : vG) (lt : Nat × Nat) (As : List Value) (h : vHp) : Array Value → State → Prop := va_Pc As (fun U => vHl G lt h U.heap ∧ vWd G lt U U.heap)
def vMet (l : Launch) (G : vG) (lt : Nat × Nat) (d mc ms mj : Nat) (As : List Value) (h : vHp) (Q : vQ) : Prop := ∀ r : vNr, vN[mj]? = some r → mj < vNum - 1 →
  Met l r.1 (Cond.code r.1 r.2.1 r.2.2.1 r.2.2.2.1 :: vT1) (vrm d mc ms) (vPc G lt As h) (vQc G lt Q) mc ms (fun q => lt.1 ≤ q)
theorem vblind {G : vG} {lt : Nat × Nat} {As : List Value} {h : vHp} : FrameBlind (vPc G lt As h) := fun a U g mk q => ⟨q.1, q.2.1, (vWd_same (s := U) (H := U.heap) rfl q.2.2 : vWd G lt (U.calling g mk a) U.heap)⟩
theorem vgoodIn {rj : vNr} (h : Cond.code rj.1 rj.2.1 rj.2.2.1 rj.2.2.2.1 ∈ vT1) : GoodIn vT1 (Cond.code rj.1 rj.2.1 rj.2.2.1 rj.2.2.2.1 :: vT1) := by
  intro w hw
  have h1 : w ∈ vT1 := by
    rcases List.mem_cons.mp hw with q | q
    · rw [q]; exact h
    · exact q
  exact ⟨h1, good_of_word (vT1_good h1)⟩
section SD3

variable {p : Program} {l : Launch} {e : Env} {Rm : Room} {s : State} {mid : MethodId} {args : Array Value} {below : List Frame} {meth : Method} {c : Code} {Qf : State → Prop} {G : vG} {lt : Nat × Nat} {r : vNr} {m d : Nat} {C : vCt} {R : vQ}

theorem v_callgo {H : Heap} {locs : List Loc} {cells slots mc ms pc : Nat} {ls : Array Slot} {st0 rest : List Value} {Q : vQ} {ar : Array Value}
    (hr : va_Run p l e Rm s mid args below meth c H locs cells slots mc ms (F0 mid pc ls st0) rest (vQc G lt Q ar) (fun q => lt.1 ≤ q)) (hS : va_S (fun q => lt.1 ≤ q) s.heap H locs)
    (kk : ∀ (v : Option Value) (h' : vHp) (H1 : Heap) (locs1 : List Loc), Q v h' → vHl G lt h' H1 → va_S (fun q => lt.1 ≤ q) s.heap H1 locs1 → W p l e Rm s mid args below meth c H1 locs1 (cells + mc) (slots + ms) Qf (F0 mid (pc + 3) ls (vpush v rest))) :
    W p l e Rm s mid args below meth c H locs cells slots Qf (F0 mid pc ls st0) := by
  intro T hT X
  obtain ⟨v, st₀, t, T', L, h0, X', hL, e1, e2, ⟨⟨v', h', hv, hq, hHl, hWd⟩, hz, hk⟩, st⟩ := hr T hT X
  cases hv
  rw [h0] at hz hk
  obtain ⟨t2, a1, b1⟩ := kk v h' T'.heap (locs ++ L) hq (by rw [e1]; exact hHl)
    ⟨Nat.le_trans hS.1 (by rw [e1]; exact hz), fun q h1 h2 => by rw [e1, hk q (Nat.lt_of_lt_of_le h1 hS.1) h2]; exact hS.2.1 q h1 h2, fun q hq => by
      rcases List.mem_append.mp hq with h | h
      · exact hS.2.2 q h
      · exact hL q h⟩ T' rfl X'
  refine ⟨t2, st t2 ?_, b1⟩
  cases v <;> exact a1
theorem sd_inv (X : vCx p Rm s mid args meth c r m d G lt) (hC : ∀ mc ms mj As h Q, C mc ms mj As h Q → vMet l G lt d mc ms mj As h Q) : vk_inv C m R (vSm p l e Rm s mid args below meth c Qf G lt) := by
  obtain ⟨hx, hb, hml, hown, hts, hw, hrt, hnm, hm, hr, hfr, hlo, hsz⟩ := X
  have hK := hw.1
  intro pc nx lv st h bc bs mj As stk b ci fs mc ms hc hkp hnp hop hwp k0 hlen ls H locs cells slots hv0 hH hS hbc hbs
  obtain ⟨ins, len, i, hd, hk, rfl⟩ := vlk_ok hm hr hc
  obtain ⟨hH1, hH2, hH3, hH4⟩ := id hH
  rw [vq_58] at hk
  obtain ⟨hj, rj, hrj, hci, hna⟩ := vrc_spec hnp
  obtain ⟨w1, w2, w3, w4, w5, w6, w7, w8, w9, w10⟩ := vnok_all hj hrj
  subst hkp
  have hM := hC _ _ _ _ _ _ k0 rj hrj hj
  have hwU : ∀ U : State, U.heap = H → s.WarmedH U.vm → vWd G lt U U.heap := fun U hU hW => by rw [hU]; exact vWd_moved hW hw (fun q h1 h2 => hS.2.1 q h1 h2)
  have hsize : ls.size = r.2.2.1 := hv0.1.trans (hlen.trans hml)
  rw [hna] at w6
  split at hk
  · rename_i x
    unfold vckm at hk
    rw [hrj] at hk
    simp only [Bool.and_eq_true, Bool.not_eq_true', decide_eq_true_eq] at hk
    obtain ⟨⟨⟨g1, rfl⟩, g3⟩, g4⟩ := hk
    obtain ⟨q0, hq0, hqc⟩ := w9 g3
    rw [hci] at hq0
    have hat : va_at (G.1, G.2.1) vwCl (b, .inr (ci, fs)) H := (hH4 _ _ hop).1
    have hrec := va_recv (q0 := 0) hK (vP1 hat) hq0 rfl
    rw [hqc] at hrec
    have cw : CallW Rm s args r.1.cls rj.1.cls x rj.1 rj.2.1 rj.2.2.1 rj.2.2.2.1 (Cond.code rj.1 rj.2.1 rj.2.2.1 rj.2.2.2.1 :: vT1) (vrm d mc ms) mc ms As.length := ⟨⟨rfl, rfl, by show d + 1 ≤ _; exact hfr, by show 8 + (rj.2.2.1 + 11) + 60 * d ≤ _; omega, pay_in hts (vgoodIn w1), List.mem_cons_self, hts _ w1, hts _ w4, w5, w6, hts _ (vT1_of (vis_eq g1) rfl)⟩, hts _ (w3 g3), hts _ (vT1_of (vis_eq g4) rfl)⟩
    have run := va_runV (e := e) (below := below) (meth := meth) (rest := st) (b := b) (As := As) ⟨hx, hb, hml, hown, hts⟩ hM cw ⟨vblind, hrec, fun U hU hW => ⟨rfl, by rw [hU]; exact hH, hwU U hU hW⟩⟩ (g := F0 mid pc ls (As.reverse ++ .ref b :: st)) rfl rfl hsize rfl (lv_room hwp) hd (H := H) (locs := locs) (cells := cells) (slots := slots) ⟨by omega, by omega⟩
    exact v_callgo run hS (fun v h' H1 locs1 hq hHl hS1 => hq hlen ls H1 locs1 (cells + mc) (slots + ms) hv0 hHl hS1 (by omega) (by omega))
  · cases hk
theorem sd_ins (X : vCx p Rm s mid args meth c r m d G lt) (hC : ∀ mc ms mj As h Q, C mc ms mj As h Q → vMet l G lt d mc ms mj As h Q) : vk_ins C m R (vSm p l e Rm s mid args below meth c Qf G lt) := by
  obtain ⟨hx, hb, hml, hown, hts, hw, hrt, hnm, hm, hr, hfr, hlo, hsz⟩ := X
  have hK := hw.1
  intro pc nx lv st h bc bs mj As stk ci mc ms hc hkp hnp hwp k0 hlen ls H locs cells slots hv0 hH hS hbc hbs
  obtain ⟨ins, len, i, hd, hk, rfl⟩ := vlk_ok hm hr hc
  obtain ⟨hH1, hH2, hH3, hH4⟩ := id hH
  rw [vq_59] at hk
  obtain ⟨hj, rj, hrj, hci, hna⟩ := vrc_spec hnp
  obtain ⟨w1, w2, w3, w4, w5, w6, w7, w8, w9, w10⟩ := vnok_all hj hrj
  subst hkp
  have hM := hC _ _ _ _ _ _ k0 rj hrj hj
  have hwU : ∀ U : State, U.heap = H → s.WarmedH U.vm → vWd G lt U U.heap := fun U hU hW => by rw [hU]; exact vWd_moved hW hw (fun q h1 h2 => hS.2.1 q h1 h2)
  have hsize : ls.size = r.2.2.1 := hv0.1.trans (hlen.trans hml)
  rw [hna] at w6
  split at hk
  · rename_i x
    unfold vckm at hk
    rw [hrj] at hk
    simp only [Bool.and_eq_true, Bool.not_eq_true', decide_eq_true_eq] at hk
    obtain ⟨⟨g1, rfl⟩, g3⟩ := hk
    have cw : CallB Rm s args r.1.cls x rj.1 rj.2.1 rj.2.2.1 rj.2.2.2.1 (Cond.code rj.1 rj.2.1 rj.2.2.1 rj.2.2.2.1 :: vT1) (vrm d mc ms) mc ms As.length := ⟨rfl, rfl, by show d + 1 ≤ _; exact hfr, by show 8 + (rj.2.2.1 + 11) + 60 * d ≤ _; omega, pay_in hts (vgoodIn w1), List.mem_cons_self, hts _ w1, hts _ w4, w5, w6, hts _ (vT1_of (vis_eq g1) rfl)⟩
    have run := va_runS (e := e) (below := below) (meth := meth) (rest := st) (As := As) ⟨hx, hb, hml, hown, hts⟩ hM ⟨cw, hts _ (w2 g3)⟩ ⟨vblind, fun U hU hW => ⟨rfl, by rw [hU]; exact hH, hwU U hU hW⟩⟩ (g := F0 mid pc ls (As.reverse ++ st)) rfl rfl hsize rfl (lv_room hwp) hd (H := H) (locs := locs) (cells := cells) (slots := slots) ⟨by omega, by omega⟩
    exact v_callgo run hS (fun v h' H1 locs1 hq hHl hS1 => hq hlen ls H1 locs1 (cells + mc) (slots + ms) hv0 hHl hS1 (by omega) (by omega))
  · cases hk
theorem sd_insN (X : vCx p Rm s mid args meth c r m d G lt) (hC : ∀ mc ms mj As h Q, C mc ms mj As h Q → vMet l G lt d mc ms mj As h Q) : vk_insN C m R (vSm p l e Rm s mid args below meth c Qf G lt) := by
  obtain ⟨hx, hb, hml, hown, hts, hw, hrt, hnm, hm, hr, hfr, hlo, hsz⟩ := X
  have hK := hw.1
  intro pc nx lv st h bc bs mj As stk ci mc ms hc hkp hnp hwp k0 hlen ls H locs cells slots hv0 hH hS hbc hbs
  obtain ⟨ins, len, i, hd, hk, rfl⟩ := vlk_ok hm hr hc
  obtain ⟨hH1, hH2, hH3, hH4⟩ := id hH
  rw [vq_82] at hk
  obtain ⟨hj, rj, hrj, hci, hna⟩ := vrc_spec hnp
  obtain ⟨w1, w2, w3, w4, w5, w6, w7, w8, w9, w10⟩ := vnok_all hj hrj
  subst hkp
  have hM := hC _ _ _ _ _ _ k0 rj hrj hj
  have hwU : ∀ U : State, U.heap = H → s.WarmedH U.vm → vWd G lt U U.heap := fun U hU hW => by rw [hU]; exact vWd_moved hW hw (fun q h1 h2 => hS.2.1 q h1 h2)
  have hsize : ls.size = r.2.2.1 := hv0.1.trans (hlen.trans hml)
  rw [hna] at w6
  split at hk
  · rename_i x
    unfold vckm at hk
    rw [hrj] at hk
    simp only [Bool.and_eq_true, Bool.not_eq_true', decide_eq_true_eq] at hk
    obtain ⟨⟨g1, rfl⟩, g3⟩ := hk
    have cw : va_CN Rm s args r.1.cls x rj.1 "RecurringDays" rj.2.1 rj.2.2.1 rj.2.2.2.1 (Cond.code rj.1 rj.2.1 rj.2.2.1 rj.2.2.2.1 :: vT1) (vrm d mc ms) mc ms As.length := ⟨⟨rfl, rfl, by show d + 1 ≤ _; exact hfr, by show 8 + (rj.2.2.1 + 11) + 60 * d ≤ _; omega, pay_in hts (vgoodIn w1), List.mem_cons_self⟩, hts _ w1, hts _ w4, w5, w6, va_Nw.use rfl (hw.2.2.1 _ (vT2_of (vis_eq g1) rfl))⟩
    have run := va_runSN (e := e) (below := below) (meth := meth) (rest := st) (As := As) ⟨hx, hb, hml, hown, hts⟩ hM ⟨cw, hts _ (w2 g3), trivial⟩ ⟨vblind, fun U hU hW => ⟨rfl, by rw [hU]; exact hH, hwU U hU hW⟩⟩ (g := F0 mid pc ls (As.reverse ++ st)) rfl rfl hsize rfl (lv_room hwp) hd (H := H) (locs := locs) (cells := cells) (slots := slots) ⟨by omega, by omega⟩
    exact v_callgo run hS (fun v h' H1 locs1 hq hHl hS1 => hq hlen ls H1 locs1 (cells + mc) (slots + ms) hv0 hHl hS1 (by omega) (by omega))
  · cases hk
theorem sd_inp (X : vCx p Rm s mid args meth c r m d G lt) (hC : ∀ mc ms mj As h Q, C mc ms mj As h Q → vMet l G lt d mc ms mj As h Q) : vk_inp C m R (vSm p l e Rm s mid args below meth c Qf G lt) := by
  obtain ⟨hx, hb, hml, hown, hts, hw, hrt, hnm, hm, hr, hfr, hlo, hsz⟩ := X
  have hK := hw.1
  intro pc nx lv st h bc bs mj As stk b ci mc ms hc hkp hnp hwp k0 hlen ls H locs cells slots hv0 hH hS hbc hbs
  obtain ⟨ins, len, i, hd, hk, rfl⟩ := vlk_ok hm hr hc
  obtain ⟨hH1, hH2, hH3, hH4⟩ := id hH
  rw [vq_60] at hk
  obtain ⟨hj, rj, hrj, hci, hna⟩ := vrc_spec hnp
  obtain ⟨w1, w2, w3, w4, w5, w6, w7, w8, w9, w10⟩ := vnok_all hj hrj
  subst hkp
  have hM := hC _ _ _ _ _ _ k0 rj hrj hj
  have hwU : ∀ U : State, U.heap = H → s.WarmedH U.vm → vWd G lt U U.heap := fun U hU hW => by rw [hU]; exact vWd_moved hW hw (fun q h1 h2 => hS.2.1 q h1 h2)
  have hsize : ls.size = r.2.2.1 := hv0.1.trans (hlen.trans hml)
  rw [hna] at w6
  split at hk
  · rename_i x
    unfold vckm at hk
    rw [hrj] at hk
    simp only [Bool.and_eq_true, Bool.not_eq_true', decide_eq_true_eq] at hk
    obtain ⟨⟨⟨g1, rfl⟩, g3⟩, g4⟩ := hk
    have hret := w10 g4
    rw [hret] at w1
    rw [hret] at hM
    have hGI : GoodIn vT1 (Cond.code rj.1 rj.2.1 rj.2.2.1 none :: vT1) := by
      have := vgoodIn (rj := rj) (by rw [hret]; exact w1)
      rw [hret] at this; exact this
    have cw : CallB Rm s args r.1.cls x rj.1 rj.2.1 rj.2.2.1 none (Cond.code rj.1 rj.2.1 rj.2.2.1 none :: vT1) (vrm d mc ms) mc ms As.length := ⟨rfl, rfl, by show d + 1 ≤ _; exact hfr, by show 8 + (rj.2.2.1 + 11) + 60 * d ≤ _; omega, pay_in hts (hGI), List.mem_cons_self, hts _ w1, hts _ w4, w5, w6, hts _ (vT1_of (vis_eq g1) rfl)⟩
    have run := va_runI (e := e) (below := below) (meth := meth) (rest := st) (b := b) (As := As) ⟨hx, hb, hml, hown, hts⟩ hM ⟨cw, g4, hts _ (w3 g3)⟩ ⟨vblind, fun U hU hW => ⟨rfl, by rw [hU]; exact hH, hwU U hU hW⟩⟩ (g := F0 mid pc ls (As.reverse ++ .ref b :: st)) rfl rfl hsize rfl (lv_room hwp) hd (H := H) (locs := locs) (cells := cells) (slots := slots) ⟨by omega, by omega⟩
    exact v_callgo run hS (fun v h' H1 locs1 hq hHl hS1 => hq hlen ls H1 locs1 (cells + mc) (slots + ms) hv0 hHl hS1 (by omega) (by omega))
  · cases hk
theorem sd_inpN (X : vCx p Rm s mid args meth c r m d G lt) (hC : ∀ mc ms mj As h Q, C mc ms mj As h Q → vMet l G lt d mc ms mj As h Q) : vk_inpN C m R (vSm p l e Rm s mid args below meth c Qf G lt) := by
  obtain ⟨hx, hb, hml, hown, hts, hw, hrt, hnm, hm, hr, hfr, hlo, hsz⟩ := X
  have hK := hw.1
  intro pc nx lv st h bc bs mj As stk b ci mc ms hc hkp hnp hwp k0 hlen ls H locs cells slots hv0 hH hS hbc hbs
  obtain ⟨ins, len, i, hd, hk, rfl⟩ := vlk_ok hm hr hc
  obtain ⟨hH1, hH2, hH3, hH4⟩ := id hH
  rw [vq_83] at hk
  obtain ⟨hj, rj, hrj, hci, hna⟩ := vrc_spec hnp
  obtain ⟨w1, w2, w3, w4, w5, w6, w7, w8, w9, w10⟩ := vnok_all hj hrj
  subst hkp
  have hM := hC _ _ _ _ _ _ k0 rj hrj hj
  have hwU : ∀ U : State, U.heap = H → s.WarmedH U.vm → vWd G lt U U.heap := fun U hU hW => by rw [hU]; exact vWd_moved hW hw (fun q h1 h2 => hS.2.1 q h1 h2)
  have hsize : ls.size = r.2.2.1 := hv0.1.trans (hlen.trans hml)
  rw [hna] at w6
  split at hk
  · rename_i x
    unfold vckm at hk
    rw [hrj] at hk
    simp only [Bool.and_eq_true, Bool.not_eq_true', decide_eq_true_eq] at hk
    obtain ⟨⟨⟨g1, rfl⟩, g3⟩, g4⟩ := hk
    have hret := w10 g4
    rw [hret] at w1
    rw [hret] at hM
    have hGI : GoodIn vT1 (Cond.code rj.1 rj.2.1 rj.2.2.1 none :: vT1) := by
      have := vgoodIn (rj := rj) (by rw [hret]; exact w1)
      rw [hret] at this; exact this
    have cw : va_CN Rm s args r.1.cls x rj.1 "RecurringDays" rj.2.1 rj.2.2.1 none (Cond.code rj.1 rj.2.1 rj.2.2.1 none :: vT1) (vrm d mc ms) mc ms As.length := ⟨⟨rfl, rfl, by show d + 1 ≤ _; exact hfr, by show 8 + (rj.2.2.1 + 11) + 60 * d ≤ _; omega, pay_in hts (hGI), List.mem_cons_self⟩, hts _ w1, hts _ w4, w5, w6, va_Nw.use rfl (hw.2.2.1 _ (vT2_of (vis_eq g1) rfl))⟩
    have run := va_runIN (e := e) (below := below) (meth := meth) (rest := st) (b := b) (As := As) ⟨hx, hb, hml, hown, hts⟩ hM ⟨cw, g4, hts _ (w3 g3)⟩ ⟨vblind, fun U hU hW => ⟨rfl, by rw [hU]; exact hH, hwU U hU hW⟩⟩ (g := F0 mid pc ls (As.reverse ++ .ref b :: st)) rfl rfl hsize rfl (lv_room hwp) hd (H := H) (locs := locs) (cells := cells) (slots := slots) ⟨by omega, by omega⟩
    exact v_callgo run hS (fun v h' H1 locs1 hq hHl hS1 => hq hlen ls H1 locs1 (cells + mc) (slots + ms) hv0 hHl hS1 (by omega) (by omega))
  · cases hk
theorem vobj_w : Cond.code objectInit ⟨#[0xb1]⟩ 1 none ∈ vT1 ∧ Cond.instanceMethod objectInit ∈ vT1 := ⟨vT1_of (List.mem_of_getElem? (i := 67) rfl) rfl, vT1_of (List.mem_of_getElem? (i := 66) (by decide +kernel)) rfl⟩
theorem sd_obj (X : vCx p Rm s mid args meth c r m d G lt) : vk_obj C m R (vSm p l e Rm s mid args below meth c Qf G lt) := by
  obtain ⟨hx, hb, hml, hown, hts, hw, hrt, hnm, hm, hr, hfr, hlo, hsz⟩ := X
  have hK := hw.1
  intro pc nx lv st h bc bs a hc hwp k0 hlen ls H locs cells slots hv0 hH hS hbc hbs
  obtain ⟨ins, len, i, hd, hk, rfl⟩ := vlk_ok hm hr hc
  obtain ⟨hH1, hH2, hH3, hH4⟩ := id hH
  rw [vq_61] at hk
  split at hk
  · obtain ⟨g1, g2⟩ := Bool.and_eq_true_iff.mp hk
    have g2 := of_decide_eq_true g2
    subst g2
    exact W.objInit hx hb hown (hts _ (vT1_of (vis_eq g1) rfl)) (hts _ vobj_w.2) (hts _ vobj_w.1) (g := F0 mid pc ls (.ref a :: st)) rfl (by show ls.size = _; rw [hml]; exact hv0.1.trans (hlen.trans hml)) rfl hd (by omega) (by show 2 * 0 + _ + 12 ≤ _; omega) (k0 hlen ls H locs cells slots hv0 hH hS hbc hbs)
  · cases hk
theorem vmmax_w : Cond.static Lib.Math.max.name ∈ vT1 ∧ Cond.initialized "java/lang/Math" ∈ vT1 ∧ Cond.code Lib.Math.max.name Lib.Math.max.code 2 (some .int) ∈ vT1 := ⟨vT1_of (List.mem_of_getElem? (i := 478) (by decide +kernel)) rfl, vT1_of (List.mem_of_getElem? (i := 56) (by decide +kernel)) rfl, vT1_of (List.mem_of_getElem? (i := 479) (by decide +kernel)) rfl⟩
theorem sd_mmax (X : vCx p Rm s mid args meth c r m d G lt) : vk_mmax C m R (vSm p l e Rm s mid args below meth c Qf G lt) := by
  obtain ⟨hx, hb, hml, hown, hts, hw, hrt, hnm, hm, hr, hfr, hlo, hsz⟩ := X
  have hK := hw.1
  intro pc nx lv st h bc bs x y hc h1p h2p h3p h4p hwp k0 hlen ls H locs cells slots hv0 hH hS hbc hbs
  obtain ⟨ins, len, i, hd, hk, rfl⟩ := vlk_ok hm hr hc
  obtain ⟨hH1, hH2, hH3, hH4⟩ := id hH
  rw [vq_84] at hk
  split at hk
  · obtain ⟨g1, g2⟩ := Bool.and_eq_true_iff.mp hk
    have g2 := of_decide_eq_true g2
    subst g2
    refine va_mmax hx hb (by rw [hml]; exact (hv0.1.trans (hlen.trans hml)).symm) hown (hts _ (vT1_of (vis_eq g1) rfl)) (hts _ vmmax_w.1) (hts _ vmmax_w.2.1) (hts _ vmmax_w.2.2) (by omega) (by omega) (by omega) (by omega) hd ?_
    have e1 : (if iI x < iI y then iI y else iI x) = iI (if x < y then y else x) := by
      by_cases q : x < y
      · rw [if_pos q, if_pos ((iI_lt h1p h2p h3p h4p).mpr q)]
      · rw [if_neg q, if_neg (fun z => q ((iI_lt h1p h2p h3p h4p).mp z))]
    rw [e1]
    exact k0 hlen ls H locs cells slots hv0 hH hS hbc hbs
  · cases hk
theorem vmmin_w : Cond.static Lib.Math.min.name ∈ vT1 ∧ Cond.initialized "java/lang/Math" ∈ vT1 ∧ Cond.code Lib.Math.min.name Lib.Math.min.code 2 (some .int) ∈ vT1 := ⟨vT1_of (List.mem_of_getElem? (i := 334) (by decide +kernel)) rfl, vT1_of (List.mem_of_getElem? (i := 56) (by decide +kernel)) rfl, vT1_of (List.mem_of_getElem? (i := 335) (by decide +kernel)) rfl⟩
theorem sd_mmin (X : vCx p Rm s mid args meth c r m d G lt) : vk_mmin C m R (vSm p l e Rm s mid args below meth c Qf G lt) := by
  obtain ⟨hx, hb, hml, hown, hts, hw, hrt, hnm, hm, hr, hfr, hlo, hsz⟩ := X
  have hK := hw.1
  intro pc nx lv st h bc bs x y hc h1p h2p h3p h4p hwp k0 hlen ls H locs cells slots hv0 hH hS hbc hbs
  obtain ⟨ins, len, i, hd, hk, rfl⟩ := vlk_ok hm hr hc
  obtain ⟨hH1, hH2, hH3, hH4⟩ := id hH
  rw [vq_85] at hk
  split at hk
  · obtain ⟨g1, g2⟩ := Bool.and_eq_true_iff.mp hk
    have g2 := of_decide_eq_true g2
    subst g2
    refine va_mmin hx hb (by rw [hml]; exact (hv0.1.trans (hlen.trans hml)).symm) hown (hts _ (vT1_of (vis_eq g1) rfl)) (hts _ vmmin_w.1) (hts _ vmmin_w.2.1) (hts _ vmmin_w.2.2) (by omega) (by omega) (by omega) (by omega) hd ?_
    have e1 : (if iI y < iI x then iI y else iI x) = iI (if y < x then y else x) := by
      by_cases q : y < x
      · rw [if_pos q, if_pos ((iI_lt h3p h4p h1p h2p).mpr q)]
      · rw [if_neg q, if_neg (fun z => q ((iI_lt h3p h4p h1p h2p).mp z))]
    rw [e1]
    exact k0 hlen ls H locs cells slots hv0 hH hS hbc hbs
  · cases hk
theorem vac_w : Cond.native arraycopyName ∈ vT1 ∧ Cond.static arraycopyName ∈ vT1 ∧ Cond.initialized "java/lang/System" ∈ vT1 := ⟨vT1_of (List.mem_of_getElem? (i := 594) (by decide +kernel)) rfl, vT1_of (List.mem_of_getElem? (i := 593) (by decide +kernel)) rfl, vT1_of (List.mem_of_getElem? (i := 59) (by decide +kernel)) rfl⟩
theorem vcpy_eq (f g : Nat → Int) (sp dp n : Nat) : va_cpy (fun i => iI (f i)) (fun i => iI (g i)) sp dp n = fun i => iI (vcpy f g sp dp n i) := by
  funext k
  unfold va_cpy vcpy
  by_cases q : dp ≤ k ∧ k < dp + n
  · rw [if_pos q, if_pos q]
  · rw [if_neg q, if_neg q]
theorem sd_acpy (X : vCx p Rm s mid args meth c r m d G lt) : vk_acpy C m R (vSm p l e Rm s mid args below meth c Qf G lt) := by
  obtain ⟨hx, hb, hml, hown, hts, hw, hrt, hnm, hm, hr, hfr, hlo, hsz⟩ := X
  have hK := hw.1
  intro pc nx lv st h bc bs x y w a b n n2 f g hc hop ho2p hlop h1p h2p h3p h4p h5p hwp k0 hlen ls H locs cells slots hv0 hH hS hbc hbs
  obtain ⟨ins, len, i, hd, hk, rfl⟩ := vlk_ok hm hr hc
  obtain ⟨hH1, hH2, hH3, hH4⟩ := id hH
  rw [vq_62] at hk
  split at hk
  · rename_i ix
    obtain ⟨g1, g2⟩ := Bool.and_eq_true_iff.mp hk
    have g2 := of_decide_eq_true g2
    subst g2
    have hc0 : H[a]? = some (vp_cell (G.2.2 0) (n, .inl fun i => iI (f i))) := (hH4 _ _ hop).1
    have hc1 : H[b]? = some (vp_cell (G.2.2 0) (n2, .inl fun i => iI (g i))) := (hH4 _ _ ho2p).1
    have hn := (hH4 _ _ hop).2 _ _ _ rfl
    have hn2 := (hH4 _ _ ho2p).2 _ _ _ rfl
    have ex : (iI x).toNatClampNeg = x.toNat := iI_nat (by omega) (by omega)
    have ey : (iI y).toNatClampNeg = y.toNat := iI_nat (by omega) (by omega)
    have ew : (iI w).toNatClampNeg = w.toNat := iI_nat (by omega) (by omega)
    have tx : (iI x).toInt = x := iI_toInt (by omega) (by omega)
    have ty : (iI y).toInt = y := iI_toInt (by omega) (by omega)
    have tw : (iI w).toInt = w := iI_toInt (by omega) (by omega)
    obtain ⟨-, k0', hk0, cm0, hkk0⟩ := (hK.2 0 _ rfl).1 n (fun j => .int (iI (f j)))
    obtain ⟨-, k1', hk1, cm1, hkk1⟩ := (hK.2 0 _ rfl).1 n2 (fun j => .int (iI (g j)))
    have hsize : ls.size = c.maxLocals := hv0.1.trans hlen
    intro T hT X
    obtain ⟨vm', X', step⟩ := X.arraycopy hx hown (hts _ (vT1_of (vis_eq g1) rfl)) (hts _ vac_w.1) (hts _ vac_w.2.1) (hts _ vac_w.2.2) (src := a) (dst := b) (cs := vp_cell (G.2.2 0) (n, .inl fun i => iI (f i))) (cd := vp_cell (G.2.2 0) (n2, .inl fun i => iI (g i))) (srcPos := iI x) (destPos := iI y) (n := iI w) (by rw [hT]; exact hc0) (by rw [hT]; exact hc1)
      (fun _ h => by cases h) (fun _ h => by cases h) (fun h => by cases h) (fun h => by cases h) hk0 hk1 hkk0 hkk1 (by simp [refKind]) (fun z => by rw [iI_lt0 (by omega) (by omega)] at z; omega) (fun z => by rw [iI_lt0 (by omega) (by omega)] at z; omega) (fun z => by rw [iI_lt0 (by omega) (by omega)] at z; omega)
      (by rw [tx, tw]; show ¬ _ > ((arrV _ n _).slots.size : Int); rw [arrV_size]; omega)
      (by rw [ty, tw]; show ¬ _ > ((arrV _ n2 _).slots.size : Int); rw [arrV_size]; omega)
      (fun vm₁ _ j hj => by
        rw [ew] at hj
        have e : (vp_cell (G.2.2 0) (n, .inl fun i => iI (f i))).slots.getD ((iI x).toNatClampNeg + j) .null = .int (iI (f ((iI x).toNatClampNeg + j))) := by
          show (arrV (G.2.2 0) n (fun j => .int (iI (f j)))).slots.getD _ _ = _
          rw [Array.getD_eq_getD_getElem?, arrV_read _ _ (by rw [ex]; omega)]
          rfl
        refine ⟨?_, ?_⟩
        · rw [e]; rfl
        · rw [e]
          exact trivial)
      (g := F0 mid pc ls (.int (iI w) :: .int (iI y) :: .ref b :: .int (iI x) :: .ref a :: st)) rfl hsize (rest := st) rfl (by rw [hb]; exact hd) (by omega) (by have e9 : nativeFrameWords "java/lang/System" "arraycopy" 5 = 7 := (by decide); show 2 * 0 + (st.map fun v => v.category).sum + (nativeFrameWords "java/lang/System" "arraycopy" 5 + 11) ≤ Rm.locals; rw [e9]; omega)
    have e1 : copied (vp_cell (G.2.2 0) (n, .inl fun i => iI (f i))) (vp_cell (G.2.2 0) (n2, .inl fun i => iI (g i))) (iI x) (iI y) (iI w) = vp_cell (G.2.2 0) (n2, .inl (va_cpy (fun i => iI (f i)) (fun i => iI (g i)) x.toNat y.toNat w.toNat)) := by
      have := va_copied (fun z => .int z) (G.2.2 0) (G.2.2 0) (n1 := n2) (dp := (iI y).toNatClampNeg) (fun i => iI (f i)) (fun i => iI (g i)) (show (iI x).toNatClampNeg + (iI w).toNatClampNeg ≤ n by rw [ex, ew]; omega)
      rw [ex, ey, ew] at this
      rw [← ex, ← ey, ← ew] at this ⊢
      exact this
    rw [vcpy_eq] at e1
    rw [e1] at X' step
    have hl : b < H.size := (Array.getElem?_eq_some_iff.mp hc1).1
    have hheap : ((T.setVm vm').setCell b (vp_cell (G.2.2 0) (n2, .inl fun i => iI (vcpy f g x.toNat y.toNat w.toNat i)))).heap = H.setIfInBounds b (vp_cell (G.2.2 0) (n2, .inl fun i => iI (vcpy f g x.toNat y.toNat w.toNat i))) := by rw [← hT]; rfl
    generalize hH1e : H.setIfInBounds b (vp_cell (G.2.2 0) (n2, .inl fun i => iI (vcpy f g x.toNat y.toNat w.toNat i))) = H1 at hheap
    have oq : ∀ q : Nat, q ≠ b → H1[q]? = H[q]? := fun q hq => by rw [← hH1e]; simp [Array.getElem?_setIfInBounds, Ne.symm hq]
    have z1 : H1.size = H.size := by rw [← hH1e]; simp
    have hnew : va_at (G.1, G.2.1) vwCl (b, .inl (G.2.2 0, n2, .inl fun i => iI (vcpy f g x.toNat y.toNat w.toNat i))) H1 := by
      show H1[b]? = some _
      rw [← hH1e]; simp [Array.getElem?_setIfInBounds, hl]
    have hlob : lt.1 ≤ b := by rw [hH1] at hlop; exact hlop
    obtain ⟨t, a1, b1⟩ := k0 (vwr h b (.inl (0, n2, .inl (vcpy f g x.toNat y.toNat w.toNat)))) (vwr_St _ _ _) hlen ls H1 _ cells slots hv0 (vHl_put hH z1 oq hnew (fun _ _ _ q => by cases q; exact hn2))
      ⟨by rw [z1]; exact hS.1, fun q h1 h2 => by rw [oq q (fun z => h2 (by rw [z]; exact hlob))]; exact hS.2.1 q h1 h2, fun q hq => by
        rcases List.mem_append.mp hq with h | h
        · exact hS.2.2 q h
        · obtain ⟨z, -, hz⟩ := List.mem_map.mp h
          rw [← hz]
          exact hlob⟩ hbc hbs _ hheap X'
    exact ⟨t, step t a1, b1⟩
  · cases hk
/-- a return of any kind comes to the end that is asked for -/
def vRt (p : Program) (l : Launch) (e : Env) (Rm : Room) (s : State) (mid : MethodId) (args : Array Value) (below : List Frame) (meth : Method) (c : Code) (Qf : State → Prop) (G : vG) (lt : Nat × Nat) (R : vQ) : Prop :=
  ∀ (v : Option Value) (h : vHp) (H : Heap) (locs : List Loc) (ls : Array Slot) (pc : Nat) (ins : Instr), R v h → vHl G lt h H → va_S (fun q => lt.1 ≤ q) s.heap H locs → decode c.code pc = .ok (ins, 1) →
    ((ins = .ireturn ∧ ∃ x ty, v = some (.int x) ∧ meth.sig.returnType = some ty ∧ narrow ty (.int x) = .int x) ∨ (ins = .lreturn ∧ ∃ x, v = some (.long x) ∧ meth.sig.returnType = some .long) ∨
     (ins = .areturn ∧ ∃ w C, v = some w ∧ (w = .null ∨ ∃ a, w = .ref a) ∧ meth.sig.returnType = some (.object C)) ∨ (ins = .return_ ∧ v = none ∧ meth.sig.returnType = none)) →
    W p l e Rm s mid args below meth c H locs Rm.cells Rm.slots Qf (F0 mid pc ls (vpush v []))
theorem sd_iret (X : vCx p Rm s mid args meth c r m d G lt) (hRt : vRt p l e Rm s mid args below meth c Qf G lt R) : vk_iret C m R (vSm p l e Rm s mid args below meth c Qf G lt) := by
  obtain ⟨hx, hb, hml, hown, hts, hw, hrt, hnm, hm, hr, hfr, hlo, hsz⟩ := X
  have hK := hw.1
  intro pc nx lv st h bc bs X hc hRp  hlen ls H locs cells slots hv0 hH hS hbc hbs
  obtain ⟨ins, len, i, hd, hk, rfl⟩ := vlk_ok hm hr hc
  obtain ⟨hH1, hH2, hH3, hH4⟩ := id hH
  rw [vq_63] at hk
  obtain ⟨rfl, rfl, g⟩ := of_decide_eq_true hk
  rw [if_pos rfl] at g
  refine W.widen (k := Rm.cells) (n := Rm.slots) (by omega) (by omega) ?_
  exact hRt (some (.int X)) h H locs ls pc _ hRp hH hS (by rw [hb]; exact hd) (Or.inl ⟨rfl, X, .int, rfl, hrt.trans g, rfl⟩)
theorem sd_zret (X : vCx p Rm s mid args meth c r m d G lt) (hRt : vRt p l e Rm s mid args below meth c Qf G lt R) : vk_zret C m R (vSm p l e Rm s mid args below meth c Qf G lt) := by
  obtain ⟨hx, hb, hml, hown, hts, hw, hrt, hnm, hm, hr, hfr, hlo, hsz⟩ := X
  have hK := hw.1
  intro pc nx lv st h bc bs x hc hxp hRp  hlen ls H locs cells slots hv0 hH hS hbc hbs
  obtain ⟨ins, len, i, hd, hk, rfl⟩ := vlk_ok hm hr hc
  obtain ⟨hH1, hH2, hH3, hH4⟩ := id hH
  rw [vq_63] at hk
  obtain ⟨rfl, rfl, g⟩ := of_decide_eq_true hk
  rw [if_neg (by decide)] at g
  refine W.widen (k := Rm.cells) (n := Rm.slots) (by omega) (by omega) ?_
  exact hRt (some (.int (iI x))) h H locs ls pc _ hRp hH hS (by rw [hb]; exact hd) (Or.inl ⟨rfl, iI x, .boolean, rfl, hrt.trans g, by rcases hxp with rfl | rfl <;> rfl⟩)
theorem sd_lret (X : vCx p Rm s mid args meth c r m d G lt) (hRt : vRt p l e Rm s mid args below meth c Qf G lt R) : vk_lret C m R (vSm p l e Rm s mid args below meth c Qf G lt) := by
  obtain ⟨hx, hb, hml, hown, hts, hw, hrt, hnm, hm, hr, hfr, hlo, hsz⟩ := X
  have hK := hw.1
  intro pc nx lv st h bc bs L hc hRp  hlen ls H locs cells slots hv0 hH hS hbc hbs
  obtain ⟨ins, len, i, hd, hk, rfl⟩ := vlk_ok hm hr hc
  obtain ⟨hH1, hH2, hH3, hH4⟩ := id hH
  rw [vq_64] at hk
  obtain ⟨rfl, rfl, g⟩ := of_decide_eq_true hk
  refine W.widen (k := Rm.cells) (n := Rm.slots) (by omega) (by omega) ?_
  exact hRt (some (.long L)) h H locs ls pc _ hRp hH hS (by rw [hb]; exact hd) (Or.inr (Or.inl ⟨rfl, L, rfl, hrt.trans g⟩))
theorem sd_aret (X : vCx p Rm s mid args meth c r m d G lt) (hRt : vRt p l e Rm s mid args below meth c Qf G lt R) : vk_aret C m R (vSm p l e Rm s mid args below meth c Qf G lt) := by
  obtain ⟨hx, hb, hml, hown, hts, hw, hrt, hnm, hm, hr, hfr, hlo, hsz⟩ := X
  have hK := hw.1
  intro pc nx lv st h bc bs rr hc hRp  hlen ls H locs cells slots hv0 hH hS hbc hbs
  obtain ⟨ins, len, i, hd, hk, rfl⟩ := vlk_ok hm hr hc
  obtain ⟨hH1, hH2, hH3, hH4⟩ := id hH
  rw [vq_65] at hk
  obtain ⟨g1, g2⟩ := Bool.and_eq_true_iff.mp hk
  obtain ⟨rfl, rfl⟩ := of_decide_eq_true g1
  obtain ⟨Cr, hCr⟩ : ∃ Cr, r.2.2.2.1 = some (.object Cr) := by
    revert g2
    cases hq : r.2.2.2.1 with
    | none => intro g2; cases g2
    | some t => cases t <;> intro g2 <;> first | (cases g2; done) | exact ⟨_, rfl⟩
  refine W.widen (k := Rm.cells) (n := Rm.slots) (by omega) (by omega) ?_
  exact hRt (some (.ref rr)) h H locs ls pc _ hRp hH hS (by rw [hb]; exact hd) (Or.inr (Or.inr (Or.inl ⟨rfl, .ref rr, Cr, rfl, Or.inr ⟨_, rfl⟩, hrt.trans hCr⟩)))
theorem sd_aretN (X : vCx p Rm s mid args meth c r m d G lt) (hRt : vRt p l e Rm s mid args below meth c Qf G lt R) : vk_aretN C m R (vSm p l e Rm s mid args below meth c Qf G lt) := by
  obtain ⟨hx, hb, hml, hown, hts, hw, hrt, hnm, hm, hr, hfr, hlo, hsz⟩ := X
  have hK := hw.1
  intro pc nx lv st h bc bs  hc hRp  hlen ls H locs cells slots hv0 hH hS hbc hbs
  obtain ⟨ins, len, i, hd, hk, rfl⟩ := vlk_ok hm hr hc
  obtain ⟨hH1, hH2, hH3, hH4⟩ := id hH
  rw [vq_65] at hk
  obtain ⟨g1, g2⟩ := Bool.and_eq_true_iff.mp hk
  obtain ⟨rfl, rfl⟩ := of_decide_eq_true g1
  obtain ⟨Cr, hCr⟩ : ∃ Cr, r.2.2.2.1 = some (.object Cr) := by
    revert g2
    cases hq : r.2.2.2.1 with
    | none => intro g2; cases g2
    | some t => cases t <;> intro g2 <;> first | (cases g2; done) | exact ⟨_, rfl⟩
  refine W.widen (k := Rm.cells) (n := Rm.slots) (by omega) (by omega) ?_
  exact hRt (some (.null)) h H locs ls pc _ hRp hH hS (by rw [hb]; exact hd) (Or.inr (Or.inr (Or.inl ⟨rfl, .null, Cr, rfl, Or.inl rfl, hrt.trans hCr⟩)))
theorem sd_vret (X : vCx p Rm s mid args meth c r m d G lt) (hRt : vRt p l e Rm s mid args below meth c Qf G lt R) : vk_vret C m R (vSm p l e Rm s mid args below meth c Qf G lt) := by
  obtain ⟨hx, hb, hml, hown, hts, hw, hrt, hnm, hm, hr, hfr, hlo, hsz⟩ := X
  have hK := hw.1
  intro pc nx lv st h bc bs  hc hRp  hlen ls H locs cells slots hv0 hH hS hbc hbs
  obtain ⟨ins, len, i, hd, hk, rfl⟩ := vlk_ok hm hr hc
  obtain ⟨hH1, hH2, hH3, hH4⟩ := id hH
  rw [vq_66] at hk
  obtain ⟨rfl, rfl, g⟩ := of_decide_eq_true hk
  refine W.widen (k := Rm.cells) (n := Rm.slots) (by omega) (by omega) ?_
  exact hRt none h H locs ls pc _ hRp hH hS (by rw [hb]; exact hd) (Or.inr (Or.inr (Or.inr ⟨rfl, rfl, hrt.trans g⟩)))
end SD3
end
section
theorem vmn_outer (c : ClassId) (N h0 : Nat) : ∀ i : Nat, Jvm.Free.Multi.outerC c N h0 i = arrV c N (fun j => va_rf (if j < i then some (h0 + 1 + j) else none))
  | 0 => by
    show ({ cls := c, slots := Array.replicate N .null, vm := .none } : Cell) = _
    rw [arrV_new]
    refine congrArg (arrV c N) (funext fun j => ?_)
    simp [va_rf]
  | i + 1 => by
    show (Jvm.Free.Multi.outerC c N h0 i).setSlot i (.ref (h0 + 1 + i)) = _
    rw [vmn_outer c N h0 i, arrV_store]
    refine congrArg (arrV c N) (funext fun j => ?_)
    by_cases e : j = i
    · subst e
      simp [updV, va_rf]
    · by_cases h : j < i
      · simp [updV, e, h, Nat.lt_succ_of_lt h]
      · simp [updV, e, h, show ¬ j < i + 1 by omega]
section SD4
variable {p : Program} {l : Launch} {e : Env} {Rm : Room} {s : State} {mid : MethodId} {args : Array Value} {below : List Frame} {meth : Method} {c : Code} {Qf : State → Prop} {G : vG} {lt : Nat × Nat} {r : vNr} {m d : Nat} {C : vCt} {R : vQ}
theorem sd_mnew (X : vCx p Rm s mid args meth c r m d G lt) : vk_mnew C m R (vSm p l e Rm s mid args below meth c Qf G lt) := by
  obtain ⟨hx, hb, hml, hown, hts, hw, hrt, hnm, hm, hr, hfr, hlo, hsz⟩ := X
  have hK := hw.1
  intro pc nx lv st h bc bs x y hc h1p h2p h3p h4p k0 hlen ls H locs cells slots hv0 hH hS hbc hbs
  obtain ⟨ins, len, i, hd, hk, rfl⟩ := vlk_ok hm hr hc
  obtain ⟨hH1, hH2, hH3, hH4⟩ := id hH
  rw [vq_57] at hk
  split at hk
  · rename_i ix kk
    obtain ⟨g1, g2⟩ := Bool.and_eq_true_iff.mp hk
    obtain ⟨rfl, rfl⟩ := of_decide_eq_true g2
    obtain ⟨hA1, hA2⟩ := vtys_prim hK 0 (by omega)
    have hAA := (hK.2 6 _ rfl).2
    have ex : (iI x).toNatClampNeg = x.toNat := iI_nat (by omega) (by omega)
    have ey : (iI y).toNatClampNeg = y.toNat := iI_nat (by omega) (by omega)
    intro T hT X
    obtain ⟨vm₁, cA, comp, hW1, fA, fC, hO, hI, X', step⟩ := X.multianewarray2F hx (ty := .int) hown (hts _ (vT1_of (vis_eq g1) rfl)) hw.2.2.2.2.1 (hts _ (vT1_arr 0 (by omega))) (g := F0 mid pc ls (.int (iI y) :: .int (iI x) :: st)) rfl (by rw [hb]; exact hd) (n := iI x) (k := iI y) (rest := st) rfl (fun z => by rw [iI_lt0 (by omega) (by omega)] at z; omega) (fun z => by rw [iI_lt0 (by omega) (by omega)] at z; omega) (by rw [ex]; omega) (by rw [ey]; show y.toNat * 4 ≤ _; omega) (by rw [ey]; omega) rfl rfl (by rw [ex]; omega) (by rw [ex, ey]; omega)
    have hcA : cA = G.2.2 6 := Option.some.inj (fA.symm.trans hAA)
    have hcC : comp = G.2.2 0 := Option.some.inj (fC.symm.trans hA2)
    subst hcA
    subst hcC
    rw [ex, ey] at X' step
    obtain ⟨f1, f2, -, -⟩ := Jvm.Free.Multi.fill_facts (T.setVm vm₁) (G.2.2 6) (G.2.2 0) x.toNat y.toNat (defaultValue .int) x.toNat
    have fold : ∀ q : Nat, q < (T.setVm vm₁).heap.size → _ := fun q hq => Jvm.Free.Multi.fill_old (T.setVm vm₁) (G.2.2 6) (G.2.2 0) x.toNat y.toNat (defaultValue .int) (a := q) hq x.toNat
    have finn := Jvm.Free.Multi.fill_inner (T.setVm vm₁) (G.2.2 6) (G.2.2 0) x.toNat y.toNat (defaultValue .int) x.toNat
    generalize Jvm.Free.Multi.fill (T.setVm vm₁) (G.2.2 6) (G.2.2 0) x.toNat y.toNat (defaultValue .int) x.toNat = F at X' step f1 f2 fold finn
    have hTh : (T.setVm vm₁).heap = H := hT
    rw [hTh] at f1 f2 fold finn
    have hout : Jvm.Free.Multi.outerC (G.2.2 6) x.toNat H.size x.toNat = vp_cell (G.2.2 6) (x.toNat, .inr (.inr (.inr (.inr (fun i => if i < x.toNat then some (H.size + 1 + i) else none))))) := by
      rw [vp_cell_q]
      exact vmn_outer (G.2.2 6) x.toNat H.size x.toNat
    rw [hout] at f2
    have hin0 : Jvm.Free.Multi.innerC (G.2.2 0) y.toNat (defaultValue .int) = vp_cell (G.2.2 0) (y.toNat, .inl fun _ => iI 0) := by
      rw [vp_cell_i, ← arrV_new]
      rfl
    rw [hin0] at finn
    let h' : vHp := (h.1, h.2.1 + 1 + x.toNat, fun q => if q = h.2.1 then some (.inl (6, x.toNat, .inr fun i => if i < x.toNat then some (h.2.1 + 1 + i) else none)) else if h.2.1 < q ∧ q < h.2.1 + 1 + x.toNat then some (.inl (0, y.toNat, .inl fun _ => 0)) else if h.2.1 + 1 + x.toNat ≤ q then none else h.2.2 q)
    have hNm : vNm h h' x.toNat y.toNat := ⟨rfl, rfl, by show (if _ then _ else _) = _; rw [if_pos rfl], fun j hj => by show (if _ then _ else _) = _; rw [if_neg (by omega), if_pos (by omega)], fun q hq => by show (if _ then _ else _) = _; rw [if_neg (by omega), if_neg (by omega), if_neg (by omega)]; rfl⟩
    have hH' : vHl G lt h' F.heap := by
      refine ⟨hH1, by show h.2.1 + 1 + x.toNat = _; rw [f1, hH2], by rw [f1]; omega, fun q z hq => ?_⟩
      have hq : (if q = h.2.1 then some (.inl (6, x.toNat, .inr fun i => if i < x.toNat then some (h.2.1 + 1 + i) else none)) else if h.2.1 < q ∧ q < h.2.1 + 1 + x.toNat then some (.inl (0, y.toNat, .inl fun _ => 0)) else if h.2.1 + 1 + x.toNat ≤ q then none else h.2.2 q : Option vE) = some z := hq
      by_cases e1 : q = h.2.1
      · rw [if_pos e1] at hq
        cases hq
        refine ⟨?_, fun _ _ _ w => by cases w; omega⟩
        rw [e1, hH2]
        exact f2
      · rw [if_neg e1] at hq
        by_cases e2 : h.2.1 < q ∧ q < h.2.1 + 1 + x.toNat
        · rw [if_pos e2] at hq
          cases hq
          refine ⟨?_, fun _ _ _ w => by cases w; omega⟩
          have := finn (q - (H.size + 1)) (by omega)
          rw [show H.size + 1 + (q - (H.size + 1)) = q by omega] at this
          exact this
        · rw [if_neg e2] at hq
          by_cases e3 : h.2.1 + 1 + x.toNat ≤ q
          · rw [if_pos e3] at hq; cases hq
          · rw [if_neg e3] at hq
            obtain ⟨w1, w2⟩ := hH4 q z hq
            exact ⟨w1.kept (fold q w1.lt), w2⟩
    obtain ⟨t, a1, b1⟩ := k0 h' hNm hlen ls F.heap locs (cells + 1 + x.toNat) (slots + x.toNat + x.toNat * y.toNat) hv0 hH' ⟨by rw [f1]; have := hS.1; omega, fun q h1 h2 => (fold q (Nat.lt_of_lt_of_le h1 hS.1)).trans (hS.2.1 q h1 h2), hS.2.2⟩ (by omega) (by omega) F rfl X'
    refine ⟨t, step t ?_, b1⟩
    have e : T.heap.size = h.2.1 := by rw [hT, hH2]
    rw [e]
    exact a1
  · cases hk
end SD4
end
section
section SD5
variable {p : Program} {l : Launch} {e : Env} {Rm : Room} {s : State} {mid : MethodId} {args : Array Value} {below : List Frame} {meth : Method} {c : Code} {Qf : State → Prop} {G : vG} {lt : Nat × Nat} {r : vNr} {m d : Nat} {C : vCt} {R : vQ}
theorem v_rules (X : vCx p Rm s mid args meth c r m d G lt) (hC : ∀ mc ms mj As h Q, C mc ms mj As h Q → vMet l G lt d mc ms mj As h Q) (hRt : vRt p l e Rm s mid args below meth c Qf G lt R) : vCl C m R (vSm p l e Rm s mid args below meth c Qf G lt) :=
  ⟨⟨(sd_ci X), (sd_cl X), (sd_null X), (sd_iload X), (sd_lload X), (sd_aload X), (sd_aloadN X), (sd_istore X)⟩,
   ⟨(sd_lstore X), (sd_astore X), (sd_astoreN X), (sd_iinc X), (sd_iadd X), (sd_isub X), (sd_imul X), (sd_iand X)⟩,
   ⟨(sd_ior X), (sd_ishl X), (sd_ishr X), (sd_iushr X), (sd_idiv X), (sd_irem X), (sd_ineg X), (sd_ladd X)⟩,
   ⟨(sd_lsub X), (sd_lmul X), (sd_land X), (sd_lor X), (sd_lxor X), (sd_lshl X), (sd_lshr X), (sd_lushr X)⟩,
   ⟨(sd_lcmp X), (sd_i2l X), (sd_l2i X), (sd_dup X), (sd_dup2 X), (sd_pop X), (sd_goto X), (sd_ifeq X)⟩,
   ⟨(sd_ifne X), (sd_iflt X), (sd_ifge X), (sd_ifgt X), (sd_ifle X), (sd_iceq X), (sd_icne X), (sd_iclt X)⟩,
   ⟨(sd_icge X), (sd_icgt X), (sd_icle X), (sd_ifnullR X), (sd_ifnullN X), (sd_ifnonR X), (sd_ifnonN X), (sd_sw X)⟩,
   ⟨(sd_get X), (sd_put X), (sd_putF X), (sd_gets X), (sd_iald X), (sd_lald X), (sd_bald X), (sd_aald X)⟩,
   ⟨(sd_iast X), (sd_last X), (sd_bast X), (sd_aast X), (sd_aastA X), (sd_alen X), (sd_new X), (sd_newa X)⟩,
   ⟨(sd_anew X), (sd_mnew X), (sd_inv X hC), (sd_ins X hC), (sd_insN X hC), (sd_inp X hC), (sd_inpN X hC), (sd_obj X)⟩,
   ⟨(sd_acpy X), (sd_mmax X), (sd_mmin X), (sd_iret X hRt), (sd_zret X hRt), (sd_lret X hRt), (sd_aret X hRt), (sd_aretN X hRt)⟩,
   (sd_vret X hRt)⟩
end SD5
theorem v_met (l : Launch) (G : vG) (lt : Nat × Nat) : ∀ (d mc ms mj : Nat) (As : List Value) (h : vHp) (Q : vQ), vCall d mc ms mj As h Q → vMet l G lt d mc ms mj As h Q := by
  intro d
  induction d with
  | zero => intro mc ms mj As h Q k; exact k.elim
  | succ d ih =>
    intro mc ms mj As h Q k r hr hj
    obtain ⟨hlen, hW⟩ := k
    obtain ⟨w1, w2, w3, w4, w5, w6, w7, w8, w9, w10⟩ := vnok_all hj hr
    have hvml : vml mj = r.2.2.1 := by unfold vml; rw [hr]
    rw [hvml] at hlen hW
    refine Met.ofW (cc := r.2.1) (maxL := r.2.2.1) (ret := r.2.2.2.1) w7 rfl ?_
    intro p e s m args below meth c s₁ B hml hv
    obtain ⟨rfl, hH, hw⟩ := hv
    have hlocks := B.notSynchronized
    have X : vCx p (vrm (d + 1) mc ms) s m As.toArray meth c r mj d G lt := ⟨B.exec, B.bytes, hml, findClass_of_methodNamed B.named, fun w hw' => atoms_spec (ws := Cond.code r.1 r.2.1 r.2.2.1 r.2.2.2.1 :: vT1) B.pre w (List.mem_cons_of_mem _ hw'), hw, B.returns, (name_of_methodNamed B.named B.method).1, Nat.lt_of_lt_of_le hj (Nat.sub_le _ _), hr, Nat.le_refl _, by show 60 * d + 60 ≤ 60 * (d + 1); omega, hH.2.2.1⟩
    have hRt : vRt p l e (vrm (d + 1) mc ms) s m As.toArray below meth c (MQ below (vQc G lt Q) As.toArray s mc ms (fun q => lt.1 ≤ q)) G lt Q := by
      intro v h2 H locs ls pc ins hQ hH2 hS hd hk
      have hq : ∀ t : State, t.heap = H → s.WarmedH t.vm → vQc G lt Q As.toArray s (.returned v) t := fun t ht hW' => ⟨⟨v, h2, rfl, hQ, by rw [ht]; exact hH2, by rw [ht]; exact vWd_moved hW' hw (fun q h1 h2 => hS.2.1 q h1 h2)⟩, hS.F ht⟩
      rcases hk with ⟨rfl, x, ty, rfl, g1, g2⟩ | ⟨rfl, x, rfl, g1⟩ | ⟨rfl, w, Cr, rfl, g1, g2⟩ | ⟨rfl, rfl, g1⟩
      · exact W.zret B.exec rfl g1 g2 hq hS.2.2 hd
      · exact W.lret B.exec rfl g1 hq hS.2.2 hd
      · exact W.aret B.exec rfl g2 (Or.inl ⟨_, rfl⟩) g1 hq hS.2.2 hd
      · exact W.vret B.exec rfl g1 hq hS.2.2 hd
    rw [lg_entry_eq]
    exact hW _ (v_rules X (fun mc ms mj As h Q z => ih mc ms mj As h Q z) hRt) (by rw [vpad_len hlen]; exact hml.symm) _ s.heap [] 0 0 (vLv_entry hlen) hH va_S.rf (by show 0 + mc ≤ mc; omega) (by show 0 + ms ≤ ms; omega)
end
section
theorem r_iv0 {d_ m : Nat} {R : vQ} {pc nx : Nat} {lv st : List Value} {h : vHp} {bc bs : Nat} {mj b ci : Nat} {fs : List Value} (hc : vlk m pc = some (58, mj, 0, 0, nx)) (hn : vrc mj = some (ci, 0)) (ho : hg h b = some (.inr (ci, fs))) (hw : Nat.ble ((st.map fun v => v.category).sum) 8 = true) (k : vCall d_ 0 0 mj [.ref b] h (fun v h' => vW (vCall d_) m R nx lv (vpush v st) h' bc bs)) : vW (vCall d_) m R pc lv (.ref b :: st) h bc bs :=
  r_inv (As := []) (mc := 0) (ms := 0) hc rfl hn ho (Nat.le_of_ble_eq_true hw) k
theorem r_iv1 {d_ m : Nat} {R : vQ} {pc nx : Nat} {lv st : List Value} {h : vHp} {bc bs : Nat} {v1 : Value} {mj b ci : Nat} {fs : List Value} (hc : vlk m pc = some (58, mj, 0, 0, nx)) (hn : vrc mj = some (ci, 1)) (ho : hg h b = some (.inr (ci, fs))) (hw : Nat.ble ((st.map fun v => v.category).sum) 8 = true) (k : vCall d_ 0 0 mj [.ref b, v1] h (fun v h' => vW (vCall d_) m R nx lv (vpush v st) h' bc bs)) : vW (vCall d_) m R pc lv (v1 :: .ref b :: st) h bc bs :=
  r_inv (As := [v1]) (mc := 0) (ms := 0) hc rfl hn ho (Nat.le_of_ble_eq_true hw) k
theorem r_is1 {d_ m : Nat} {R : vQ} {pc nx : Nat} {lv st : List Value} {h : vHp} {bc bs : Nat} {v1 : Value} {mj ci : Nat} (hc : vlk m pc = some (59, mj, 0, 0, nx)) (hn : vrc mj = some (ci, 1)) (hw : Nat.ble ((st.map fun v => v.category).sum) 8 = true) (k : vCall d_ 0 0 mj [v1] h (fun v h' => vW (vCall d_) m R nx lv (vpush v st) h' bc bs)) : vW (vCall d_) m R pc lv (v1 :: st) h bc bs :=
  r_ins (As := [v1]) (mc := 0) (ms := 0) hc rfl hn (Nat.le_of_ble_eq_true hw) k
theorem r_isN1 {d_ m : Nat} {R : vQ} {pc nx : Nat} {lv st : List Value} {h : vHp} {bc bs : Nat} {v1 : Value} {mj ci : Nat} (hc : vlk m pc = some (82, mj, 0, 0, nx)) (hn : vrc mj = some (ci, 1)) (hw : Nat.ble ((st.map fun v => v.category).sum) 8 = true) (k : vCall d_ 0 0 mj [v1] h (fun v h' => vW (vCall d_) m R nx lv (vpush v st) h' bc bs)) : vW (vCall d_) m R pc lv (v1 :: st) h bc bs :=
  r_insN (As := [v1]) (mc := 0) (ms := 0) hc rfl hn (Nat.le_of_ble_eq_true hw) k
theorem r_iv2 {d_ m : Nat} {R : vQ} {pc nx : Nat} {lv st : List Value} {h : vHp} {bc bs : Nat} {v1 v2 : Value} {mj b ci : Nat} {fs : List Value} (hc : vlk m pc = some (58, mj, 0, 0, nx)) (hn : vrc mj = some (ci, 2)) (ho : hg h b = some (.inr (ci, fs))) (hw : Nat.ble ((st.map fun v => v.category).sum) 8 = true) (k : vCall d_ 0 0 mj [.ref b, v1, v2] h (fun v h' => vW (vCall d_) m R nx lv (vpush v st) h' bc bs)) : vW (vCall d_) m R pc lv (v2 :: v1 :: .ref b :: st) h bc bs :=
  r_inv (As := [v1, v2]) (mc := 0) (ms := 0) hc rfl hn ho (Nat.le_of_ble_eq_true hw) k
theorem r_is2 {d_ m : Nat} {R : vQ} {pc nx : Nat} {lv st : List Value} {h : vHp} {bc bs : Nat} {v1 v2 : Value} {mj ci : Nat} (hc : vlk m pc = some (59, mj, 0, 0, nx)) (hn : vrc mj = some (ci, 2)) (hw : Nat.ble ((st.map fun v => v.category).sum) 8 = true) (k : vCall d_ 0 0 mj [v1, v2] h (fun v h' => vW (vCall d_) m R nx lv (vpush v st) h' bc bs)) : vW (vCall d_) m R pc lv (v2 :: v1 :: st) h bc bs :=
  r_ins (As := [v1, v2]) (mc := 0) (ms := 0) hc rfl hn (Nat.le_of_ble_eq_true hw) k
theorem r_isN2 {d_ m : Nat} {R : vQ} {pc nx : Nat} {lv st : List Value} {h : vHp} {bc bs : Nat} {v1 v2 : Value} {mj ci : Nat} (hc : vlk m pc = some (82, mj, 0, 0, nx)) (hn : vrc mj = some (ci, 2)) (hw : Nat.ble ((st.map fun v => v.category).sum) 8 = true) (k : vCall d_ 0 0 mj [v1, v2] h (fun v h' => vW (vCall d_) m R nx lv (vpush v st) h' bc bs)) : vW (vCall d_) m R pc lv (v2 :: v1 :: st) h bc bs :=
  r_insN (As := [v1, v2]) (mc := 0) (ms := 0) hc rfl hn (Nat.le_of_ble_eq_true hw) k
theorem r_iv3 {d_ m : Nat} {R : vQ} {pc nx : Nat} {lv st : List Value} {h : vHp} {bc bs : Nat} {v1 v2 v3 : Value} {mj b ci : Nat} {fs : List Value} (hc : vlk m pc = some (58, mj, 0, 0, nx)) (hn : vrc mj = some (ci, 3)) (ho : hg h b = some (.inr (ci, fs))) (hw : Nat.ble ((st.map fun v => v.category).sum) 8 = true) (k : vCall d_ 0 0 mj [.ref b, v1, v2, v3] h (fun v h' => vW (vCall d_) m R nx lv (vpush v st) h' bc bs)) : vW (vCall d_) m R pc lv (v3 :: v2 :: v1 :: .ref b :: st) h bc bs :=
  r_inv (As := [v1, v2, v3]) (mc := 0) (ms := 0) hc rfl hn ho (Nat.le_of_ble_eq_true hw) k
theorem r_is3 {d_ m : Nat} {R : vQ} {pc nx : Nat} {lv st : List Value} {h : vHp} {bc bs : Nat} {v1 v2 v3 : Value} {mj ci : Nat} (hc : vlk m pc = some (59, mj, 0, 0, nx)) (hn : vrc mj = some (ci, 3)) (hw : Nat.ble ((st.map fun v => v.category).sum) 8 = true) (k : vCall d_ 0 0 mj [v1, v2, v3] h (fun v h' => vW (vCall d_) m R nx lv (vpush v st) h' bc bs)) : vW (vCall d_) m R pc lv (v3 :: v2 :: v1 :: st) h bc bs :=
  r_ins (As := [v1, v2, v3]) (mc := 0) (ms := 0) hc rfl hn (Nat.le_of_ble_eq_true hw) k
theorem r_isN3 {d_ m : Nat} {R : vQ} {pc nx : Nat} {lv st : List Value} {h : vHp} {bc bs : Nat} {v1 v2 v3 : Value} {mj ci : Nat} (hc : vlk m pc = some (82, mj, 0, 0, nx)) (hn : vrc mj = some (ci, 3)) (hw : Nat.ble ((st.map fun v => v.category).sum) 8 = true) (k : vCall d_ 0 0 mj [v1, v2, v3] h (fun v h' => vW (vCall d_) m R nx lv (vpush v st) h' bc bs)) : vW (vCall d_) m R pc lv (v3 :: v2 :: v1 :: st) h bc bs :=
  r_insN (As := [v1, v2, v3]) (mc := 0) (ms := 0) hc rfl hn (Nat.le_of_ble_eq_true hw) k
theorem r_iv4 {d_ m : Nat} {R : vQ} {pc nx : Nat} {lv st : List Value} {h : vHp} {bc bs : Nat} {v1 v2 v3 v4 : Value} {mj b ci : Nat} {fs : List Value} (hc : vlk m pc = some (58, mj, 0, 0, nx)) (hn : vrc mj = some (ci, 4)) (ho : hg h b = some (.inr (ci, fs))) (hw : Nat.ble ((st.map fun v => v.category).sum) 8 = true) (k : vCall d_ 0 0 mj [.ref b, v1, v2, v3, v4] h (fun v h' => vW (vCall d_) m R nx lv (vpush v st) h' bc bs)) : vW (vCall d_) m R pc lv (v4 :: v3 :: v2 :: v1 :: .ref b :: st) h bc bs :=
  r_inv (As := [v1, v2, v3, v4]) (mc := 0) (ms := 0) hc rfl hn ho (Nat.le_of_ble_eq_true hw) k
theorem r_is4 {d_ m : Nat} {R : vQ} {pc nx : Nat} {lv st : List Value} {h : vHp} {bc bs : Nat} {v1 v2 v3 v4 : Value} {mj ci : Nat} (hc : vlk m pc = some (59, mj, 0, 0, nx)) (hn : vrc mj = some (ci, 4)) (hw : Nat.ble ((st.map fun v => v.category).sum) 8 = true) (k : vCall d_ 0 0 mj [v1, v2, v3, v4] h (fun v h' => vW (vCall d_) m R nx lv (vpush v st) h' bc bs)) : vW (vCall d_) m R pc lv (v4 :: v3 :: v2 :: v1 :: st) h bc bs :=
  r_ins (As := [v1, v2, v3, v4]) (mc := 0) (ms := 0) hc rfl hn (Nat.le_of_ble_eq_true hw) k
theorem r_isN4 {d_ m : Nat} {R : vQ} {pc nx : Nat} {lv st : List Value} {h : vHp} {bc bs : Nat} {v1 v2 v3 v4 : Value} {mj ci : Nat} (hc : vlk m pc = some (82, mj, 0, 0, nx)) (hn : vrc mj = some (ci, 4)) (hw : Nat.ble ((st.map fun v => v.category).sum) 8 = true) (k : vCall d_ 0 0 mj [v1, v2, v3, v4] h (fun v h' => vW (vCall d_) m R nx lv (vpush v st) h' bc bs)) : vW (vCall d_) m R pc lv (v4 :: v3 :: v2 :: v1 :: st) h bc bs :=
  r_insN (As := [v1, v2, v3, v4]) (mc := 0) (ms := 0) hc rfl hn (Nat.le_of_ble_eq_true hw) k
theorem r_iv5 {d_ m : Nat} {R : vQ} {pc nx : Nat} {lv st : List Value} {h : vHp} {bc bs : Nat} {v1 v2 v3 v4 v5 : Value} {mj b ci : Nat} {fs : List Value} (hc : vlk m pc = some (58, mj, 0, 0, nx)) (hn : vrc mj = some (ci, 5)) (ho : hg h b = some (.inr (ci, fs))) (hw : Nat.ble ((st.map fun v => v.category).sum) 8 = true) (k : vCall d_ 0 0 mj [.ref b, v1, v2, v3, v4, v5] h (fun v h' => vW (vCall d_) m R nx lv (vpush v st) h' bc bs)) : vW (vCall d_) m R pc lv (v5 :: v4 :: v3 :: v2 :: v1 :: .ref b :: st) h bc bs :=
  r_inv (As := [v1, v2, v3, v4, v5]) (mc := 0) (ms := 0) hc rfl hn ho (Nat.le_of_ble_eq_true hw) k
theorem r_is5 {d_ m : Nat} {R : vQ} {pc nx : Nat} {lv st : List Value} {h : vHp} {bc bs : Nat} {v1 v2 v3 v4 v5 : Value} {mj ci : Nat} (hc : vlk m pc = some (59, mj, 0, 0, nx)) (hn : vrc mj = some (ci, 5)) (hw : Nat.ble ((st.map fun v => v.category).sum) 8 = true) (k : vCall d_ 0 0 mj [v1, v2, v3, v4, v5] h (fun v h' => vW (vCall d_) m R nx lv (vpush v st) h' bc bs)) : vW (vCall d_) m R pc lv (v5 :: v4 :: v3 :: v2 :: v1 :: st) h bc bs :=
  r_ins (As := [v1, v2, v3, v4, v5]) (mc := 0) (ms := 0) hc rfl hn (Nat.le_of_ble_eq_true hw) k
theorem r_isN5 {d_ m : Nat} {R : vQ} {pc nx : Nat} {lv st : List Value} {h : vHp} {bc bs : Nat} {v1 v2 v3 v4 v5 : Value} {mj ci : Nat} (hc : vlk m pc = some (82, mj, 0, 0, nx)) (hn : vrc mj = some (ci, 5)) (hw : Nat.ble ((st.map fun v => v.category).sum) 8 = true) (k : vCall d_ 0 0 mj [v1, v2, v3, v4, v5] h (fun v h' => vW (vCall d_) m R nx lv (vpush v st) h' bc bs)) : vW (vCall d_) m R pc lv (v5 :: v4 :: v3 :: v2 :: v1 :: st) h bc bs :=
  r_insN (As := [v1, v2, v3, v4, v5]) (mc := 0) (ms := 0) hc rfl hn (Nat.le_of_ble_eq_true hw) k
theorem r_ip0 {d_ m : Nat} {R : vQ} {pc nx : Nat} {lv st : List Value} {h : vHp} {bc bs : Nat} {mj b ci mc ms : Nat} (hc : vlk m pc = some (60, mj, 0, 0, nx)) (hn : vrc mj = some (ci, 0)) (hw : Nat.ble ((st.map fun v => v.category).sum) 8 = true) (k : vCall d_ mc ms mj [.ref b] h (fun v h' => vW (vCall d_) m R nx lv (vpush v st) h' bc bs)) : vW (vCall d_) m R pc lv (.ref b :: st) h (bc + mc) (bs + ms) :=
  r_inp (As := []) hc rfl hn (Nat.le_of_ble_eq_true hw) k
theorem r_ipN0 {d_ m : Nat} {R : vQ} {pc nx : Nat} {lv st : List Value} {h : vHp} {bc bs : Nat} {mj b ci mc ms : Nat} (hc : vlk m pc = some (83, mj, 0, 0, nx)) (hn : vrc mj = some (ci, 0)) (hw : Nat.ble ((st.map fun v => v.category).sum) 8 = true) (k : vCall d_ mc ms mj [.ref b] h (fun v h' => vW (vCall d_) m R nx lv (vpush v st) h' bc bs)) : vW (vCall d_) m R pc lv (.ref b :: st) h (bc + mc) (bs + ms) :=
  r_inpN (As := []) hc rfl hn (Nat.le_of_ble_eq_true hw) k
theorem vcmp_lo (x y : Int) : -2147483648 ≤ vcmp x y := by unfold vcmp; split <;> first | omega | (split <;> omega)
theorem vcmp_hi (x y : Int) : vcmp x y ≤ 2147483647 := by unfold vcmp; split <;> first | omega | (split <;> omega)
theorem r_lceq {d_ m : Nat} {R : vQ} {pc nx : Nat} {lv st : List Value} {h : vHp} {bc bs : Nat} {p1 a : Nat} {x y : Int} (hc : vlk m pc = some (31, 0, 0, 0, p1)) (hc2 : vlk m p1 = some (70, a, 0, 0, nx)) (h1 : -9223372036854775808 ≤ x) (h2 : x ≤ 9223372036854775807) (h3 : -9223372036854775808 ≤ y) (h4 : y ≤ 9223372036854775807) (k0 : x = y → vW (vCall d_) m R a lv st h bc bs) (k1 : x ≠ y → vW (vCall d_) m R nx lv st h bc bs) : vW (vCall d_) m R pc lv (.long (lZ y) :: .long (lZ x) :: st) h bc bs :=
  r_lcmp hc h1 h2 h3 h4 (r_ifeq hc2 (vcmp_lo x y) (vcmp_hi x y) (fun q => k0 (by unfold vcmp at q; split at q <;> first | omega | (split at q <;> omega))) (fun q => k1 (by unfold vcmp at q; split at q <;> first | omega | (split at q <;> omega))))
theorem r_lcne {d_ m : Nat} {R : vQ} {pc nx : Nat} {lv st : List Value} {h : vHp} {bc bs : Nat} {p1 a : Nat} {x y : Int} (hc : vlk m pc = some (31, 0, 0, 0, p1)) (hc2 : vlk m p1 = some (71, a, 0, 0, nx)) (h1 : -9223372036854775808 ≤ x) (h2 : x ≤ 9223372036854775807) (h3 : -9223372036854775808 ≤ y) (h4 : y ≤ 9223372036854775807) (k0 : x ≠ y → vW (vCall d_) m R a lv st h bc bs) (k1 : x = y → vW (vCall d_) m R nx lv st h bc bs) : vW (vCall d_) m R pc lv (.long (lZ y) :: .long (lZ x) :: st) h bc bs :=
  r_lcmp hc h1 h2 h3 h4 (r_ifne hc2 (vcmp_lo x y) (vcmp_hi x y) (fun q => k0 (by unfold vcmp at q; split at q <;> first | omega | (split at q <;> omega))) (fun q => k1 (by unfold vcmp at q; split at q <;> first | omega | (split at q <;> omega))))
theorem r_lclt {d_ m : Nat} {R : vQ} {pc nx : Nat} {lv st : List Value} {h : vHp} {bc bs : Nat} {p1 a : Nat} {x y : Int} (hc : vlk m pc = some (31, 0, 0, 0, p1)) (hc2 : vlk m p1 = some (72, a, 0, 0, nx)) (h1 : -9223372036854775808 ≤ x) (h2 : x ≤ 9223372036854775807) (h3 : -9223372036854775808 ≤ y) (h4 : y ≤ 9223372036854775807) (k0 : x < y → vW (vCall d_) m R a lv st h bc bs) (k1 : y ≤ x → vW (vCall d_) m R nx lv st h bc bs) : vW (vCall d_) m R pc lv (.long (lZ y) :: .long (lZ x) :: st) h bc bs :=
  r_lcmp hc h1 h2 h3 h4 (r_iflt hc2 (vcmp_lo x y) (vcmp_hi x y) (fun q => k0 (by unfold vcmp at q; split at q <;> first | omega | (split at q <;> omega))) (fun q => k1 (by unfold vcmp at q; split at q <;> first | omega | (split at q <;> omega))))
theorem r_lcge {d_ m : Nat} {R : vQ} {pc nx : Nat} {lv st : List Value} {h : vHp} {bc bs : Nat} {p1 a : Nat} {x y : Int} (hc : vlk m pc = some (31, 0, 0, 0, p1)) (hc2 : vlk m p1 = some (73, a, 0, 0, nx)) (h1 : -9223372036854775808 ≤ x) (h2 : x ≤ 9223372036854775807) (h3 : -9223372036854775808 ≤ y) (h4 : y ≤ 9223372036854775807) (k0 : y ≤ x → vW (vCall d_) m R a lv st h bc bs) (k1 : x < y → vW (vCall d_) m R nx lv st h bc bs) : vW (vCall d_) m R pc lv (.long (lZ y) :: .long (lZ x) :: st) h bc bs :=
  r_lcmp hc h1 h2 h3 h4 (r_ifge hc2 (vcmp_lo x y) (vcmp_hi x y) (fun q => k0 (by unfold vcmp at q; split at q <;> first | omega | (split at q <;> omega))) (fun q => k1 (by unfold vcmp at q; split at q <;> first | omega | (split at q <;> omega))))
theorem r_lcgt {d_ m : Nat} {R : vQ} {pc nx : Nat} {lv st : List Value} {h : vHp} {bc bs : Nat} {p1 a : Nat} {x y : Int} (hc : vlk m pc = some (31, 0, 0, 0, p1)) (hc2 : vlk m p1 = some (74, a, 0, 0, nx)) (h1 : -9223372036854775808 ≤ x) (h2 : x ≤ 9223372036854775807) (h3 : -9223372036854775808 ≤ y) (h4 : y ≤ 9223372036854775807) (k0 : y < x → vW (vCall d_) m R a lv st h bc bs) (k1 : x ≤ y → vW (vCall d_) m R nx lv st h bc bs) : vW (vCall d_) m R pc lv (.long (lZ y) :: .long (lZ x) :: st) h bc bs :=
  r_lcmp hc h1 h2 h3 h4 (r_ifgt hc2 (vcmp_lo x y) (vcmp_hi x y) (fun q => k0 (by unfold vcmp at q; split at q <;> first | omega | (split at q <;> omega))) (fun q => k1 (by unfold vcmp at q; split at q <;> first | omega | (split at q <;> omega))))
theorem r_lcle {d_ m : Nat} {R : vQ} {pc nx : Nat} {lv st : List Value} {h : vHp} {bc bs : Nat} {p1 a : Nat} {x y : Int} (hc : vlk m pc = some (31, 0, 0, 0, p1)) (hc2 : vlk m p1 = some (75, a, 0, 0, nx)) (h1 : -9223372036854775808 ≤ x) (h2 : x ≤ 9223372036854775807) (h3 : -9223372036854775808 ≤ y) (h4 : y ≤ 9223372036854775807) (k0 : x ≤ y → vW (vCall d_) m R a lv st h bc bs) (k1 : y < x → vW (vCall d_) m R nx lv st h bc bs) : vW (vCall d_) m R pc lv (.long (lZ y) :: .long (lZ x) :: st) h bc bs :=
  r_lcmp hc h1 h2 h3 h4 (r_ifle hc2 (vcmp_lo x y) (vcmp_hi x y) (fun q => k0 (by unfold vcmp at q; split at q <;> first | omega | (split at q <;> omega))) (fun q => k1 (by unfold vcmp at q; split at q <;> first | omega | (split at q <;> omega))))
end
section
theorem ml_87 : vml 87 = 1 := by decide +kernel
theorem ml_88 : vml 88 = 1 := by decide +kernel
theorem ml_89 : vml 89 = 2 := by decide +kernel
theorem ml_90 : vml 90 = 1 := by decide +kernel
theorem ml_92 : vml 92 = 1 := by decide +kernel
theorem ml_93 : vml 93 = 2 := by decide +kernel
theorem vr_88 : vrc 88 = some (5, 1) := by decide +kernel
theorem c87_0 : vlk 87 0 = some (4, 0, 0, 0, 1) := by decide +kernel
theorem c87_1 : vlk 87 1 = some (72, 14, 0, 0, 4) := by decide +kernel
theorem c87_4 : vlk 87 4 = some (4, 0, 0, 0, 5) := by decide +kernel
theorem c87_5 : vlk 87 5 = some (1, 0, 0, 10, 7) := by decide +kernel
theorem c87_7 : vlk 87 7 = some (79, 14, 0, 0, 10) := by decide +kernel
theorem c87_10 : vlk 87 10 = some (1, 0, 0, 1, 11) := by decide +kernel
theorem c87_11 : vlk 87 11 = some (37, 15, 0, 0, 14) := by decide +kernel
theorem c87_14 : vlk 87 14 = some (1, 0, 0, 0, 15) := by decide +kernel
theorem c87_15 : vlk 87 15 = some (63, 1, 0, 0, 16) := by decide +kernel
theorem c88_0 : vlk 88 0 = some (4, 0, 0, 0, 1) := by decide +kernel
theorem c88_1 : vlk 88 1 = some (72, 15, 0, 0, 4) := by decide +kernel
theorem c88_4 : vlk 88 4 = some (4, 0, 0, 0, 5) := by decide +kernel
theorem c88_5 : vlk 88 5 = some (1, 0, 0, 720, 8) := by decide +kernel
theorem c88_8 : vlk 88 8 = some (79, 15, 0, 0, 11) := by decide +kernel
theorem c88_11 : vlk 88 11 = some (1, 0, 0, 1, 12) := by decide +kernel
theorem c88_12 : vlk 88 12 = some (37, 16, 0, 0, 15) := by decide +kernel
theorem c88_15 : vlk 88 15 = some (1, 0, 0, 0, 16) := by decide +kernel
theorem c88_16 : vlk 88 16 = some (63, 1, 0, 0, 17) := by decide +kernel
theorem c89_0 : vlk 89 0 = some (4, 0, 0, 0, 1) := by decide +kernel
theorem c89_1 : vlk 89 1 = some (59, 88, 0, 0, 4) := by decide +kernel
theorem c89_4 : vlk 89 4 = some (70, 23, 0, 0, 7) := by decide +kernel
theorem c89_7 : vlk 89 7 = some (4, 1, 0, 0, 8) := by decide +kernel
theorem c89_8 : vlk 89 8 = some (59, 88, 0, 0, 11) := by decide +kernel
theorem c89_11 : vlk 89 11 = some (70, 23, 0, 0, 14) := by decide +kernel
theorem c89_14 : vlk 89 14 = some (4, 0, 0, 0, 15) := by decide +kernel
theorem c89_15 : vlk 89 15 = some (4, 1, 0, 0, 16) := by decide +kernel
theorem c89_16 : vlk 89 16 = some (80, 23, 0, 0, 19) := by decide +kernel
theorem c89_19 : vlk 89 19 = some (1, 0, 0, 1, 20) := by decide +kernel
theorem c89_20 : vlk 89 20 = some (37, 24, 0, 0, 23) := by decide +kernel
theorem c89_23 : vlk 89 23 = some (1, 0, 0, 0, 24) := by decide +kernel
theorem c89_24 : vlk 89 24 = some (63, 1, 0, 0, 25) := by decide +kernel
theorem c90_0 : vlk 90 0 = some (4, 0, 0, 0, 1) := by decide +kernel
theorem c90_1 : vlk 90 1 = some (72, 15, 0, 0, 4) := by decide +kernel
theorem c90_4 : vlk 90 4 = some (4, 0, 0, 0, 5) := by decide +kernel
theorem c90_5 : vlk 90 5 = some (1, 0, 0, 1024, 8) := by decide +kernel
theorem c90_8 : vlk 90 8 = some (79, 15, 0, 0, 11) := by decide +kernel
theorem c90_11 : vlk 90 11 = some (1, 0, 0, 1, 12) := by decide +kernel
theorem c90_12 : vlk 90 12 = some (37, 16, 0, 0, 15) := by decide +kernel
theorem c90_15 : vlk 90 15 = some (1, 0, 0, 0, 16) := by decide +kernel
theorem c90_16 : vlk 90 16 = some (63, 1, 0, 0, 17) := by decide +kernel
theorem c92_0 : vlk 92 0 = some (4, 0, 0, 0, 1) := by decide +kernel
theorem c92_1 : vlk 92 1 = some (72, 13, 0, 0, 4) := by decide +kernel
theorem c92_4 : vlk 92 4 = some (4, 0, 0, 0, 5) := by decide +kernel
theorem c92_5 : vlk 92 5 = some (1, 0, 0, 4, 6) := by decide +kernel
theorem c92_6 : vlk 92 6 = some (79, 13, 0, 0, 9) := by decide +kernel
theorem c92_9 : vlk 92 9 = some (1, 0, 0, 1, 10) := by decide +kernel
theorem c92_10 : vlk 92 10 = some (37, 14, 0, 0, 13) := by decide +kernel
theorem c92_13 : vlk 92 13 = some (1, 0, 0, 0, 14) := by decide +kernel
theorem c92_14 : vlk 92 14 = some (63, 1, 0, 0, 15) := by decide +kernel
theorem c93_0 : vlk 93 0 = some (4, 0, 0, 0, 1) := by decide +kernel
theorem c93_1 : vlk 93 1 = some (4, 1, 0, 0, 2) := by decide +kernel
theorem c93_2 : vlk 93 2 = some (11, 0, 0, 0, 3) := by decide +kernel
theorem c93_3 : vlk 93 3 = some (1, 0, 0, 720, 6) := by decide +kernel
theorem c93_6 : vlk 93 6 = some (85, 0, 0, 0, 9) := by decide +kernel
theorem c93_9 : vlk 93 9 = some (1, 0, 0, 1, 10) := by decide +kernel
theorem c93_10 : vlk 93 10 = some (12, 0, 0, 0, 11) := by decide +kernel
theorem c93_11 : vlk 93 11 = some (63, 0, 0, 0, 12) := by decide +kernel
/-! the tests of names, days, sets, lists -/
theorem k_isDay {d : Nat} {z : Int} {h : vHp} {Q : vQ} (h1 : -2147483648 ≤ z) (h2 : z ≤ 2147483647) (kT : 0 ≤ z → z < 720 → Q (some (.int (iI 1))) h) (kF : (z < 0 ∨ 720 ≤ z) → Q (some (.int (iI 0))) h) : vCall (d + 1) 0 0 88 [.int (iI z)] h Q := by
  refine vin 1 [_] ml_88 rfl rfl ?_
  refine r_iload c88_0 rfl ?_
  refine r_iflt c88_1 (by omega) (by omega) (fun c_1 => ?_) (fun c_1 => ?_)
  · refine r_ci c88_15 ?_
    refine r_zret (st := []) c88_16 (by omega) ?_
    exact kF (Or.inl c_1)
  · refine r_iload c88_4 rfl (r_ci c88_5 ?_)
    refine r_icge c88_8 (by omega) (by omega) (by omega) (by omega) (fun c_8 => ?_) (fun c_8 => ?_)
    · refine r_ci c88_15 ?_
      refine r_zret (st := []) c88_16 (by omega) ?_
      exact kF (Or.inr c_8)
    · refine r_ci c88_11 (r_goto c88_12 ?_)
      refine r_zret (st := []) c88_16 (by omega) ?_
      exact kT c_1 c_8
theorem k_isName {d : Nat} {z : Int} {h : vHp} {Q : vQ} (h1 : -2147483648 ≤ z) (h2 : z ≤ 2147483647) (kT : 0 ≤ z → z < 10 → Q (some (.int (iI 1))) h) (kF : (z < 0 ∨ 10 ≤ z) → Q (some (.int (iI 0))) h) : vCall (d + 1) 0 0 87 [.int (iI z)] h Q := by
  refine vin 1 [_] ml_87 rfl rfl ?_
  refine r_iload c87_0 rfl ?_
  refine r_iflt c87_1 (by omega) (by omega) (fun c_1 => ?_) (fun c_1 => ?_)
  · refine r_ci c87_14 ?_
    refine r_zret (st := []) c87_15 (by omega) ?_
    exact kF (Or.inl c_1)
  · refine r_iload c87_4 rfl (r_ci c87_5 ?_)
    refine r_icge c87_7 (by omega) (by omega) (by omega) (by omega) (fun c_7 => ?_) (fun c_7 => ?_)
    · refine r_ci c87_14 ?_
      refine r_zret (st := []) c87_15 (by omega) ?_
      exact kF (Or.inr c_7)
    · refine r_ci c87_10 (r_goto c87_11 ?_)
      refine r_zret (st := []) c87_15 (by omega) ?_
      exact kT c_1 c_7
theorem k_isSet {d : Nat} {z : Int} {h : vHp} {Q : vQ} (h1 : -2147483648 ≤ z) (h2 : z ≤ 2147483647) (kT : 0 ≤ z → z < 1024 → Q (some (.int (iI 1))) h) (kF : (z < 0 ∨ 1024 ≤ z) → Q (some (.int (iI 0))) h) : vCall (d + 1) 0 0 90 [.int (iI z)] h Q := by
  refine vin 1 [_] ml_90 rfl rfl ?_
  refine r_iload c90_0 rfl ?_
  refine r_iflt c90_1 (by omega) (by omega) (fun c_1 => ?_) (fun c_1 => ?_)
  · refine r_ci c90_15 ?_
    refine r_zret (st := []) c90_16 (by omega) ?_
    exact kF (Or.inl c_1)
  · refine r_iload c90_4 rfl (r_ci c90_5 ?_)
    refine r_icge c90_8 (by omega) (by omega) (by omega) (by omega) (fun c_8 => ?_) (fun c_8 => ?_)
    · refine r_ci c90_15 ?_
      refine r_zret (st := []) c90_16 (by omega) ?_
      exact kF (Or.inr c_8)
    · refine r_ci c90_11 (r_goto c90_12 ?_)
      refine r_zret (st := []) c90_16 (by omega) ?_
      exact kT c_1 c_8
theorem k_isList {d : Nat} {z : Int} {h : vHp} {Q : vQ} (h1 : -2147483648 ≤ z) (h2 : z ≤ 2147483647) (kT : 0 ≤ z → z < 4 → Q (some (.int (iI 1))) h) (kF : (z < 0 ∨ 4 ≤ z) → Q (some (.int (iI 0))) h) : vCall (d + 1) 0 0 92 [.int (iI z)] h Q := by
  refine vin 1 [_] ml_92 rfl rfl ?_
  refine r_iload c92_0 rfl ?_
  refine r_iflt c92_1 (by omega) (by omega) (fun c_1 => ?_) (fun c_1 => ?_)
  · refine r_ci c92_13 ?_
    refine r_zret (st := []) c92_14 (by omega) ?_
    exact kF (Or.inl c_1)
  · refine r_iload c92_4 rfl (r_ci c92_5 ?_)
    refine r_icge c92_6 (by omega) (by omega) (by omega) (by omega) (fun c_6 => ?_) (fun c_6 => ?_)
    · refine r_ci c92_13 ?_
      refine r_zret (st := []) c92_14 (by omega) ?_
      exact kF (Or.inr c_6)
    · refine r_ci c92_9 (r_goto c92_10 ?_)
      refine r_zret (st := []) c92_14 (by omega) ?_
      exact kT c_1 c_6
theorem k_isSpan {d : Nat} {x y : Int} {h : vHp} {Q : vQ} (h1 : -2147483648 ≤ x) (h2 : x ≤ 2147483647) (h3 : -2147483648 ≤ y) (h4 : y ≤ 2147483647) (kT : 0 ≤ x → x ≤ y → y < 720 → Q (some (.int (iI 1))) h) (kF : ¬ (0 ≤ x ∧ x ≤ y ∧ y < 720) → Q (some (.int (iI 0))) h) : vCall (d + 2) 0 0 89 [.int (iI x), .int (iI y)] h Q := by
  refine vin 2 [_, _] ml_89 rfl rfl ?_
  have no : ¬ (0 ≤ x ∧ x ≤ y ∧ y < 720) → vW (vCall (d + 1)) 89 Q 23 [.int (iI x), .int (iI y)] [] h 0 0 := fun q => by
    refine r_ci c89_23 ?_
    refine r_zret (st := []) c89_24 (by omega) ?_
    exact kF q
  refine r_iload c89_0 rfl ?_
  refine r_is1 c89_1 vr_88 rfl (k_isDay h1 h2 (fun a1 a2 => ?_) (fun a1 => ?_))
  · refine r_ifeq c89_4 (by omega) (by omega) (fun q => by exfalso; omega) (fun c_4 => ?_)
    refine r_iload c89_7 rfl ?_
    refine r_is1 c89_8 vr_88 rfl (k_isDay h3 h4 (fun b1 b2 => ?_) (fun b1 => ?_))
    · refine r_ifeq c89_11 (by omega) (by omega) (fun q => by exfalso; omega) (fun c_11 => ?_)
      refine r_iload c89_14 rfl (r_iload c89_15 rfl ?_)
      refine r_icgt c89_16 (by omega) (by omega) (by omega) (by omega) (fun c_16 => ?_) (fun c_16 => ?_)
      · exact no (by omega)
      · refine r_ci c89_19 (r_goto c89_20 ?_)
        refine r_zret (st := []) c89_24 (by omega) ?_
        exact kT a1 c_16 b2
    · refine r_ifeq c89_11 (by omega) (by omega) (fun c_11 => ?_) (fun q => by exfalso; omega)
      exact no (by omega)
  · refine r_ifeq c89_4 (by omega) (by omega) (fun c_4 => ?_) (fun q => by exfalso; omega)
    exact no (by omega)
theorem k_lastOfBlock {d : Nat} {x y : Int} {h : vHp} {Q : vQ} (h1 : 0 ≤ x) (h2 : x ≤ 100000) (h3 : 0 ≤ y) (h4 : y ≤ 100000) (k : Q (some (.int (iI ((if 720 < x + y then 720 else x + y) - 1)))) h) : vCall (d + 1) 0 0 93 [.int (iI x), .int (iI y)] h Q := by
  refine vin 2 [_, _] ml_93 rfl rfl ?_
  refine r_iload c93_0 rfl (r_iload c93_1 rfl (r_iadd c93_2 (r_ci c93_3 (r_mmin c93_6 (by omega) (by omega) (by omega) (by omega) (Nat.le_of_ble_eq_true rfl) (r_ci c93_9 (r_isub c93_10 ?_))))))
  refine r_iret (st := []) c93_11 ?_
  exact k
end
section
/-! bits of longs; words of days -/
def vbt (x : Int) (j : Nat) : Bool := (lZ x).toBitVec.getLsbD j
theorem lZ_norm (X : Int64) : (lZ X.toInt).toInt = X.toInt := by rw [lZ_of]
theorem vbt_and (x y : Int) (j : Nat) : vbt (vandL x y) j = (vbt x j && vbt y j) := by
  unfold vbt vandL; rw [lZ_of, Int64.toBitVec_and, BitVec.getLsbD_and]
theorem vbt_or (x y : Int) (j : Nat) : vbt (vorL x y) j = (vbt x j || vbt y j) := by
  unfold vbt vorL; rw [lZ_of, Int64.toBitVec_or, BitVec.getLsbD_or]
theorem vbt_xor (x y : Int) (j : Nat) : vbt (vxorL x y) j = (vbt x j ^^ vbt y j) := by
  unfold vbt vxorL; rw [lZ_of, Int64.toBitVec_xor, BitVec.getLsbD_xor]
theorem vbt_ge (x : Int) {j : Nat} (h : 64 ≤ j) : vbt x j = false := BitVec.getLsbD_of_ge _ _ h
theorem vbt_m1 (j : Nat) : vbt (-1) j = decide (j < 64) := by
  have e : (lZ (-1)).toBitVec = BitVec.allOnes 64 := by decide
  unfold vbt; rw [e, BitVec.getLsbD_allOnes]
theorem vbt_0 (j : Nat) : vbt 0 j = false := by
  have e : (lZ 0).toBitVec = 0#64 := by decide
  unfold vbt; rw [e, BitVec.getLsbD_zero]
theorem vbt_1 (j : Nat) : vbt 1 j = decide (j = 0) := by
  have e : (lZ 1).toBitVec = 1#64 := by decide
  unfold vbt; rw [e, BitVec.getLsbD_one]; simp
theorem vbt_all (j : Nat) : vbt 1152921504606846975 j = decide (j < 60) := by
  by_cases h : j < 64
  · have e : ∀ k, k < 64 → vbt 1152921504606846975 k = decide (k < 60) := by decide +kernel
    exact e j h
  · rw [vbt_ge _ (by omega)]; simp; omega
theorem vbt_bit {s : Nat} (hs : s < 64) (j : Nat) : vbt (vshlL 1 (s : Int)) j = decide (j = s) := by
  by_cases h : j < 64
  · have e : ∀ t : Nat, t < 64 → ∀ k : Nat, k < 64 → vbt (vshlL 1 (t : Int)) k = decide (k = t) := by decide +kernel
    exact e s hs j h
  · rw [vbt_ge _ (by omega)]; simp; omega
theorem vbt_shr {s : Nat} (hs : s < 64) (x : Int) (j : Nat) (hm : vbt x 63 = false) : vbt (vshrL x (s : Int)) j = vbt x (s + j) := by
  have e : ∀ t : Nat, t < 64 → ((iI (t : Int)).toInt64 &&& 63).toBitVec.smod 64 = BitVec.ofNat 64 t := by decide +kernel
  unfold vbt vshrL
  rw [lZ_of, Int64.toBitVec_shiftRight]
  rw [e s hs]
  rw [BitVec.sshiftRight_eq', BitVec.getLsbD_sshiftRight, BitVec.msb_eq_getLsbD_last]
  have e2 : (BitVec.ofNat 64 s).toNat = s := by rw [BitVec.toNat_ofNat]; exact Nat.mod_eq_of_lt (by omega)
  rw [e2]
  have hm' : (lZ x).toBitVec.getLsbD 63 = false := hm
  by_cases h : 64 ≤ j
  · rw [BitVec.getLsbD_of_ge _ (s + j) (by omega)]; simp [h]
  · by_cases h2 : s + j < 64
    · simp [h2, h]
    · rw [BitVec.getLsbD_of_ge _ (s + j) (by omega), if_neg h2, show (64 - 1) = 63 from rfl, hm', Bool.and_false]
theorem vbt_shl {s : Nat} (hs : s < 64) (x : Int) (j : Nat) : vbt (vshlL x (s : Int)) j = (decide (j < 64) && decide (s ≤ j) && vbt x (j - s)) := by
  have e : ∀ t : Nat, t < 64 → ((iI (t : Int)).toInt64 &&& 63).toBitVec.smod 64 = BitVec.ofNat 64 t := by decide +kernel
  unfold vbt vshlL
  rw [lZ_of, Int64.toBitVec_shiftLeft]
  rw [e s hs]
  have e2 : (BitVec.ofNat 64 s).toNat = s := by rw [BitVec.toNat_ofNat]; exact Nat.mod_eq_of_lt (by omega)
  rw [BitVec.shiftLeft_eq', BitVec.getLsbD_shiftLeft, e2]
  by_cases h : s ≤ j
  · simp [h, Nat.not_lt.mpr h]
  · simp [h, Nat.not_le.mp h]
theorem vbt_ext {x y : Int} (hx : (lZ x).toInt = x) (hy : (lZ y).toInt = y) (h : ∀ j, j < 64 → vbt x j = vbt y j) : x = y := by
  have e : lZ x = lZ y := Int64.toBitVec_inj.1 (BitVec.eq_of_getLsbD_eq (fun j hj => h j hj))
  rw [← hx, ← hy, e]
theorem vand1 (x : Int) : vandL x 1 = if vbt x 0 = true then 1 else 0 := by
  refine vbt_ext (lZ_norm _) (by split <;> decide) (fun j _ => ?_)
  rw [vbt_and, vbt_1]
  by_cases h : j = 0
  · subst h
    cases hb : vbt x 0
    · simp [vbt_0]
    · simp [vbt_1]
  · cases hb : vbt x 0
    · simp [vbt_0, h]
    · simp [vbt_1, h]
/-- w is the i-th word of a set -/
def vWs (S : Nat → Bool) (i : Nat) (w : Int) : Prop := (lZ w).toInt = w ∧ (∀ j, j < 60 → vbt w j = S (60 * i + j)) ∧ ∀ j, 60 ≤ j → vbt w j = false
theorem vWs_or {S T : Nat → Bool} {i : Nat} {w v : Int} (h : vWs S i w) (g : vWs T i v) : vWs (fun d => S d || T d) i (vorL w v) :=
  ⟨lZ_norm _, fun j hj => by rw [vbt_or, h.2.1 j hj, g.2.1 j hj], fun j hj => by rw [vbt_or, h.2.2 j hj, g.2.2 j hj]; rfl⟩
theorem vWs_and {S T : Nat → Bool} {i : Nat} {w v : Int} (h : vWs S i w) (g : vWs T i v) : vWs (fun d => S d && T d) i (vandL w v) :=
  ⟨lZ_norm _, fun j hj => by rw [vbt_and, h.2.1 j hj, g.2.1 j hj], fun j hj => by rw [vbt_and, h.2.2 j hj, g.2.2 j hj]; rfl⟩
theorem vWs_andn {S T : Nat → Bool} {i : Nat} {w v : Int} (h : vWs S i w) (g : vWs T i v) : vWs (fun d => S d && !T d) i (vandL w (vxorL v (-1))) :=
  ⟨lZ_norm _, fun j hj => by rw [vbt_and, vbt_xor, vbt_m1, h.2.1 j hj, g.2.1 j hj]; simp [show j < 64 by omega], fun j hj => by rw [vbt_and, h.2.2 j hj]; rfl⟩
theorem vWs_inv {S : Nat → Bool} {i : Nat} {w : Int} (h : vWs S i w) : vWs (fun d => !S d) i (vxorL w 1152921504606846975) :=
  ⟨lZ_norm _, fun j hj => by rw [vbt_xor, vbt_all, h.2.1 j hj]; simp [hj], fun j hj => by rw [vbt_xor, vbt_all, h.2.2 j hj]; simp; omega⟩
theorem vWs_0 (i : Nat) : vWs (fun _ => false) i 0 := ⟨by decide, fun j _ => vbt_0 j, fun j _ => vbt_0 j⟩
theorem vWs_set {S : Nat → Bool} {i s : Nat} {w : Int} (h : vWs S i w) (hs : s < 60) : vWs (vup S (60 * i + s) true) i (vorL w (vshlL 1 (s : Int))) := by
  refine ⟨lZ_norm _, fun j hj => ?_, fun j hj => ?_⟩
  · rw [vbt_or, vbt_bit (by omega), h.2.1 j hj]
    unfold vup
    by_cases e : j = s
    · subst e; simp
    · rw [if_neg (by omega)]; simp [e]
  · rw [vbt_or, vbt_bit (by omega), h.2.2 j hj]; simp; omega
theorem vWs_clr {S : Nat → Bool} {i s : Nat} {w : Int} (h : vWs S i w) (hs : s < 60) : vWs (vup S (60 * i + s) false) i (vandL w (vxorL (vshlL 1 (s : Int)) (-1))) := by
  refine ⟨lZ_norm _, fun j hj => ?_, fun j hj => ?_⟩
  · rw [vbt_and, vbt_xor, vbt_m1, vbt_bit (by omega), h.2.1 j hj]
    unfold vup
    by_cases e : j = s
    · subst e; simp; omega
    · rw [if_neg (by omega)]; simp [e, show j < 64 by omega]
  · rw [vbt_and, h.2.2 j hj]; rfl
theorem vWs_up {S : Nat → Bool} {i k : Nat} {b : Bool} {w : Int} (h : vWs S i w) (hk : k / 60 ≠ i) : vWs (vup S k b) i w :=
  ⟨h.1, fun j hj => by rw [h.2.1 j hj]; unfold vup; rw [if_neg (by omega)], h.2.2⟩
theorem vWs_bit {S : Nat → Bool} {i s : Nat} {w : Int} (h : vWs S i w) (hs : s < 60) : vandL (vshrL w (s : Int)) 1 = if S (60 * i + s) = true then 1 else 0 := by
  rw [vand1, vbt_shr (by omega) w 0 (h.2.2 63 (by omega)), Nat.add_zero, h.2.1 s hs]
theorem vWs_cong {S T : Nat → Bool} {i : Nat} {w : Int} (h : vWs S i w) (e : ∀ j, j < 60 → S (60 * i + j) = T (60 * i + j)) : vWs T i w := ⟨h.1, fun j hj => by rw [h.2.1 j hj, e j hj], h.2.2⟩
theorem vWs_uniq {S : Nat → Bool} {i : Nat} {w v : Int} (h : vWs S i w) (g : vWs S i v) : w = v := by
  refine vbt_ext h.1 g.1 (fun j _ => ?_)
  by_cases e : j < 60
  · rw [h.2.1 j e, g.2.1 j e]
  · rw [h.2.2 j (by omega), g.2.2 j (by omega)]
/-- words of no bit above the 60th are small -/
theorem vWs_range {S : Nat → Bool} {i : Nat} {w : Int} (h : vWs S i w) : 0 ≤ w ∧ w < 1152921504606846976 := by
  have hm : (lZ w).toBitVec.msb = false := by rw [BitVec.msb_eq_getLsbD_last]; exact h.2.2 63 (by omega)
  have e : (lZ w).toInt = ((lZ w).toBitVec.toNat : Int) := BitVec.toInt_eq_toNat_of_msb hm
  have hl : (lZ w).toBitVec.toNat < 2 ^ 60 := (BitVec.toNat_lt_iff_getLsbD_eq_false 60 (by omega)).2 (fun k => h.2.2 (60 + k) (by omega))
  have := h.1
  omega
end
section
theorem ml_1 : vml 1 = 2 := by decide +kernel
theorem ml_2 : vml 2 = 2 := by decide +kernel
theorem ml_3 : vml 3 = 2 := by decide +kernel
theorem ml_4 : vml 4 = 2 := by decide +kernel
theorem ml_5 : vml 5 = 3 := by decide +kernel
theorem ml_6 : vml 6 = 3 := by decide +kernel
theorem ml_7 : vml 7 = 3 := by decide +kernel
theorem ml_8 : vml 8 = 3 := by decide +kernel
theorem ml_9 : vml 9 = 2 := by decide +kernel
theorem c1_0 : vlk 1 0 = some (4, 1, 0, 0, 1) := by decide +kernel
theorem c1_1 : vlk 1 1 = some (82, 88, 0, 0, 4) := by decide +kernel
theorem c1_4 : vlk 1 4 = some (70, 32, 0, 0, 7) := by decide +kernel
theorem c1_7 : vlk 1 7 = some (6, 0, 0, 0, 8) := by decide +kernel
theorem c1_8 : vlk 1 8 = some (42, 0, 0, 0, 11) := by decide +kernel
theorem c1_11 : vlk 1 11 = some (4, 1, 0, 0, 12) := by decide +kernel
theorem c1_12 : vlk 1 12 = some (1, 0, 0, 60, 14) := by decide +kernel
theorem c1_14 : vlk 1 14 = some (14, 0, 0, 0, 15) := by decide +kernel
theorem c1_15 : vlk 1 15 = some (46, 0, 0, 0, 16) := by decide +kernel
theorem c1_16 : vlk 1 16 = some (4, 1, 0, 0, 17) := by decide +kernel
theorem c1_17 : vlk 1 17 = some (1, 0, 0, 60, 19) := by decide +kernel
theorem c1_19 : vlk 1 19 = some (15, 0, 0, 0, 20) := by decide +kernel
theorem c1_20 : vlk 1 20 = some (29, 0, 0, 0, 21) := by decide +kernel
theorem c1_21 : vlk 1 21 = some (2, 0, 0, 1, 22) := by decide +kernel
theorem c1_22 : vlk 1 22 = some (25, 0, 0, 0, 23) := by decide +kernel
theorem c1_23 : vlk 1 23 = some (2, 0, 0, 0, 24) := by decide +kernel
theorem c1_24 : vlk 1 24 = some (31, 0, 0, 0, 25) := by decide +kernel
theorem c1_25 : vlk 1 25 = some (70, 32, 0, 0, 28) := by decide +kernel
theorem c1_28 : vlk 1 28 = some (1, 0, 0, 1, 29) := by decide +kernel
theorem c1_29 : vlk 1 29 = some (37, 33, 0, 0, 32) := by decide +kernel
theorem c1_32 : vlk 1 32 = some (1, 0, 0, 0, 33) := by decide +kernel
theorem c1_33 : vlk 1 33 = some (63, 1, 0, 0, 34) := by decide +kernel
theorem c2_0 : vlk 2 0 = some (4, 1, 0, 0, 1) := by decide +kernel
theorem c2_1 : vlk 2 1 = some (82, 88, 0, 0, 4) := by decide +kernel
theorem c2_4 : vlk 2 4 = some (70, 25, 0, 0, 7) := by decide +kernel
theorem c2_7 : vlk 2 7 = some (6, 0, 0, 0, 8) := by decide +kernel
theorem c2_8 : vlk 2 8 = some (42, 0, 0, 0, 11) := by decide +kernel
theorem c2_11 : vlk 2 11 = some (4, 1, 0, 0, 12) := by decide +kernel
theorem c2_12 : vlk 2 12 = some (1, 0, 0, 60, 14) := by decide +kernel
theorem c2_14 : vlk 2 14 = some (14, 0, 0, 0, 15) := by decide +kernel
theorem c2_15 : vlk 2 15 = some (35, 0, 0, 0, 16) := by decide +kernel
theorem c2_16 : vlk 2 16 = some (46, 0, 0, 0, 17) := by decide +kernel
theorem c2_17 : vlk 2 17 = some (2, 0, 0, 1, 18) := by decide +kernel
theorem c2_18 : vlk 2 18 = some (4, 1, 0, 0, 19) := by decide +kernel
theorem c2_19 : vlk 2 19 = some (1, 0, 0, 60, 21) := by decide +kernel
theorem c2_21 : vlk 2 21 = some (15, 0, 0, 0, 22) := by decide +kernel
theorem c2_22 : vlk 2 22 = some (28, 0, 0, 0, 23) := by decide +kernel
theorem c2_23 : vlk 2 23 = some (26, 0, 0, 0, 24) := by decide +kernel
theorem c2_24 : vlk 2 24 = some (50, 0, 0, 0, 25) := by decide +kernel
theorem c2_25 : vlk 2 25 = some (66, 0, 0, 0, 26) := by decide +kernel
theorem c3_0 : vlk 3 0 = some (4, 1, 0, 0, 1) := by decide +kernel
theorem c3_1 : vlk 3 1 = some (82, 88, 0, 0, 4) := by decide +kernel
theorem c3_4 : vlk 3 4 = some (70, 29, 0, 0, 7) := by decide +kernel
theorem c3_7 : vlk 3 7 = some (6, 0, 0, 0, 8) := by decide +kernel
theorem c3_8 : vlk 3 8 = some (42, 0, 0, 0, 11) := by decide +kernel
theorem c3_11 : vlk 3 11 = some (4, 1, 0, 0, 12) := by decide +kernel
theorem c3_12 : vlk 3 12 = some (1, 0, 0, 60, 14) := by decide +kernel
theorem c3_14 : vlk 3 14 = some (14, 0, 0, 0, 15) := by decide +kernel
theorem c3_15 : vlk 3 15 = some (35, 0, 0, 0, 16) := by decide +kernel
theorem c3_16 : vlk 3 16 = some (46, 0, 0, 0, 17) := by decide +kernel
theorem c3_17 : vlk 3 17 = some (2, 0, 0, 1, 18) := by decide +kernel
theorem c3_18 : vlk 3 18 = some (4, 1, 0, 0, 19) := by decide +kernel
theorem c3_19 : vlk 3 19 = some (1, 0, 0, 60, 21) := by decide +kernel
theorem c3_21 : vlk 3 21 = some (15, 0, 0, 0, 22) := by decide +kernel
theorem c3_22 : vlk 3 22 = some (28, 0, 0, 0, 23) := by decide +kernel
theorem c3_23 : vlk 3 23 = some (2, 0, 0, (-1), 26) := by decide +kernel
theorem c3_26 : vlk 3 26 = some (27, 0, 0, 0, 27) := by decide +kernel
theorem c3_27 : vlk 3 27 = some (25, 0, 0, 0, 28) := by decide +kernel
theorem c3_28 : vlk 3 28 = some (50, 0, 0, 0, 29) := by decide +kernel
theorem c3_29 : vlk 3 29 = some (66, 0, 0, 0, 30) := by decide +kernel
theorem c4_0 : vlk 4 0 = some (1, 0, 0, 0, 1) := by decide +kernel
theorem c4_1 : vlk 4 1 = some (7, 1, 0, 0, 2) := by decide +kernel
theorem c4_2 : vlk 4 2 = some (4, 1, 0, 0, 3) := by decide +kernel
theorem c4_3 : vlk 4 3 = some (1, 0, 0, 12, 5) := by decide +kernel
theorem c4_5 : vlk 4 5 = some (79, 21, 0, 0, 8) := by decide +kernel
theorem c4_8 : vlk 4 8 = some (6, 0, 0, 0, 9) := by decide +kernel
theorem c4_9 : vlk 4 9 = some (42, 0, 0, 0, 12) := by decide +kernel
theorem c4_12 : vlk 4 12 = some (4, 1, 0, 0, 13) := by decide +kernel
theorem c4_13 : vlk 4 13 = some (2, 0, 0, 0, 14) := by decide +kernel
theorem c4_14 : vlk 4 14 = some (50, 0, 0, 0, 15) := by decide +kernel
theorem c4_15 : vlk 4 15 = some (10, 1, 0, 1, 18) := by decide +kernel
theorem c4_18 : vlk 4 18 = some (37, 2, 0, 0, 21) := by decide +kernel
theorem c4_21 : vlk 4 21 = some (66, 0, 0, 0, 22) := by decide +kernel
theorem c5_0 : vlk 5 0 = some (1, 0, 0, 0, 1) := by decide +kernel
theorem c5_1 : vlk 5 1 = some (7, 2, 0, 0, 2) := by decide +kernel
theorem c5_2 : vlk 5 2 = some (4, 2, 0, 0, 3) := by decide +kernel
theorem c5_3 : vlk 5 3 = some (1, 0, 0, 12, 5) := by decide +kernel
theorem c5_5 : vlk 5 5 = some (79, 26, 0, 0, 8) := by decide +kernel
theorem c5_8 : vlk 5 8 = some (6, 0, 0, 0, 9) := by decide +kernel
theorem c5_9 : vlk 5 9 = some (42, 0, 0, 0, 12) := by decide +kernel
theorem c5_12 : vlk 5 12 = some (4, 2, 0, 0, 13) := by decide +kernel
theorem c5_13 : vlk 5 13 = some (6, 1, 0, 0, 14) := by decide +kernel
theorem c5_14 : vlk 5 14 = some (42, 0, 0, 0, 17) := by decide +kernel
theorem c5_17 : vlk 5 17 = some (4, 2, 0, 0, 18) := by decide +kernel
theorem c5_18 : vlk 5 18 = some (46, 0, 0, 0, 19) := by decide +kernel
theorem c5_19 : vlk 5 19 = some (50, 0, 0, 0, 20) := by decide +kernel
theorem c5_20 : vlk 5 20 = some (10, 2, 0, 1, 23) := by decide +kernel
theorem c5_23 : vlk 5 23 = some (37, 2, 0, 0, 26) := by decide +kernel
theorem c5_26 : vlk 5 26 = some (66, 0, 0, 0, 27) := by decide +kernel
theorem c6_0 : vlk 6 0 = some (1, 0, 0, 0, 1) := by decide +kernel
theorem c6_1 : vlk 6 1 = some (7, 2, 0, 0, 2) := by decide +kernel
theorem c6_2 : vlk 6 2 = some (4, 2, 0, 0, 3) := by decide +kernel
theorem c6_3 : vlk 6 3 = some (1, 0, 0, 12, 5) := by decide +kernel
theorem c6_5 : vlk 6 5 = some (79, 29, 0, 0, 8) := by decide +kernel
theorem c6_8 : vlk 6 8 = some (6, 0, 0, 0, 9) := by decide +kernel
theorem c6_9 : vlk 6 9 = some (42, 0, 0, 0, 12) := by decide +kernel
theorem c6_12 : vlk 6 12 = some (4, 2, 0, 0, 13) := by decide +kernel
theorem c6_13 : vlk 6 13 = some (35, 0, 0, 0, 14) := by decide +kernel
theorem c6_14 : vlk 6 14 = some (46, 0, 0, 0, 15) := by decide +kernel
theorem c6_15 : vlk 6 15 = some (6, 1, 0, 0, 16) := by decide +kernel
theorem c6_16 : vlk 6 16 = some (42, 0, 0, 0, 19) := by decide +kernel
theorem c6_19 : vlk 6 19 = some (4, 2, 0, 0, 20) := by decide +kernel
theorem c6_20 : vlk 6 20 = some (46, 0, 0, 0, 21) := by decide +kernel
theorem c6_21 : vlk 6 21 = some (26, 0, 0, 0, 22) := by decide +kernel
theorem c6_22 : vlk 6 22 = some (50, 0, 0, 0, 23) := by decide +kernel
theorem c6_23 : vlk 6 23 = some (10, 2, 0, 1, 26) := by decide +kernel
theorem c6_26 : vlk 6 26 = some (37, 2, 0, 0, 29) := by decide +kernel
theorem c6_29 : vlk 6 29 = some (66, 0, 0, 0, 30) := by decide +kernel
theorem c7_0 : vlk 7 0 = some (1, 0, 0, 0, 1) := by decide +kernel
theorem c7_1 : vlk 7 1 = some (7, 2, 0, 0, 2) := by decide +kernel
theorem c7_2 : vlk 7 2 = some (4, 2, 0, 0, 3) := by decide +kernel
theorem c7_3 : vlk 7 3 = some (1, 0, 0, 12, 5) := by decide +kernel
theorem c7_5 : vlk 7 5 = some (79, 33, 0, 0, 8) := by decide +kernel
theorem c7_8 : vlk 7 8 = some (6, 0, 0, 0, 9) := by decide +kernel
theorem c7_9 : vlk 7 9 = some (42, 0, 0, 0, 12) := by decide +kernel
theorem c7_12 : vlk 7 12 = some (4, 2, 0, 0, 13) := by decide +kernel
theorem c7_13 : vlk 7 13 = some (35, 0, 0, 0, 14) := by decide +kernel
theorem c7_14 : vlk 7 14 = some (46, 0, 0, 0, 15) := by decide +kernel
theorem c7_15 : vlk 7 15 = some (6, 1, 0, 0, 16) := by decide +kernel
theorem c7_16 : vlk 7 16 = some (42, 0, 0, 0, 19) := by decide +kernel
theorem c7_19 : vlk 7 19 = some (4, 2, 0, 0, 20) := by decide +kernel
theorem c7_20 : vlk 7 20 = some (46, 0, 0, 0, 21) := by decide +kernel
theorem c7_21 : vlk 7 21 = some (2, 0, 0, (-1), 24) := by decide +kernel
theorem c7_24 : vlk 7 24 = some (27, 0, 0, 0, 25) := by decide +kernel
theorem c7_25 : vlk 7 25 = some (25, 0, 0, 0, 26) := by decide +kernel
theorem c7_26 : vlk 7 26 = some (50, 0, 0, 0, 27) := by decide +kernel
theorem c7_27 : vlk 7 27 = some (10, 2, 0, 1, 30) := by decide +kernel
theorem c7_30 : vlk 7 30 = some (37, 2, 0, 0, 33) := by decide +kernel
theorem c7_33 : vlk 7 33 = some (66, 0, 0, 0, 34) := by decide +kernel
theorem c8_0 : vlk 8 0 = some (1, 0, 0, 0, 1) := by decide +kernel
theorem c8_1 : vlk 8 1 = some (7, 2, 0, 0, 2) := by decide +kernel
theorem c8_2 : vlk 8 2 = some (4, 2, 0, 0, 3) := by decide +kernel
theorem c8_3 : vlk 8 3 = some (1, 0, 0, 12, 5) := by decide +kernel
theorem c8_5 : vlk 8 5 = some (79, 29, 0, 0, 8) := by decide +kernel
theorem c8_8 : vlk 8 8 = some (6, 0, 0, 0, 9) := by decide +kernel
theorem c8_9 : vlk 8 9 = some (42, 0, 0, 0, 12) := by decide +kernel
theorem c8_12 : vlk 8 12 = some (4, 2, 0, 0, 13) := by decide +kernel
theorem c8_13 : vlk 8 13 = some (35, 0, 0, 0, 14) := by decide +kernel
theorem c8_14 : vlk 8 14 = some (46, 0, 0, 0, 15) := by decide +kernel
theorem c8_15 : vlk 8 15 = some (6, 1, 0, 0, 16) := by decide +kernel
theorem c8_16 : vlk 8 16 = some (42, 0, 0, 0, 19) := by decide +kernel
theorem c8_19 : vlk 8 19 = some (4, 2, 0, 0, 20) := by decide +kernel
theorem c8_20 : vlk 8 20 = some (46, 0, 0, 0, 21) := by decide +kernel
theorem c8_21 : vlk 8 21 = some (25, 0, 0, 0, 22) := by decide +kernel
theorem c8_22 : vlk 8 22 = some (50, 0, 0, 0, 23) := by decide +kernel
theorem c8_23 : vlk 8 23 = some (10, 2, 0, 1, 26) := by decide +kernel
theorem c8_26 : vlk 8 26 = some (37, 2, 0, 0, 29) := by decide +kernel
theorem c8_29 : vlk 8 29 = some (66, 0, 0, 0, 30) := by decide +kernel
theorem c9_0 : vlk 9 0 = some (1, 0, 0, 0, 1) := by decide +kernel
theorem c9_1 : vlk 9 1 = some (7, 1, 0, 0, 2) := by decide +kernel
theorem c9_2 : vlk 9 2 = some (4, 1, 0, 0, 3) := by decide +kernel
theorem c9_3 : vlk 9 3 = some (1, 0, 0, 12, 5) := by decide +kernel
theorem c9_5 : vlk 9 5 = some (79, 26, 0, 0, 8) := by decide +kernel
theorem c9_8 : vlk 9 8 = some (6, 0, 0, 0, 9) := by decide +kernel
theorem c9_9 : vlk 9 9 = some (42, 0, 0, 0, 12) := by decide +kernel
theorem c9_12 : vlk 9 12 = some (4, 1, 0, 0, 13) := by decide +kernel
theorem c9_13 : vlk 9 13 = some (35, 0, 0, 0, 14) := by decide +kernel
theorem c9_14 : vlk 9 14 = some (46, 0, 0, 0, 15) := by decide +kernel
theorem c9_15 : vlk 9 15 = some (2, 0, 0, 1152921504606846975, 18) := by decide +kernel
theorem c9_18 : vlk 9 18 = some (27, 0, 0, 0, 19) := by decide +kernel
theorem c9_19 : vlk 9 19 = some (50, 0, 0, 0, 20) := by decide +kernel
theorem c9_20 : vlk 9 20 = some (10, 1, 0, 1, 23) := by decide +kernel
theorem c9_23 : vlk 9 23 = some (37, 2, 0, 0, 26) := by decide +kernel
theorem c9_26 : vlk 9 26 = some (66, 0, 0, 0, 27) := by decide +kernel

/-! Days: twelve words of sixty days, at the address behind the object's -/
def vDy (h : vHp) (a : Nat) (S : Nat → Bool) : Prop := hg h a = some (.inr (0, [.ref (a + 1)])) ∧ ∃ f, hg h (a + 1) = some (.inl (1, 12, .inl f)) ∧ ∀ i, i < 12 → vWs S i (f i)
/-- h' is h outside X -/
def vFr (X : Nat → Prop) (h h' : vHp) : Prop := h'.1 = h.1 ∧ h'.2.1 = h.2.1 ∧ ∀ q, ¬ X q → hg h' q = hg h q
theorem vFr_rf {X : Nat → Prop} {h : vHp} : vFr X h h := ⟨rfl, rfl, fun _ _ => rfl⟩
theorem vFr_tr {X : Nat → Prop} {h h1 h2 : vHp} (a : vFr X h h1) (b : vFr X h1 h2) : vFr X h h2 := ⟨b.1.trans a.1, b.2.1.trans a.2.1, fun q hq => (b.2.2 q hq).trans (a.2.2 q hq)⟩
theorem vFr_up {X Y : Nat → Prop} {h h1 : vHp} (a : vFr X h h1) (hXY : ∀ q, X q → Y q) : vFr Y h h1 := ⟨a.1, a.2.1, fun q hq => a.2.2 q (fun z => hq (hXY q z))⟩
theorem vFr_st {h h1 : vHp} {a : Nat} {e : vE} (s : vSt h h1 a e) : vFr (fun q => q = a) h h1 := ⟨s.1, s.2.1, s.2.2.2⟩
theorem vFr_lo {X : Nat → Prop} {h h1 : vHp} (a : vFr X h h1) {q : Nat} (hq : h.1.1 ≤ q) : h1.1.1 ≤ q := by rw [a.1]; exact hq
theorem vDy_fr {X : Nat → Prop} {h h1 : vHp} {a : Nat} {S : Nat → Bool} (hD : vDy h a S) (f : vFr X h h1) (n1 : ¬ X a) (n2 : ¬ X (a + 1)) : vDy h1 a S := by
  obtain ⟨g1, w, g2, g3⟩ := hD
  exact ⟨by rw [f.2.2 _ n1]; exact g1, w, by rw [f.2.2 _ n2]; exact g2, g3⟩
theorem vDy_cg {h : vHp} {a : Nat} {S T : Nat → Bool} (hD : vDy h a S) (e : ∀ d, d < 720 → S d = T d) : vDy h a T := by
  obtain ⟨g1, w, g2, g3⟩ := hD
  exact ⟨g1, w, g2, fun i hi => vWs_cong (g3 i hi) (fun j hj => e _ (by omega))⟩
theorem vdv60 (n : Nat) : ((n : Int) / 60).toNat = n / 60 := by omega
theorem vmd60 (n : Nat) : ((n : Int) % 60) = ((n % 60 : Nat) : Int) := by omega
theorem vsu (n : Nat) : ((n : Int) + 1) = ((n + 1 : Nat) : Int) := by omega
theorem k_holds {d : Nat} {a : Nat} {S : Nat → Bool} {z : Int} {h : vHp} {Q : vQ} (hD : vDy h a S) (h1 : -2147483648 ≤ z) (h2 : z ≤ 2147483647) (kT : 0 ≤ z → z < 720 → S z.toNat = true → Q (some (.int (iI 1))) h) (kF : ¬ (0 ≤ z ∧ z < 720 ∧ S z.toNat = true) → Q (some (.int (iI 0))) h) : vCall (d + 2) 0 0 1 [.ref a, .int (iI z)] h Q := by
  refine vin 2 [_, _] ml_1 rfl rfl ?_
  refine r_iload c1_0 rfl ?_
  refine r_isN1 c1_1 vr_88 rfl (k_isDay h1 h2 (fun a1 a2 => ?_) (fun a1 => ?_))
  · refine r_ifeq c1_4 (by omega) (by omega) (fun q => by exfalso; omega) (fun c_4 => ?_)
    obtain ⟨n, rfl⟩ := Int.eq_ofNat_of_zero_le a1
    obtain ⟨f, hw, hf⟩ := hD.2
    have hd := hD.1
    refine r_aload c1_7 rfl (r_get c1_8 hd rfl (r_iload c1_11 rfl (r_ci c1_12 (r_idiv c1_14 (by omega) (by omega) (by omega) (by omega) (r_lald c1_15 hw (by omega) (by omega) (r_iload c1_16 rfl (r_ci c1_17 (r_irem c1_19 (by omega) (by omega) (by omega) (by omega) (r_lshr c1_20 (r_cl c1_21 (r_land c1_22 (r_cl c1_23 ?_))))))))))))
    have e : vandL (vshrL (f ((n : Int) / 60).toNat) ((n : Int) % 60)) 1 = if S n = true then 1 else 0 := by
      rw [vdv60, vmd60, vWs_bit (hf _ (by omega)) (by omega), show 60 * (n / 60) + n % 60 = n by omega]
    rw [e]
    cases hb : S n
    · simp only [Bool.false_eq_true, if_false]
      refine r_lceq c1_24 c1_25 (by omega) (by omega) (by omega) (by omega) (fun c_24 => ?_) (fun q => by exfalso; omega)
      refine r_ci c1_32 ?_
      refine r_zret (st := []) c1_33 (by omega) ?_
      refine kF (fun q => ?_)
      have q3 := q.2.2
      rw [Int.toNat_natCast, hb] at q3
      cases q3
    · simp only [if_true]
      refine r_lceq c1_24 c1_25 (by omega) (by omega) (by omega) (by omega) (fun q => by exfalso; omega) (fun c_24 => ?_)
      refine r_ci c1_28 (r_goto c1_29 ?_)
      refine r_zret (st := []) c1_33 (by omega) ?_
      exact kT a1 a2 (by rw [Int.toNat_natCast]; exact hb)
  · refine r_ifeq c1_4 (by omega) (by omega) (fun c_4 => ?_) (fun q => by exfalso; omega)
    refine r_ci c1_32 ?_
    refine r_zret (st := []) c1_33 (by omega) ?_
    exact kF (by omega)
/-- a day of the calendar is asked -/
theorem k_holdsN {d : Nat} {a n : Nat} {S : Nat → Bool} {h : vHp} {Q : vQ} (hD : vDy h a S) (hn : n < 720) (kT : S n = true → Q (some (.int (iI 1))) h) (kF : S n = false → Q (some (.int (iI 0))) h) : vCall (d + 2) 0 0 1 [.ref a, .int (iI (n : Int))] h Q :=
  k_holds hD (by omega) (by omega) (fun _ _ q => kT (by simpa using q)) (fun q => kF (by
    cases hb : S n
    · rfl
    · exact absurd ⟨by omega, by omega, by simpa using hb⟩ q))
theorem k_add {d : Nat} {a : Nat} {S : Nat → Bool} {z : Int} {h : vHp} {Q : vQ} (hD : vDy h a S) (hlo : h.1.1 ≤ a) (h1 : -2147483648 ≤ z) (h2 : z ≤ 2147483647) (k : ∀ h', vDy h' a (fun n => S n || decide ((n : Int) = z)) → vFr (fun q => q = a + 1) h h' → Q none h') : vCall (d + 2) 0 0 2 [.ref a, .int (iI z)] h Q := by
  refine vin 2 [_, _] ml_2 rfl rfl ?_
  refine r_iload c2_0 rfl ?_
  refine r_isN1 c2_1 vr_88 rfl (k_isDay h1 h2 (fun a1 a2 => ?_) (fun a1 => ?_))
  · refine r_ifeq c2_4 (by omega) (by omega) (fun q => by exfalso; omega) (fun c_4 => ?_)
    obtain ⟨n, rfl⟩ := Int.eq_ofNat_of_zero_le a1
    obtain ⟨f, hw, hf⟩ := hD.2
    have hd := hD.1
    refine r_aload c2_7 rfl (r_get c2_8 hd rfl (r_iload c2_11 rfl (r_ci c2_12 (r_idiv c2_14 (by omega) (by omega) (by omega) (by omega) (r_dup2 c2_15 rfl rfl (r_lald c2_16 hw (by omega) (by omega) (r_cl c2_17 (r_iload c2_18 rfl (r_ci c2_19 (r_irem c2_21 (by omega) (by omega) (by omega) (by omega) (r_lshl c2_22 (r_lor c2_23 ?_))))))))))))
    refine r_last c2_24 hw (Nat.le_succ_of_le hlo) (by omega) (by omega) (fun h3 s3 => ?_)
    refine r_vret (st := []) c2_25 ?_
    refine k h3 ⟨by rw [s3.2.2.2 _ (by omega)]; exact hd, _, s3.2.2.1, fun i hi => ?_⟩ (vFr_st s3)
    rw [vdv60, vmd60]
    by_cases e : i = n / 60
    · subst e
      have w := vWs_set (hf _ hi) (s := n % 60) (by omega)
      have e9 : vup f (n / 60) (vorL (f (n / 60)) (vshlL 1 ((n % 60 : Nat) : Int))) (n / 60) = vorL (f (n / 60)) (vshlL 1 ((n % 60 : Nat) : Int)) := by simp [vup]
      rw [e9]
      refine vWs_cong w (fun j hj => ?_)
      unfold vup
      by_cases e2 : j = n % 60
      · rw [if_pos (by omega)]; simp; right; omega
      · rw [if_neg (by omega)]; simp; omega
    · have e9 : ∀ v, vup f (n / 60) v i = f i := fun v => by simp [vup, e]
      rw [e9]
      refine vWs_cong (hf _ hi) (fun j hj => ?_)
      simp; omega
  · refine r_ifeq c2_4 (by omega) (by omega) (fun c_4 => ?_) (fun q => by exfalso; omega)
    refine r_vret (st := []) c2_25 ?_
    exact k h (vDy_cg hD (fun n hn => by simp; omega)) vFr_rf
theorem k_remove {d : Nat} {a : Nat} {S : Nat → Bool} {z : Int} {h : vHp} {Q : vQ} (hD : vDy h a S) (hlo : h.1.1 ≤ a) (h1 : -2147483648 ≤ z) (h2 : z ≤ 2147483647) (k : ∀ h', vDy h' a (fun n => S n && !decide ((n : Int) = z)) → vFr (fun q => q = a + 1) h h' → Q none h') : vCall (d + 2) 0 0 3 [.ref a, .int (iI z)] h Q := by
  refine vin 2 [_, _] ml_3 rfl rfl ?_
  refine r_iload c3_0 rfl ?_
  refine r_isN1 c3_1 vr_88 rfl (k_isDay h1 h2 (fun a1 a2 => ?_) (fun a1 => ?_))
  · refine r_ifeq c3_4 (by omega) (by omega) (fun q => by exfalso; omega) (fun c_4 => ?_)
    obtain ⟨n, rfl⟩ := Int.eq_ofNat_of_zero_le a1
    obtain ⟨f, hw, hf⟩ := hD.2
    have hd := hD.1
    refine r_aload c3_7 rfl (r_get c3_8 hd rfl (r_iload c3_11 rfl (r_ci c3_12 (r_idiv c3_14 (by omega) (by omega) (by omega) (by omega) (r_dup2 c3_15 rfl rfl (r_lald c3_16 hw (by omega) (by omega) (r_cl c3_17 (r_iload c3_18 rfl (r_ci c3_19 (r_irem c3_21 (by omega) (by omega) (by omega) (by omega) (r_lshl c3_22 (r_cl c3_23 (r_lxor c3_26 (r_land c3_27 ?_))))))))))))))
    refine r_last c3_28 hw (Nat.le_succ_of_le hlo) (by omega) (by omega) (fun h3 s3 => ?_)
    refine r_vret (st := []) c3_29 ?_
    refine k h3 ⟨by rw [s3.2.2.2 _ (by omega)]; exact hd, _, s3.2.2.1, fun i hi => ?_⟩ (vFr_st s3)
    rw [vdv60, vmd60]
    by_cases e : i = n / 60
    · subst e
      have w := vWs_clr (hf _ hi) (s := n % 60) (by omega)
      have e9 : ∀ v, vup f (n / 60) v (n / 60) = v := fun v => by simp [vup]
      rw [e9]
      refine vWs_cong w (fun j hj => ?_)
      unfold vup
      by_cases e2 : j = n % 60
      · rw [if_pos (by omega)]; simp; intro _; omega
      · rw [if_neg (by omega)]; simp; intro _; omega
    · have e9 : ∀ v, vup f (n / 60) v i = f i := fun v => by simp [vup, e]
      rw [e9]
      refine vWs_cong (hf _ hi) (fun j hj => ?_)
      simp; intro _; omega
  · refine r_ifeq c3_4 (by omega) (by omega) (fun c_4 => ?_) (fun q => by exfalso; omega)
    refine r_vret (st := []) c3_29 ?_
    exact k h (vDy_cg hD (fun n hn => by simp; intro _; omega)) vFr_rf
theorem k_wipe {d : Nat} {a : Nat} {S : Nat → Bool} {h : vHp} {Q : vQ} (hD : vDy h a S) (hlo : h.1.1 ≤ a) (k : ∀ h', vDy h' a (fun _ => false) → vFr (fun q => q = a + 1) h h' → Q none h') : vCall (d + 1) 0 0 4 [.ref a] h Q := by
  have loop : ∀ n i : Nat, i + n = 12 → ∀ (h1 : vHp) (f : Nat → Int), hg h1 (a + 1) = some (.inl (1, 12, .inl f)) → (∀ j, j < i → vWs (fun _ => false) j (f j)) → vFr (fun q => q = a + 1) h h1 → vW (vCall d) 4 Q 2 [.ref a, .int (iI (i : Int))] [] h1 0 0 := by
    intro n
    induction n with
    | zero =>
      intro i hi h1 f hw hf fr
      refine r_iload c4_2 rfl (r_ci c4_3 ?_)
      refine r_icge c4_5 (by omega) (by omega) (by omega) (by omega) (fun c_5 => ?_) (fun q => by exfalso; omega)
      refine r_vret (st := []) c4_21 ?_
      exact k h1 ⟨by rw [fr.2.2 _ (by omega)]; exact hD.1, f, hw, fun j hj => hf j (by omega)⟩ fr
    | succ n ih =>
      intro i hi h1 f hw hf fr
      have hd : hg h1 a = some (.inr (0, [.ref (a + 1)])) := by rw [fr.2.2 _ (by omega)]; exact hD.1
      refine r_iload c4_2 rfl (r_ci c4_3 ?_)
      refine r_icge c4_5 (by omega) (by omega) (by omega) (by omega) (fun q => by exfalso; omega) (fun c_5 => ?_)
      refine r_aload c4_8 rfl (r_get c4_9 hd rfl (r_iload c4_12 rfl (r_cl c4_13 ?_)))
      refine r_last c4_14 hw (vFr_lo fr (Nat.le_succ_of_le hlo)) (by omega) (by omega) (fun h2 s2 => ?_)
      refine r_iinc c4_15 rfl rfl (r_goto c4_18 ?_)
      try dsimp only [vst]
      rw [vsu]
      refine ih (i + 1) (by omega) h2 _ s2.2.2.1 (fun j hj => ?_) (vFr_tr fr (vFr_st s2))
      unfold vup
      rw [Int.toNat_natCast]
      by_cases e : j = i
      · rw [if_pos e]; exact vWs_0 j
      · rw [if_neg e]; exact hf j (by omega)
  obtain ⟨f, hw, hf⟩ := hD.2
  refine vin 2 [_, _] ml_4 rfl rfl ?_
  refine r_ci c4_0 (r_istore c4_1 rfl ?_)
  try dsimp only [vst]
  exact loop 12 0 rfl h f hw (fun j hj => absurd hj (by omega)) vFr_rf
theorem k_invert {d : Nat} {a : Nat} {S : Nat → Bool} {h : vHp} {Q : vQ} (hD : vDy h a S) (hlo : h.1.1 ≤ a) (k : ∀ h', vDy h' a (fun n => !S n) → vFr (fun q => q = a + 1) h h' → Q none h') : vCall (d + 1) 0 0 9 [.ref a] h Q := by
  have loop : ∀ n i : Nat, i + n = 12 → ∀ (h1 : vHp) (f : Nat → Int), hg h1 (a + 1) = some (.inl (1, 12, .inl f)) → (∀ j, j < i → vWs (fun n => !S n) j (f j)) → (∀ j, i ≤ j → j < 12 → vWs S j (f j)) → vFr (fun q => q = a + 1) h h1 → vW (vCall d) 9 Q 2 [.ref a, .int (iI (i : Int))] [] h1 0 0 := by
    intro n
    induction n with
    | zero =>
      intro i hi h1 f hw hf hf2 fr
      refine r_iload c9_2 rfl (r_ci c9_3 ?_)
      refine r_icge c9_5 (by omega) (by omega) (by omega) (by omega) (fun c_5 => ?_) (fun q => by exfalso; omega)
      refine r_vret (st := []) c9_26 ?_
      exact k h1 ⟨by rw [fr.2.2 _ (by omega)]; exact hD.1, f, hw, fun j hj => hf j (by omega)⟩ fr
    | succ n ih =>
      intro i hi h1 f hw hf hf2 fr
      have hd : hg h1 a = some (.inr (0, [.ref (a + 1)])) := by rw [fr.2.2 _ (by omega)]; exact hD.1
      refine r_iload c9_2 rfl (r_ci c9_3 ?_)
      refine r_icge c9_5 (by omega) (by omega) (by omega) (by omega) (fun q => by exfalso; omega) (fun c_5 => ?_)
      refine r_aload c9_8 rfl (r_get c9_9 hd rfl (r_iload c9_12 rfl (r_dup2 c9_13 rfl rfl (r_lald c9_14 hw (by omega) (by omega) (r_cl c9_15 (r_lxor c9_18 ?_))))))
      refine r_last c9_19 hw (vFr_lo fr (Nat.le_succ_of_le hlo)) (by omega) (by omega) (fun h2 s2 => ?_)
      refine r_iinc c9_20 rfl rfl (r_goto c9_23 ?_)
      try dsimp only [vst]
      rw [vsu]
      refine ih (i + 1) (by omega) h2 _ s2.2.2.1 (fun j hj => ?_) (fun j hj hj2 => ?_) (vFr_tr fr (vFr_st s2))
      · unfold vup
        rw [Int.toNat_natCast]
        by_cases e : j = i
        · rw [if_pos e]; subst e; exact vWs_inv (hf2 j (by omega) (by omega))
        · rw [if_neg e]; exact hf j (by omega)
      · unfold vup
        rw [Int.toNat_natCast, if_neg (by omega)]
        exact hf2 j (by omega) hj2
  obtain ⟨f, hw, hf⟩ := hD.2
  refine vin 2 [_, _] ml_9 rfl rfl ?_
  refine r_ci c9_0 (r_istore c9_1 rfl ?_)
  try dsimp only [vst]
  exact loop 12 0 rfl h f hw (fun j hj => absurd hj (by omega)) (fun j _ hj => hf j hj) vFr_rf

theorem k_addAll {d : Nat} {a b : Nat} {S T : Nat → Bool} {h : vHp} {Q : vQ} (hD : vDy h a S) (hE : vDy h b T) (hab : a ≠ b) (hlo : h.1.1 ≤ a) (k : ∀ h', vDy h' a (fun n => S n || T n) → vFr (fun q => q = a + 1) h h' → Q none h') : vCall (d + 1) 0 0 6 [.ref a, .ref b] h Q := by
  obtain ⟨g, hv, hg0⟩ := hE.2
  have nb : b ≠ a + 1 := fun q => by
    obtain ⟨f, hw, -⟩ := hD.2
    rw [← q, hE.1] at hw
    cases hw
  have loop : ∀ n i : Nat, i + n = 12 → ∀ (h1 : vHp) (f : Nat → Int), hg h1 (a + 1) = some (.inl (1, 12, .inl f)) → (∀ j, j < i → vWs (fun n => S n || T n) j (f j)) → (∀ j, i ≤ j → j < 12 → vWs S j (f j)) → vFr (fun q => q = a + 1) h h1 → vW (vCall d) 6 Q 2 [.ref a, .ref b, .int (iI (i : Int))] [] h1 0 0 := by
    intro n
    induction n with
    | zero =>
      intro i hi h1 f hw hf hf2 fr
      refine r_iload c6_2 rfl (r_ci c6_3 ?_)
      refine r_icge c6_5 (by omega) (by omega) (by omega) (by omega) (fun c_5 => ?_) (fun q => by exfalso; omega)
      refine r_vret (st := []) c6_29 ?_
      exact k h1 ⟨by rw [fr.2.2 _ (by omega)]; exact hD.1, f, hw, fun j hj => hf j (by omega)⟩ fr
    | succ n ih =>
      intro i hi h1 f hw hf hf2 fr
      have hd : hg h1 a = some (.inr (0, [.ref (a + 1)])) := by rw [fr.2.2 _ (by omega)]; exact hD.1
      have he : hg h1 b = some (.inr (0, [.ref (b + 1)])) := by rw [fr.2.2 _ nb]; exact hE.1
      have hv1 : hg h1 (b + 1) = some (.inl (1, 12, .inl g)) := by rw [fr.2.2 _ (by omega)]; exact hv
      refine r_iload c6_2 rfl (r_ci c6_3 ?_)
      refine r_icge c6_5 (by omega) (by omega) (by omega) (by omega) (fun q => by exfalso; omega) (fun c_5 => ?_)
      refine r_aload c6_8 rfl (r_get c6_9 hd rfl (r_iload c6_12 rfl (r_dup2 c6_13 rfl rfl (r_lald c6_14 hw (by omega) (by omega) (r_aload c6_15 rfl (r_get c6_16 he rfl (r_iload c6_19 rfl (r_lald c6_20 hv1 (by omega) (by omega) (r_lor c6_21 ?_)))))))))
      refine r_last c6_22 hw (vFr_lo fr (Nat.le_succ_of_le hlo)) (by omega) (by omega) (fun h2 s2 => ?_)
      refine r_iinc c6_23 rfl rfl (r_goto c6_26 ?_)
      try dsimp only [vst]
      rw [vsu]
      refine ih (i + 1) (by omega) h2 _ s2.2.2.1 (fun j hj => ?_) (fun j hj hj2 => ?_) (vFr_tr fr (vFr_st s2))
      · unfold vup
        rw [Int.toNat_natCast]
        by_cases e : j = i
        · rw [if_pos e]; subst e; exact vWs_or (hf2 j (by omega) (by omega)) (hg0 j (by omega))
        · rw [if_neg e]; exact hf j (by omega)
      · unfold vup
        rw [Int.toNat_natCast, if_neg (by omega)]
        exact hf2 j (by omega) hj2
  obtain ⟨f, hw, hf⟩ := hD.2
  refine vin 3 [_, _, _] ml_6 rfl rfl ?_
  refine r_ci c6_0 (r_istore c6_1 rfl ?_)
  try dsimp only [vst]
  exact loop 12 0 rfl h f hw (fun j hj => absurd hj (by omega)) (fun j _ hj => hf j hj) vFr_rf

theorem k_removeAll {d : Nat} {a b : Nat} {S T : Nat → Bool} {h : vHp} {Q : vQ} (hD : vDy h a S) (hE : vDy h b T) (hab : a ≠ b) (hlo : h.1.1 ≤ a) (k : ∀ h', vDy h' a (fun n => S n && !T n) → vFr (fun q => q = a + 1) h h' → Q none h') : vCall (d + 1) 0 0 7 [.ref a, .ref b] h Q := by
  obtain ⟨g, hv, hg0⟩ := hE.2
  have nb : b ≠ a + 1 := fun q => by
    obtain ⟨f, hw, -⟩ := hD.2
    rw [← q, hE.1] at hw
    cases hw
  have loop : ∀ n i : Nat, i + n = 12 → ∀ (h1 : vHp) (f : Nat → Int), hg h1 (a + 1) = some (.inl (1, 12, .inl f)) → (∀ j, j < i → vWs (fun n => S n && !T n) j (f j)) → (∀ j, i ≤ j → j < 12 → vWs S j (f j)) → vFr (fun q => q = a + 1) h h1 → vW (vCall d) 7 Q 2 [.ref a, .ref b, .int (iI (i : Int))] [] h1 0 0 := by
    intro n
    induction n with
    | zero =>
      intro i hi h1 f hw hf hf2 fr
      refine r_iload c7_2 rfl (r_ci c7_3 ?_)
      refine r_icge c7_5 (by omega) (by omega) (by omega) (by omega) (fun c_5 => ?_) (fun q => by exfalso; omega)
      refine r_vret (st := []) c7_33 ?_
      exact k h1 ⟨by rw [fr.2.2 _ (by omega)]; exact hD.1, f, hw, fun j hj => hf j (by omega)⟩ fr
    | succ n ih =>
      intro i hi h1 f hw hf hf2 fr
      have hd : hg h1 a = some (.inr (0, [.ref (a + 1)])) := by rw [fr.2.2 _ (by omega)]; exact hD.1
      have he : hg h1 b = some (.inr (0, [.ref (b + 1)])) := by rw [fr.2.2 _ nb]; exact hE.1
      have hv1 : hg h1 (b + 1) = some (.inl (1, 12, .inl g)) := by rw [fr.2.2 _ (by omega)]; exact hv
      refine r_iload c7_2 rfl (r_ci c7_3 ?_)
      refine r_icge c7_5 (by omega) (by omega) (by omega) (by omega) (fun q => by exfalso; omega) (fun c_5 => ?_)
      refine r_aload c7_8 rfl (r_get c7_9 hd rfl (r_iload c7_12 rfl (r_dup2 c7_13 rfl rfl (r_lald c7_14 hw (by omega) (by omega) (r_aload c7_15 rfl (r_get c7_16 he rfl (r_iload c7_19 rfl (r_lald c7_20 hv1 (by omega) (by omega) (r_cl c7_21 (r_lxor c7_24 (r_land c7_25 ?_)))))))))))
      refine r_last c7_26 hw (vFr_lo fr (Nat.le_succ_of_le hlo)) (by omega) (by omega) (fun h2 s2 => ?_)
      refine r_iinc c7_27 rfl rfl (r_goto c7_30 ?_)
      try dsimp only [vst]
      rw [vsu]
      refine ih (i + 1) (by omega) h2 _ s2.2.2.1 (fun j hj => ?_) (fun j hj hj2 => ?_) (vFr_tr fr (vFr_st s2))
      · unfold vup
        rw [Int.toNat_natCast]
        by_cases e : j = i
        · rw [if_pos e]; subst e; exact vWs_andn (hf2 j (by omega) (by omega)) (hg0 j (by omega))
        · rw [if_neg e]; exact hf j (by omega)
      · unfold vup
        rw [Int.toNat_natCast, if_neg (by omega)]
        exact hf2 j (by omega) hj2
  obtain ⟨f, hw, hf⟩ := hD.2
  refine vin 3 [_, _, _] ml_7 rfl rfl ?_
  refine r_ci c7_0 (r_istore c7_1 rfl ?_)
  try dsimp only [vst]
  exact loop 12 0 rfl h f hw (fun j hj => absurd hj (by omega)) (fun j _ hj => hf j hj) vFr_rf

theorem k_keepAll {d : Nat} {a b : Nat} {S T : Nat → Bool} {h : vHp} {Q : vQ} (hD : vDy h a S) (hE : vDy h b T) (hab : a ≠ b) (hlo : h.1.1 ≤ a) (k : ∀ h', vDy h' a (fun n => S n && T n) → vFr (fun q => q = a + 1) h h' → Q none h') : vCall (d + 1) 0 0 8 [.ref a, .ref b] h Q := by
  obtain ⟨g, hv, hg0⟩ := hE.2
  have nb : b ≠ a + 1 := fun q => by
    obtain ⟨f, hw, -⟩ := hD.2
    rw [← q, hE.1] at hw
    cases hw
  have loop : ∀ n i : Nat, i + n = 12 → ∀ (h1 : vHp) (f : Nat → Int), hg h1 (a + 1) = some (.inl (1, 12, .inl f)) → (∀ j, j < i → vWs (fun n => S n && T n) j (f j)) → (∀ j, i ≤ j → j < 12 → vWs S j (f j)) → vFr (fun q => q = a + 1) h h1 → vW (vCall d) 8 Q 2 [.ref a, .ref b, .int (iI (i : Int))] [] h1 0 0 := by
    intro n
    induction n with
    | zero =>
      intro i hi h1 f hw hf hf2 fr
      refine r_iload c8_2 rfl (r_ci c8_3 ?_)
      refine r_icge c8_5 (by omega) (by omega) (by omega) (by omega) (fun c_5 => ?_) (fun q => by exfalso; omega)
      refine r_vret (st := []) c8_29 ?_
      exact k h1 ⟨by rw [fr.2.2 _ (by omega)]; exact hD.1, f, hw, fun j hj => hf j (by omega)⟩ fr
    | succ n ih =>
      intro i hi h1 f hw hf hf2 fr
      have hd : hg h1 a = some (.inr (0, [.ref (a + 1)])) := by rw [fr.2.2 _ (by omega)]; exact hD.1
      have he : hg h1 b = some (.inr (0, [.ref (b + 1)])) := by rw [fr.2.2 _ nb]; exact hE.1
      have hv1 : hg h1 (b + 1) = some (.inl (1, 12, .inl g)) := by rw [fr.2.2 _ (by omega)]; exact hv
      refine r_iload c8_2 rfl (r_ci c8_3 ?_)
      refine r_icge c8_5 (by omega) (by omega) (by omega) (by omega) (fun q => by exfalso; omega) (fun c_5 => ?_)
      refine r_aload c8_8 rfl (r_get c8_9 hd rfl (r_iload c8_12 rfl (r_dup2 c8_13 rfl rfl (r_lald c8_14 hw (by omega) (by omega) (r_aload c8_15 rfl (r_get c8_16 he rfl (r_iload c8_19 rfl (r_lald c8_20 hv1 (by omega) (by omega) (r_land c8_21 ?_)))))))))
      refine r_last c8_22 hw (vFr_lo fr (Nat.le_succ_of_le hlo)) (by omega) (by omega) (fun h2 s2 => ?_)
      refine r_iinc c8_23 rfl rfl (r_goto c8_26 ?_)
      try dsimp only [vst]
      rw [vsu]
      refine ih (i + 1) (by omega) h2 _ s2.2.2.1 (fun j hj => ?_) (fun j hj hj2 => ?_) (vFr_tr fr (vFr_st s2))
      · unfold vup
        rw [Int.toNat_natCast]
        by_cases e : j = i
        · rw [if_pos e]; subst e; exact vWs_and (hf2 j (by omega) (by omega)) (hg0 j (by omega))
        · rw [if_neg e]; exact hf j (by omega)
      · unfold vup
        rw [Int.toNat_natCast, if_neg (by omega)]
        exact hf2 j (by omega) hj2
  obtain ⟨f, hw, hf⟩ := hD.2
  refine vin 3 [_, _, _] ml_8 rfl rfl ?_
  refine r_ci c8_0 (r_istore c8_1 rfl ?_)
  try dsimp only [vst]
  exact loop 12 0 rfl h f hw (fun j hj => absurd hj (by omega)) (fun j _ hj => hf j hj) vFr_rf

/-- become: also of itself -/
theorem k_become {d : Nat} {a b : Nat} {S T : Nat → Bool} {h : vHp} {Q : vQ} (hD : vDy h a S) (hE : vDy h b T) (hlo : h.1.1 ≤ a) (k : ∀ h', vDy h' a T → vFr (fun q => q = a + 1) h h' → Q none h') : vCall (d + 1) 0 0 5 [.ref a, .ref b] h Q := by
  obtain ⟨g0, hv, hg0⟩ := hE.2
  have nb : b ≠ a + 1 := fun q => by
    obtain ⟨f, hw, -⟩ := hD.2
    rw [← q, hE.1] at hw
    cases hw
  have loop : ∀ n i : Nat, i + n = 12 → ∀ (h1 : vHp) (f g : Nat → Int), hg h1 (a + 1) = some (.inl (1, 12, .inl f)) → hg h1 (b + 1) = some (.inl (1, 12, .inl g)) → (∀ j, j < i → vWs T j (f j)) → (∀ j, i ≤ j → j < 12 → vWs T j (g j)) → vFr (fun q => q = a + 1) h h1 → vW (vCall d) 5 Q 2 [.ref a, .ref b, .int (iI (i : Int))] [] h1 0 0 := by
    intro n
    induction n with
    | zero =>
      intro i hi h1 f g hw hv hf hf2 fr
      refine r_iload c5_2 rfl (r_ci c5_3 ?_)
      refine r_icge c5_5 (by omega) (by omega) (by omega) (by omega) (fun c_5 => ?_) (fun q => by exfalso; omega)
      refine r_vret (st := []) c5_26 ?_
      exact k h1 ⟨by rw [fr.2.2 _ (by omega)]; exact hD.1, f, hw, fun j hj => hf j (by omega)⟩ fr
    | succ n ih =>
      intro i hi h1 f g hw hv hf hf2 fr
      have hd : hg h1 a = some (.inr (0, [.ref (a + 1)])) := by rw [fr.2.2 _ (by omega)]; exact hD.1
      have he : hg h1 b = some (.inr (0, [.ref (b + 1)])) := by rw [fr.2.2 _ nb]; exact hE.1
      refine r_iload c5_2 rfl (r_ci c5_3 ?_)
      refine r_icge c5_5 (by omega) (by omega) (by omega) (by omega) (fun q => by exfalso; omega) (fun c_5 => ?_)
      refine r_aload c5_8 rfl (r_get c5_9 hd rfl (r_iload c5_12 rfl (r_aload c5_13 rfl (r_get c5_14 he rfl (r_iload c5_17 rfl (r_lald c5_18 hv (by omega) (by omega) ?_))))))
      refine r_last c5_19 hw (vFr_lo fr (Nat.le_succ_of_le hlo)) (by omega) (by omega) (fun h2 s2 => ?_)
      refine r_iinc c5_20 rfl rfl (r_goto c5_23 ?_)
      try dsimp only [vst]
      rw [vsu]
      have hi2 := hf2 i (by omega) (by omega)
      have e1 : ∀ j, j < i + 1 → vWs T j (vup f ((i : Int)).toNat (g ((i : Int)).toNat) j) := fun j hj => by
        unfold vup
        rw [Int.toNat_natCast]
        by_cases e : j = i
        · rw [if_pos e]; subst e; exact hi2
        · rw [if_neg e]; exact hf j (by omega)
      by_cases hab : b = a
      · subst hab
        have efg : f = g := by
          have := hw.symm.trans hv
          simpa using this
        subst efg
        refine ih (i + 1) (by omega) h2 _ _ s2.2.2.1 s2.2.2.1 e1 (fun j hj hj2 => ?_) (vFr_tr fr (vFr_st s2))
        unfold vup
        rw [Int.toNat_natCast, if_neg (by omega)]
        exact hf2 j (by omega) hj2
      · exact ih (i + 1) (by omega) h2 _ g s2.2.2.1 (by rw [s2.2.2.2 _ (by omega)]; exact hv) e1 (fun j hj hj2 => hf2 j (by omega) hj2) (vFr_tr fr (vFr_st s2))
  obtain ⟨f, hw, hf⟩ := hD.2
  refine vin 3 [_, _, _] ml_5 rfl rfl ?_
  refine r_ci c5_0 (r_istore c5_1 rfl ?_)
  try dsimp only [vst]
  exact loop 12 0 rfl h f g0 hw hv (fun j hj => absurd hj (by omega)) (fun j _ hj => hg0 j hj) vFr_rf
end
section
/-! how many bits: the JDK's counting, byte by byte -/
def vcn (S : Nat → Bool) (lo : Nat) : Nat → Nat
  | 0 => 0
  | n + 1 => vcn S lo n + (if S (lo + n) = true then 1 else 0)
theorem vcn_add (S : Nat → Bool) (lo a : Nat) : ∀ b, vcn S lo (a + b) = vcn S lo a + vcn S (lo + a) b
  | 0 => rfl
  | b + 1 => by
    show vcn S lo (a + b) + (if S (lo + (a + b)) = true then 1 else 0) = vcn S lo a + (vcn S (lo + a) b + (if S (lo + a + b) = true then 1 else 0))
    rw [vcn_add S lo a b, Nat.add_assoc lo a b]
    omega
theorem vcn_cg {S T : Nat → Bool} {lo lo' : Nat} : ∀ {n : Nat}, (∀ j, j < n → S (lo + j) = T (lo' + j)) → vcn S lo n = vcn T lo' n
  | 0, _ => rfl
  | n + 1, h => by
    show vcn S lo n + _ = vcn T lo' n + _
    rw [vcn_cg (fun j hj => h j (by omega)), h n (by omega)]
theorem vcn_le (S : Nat → Bool) (lo : Nat) : ∀ n, vcn S lo n ≤ n
  | 0 => Nat.le_refl _
  | n + 1 => by
    have := vcn_le S lo n
    show vcn S lo n + _ ≤ n + 1
    split <;> omega
theorem lZ_nat (n : Nat) : lZ (n : Int) = Int64.ofNat n := Int64.ofInt_eq_ofNat
theorem vandL_nat {a b : Nat} (ha : a < 2 ^ 63) : vandL (a : Int) (b : Int) = ((a &&& b : Nat) : Int) := by
  have e : Int64.ofNat a &&& Int64.ofNat b = Int64.ofNat (a &&& b) := by
    apply Int64.toBitVec_inj.1
    show BitVec.ofNat 64 a &&& BitVec.ofNat 64 b = BitVec.ofNat 64 (a &&& b)
    apply BitVec.eq_of_getLsbD_eq
    intro i hi
    simp [hi]
  have h : a &&& b ≤ a := Nat.and_le_left
  unfold vandL
  rw [lZ_nat, lZ_nat, e, ← lZ_nat, lZ_toInt (by omega) (by omega)]
theorem vushrL_nat {a s : Nat} (ha : a < 2 ^ 62) (hs : s < 64) : vushrL (a : Int) (s : Int) = ((a / 2 ^ s : Nat) : Int) := by
  have hD : ∀ t : Nat, t < 64 → ((iI (t : Int)).toInt64.toUInt64 &&& Int64.toUInt64 63).toNat % 64 = t := by decide +kernel
  have hd : a / 2 ^ s ≤ a := Nat.div_le_self _ _
  unfold vushrL
  rw [lZ_nat]
  have e : (Int64.ofNat a).toUInt64 >>> ((iI (s : Int)).toInt64.toUInt64 &&& Int64.toUInt64 63) = UInt64.ofNat (a / 2 ^ s) := UInt64.toNat_inj.mp (by
    rw [UInt64.toNat_shiftRight, hD s hs, Nat.shiftRight_eq_div_pow, UInt64.toNat_ofNat']
    show (UInt64.ofNat a).toNat / 2 ^ s = _
    rw [UInt64.toNat_ofNat', Nat.mod_eq_of_lt (by omega), Nat.mod_eq_of_lt (by omega)])
  rw [e]
  show (Int64.ofNat (a / 2 ^ s)).toInt = _
  generalize a / 2 ^ s = q at hd ⊢
  rw [← lZ_nat, lZ_toInt (by omega) (by omega)]
def vmsk (m : Nat) : Nat → Nat
  | 0 => 0
  | k + 1 => 256 * vmsk m k + m
theorem vand256 {q b M m : Nat} (hb : b < 256) (hm : m < 256) : (256 * q + b) &&& (256 * M + m) = 256 * (q &&& M) + (b &&& m) := by
  apply Nat.eq_of_testBit_eq
  intro j
  have hbm : b &&& m < 2 ^ 8 := Nat.lt_of_le_of_lt Nat.and_le_left hb
  rw [Nat.testBit_and, show 256 = 2 ^ 8 by rfl, Nat.testBit_two_pow_mul_add q (show b < 2 ^ 8 from hb) j, Nat.testBit_two_pow_mul_add M (show m < 2 ^ 8 from hm) j, Nat.testBit_two_pow_mul_add (q &&& M) hbm j]
  by_cases h : j < 8
  · simp only [if_pos h, Nat.testBit_and]
  · simp only [if_neg h, Nat.testBit_and]
def vT1w (k n : Nat) : Nat := n - ((n / 2) &&& vmsk 85 k)
def vT2w (k n : Nat) : Nat := (n &&& vmsk 51 k) + ((n / 4) &&& vmsk 51 k)
def vT3w (k n : Nat) : Nat := (n + n / 16) &&& vmsk 15 k
def vb1 (b : Nat) : Nat := b - ((b / 2) &&& 85)
def vb2 (b : Nat) : Nat := (vb1 b &&& 51) + ((vb1 b / 4) &&& 51)
def vb3 (b : Nat) : Nat := (vb2 b + vb2 b / 16) &&& 15
theorem vbyte1 : ∀ b : Nat, b < 256 → ∀ e : Nat, e < 2 → (128 * e + b / 2) &&& 85 = (b / 2) &&& 85 := by decide +kernel
theorem vbyte2 : ∀ b : Nat, b < 256 → ∀ e : Nat, e < 4 → (64 * e + b / 4) &&& 51 = (b / 4) &&& 51 := by decide +kernel
theorem vbyte3 : ∀ b : Nat, b < 256 → vb1 b < 256 ∧ vb2 b ≤ 68 ∧ vb2 b % 16 ≤ 4 ∧ vb3 b = vcn (fun j => b.testBit j) 0 8 := by decide +kernel
theorem vT1_st (k q b : Nat) (hb : b < 256) : vT1w (k + 1) (256 * q + b) = 256 * vT1w k q + vb1 b := by
  unfold vT1w vb1
  rw [show vmsk 85 (k + 1) = 256 * vmsk 85 k + 85 by rfl]
  have e1 : (256 * q + b) / 2 = 256 * (q / 2) + (128 * (q % 2) + b / 2) := by omega
  rw [e1, vand256 (by omega) (by omega), vbyte1 b hb _ (by omega)]
  have h1 : q / 2 &&& vmsk 85 k ≤ q / 2 := Nat.and_le_left
  have h2 : b / 2 &&& 85 ≤ b / 2 := Nat.and_le_left
  omega
theorem vT2_st (k q b : Nat) (hb : b < 256) : vT2w (k + 1) (256 * q + b) = 256 * vT2w k q + ((b &&& 51) + ((b / 4) &&& 51)) := by
  unfold vT2w
  rw [show vmsk 51 (k + 1) = 256 * vmsk 51 k + 51 by rfl]
  have e1 : (256 * q + b) / 4 = 256 * (q / 4) + (64 * (q % 4) + b / 4) := by omega
  have e2 : 256 * (q / 4) + (64 * (q % 4) + b / 4) &&& 256 * vmsk 51 k + 51 = 256 * ((q / 4) &&& vmsk 51 k) + ((64 * (q % 4) + b / 4) &&& 51) := vand256 (by omega) (by omega)
  have e3 : 256 * q + b &&& 256 * vmsk 51 k + 51 = 256 * (q &&& vmsk 51 k) + (b &&& 51) := vand256 hb (by omega)
  rw [e1, e2, e3, vbyte2 b hb _ (by omega)]
  omega
theorem vT3_st (k q b : Nat) (hb : b ≤ 68) (hq : q % 16 ≤ 4) : vT3w (k + 1) (256 * q + b) = 256 * vT3w k q + ((b + b / 16) &&& 15) := by
  unfold vT3w
  rw [show vmsk 15 (k + 1) = 256 * vmsk 15 k + 15 by rfl]
  have e1 : 256 * q + b + (256 * q + b) / 16 = 256 * (q + q / 16) + (16 * (q % 16) + b + b / 16) := by omega
  rw [e1, vand256 (by omega) (by omega)]
  have e2 : ∀ x : Nat, x &&& 15 = x % 16 := fun x => Nat.and_two_pow_sub_one_eq_mod x 4
  rw [e2, e2]
  omega
def vVw (k n : Nat) : Nat := vT3w k (vT2w k (vT1w k n))
theorem vT2_lo (k n : Nat) (hn : n < 256 ^ k) : vT2w k (vT1w k n) % 16 ≤ 4 := by
  cases k with
  | zero => simp [vT2w, vmsk]
  | succ k =>
    have e : n = 256 * (n / 256) + n % 256 := by omega
    rw [e, vT1_st _ _ _ (by omega), vT2_st _ _ _ (vbyte3 _ (by omega)).1]
    have := (vbyte3 (n % 256) (by omega)).2.2.1
    unfold vb2 at this
    omega
theorem vVw_st (k n : Nat) (hn : n < 256 ^ (k + 1)) : vVw (k + 1) n = 256 * vVw k (n / 256) + vb3 (n % 256) := by
  have hq : n / 256 < 256 ^ k := Nat.div_lt_of_lt_mul (by rw [Nat.pow_succ] at hn; omega)
  unfold vVw
  have e : n = 256 * (n / 256) + n % 256 := by omega
  have g := vbyte3 (n % 256) (by omega)
  have h1 : vT1w (k + 1) n = 256 * vT1w k (n / 256) + vb1 (n % 256) := by
    rw [← vT1_st _ _ _ (by omega), ← e]
  rw [h1, vT2_st _ _ _ g.1]
  have h2 : (vb1 (n % 256) &&& 51) + (vb1 (n % 256) / 4 &&& 51) = vb2 (n % 256) := rfl
  rw [h2, vT3_st _ _ _ g.2.1 (vT2_lo k _ hq)]
  rfl
/-- the sum of the bytes' counts -/
theorem vpop_st (n k : Nat) : vcn (fun j => n.testBit j) 0 (8 * (k + 1)) = vcn (fun j => (n / 256).testBit j) 0 (8 * k) + vb3 (n % 256) := by
  rw [show 8 * (k + 1) = 8 + 8 * k by omega, vcn_add, (vbyte3 (n % 256) (by omega)).2.2.2]
  have e1 : vcn (fun j => n.testBit j) 0 8 = vcn (fun j => (n % 256).testBit j) 0 8 := vcn_cg (fun j hj => by
    rw [show n % 256 = n % 2 ^ 8 by rfl, Nat.testBit_mod_two_pow]; simp [hj])
  have e2 : vcn (fun j => n.testBit j) (0 + 8) (8 * k) = vcn (fun j => (n / 256).testBit j) 0 (8 * k) := vcn_cg (fun j hj => by
    rw [show n / 256 = n / 2 ^ 8 by rfl, Nat.testBit_div_two_pow]
    congr 1; omega)
  rw [e1, e2, Nat.add_comm]
theorem vpop8 {n : Nat} (hn : n < 256 ^ 8) : ∃ p0 p1 p2 p3 p4 p5 p6 p7 : Nat, p0 ≤ 8 ∧ p1 ≤ 8 ∧ p2 ≤ 8 ∧ p3 ≤ 8 ∧ p4 ≤ 8 ∧ p5 ≤ 8 ∧ p6 ≤ 8 ∧ p7 ≤ 8 ∧ vVw 8 n = p0 + 256 * (p1 + 256 * (p2 + 256 * (p3 + 256 * (p4 + 256 * (p5 + 256 * (p6 + 256 * p7)))))) ∧ vcn (fun j => n.testBit j) 0 64 = p0 + p1 + p2 + p3 + p4 + p5 + p6 + p7 := by
  have hp : ∀ m : Nat, vb3 (m % 256) ≤ 8 := fun m => by
    rw [(vbyte3 (m % 256) (by omega)).2.2.2]; exact vcn_le _ _ 8
  have q1 : n / 256 < 256 ^ 7 := by omega
  have q2 : n / 256 / 256 < 256 ^ 6 := by omega
  have q3 : n / 256 / 256 / 256 < 256 ^ 5 := by omega
  have q4 : n / 256 / 256 / 256 / 256 < 256 ^ 4 := by omega
  have q5 : n / 256 / 256 / 256 / 256 / 256 < 256 ^ 3 := by omega
  have q6 : n / 256 / 256 / 256 / 256 / 256 / 256 < 256 ^ 2 := by omega
  have q7 : n / 256 / 256 / 256 / 256 / 256 / 256 / 256 < 256 ^ 1 := by omega
  refine ⟨_, _, _, _, _, _, _, _, hp n, hp (n / 256), hp (n / 256 / 256), hp (n / 256 / 256 / 256), hp (n / 256 / 256 / 256 / 256), hp (n / 256 / 256 / 256 / 256 / 256), hp (n / 256 / 256 / 256 / 256 / 256 / 256), hp (n / 256 / 256 / 256 / 256 / 256 / 256 / 256), ?_, ?_⟩
  · rw [vVw_st 7 _ hn, vVw_st 6 _ q1, vVw_st 5 _ q2, vVw_st 4 _ q3, vVw_st 3 _ q4, vVw_st 2 _ q5, vVw_st 1 _ q6, vVw_st 0 _ q7]
    have e : ∀ m, vVw 0 m = 0 := fun m => by simp [vVw, vT3w, vmsk]
    rw [e]
    omega
  · rw [show 64 = 8 * (7 + 1) by rfl, vpop_st, vpop_st _ 6, vpop_st _ 5, vpop_st _ 4, vpop_st _ 3, vpop_st _ 2, vpop_st _ 1, vpop_st _ 0]
    show 0 + _ + _ + _ + _ + _ + _ + _ + _ = _
    omega
end
section
/-! the last step of the count -/
theorem vlin1 (p0 p1 p2 p3 p4 p5 p6 p7 : Nat) : p0 + 256 * (p1 + 256 * (p2 + 256 * (p3 + 256 * (p4 + 256 * (p5 + 256 * (p6 + 256 * p7)))))) + (p1 + 256 * (p2 + 256 * (p3 + 256 * (p4 + 256 * (p5 + 256 * (p6 + 256 * p7)))))) = ((p0 + p1) + 256 * (p1 + p2)) + 65536 * ((p2 + p3) + 256 * ((p3 + p4) + 256 * ((p4 + p5) + 256 * ((p5 + p6) + 256 * ((p6 + p7) + 256 * p7))))) := by omega
theorem vlin2 (p0 p1 p2 p3 p4 p5 p6 p7 : Nat) : ((p0 + p1) + 256 * (p1 + p2)) + 65536 * ((p2 + p3) + 256 * ((p3 + p4) + 256 * ((p4 + p5) + 256 * ((p5 + p6) + 256 * ((p6 + p7) + 256 * p7))))) + ((p2 + p3) + 256 * ((p3 + p4) + 256 * ((p4 + p5) + 256 * ((p5 + p6) + 256 * ((p6 + p7) + 256 * p7))))) = ((p0 + p1 + p2 + p3) + 256 * ((p1 + p2 + p3 + p4) + 256 * ((p2 + p3 + p4 + p5) + 256 * (p3 + p4 + p5 + p6)))) + 4294967296 * ((p4 + p5 + p6 + p7) + 256 * ((p5 + p6 + p7) + 256 * ((p6 + p7) + 256 * p7))) := by omega
theorem vlin3 {a b : Nat} (ha : a ≤ 16) (hb : b < 2 ^ 53) : a + 256 * b < 2 ^ 62 := by omega
theorem vdvm {a b m : Nat} (h : a < m) : (a + m * b) / m = b := by
  rw [Nat.add_mul_div_left _ _ (by omega), Nat.div_eq_of_lt h, Nat.zero_add]
theorem vnest {c a b k : Nat} (ha : a ≤ c) (hb : b ≤ c * k) : a + 256 * b ≤ c * (1 + 256 * k) := by
  have : c * (1 + 256 * k) = c + 256 * (c * k) := by rw [Nat.mul_add, Nat.mul_one, Nat.mul_left_comm]
  omega
theorem vpop_fin {x p0 p1 p2 p3 p4 p5 p6 p7 : Nat} (h0 : p0 ≤ 8) (h1 : p1 ≤ 8) (h2 : p2 ≤ 8) (h3 : p3 ≤ 8) (h4 : p4 ≤ 8) (h5 : p5 ≤ 8) (h6 : p6 ≤ 8) (h7 : p7 ≤ 8) (hx : x = p0 + 256 * (p1 + 256 * (p2 + 256 * (p3 + 256 * (p4 + 256 * (p5 + 256 * (p6 + 256 * p7))))))) :
    x + x / 256 < 2 ^ 62 ∧ (x + x / 256) + (x + x / 256) / 65536 < 2 ^ 62 ∧ (((x + x / 256) + (x + x / 256) / 65536) + ((x + x / 256) + (x + x / 256) / 65536) / 4294967296) % 128 = p0 + p1 + p2 + p3 + p4 + p5 + p6 + p7 := by
  have hxb : x ≤ 8 * (1 + 256 * (1 + 256 * (1 + 256 * (1 + 256 * (1 + 256 * (1 + 256 * (1 + 256 * 1))))))) := by
    rw [hx]
    exact vnest h0 (vnest h1 (vnest h2 (vnest h3 (vnest h4 (vnest h5 (vnest h6 (by omega)))))))
  have hxb2 : x < 2 ^ 60 := Nat.lt_of_le_of_lt hxb (Nat.lt_of_lt_of_le (Nat.lt_succ_self _) (Nat.le_of_ble_eq_true rfl))
  have hyb : x + x / 256 < 2 ^ 61 := by clear hx hxb; omega
  have hzb : (x + x / 256) + (x + x / 256) / 65536 < 2 ^ 62 := by clear hx hxb; omega
  have e1 : x / 256 = p1 + 256 * (p2 + 256 * (p3 + 256 * (p4 + 256 * (p5 + 256 * (p6 + 256 * p7))))) := by rw [hx]; exact vdvm (by omega)
  have hy : x + x / 256 = ((p0 + p1) + 256 * (p1 + p2)) + 65536 * ((p2 + p3) + 256 * ((p3 + p4) + 256 * ((p4 + p5) + 256 * ((p5 + p6) + 256 * ((p6 + p7) + 256 * p7))))) := by rw [e1, hx]; exact vlin1 ..
  have e2 : (x + x / 256) / 65536 = (p2 + p3) + 256 * ((p3 + p4) + 256 * ((p4 + p5) + 256 * ((p5 + p6) + 256 * ((p6 + p7) + 256 * p7)))) := by rw [hy]; exact vdvm (by clear hx hxb e1 hy hxb2 hyb hzb; omega)
  have hz : (x + x / 256) + (x + x / 256) / 65536 = ((p0 + p1 + p2 + p3) + 256 * ((p1 + p2 + p3 + p4) + 256 * ((p2 + p3 + p4 + p5) + 256 * (p3 + p4 + p5 + p6)))) + 4294967296 * ((p4 + p5 + p6 + p7) + 256 * ((p5 + p6 + p7) + 256 * ((p6 + p7) + 256 * p7))) := by rw [e2, hy]; exact vlin2 ..
  have e3 : ((x + x / 256) + (x + x / 256) / 65536) / 4294967296 = (p4 + p5 + p6 + p7) + 256 * ((p5 + p6 + p7) + 256 * ((p6 + p7) + 256 * p7)) := by rw [hz]; exact vdvm (by clear hx hxb e1 hy e2 hz hxb2 hyb hzb; omega)
  refine ⟨Nat.lt_trans hyb (Nat.lt_of_lt_of_le (Nat.lt_succ_self _) (Nat.le_of_ble_eq_true rfl)), hzb, ?_⟩
  rw [e3, hz]
  generalize hr : (p1 + p2 + p3 + p4) + 256 * ((p2 + p3 + p4 + p5) + 256 * (p3 + p4 + p5 + p6)) = r1
  generalize hs : (p5 + p6 + p7) + 256 * ((p6 + p7) + 256 * p7) = r2
  clear hr hs e1 e2 e3 hy hz hx hxb hxb2 hyb hzb
  omega
end
section
theorem ml_170 : vml 170 = 2 := by decide +kernel
theorem c170_0 : vlk 170 0 = some (5, 0, 0, 0, 1) := by decide +kernel
theorem c170_1 : vlk 170 1 = some (5, 0, 0, 0, 2) := by decide +kernel
theorem c170_2 : vlk 170 2 = some (1, 0, 0, 1, 3) := by decide +kernel
theorem c170_3 : vlk 170 3 = some (30, 0, 0, 0, 4) := by decide +kernel
theorem c170_4 : vlk 170 4 = some (2, 0, 0, 6148914691236517205, 7) := by decide +kernel
theorem c170_7 : vlk 170 7 = some (25, 0, 0, 0, 8) := by decide +kernel
theorem c170_8 : vlk 170 8 = some (23, 0, 0, 0, 9) := by decide +kernel
theorem c170_9 : vlk 170 9 = some (8, 0, 0, 0, 10) := by decide +kernel
theorem c170_10 : vlk 170 10 = some (5, 0, 0, 0, 11) := by decide +kernel
theorem c170_11 : vlk 170 11 = some (2, 0, 0, 3689348814741910323, 14) := by decide +kernel
theorem c170_14 : vlk 170 14 = some (25, 0, 0, 0, 15) := by decide +kernel
theorem c170_15 : vlk 170 15 = some (5, 0, 0, 0, 16) := by decide +kernel
theorem c170_16 : vlk 170 16 = some (1, 0, 0, 2, 17) := by decide +kernel
theorem c170_17 : vlk 170 17 = some (30, 0, 0, 0, 18) := by decide +kernel
theorem c170_18 : vlk 170 18 = some (2, 0, 0, 3689348814741910323, 21) := by decide +kernel
theorem c170_21 : vlk 170 21 = some (25, 0, 0, 0, 22) := by decide +kernel
theorem c170_22 : vlk 170 22 = some (22, 0, 0, 0, 23) := by decide +kernel
theorem c170_23 : vlk 170 23 = some (8, 0, 0, 0, 24) := by decide +kernel
theorem c170_24 : vlk 170 24 = some (5, 0, 0, 0, 25) := by decide +kernel
theorem c170_25 : vlk 170 25 = some (5, 0, 0, 0, 26) := by decide +kernel
theorem c170_26 : vlk 170 26 = some (1, 0, 0, 4, 27) := by decide +kernel
theorem c170_27 : vlk 170 27 = some (30, 0, 0, 0, 28) := by decide +kernel
theorem c170_28 : vlk 170 28 = some (22, 0, 0, 0, 29) := by decide +kernel
theorem c170_29 : vlk 170 29 = some (2, 0, 0, 1085102592571150095, 32) := by decide +kernel
theorem c170_32 : vlk 170 32 = some (25, 0, 0, 0, 33) := by decide +kernel
theorem c170_33 : vlk 170 33 = some (8, 0, 0, 0, 34) := by decide +kernel
theorem c170_34 : vlk 170 34 = some (5, 0, 0, 0, 35) := by decide +kernel
theorem c170_35 : vlk 170 35 = some (5, 0, 0, 0, 36) := by decide +kernel
theorem c170_36 : vlk 170 36 = some (1, 0, 0, 8, 38) := by decide +kernel
theorem c170_38 : vlk 170 38 = some (30, 0, 0, 0, 39) := by decide +kernel
theorem c170_39 : vlk 170 39 = some (22, 0, 0, 0, 40) := by decide +kernel
theorem c170_40 : vlk 170 40 = some (8, 0, 0, 0, 41) := by decide +kernel
theorem c170_41 : vlk 170 41 = some (5, 0, 0, 0, 42) := by decide +kernel
theorem c170_42 : vlk 170 42 = some (5, 0, 0, 0, 43) := by decide +kernel
theorem c170_43 : vlk 170 43 = some (1, 0, 0, 16, 45) := by decide +kernel
theorem c170_45 : vlk 170 45 = some (30, 0, 0, 0, 46) := by decide +kernel
theorem c170_46 : vlk 170 46 = some (22, 0, 0, 0, 47) := by decide +kernel
theorem c170_47 : vlk 170 47 = some (8, 0, 0, 0, 48) := by decide +kernel
theorem c170_48 : vlk 170 48 = some (5, 0, 0, 0, 49) := by decide +kernel
theorem c170_49 : vlk 170 49 = some (5, 0, 0, 0, 50) := by decide +kernel
theorem c170_50 : vlk 170 50 = some (1, 0, 0, 32, 52) := by decide +kernel
theorem c170_52 : vlk 170 52 = some (30, 0, 0, 0, 53) := by decide +kernel
theorem c170_53 : vlk 170 53 = some (22, 0, 0, 0, 54) := by decide +kernel
theorem c170_54 : vlk 170 54 = some (8, 0, 0, 0, 55) := by decide +kernel
theorem c170_55 : vlk 170 55 = some (5, 0, 0, 0, 56) := by decide +kernel
theorem c170_56 : vlk 170 56 = some (33, 0, 0, 0, 57) := by decide +kernel
theorem c170_57 : vlk 170 57 = some (1, 0, 0, 127, 59) := by decide +kernel
theorem c170_59 : vlk 170 59 = some (17, 0, 0, 0, 60) := by decide +kernel
theorem c170_60 : vlk 170 60 = some (63, 0, 0, 0, 61) := by decide +kernel
theorem vandI127 {n : Nat} : vandI (n : Int) 127 = ((n % 128 : Nat) : Int) := by
  unfold vandI
  have e := pk_and (iI (n : Int)) (m := iI 127) 7 (by decide)
  rw [e]
  have e2 : (iI (n : Int)).toBitVec.toNat = n % 2 ^ 32 := by
    show (BitVec.ofInt 32 (n : Int)).toNat = _
    rw [BitVec.ofInt_natCast, BitVec.toNat_ofNat]
  rw [e2, show 2 ^ 7 = 128 by rfl]
  have e3 : nI (n % 2 ^ 32 % 128) = iI ((n % 128 : Nat) : Int) := by
    rw [show n % 2 ^ 32 % 128 = n % 128 by omega]
    exact Int32.ofInt_eq_ofNat.symm
  rw [e3, iI_toInt (by omega) (by omega)]
theorem vpop_all {n x : Nat} (hn : n < 256 ^ 8) (hx : vVw 8 n = x) : x < 2 ^ 61 ∧ x + x / 256 < 2 ^ 62 ∧ (x + x / 256) + (x + x / 256) / 65536 < 2 ^ 62 ∧ (((x + x / 256) + (x + x / 256) / 65536) + ((x + x / 256) + (x + x / 256) / 65536) / 4294967296) % 128 = vcn (fun j => n.testBit j) 0 64 := by
  obtain ⟨p0, p1, p2, p3, p4, p5, p6, p7, h0, h1, h2, h3, h4, h5, h6, h7, hV, hP⟩ := vpop8 hn
  rw [hx] at hV
  obtain ⟨f1, f2, f3⟩ := vpop_fin h0 h1 h2 h3 h4 h5 h6 h7 hV
  rw [hP]
  have hxb : x ≤ 8 * (1 + 256 * (1 + 256 * (1 + 256 * (1 + 256 * (1 + 256 * (1 + 256 * (1 + 256 * 1))))))) := by
    rw [hV]
    exact vnest h0 (vnest h1 (vnest h2 (vnest h3 (vnest h4 (vnest h5 (vnest h6 (Nat.le_trans h7 (Nat.le_of_ble_eq_true rfl))))))))
  exact ⟨Nat.lt_of_le_of_lt hxb (Nat.lt_of_lt_of_le (Nat.lt_succ_self _) (Nat.le_of_ble_eq_true rfl)), f1, f2, f3⟩
theorem k_bitCountL {d n : Nat} {h : vHp} {Q : vQ} (hn : n < 2 ^ 60) (k : Q (some (.int (iI (vcn (fun j => n.testBit j) 0 64 : Nat)))) h) : vCall (d + 1) 0 0 170 [.long (lZ (n : Int))] h Q := by
  refine vin 2 [_, _] ml_170 rfl rfl ?_
  refine r_lload c170_0 rfl (r_lload c170_1 rfl (r_ci c170_2 (r_lushr c170_3 (r_cl c170_4 (r_land c170_7 ?_)))))
  have m1 : vmsk 85 8 = 6148914691236517205 := by decide +kernel
  have m2 : vmsk 51 8 = 3689348814741910323 := by decide +kernel
  have m3 : vmsk 15 8 = 1085102592571150095 := by decide +kernel
  have hn2 : n < 256 ^ 8 := by omega
  obtain ⟨f0, f1, f2, f3⟩ := vpop_all hn2 rfl
  have a1 : vandL (vushrL (n : Int) 1) 6148914691236517205 = ((n / 2 &&& vmsk 85 8 : Nat) : Int) := by
    have e := vushrL_nat (a := n) (s := 1) (by omega) (by omega)
    rw [show ((1 : Nat) : Int) = 1 by rfl, show 2 ^ 1 = 2 by rfl] at e
    rw [e, m1]
    exact vandL_nat (by omega)
  have l1 : n / 2 &&& vmsk 85 8 ≤ n / 2 := Nat.and_le_left
  rw [a1]
  have b1 : ((n : Int) - ((n / 2 &&& vmsk 85 8 : Nat) : Int)) = ((vT1w 8 n : Nat) : Int) := by unfold vT1w; omega
  have r1 : vT1w 8 n < 2 ^ 60 := by unfold vT1w; omega
  refine r_lsub c170_8 (r_lstore c170_9 rfl rfl (r_lload c170_10 rfl (r_cl c170_11 (r_land c170_14 (r_lload c170_15 rfl (r_ci c170_16 (r_lushr c170_17 (r_cl c170_18 (r_land c170_21 ?_)))))))))
  try dsimp only [vst]
  rw [b1]
  generalize hx1 : vT1w 8 n = x1 at r1
  have a2 : vandL (x1 : Int) 3689348814741910323 = ((x1 &&& vmsk 51 8 : Nat) : Int) := by rw [m2]; exact vandL_nat (by omega)
  have a3 : vandL (vushrL (x1 : Int) 2) 3689348814741910323 = ((x1 / 4 &&& vmsk 51 8 : Nat) : Int) := by
    have e := vushrL_nat (a := x1) (s := 2) (by omega) (by omega)
    rw [show ((2 : Nat) : Int) = 2 by rfl, show 2 ^ 2 = 4 by rfl] at e
    rw [e, m2]
    exact vandL_nat (by omega)
  rw [a2, a3]
  have l2 : x1 &&& vmsk 51 8 ≤ x1 := Nat.and_le_left
  have l3 : x1 / 4 &&& vmsk 51 8 ≤ x1 / 4 := Nat.and_le_left
  have b2 : (((x1 &&& vmsk 51 8 : Nat) : Int) + ((x1 / 4 &&& vmsk 51 8 : Nat) : Int)) = ((vT2w 8 x1 : Nat) : Int) := by unfold vT2w; omega
  have r2 : vT2w 8 x1 < 2 ^ 61 := by unfold vT2w; omega
  refine r_ladd c170_22 (r_lstore c170_23 rfl rfl (r_lload c170_24 rfl (r_lload c170_25 rfl (r_ci c170_26 (r_lushr c170_27 (r_ladd c170_28 (r_cl c170_29 ?_)))))))
  try dsimp only [vst]
  rw [b2]
  generalize hx2 : vT2w 8 x1 = x2 at r2
  have a4 : vandL ((x2 : Int) + vushrL (x2 : Int) 4) 1085102592571150095 = ((vT3w 8 x2 : Nat) : Int) := by
    have e := vushrL_nat (a := x2) (s := 4) (by omega) (by omega)
    rw [show ((4 : Nat) : Int) = 4 by rfl, show 2 ^ 4 = 16 by rfl] at e
    rw [e, show (x2 : Int) + ((x2 / 16 : Nat) : Int) = ((x2 + x2 / 16 : Nat) : Int) by omega]
    unfold vT3w
    rw [m3]
    exact vandL_nat (by omega)
  refine r_land c170_32 (r_lstore c170_33 rfl rfl (r_lload c170_34 rfl (r_lload c170_35 rfl (r_ci c170_36 (r_lushr c170_38 (r_ladd c170_39 (r_lstore c170_40 rfl rfl (r_lload c170_41 rfl (r_lload c170_42 rfl (r_ci c170_43 (r_lushr c170_45 (r_ladd c170_46 (r_lstore c170_47 rfl rfl (r_lload c170_48 rfl (r_lload c170_49 rfl (r_ci c170_50 (r_lushr c170_52 (r_ladd c170_53 (r_lstore c170_54 rfl rfl (r_lload c170_55 rfl (r_l2i c170_56 (r_ci c170_57 ?_))))))))))))))))))))))
  try dsimp only [vst]
  rw [a4]
  have hx3 : vT3w 8 x2 = vVw 8 n := by rw [← hx2, ← hx1]; rfl
  rw [hx3]
  generalize vVw 8 n = x3 at f0 f1 f2 f3 ⊢
  have s8 := vushrL_nat (a := x3) (s := 8) (by omega) (by omega)
  have s16 := vushrL_nat (a := x3 + x3 / 256) (s := 16) (by omega) (by omega)
  have s32 := vushrL_nat (a := (x3 + x3 / 256) + (x3 + x3 / 256) / 65536) (s := 32) (by omega) (by omega)
  rw [show ((8 : Nat) : Int) = 8 by rfl, show 2 ^ 8 = 256 by rfl] at s8
  rw [show ((16 : Nat) : Int) = 16 by rfl, show 2 ^ 16 = 65536 by rfl] at s16
  rw [show ((32 : Nat) : Int) = 32 by rfl, show 2 ^ 32 = 4294967296 by rfl] at s32
  rw [s8, show (x3 : Int) + ((x3 / 256 : Nat) : Int) = ((x3 + x3 / 256 : Nat) : Int) by omega, s16, show ((x3 + x3 / 256 : Nat) : Int) + (((x3 + x3 / 256) / 65536 : Nat) : Int) = (((x3 + x3 / 256) + (x3 + x3 / 256) / 65536 : Nat) : Int) by omega, s32, show (((x3 + x3 / 256) + (x3 + x3 / 256) / 65536 : Nat) : Int) + ((((x3 + x3 / 256) + (x3 + x3 / 256) / 65536) / 4294967296 : Nat) : Int) = ((((x3 + x3 / 256) + (x3 + x3 / 256) / 65536) + ((x3 + x3 / 256) + (x3 + x3 / 256) / 65536) / 4294967296 : Nat) : Int) by omega]
  refine r_iand c170_59 ?_
  rw [vandI127, f3]
  refine r_iret (st := []) c170_60 ?_
  exact k
end
section
theorem ml_10 : vml 10 = 3 := by decide +kernel
theorem ml_11 : vml 11 = 5 := by decide +kernel
theorem ml_12 : vml 12 = 6 := by decide +kernel
theorem ml_13 : vml 13 = 4 := by decide +kernel
theorem vr_1 : vrc 1 = some (0, 1) := by decide +kernel
theorem vr_2 : vrc 2 = some (0, 1) := by decide +kernel
theorem vr_170 : vrc 170 = some (99, 1) := by decide +kernel
theorem c10_0 : vlk 10 0 = some (1, 0, 0, 0, 1) := by decide +kernel
theorem c10_1 : vlk 10 1 = some (7, 1, 0, 0, 2) := by decide +kernel
theorem c10_2 : vlk 10 2 = some (1, 0, 0, 0, 3) := by decide +kernel
theorem c10_3 : vlk 10 3 = some (7, 2, 0, 0, 4) := by decide +kernel
theorem c10_4 : vlk 10 4 = some (4, 2, 0, 0, 5) := by decide +kernel
theorem c10_5 : vlk 10 5 = some (1, 0, 0, 12, 7) := by decide +kernel
theorem c10_7 : vlk 10 7 = some (79, 28, 0, 0, 10) := by decide +kernel
theorem c10_10 : vlk 10 10 = some (4, 1, 0, 0, 11) := by decide +kernel
theorem c10_11 : vlk 10 11 = some (6, 0, 0, 0, 12) := by decide +kernel
theorem c10_12 : vlk 10 12 = some (42, 0, 0, 0, 15) := by decide +kernel
theorem c10_15 : vlk 10 15 = some (4, 2, 0, 0, 16) := by decide +kernel
theorem c10_16 : vlk 10 16 = some (46, 0, 0, 0, 17) := by decide +kernel
theorem c10_17 : vlk 10 17 = some (59, 170, 0, 0, 20) := by decide +kernel
theorem c10_20 : vlk 10 20 = some (11, 0, 0, 0, 21) := by decide +kernel
theorem c10_21 : vlk 10 21 = some (7, 1, 0, 0, 22) := by decide +kernel
theorem c10_22 : vlk 10 22 = some (10, 2, 0, 1, 25) := by decide +kernel
theorem c10_25 : vlk 10 25 = some (37, 4, 0, 0, 28) := by decide +kernel
theorem c10_28 : vlk 10 28 = some (4, 1, 0, 0, 29) := by decide +kernel
theorem c10_29 : vlk 10 29 = some (63, 0, 0, 0, 30) := by decide +kernel
theorem c11_0 : vlk 11 0 = some (1, 0, 0, 0, 1) := by decide +kernel
theorem c11_1 : vlk 11 1 = some (7, 3, 0, 0, 2) := by decide +kernel
theorem c11_2 : vlk 11 2 = some (4, 1, 0, 0, 3) := by decide +kernel
theorem c11_3 : vlk 11 3 = some (7, 4, 0, 0, 5) := by decide +kernel
theorem c11_5 : vlk 11 5 = some (4, 4, 0, 0, 7) := by decide +kernel
theorem c11_7 : vlk 11 7 = some (4, 2, 0, 0, 8) := by decide +kernel
theorem c11_8 : vlk 11 8 = some (80, 37, 0, 0, 11) := by decide +kernel
theorem c11_11 : vlk 11 11 = some (4, 4, 0, 0, 13) := by decide +kernel
theorem c11_13 : vlk 11 13 = some (1, 0, 0, 720, 16) := by decide +kernel
theorem c11_16 : vlk 11 16 = some (79, 37, 0, 0, 19) := by decide +kernel
theorem c11_19 : vlk 11 19 = some (6, 0, 0, 0, 20) := by decide +kernel
theorem c11_20 : vlk 11 20 = some (4, 4, 0, 0, 22) := by decide +kernel
theorem c11_22 : vlk 11 22 = some (58, 1, 0, 0, 25) := by decide +kernel
theorem c11_25 : vlk 11 25 = some (70, 31, 0, 0, 28) := by decide +kernel
theorem c11_28 : vlk 11 28 = some (10, 3, 0, 1, 31) := by decide +kernel
theorem c11_31 : vlk 11 31 = some (10, 4, 0, 1, 34) := by decide +kernel
theorem c11_34 : vlk 11 34 = some (37, 5, 0, 0, 37) := by decide +kernel
theorem c11_37 : vlk 11 37 = some (4, 3, 0, 0, 38) := by decide +kernel
theorem c11_38 : vlk 11 38 = some (63, 0, 0, 0, 39) := by decide +kernel
theorem c12_0 : vlk 12 0 = some (4, 3, 0, 0, 1) := by decide +kernel
theorem c12_1 : vlk 12 1 = some (7, 4, 0, 0, 3) := by decide +kernel
theorem c12_3 : vlk 12 3 = some (4, 3, 0, 0, 4) := by decide +kernel
theorem c12_4 : vlk 12 4 = some (72, 53, 0, 0, 7) := by decide +kernel
theorem c12_7 : vlk 12 7 = some (4, 1, 0, 0, 8) := by decide +kernel
theorem c12_8 : vlk 12 8 = some (7, 5, 0, 0, 10) := by decide +kernel
theorem c12_10 : vlk 12 10 = some (4, 5, 0, 0, 12) := by decide +kernel
theorem c12_12 : vlk 12 12 = some (4, 2, 0, 0, 13) := by decide +kernel
theorem c12_13 : vlk 12 13 = some (80, 50, 0, 0, 16) := by decide +kernel
theorem c12_16 : vlk 12 16 = some (4, 5, 0, 0, 18) := by decide +kernel
theorem c12_18 : vlk 12 18 = some (1, 0, 0, 720, 21) := by decide +kernel
theorem c12_21 : vlk 12 21 = some (79, 50, 0, 0, 24) := by decide +kernel
theorem c12_24 : vlk 12 24 = some (6, 0, 0, 0, 25) := by decide +kernel
theorem c12_25 : vlk 12 25 = some (4, 5, 0, 0, 27) := by decide +kernel
theorem c12_27 : vlk 12 27 = some (58, 1, 0, 0, 30) := by decide +kernel
theorem c12_30 : vlk 12 30 = some (70, 44, 0, 0, 33) := by decide +kernel
theorem c12_33 : vlk 12 33 = some (4, 4, 0, 0, 35) := by decide +kernel
theorem c12_35 : vlk 12 35 = some (10, 4, 0, (-1), 38) := by decide +kernel
theorem c12_38 : vlk 12 38 = some (71, 44, 0, 0, 41) := by decide +kernel
theorem c12_41 : vlk 12 41 = some (4, 5, 0, 0, 43) := by decide +kernel
theorem c12_43 : vlk 12 43 = some (63, 0, 0, 0, 44) := by decide +kernel
theorem c12_44 : vlk 12 44 = some (10, 5, 0, 1, 47) := by decide +kernel
theorem c12_47 : vlk 12 47 = some (37, 10, 0, 0, 50) := by decide +kernel
theorem c12_50 : vlk 12 50 = some (1, 0, 0, (-5), 52) := by decide +kernel
theorem c12_52 : vlk 12 52 = some (63, 0, 0, 0, 53) := by decide +kernel
theorem c12_53 : vlk 12 53 = some (4, 2, 0, 0, 54) := by decide +kernel
theorem c12_54 : vlk 12 54 = some (7, 5, 0, 0, 56) := by decide +kernel
theorem c12_56 : vlk 12 56 = some (4, 5, 0, 0, 58) := by decide +kernel
theorem c12_58 : vlk 12 58 = some (4, 1, 0, 0, 59) := by decide +kernel
theorem c12_59 : vlk 12 59 = some (78, 93, 0, 0, 62) := by decide +kernel
theorem c12_62 : vlk 12 62 = some (4, 5, 0, 0, 64) := by decide +kernel
theorem c12_64 : vlk 12 64 = some (72, 93, 0, 0, 67) := by decide +kernel
theorem c12_67 : vlk 12 67 = some (6, 0, 0, 0, 68) := by decide +kernel
theorem c12_68 : vlk 12 68 = some (4, 5, 0, 0, 70) := by decide +kernel
theorem c12_70 : vlk 12 70 = some (58, 1, 0, 0, 73) := by decide +kernel
theorem c12_73 : vlk 12 73 = some (70, 87, 0, 0, 76) := by decide +kernel
theorem c12_76 : vlk 12 76 = some (10, 4, 0, 1, 79) := by decide +kernel
theorem c12_79 : vlk 12 79 = some (4, 4, 0, 0, 81) := by decide +kernel
theorem c12_81 : vlk 12 81 = some (71, 87, 0, 0, 84) := by decide +kernel
theorem c12_84 : vlk 12 84 = some (4, 5, 0, 0, 86) := by decide +kernel
theorem c12_86 : vlk 12 86 = some (63, 0, 0, 0, 87) := by decide +kernel
theorem c12_87 : vlk 12 87 = some (10, 5, 0, (-1), 90) := by decide +kernel
theorem c12_90 : vlk 12 90 = some (37, 56, 0, 0, 93) := by decide +kernel
theorem c12_93 : vlk 12 93 = some (1, 0, 0, (-5), 95) := by decide +kernel
theorem c12_95 : vlk 12 95 = some (63, 0, 0, 0, 96) := by decide +kernel
theorem c13_0 : vlk 13 0 = some (4, 1, 0, 0, 1) := by decide +kernel
theorem c13_1 : vlk 13 1 = some (7, 3, 0, 0, 2) := by decide +kernel
theorem c13_2 : vlk 13 2 = some (4, 3, 0, 0, 3) := by decide +kernel
theorem c13_3 : vlk 13 3 = some (4, 2, 0, 0, 4) := by decide +kernel
theorem c13_4 : vlk 13 4 = some (80, 25, 0, 0, 7) := by decide +kernel
theorem c13_7 : vlk 13 7 = some (4, 3, 0, 0, 8) := by decide +kernel
theorem c13_8 : vlk 13 8 = some (1, 0, 0, 720, 11) := by decide +kernel
theorem c13_11 : vlk 13 11 = some (79, 25, 0, 0, 14) := by decide +kernel
theorem c13_14 : vlk 13 14 = some (6, 0, 0, 0, 15) := by decide +kernel
theorem c13_15 : vlk 13 15 = some (4, 3, 0, 0, 16) := by decide +kernel
theorem c13_16 : vlk 13 16 = some (58, 2, 0, 0, 19) := by decide +kernel
theorem c13_19 : vlk 13 19 = some (10, 3, 0, 1, 22) := by decide +kernel
theorem c13_22 : vlk 13 22 = some (37, 2, 0, 0, 25) := by decide +kernel
theorem c13_25 : vlk 13 25 = some (66, 0, 0, 0, 26) := by decide +kernel
/-! Days: how many, the k-th, spans and the like -/
theorem vcn_0 {S : Nat → Bool} {lo : Nat} : ∀ {n : Nat}, (∀ j, j < n → S (lo + j) = false) → vcn S lo n = 0
  | 0, _ => rfl
  | n + 1, h => by
    show vcn S lo n + _ = 0
    rw [vcn_0 (fun j hj => h j (by omega)), h n (by omega)]
    rfl
theorem vWs_pop {S : Nat → Bool} {i : Nat} {w : Int} (h : vWs S i w) : ∃ n : Nat, w = (n : Int) ∧ n < 2 ^ 60 ∧ vcn (fun j => n.testBit j) 0 64 = vcn S (60 * i) 60 := by
  obtain ⟨r1, r2⟩ := vWs_range h
  obtain ⟨n, rfl⟩ := Int.eq_ofNat_of_zero_le r1
  refine ⟨n, rfl, by omega, ?_⟩
  have e : ∀ j, j < 64 → n.testBit j = vbt (n : Int) j := fun j hj => by
    unfold vbt
    rw [lZ_nat]
    show _ = (BitVec.ofNat 64 n).getLsbD j
    rw [BitVec.getLsbD_ofNat]; simp [hj]
  rw [show 64 = 60 + 4 by rfl, vcn_add, vcn_0 (n := 4) (fun j hj => by rw [e _ (by omega)]; exact h.2.2 _ (by omega)), Nat.add_zero]
  exact vcn_cg (fun j hj => by rw [Nat.zero_add, e j (by omega)]; exact h.2.1 j hj)
theorem k_size {d a : Nat} {S : Nat → Bool} {h : vHp} {Q : vQ} (hD : vDy h a S) (k : Q (some (.int (iI (vcn S 0 720 : Nat)))) h) : vCall (d + 2) 0 0 10 [.ref a] h Q := by
  obtain ⟨f, hw, hf⟩ := hD.2
  have hd := hD.1
  have loop : ∀ n i : Nat, i + n = 12 → vW (vCall (d + 1)) 10 Q 4 [.ref a, .int (iI (vcn S 0 (60 * i) : Nat)), .int (iI (i : Int))] [] h 0 0 := by
    intro n
    induction n with
    | zero =>
      intro i hi
      refine r_iload c10_4 rfl (r_ci c10_5 ?_)
      refine r_icge c10_7 (by omega) (by omega) (by omega) (by omega) (fun c_7 => ?_) (fun q => by exfalso; omega)
      refine r_iload c10_28 rfl ?_
      refine r_iret (st := []) c10_29 ?_
      rw [show 60 * i = 720 by omega]
      exact k
    | succ n ih =>
      intro i hi
      refine r_iload c10_4 rfl (r_ci c10_5 ?_)
      refine r_icge c10_7 (by omega) (by omega) (by omega) (by omega) (fun q => by exfalso; omega) (fun c_7 => ?_)
      refine r_iload c10_10 rfl (r_aload c10_11 rfl (r_get c10_12 hd rfl (r_iload c10_15 rfl (r_lald c10_16 hw (by omega) (by omega) ?_))))
      obtain ⟨m, e1, e2, e3⟩ := vWs_pop (hf i (by omega))
      rw [Int.toNat_natCast, e1]
      refine r_is1 c10_17 vr_170 rfl (k_bitCountL e2 ?_)
      dsimp only [vpush]
      rw [e3]
      refine r_iadd c10_20 (r_istore c10_21 rfl (r_iinc c10_22 rfl rfl (r_goto c10_25 ?_)))
      try dsimp only [vst]
      have e4 : ((vcn S 0 (60 * i) : Nat) : Int) + ((vcn S (60 * i) 60 : Nat) : Int) = ((vcn S 0 (60 * (i + 1)) : Nat) : Int) := by
        rw [show 60 * (i + 1) = 60 * i + 60 by omega, vcn_add, Nat.zero_add]; omega
      rw [e4, vsu]
      exact ih (i + 1) (by omega)
  refine vin 3 [_, _, _] ml_10 rfl rfl ?_
  refine r_ci c10_0 (r_istore c10_1 rfl (r_ci c10_2 (r_istore c10_3 rfl ?_)))
  try dsimp only [vst]
  exact loop 12 0 rfl
theorem k_heldWithin {d a lo hi : Nat} {S : Nat → Bool} {h : vHp} {Q : vQ} (hD : vDy h a S) (h1 : lo ≤ hi + 1) (h2 : hi < 720) (k : Q (some (.int (iI (vcn S lo (hi + 1 - lo) : Nat)))) h) : vCall (d + 3) 0 0 11 [.ref a, .int (iI (lo : Int)), .int (iI (hi : Int))] h Q := by
  obtain ⟨f, hw, hf⟩ := hD.2
  have hd := hD.1
  have loop : ∀ n i : Nat, lo + i + n = hi + 1 → vW (vCall (d + 2)) 11 Q 5 [.ref a, .int (iI (lo : Int)), .int (iI (hi : Int)), .int (iI (vcn S lo i : Nat)), .int (iI ((lo + i : Nat) : Int))] [] h 0 0 := by
    intro n
    induction n with
    | zero =>
      intro i hi'
      refine r_iload c11_5 rfl (r_iload c11_7 rfl ?_)
      refine r_icgt c11_8 (by omega) (by omega) (by omega) (by omega) (fun c_8 => ?_) (fun q => by exfalso; omega)
      refine r_iload c11_37 rfl ?_
      refine r_iret (st := []) c11_38 ?_
      rw [show hi + 1 - lo = i by omega] at k
      exact k
    | succ n ih =>
      intro i hi'
      have hvc := vcn_le S lo i
      refine r_iload c11_5 rfl (r_iload c11_7 rfl ?_)
      refine r_icgt c11_8 (by omega) (by omega) (by omega) (by omega) (fun q => by exfalso; omega) (fun c_8 => ?_)
      refine r_iload c11_11 rfl (r_ci c11_13 ?_)
      refine r_icge c11_16 (by omega) (by omega) (by omega) (by omega) (fun q => by exfalso; omega) (fun c_16 => ?_)
      refine r_aload c11_19 rfl (r_iload c11_20 rfl ?_)
      refine r_iv1 c11_22 vr_1 hd rfl (k_holdsN hD (by omega) (fun q => ?_) (fun q => ?_))
      · dsimp only [vpush]
        refine r_ifeq c11_25 (by omega) (by omega) (fun q => by exfalso; omega) (fun c_25 => ?_)
        refine r_iinc c11_28 rfl rfl (r_iinc c11_31 rfl rfl (r_goto c11_34 ?_))
        try dsimp only [vst]
        have e : vcn S lo (i + 1) = vcn S lo i + 1 := by show vcn S lo i + (if S (lo + i) = true then 1 else 0) = _; rw [if_pos q]
        rw [vsu, vsu, ← e]
        exact ih (i + 1) (by omega)
      · dsimp only [vpush]
        refine r_ifeq c11_25 (by omega) (by omega) (fun c_25 => ?_) (fun q => by exfalso; omega)
        refine r_iinc c11_31 rfl rfl (r_goto c11_34 ?_)
        try dsimp only [vst]
        have e : vcn S lo (i + 1) = vcn S lo i := by show vcn S lo i + (if S (lo + i) = true then 1 else 0) = _; rw [if_neg (by rw [q]; decide), Nat.add_zero]
        rw [vsu, ← e]
        exact ih (i + 1) (by omega)
  refine vin 5 [_, _, _, _, _] ml_11 rfl rfl ?_
  refine r_ci c11_0 (r_istore c11_1 rfl (r_iload c11_2 rfl (r_istore c11_3 rfl ?_)))
  try dsimp only [vst]
  exact loop (hi + 1 - lo) 0 (by omega)
/-- the k-th (0 the first) from a day on, among so many days -/
def vfw (S : Nat → Bool) : Nat → Nat → Nat → Int
  | 0, _, _ => -5
  | n + 1, d, k => if S d = true then (if k = 0 then (d : Int) else vfw S n (d + 1) (k - 1)) else vfw S n (d + 1) k
/-- the k-th (0 the last) among so many days from lo on -/
def vbw (S : Nat → Bool) (lo : Nat) : Nat → Nat → Int
  | 0, _ => -5
  | n + 1, k => if S (lo + n) = true then (if k = 0 then ((lo + n : Nat) : Int) else vbw S lo n (k - 1)) else vbw S lo n k
def vpk (S : Nat → Bool) (lo hi : Nat) (k : Int) : Int := if 0 ≤ k then vfw S (hi + 1 - lo) lo k.toNat else vbw S lo (hi + 1 - lo) (-k - 1).toNat
theorem k_pick {d a lo hi : Nat} {S : Nat → Bool} {kk : Int} {h : vHp} {Q : vQ} (hD : vDy h a S) (h1 : lo ≤ hi + 1) (h2 : hi < 720) (h3 : -2147483648 ≤ kk) (h4 : kk ≤ 2147483647) (k : Q (some (.int (iI (vpk S lo hi kk)))) h) : vCall (d + 3) 0 0 12 [.ref a, .int (iI (lo : Int)), .int (iI (hi : Int)), .int (iI kk)] h Q := by
  obtain ⟨f, hw, hf⟩ := hD.2
  have hd := hD.1
  unfold vpk at k
  have fw : ∀ n i j : Nat, i + n = hi + 1 → lo ≤ i → (j : Int) ≤ 2147483647 → Q (some (.int (iI (vfw S n i j)))) h → vW (vCall (d + 2)) 12 Q 10 [.ref a, .int (iI (lo : Int)), .int (iI (hi : Int)), .int (iI kk), .int (iI (j : Int)), .int (iI (i : Int))] [] h 0 0 := by
    intro n
    induction n with
    | zero =>
      intro i j hi' hlo hj hk
      refine r_iload c12_10 rfl (r_iload c12_12 rfl ?_)
      refine r_icgt c12_13 (by omega) (by omega) (by omega) (by omega) (fun c_13 => ?_) (fun q => by exfalso; omega)
      refine r_ci c12_50 ?_
      refine r_iret (st := []) c12_52 ?_
      exact hk
    | succ n ih =>
      intro i j hi' hlo hj hk
      refine r_iload c12_10 rfl (r_iload c12_12 rfl ?_)
      refine r_icgt c12_13 (by omega) (by omega) (by omega) (by omega) (fun q => by exfalso; omega) (fun c_13 => ?_)
      refine r_iload c12_16 rfl (r_ci c12_18 ?_)
      refine r_icge c12_21 (by omega) (by omega) (by omega) (by omega) (fun q => by exfalso; omega) (fun c_21 => ?_)
      refine r_aload c12_24 rfl (r_iload c12_25 rfl ?_)
      refine r_iv1 c12_27 vr_1 hd rfl (k_holdsN hD (by omega) (fun q => ?_) (fun q => ?_))
      · dsimp only [vpush]
        refine r_ifeq c12_30 (by omega) (by omega) (fun q => by exfalso; omega) (fun c_30 => ?_)
        refine r_iload c12_33 rfl (r_iinc c12_35 rfl rfl ?_)
        try dsimp only [vst]
        unfold vfw at hk
        rw [if_pos q] at hk
        refine r_ifne c12_38 (by omega) (by omega) (fun c_38 => ?_) (fun c_38 => ?_)
        · refine r_iinc c12_44 rfl rfl (r_goto c12_47 ?_)
          try dsimp only [vst]
          rw [if_neg (by omega)] at hk
          rw [vsu, show (j : Int) + -1 = ((j - 1 : Nat) : Int) by omega]
          exact ih (i + 1) (j - 1) (by omega) (by omega) (by omega) hk
        · refine r_iload c12_41 rfl ?_
          refine r_iret (st := []) c12_43 ?_
          rw [if_pos (by omega)] at hk
          exact hk
      · dsimp only [vpush]
        refine r_ifeq c12_30 (by omega) (by omega) (fun c_30 => ?_) (fun q => by exfalso; omega)
        refine r_iinc c12_44 rfl rfl (r_goto c12_47 ?_)
        try dsimp only [vst]
        unfold vfw at hk
        rw [if_neg (by rw [q]; decide)] at hk
        rw [vsu]
        exact ih (i + 1) j (by omega) (by omega) hj hk
  have bw : ∀ n j : Nat, lo + n ≤ hi + 1 → (j : Int) ≤ 2147483647 → Q (some (.int (iI (vbw S lo n j)))) h → vW (vCall (d + 2)) 12 Q 56 [.ref a, .int (iI (lo : Int)), .int (iI (hi : Int)), .int (iI kk), .int (iI (-(j : Int) - 1)), .int (iI ((lo + n : Nat) - 1))] [] h 0 0 := by
    intro n
    induction n with
    | zero =>
      intro j hi' hj hk
      refine r_iload c12_56 rfl (r_iload c12_58 rfl ?_)
      refine r_iclt c12_59 (by omega) (by omega) (by omega) (by omega) (fun c_59 => ?_) (fun q => by exfalso; omega)
      refine r_ci c12_93 ?_
      refine r_iret (st := []) c12_95 ?_
      exact hk
    | succ n ih =>
      intro j hi' hj hk
      rw [show ((lo + (n + 1) : Nat) : Int) - 1 = ((lo + n : Nat) : Int) by omega]
      refine r_iload c12_56 rfl (r_iload c12_58 rfl ?_)
      refine r_iclt c12_59 (by omega) (by omega) (by omega) (by omega) (fun q => by exfalso; omega) (fun c_59 => ?_)
      refine r_iload c12_62 rfl ?_
      refine r_iflt c12_64 (by omega) (by omega) (fun q => by exfalso; omega) (fun c_64 => ?_)
      refine r_aload c12_67 rfl (r_iload c12_68 rfl ?_)
      refine r_iv1 c12_70 vr_1 hd rfl (k_holdsN hD (by omega) (fun q => ?_) (fun q => ?_))
      · dsimp only [vpush]
        refine r_ifeq c12_73 (by omega) (by omega) (fun q => by exfalso; omega) (fun c_73 => ?_)
        refine r_iinc c12_76 rfl rfl (r_iload c12_79 rfl ?_)
        try dsimp only [vst]
        unfold vbw at hk
        rw [if_pos q] at hk
        refine r_ifne c12_81 (by omega) (by omega) (fun c_81 => ?_) (fun c_81 => ?_)
        · refine r_iinc c12_87 rfl rfl (r_goto c12_90 ?_)
          try dsimp only [vst]
          rw [if_neg (by omega)] at hk
          rw [show ((lo + n : Nat) : Int) + -1 = ((lo + n : Nat) : Int) - 1 by omega, show -(j : Int) - 1 + 1 = -((j - 1 : Nat) : Int) - 1 by omega]
          exact ih (j - 1) (by omega) (by omega) hk
        · refine r_iload c12_84 rfl ?_
          refine r_iret (st := []) c12_86 ?_
          rw [if_pos (by omega)] at hk
          exact hk
      · dsimp only [vpush]
        refine r_ifeq c12_73 (by omega) (by omega) (fun c_73 => ?_) (fun q => by exfalso; omega)
        refine r_iinc c12_87 rfl rfl (r_goto c12_90 ?_)
        try dsimp only [vst]
        unfold vbw at hk
        rw [if_neg (by rw [q]; decide)] at hk
        rw [show ((lo + n : Nat) : Int) + -1 = ((lo + n : Nat) : Int) - 1 by omega]
        exact ih j (by omega) hj hk
  refine vin 6 [_, _, _, _, _, _] ml_12 rfl rfl ?_
  refine r_iload c12_0 rfl (r_istore c12_1 rfl (r_iload c12_3 rfl ?_))
  try dsimp only [vst]
  refine r_iflt c12_4 (by omega) (by omega) (fun c_4 => ?_) (fun c_4 => ?_)
  · refine r_iload c12_53 rfl (r_istore c12_54 rfl ?_)
    try dsimp only [vst]
    rw [if_neg (by omega)] at k
    have := bw (hi + 1 - lo) (-kk - 1).toNat (by omega) (by omega) k
    rw [show -(((-kk - 1).toNat : Nat) : Int) - 1 = kk by omega, show ((lo + (hi + 1 - lo) : Nat) : Int) - 1 = (hi : Int) by omega] at this
    exact this
  · refine r_iload c12_7 rfl (r_istore c12_8 rfl ?_)
    try dsimp only [vst]
    rw [if_pos c_4] at k
    have := fw (hi + 1 - lo) lo kk.toNat (by omega) (by omega) (by omega) k
    rw [show ((kk.toNat : Nat) : Int) = kk by omega] at this
    exact this
theorem k_addSpan {d a lo : Nat} {hi : Int} {S : Nat → Bool} {h : vHp} {Q : vQ} (hD : vDy h a S) (hlo : h.1.1 ≤ a) (h1 : lo ≤ 720) (h2 : -2147483648 ≤ hi) (h3 : hi ≤ 2147483647) (k : ∀ h', vDy h' a (fun n => S n || decide ((lo : Int) ≤ n ∧ (n : Int) ≤ hi)) → vFr (fun q => q = a + 1) h h' → Q none h') : vCall (d + 3) 0 0 13 [.ref a, .int (iI (lo : Int)), .int (iI hi)] h Q := by
  have loop : ∀ n i : Nat, i + n = 720 → lo ≤ i → ∀ h1 : vHp, vDy h1 a (fun n => S n || decide ((lo : Int) ≤ n ∧ (n : Int) ≤ hi ∧ n < i)) → vFr (fun q => q = a + 1) h h1 → vW (vCall (d + 2)) 13 Q 2 [.ref a, .int (iI (lo : Int)), .int (iI hi), .int (iI (i : Int))] [] h1 0 0 := by
    intro n
    induction n with
    | zero =>
      intro i hi' hl h1 hD1 fr
      have fin := k h1 (vDy_cg hD1 (fun m hm => by congr 1; exact decide_eq_decide.mpr (by omega))) fr
      refine r_iload c13_2 rfl (r_iload c13_3 rfl ?_)
      refine r_icgt c13_4 (by omega) (by omega) (by omega) (by omega) (fun c_4 => ?_) (fun c_4 => ?_)
      · refine r_vret (st := []) c13_25 ?_
        exact fin
      · refine r_iload c13_7 rfl (r_ci c13_8 ?_)
        refine r_icge c13_11 (by omega) (by omega) (by omega) (by omega) (fun c_11 => ?_) (fun q => by exfalso; omega)
        refine r_vret (st := []) c13_25 ?_
        exact fin
    | succ n ih =>
      intro i hi' hl h1 hD1 fr
      refine r_iload c13_2 rfl (r_iload c13_3 rfl ?_)
      refine r_icgt c13_4 (by omega) (by omega) (by omega) (by omega) (fun c_4 => ?_) (fun c_4 => ?_)
      · refine r_vret (st := []) c13_25 ?_
        exact k h1 (vDy_cg hD1 (fun m hm => by congr 1; exact decide_eq_decide.mpr (by omega))) fr
      · refine r_iload c13_7 rfl (r_ci c13_8 ?_)
        refine r_icge c13_11 (by omega) (by omega) (by omega) (by omega) (fun q => by exfalso; omega) (fun c_11 => ?_)
        refine r_aload c13_14 rfl (r_iload c13_15 rfl ?_)
        refine r_iv1 c13_16 vr_2 hD1.1 rfl (k_add hD1 (vFr_lo fr hlo) (by omega) (by omega) (fun h2 hD2 fr2 => ?_))
        dsimp only [vpush]
        refine r_iinc c13_19 rfl rfl (r_goto c13_22 ?_)
        try dsimp only [vst]
        rw [vsu]
        refine ih (i + 1) (by omega) (by omega) h2 (vDy_cg hD2 (fun m hm => ?_)) (vFr_tr fr fr2)
        rw [Bool.or_assoc]
        congr 1
        rw [← Bool.decide_or]
        exact decide_eq_decide.mpr (by omega)
  refine vin 4 [_, _, _, _] ml_13 rfl rfl ?_
  refine r_iload c13_0 rfl (r_istore c13_1 rfl ?_)
  try dsimp only [vst]
  exact loop (720 - lo) lo (by omega) (by omega) h (vDy_cg hD (fun m hm => by simp; omega)) vFr_rf
end
section
theorem ml_14 : vml 14 = 4 := by decide +kernel
theorem ml_15 : vml 15 = 4 := by decide +kernel
theorem ml_16 : vml 16 = 5 := by decide +kernel
theorem ml_17 : vml 17 = 5 := by decide +kernel
theorem vr_12 : vrc 12 = some (0, 3) := by decide +kernel
theorem vr_93 : vrc 93 = some (5, 2) := by decide +kernel
theorem c14_0 : vlk 14 0 = some (4, 2, 0, 0, 1) := by decide +kernel
theorem c14_1 : vlk 14 1 = some (7, 3, 0, 0, 2) := by decide +kernel
theorem c14_2 : vlk 14 2 = some (4, 3, 0, 0, 3) := by decide +kernel
theorem c14_3 : vlk 14 3 = some (1, 0, 0, 720, 6) := by decide +kernel
theorem c14_6 : vlk 14 6 = some (79, 25, 0, 0, 9) := by decide +kernel
theorem c14_9 : vlk 14 9 = some (4, 1, 0, 0, 10) := by decide +kernel
theorem c14_10 : vlk 14 10 = some (75, 25, 0, 0, 13) := by decide +kernel
theorem c14_13 : vlk 14 13 = some (6, 0, 0, 0, 14) := by decide +kernel
theorem c14_14 : vlk 14 14 = some (4, 3, 0, 0, 15) := by decide +kernel
theorem c14_15 : vlk 14 15 = some (58, 2, 0, 0, 18) := by decide +kernel
theorem c14_18 : vlk 14 18 = some (4, 3, 0, 0, 19) := by decide +kernel
theorem c14_19 : vlk 14 19 = some (4, 1, 0, 0, 20) := by decide +kernel
theorem c14_20 : vlk 14 20 = some (11, 0, 0, 0, 21) := by decide +kernel
theorem c14_21 : vlk 14 21 = some (7, 3, 0, 0, 22) := by decide +kernel
theorem c14_22 : vlk 14 22 = some (37, 2, 0, 0, 25) := by decide +kernel
theorem c14_25 : vlk 14 25 = some (66, 0, 0, 0, 26) := by decide +kernel
theorem c15_0 : vlk 15 0 = some (1, 0, 0, 0, 1) := by decide +kernel
theorem c15_1 : vlk 15 1 = some (7, 3, 0, 0, 2) := by decide +kernel
theorem c15_2 : vlk 15 2 = some (4, 3, 0, 0, 3) := by decide +kernel
theorem c15_3 : vlk 15 3 = some (1, 0, 0, 720, 6) := by decide +kernel
theorem c15_6 : vlk 15 6 = some (79, 30, 0, 0, 9) := by decide +kernel
theorem c15_9 : vlk 15 9 = some (6, 1, 0, 0, 10) := by decide +kernel
theorem c15_10 : vlk 15 10 = some (4, 3, 0, 0, 11) := by decide +kernel
theorem c15_11 : vlk 15 11 = some (58, 1, 0, 0, 14) := by decide +kernel
theorem c15_14 : vlk 15 14 = some (70, 24, 0, 0, 17) := by decide +kernel
theorem c15_17 : vlk 15 17 = some (6, 0, 0, 0, 18) := by decide +kernel
theorem c15_18 : vlk 15 18 = some (4, 3, 0, 0, 19) := by decide +kernel
theorem c15_19 : vlk 15 19 = some (4, 2, 0, 0, 20) := by decide +kernel
theorem c15_20 : vlk 15 20 = some (11, 0, 0, 0, 21) := by decide +kernel
theorem c15_21 : vlk 15 21 = some (58, 2, 0, 0, 24) := by decide +kernel
theorem c15_24 : vlk 15 24 = some (10, 3, 0, 1, 27) := by decide +kernel
theorem c15_27 : vlk 15 27 = some (37, 2, 0, 0, 30) := by decide +kernel
theorem c15_30 : vlk 15 30 = some (66, 0, 0, 0, 31) := by decide +kernel
theorem c16_0 : vlk 16 0 = some (4, 2, 0, 0, 1) := by decide +kernel
theorem c16_1 : vlk 16 1 = some (7, 3, 0, 0, 2) := by decide +kernel
theorem c16_2 : vlk 16 2 = some (1, 0, 0, 0, 3) := by decide +kernel
theorem c16_3 : vlk 16 3 = some (7, 4, 0, 0, 5) := by decide +kernel
theorem c16_5 : vlk 16 5 = some (4, 4, 0, 0, 7) := by decide +kernel
theorem c16_7 : vlk 16 7 = some (1, 0, 0, 720, 10) := by decide +kernel
theorem c16_10 : vlk 16 10 = some (79, 43, 0, 0, 13) := by decide +kernel
theorem c16_13 : vlk 16 13 = some (6, 1, 0, 0, 14) := by decide +kernel
theorem c16_14 : vlk 16 14 = some (4, 4, 0, 0, 16) := by decide +kernel
theorem c16_16 : vlk 16 16 = some (58, 1, 0, 0, 19) := by decide +kernel
theorem c16_19 : vlk 16 19 = some (70, 37, 0, 0, 22) := by decide +kernel
theorem c16_22 : vlk 16 22 = some (10, 3, 0, (-1), 25) := by decide +kernel
theorem c16_25 : vlk 16 25 = some (4, 3, 0, 0, 26) := by decide +kernel
theorem c16_26 : vlk 16 26 = some (71, 37, 0, 0, 29) := by decide +kernel
theorem c16_29 : vlk 16 29 = some (6, 0, 0, 0, 30) := by decide +kernel
theorem c16_30 : vlk 16 30 = some (4, 4, 0, 0, 32) := by decide +kernel
theorem c16_32 : vlk 16 32 = some (58, 2, 0, 0, 35) := by decide +kernel
theorem c16_35 : vlk 16 35 = some (4, 2, 0, 0, 36) := by decide +kernel
theorem c16_36 : vlk 16 36 = some (7, 3, 0, 0, 37) := by decide +kernel
theorem c16_37 : vlk 16 37 = some (10, 4, 0, 1, 40) := by decide +kernel
theorem c16_40 : vlk 16 40 = some (37, 5, 0, 0, 43) := by decide +kernel
theorem c16_43 : vlk 16 43 = some (66, 0, 0, 0, 44) := by decide +kernel
theorem c17_0 : vlk 17 0 = some (1, 0, 0, 0, 1) := by decide +kernel
theorem c17_1 : vlk 17 1 = some (7, 4, 0, 0, 3) := by decide +kernel
theorem c17_3 : vlk 17 3 = some (4, 4, 0, 0, 5) := by decide +kernel
theorem c17_5 : vlk 17 5 = some (1, 0, 0, 720, 8) := by decide +kernel
theorem c17_8 : vlk 17 8 = some (79, 41, 0, 0, 11) := by decide +kernel
theorem c17_11 : vlk 17 11 = some (4, 2, 0, 0, 12) := by decide +kernel
theorem c17_12 : vlk 17 12 = some (75, 41, 0, 0, 15) := by decide +kernel
theorem c17_15 : vlk 17 15 = some (6, 0, 0, 0, 16) := by decide +kernel
theorem c17_16 : vlk 17 16 = some (6, 1, 0, 0, 17) := by decide +kernel
theorem c17_17 : vlk 17 17 = some (4, 4, 0, 0, 19) := by decide +kernel
theorem c17_19 : vlk 17 19 = some (4, 4, 0, 0, 21) := by decide +kernel
theorem c17_21 : vlk 17 21 = some (4, 2, 0, 0, 22) := by decide +kernel
theorem c17_22 : vlk 17 22 = some (82, 93, 0, 0, 25) := by decide +kernel
theorem c17_25 : vlk 17 25 = some (4, 3, 0, 0, 26) := by decide +kernel
theorem c17_26 : vlk 17 26 = some (58, 12, 0, 0, 29) := by decide +kernel
theorem c17_29 : vlk 17 29 = some (58, 2, 0, 0, 32) := by decide +kernel
theorem c17_32 : vlk 17 32 = some (4, 4, 0, 0, 34) := by decide +kernel
theorem c17_34 : vlk 17 34 = some (4, 2, 0, 0, 35) := by decide +kernel
theorem c17_35 : vlk 17 35 = some (11, 0, 0, 0, 36) := by decide +kernel
theorem c17_36 : vlk 17 36 = some (7, 4, 0, 0, 38) := by decide +kernel
theorem c17_38 : vlk 17 38 = some (37, 3, 0, 0, 41) := by decide +kernel
theorem c17_41 : vlk 17 41 = some (66, 0, 0, 0, 42) := by decide +kernel
/-! Days: by steps, moved, every n-th -/
theorem vstp {p s j d : Nat} (hs : 0 < s) : (p ≤ d ∧ d < p + s * (j + 1) ∧ (d - p) % s = 0) ↔ ((p ≤ d ∧ d < p + s * j ∧ (d - p) % s = 0) ∨ d = p + s * j) := by
  rw [Nat.mul_succ]
  constructor
  · intro ⟨h1, h2, h3⟩
    by_cases h : d < p + s * j
    · exact Or.inl ⟨h1, h, h3⟩
    · obtain ⟨r, rfl⟩ : ∃ r, d = p + s * j + r := ⟨d - (p + s * j), by omega⟩
      rw [show p + s * j + r - p = s * j + r by omega, Nat.mul_add_mod, Nat.mod_eq_of_lt (by omega)] at h3
      exact Or.inr (by omega)
  · intro h
    rcases h with ⟨h1, h2, h3⟩ | h
    · exact ⟨h1, by omega, h3⟩
    · subst h
      exact ⟨by omega, by omega, by rw [show p + s * j - p = s * j by omega]; exact Nat.mul_mod_right s j⟩
theorem k_addEach {d a st fr : Nat} {S : Nat → Bool} {h : vHp} {Q : vQ} (hD : vDy h a S) (hlo : h.1.1 ≤ a) (hs1 : 0 < st) (hs2 : st ≤ 1000) (hs3 : fr ≤ 1000) (k : ∀ h', vDy h' a (fun n => S n || decide (fr ≤ n ∧ (n - fr) % st = 0)) → vFr (fun q => q = a + 1) h h' → Q none h') : vCall (d + 3) 0 0 14 [.ref a, .int (iI (st : Int)), .int (iI (fr : Int))] h Q := by
  have loop : ∀ n i : Nat, 720 ≤ fr + st * i + n → fr + st * i ≤ 2000 → ∀ h1 : vHp, vDy h1 a (fun n => S n || decide (fr ≤ n ∧ n < fr + st * i ∧ (n - fr) % st = 0)) → vFr (fun q => q = a + 1) h h1 → vW (vCall (d + 2)) 14 Q 2 [.ref a, .int (iI (st : Int)), .int (iI (fr : Int)), .int (iI ((fr + st * i : Nat) : Int))] [] h1 0 0 := by
    intro n
    induction n with
    | zero =>
      intro i hi hb h1 hD1 fr'
      refine r_iload c14_2 rfl (r_ci c14_3 ?_)
      refine r_icge c14_6 (by omega) (by omega) (by omega) (by omega) (fun c_6 => ?_) (fun q => by exfalso; omega)
      refine r_vret (st := []) c14_25 ?_
      exact k h1 (vDy_cg hD1 (fun m hm => by congr 1; exact decide_eq_decide.mpr (by omega))) fr'
    | succ n ih =>
      intro i hi hb h1 hD1 fr'
      refine r_iload c14_2 rfl (r_ci c14_3 ?_)
      refine r_icge c14_6 (by omega) (by omega) (by omega) (by omega) (fun c_6 => ?_) (fun c_6 => ?_)
      · refine r_vret (st := []) c14_25 ?_
        exact k h1 (vDy_cg hD1 (fun m hm => by congr 1; exact decide_eq_decide.mpr (by omega))) fr'
      · refine r_iload c14_9 rfl ?_
        refine r_ifle c14_10 (by omega) (by omega) (fun q => by exfalso; omega) (fun c_10 => ?_)
        refine r_aload c14_13 rfl (r_iload c14_14 rfl ?_)
        refine r_iv1 c14_15 vr_2 hD1.1 rfl (k_add hD1 (vFr_lo fr' hlo) (by omega) (by omega) (fun h2 hD2 fr2 => ?_))
        dsimp only [vpush]
        refine r_iload c14_18 rfl (r_iload c14_19 rfl (r_iadd c14_20 (r_istore c14_21 rfl (r_goto c14_22 ?_))))
        try dsimp only [vst]
        have e : ((fr + st * i : Nat) : Int) + (st : Int) = ((fr + st * (i + 1) : Nat) : Int) := by rw [Nat.mul_succ]; omega
        rw [e]
        refine ih (i + 1) (by rw [Nat.mul_succ]; omega) (by rw [Nat.mul_succ]; omega) h2 (vDy_cg hD2 (fun m hm => ?_)) (vFr_tr fr' fr2)
        rw [Bool.or_assoc]
        congr 1
        rw [← Bool.decide_or]
        exact decide_eq_decide.mpr (by rw [vstp hs1, Int.ofNat_inj])
  refine vin 4 [_, _, _, _] ml_14 rfl rfl ?_
  refine r_iload c14_0 rfl (r_istore c14_1 rfl ?_)
  try dsimp only [vst]
  exact loop 720 0 (by omega) (by omega) h (vDy_cg hD (fun m hm => by simp; omega)) vFr_rf
/-- what is moved by z -/
def vmv (T : Nat → Bool) (z : Int) (i n : Nat) : Bool := decide (0 ≤ (n : Int) - z ∧ (n : Int) - z < i) && T ((n : Int) - z).toNat
theorem vmv_su {T : Nat → Bool} {z : Int} {i n : Nat} : vmv T z (i + 1) n = (vmv T z i n || (T i && decide ((n : Int) = (i : Int) + z))) := by
  unfold vmv
  by_cases e : (n : Int) = (i : Int) + z
  · have e1 : (n : Int) - z = (i : Int) := by omega
    rw [e1, Int.toNat_natCast]
    have a1 : decide (0 ≤ (i : Int) ∧ (i : Int) < ((i + 1 : Nat) : Int)) = true := decide_eq_true (by omega)
    have a2 : decide (0 ≤ (i : Int) ∧ (i : Int) < (i : Int)) = false := decide_eq_false (by omega)
    rw [a1, a2, decide_eq_true e]
    simp
  · rw [decide_eq_false e, Bool.and_false, Bool.or_false]
    congr 1
    exact decide_eq_decide.mpr (by omega)
theorem k_addMoved {d a b : Nat} {S T : Nat → Bool} {z : Int} {h : vHp} {Q : vQ} (hD : vDy h a S) (hE : vDy h b T) (hab : a ≠ b) (hlo : h.1.1 ≤ a) (hz1 : -1000 ≤ z) (hz2 : z ≤ 1000) (k : ∀ h', vDy h' a (fun n => S n || vmv T z 720 n) → vFr (fun q => q = a + 1) h h' → Q none h') : vCall (d + 3) 0 0 15 [.ref a, .ref b, .int (iI z)] h Q := by
  have nb : b ≠ a + 1 := fun q => by
    obtain ⟨f, hw, -⟩ := hD.2
    rw [← q, hE.1] at hw
    cases hw
  have loop : ∀ n i : Nat, i + n = 720 → ∀ h1 : vHp, vDy h1 a (fun n => S n || vmv T z i n) → vFr (fun q => q = a + 1) h h1 → vW (vCall (d + 2)) 15 Q 2 [.ref a, .ref b, .int (iI z), .int (iI (i : Int))] [] h1 0 0 := by
    intro n
    induction n with
    | zero =>
      intro i hi h1 hD1 fr
      refine r_iload c15_2 rfl (r_ci c15_3 ?_)
      refine r_icge c15_6 (by omega) (by omega) (by omega) (by omega) (fun c_6 => ?_) (fun q => by exfalso; omega)
      refine r_vret (st := []) c15_30 ?_
      obtain rfl : i = 720 := by omega
      exact k h1 hD1 fr
    | succ n ih =>
      intro i hi h1 hD1 fr
      have hE1 : vDy h1 b T := vDy_fr hE fr nb (by omega)
      refine r_iload c15_2 rfl (r_ci c15_3 ?_)
      refine r_icge c15_6 (by omega) (by omega) (by omega) (by omega) (fun q => by exfalso; omega) (fun c_6 => ?_)
      refine r_aload c15_9 rfl (r_iload c15_10 rfl ?_)
      refine r_iv1 c15_11 vr_1 hE1.1 rfl (k_holdsN hE1 (by omega) (fun q => ?_) (fun q => ?_))
      · dsimp only [vpush]
        refine r_ifeq c15_14 (by omega) (by omega) (fun q => by exfalso; omega) (fun c_14 => ?_)
        refine r_aload c15_17 rfl (r_iload c15_18 rfl (r_iload c15_19 rfl (r_iadd c15_20 ?_)))
        refine r_iv1 c15_21 vr_2 hD1.1 rfl (k_add hD1 (vFr_lo fr hlo) (by omega) (by omega) (fun h2 hD2 fr2 => ?_))
        dsimp only [vpush]
        refine r_iinc c15_24 rfl rfl (r_goto c15_27 ?_)
        try dsimp only [vst]
        rw [vsu]
        refine ih (i + 1) (by omega) h2 (vDy_cg hD2 (fun m hm => ?_)) (vFr_tr fr fr2)
        rw [vmv_su, q, Bool.true_and, Bool.or_assoc]
      · dsimp only [vpush]
        refine r_ifeq c15_14 (by omega) (by omega) (fun c_14 => ?_) (fun q => by exfalso; omega)
        refine r_iinc c15_24 rfl rfl (r_goto c15_27 ?_)
        try dsimp only [vst]
        rw [vsu]
        refine ih (i + 1) (by omega) h1 (vDy_cg hD1 (fun m hm => ?_)) fr
        rw [vmv_su, q, Bool.false_and, Bool.or_false]
  refine vin 4 [_, _, _, _] ml_15 rfl rfl ?_
  refine r_ci c15_0 (r_istore c15_1 rfl ?_)
  try dsimp only [vst]
  exact loop 720 0 (by omega) h (vDy_cg hD (fun m hm => by
    have e : vmv T z 0 m = false := by
      unfold vmv
      rw [decide_eq_false (by omega)]; rfl
    rw [e, Bool.or_false])) vFr_rf
theorem vmod_su {c n : Nat} (hn : 0 < n) : (c + 1) % n = if c % n + 1 = n then 0 else c % n + 1 := by
  have e : c + 1 = n * (c / n) + (c % n + 1) := by rw [← Nat.add_assoc, Nat.div_add_mod]
  have hl := Nat.mod_lt c hn
  rw [e, Nat.mul_add_mod]
  have e2 : (n * (c / n) + (c % n + 1) - 1) % n = c % n := by rw [show n * (c / n) + (c % n + 1) - 1 = c by omega]
  split
  · rename_i q; rw [q]; exact Nat.mod_self n
  · exact Nat.mod_eq_of_lt (by omega)
/-- every n-th -/
def vnt (T : Nat → Bool) (n i m : Nat) : Bool := decide (m < i) && T m && decide (vcn T 0 (m + 1) % n = 0)
theorem vnt_su {T : Nat → Bool} {n i m : Nat} : vnt T n (i + 1) m = (vnt T n i m || (T i && decide (vcn T 0 (i + 1) % n = 0) && decide (m = i))) := by
  unfold vnt
  by_cases e : m = i
  · subst e
    rw [decide_eq_true (show m < m + 1 by omega), decide_eq_false (show ¬ m < m by omega), decide_eq_true rfl]
    simp
  · rw [decide_eq_false e, Bool.and_false, Bool.or_false]
    congr 2
    exact decide_eq_decide.mpr (by omega)
theorem k_addEachNth {d a b n : Nat} {S T : Nat → Bool} {h : vHp} {Q : vQ} (hD : vDy h a S) (hE : vDy h b T) (hab : a ≠ b) (hlo : h.1.1 ≤ a) (hn1 : 0 < n) (hn2 : n ≤ 1000) (k : ∀ h', vDy h' a (fun m => S m || vnt T n 720 m) → vFr (fun q => q = a + 1) h h' → Q none h') : vCall (d + 3) 0 0 16 [.ref a, .ref b, .int (iI (n : Int))] h Q := by
  have nb : b ≠ a + 1 := fun q => by
    obtain ⟨f, hw, -⟩ := hD.2
    rw [← q, hE.1] at hw
    cases hw
  have loop : ∀ u i : Nat, i + u = 720 → ∀ h1 : vHp, vDy h1 a (fun m => S m || vnt T n i m) → vFr (fun q => q = a + 1) h h1 → vW (vCall (d + 2)) 16 Q 5 [.ref a, .ref b, .int (iI (n : Int)), .int (iI ((n - vcn T 0 i % n : Nat) : Int)), .int (iI (i : Int))] [] h1 0 0 := by
    intro u
    induction u with
    | zero =>
      intro i hi h1 hD1 fr
      refine r_iload c16_5 rfl (r_ci c16_7 ?_)
      refine r_icge c16_10 (by omega) (by omega) (by omega) (by omega) (fun c_10 => ?_) (fun q => by exfalso; omega)
      refine r_vret (st := []) c16_43 ?_
      obtain rfl : i = 720 := by omega
      exact k h1 hD1 fr
    | succ u ih =>
      intro i hi h1 hD1 fr
      have hE1 : vDy h1 b T := vDy_fr hE fr nb (by omega)
      have hl := Nat.mod_lt (vcn T 0 i) hn1
      refine r_iload c16_5 rfl (r_ci c16_7 ?_)
      refine r_icge c16_10 (by omega) (by omega) (by omega) (by omega) (fun q => by exfalso; omega) (fun c_10 => ?_)
      refine r_aload c16_13 rfl (r_iload c16_14 rfl ?_)
      refine r_iv1 c16_16 vr_1 hE1.1 rfl (k_holdsN hE1 (by omega) (fun q => ?_) (fun q => ?_))
      · dsimp only [vpush]
        have ec : vcn T 0 (i + 1) = vcn T 0 i + 1 := by show vcn T 0 i + (if T (0 + i) = true then 1 else 0) = _; rw [Nat.zero_add, if_pos q]
        have em := vmod_su (c := vcn T 0 i) hn1
        rw [← ec] at em
        refine r_ifeq c16_19 (by omega) (by omega) (fun q => by exfalso; omega) (fun c_19 => ?_)
        refine r_iinc c16_22 rfl rfl (r_iload c16_25 rfl ?_)
        try dsimp only [vst]
        refine r_ifne c16_26 (by omega) (by omega) (fun c_26 => ?_) (fun c_26 => ?_)
        · rw [if_neg (by omega)] at em
          refine r_iinc c16_37 rfl rfl (r_goto c16_40 ?_)
          try dsimp only [vst]
          rw [vsu, show ((n - vcn T 0 i % n : Nat) : Int) + -1 = ((n - vcn T 0 (i + 1) % n : Nat) : Int) by omega]
          refine ih (i + 1) (by omega) h1 (vDy_cg hD1 (fun m hm => ?_)) fr
          rw [vnt_su, decide_eq_false (show ¬ vcn T 0 (i + 1) % n = 0 by omega), Bool.and_false, Bool.false_and, Bool.or_false]
        · rw [if_pos (by omega)] at em
          refine r_aload c16_29 rfl (r_iload c16_30 rfl ?_)
          refine r_iv1 c16_32 vr_2 hD1.1 rfl (k_add hD1 (vFr_lo fr hlo) (by omega) (by omega) (fun h2 hD2 fr2 => ?_))
          dsimp only [vpush]
          refine r_iload c16_35 rfl (r_istore c16_36 rfl (r_iinc c16_37 rfl rfl (r_goto c16_40 ?_)))
          try dsimp only [vst]
          rw [vsu]
          have en : (n : Int) = ((n - vcn T 0 (i + 1) % n : Nat) : Int) := by omega
          rw [show (Value.int (iI (n : Int)) :: [Value.int (iI (n : Int)), .int (iI ((i + 1 : Nat) : Int))]) = (Value.int (iI (n : Int)) :: [Value.int (iI ((n - vcn T 0 (i + 1) % n : Nat) : Int)), .int (iI ((i + 1 : Nat) : Int))]) by rw [← en]]
          refine ih (i + 1) (by omega) h2 (vDy_cg hD2 (fun m hm => ?_)) (vFr_tr fr fr2)
          rw [vnt_su, q, decide_eq_true em, Bool.true_and, Bool.true_and, Bool.or_assoc]
          congr 2
          exact decide_eq_decide.mpr (by omega)
      · dsimp only [vpush]
        have ec : vcn T 0 (i + 1) = vcn T 0 i := by show vcn T 0 i + (if T (0 + i) = true then 1 else 0) = _; rw [Nat.zero_add, if_neg (by rw [q]; decide), Nat.add_zero]
        refine r_ifeq c16_19 (by omega) (by omega) (fun c_19 => ?_) (fun q => by exfalso; omega)
        refine r_iinc c16_37 rfl rfl (r_goto c16_40 ?_)
        try dsimp only [vst]
        rw [vsu, ← ec]
        refine ih (i + 1) (by omega) h1 (vDy_cg hD1 (fun m hm => ?_)) fr
        rw [vnt_su, q, Bool.false_and, Bool.false_and, Bool.or_false]
  refine vin 5 [_, _, _, _, _] ml_16 rfl rfl ?_
  refine r_iload c16_0 rfl (r_istore c16_1 rfl (r_ci c16_2 (r_istore c16_3 rfl ?_)))
  try dsimp only [vst]
  have l := loop 720 0 (by omega) h (vDy_cg hD (fun m hm => by
    have e : vnt T n 0 m = false := by
      unfold vnt
      rw [decide_eq_false (by omega)]; rfl
    rw [e, Bool.or_false])) vFr_rf
  rw [show n - vcn T 0 0 % n = n by rw [show vcn T 0 0 = 0 by rfl, Nat.zero_mod]; omega] at l
  exact l

/-- the first day of the block of a day, the last one -/
theorem vfw_range {S : Nat → Bool} : ∀ {n d k : Nat}, vfw S n d k = -5 ∨ ((d : Int) ≤ vfw S n d k ∧ vfw S n d k < ((d + n : Nat) : Int))
  | 0, _, _ => Or.inl rfl
  | n + 1, d, k => by
    unfold vfw
    split
    · split
      · exact Or.inr (by omega)
      · rcases vfw_range (S := S) (n := n) (d := d + 1) (k := k - 1) with e | e
        · exact Or.inl e
        · exact Or.inr (by omega)
    · rcases vfw_range (S := S) (n := n) (d := d + 1) (k := k) with e | e
      · exact Or.inl e
      · exact Or.inr (by omega)
theorem vbw_range {S : Nat → Bool} {lo : Nat} : ∀ {n k : Nat}, vbw S lo n k = -5 ∨ ((lo : Int) ≤ vbw S lo n k ∧ vbw S lo n k < ((lo + n : Nat) : Int))
  | 0, _ => Or.inl rfl
  | n + 1, k => by
    unfold vbw
    split
    · split
      · exact Or.inr (by omega)
      · rcases vbw_range (S := S) (lo := lo) (n := n) (k := k - 1) with e | e
        · exact Or.inl e
        · exact Or.inr (by omega)
    · rcases vbw_range (S := S) (lo := lo) (n := n) (k := k) with e | e
      · exact Or.inl e
      · exact Or.inr (by omega)
theorem vpk_range (S : Nat → Bool) (lo hi : Nat) (k : Int) : vpk S lo hi k = -5 ∨ ((lo : Int) ≤ vpk S lo hi k ∧ vpk S lo hi k < ((hi + 1 : Nat) : Int) ∧ lo ≤ hi) := by
  unfold vpk
  split
  · rcases vfw_range (S := S) (n := hi + 1 - lo) (d := lo) (k := k.toNat) with e | e
    · exact Or.inl e
    · exact Or.inr (by omega)
  · rcases vbw_range (S := S) (lo := lo) (n := hi + 1 - lo) (k := (-k - 1).toNat) with e | e
    · exact Or.inl e
    · exact Or.inr (by omega)
/-- what stands for the k-th of the block of L days that begins with f -/
def vbk (T : Nat → Bool) (L f : Nat) (k : Int) : Int := vpk T f ((if 720 < f + L then 720 else f + L) - 1) k
def vob (T : Nat → Bool) (L : Nat) (k : Int) (u n : Nat) : Bool := decide (n < u) && decide (vbk T L (L * (n / L)) k = (n : Int))
theorem vob_su {T : Nat → Bool} {L j n : Nat} {k : Int} (hL : 0 < L) (hn : n < 720) (hu : L * j < 720) : vob T L k (L * (j + 1)) n = (vob T L k (L * j) n || decide ((n : Int) = vbk T L (L * j) k)) := by
  unfold vob
  have ej : L * (j + 1) = L * j + L := Nat.mul_succ L j
  by_cases e : n < L * j
  · rw [decide_eq_true e, decide_eq_true (show n < L * (j + 1) by omega)]
    have hr : ¬ (n : Int) = vbk T L (L * j) k := fun q => by
      unfold vbk at q
      rcases vpk_range T (L * j) ((if 720 < L * j + L then 720 else L * j + L) - 1) k with r | r <;> omega
    rw [decide_eq_false hr]; simp
  · rw [decide_eq_false e]
    by_cases e2 : n < L * (j + 1)
    · rw [decide_eq_true e2]
      have hq : n / L = j := Nat.div_eq_of_lt_le (by rw [Nat.mul_comm]; omega) (by rw [Nat.mul_comm]; exact e2)
      rw [hq, Bool.true_and, Bool.false_and, Bool.false_or]
      exact decide_eq_decide.mpr ⟨fun q => q.symm, fun q => q.symm⟩
    · rw [decide_eq_false e2]
      have hr : ¬ (n : Int) = vbk T L (L * j) k := fun q => by
        unfold vbk at q
        rcases vpk_range T (L * j) ((if 720 < L * j + L then 720 else L * j + L) - 1) k with r | r
        · omega
        · have hm : (if 720 < L * j + L then 720 else L * j + L) ≤ L * (j + 1) ∧ 1 ≤ (if 720 < L * j + L then 720 else L * j + L) := by split <;> omega
          omega
      rw [decide_eq_false hr]; simp
theorem k_addOfBlocks {d a b L : Nat} {S T : Nat → Bool} {k : Int} {h : vHp} {Q : vQ} (hD : vDy h a S) (hE : vDy h b T) (hab : a ≠ b) (hlo : h.1.1 ≤ a) (hL1 : 0 < L) (hL2 : L ≤ 360) (hk1 : -1000 ≤ k) (hk2 : k ≤ 1000) (kk : ∀ h', vDy h' a (fun m => S m || vob T L k 720 m) → vFr (fun q => q = a + 1) h h' → Q none h') : vCall (d + 4) 0 0 17 [.ref a, .ref b, .int (iI (L : Int)), .int (iI k)] h Q := by
  have nb : b ≠ a + 1 := fun q => by
    obtain ⟨f, hw, -⟩ := hD.2
    rw [← q, hE.1] at hw
    cases hw
  have fin : ∀ (i : Nat) (h1 : vHp), 720 ≤ L * i → vDy h1 a (fun m => S m || vob T L k (L * i) m) → vFr (fun q => q = a + 1) h h1 → Q none h1 := fun i h1 hi hD1 fr => kk h1 (vDy_cg hD1 (fun m hm => by unfold vob; rw [decide_eq_true (show m < L * i by omega), decide_eq_true hm])) fr
  have loop : ∀ u i : Nat, 720 ≤ L * i + u → L * i ≤ 2000 → ∀ h1 : vHp, vDy h1 a (fun m => S m || vob T L k (L * i) m) → vFr (fun q => q = a + 1) h h1 → vW (vCall (d + 3)) 17 Q 3 [.ref a, .ref b, .int (iI (L : Int)), .int (iI k), .int (iI ((L * i : Nat) : Int))] [] h1 0 0 := by
    intro u
    induction u with
    | zero =>
      intro i hi hb h1 hD1 fr
      refine r_iload c17_3 rfl (r_ci c17_5 ?_)
      refine r_icge c17_8 (by omega) (by omega) (by omega) (by omega) (fun c_8 => ?_) (fun q => by exfalso; omega)
      refine r_vret (st := []) c17_41 ?_
      exact fin i h1 (by omega) hD1 fr
    | succ u ih =>
      intro i hi hb h1 hD1 fr
      have hE1 : vDy h1 b T := vDy_fr hE fr nb (by omega)
      refine r_iload c17_3 rfl (r_ci c17_5 ?_)
      refine r_icge c17_8 (by omega) (by omega) (by omega) (by omega) (fun c_8 => ?_) (fun c_8 => ?_)
      · refine r_vret (st := []) c17_41 ?_
        exact fin i h1 (by omega) hD1 fr
      · refine r_iload c17_11 rfl ?_
        refine r_ifle c17_12 (by omega) (by omega) (fun q => by exfalso; omega) (fun c_12 => ?_)
        refine r_aload c17_15 rfl (r_aload c17_16 rfl (r_iload c17_17 rfl (r_iload c17_19 rfl (r_iload c17_21 rfl ?_))))
        refine r_isN2 c17_22 vr_93 rfl (k_lastOfBlock (by omega) (by omega) (by omega) (by omega) ?_)
        dsimp only [vpush]
        refine r_iload c17_25 rfl ?_
        have el : (if 720 < ((L * i : Nat) : Int) + (L : Int) then (720 : Int) else ((L * i : Nat) : Int) + (L : Int)) - 1 = (((if 720 < L * i + L then 720 else L * i + L) - 1 : Nat) : Int) := by split <;> split <;> omega
        rw [el]
        have hr := vpk_range T (L * i) ((if 720 < L * i + L then 720 else L * i + L) - 1) k
        have hm : (if 720 < L * i + L then 720 else L * i + L) ≤ 720 ∧ L * i < (if 720 < L * i + L then 720 else L * i + L) := by split <;> omega
        refine r_iv3 c17_26 vr_12 hE1.1 rfl (k_pick hE1 (by omega) (by omega) (by omega) (by omega) ?_)
        dsimp only [vpush]
        refine r_iv1 c17_29 vr_2 hD1.1 rfl (k_add hD1 (vFr_lo fr hlo) (by omega) (by omega) (fun h2 hD2 fr2 => ?_))
        dsimp only [vpush]
        refine r_iload c17_32 rfl (r_iload c17_34 rfl (r_iadd c17_35 (r_istore c17_36 rfl (r_goto c17_38 ?_))))
        try dsimp only [vst]
        have e : ((L * i : Nat) : Int) + (L : Int) = ((L * (i + 1) : Nat) : Int) := by rw [Nat.mul_succ]; omega
        rw [e]
        refine ih (i + 1) (by rw [Nat.mul_succ]; omega) (by rw [Nat.mul_succ]; omega) h2 (vDy_cg hD2 (fun m hm => ?_)) (vFr_tr fr fr2)
        rw [vob_su hL1 hm (by omega), Bool.or_assoc]
        rfl
  refine vin 5 [_, _, _, _, _] ml_17 rfl rfl ?_
  refine r_ci c17_0 (r_istore c17_1 rfl ?_)
  try dsimp only [vst]
  have l := loop 720 0 (by omega) (by omega) h (vDy_cg hD (fun m hm => by
    have e : vob T L k (L * 0) m = false := by
      unfold vob
      rw [decide_eq_false (by omega)]; rfl
    rw [e, Bool.or_false])) vFr_rf
  exact l
end
section
theorem ml_18 : vml 18 = 8 := by decide +kernel
theorem ml_19 : vml 19 = 8 := by decide +kernel
theorem ml_169 : vml 169 = 1 := by decide +kernel
theorem vr_18 : vrc 18 = some (0, 1) := by decide +kernel
theorem c18_0 : vlk 18 0 = some (4, 1, 0, 0, 1) := by decide +kernel
theorem c18_1 : vlk 18 1 = some (82, 88, 0, 0, 4) := by decide +kernel
theorem c18_4 : vlk 18 4 = some (71, 9, 0, 0, 7) := by decide +kernel
theorem c18_7 : vlk 18 7 = some (2, 0, 0, 0, 8) := by decide +kernel
theorem c18_8 : vlk 18 8 = some (64, 0, 0, 0, 9) := by decide +kernel
theorem c18_9 : vlk 18 9 = some (4, 1, 0, 0, 10) := by decide +kernel
theorem c18_10 : vlk 18 10 = some (1, 0, 0, 60, 12) := by decide +kernel
theorem c18_12 : vlk 18 12 = some (14, 0, 0, 0, 13) := by decide +kernel
theorem c18_13 : vlk 18 13 = some (7, 2, 0, 0, 14) := by decide +kernel
theorem c18_14 : vlk 18 14 = some (4, 1, 0, 0, 15) := by decide +kernel
theorem c18_15 : vlk 18 15 = some (1, 0, 0, 60, 17) := by decide +kernel
theorem c18_17 : vlk 18 17 = some (15, 0, 0, 0, 18) := by decide +kernel
theorem c18_18 : vlk 18 18 = some (7, 3, 0, 0, 19) := by decide +kernel
theorem c18_19 : vlk 18 19 = some (6, 0, 0, 0, 20) := by decide +kernel
theorem c18_20 : vlk 18 20 = some (42, 0, 0, 0, 23) := by decide +kernel
theorem c18_23 : vlk 18 23 = some (4, 2, 0, 0, 24) := by decide +kernel
theorem c18_24 : vlk 18 24 = some (46, 0, 0, 0, 25) := by decide +kernel
theorem c18_25 : vlk 18 25 = some (4, 3, 0, 0, 26) := by decide +kernel
theorem c18_26 : vlk 18 26 = some (29, 0, 0, 0, 27) := by decide +kernel
theorem c18_27 : vlk 18 27 = some (8, 4, 0, 0, 29) := by decide +kernel
theorem c18_29 : vlk 18 29 = some (4, 2, 0, 0, 30) := by decide +kernel
theorem c18_30 : vlk 18 30 = some (1, 0, 0, 1, 31) := by decide +kernel
theorem c18_31 : vlk 18 31 = some (11, 0, 0, 0, 32) := by decide +kernel
theorem c18_32 : vlk 18 32 = some (1, 0, 0, 12, 34) := by decide +kernel
theorem c18_34 : vlk 18 34 = some (79, 53, 0, 0, 37) := by decide +kernel
theorem c18_37 : vlk 18 37 = some (6, 0, 0, 0, 38) := by decide +kernel
theorem c18_38 : vlk 18 38 = some (42, 0, 0, 0, 41) := by decide +kernel
theorem c18_41 : vlk 18 41 = some (4, 2, 0, 0, 42) := by decide +kernel
theorem c18_42 : vlk 18 42 = some (1, 0, 0, 1, 43) := by decide +kernel
theorem c18_43 : vlk 18 43 = some (11, 0, 0, 0, 44) := by decide +kernel
theorem c18_44 : vlk 18 44 = some (46, 0, 0, 0, 45) := by decide +kernel
theorem c18_45 : vlk 18 45 = some (1, 0, 0, 60, 47) := by decide +kernel
theorem c18_47 : vlk 18 47 = some (4, 3, 0, 0, 48) := by decide +kernel
theorem c18_48 : vlk 18 48 = some (12, 0, 0, 0, 49) := by decide +kernel
theorem c18_49 : vlk 18 49 = some (28, 0, 0, 0, 50) := by decide +kernel
theorem c18_50 : vlk 18 50 = some (37, 54, 0, 0, 53) := by decide +kernel
theorem c18_53 : vlk 18 53 = some (2, 0, 0, 0, 54) := by decide +kernel
theorem c18_54 : vlk 18 54 = some (8, 6, 0, 0, 56) := by decide +kernel
theorem c18_56 : vlk 18 56 = some (5, 4, 0, 0, 58) := by decide +kernel
theorem c18_58 : vlk 18 58 = some (5, 6, 0, 0, 60) := by decide +kernel
theorem c18_60 : vlk 18 60 = some (26, 0, 0, 0, 61) := by decide +kernel
theorem c18_61 : vlk 18 61 = some (2, 0, 0, 1152921504606846975, 64) := by decide +kernel
theorem c18_64 : vlk 18 64 = some (25, 0, 0, 0, 65) := by decide +kernel
theorem c18_65 : vlk 18 65 = some (64, 0, 0, 0, 66) := by decide +kernel
theorem c19_0 : vlk 19 0 = some (1, 0, 0, 720, 3) := by decide +kernel
theorem c19_3 : vlk 19 3 = some (4, 1, 0, 0, 4) := by decide +kernel
theorem c19_4 : vlk 19 4 = some (12, 0, 0, 0, 5) := by decide +kernel
theorem c19_5 : vlk 19 5 = some (7, 2, 0, 0, 6) := by decide +kernel
theorem c19_6 : vlk 19 6 = some (1, 0, 0, 0, 7) := by decide +kernel
theorem c19_7 : vlk 19 7 = some (7, 3, 0, 0, 8) := by decide +kernel
theorem c19_8 : vlk 19 8 = some (4, 3, 0, 0, 9) := by decide +kernel
theorem c19_9 : vlk 19 9 = some (1, 0, 0, 12, 11) := by decide +kernel
theorem c19_11 : vlk 19 11 = some (79, 74, 0, 0, 14) := by decide +kernel
theorem c19_14 : vlk 19 14 = some (4, 3, 0, 0, 15) := by decide +kernel
theorem c19_15 : vlk 19 15 = some (1, 0, 0, 60, 17) := by decide +kernel
theorem c19_17 : vlk 19 17 = some (13, 0, 0, 0, 18) := by decide +kernel
theorem c19_18 : vlk 19 18 = some (7, 4, 0, 0, 20) := by decide +kernel
theorem c19_20 : vlk 19 20 = some (1, 0, 0, 0, 21) := by decide +kernel
theorem c19_21 : vlk 19 21 = some (1, 0, 0, 60, 23) := by decide +kernel
theorem c19_23 : vlk 19 23 = some (4, 2, 0, 0, 24) := by decide +kernel
theorem c19_24 : vlk 19 24 = some (4, 4, 0, 0, 26) := by decide +kernel
theorem c19_26 : vlk 19 26 = some (12, 0, 0, 0, 27) := by decide +kernel
theorem c19_27 : vlk 19 27 = some (85, 0, 0, 0, 30) := by decide +kernel
theorem c19_30 : vlk 19 30 = some (84, 0, 0, 0, 33) := by decide +kernel
theorem c19_33 : vlk 19 33 = some (7, 5, 0, 0, 35) := by decide +kernel
theorem c19_35 : vlk 19 35 = some (2, 0, 0, 1, 36) := by decide +kernel
theorem c19_36 : vlk 19 36 = some (4, 5, 0, 0, 38) := by decide +kernel
theorem c19_38 : vlk 19 38 = some (28, 0, 0, 0, 39) := by decide +kernel
theorem c19_39 : vlk 19 39 = some (2, 0, 0, 1, 40) := by decide +kernel
theorem c19_40 : vlk 19 40 = some (23, 0, 0, 0, 41) := by decide +kernel
theorem c19_41 : vlk 19 41 = some (8, 6, 0, 0, 43) := by decide +kernel
theorem c19_43 : vlk 19 43 = some (6, 0, 0, 0, 44) := by decide +kernel
theorem c19_44 : vlk 19 44 = some (42, 0, 0, 0, 47) := by decide +kernel
theorem c19_47 : vlk 19 47 = some (4, 3, 0, 0, 48) := by decide +kernel
theorem c19_48 : vlk 19 48 = some (46, 0, 0, 0, 49) := by decide +kernel
theorem c19_49 : vlk 19 49 = some (6, 0, 0, 0, 50) := by decide +kernel
theorem c19_50 : vlk 19 50 = some (4, 4, 0, 0, 52) := by decide +kernel
theorem c19_52 : vlk 19 52 = some (4, 1, 0, 0, 53) := by decide +kernel
theorem c19_53 : vlk 19 53 = some (11, 0, 0, 0, 54) := by decide +kernel
theorem c19_54 : vlk 19 54 = some (58, 18, 0, 0, 57) := by decide +kernel
theorem c19_57 : vlk 19 57 = some (27, 0, 0, 0, 58) := by decide +kernel
theorem c19_58 : vlk 19 58 = some (5, 6, 0, 0, 60) := by decide +kernel
theorem c19_60 : vlk 19 60 = some (25, 0, 0, 0, 61) := by decide +kernel
theorem c19_61 : vlk 19 61 = some (2, 0, 0, 0, 62) := by decide +kernel
theorem c19_62 : vlk 19 62 = some (31, 0, 0, 0, 63) := by decide +kernel
theorem c19_63 : vlk 19 63 = some (70, 68, 0, 0, 66) := by decide +kernel
theorem c19_66 : vlk 19 66 = some (1, 0, 0, 0, 67) := by decide +kernel
theorem c19_67 : vlk 19 67 = some (63, 1, 0, 0, 68) := by decide +kernel
theorem c19_68 : vlk 19 68 = some (10, 3, 0, 1, 71) := by decide +kernel
theorem c19_71 : vlk 19 71 = some (37, 8, 0, 0, 74) := by decide +kernel
theorem c19_74 : vlk 19 74 = some (1, 0, 0, 1, 75) := by decide +kernel
theorem c19_75 : vlk 19 75 = some (63, 1, 0, 0, 76) := by decide +kernel
theorem c169_0 : vlk 169 0 = some (4, 0, 0, 0, 1) := by decide +kernel
theorem c169_1 : vlk 169 1 = some (4, 0, 0, 0, 2) := by decide +kernel
theorem c169_2 : vlk 169 2 = some (1, 0, 0, 1, 3) := by decide +kernel
theorem c169_3 : vlk 169 3 = some (21, 0, 0, 0, 4) := by decide +kernel
theorem c169_4 : vlk 169 4 = some (1, 0, 0, 1431655765, 7) := by decide +kernel
theorem c169_7 : vlk 169 7 = some (17, 0, 0, 0, 8) := by decide +kernel
theorem c169_8 : vlk 169 8 = some (12, 0, 0, 0, 9) := by decide +kernel
theorem c169_9 : vlk 169 9 = some (7, 0, 0, 0, 10) := by decide +kernel
theorem c169_10 : vlk 169 10 = some (4, 0, 0, 0, 11) := by decide +kernel
theorem c169_11 : vlk 169 11 = some (1, 0, 0, 858993459, 14) := by decide +kernel
theorem c169_14 : vlk 169 14 = some (17, 0, 0, 0, 15) := by decide +kernel
theorem c169_15 : vlk 169 15 = some (4, 0, 0, 0, 16) := by decide +kernel
theorem c169_16 : vlk 169 16 = some (1, 0, 0, 2, 17) := by decide +kernel
theorem c169_17 : vlk 169 17 = some (21, 0, 0, 0, 18) := by decide +kernel
theorem c169_18 : vlk 169 18 = some (1, 0, 0, 858993459, 21) := by decide +kernel
theorem c169_21 : vlk 169 21 = some (17, 0, 0, 0, 22) := by decide +kernel
theorem c169_22 : vlk 169 22 = some (11, 0, 0, 0, 23) := by decide +kernel
theorem c169_23 : vlk 169 23 = some (7, 0, 0, 0, 24) := by decide +kernel
theorem c169_24 : vlk 169 24 = some (4, 0, 0, 0, 25) := by decide +kernel
theorem c169_25 : vlk 169 25 = some (4, 0, 0, 0, 26) := by decide +kernel
theorem c169_26 : vlk 169 26 = some (1, 0, 0, 4, 27) := by decide +kernel
theorem c169_27 : vlk 169 27 = some (21, 0, 0, 0, 28) := by decide +kernel
theorem c169_28 : vlk 169 28 = some (11, 0, 0, 0, 29) := by decide +kernel
theorem c169_29 : vlk 169 29 = some (1, 0, 0, 252645135, 32) := by decide +kernel
theorem c169_32 : vlk 169 32 = some (17, 0, 0, 0, 33) := by decide +kernel
theorem c169_33 : vlk 169 33 = some (7, 0, 0, 0, 34) := by decide +kernel
theorem c169_34 : vlk 169 34 = some (4, 0, 0, 0, 35) := by decide +kernel
theorem c169_35 : vlk 169 35 = some (4, 0, 0, 0, 36) := by decide +kernel
theorem c169_36 : vlk 169 36 = some (1, 0, 0, 8, 38) := by decide +kernel
theorem c169_38 : vlk 169 38 = some (21, 0, 0, 0, 39) := by decide +kernel
theorem c169_39 : vlk 169 39 = some (11, 0, 0, 0, 40) := by decide +kernel
theorem c169_40 : vlk 169 40 = some (7, 0, 0, 0, 41) := by decide +kernel
theorem c169_41 : vlk 169 41 = some (4, 0, 0, 0, 42) := by decide +kernel
theorem c169_42 : vlk 169 42 = some (4, 0, 0, 0, 43) := by decide +kernel
theorem c169_43 : vlk 169 43 = some (1, 0, 0, 16, 45) := by decide +kernel
theorem c169_45 : vlk 169 45 = some (21, 0, 0, 0, 46) := by decide +kernel
theorem c169_46 : vlk 169 46 = some (11, 0, 0, 0, 47) := by decide +kernel
theorem c169_47 : vlk 169 47 = some (7, 0, 0, 0, 48) := by decide +kernel
theorem c169_48 : vlk 169 48 = some (4, 0, 0, 0, 49) := by decide +kernel
theorem c169_49 : vlk 169 49 = some (1, 0, 0, 63, 51) := by decide +kernel
theorem c169_51 : vlk 169 51 = some (17, 0, 0, 0, 52) := by decide +kernel
theorem c169_52 : vlk 169 52 = some (63, 0, 0, 0, 53) := by decide +kernel
/-! the 60 days from one on; the period; how many bits of an int -/
theorem vWs_mk {S : Nat → Bool} {i : Nat} (X : Int64) (h1 : ∀ j, j < 60 → vbt X.toInt j = S (60 * i + j)) (h2 : ∀ j, 60 ≤ j → vbt X.toInt j = false) : vWs S i X.toInt := ⟨lZ_norm X, h1, h2⟩
theorem k_wordFrom {d a : Nat} {S : Nat → Bool} {n : Nat} {h : vHp} {Q : vQ} (hD : vDy h a S) (h1 : n ≤ 2000) (k : ∀ w, vWs (fun j => decide (n + j < 720) && S (n + j)) 0 w → Q (some (.long (lZ w))) h) : vCall (d + 2) 0 0 18 [.ref a, .int (iI (n : Int))] h Q := by
  obtain ⟨f, hw, hf⟩ := hD.2
  have hd := hD.1
  refine vin 8 [_, _, _, _, _, _, _, _] ml_18 rfl rfl ?_
  refine r_iload c18_0 rfl ?_
  refine r_isN1 c18_1 vr_88 rfl (k_isDay (by omega) (by omega) (fun a1 a2 => ?_) (fun a1 => ?_))
  · dsimp only [vpush]
    refine r_ifne c18_4 (by omega) (by omega) (fun c_4 => ?_) (fun q => by exfalso; omega)
    refine r_iload c18_9 rfl (r_ci c18_10 (r_idiv c18_12 (by omega) (by omega) (by omega) (by omega) (r_istore c18_13 rfl (r_iload c18_14 rfl (r_ci c18_15 (r_irem c18_17 (by omega) (by omega) (by omega) (by omega) (r_istore c18_18 rfl (r_aload c18_19 rfl (r_get c18_20 hd rfl (r_iload c18_23 rfl (r_lald c18_24 hw (by omega) (by omega) (r_iload c18_25 rfl (r_lshr c18_26 (r_lstore c18_27 rfl rfl (r_iload c18_29 rfl (r_ci c18_30 (r_iadd c18_31 (r_ci c18_32 ?_))))))))))))))))))
    try dsimp only [vst]
    rw [vdv60, vmd60]
    have hi : n / 60 < 12 := by omega
    have hlow := hf (n / 60) hi
    refine r_icge c18_34 (by omega) (by omega) (by omega) (by omega) (fun c_34 => ?_) (fun c_34 => ?_)
    · refine r_cl c18_53 (r_lstore c18_54 rfl rfl (r_lload c18_56 rfl (r_lload c18_58 rfl (r_lor c18_60 (r_cl c18_61 (r_land c18_64 ?_))))))
      try dsimp only [vst]
      refine r_lret (st := []) c18_65 ?_
      refine k _ (vWs_mk _ (fun j hj => ?_) (fun j hj => ?_))
      · show vbt (vandL _ _) j = _
        rw [vbt_and, vbt_or, vbt_all, vbt_0, vbt_shr (by omega) _ _ (hlow.2.2 63 (by omega)), decide_eq_true hj, Bool.and_true, Bool.or_false, Nat.zero_add]
        by_cases e : n % 60 + j < 60
        · rw [hlow.2.1 _ e, decide_eq_true (by omega), Bool.true_and]
          congr 1; omega
        · rw [hlow.2.2 _ (by omega), decide_eq_false (by omega), Bool.false_and]
      · show vbt (vandL _ _) j = _
        rw [vbt_and, vbt_all, decide_eq_false (by omega), Bool.and_false]
    · refine r_aload c18_37 rfl (r_get c18_38 hd rfl (r_iload c18_41 rfl (r_ci c18_42 (r_iadd c18_43 (r_lald c18_44 hw (by omega) (by omega) (r_ci c18_45 (r_iload c18_47 rfl (r_isub c18_48 (r_lshl c18_49 (r_goto c18_50 (r_lstore c18_54 rfl rfl (r_lload c18_56 rfl (r_lload c18_58 rfl (r_lor c18_60 (r_cl c18_61 (r_land c18_64 ?_))))))))))))))))
      try dsimp only [vst]
      refine r_lret (st := []) c18_65 ?_
      rw [show ((n : Int) / 60 + 1).toNat = n / 60 + 1 by omega, show (60 : Int) - ((n % 60 : Nat) : Int) = ((60 - n % 60 : Nat) : Int) by omega]
      have hi2 : n / 60 + 1 < 12 := by omega
      have hhi := hf (n / 60 + 1) hi2
      refine k _ (vWs_mk _ (fun j hj => ?_) (fun j hj => ?_))
      · show vbt (vandL _ _) j = _
        rw [vbt_and, vbt_or, vbt_all, vbt_shr (by omega) _ _ (hlow.2.2 63 (by omega)), vbt_shl (by omega), decide_eq_true hj, Bool.and_true, Nat.zero_add, decide_eq_true (show j < 64 by omega), Bool.true_and, decide_eq_true (show n + j < 720 by omega), Bool.true_and]
        by_cases e : n % 60 + j < 60
        · rw [hlow.2.1 _ e, decide_eq_false (show ¬ 60 - n % 60 ≤ j by omega), Bool.false_and, Bool.or_false]
          congr 1; omega
        · rw [hlow.2.2 _ (by omega), decide_eq_true (show 60 - n % 60 ≤ j by omega), Bool.true_and, Bool.false_or, hhi.2.1 _ (by omega)]
          congr 1; omega
      · show vbt (vandL _ _) j = _
        rw [vbt_and, vbt_all, decide_eq_false (by omega), Bool.and_false]
  · dsimp only [vpush]
    refine r_ifne c18_4 (by omega) (by omega) (fun q => by exfalso; omega) (fun c_4 => ?_)
    refine r_cl c18_7 ?_
    refine r_lret (st := []) c18_8 ?_
    exact k 0 (vWs_cong (vWs_0 0) (fun j hj => by rw [decide_eq_false (by omega)]; rfl))
theorem vbt_msk {c : Nat} (hc : c ≤ 60) (j : Nat) : vbt (vshlL 1 (c : Int) - 1) j = decide (j < c) := by
  by_cases h : j < 64
  · have e : ∀ t : Nat, t < 61 → ∀ k : Nat, k < 64 → vbt (vshlL 1 (t : Int) - 1) k = decide (k < t) := by decide +kernel
    exact e c (by omega) j h
  · rw [vbt_ge _ (by omega)]; simp; omega
theorem vWs_zero {S : Nat → Bool} {i : Nat} {w : Int} (h : vWs S i w) : w = 0 ↔ ∀ j, j < 60 → S (60 * i + j) = false := by
  constructor
  · intro e j hj
    rw [← h.2.1 j hj, e, vbt_0]
  · intro e
    exact vWs_uniq h (vWs_cong (vWs_0 i) (fun j hj => (e j hj).symm))
/-- the days that come again after so many -/
def vca (S : Nat → Bool) (p u : Nat) : Prop := ∀ n, n < u → n + p < 720 → S n = S (n + p)
theorem k_comesAgain {d a p : Nat} {S : Nat → Bool} {h : vHp} {Q : vQ} (hD : vDy h a S) (h1 : p ≤ 720) (kT : vca S p 720 → Q (some (.int (iI 1))) h) (kF : ¬ vca S p 720 → Q (some (.int (iI 0))) h) : vCall (d + 3) 0 0 19 [.ref a, .int (iI (p : Int))] h Q := by
  obtain ⟨f, hw, hf⟩ := hD.2
  have hd := hD.1
  have loop : ∀ u i : Nat, i + u = 12 → vca S p (60 * i) → ∀ x4 x5 x6 x7 : Value, vW (vCall (d + 2)) 19 Q 8 [.ref a, .int (iI (p : Int)), .int (iI (720 - (p : Int))), .int (iI (i : Int)), x4, x5, x6, x7] [] h 0 0 := by
    intro u
    induction u with
    | zero =>
      intro i hi hv x4 x5 x6 x7
      refine r_iload c19_8 rfl (r_ci c19_9 ?_)
      refine r_icge c19_11 (by omega) (by omega) (by omega) (by omega) (fun c_11 => ?_) (fun q => by exfalso; omega)
      refine r_ci c19_74 ?_
      refine r_zret (st := []) c19_75 (by omega) ?_
      exact kT (by rw [show 720 = 60 * i by omega]; exact hv)
    | succ u ih =>
      intro i hi hv x4 x5 x6 x7
      refine r_iload c19_8 rfl (r_ci c19_9 ?_)
      refine r_icge c19_11 (by omega) (by omega) (by omega) (by omega) (fun q => by exfalso; omega) (fun c_11 => ?_)
      refine r_iload c19_14 rfl (r_ci c19_15 (r_imul c19_17 (r_istore c19_18 rfl (r_ci c19_20 (r_ci c19_21 (r_iload c19_23 rfl (r_iload c19_24 rfl (r_isub c19_26 (r_mmin c19_27 (by omega) (by omega) (by omega) (by omega) (Nat.le_of_ble_eq_true rfl) (r_mmax c19_30 (by omega) (by omega) (by omega) (by omega) (Nat.le_of_ble_eq_true rfl) (r_istore c19_33 rfl (r_cl c19_35 (r_iload c19_36 rfl (r_lshl c19_38 (r_cl c19_39 (r_lsub c19_40 (r_lstore c19_41 rfl rfl (r_aload c19_43 rfl (r_get c19_44 hd rfl (r_iload c19_47 rfl (r_lald c19_48 hw (by omega) (by omega) (r_aload c19_49 rfl (r_iload c19_50 rfl (r_iload c19_52 rfl ?_))))))))))))))))))))))))
      refine r_iadd c19_53 ?_
      try dsimp only [vst]
      rw [show (i : Int) * 60 = ((60 * i : Nat) : Int) by omega, show ((60 * i : Nat) : Int) + (p : Int) = ((60 * i + p : Nat) : Int) by omega, Int.toNat_natCast]
      refine r_iv1 c19_54 vr_18 hd rfl (k_wordFrom hD (by omega) (fun w hw2 => ?_))
      dsimp only [vpush]
      obtain ⟨c, hc, hc60, hcc⟩ : ∃ c : Nat, (if (0 : Int) < (if 720 - (p : Int) - ((60 * i : Nat) : Int) < 60 then 720 - (p : Int) - ((60 * i : Nat) : Int) else 60) then (if 720 - (p : Int) - ((60 * i : Nat) : Int) < 60 then 720 - (p : Int) - ((60 * i : Nat) : Int) else 60) else 0) = (c : Int) ∧ c ≤ 60 ∧ ∀ j, j < 60 → (j < c ↔ 60 * i + j + p < 720) := by
        refine ⟨if 720 - p - 60 * i < 60 then 720 - p - 60 * i else 60, ?_, ?_, ?_⟩
        · split <;> split <;> split <;> omega
        · split <;> omega
        · intro j hj; split <;> omega
      rw [hc]
      have hX : vWs (fun j => (S (60 * i + j) ^^ (decide (60 * i + p + j < 720) && S (60 * i + p + j))) && decide (j < c)) 0 (vandL (vxorL (f i) w) (vshlL 1 (c : Int) - 1)) := by
        refine vWs_mk _ (fun j hj => ?_) (fun j hj => ?_)
        · show vbt (vandL _ _) j = _
          rw [vbt_and, vbt_msk hc60, vbt_xor, (hf i (by omega)).2.1 j hj, hw2.2.1 j hj, Nat.mul_zero, Nat.zero_add]
        · show vbt (vandL _ _) j = _
          rw [vbt_and, vbt_msk hc60, decide_eq_false (by omega), Bool.and_false]
      have hr := vWs_range hX
      have hz := vWs_zero hX
      refine r_lxor c19_57 (r_lload c19_58 rfl (r_land c19_60 (r_cl c19_61 ?_)))
      generalize vandL (vxorL (f i) w) (vshlL 1 (c : Int) - 1) = xx at hr hz
      refine r_lceq c19_62 c19_63 (by omega) (by omega) (by omega) (by omega) (fun c_62 => ?_) (fun c_62 => ?_)
      · refine r_iinc c19_68 rfl rfl (r_goto c19_71 ?_)
        try dsimp only [vst]
        rw [vsu]
        refine ih (i + 1) (by omega) (fun n hn hn2 => ?_) _ _ _ _
        by_cases e : n < 60 * i
        · exact hv n e hn2
        · have e2 := hz.1 c_62 (n - 60 * i) (by omega)
          have e3 := (hcc (n - 60 * i) (by omega)).2 (by omega)
          rw [decide_eq_true (by omega), decide_eq_true (by omega), Bool.true_and, Bool.and_true, Nat.mul_zero, Nat.zero_add, show 60 * i + (n - 60 * i) = n by omega, show 60 * i + p + (n - 60 * i) = n + p by omega] at e2
          revert e2
          cases S n <;> cases S (n + p) <;> simp
      · refine r_ci c19_66 ?_
        refine r_zret (st := []) c19_67 (by omega) ?_
        refine kF (fun q => c_62 (hz.2 (fun j hj => ?_)))
        rw [Nat.mul_zero, Nat.zero_add]
        by_cases e : j < c
        · have e3 := (hcc j hj).1 e
          rw [decide_eq_true (show 60 * i + p + j < 720 by omega), Bool.true_and, q (60 * i + j) (by omega) e3, show 60 * i + j + p = 60 * i + p + j by omega]
          simp
        · rw [decide_eq_false e, Bool.and_false]
  refine vin 8 [_, _, _, _, _, _, _, _] ml_19 rfl rfl ?_
  refine r_ci c19_0 (r_iload c19_3 rfl (r_isub c19_4 (r_istore c19_5 rfl (r_ci c19_6 (r_istore c19_7 rfl ?_)))))
  try dsimp only [vst]
  exact loop 12 0 (by omega) (fun n hn => absurd hn (by omega)) _ _ _ _
/-- how many of the ten lowest bits -/
def vbc (x1 : Int) : Int :=
  let x2 := x1 - vandI (vushrI x1 1) 1431655765
  let x3 := vandI x2 858993459 + vandI (vushrI x2 2) 858993459
  let x4 := vandI (x3 + vushrI x3 4) 252645135
  let x5 := x4 + vushrI x4 8
  let x6 := x5 + vushrI x5 16
  vandI x6 63
theorem vbc_eq : ∀ n : Nat, n < 1024 → vbc (n : Int) = ((vcn (fun j => n.testBit j) 0 10 : Nat) : Int) := by decide +kernel
theorem k_bitCountI {d n : Nat} {h : vHp} {Q : vQ} (hn : n < 1024) (k : Q (some (.int (iI (vcn (fun j => n.testBit j) 0 10 : Nat)))) h) : vCall (d + 1) 0 0 169 [.int (iI (n : Int))] h Q := by
  refine vin 1 [_] ml_169 rfl rfl ?_
  refine r_iload c169_0 rfl (r_iload c169_1 rfl (r_ci c169_2 (r_iushr c169_3 (r_ci c169_4 (r_iand c169_7 (r_isub c169_8 (r_istore c169_9 rfl (r_iload c169_10 rfl (r_ci c169_11 (r_iand c169_14 (r_iload c169_15 rfl (r_ci c169_16 (r_iushr c169_17 (r_ci c169_18 (r_iand c169_21 (r_iadd c169_22 (r_istore c169_23 rfl (r_iload c169_24 rfl (r_iload c169_25 rfl (r_ci c169_26 (r_iushr c169_27 (r_iadd c169_28 (r_ci c169_29 (r_iand c169_32 ?_))))))))))))))))))))))))
  refine r_istore c169_33 rfl (r_iload c169_34 rfl (r_iload c169_35 rfl (r_ci c169_36 (r_iushr c169_38 (r_iadd c169_39 (r_istore c169_40 rfl (r_iload c169_41 rfl (r_iload c169_42 rfl (r_ci c169_43 (r_iushr c169_45 (r_iadd c169_46 (r_istore c169_47 rfl (r_iload c169_48 rfl (r_ci c169_49 (r_iand c169_51 ?_)))))))))))))))
  try dsimp only [vst]
  refine r_iret (st := []) c169_52 ?_
  rw [← vbc_eq n hn] at k
  exact k
end
section
theorem ml_28 : vml 28 = 3 := by decide +kernel
theorem ml_29 : vml 29 = 1 := by decide +kernel
theorem ml_30 : vml 30 = 2 := by decide +kernel
theorem ml_31 : vml 31 = 1 := by decide +kernel
theorem vr_4 : vrc 4 = some (0, 0) := by decide +kernel
theorem vr_5 : vrc 5 = some (0, 1) := by decide +kernel
theorem vr_6 : vrc 6 = some (0, 1) := by decide +kernel
theorem vr_7 : vrc 7 = some (0, 1) := by decide +kernel
theorem vr_28 : vrc 28 = some (2, 2) := by decide +kernel
theorem vr_31 : vrc 31 = some (2, 0) := by decide +kernel
theorem c28_0 : vlk 28 0 = some (6, 0, 0, 0, 1) := by decide +kernel
theorem c28_1 : vlk 28 1 = some (4, 1, 0, 0, 2) := by decide +kernel
theorem c28_2 : vlk 28 2 = some (43, 2, 0, 0, 5) := by decide +kernel
theorem c28_5 : vlk 28 5 = some (6, 0, 0, 0, 6) := by decide +kernel
theorem c28_6 : vlk 28 6 = some (42, 2, 1, 0, 9) := by decide +kernel
theorem c28_9 : vlk 28 9 = some (6, 2, 0, 0, 10) := by decide +kernel
theorem c28_10 : vlk 28 10 = some (58, 5, 0, 0, 13) := by decide +kernel
theorem c28_13 : vlk 28 13 = some (6, 0, 0, 0, 14) := by decide +kernel
theorem c28_14 : vlk 28 14 = some (58, 31, 0, 0, 17) := by decide +kernel
theorem c28_17 : vlk 28 17 = some (66, 0, 0, 0, 18) := by decide +kernel
theorem c29_0 : vlk 29 0 = some (6, 0, 0, 0, 1) := by decide +kernel
theorem c29_1 : vlk 29 1 = some (1, 0, 0, 0, 2) := by decide +kernel
theorem c29_2 : vlk 29 2 = some (43, 2, 0, 0, 5) := by decide +kernel
theorem c29_5 : vlk 29 5 = some (6, 0, 0, 0, 6) := by decide +kernel
theorem c29_6 : vlk 29 6 = some (42, 2, 1, 0, 9) := by decide +kernel
theorem c29_9 : vlk 29 9 = some (58, 4, 0, 0, 12) := by decide +kernel
theorem c29_12 : vlk 29 12 = some (6, 0, 0, 0, 13) := by decide +kernel
theorem c29_13 : vlk 29 13 = some (58, 31, 0, 0, 16) := by decide +kernel
theorem c29_16 : vlk 29 16 = some (66, 0, 0, 0, 17) := by decide +kernel
theorem c30_0 : vlk 30 0 = some (6, 0, 0, 0, 1) := by decide +kernel
theorem c30_1 : vlk 30 1 = some (42, 2, 2, 0, 4) := by decide +kernel
theorem c30_4 : vlk 30 4 = some (6, 1, 0, 0, 5) := by decide +kernel
theorem c30_5 : vlk 30 5 = some (42, 2, 2, 0, 8) := by decide +kernel
theorem c30_8 : vlk 30 8 = some (58, 5, 0, 0, 11) := by decide +kernel
theorem c30_11 : vlk 30 11 = some (6, 0, 0, 0, 12) := by decide +kernel
theorem c30_12 : vlk 30 12 = some (42, 2, 3, 0, 15) := by decide +kernel
theorem c30_15 : vlk 30 15 = some (6, 1, 0, 0, 16) := by decide +kernel
theorem c30_16 : vlk 30 16 = some (42, 2, 3, 0, 19) := by decide +kernel
theorem c30_19 : vlk 30 19 = some (58, 5, 0, 0, 22) := by decide +kernel
theorem c30_22 : vlk 30 22 = some (6, 0, 0, 0, 23) := by decide +kernel
theorem c30_23 : vlk 30 23 = some (6, 1, 0, 0, 24) := by decide +kernel
theorem c30_24 : vlk 30 24 = some (42, 2, 0, 0, 27) := by decide +kernel
theorem c30_27 : vlk 30 27 = some (6, 1, 0, 0, 28) := by decide +kernel
theorem c30_28 : vlk 30 28 = some (42, 2, 1, 0, 31) := by decide +kernel
theorem c30_31 : vlk 30 31 = some (58, 28, 0, 0, 34) := by decide +kernel
theorem c30_34 : vlk 30 34 = some (66, 0, 0, 0, 35) := by decide +kernel
theorem c31_0 : vlk 31 0 = some (6, 0, 0, 0, 1) := by decide +kernel
theorem c31_1 : vlk 31 1 = some (42, 2, 4, 0, 4) := by decide +kernel
theorem c31_4 : vlk 31 4 = some (6, 0, 0, 0, 5) := by decide +kernel
theorem c31_5 : vlk 31 5 = some (42, 2, 1, 0, 8) := by decide +kernel
theorem c31_8 : vlk 31 8 = some (58, 5, 0, 0, 11) := by decide +kernel
theorem c31_11 : vlk 31 11 = some (6, 0, 0, 0, 12) := by decide +kernel
theorem c31_12 : vlk 31 12 = some (42, 2, 4, 0, 15) := by decide +kernel
theorem c31_15 : vlk 31 15 = some (6, 0, 0, 0, 16) := by decide +kernel
theorem c31_16 : vlk 31 16 = some (42, 2, 3, 0, 19) := by decide +kernel
theorem c31_19 : vlk 31 19 = some (58, 6, 0, 0, 22) := by decide +kernel
theorem c31_22 : vlk 31 22 = some (6, 0, 0, 0, 23) := by decide +kernel
theorem c31_23 : vlk 31 23 = some (42, 2, 4, 0, 26) := by decide +kernel
theorem c31_26 : vlk 31 26 = some (6, 0, 0, 0, 27) := by decide +kernel
theorem c31_27 : vlk 31 27 = some (42, 2, 2, 0, 30) := by decide +kernel
theorem c31_30 : vlk 31 30 = some (58, 7, 0, 0, 33) := by decide +kernel
theorem c31_33 : vlk 31 33 = some (66, 0, 0, 0, 34) := by decide +kernel
/-! Plan: nine cells; its DAYS are what its rule and extra days make less the days out -/
def vBi (b : Bool) : Int := if b = true then 1 else 0
def vP0 (h : vHp) (p : Nat) (ru : Bool) (R O X D : Nat → Bool) : Prop := hg h p = some (.inr (2, [.int (iI (vBi ru)), .ref (p + 1), .ref (p + 3), .ref (p + 5), .ref (p + 7)])) ∧ vDy h (p + 1) R ∧ vDy h (p + 3) O ∧ vDy h (p + 5) X ∧ vDy h (p + 7) D
def vhs (R O X : Nat → Bool) (n : Nat) : Bool := (R n || X n) && !O n
def vPl (h : vHp) (p : Nat) (ru : Bool) (R O X : Nat → Bool) : Prop := vP0 h p ru R O X (vhs R O X)
theorem vP0_fr {Z : Nat → Prop} {h h1 : vHp} {p : Nat} {ru : Bool} {R O X D : Nat → Bool} (hP : vP0 h p ru R O X D) (f : vFr Z h h1) (n : ∀ q, p ≤ q → q < p + 9 → ¬ Z q) : vP0 h1 p ru R O X D :=
  ⟨by rw [f.2.2 _ (n _ (by omega) (by omega))]; exact hP.1, vDy_fr hP.2.1 f (n _ (by omega) (by omega)) (n _ (by omega) (by omega)), vDy_fr hP.2.2.1 f (n _ (by omega) (by omega)) (n _ (by omega) (by omega)), vDy_fr hP.2.2.2.1 f (n _ (by omega) (by omega)) (n _ (by omega) (by omega)), vDy_fr hP.2.2.2.2 f (n _ (by omega) (by omega)) (n _ (by omega) (by omega))⟩
theorem vfit_ru (b : Bool) : vfit 2 0 (.int (iI (vBi b))) := by cases b <;> exact ⟨rfl, rfl⟩
theorem k_refresh {d p : Nat} {ru : Bool} {R O X D : Nat → Bool} {h : vHp} {Q : vQ} (hP : vP0 h p ru R O X D) (hlo : h.1.1 ≤ p) (k : ∀ h', vPl h' p ru R O X → vFr (fun q => q = p + 8) h h' → Q none h') : vCall (d + 2) 0 0 31 [.ref p] h Q := by
  obtain ⟨h0, hR, hO, hX, hD⟩ := hP
  refine vin 1 [_] ml_31 rfl rfl ?_
  refine r_aload c31_0 rfl (r_get c31_1 h0 rfl (r_aload c31_4 rfl (r_get c31_5 h0 rfl ?_)))
  refine r_iv1 c31_8 vr_5 hD.1 rfl (k_become hD hR (by omega) (fun h1 hD1 f1 => ?_))
  dsimp only [vpush]
  have g0 : hg h1 p = _ := (f1.2.2 p (by omega)).trans h0
  refine r_aload c31_11 rfl (r_get c31_12 g0 rfl (r_aload c31_15 rfl (r_get c31_16 g0 rfl ?_)))
  refine r_iv1 c31_19 vr_6 hD1.1 rfl (k_addAll hD1 (vDy_fr hX f1 (by omega) (by omega)) (by omega) (vFr_lo f1 (by omega)) (fun h2 hD2 f2 => ?_))
  dsimp only [vpush]
  have g1 : hg h2 p = _ := (f2.2.2 p (by omega)).trans g0
  refine r_aload c31_22 rfl (r_get c31_23 g1 rfl (r_aload c31_26 rfl (r_get c31_27 g1 rfl ?_)))
  have f12 := vFr_tr f1 f2
  refine r_iv1 c31_30 vr_7 hD2.1 rfl (k_removeAll hD2 (vDy_fr hO f12 (by omega) (by omega)) (by omega) (vFr_lo f12 (by omega)) (fun h3 hD3 f3 => ?_))
  dsimp only [vpush]
  have f13 := vFr_tr f12 f3
  refine r_vret (st := []) c31_33 ?_
  exact k h3 ⟨by rw [f13.2.2 p (by omega)]; exact h0, vDy_fr hR f13 (by omega) (by omega), vDy_fr hO f13 (by omega) (by omega), vDy_fr hX f13 (by omega) (by omega), hD3⟩ f13
theorem k_planBecome {d p s : Nat} {ru rn : Bool} {R O X D S : Nat → Bool} {h : vHp} {Q : vQ} (hP : vP0 h p ru R O X D) (hS : vDy h s S) (hlo : h.1.1 ≤ p) (k : ∀ h', vPl h' p rn S O X → vFr (fun q => p ≤ q ∧ q < p + 9) h h' → Q none h') : vCall (d + 3) 0 0 28 [.ref p, .int (iI (vBi rn)), .ref s] h Q := by
  obtain ⟨h0, hR, hO, hX, hD⟩ := hP
  have n1 : s ≠ p := fun q => by
    have e := hS.1
    rw [q, h0] at e
    cases e
  have n2 : s + 1 ≠ p := fun q => by
    obtain ⟨f, hw, -⟩ := hS.2
    rw [q, h0] at hw
    cases hw
  refine vin 3 [_, _, _] ml_28 rfl rfl ?_
  refine r_aload c28_0 rfl (r_iload c28_1 rfl ?_)
  refine r_put c28_2 h0 hlo rfl (vfit_ru rn) (fun h1 s1 => ?_)
  have f1 := vFr_st s1
  have g1 := s1.2.2.1
  dsimp only [vst] at g1
  refine r_aload c28_5 rfl (r_get c28_6 g1 rfl (r_aload c28_9 rfl ?_))
  have hR1 := vDy_fr hR f1 (by omega) (by omega)
  refine r_iv1 c28_10 vr_5 hR1.1 rfl (k_become hR1 (vDy_fr hS f1 n1 n2) (vFr_lo f1 (by omega)) (fun h2 hR2 f2 => ?_))
  dsimp only [vpush]
  refine r_aload c28_13 rfl ?_
  have f12 := vFr_tr (vFr_up f1 (Y := fun q => q = p ∨ q = p + 2) (fun q e => Or.inl e)) (vFr_up f2 (fun q e => Or.inr e))
  have g2 : hg h2 p = _ := (f2.2.2 p (by omega)).trans g1
  refine r_iv0 c28_14 vr_31 g2 rfl (k_refresh ⟨g2, hR2, vDy_fr hO f12 (by omega) (by omega), vDy_fr hX f12 (by omega) (by omega), vDy_fr hD f12 (by omega) (by omega)⟩ (vFr_lo f12 hlo) (fun h3 hP3 f3 => ?_))
  dsimp only [vpush]
  refine r_vret (st := []) c28_17 ?_
  exact k h3 hP3 (vFr_tr (vFr_up f12 (fun q e => by omega)) (vFr_up f3 (fun q e => by omega)))
theorem k_unrule {d p : Nat} {ru : Bool} {R O X D : Nat → Bool} {h : vHp} {Q : vQ} (hP : vP0 h p ru R O X D) (hlo : h.1.1 ≤ p) (k : ∀ h', vPl h' p false (fun _ => false) O X → vFr (fun q => p ≤ q ∧ q < p + 9) h h' → Q none h') : vCall (d + 3) 0 0 29 [.ref p] h Q := by
  obtain ⟨h0, hR, hO, hX, hD⟩ := hP
  refine vin 1 [_] ml_29 rfl rfl ?_
  refine r_aload c29_0 rfl (r_ci c29_1 ?_)
  refine r_put c29_2 h0 hlo rfl (vfit_ru false) (fun h1 s1 => ?_)
  have f1 := vFr_st s1
  have g1 := s1.2.2.1
  dsimp only [vst] at g1
  refine r_aload c29_5 rfl (r_get c29_6 g1 rfl ?_)
  have hR1 := vDy_fr hR f1 (by omega) (by omega)
  refine r_iv0 c29_9 vr_4 hR1.1 rfl (k_wipe hR1 (vFr_lo f1 (by omega)) (fun h2 hR2 f2 => ?_))
  dsimp only [vpush]
  refine r_aload c29_12 rfl ?_
  have f12 := vFr_tr (vFr_up f1 (Y := fun q => q = p ∨ q = p + 2) (fun q e => Or.inl e)) (vFr_up f2 (fun q e => Or.inr e))
  have g2 : hg h2 p = _ := (f2.2.2 p (by omega)).trans g1
  refine r_iv0 c29_13 vr_31 g2 rfl (k_refresh (ru := false) ⟨g2, hR2, vDy_fr hO f12 (by omega) (by omega), vDy_fr hX f12 (by omega) (by omega), vDy_fr hD f12 (by omega) (by omega)⟩ (vFr_lo f12 hlo) (fun h3 hP3 f3 => ?_))
  dsimp only [vpush]
  refine r_vret (st := []) c29_16 ?_
  exact k h3 hP3 (vFr_tr (vFr_up f12 (fun q e => by omega)) (vFr_up f3 (fun q e => by omega)))
theorem k_planTake {d p s : Nat} {ru rs : Bool} {R O X RS OS XS D DS : Nat → Bool} {h : vHp} {Q : vQ} (hP : vP0 h p ru R O X D) (hS : vP0 h s rs RS OS XS DS) (hd : p + 9 ≤ s ∨ s + 9 ≤ p) (hlo : h.1.1 ≤ p) (k : ∀ h', vPl h' p rs RS OS XS → vFr (fun q => p ≤ q ∧ q < p + 9) h h' → Q none h') : vCall (d + 4) 0 0 30 [.ref p, .ref s] h Q := by
  obtain ⟨h0, hR, hO, hX, hD⟩ := hP
  refine vin 2 [_, _] ml_30 rfl rfl ?_
  refine r_aload c30_0 rfl (r_get c30_1 h0 rfl (r_aload c30_4 rfl (r_get c30_5 hS.1 rfl ?_)))
  refine r_iv1 c30_8 vr_5 hO.1 rfl (k_become hO hS.2.2.1 (by omega) (fun h1 hO1 f1 => ?_))
  dsimp only [vpush]
  have g1 : hg h1 p = _ := (f1.2.2 p (by omega)).trans h0
  have hS1 := vP0_fr hS f1 (fun q e1 e2 => by omega)
  have hX1 := vDy_fr hX f1 (by omega) (by omega)
  refine r_aload c30_11 rfl (r_get c30_12 g1 rfl (r_aload c30_15 rfl (r_get c30_16 hS1.1 rfl ?_)))
  refine r_iv1 c30_19 vr_5 hX1.1 rfl (k_become hX1 hS1.2.2.2.1 (vFr_lo f1 (by omega)) (fun h2 hX2 f2 => ?_))
  dsimp only [vpush]
  have f12 := vFr_tr (vFr_up f1 (Y := fun q => q = p + 4 ∨ q = p + 6) (fun q e => Or.inl e)) (vFr_up f2 (fun q e => Or.inr e))
  have g2 : hg h2 p = _ := (f2.2.2 p (by omega)).trans g1
  have hS2 := vP0_fr hS1 f2 (fun q e1 e2 => by omega)
  refine r_aload c30_22 rfl (r_aload c30_23 rfl (r_get c30_24 hS2.1 rfl (r_aload c30_27 rfl (r_get c30_28 hS2.1 rfl ?_))))
  refine r_iv2 c30_31 vr_28 g2 rfl (k_planBecome (rn := rs) ⟨g2, vDy_fr hR f12 (by omega) (by omega), vDy_fr hO1 f2 (by omega) (by omega), hX2, vDy_fr hD f12 (by omega) (by omega)⟩ hS2.2.1 (vFr_lo f12 hlo) (fun h3 hP3 f3 => ?_))
  dsimp only [vpush]
  refine r_vret (st := []) c30_34 ?_
  exact k h3 hP3 (vFr_tr (vFr_up f12 (fun q e => by omega)) f3)
end
section
theorem ml_22 : vml 22 = 6 := by decide +kernel
theorem ml_23 : vml 23 = 6 := by decide +kernel
theorem c22_0 : vlk 22 0 = some (1, 0, 0, 0, 1) := by decide +kernel
theorem c22_1 : vlk 22 1 = some (7, 4, 0, 0, 3) := by decide +kernel
theorem c22_3 : vlk 22 3 = some (4, 4, 0, 0, 5) := by decide +kernel
theorem c22_5 : vlk 22 5 = some (6, 0, 0, 0, 6) := by decide +kernel
theorem c22_6 : vlk 22 6 = some (42, 1, 1, 0, 9) := by decide +kernel
theorem c22_9 : vlk 22 9 = some (79, 54, 0, 0, 12) := by decide +kernel
theorem c22_12 : vlk 22 12 = some (6, 0, 0, 0, 13) := by decide +kernel
theorem c22_13 : vlk 22 13 = some (42, 1, 0, 0, 16) := by decide +kernel
theorem c22_16 : vlk 22 16 = some (4, 4, 0, 0, 18) := by decide +kernel
theorem c22_18 : vlk 22 18 = some (48, 0, 0, 0, 19) := by decide +kernel
theorem c22_19 : vlk 22 19 = some (9, 5, 0, 0, 21) := by decide +kernel
theorem c22_21 : vlk 22 21 = some (6, 5, 0, 0, 23) := by decide +kernel
theorem c22_23 : vlk 22 23 = some (1, 0, 0, 0, 24) := by decide +kernel
theorem c22_24 : vlk 22 24 = some (45, 0, 0, 0, 25) := by decide +kernel
theorem c22_25 : vlk 22 25 = some (4, 1, 0, 0, 26) := by decide +kernel
theorem c22_26 : vlk 22 26 = some (77, 48, 0, 0, 29) := by decide +kernel
theorem c22_29 : vlk 22 29 = some (6, 5, 0, 0, 31) := by decide +kernel
theorem c22_31 : vlk 22 31 = some (1, 0, 0, 1, 32) := by decide +kernel
theorem c22_32 : vlk 22 32 = some (45, 0, 0, 0, 33) := by decide +kernel
theorem c22_33 : vlk 22 33 = some (4, 2, 0, 0, 34) := by decide +kernel
theorem c22_34 : vlk 22 34 = some (77, 48, 0, 0, 37) := by decide +kernel
theorem c22_37 : vlk 22 37 = some (6, 5, 0, 0, 39) := by decide +kernel
theorem c22_39 : vlk 22 39 = some (1, 0, 0, 2, 40) := by decide +kernel
theorem c22_40 : vlk 22 40 = some (45, 0, 0, 0, 41) := by decide +kernel
theorem c22_41 : vlk 22 41 = some (4, 3, 0, 0, 42) := by decide +kernel
theorem c22_42 : vlk 22 42 = some (77, 48, 0, 0, 45) := by decide +kernel
theorem c22_45 : vlk 22 45 = some (4, 4, 0, 0, 47) := by decide +kernel
theorem c22_47 : vlk 22 47 = some (63, 0, 0, 0, 48) := by decide +kernel
theorem c22_48 : vlk 22 48 = some (10, 4, 0, 1, 51) := by decide +kernel
theorem c22_51 : vlk 22 51 = some (37, 3, 0, 0, 54) := by decide +kernel
theorem c22_54 : vlk 22 54 = some (6, 0, 0, 0, 55) := by decide +kernel
theorem c22_55 : vlk 22 55 = some (42, 1, 1, 0, 58) := by decide +kernel
theorem c22_58 : vlk 22 58 = some (63, 0, 0, 0, 59) := by decide +kernel
theorem c23_0 : vlk 23 0 = some (6, 0, 0, 0, 1) := by decide +kernel
theorem c23_1 : vlk 23 1 = some (42, 1, 0, 0, 4) := by decide +kernel
theorem c23_4 : vlk 23 4 = some (4, 1, 0, 0, 5) := by decide +kernel
theorem c23_5 : vlk 23 5 = some (48, 0, 0, 0, 6) := by decide +kernel
theorem c23_6 : vlk 23 6 = some (9, 5, 0, 0, 8) := by decide +kernel
theorem c23_8 : vlk 23 8 = some (6, 5, 0, 0, 10) := by decide +kernel
theorem c23_10 : vlk 23 10 = some (1, 0, 0, 0, 11) := by decide +kernel
theorem c23_11 : vlk 23 11 = some (4, 2, 0, 0, 12) := by decide +kernel
theorem c23_12 : vlk 23 12 = some (49, 0, 0, 0, 13) := by decide +kernel
theorem c23_13 : vlk 23 13 = some (6, 5, 0, 0, 15) := by decide +kernel
theorem c23_15 : vlk 23 15 = some (1, 0, 0, 1, 16) := by decide +kernel
theorem c23_16 : vlk 23 16 = some (4, 3, 0, 0, 17) := by decide +kernel
theorem c23_17 : vlk 23 17 = some (49, 0, 0, 0, 18) := by decide +kernel
theorem c23_18 : vlk 23 18 = some (6, 5, 0, 0, 20) := by decide +kernel
theorem c23_20 : vlk 23 20 = some (1, 0, 0, 2, 21) := by decide +kernel
theorem c23_21 : vlk 23 21 = some (4, 4, 0, 0, 23) := by decide +kernel
theorem c23_23 : vlk 23 23 = some (49, 0, 0, 0, 24) := by decide +kernel
theorem c23_24 : vlk 23 24 = some (66, 0, 0, 0, 25) := by decide +kernel
/-! Memory: the object at a, its row of six at a + 1, the six rows of four behind it, in an order pm -/
def vMo (h : vHp) (a n : Nat) (hi mi : Int) : Prop := hg h a = some (.inr (1, [.ref (a + 1), .int (iI (n : Int)), .int (iI hi), .int (iI mi)]))
def vMp (h : vHp) (a : Nat) (pm : Nat → Nat) : Prop := ∃ p, hg h (a + 1) = some (.inl (6, 6, .inr p)) ∧ ∀ i, i < 6 → p i = some (a + 2 + pm i)
def vMj (pm : Nat → Nat) : Prop := (∀ i, i < 6 → pm i < 6) ∧ ∀ i j, i < 6 → j < 6 → pm i = pm j → i = j
def vMr (h : vHp) (a : Nat) (pm : Nat → Nat) (L : Nat → Nat → Int) : Prop := ∀ i, i < 6 → ∃ f, hg h (a + 2 + pm i) = some (.inl (0, 4, .inl f)) ∧ ∀ k, k < 4 → f k = L i k
def vMe (h : vHp) (a n : Nat) (hi mi : Int) (L : Nat → Nat → Int) : Prop := vMo h a n hi mi ∧ ∃ pm, vMp h a pm ∧ vMj pm ∧ vMr h a pm L
theorem vMe_fr {Z : Nat → Prop} {h h1 : vHp} {a n : Nat} {hi mi : Int} {L : Nat → Nat → Int} (hM : vMe h a n hi mi L) (f : vFr Z h h1) (nz : ∀ q, a ≤ q → q < a + 8 → ¬ Z q) : vMe h1 a n hi mi L := by
  obtain ⟨h0, pm, ⟨p, hp, hp2⟩, hj, hr⟩ := hM
  refine ⟨(f.2.2 a (nz a (by omega) (by omega))).trans h0, pm, ⟨p, (f.2.2 _ (nz _ (by omega) (by omega))).trans hp, hp2⟩, hj, fun i hi => ?_⟩
  obtain ⟨g, hg1, hg2⟩ := hr i hi
  have := hj.1 i hi
  exact ⟨g, (f.2.2 _ (nz _ (by omega) (by omega))).trans hg1, hg2⟩
/-- the first place of a span among so many, the place behind them if it is nowhere -/
def vfi (L : Nat → Nat → Int) (x y z : Int) : Nat → Nat → Nat
  | 0, i => i
  | n + 1, i => if L i 0 = x ∧ L i 1 = y ∧ L i 2 = z then i else vfi L x y z n (i + 1)
/-- what is read of a row -/
theorem k_find {d a n : Nat} {hi mi x y z : Int} {L : Nat → Nat → Int} {h : vHp} {Q : vQ} (hM : vMe h a n hi mi L) (hn : n ≤ 6) (hb : ∀ i k, i < n → k < 4 → -2147483648 ≤ L i k ∧ L i k ≤ 2147483647) (x1 : -2147483648 ≤ x) (x2 : x ≤ 2147483647) (y1 : -2147483648 ≤ y) (y2 : y ≤ 2147483647) (z1 : -2147483648 ≤ z) (z2 : z ≤ 2147483647) (k : Q (some (.int (iI (vfi L x y z n 0 : Nat)))) h) : vCall (d + 1) 0 0 22 [.ref a, .int (iI x), .int (iI y), .int (iI z)] h Q := by
  obtain ⟨h0, pm, ⟨p, hp, hp2⟩, hj, hr⟩ := hM
  unfold vMo at h0
  have loop : ∀ u i : Nat, i + u = n → vfi L x y z u i = vfi L x y z n 0 → ∀ x5 : Value, vW (vCall d) 22 Q 3 [.ref a, .int (iI x), .int (iI y), .int (iI z), .int (iI (i : Int)), x5] [] h 0 0 := by
    intro u
    induction u with
    | zero =>
      intro i hi' he x5
      refine r_iload c22_3 rfl (r_aload c22_5 rfl (r_get c22_6 h0 rfl ?_))
      refine r_icge c22_9 (by omega) (by omega) (by omega) (by omega) (fun c_9 => ?_) (fun q => by exfalso; omega)
      refine r_aload c22_54 rfl (r_get c22_55 h0 rfl ?_)
      refine r_iret (st := []) c22_58 ?_
      obtain rfl : i = n := by omega
      rw [← he] at k
      exact k
    | succ u ih =>
      intro i hi' he x5
      obtain ⟨f, hf1, hf2⟩ := hr i (by omega)
      have f0 : f (0 : Int).toNat = L i 0 := hf2 0 (by omega)
      have f1 : f (1 : Int).toNat = L i 1 := hf2 1 (by omega)
      have f2 : f (2 : Int).toNat = L i 2 := hf2 2 (by omega)
      have b0 := hb i 0 (by omega) (by omega)
      have b1 := hb i 1 (by omega) (by omega)
      have b2 := hb i 2 (by omega) (by omega)
      have next : ¬ (L i 0 = x ∧ L i 1 = y ∧ L i 2 = z) → vW (vCall d) 22 Q 48 [.ref a, .int (iI x), .int (iI y), .int (iI z), .int (iI (i : Int)), .ref (a + 2 + pm i)] [] h 0 0 := fun q => by
        refine r_iinc c22_48 rfl rfl (r_goto c22_51 ?_)
        try dsimp only [vst]
        rw [vsu]
        rw [show vfi L x y z (u + 1) i = (if L i 0 = x ∧ L i 1 = y ∧ L i 2 = z then i else vfi L x y z u (i + 1)) from rfl, if_neg q] at he
        exact ih (i + 1) (by omega) he _
      refine r_iload c22_3 rfl (r_aload c22_5 rfl (r_get c22_6 h0 rfl ?_))
      refine r_icge c22_9 (by omega) (by omega) (by omega) (by omega) (fun q => by exfalso; omega) (fun c_9 => ?_)
      refine r_aload c22_12 rfl (r_get c22_13 h0 rfl (r_iload c22_16 rfl (r_aald c22_18 hp (by omega) (by omega) (by omega) (by rw [Int.toNat_natCast]; exact hp2 i (by omega)) (r_astore c22_19 rfl (r_aload c22_21 rfl (r_ci c22_23 (r_iald c22_24 hf1 (by omega) (by omega) (r_iload c22_25 rfl ?_))))))))
      try dsimp only [vst]
      rw [f0]
      refine r_icne c22_26 (by omega) (by omega) (by omega) (by omega) (fun c_26 => ?_) (fun c_26 => ?_)
      · exact next (fun q => c_26 q.1)
      · refine r_aload c22_29 rfl (r_ci c22_31 (r_iald c22_32 hf1 (by omega) (by omega) (r_iload c22_33 rfl ?_)))
        rw [f1]
        refine r_icne c22_34 (by omega) (by omega) (by omega) (by omega) (fun c_34 => ?_) (fun c_34 => ?_)
        · exact next (fun q => c_34 q.2.1)
        · refine r_aload c22_37 rfl (r_ci c22_39 (r_iald c22_40 hf1 (by omega) (by omega) (r_iload c22_41 rfl ?_)))
          rw [f2]
          refine r_icne c22_42 (by omega) (by omega) (by omega) (by omega) (fun c_42 => ?_) (fun c_42 => ?_)
          · exact next (fun q => c_42 q.2.2)
          · refine r_iload c22_45 rfl ?_
            refine r_iret (st := []) c22_47 ?_
            rw [show vfi L x y z (u + 1) i = (if L i 0 = x ∧ L i 1 = y ∧ L i 2 = z then i else vfi L x y z u (i + 1)) from rfl, if_pos ⟨c_26, c_34, c_42⟩] at he
            rw [← he] at k
            exact k
  refine vin 6 [_, _, _, _, _, _] ml_22 rfl rfl ?_
  refine r_ci c22_0 (r_istore c22_1 rfl ?_)
  try dsimp only [vst]
  exact loop n 0 (by omega) rfl _
/-- one row takes new contents -/
theorem vMr_st {h h1 : vHp} {a i : Nat} {pm : Nat → Nat} {L : Nat → Nat → Int} {f : Nat → Int} (hr : vMr h a pm L) (hj : vMj pm) (hi : i < 6) (s : vSt h h1 (a + 2 + pm i) (.inl (0, 4, .inl f))) : vMr h1 a pm (fun j k => if j = i then f k else L j k) := by
  intro j hj2
  by_cases e : j = i
  · subst e
    exact ⟨f, s.2.2.1, fun k hk => (if_pos rfl).symm⟩
  · obtain ⟨g, g1, g2⟩ := hr j hj2
    refine ⟨g, (s.2.2.2 _ (fun q => e (hj.2 j i hj2 hi (by omega)))).trans g1, fun k hk => (g2 k hk).trans (if_neg e).symm⟩
theorem vMr_cg {h : vHp} {a : Nat} {pm : Nat → Nat} {L M : Nat → Nat → Int} (hr : vMr h a pm L) (e : ∀ i k, i < 6 → k < 4 → L i k = M i k) : vMr h a pm M := fun i hi => by
  obtain ⟨f, f1, f2⟩ := hr i hi
  exact ⟨f, f1, fun k hk => (f2 k hk).trans (e i k hi hk)⟩
theorem vMe_cg {h : vHp} {a n : Nat} {hi mi : Int} {L M : Nat → Nat → Int} (hM : vMe h a n hi mi L) (e : ∀ i k, i < 6 → k < 4 → L i k = M i k) : vMe h a n hi mi M := by
  obtain ⟨h0, pm, hp, hj, hr⟩ := hM
  exact ⟨h0, pm, hp, hj, vMr_cg hr e⟩
theorem k_write {d a n p : Nat} {hi mi x y z : Int} {L : Nat → Nat → Int} {h : vHp} {Q : vQ} (hM : vMe h a n hi mi L) (hlo : h.1.1 ≤ a) (hp6 : p < 6) (k : ∀ h', vMe h' a n hi mi (fun j k => if j = p ∧ k < 3 then (if k = 0 then x else if k = 1 then y else z) else L j k) → vFr (fun q => a + 2 ≤ q ∧ q < a + 8) h h' → Q none h') : vCall (d + 1) 0 0 23 [.ref a, .int (iI (p : Int)), .int (iI x), .int (iI y), .int (iI z)] h Q := by
  obtain ⟨h0, pm, ⟨pp, hp, hp2⟩, hj, hr⟩ := hM
  unfold vMo at h0
  have hpl := hj.1 p hp6
  obtain ⟨f, hf1, hf2⟩ := hr p hp6
  refine vin 6 [_, _, _, _, _, _] ml_23 rfl rfl ?_
  refine r_aload c23_0 rfl (r_get c23_1 h0 rfl (r_iload c23_4 rfl (r_aald c23_5 hp (by omega) (by omega) (by omega) (by rw [Int.toNat_natCast]; exact hp2 p (by omega)) (r_astore c23_6 rfl (r_aload c23_8 rfl (r_ci c23_10 (r_iload c23_11 rfl ?_)))))))
  try dsimp only [vst]
  refine r_iast c23_12 hf1 (by omega) (by omega) (by omega) (fun h1 s1 => ?_)
  have r1 := vMr_st hr hj hp6 s1
  refine r_aload c23_13 rfl (r_ci c23_15 (r_iload c23_16 rfl ?_))
  refine r_iast c23_17 s1.2.2.1 (vFr_lo (vFr_st s1) (by omega)) (by omega) (by omega) (fun h2 s2 => ?_)
  have r2 := vMr_st r1 hj hp6 s2
  refine r_aload c23_18 rfl (r_ci c23_20 (r_iload c23_21 rfl ?_))
  refine r_iast c23_23 s2.2.2.1 (vFr_lo (vFr_tr (vFr_st s1) (vFr_st s2)) (by omega)) (by omega) (by omega) (fun h3 s3 => ?_)
  have r3 := vMr_st r2 hj hp6 s3
  refine r_vret (st := []) c23_24 ?_
  have fr : vFr (fun q => a + 2 ≤ q ∧ q < a + 8) h h3 := vFr_tr (vFr_up (vFr_st s1) (fun q e => by omega)) (vFr_tr (vFr_up (vFr_st s2) (fun q e => by omega)) (vFr_up (vFr_st s3) (fun q e => by omega)))
  refine k h3 ⟨(fr.2.2 a (by omega)).trans h0, pm, ⟨pp, (fr.2.2 _ (by omega)).trans hp, hp2⟩, hj, vMr_cg r3 (fun j l hj2 hl => ?_)⟩ fr
  by_cases e : j = p
  · subst e
    have c : l = 0 ∨ l = 1 ∨ l = 2 ∨ l = 3 := by omega
    rcases c with rfl | rfl | rfl | rfl
    · simp [vup]
    · simp [vup]
    · simp [vup]
    · simp [vup]
      exact hf2 3 (by omega)
  · simp only [if_neg e]
    rw [if_neg (fun q => e q.1)]
end
section
theorem ml_24 : vml 24 = 4 := by decide +kernel
theorem ml_26 : vml 26 = 1 := by decide +kernel
theorem c24_0 : vlk 24 0 = some (6, 0, 0, 0, 1) := by decide +kernel
theorem c24_1 : vlk 24 1 = some (42, 1, 0, 0, 4) := by decide +kernel
theorem c24_4 : vlk 24 4 = some (4, 1, 0, 0, 5) := by decide +kernel
theorem c24_5 : vlk 24 5 = some (48, 0, 0, 0, 6) := by decide +kernel
theorem c24_6 : vlk 24 6 = some (9, 2, 0, 0, 7) := by decide +kernel
theorem c24_7 : vlk 24 7 = some (4, 1, 0, 0, 8) := by decide +kernel
theorem c24_8 : vlk 24 8 = some (7, 3, 0, 0, 9) := by decide +kernel
theorem c24_9 : vlk 24 9 = some (4, 3, 0, 0, 10) := by decide +kernel
theorem c24_10 : vlk 24 10 = some (1, 0, 0, 1, 11) := by decide +kernel
theorem c24_11 : vlk 24 11 = some (11, 0, 0, 0, 12) := by decide +kernel
theorem c24_12 : vlk 24 12 = some (6, 0, 0, 0, 13) := by decide +kernel
theorem c24_13 : vlk 24 13 = some (42, 1, 1, 0, 16) := by decide +kernel
theorem c24_16 : vlk 24 16 = some (79, 39, 0, 0, 19) := by decide +kernel
theorem c24_19 : vlk 24 19 = some (6, 0, 0, 0, 20) := by decide +kernel
theorem c24_20 : vlk 24 20 = some (42, 1, 0, 0, 23) := by decide +kernel
theorem c24_23 : vlk 24 23 = some (4, 3, 0, 0, 24) := by decide +kernel
theorem c24_24 : vlk 24 24 = some (6, 0, 0, 0, 25) := by decide +kernel
theorem c24_25 : vlk 24 25 = some (42, 1, 0, 0, 28) := by decide +kernel
theorem c24_28 : vlk 24 28 = some (4, 3, 0, 0, 29) := by decide +kernel
theorem c24_29 : vlk 24 29 = some (1, 0, 0, 1, 30) := by decide +kernel
theorem c24_30 : vlk 24 30 = some (11, 0, 0, 0, 31) := by decide +kernel
theorem c24_31 : vlk 24 31 = some (48, 0, 0, 0, 32) := by decide +kernel
theorem c24_32 : vlk 24 32 = some (52, 0, 0, 0, 33) := by decide +kernel
theorem c24_33 : vlk 24 33 = some (10, 3, 0, 1, 36) := by decide +kernel
theorem c24_36 : vlk 24 36 = some (37, 9, 0, 0, 39) := by decide +kernel
theorem c24_39 : vlk 24 39 = some (6, 0, 0, 0, 40) := by decide +kernel
theorem c24_40 : vlk 24 40 = some (42, 1, 0, 0, 43) := by decide +kernel
theorem c24_43 : vlk 24 43 = some (6, 0, 0, 0, 44) := by decide +kernel
theorem c24_44 : vlk 24 44 = some (42, 1, 1, 0, 47) := by decide +kernel
theorem c24_47 : vlk 24 47 = some (1, 0, 0, 1, 48) := by decide +kernel
theorem c24_48 : vlk 24 48 = some (12, 0, 0, 0, 49) := by decide +kernel
theorem c24_49 : vlk 24 49 = some (6, 2, 0, 0, 50) := by decide +kernel
theorem c24_50 : vlk 24 50 = some (52, 0, 0, 0, 51) := by decide +kernel
theorem c24_51 : vlk 24 51 = some (66, 0, 0, 0, 52) := by decide +kernel
theorem c26_0 : vlk 26 0 = some (6, 0, 0, 0, 1) := by decide +kernel
theorem c26_1 : vlk 26 1 = some (1, 0, 0, 0, 2) := by decide +kernel
theorem c26_2 : vlk 26 2 = some (43, 1, 1, 0, 5) := by decide +kernel
theorem c26_5 : vlk 26 5 = some (66, 0, 0, 0, 6) := by decide +kernel
/-! Memory: the latest, forgetting; lists of spans -/
abbrev vSp : Type := Int × Int × Int × Int
def vRw (L : Nat → Nat → Int) (i : Nat) (s : vSp) : Prop := L i 0 = s.1 ∧ L i 1 = s.2.1 ∧ L i 2 = s.2.2.1 ∧ L i 3 = s.2.2.2
def vMm (h : vHp) (a : Nat) (l : List vSp) (hi mi : Int) : Prop := l.length ≤ 6 ∧ ∃ L, vMe h a l.length hi mi L ∧ ∀ i s, l[i]? = some s → vRw L i s
theorem vMm_fr {Z : Nat → Prop} {h h1 : vHp} {a : Nat} {l : List vSp} {hi mi : Int} (hM : vMm h a l hi mi) (f : vFr Z h h1) (nz : ∀ q, a ≤ q → q < a + 8 → ¬ Z q) : vMm h1 a l hi mi := by
  obtain ⟨h1, L, h2, h3⟩ := hM
  exact ⟨h1, L, vMe_fr h2 f nz, h3⟩
/-- the rows when the one at p has become the last of n -/
def vlt {α : Type} (L : Nat → α) (p n j : Nat) : α := if p ≤ j ∧ j + 1 < n then L (j + 1) else if j + 1 = n then L p else L j
theorem k_makeLatest {d a n p : Nat} {hi mi : Int} {L : Nat → Nat → Int} {h : vHp} {Q : vQ} (hM : vMe h a n hi mi L) (hlo : h.1.1 ≤ a) (hn : n ≤ 6) (hp6 : p < n) (k : ∀ h', vMe h' a n hi mi (vlt L p n) → vFr (fun q => q = a + 1) h h' → Q none h') : vCall (d + 1) 0 0 24 [.ref a, .int (iI (p : Int))] h Q := by
  obtain ⟨h0, pm, ⟨pp, hp, hp2⟩, hj, hr⟩ := hM
  unfold vMo at h0
  have loop : ∀ u i : Nat, i + u + 1 = n → p ≤ i → ∀ (h1 : vHp) (p1 : Nat → Option Nat), hg h1 (a + 1) = some (.inl (6, 6, .inr p1)) → (∀ j, j < 6 → p1 j = some (a + 2 + if p ≤ j ∧ j < i then pm (j + 1) else pm j)) → vFr (fun q => q = a + 1) h h1 → vW (vCall d) 24 Q 9 [.ref a, .int (iI (p : Int)), .ref (a + 2 + pm p), .int (iI (i : Int))] [] h1 0 0 := by
    intro u
    induction u with
    | zero =>
      intro i hi' hpi h1 p1 hp1 hq fr
      have g0 := (fr.2.2 a (by omega)).trans h0
      obtain ⟨f, hf1, hf2⟩ := hr p (by omega)
      refine r_iload c24_9 rfl (r_ci c24_10 (r_iadd c24_11 (r_aload c24_12 rfl (r_get c24_13 g0 rfl ?_))))
      refine r_icge c24_16 (by omega) (by omega) (by omega) (by omega) (fun c_16 => ?_) (fun q => by exfalso; omega)
      refine r_aload c24_39 rfl (r_get c24_40 g0 rfl (r_aload c24_43 rfl (r_get c24_44 g0 rfl (r_ci c24_47 (r_isub c24_48 (r_aload c24_49 rfl ?_))))))
      refine r_aastA c24_50 hp1  (vFr_lo fr (by omega)) (by omega) (by omega) ((fr.2.2 _ (by omega)).trans hf1) (fun h2 s2 => ?_)
      refine r_vret (st := []) c24_51 ?_
      have fr2 := vFr_tr fr (vFr_st s2)
      refine k h2 ⟨(fr2.2.2 a (by omega)).trans h0, vlt pm p n, ⟨_, s2.2.2.1, fun j hj2 => ?_⟩, ⟨fun j hj2 => ?_, fun j l hj2 hl2 e => ?_⟩, fun j hj2 => ?_⟩ fr2
      · unfold vup vlt
        by_cases e : j + 1 = n
        · rw [if_pos (by omega), if_neg (by omega), if_pos e]
        · rw [if_neg (by omega), hq j hj2]
          by_cases e2 : p ≤ j ∧ j + 1 < n
          · rw [if_pos (by omega), if_pos e2]
          · rw [if_neg (by omega), if_neg e2, if_neg e]
      · unfold vlt
        split
        · exact hj.1 _ (by omega)
        · split
          · exact hj.1 _ (by omega)
          · exact hj.1 _ (by omega)
      · have in1 := hj.2
        unfold vlt at e
        have key : ∀ x y, x < 6 → y < 6 → pm x = pm y → x = y := in1
        split at e <;> split at e <;> first
          | (have := key _ _ (by omega) (by omega) e; omega)
          | (split at e <;> first
              | (have := key _ _ (by omega) (by omega) e; omega)
              | (split at e <;> (have := key _ _ (by omega) (by omega) e; omega)))
      · have g : ∃ t, t < 6 ∧ vlt pm p n j = pm t ∧ vlt L p n j = L t := by
          unfold vlt
          split
          · exact ⟨j + 1, by omega, rfl, rfl⟩
          · split
            · exact ⟨p, by omega, rfl, rfl⟩
            · exact ⟨j, hj2, rfl, rfl⟩
        obtain ⟨t, t1, t2, t3⟩ := g
        obtain ⟨f, f1, f2⟩ := hr t t1
        rw [t2, t3]
        exact ⟨f, (fr2.2.2 _ (by omega)).trans f1, f2⟩
    | succ u ih =>
      intro i hi' hpi h1 p1 hp1 hq fr
      have g0 := (fr.2.2 a (by omega)).trans h0
      obtain ⟨f, hf1, hf2⟩ := hr (i + 1) (by omega)
      have e1 : p1 (i + 1) = some (a + 2 + pm (i + 1)) := by rw [hq _ (by omega), if_neg (by omega)]
      refine r_iload c24_9 rfl (r_ci c24_10 (r_iadd c24_11 (r_aload c24_12 rfl (r_get c24_13 g0 rfl ?_))))
      refine r_icge c24_16 (by omega) (by omega) (by omega) (by omega) (fun q => by exfalso; omega) (fun c_16 => ?_)
      refine r_aload c24_19 rfl (r_get c24_20 g0 rfl (r_iload c24_23 rfl (r_aload c24_24 rfl (r_get c24_25 g0 rfl (r_iload c24_28 rfl (r_ci c24_29 (r_iadd c24_30 (r_aald c24_31 hp1 (by omega) (by omega) (by omega) (by rw [show ((i : Int) + 1).toNat = i + 1 by omega]; exact e1) ?_))))))))
      refine r_aastA c24_32 hp1  (vFr_lo fr (by omega)) (by omega) (by omega) ((fr.2.2 _ (by omega)).trans hf1) (fun h2 s2 => ?_)
      refine r_iinc c24_33 rfl rfl (r_goto c24_36 ?_)
      try dsimp only [vst]
      rw [vsu]
      refine ih (i + 1) (by omega) (by omega) h2 _ s2.2.2.1 (fun j hj2 => ?_) (vFr_tr fr (vFr_st s2))
      unfold vup
      rw [Int.toNat_natCast]
      by_cases e : j = i
      · rw [if_pos e, if_pos (by omega)]; subst e; rfl
      · rw [if_neg e, hq j hj2]
        by_cases e2 : p ≤ j ∧ j < i
        · rw [if_pos e2, if_pos (by omega)]
        · rw [if_neg e2, if_neg (by omega)]
  refine vin 4 [_, _, _, _] ml_24 rfl rfl ?_
  refine r_aload c24_0 rfl (r_get c24_1 h0 rfl (r_iload c24_4 rfl (r_aald c24_5 hp (by omega) (by omega) (by omega) (by rw [Int.toNat_natCast]; exact hp2 p (by omega)) (r_astore c24_6 rfl (r_iload c24_7 rfl (r_istore c24_8 rfl ?_))))))
  try dsimp only [vst]
  exact loop (n - p - 1) p (by omega) (by omega) h pp hp (fun j hj2 => by rw [if_neg (by omega)]; exact hp2 j hj2) vFr_rf
theorem k_forgetAll {d a : Nat} {hi mi : Int} {l : List vSp} {h : vHp} {Q : vQ} (hM : vMm h a l hi mi) (hlo : h.1.1 ≤ a) (k : ∀ h', vMm h' a [] hi mi → vFr (fun q => q = a) h h' → Q none h') : vCall (d + 1) 0 0 26 [.ref a] h Q := by
  obtain ⟨hn, L, ⟨h0, pm, ⟨pp, hp, hp2⟩, hj, hr⟩, hL⟩ := hM
  unfold vMo at h0
  refine vin 1 [_] ml_26 rfl rfl ?_
  refine r_aload c26_0 rfl (r_ci c26_1 ?_)
  refine r_put c26_2 h0 hlo rfl ⟨rfl, rfl⟩ (fun h1 s1 => ?_)
  refine r_vret (st := []) c26_5 ?_
  have fr := vFr_st s1
  exact k h1 ⟨by simp, L, ⟨s1.2.2.1, pm, ⟨pp, (fr.2.2 _ (by omega)).trans hp, hp2⟩, hj, fun i hi => by
    obtain ⟨f, f1, f2⟩ := hr i hi
    exact ⟨f, (fr.2.2 _ (by omega)).trans f1, f2⟩⟩, fun i s e => by simp at e⟩ fr
end
section
theorem ml_25 : vml 25 = 5 := by decide +kernel
theorem c25_0 : vlk 25 0 = some (1, 0, 0, 0, 1) := by decide +kernel
theorem c25_1 : vlk 25 1 = some (7, 2, 0, 0, 2) := by decide +kernel
theorem c25_2 : vlk 25 2 = some (1, 0, 0, 0, 3) := by decide +kernel
theorem c25_3 : vlk 25 3 = some (7, 3, 0, 0, 4) := by decide +kernel
theorem c25_4 : vlk 25 4 = some (4, 3, 0, 0, 5) := by decide +kernel
theorem c25_5 : vlk 25 5 = some (6, 0, 0, 0, 6) := by decide +kernel
theorem c25_6 : vlk 25 6 = some (42, 1, 1, 0, 9) := by decide +kernel
theorem c25_9 : vlk 25 9 = some (79, 57, 0, 0, 12) := by decide +kernel
theorem c25_12 : vlk 25 12 = some (6, 0, 0, 0, 13) := by decide +kernel
theorem c25_13 : vlk 25 13 = some (42, 1, 0, 0, 16) := by decide +kernel
theorem c25_16 : vlk 25 16 = some (4, 3, 0, 0, 17) := by decide +kernel
theorem c25_17 : vlk 25 17 = some (48, 0, 0, 0, 18) := by decide +kernel
theorem c25_18 : vlk 25 18 = some (9, 4, 0, 0, 20) := by decide +kernel
theorem c25_20 : vlk 25 20 = some (6, 4, 0, 0, 22) := by decide +kernel
theorem c25_22 : vlk 25 22 = some (1, 0, 0, 0, 23) := by decide +kernel
theorem c25_23 : vlk 25 23 = some (45, 0, 0, 0, 24) := by decide +kernel
theorem c25_24 : vlk 25 24 = some (4, 1, 0, 0, 25) := by decide +kernel
theorem c25_25 : vlk 25 25 = some (76, 51, 0, 0, 28) := by decide +kernel
theorem c25_28 : vlk 25 28 = some (6, 0, 0, 0, 29) := by decide +kernel
theorem c25_29 : vlk 25 29 = some (42, 1, 0, 0, 32) := by decide +kernel
theorem c25_32 : vlk 25 32 = some (4, 3, 0, 0, 33) := by decide +kernel
theorem c25_33 : vlk 25 33 = some (6, 0, 0, 0, 34) := by decide +kernel
theorem c25_34 : vlk 25 34 = some (42, 1, 0, 0, 37) := by decide +kernel
theorem c25_37 : vlk 25 37 = some (4, 2, 0, 0, 38) := by decide +kernel
theorem c25_38 : vlk 25 38 = some (48, 0, 0, 0, 39) := by decide +kernel
theorem c25_39 : vlk 25 39 = some (52, 0, 0, 0, 40) := by decide +kernel
theorem c25_40 : vlk 25 40 = some (6, 0, 0, 0, 41) := by decide +kernel
theorem c25_41 : vlk 25 41 = some (42, 1, 0, 0, 44) := by decide +kernel
theorem c25_44 : vlk 25 44 = some (4, 2, 0, 0, 45) := by decide +kernel
theorem c25_45 : vlk 25 45 = some (6, 4, 0, 0, 47) := by decide +kernel
theorem c25_47 : vlk 25 47 = some (52, 0, 0, 0, 48) := by decide +kernel
theorem c25_48 : vlk 25 48 = some (10, 2, 0, 1, 51) := by decide +kernel
theorem c25_51 : vlk 25 51 = some (10, 3, 0, 1, 54) := by decide +kernel
theorem c25_54 : vlk 25 54 = some (37, 4, 0, 0, 57) := by decide +kernel
theorem c25_57 : vlk 25 57 = some (6, 0, 0, 0, 58) := by decide +kernel
theorem c25_58 : vlk 25 58 = some (4, 2, 0, 0, 59) := by decide +kernel
theorem c25_59 : vlk 25 59 = some (43, 1, 1, 0, 62) := by decide +kernel
theorem c25_62 : vlk 25 62 = some (66, 0, 0, 0, 63) := by decide +kernel
/-! Memory: forgetting a name, asking -/
def vnx (x : Int) (s : vSp) : Bool := !decide (s.1 = x)
theorem vRw_cg {L M : Nat → Nat → Int} {i j : Nat} {s : vSp} (h : vRw L i s) (e : ∀ k, k < 4 → M j k = L i k) : vRw M j s := ⟨(e 0 (by omega)).trans h.1, (e 1 (by omega)).trans h.2.1, (e 2 (by omega)).trans h.2.2.1, (e 3 (by omega)).trans h.2.2.2⟩
/-- two positions change places -/
def vsw2 {α : Type} (L : Nat → α) (i j t : Nat) : α := if t = i then L j else if t = j then L i else L t
theorem k_forget {d a : Nat} {hi mi x : Int} {l : List vSp} {h : vHp} {Q : vQ} (hM : vMm h a l hi mi) (hlo : h.1.1 ≤ a) (hb : ∀ s, s ∈ l → -2147483648 ≤ s.1 ∧ s.1 ≤ 2147483647) (x1 : -2147483648 ≤ x) (x2 : x ≤ 2147483647) (k : ∀ h', vMm h' a (l.filter (vnx x)) hi mi → vFr (fun q => a ≤ q ∧ q < a + 8) h h' → Q none h') : vCall (d + 1) 0 0 25 [.ref a, .int (iI x)] h Q := by
  obtain ⟨hn, L, hM, hL⟩ := hM
  have loop : ∀ u i : Nat, i + u = l.length → ∀ (h1 : vHp) (L1 : Nat → Nat → Int), vMe h1 a l.length hi mi L1 → (∀ j s, i ≤ j → l[j]? = some s → vRw L1 j s) → (∀ j s, ((l.take i).filter (vnx x))[j]? = some s → vRw L1 j s) → vFr (fun q => a ≤ q ∧ q < a + 8) h h1 → ∀ x4 : Value, vW (vCall d) 25 Q 4 [.ref a, .int (iI x), .int (iI (((l.take i).filter (vnx x)).length : Nat)), .int (iI (i : Int)), x4] [] h1 0 0 := by
    intro u
    induction u with
    | zero =>
      intro i hi' h1 L1 hM1 hA hB fr x4
      obtain ⟨h0, pm, ⟨pp, hp, hp2⟩, hj, hr⟩ := hM1
      unfold vMo at h0
      refine r_iload c25_4 rfl (r_aload c25_5 rfl (r_get c25_6 h0 rfl ?_))
      refine r_icge c25_9 (by omega) (by omega) (by omega) (by omega) (fun c_9 => ?_) (fun q => by exfalso; omega)
      refine r_aload c25_57 rfl (r_iload c25_58 rfl ?_)
      refine r_put c25_59 h0 (vFr_lo fr hlo) rfl ⟨rfl, rfl⟩ (fun h2 s2 => ?_)
      refine r_vret (st := []) c25_62 ?_
      have f2 := vFr_st s2
      have et : l.take i = l := List.take_of_length_le (by omega)
      rw [et] at s2 hB
      refine k h2 ⟨Nat.le_trans (List.length_filter_le _ _) hn, L1, ⟨s2.2.2.1, pm, ⟨pp, (f2.2.2 _ (by omega)).trans hp, hp2⟩, hj, fun j hj2 => ?_⟩, hB⟩ (vFr_tr fr (vFr_up f2 (fun q e => by omega)))
      obtain ⟨f, g1, g2⟩ := hr j hj2
      exact ⟨f, (f2.2.2 _ (by omega)).trans g1, g2⟩
    | succ u ih =>
      intro i hi' h1 L1 hM1 hA hB fr x4
      have hM1' := hM1
      obtain ⟨h0, pm, ⟨pp, hp, hp2⟩, hj, hr⟩ := hM1
      unfold vMo at h0
      have hil : i < l.length := by omega
      obtain ⟨s, hs⟩ : ∃ s, l[i]? = some s := ⟨l[i], List.getElem?_eq_getElem hil⟩
      have hsm : s ∈ l := List.mem_of_getElem? hs
      have bs := hb s hsm
      have rw1 := hA i s (Nat.le_refl i) hs
      have et : l.take (i + 1) = l.take i ++ [s] := by rw [List.take_add_one, hs]; rfl
      have hlen : ((l.take i).filter (vnx x)).length ≤ i := Nat.le_trans (List.length_filter_le _ _) (by rw [List.length_take]; omega)
      obtain ⟨f, hf1, hf2⟩ := hr i (by omega)
      have f0 : f (0 : Int).toNat = s.1 := (hf2 0 (by omega)).trans rw1.1
      refine r_iload c25_4 rfl (r_aload c25_5 rfl (r_get c25_6 h0 rfl ?_))
      refine r_icge c25_9 (by omega) (by omega) (by omega) (by omega) (fun q => by exfalso; omega) (fun c_9 => ?_)
      refine r_aload c25_12 rfl (r_get c25_13 h0 rfl (r_iload c25_16 rfl (r_aald c25_17 hp (by omega) (by omega) (by omega) (by rw [Int.toNat_natCast]; exact hp2 i (by omega)) (r_astore c25_18 rfl (r_aload c25_20 rfl (r_ci c25_22 (r_iald c25_23 hf1 (by omega) (by omega) (r_iload c25_24 rfl ?_))))))))
      try dsimp only [vst]
      rw [f0]
      refine r_iceq c25_25 (by omega) (by omega) (by omega) (by omega) (fun c_25 => ?_) (fun c_25 => ?_)
      · have ef : (l.take (i + 1)).filter (vnx x) = (l.take i).filter (vnx x) := by
          rw [et, List.filter_append, List.filter_cons_of_neg (by unfold vnx; simp [c_25])]
          simp
        refine r_iinc c25_51 rfl rfl (r_goto c25_54 ?_)
        try dsimp only [vst]
        rw [vsu, ← ef]
        refine ih (i + 1) (by omega) h1 L1 hM1' (fun j t hj2 ht => hA j t (by omega) ht) (fun j t ht => ?_) fr _
        rw [ef] at ht
        exact hB j t ht
      · have ef : (l.take (i + 1)).filter (vnx x) = (l.take i).filter (vnx x) ++ [s] := by
          rw [et, List.filter_append, List.filter_cons_of_pos (by unfold vnx; simp [c_25])]
          simp
        generalize hF : (l.take i).filter (vnx x) = F at *
        obtain ⟨g, hg1, hg2⟩ := hr F.length (by omega)
        refine r_aload c25_28 rfl (r_get c25_29 h0 rfl (r_iload c25_32 rfl (r_aload c25_33 rfl (r_get c25_34 h0 rfl (r_iload c25_37 rfl (r_aald c25_38 hp (by omega) (by omega) (by omega) (by rw [Int.toNat_natCast]; exact hp2 F.length (by omega)) ?_))))))
        refine r_aastA c25_39 hp  (vFr_lo fr (by omega)) (by omega) (by omega) hg1 (fun h2 s2 => ?_)
        have f2 := vFr_st s2
        have h02 := (f2.2.2 a (by omega)).trans h0
        refine r_aload c25_40 rfl (r_get c25_41 h02 rfl (r_iload c25_44 rfl (r_aload c25_45 rfl ?_)))
        refine r_aastA c25_47 s2.2.2.1  (vFr_lo f2 (vFr_lo fr (by omega))) (by omega) (by omega) ((f2.2.2 _ (by omega)).trans hf1) (fun h3 s3 => ?_)
        have f3 := vFr_tr f2 (vFr_st s3)
        refine r_iinc c25_48 rfl rfl (r_iinc c25_51 rfl rfl (r_goto c25_54 ?_))
        try dsimp only [vst]
        rw [vsu, vsu, show F.length + 1 = (F ++ [s]).length by simp, ← ef]
        have hM3 : vMe h3 a l.length hi mi (vsw2 L1 i F.length) := by
          refine ⟨(f3.2.2 a (by omega)).trans h0, vsw2 pm i F.length, ⟨_, s3.2.2.1, fun j hj2 => ?_⟩, ⟨fun j hj2 => ?_, fun j t hj2 ht2 e => ?_⟩, fun j hj2 => ?_⟩
          · unfold vup vsw2
            rw [Int.toNat_natCast, Int.toNat_natCast]
            by_cases e1 : j = F.length
            · rw [if_pos e1]
              by_cases e2 : j = i
              · rw [if_pos e2, ← e2, ← e1]
              · rw [if_neg e2, if_pos e1]
            · rw [if_neg e1]
              by_cases e2 : j = i
              · rw [if_pos e2, if_pos e2]
              · rw [if_neg e2, if_neg e2, if_neg e1]; exact hp2 j hj2
          · unfold vsw2
            split
            · exact hj.1 _ (by omega)
            · split
              · exact hj.1 _ (by omega)
              · exact hj.1 _ hj2
          · have key : ∀ y z, y < 6 → z < 6 → pm y = pm z → y = z := hj.2
            unfold vsw2 at e
            split at e <;> split at e <;> first
              | (have := key _ _ (by omega) (by omega) e; omega)
              | (split at e <;> first
                  | (have := key _ _ (by omega) (by omega) e; omega)
                  | (split at e <;> (have := key _ _ (by omega) (by omega) e; omega)))
          · have gg : ∃ t, t < 6 ∧ vsw2 pm i F.length j = pm t ∧ vsw2 L1 i F.length j = L1 t := by
              unfold vsw2
              split
              · exact ⟨F.length, by omega, rfl, rfl⟩
              · split
                · exact ⟨i, by omega, rfl, rfl⟩
                · exact ⟨j, hj2, rfl, rfl⟩
            obtain ⟨t, t1, t2, t3⟩ := gg
            obtain ⟨f, q1, q2⟩ := hr t t1
            rw [t2, t3]
            exact ⟨f, (f3.2.2 _ (by omega)).trans q1, q2⟩
        refine ih (i + 1) (by omega) h3 _ hM3 (fun j t hj2 ht => ?_) (fun j t ht => ?_) (vFr_tr fr (vFr_up f3 (fun q e => by omega))) _
        · refine vRw_cg (hA j t (by omega) ht) (fun k hk => ?_)
          unfold vsw2
          rw [if_neg (by omega), if_neg (by omega)]
        · rw [ef, List.getElem?_append] at ht
          split at ht
          · rename_i hlt
            refine vRw_cg (hB j t ht) (fun k hk => ?_)
            unfold vsw2
            rw [if_neg (by omega), if_neg (by omega)]
          · rename_i hge
            have ej : j = F.length := by
              rcases Nat.lt_or_ge (j - F.length) 1 with q | q
              · omega
              · rw [List.getElem?_eq_none (by simpa using q)] at ht
                cases ht
            rw [ej, Nat.sub_self] at ht
            have est : s = t := by simpa using ht
            subst est
            refine vRw_cg rw1 (fun k hk => ?_)
            unfold vsw2
            by_cases e : j = i
            · rw [if_pos e, ← ej, e]
            · rw [if_neg e, if_pos ej]
  refine vin 5 [_, _, _, _, _] ml_25 rfl rfl ?_
  refine r_ci c25_0 (r_istore c25_1 rfl (r_ci c25_2 (r_istore c25_3 rfl ?_)))
  try dsimp only [vst]
  exact loop l.length 0 (by omega) h L hM (fun j s _ hs => hL j s hs) (fun j s hs => by simp at hs) vFr_rf _
end
section
theorem ml_21 : vml 21 = 6 := by decide +kernel
theorem vr_22 : vrc 22 = some (1, 3) := by decide +kernel
theorem vr_23 : vrc 23 = some (1, 4) := by decide +kernel
theorem vr_24 : vrc 24 = some (1, 1) := by decide +kernel
theorem c21_0 : vlk 21 0 = some (6, 0, 0, 0, 1) := by decide +kernel
theorem c21_1 : vlk 21 1 = some (4, 1, 0, 0, 2) := by decide +kernel
theorem c21_2 : vlk 21 2 = some (4, 2, 0, 0, 3) := by decide +kernel
theorem c21_3 : vlk 21 3 = some (4, 3, 0, 0, 4) := by decide +kernel
theorem c21_4 : vlk 21 4 = some (58, 22, 0, 0, 7) := by decide +kernel
theorem c21_7 : vlk 21 7 = some (7, 5, 0, 0, 9) := by decide +kernel
theorem c21_9 : vlk 21 9 = some (4, 5, 0, 0, 11) := by decide +kernel
theorem c21_11 : vlk 21 11 = some (6, 0, 0, 0, 12) := by decide +kernel
theorem c21_12 : vlk 21 12 = some (42, 1, 1, 0, 15) := by decide +kernel
theorem c21_15 : vlk 21 15 = some (79, 31, 0, 0, 18) := by decide +kernel
theorem c21_18 : vlk 21 18 = some (6, 0, 0, 0, 19) := by decide +kernel
theorem c21_19 : vlk 21 19 = some (34, 0, 0, 0, 20) := by decide +kernel
theorem c21_20 : vlk 21 20 = some (42, 1, 2, 0, 23) := by decide +kernel
theorem c21_23 : vlk 21 23 = some (1, 0, 0, 1, 24) := by decide +kernel
theorem c21_24 : vlk 21 24 = some (11, 0, 0, 0, 25) := by decide +kernel
theorem c21_25 : vlk 21 25 = some (43, 1, 2, 0, 28) := by decide +kernel
theorem c21_28 : vlk 21 28 = some (37, 75, 0, 0, 31) := by decide +kernel
theorem c21_31 : vlk 21 31 = some (6, 0, 0, 0, 32) := by decide +kernel
theorem c21_32 : vlk 21 32 = some (34, 0, 0, 0, 33) := by decide +kernel
theorem c21_33 : vlk 21 33 = some (42, 1, 3, 0, 36) := by decide +kernel
theorem c21_36 : vlk 21 36 = some (1, 0, 0, 1, 37) := by decide +kernel
theorem c21_37 : vlk 21 37 = some (11, 0, 0, 0, 38) := by decide +kernel
theorem c21_38 : vlk 21 38 = some (43, 1, 3, 0, 41) := by decide +kernel
theorem c21_41 : vlk 21 41 = some (6, 0, 0, 0, 42) := by decide +kernel
theorem c21_42 : vlk 21 42 = some (42, 1, 1, 0, 45) := by decide +kernel
theorem c21_45 : vlk 21 45 = some (1, 0, 0, 6, 47) := by decide +kernel
theorem c21_47 : vlk 21 47 = some (79, 63, 0, 0, 50) := by decide +kernel
theorem c21_50 : vlk 21 50 = some (6, 0, 0, 0, 51) := by decide +kernel
theorem c21_51 : vlk 21 51 = some (34, 0, 0, 0, 52) := by decide +kernel
theorem c21_52 : vlk 21 52 = some (42, 1, 1, 0, 55) := by decide +kernel
theorem c21_55 : vlk 21 55 = some (1, 0, 0, 1, 56) := by decide +kernel
theorem c21_56 : vlk 21 56 = some (11, 0, 0, 0, 57) := by decide +kernel
theorem c21_57 : vlk 21 57 = some (43, 1, 1, 0, 60) := by decide +kernel
theorem c21_60 : vlk 21 60 = some (37, 66, 0, 0, 63) := by decide +kernel
theorem c21_63 : vlk 21 63 = some (1, 0, 0, 0, 64) := by decide +kernel
theorem c21_64 : vlk 21 64 = some (7, 5, 0, 0, 66) := by decide +kernel
theorem c21_66 : vlk 21 66 = some (6, 0, 0, 0, 67) := by decide +kernel
theorem c21_67 : vlk 21 67 = some (4, 5, 0, 0, 69) := by decide +kernel
theorem c21_69 : vlk 21 69 = some (4, 1, 0, 0, 70) := by decide +kernel
theorem c21_70 : vlk 21 70 = some (4, 2, 0, 0, 71) := by decide +kernel
theorem c21_71 : vlk 21 71 = some (4, 3, 0, 0, 72) := by decide +kernel
theorem c21_72 : vlk 21 72 = some (58, 23, 0, 0, 75) := by decide +kernel
theorem c21_75 : vlk 21 75 = some (6, 0, 0, 0, 76) := by decide +kernel
theorem c21_76 : vlk 21 76 = some (42, 1, 0, 0, 79) := by decide +kernel
theorem c21_79 : vlk 21 79 = some (4, 5, 0, 0, 81) := by decide +kernel
theorem c21_81 : vlk 21 81 = some (48, 0, 0, 0, 82) := by decide +kernel
theorem c21_82 : vlk 21 82 = some (1, 0, 0, 3, 83) := by decide +kernel
theorem c21_83 : vlk 21 83 = some (4, 4, 0, 0, 85) := by decide +kernel
theorem c21_85 : vlk 21 85 = some (49, 0, 0, 0, 86) := by decide +kernel
theorem c21_86 : vlk 21 86 = some (6, 0, 0, 0, 87) := by decide +kernel
theorem c21_87 : vlk 21 87 = some (4, 5, 0, 0, 89) := by decide +kernel
theorem c21_89 : vlk 21 89 = some (58, 24, 0, 0, 92) := by decide +kernel
theorem c21_92 : vlk 21 92 = some (66, 0, 0, 0, 93) := by decide +kernel
/-! Memory: asking -/
def vky (x y z : Int) (s : vSp) : Bool := decide (s.1 = x ∧ s.2.1 = y ∧ s.2.2.1 = z)
def vnk (x y z : Int) (s : vSp) : Bool := !vky x y z s
def vask (l : List vSp) (x y z w : Int) : List vSp := if ((l.filter (vnk x y z)) ++ [(x, y, z, w)]).length = 7 then ((l.filter (vnk x y z)) ++ [(x, y, z, w)]).drop 1 else (l.filter (vnk x y z)) ++ [(x, y, z, w)]
def vhit (l : List vSp) (x y z : Int) : Bool := decide ((l.filter (vnk x y z)).length < l.length)
/-- no two spans alike -/
def vdis (l : List vSp) : Prop := ∀ (i j : Nat) (s t : vSp), i < j → l[i]? = some s → l[j]? = some t → ¬ (s.1 = t.1 ∧ s.2.1 = t.2.1 ∧ s.2.2.1 = t.2.2.1)
theorem vfi_sp {L : Nat → Nat → Int} {x y z : Int} {l : List vSp} (hL : ∀ i s, l[i]? = some s → vRw L i s) : ∀ u i, i + u = l.length → i ≤ vfi L x y z u i ∧ vfi L x y z u i ≤ l.length ∧ (∀ s, l[vfi L x y z u i]? = some s → vky x y z s = true) ∧ ∀ j s, i ≤ j → j < vfi L x y z u i → l[j]? = some s → vky x y z s = false
  | 0, i, hi => by
    have e : vfi L x y z 0 i = i := rfl
    rw [e]
    refine ⟨Nat.le_refl i, by omega, fun s hs => ?_, fun j s h1 h2 _ => by omega⟩
    rw [List.getElem?_eq_none (by omega)] at hs
    cases hs
  | u + 1, i, hi => by
    rw [show vfi L x y z (u + 1) i = (if L i 0 = x ∧ L i 1 = y ∧ L i 2 = z then i else vfi L x y z u (i + 1)) from rfl]
    split
    · rename_i q
      refine ⟨Nat.le_refl i, by omega, fun s hs => ?_, fun j s h1 h2 _ => by omega⟩
      have r := hL i s hs
      exact decide_eq_true ⟨r.1.symm.trans q.1, r.2.1.symm.trans q.2.1, r.2.2.1.symm.trans q.2.2⟩
    · rename_i q
      obtain ⟨a1, a2, a3, a4⟩ := vfi_sp hL (x := x) (y := y) (z := z) u (i + 1) (by omega)
      refine ⟨by omega, a2, a3, fun j s h1 h2 hs => ?_⟩
      by_cases e : j = i
      · subst e
        have r := hL j s hs
        exact decide_eq_false (fun p => q ⟨r.1.trans p.1, r.2.1.trans p.2.1, r.2.2.1.trans p.2.2⟩)
      · exact a4 j s (by omega) h2 hs
theorem vfil_er {P : vSp → Bool} : ∀ (l : List vSp) (r : Nat), r < l.length → (∀ s, l[r]? = some s → P s = false) → (∀ j s, j ≠ r → l[j]? = some s → P s = true) → l.filter P = l.eraseIdx r
  | [], r, h, _, _ => by simp at h
  | t :: l, 0, _, h1, h2 => by
    rw [List.filter_cons_of_neg (by rw [h1 t rfl]; decide)]
    show l.filter P = l
    rw [List.filter_eq_self]
    intro s hs
    obtain ⟨j, hj⟩ := List.getElem?_of_mem hs
    exact h2 (j + 1) s (by omega) (by simpa using hj)
  | t :: l, r + 1, h, h1, h2 => by
    rw [List.filter_cons_of_pos (h2 0 t (by omega) rfl)]
    show t :: l.filter P = t :: l.eraseIdx r
    rw [vfil_er l r (by simpa using h) (fun s hs => h1 s (by simpa using hs)) (fun j s hj hs => h2 (j + 1) s (by omega) (by simpa using hs))]
theorem k_ask {d a : Nat} {hi mi x y z w : Int} {l : List vSp} {h : vHp} {Q : vQ} (hM : vMm h a l hi mi) (hlo : h.1.1 ≤ a) (hd : vdis l) (hb : ∀ s, s ∈ l → (-2147483648 ≤ s.1 ∧ s.1 ≤ 2147483647) ∧ (-2147483648 ≤ s.2.1 ∧ s.2.1 ≤ 2147483647) ∧ (-2147483648 ≤ s.2.2.1 ∧ s.2.2.1 ≤ 2147483647) ∧ (-2147483648 ≤ s.2.2.2 ∧ s.2.2.2 ≤ 2147483647)) (x1 : -2147483648 ≤ x) (x2 : x ≤ 2147483647) (y1 : -2147483648 ≤ y) (y2 : y ≤ 2147483647) (z1 : -2147483648 ≤ z) (z2 : z ≤ 2147483647) (k : ∀ h', vMm h' a (vask l x y z w) (hi + vBi (vhit l x y z)) (mi + vBi (!vhit l x y z)) → vFr (fun q => a ≤ q ∧ q < a + 8) h h' → Q none h') : vCall (d + 2) 0 0 21 [.ref a, .int (iI x), .int (iI y), .int (iI z), .int (iI w)] h Q := by
  obtain ⟨hn, L, hM, hL⟩ := hM
  have tail : ∀ (h1 : vHp) (n1 p : Nat) (hi1 mi1 : Int) (L1 : Nat → Nat → Int) (l1 : List vSp), vMe h1 a n1 hi1 mi1 L1 → l1.length + 1 = n1 → p < n1 → n1 ≤ 6 → L1 p 0 = x → L1 p 1 = y → L1 p 2 = z → (∀ j s, l1[j]? = some s → vRw L1 (if j < p then j else j + 1) s) → (∀ h', vMm h' a (l1 ++ [(x, y, z, w)]) hi1 mi1 → vFr (fun q => a ≤ q ∧ q < a + 8) h1 h' → Q none h') → h1.1.1 ≤ a → vW (vCall (d + 1)) 21 Q 75 [.ref a, .int (iI x), .int (iI y), .int (iI z), .int (iI w), .int (iI (p : Int))] [] h1 0 0 := by
    intro h1 n1 p hi1 mi1 L1 l1 hM1 hl1 hp1 hn1 ex ey ez hL1 k1 hlo1
    obtain ⟨h0, pm, ⟨pp, hp, hp2⟩, hj, hr⟩ := hM1
    unfold vMo at h0
    have hjp := hj.1 p (by omega)
    obtain ⟨f, hf1, hf2⟩ := hr p (by omega)
    refine r_aload c21_75 rfl (r_get c21_76 h0 rfl (r_iload c21_79 rfl (r_aald c21_81 hp (by omega) (by omega) (by omega) (by rw [Int.toNat_natCast]; exact hp2 p (by omega)) (r_ci c21_82 (r_iload c21_83 rfl ?_)))))
    refine r_iast c21_85 hf1 (by omega) (by omega) (by omega) (fun h2 s2 => ?_)
    have f2 := vFr_st s2
    have r2 := vMr_st hr hj (by omega) s2
    have h02 := (f2.2.2 a (by omega)).trans h0
    refine r_aload c21_86 rfl (r_iload c21_87 rfl ?_)
    refine r_iv1 c21_89 vr_24 h02 rfl (k_makeLatest ⟨h02, pm, ⟨pp, (f2.2.2 _ (by omega)).trans hp, hp2⟩, hj, r2⟩ (vFr_lo f2 hlo1) hn1 hp1 (fun h3 hM3 f3 => ?_))
    dsimp only [vpush]
    refine r_vret (st := []) c21_92 ?_
    have el : (l1 ++ [(x, y, z, w)]).length = n1 := by rw [List.length_append]; exact hl1
    refine k1 h3 ⟨by omega, _, by rw [el]; exact hM3, fun j s hs => ?_⟩ (vFr_tr (vFr_up f2 (fun q e => by omega)) (vFr_up f3 (fun q e => by omega)))
    rw [List.getElem?_append] at hs
    split at hs
    · rename_i hlt
      refine vRw_cg (hL1 j s hs) (fun c hc => ?_)
      unfold vlt
      by_cases e : j < p
      · rw [if_neg (by omega), if_neg (by omega), if_pos e]; exact if_neg (by omega)
      · rw [if_pos (by omega), if_neg e]; exact if_neg (by omega)
    · rename_i hge
      have ej : j = l1.length := by
        rcases Nat.lt_or_ge (j - l1.length) 1 with q | q
        · omega
        · rw [List.getElem?_eq_none (by simpa using q)] at hs
          cases hs
      rw [ej, Nat.sub_self] at hs
      have est : (x, y, z, w) = s := by simpa using hs
      subst est
      have ev : ∀ M : Nat → Nat → Int, vlt M p n1 j = M p := fun M => by unfold vlt; rw [if_neg (by omega), if_pos (by omega)]
      unfold vRw
      rw [ev]
      simp only [if_true]
      refine ⟨?_, ?_, ?_, ?_⟩
      · show (if 0 = (3 : Int).toNat then w else f 0) = x
        rw [if_neg (by decide), hf2 0 (by omega), ex]
      · show (if 1 = (3 : Int).toNat then w else f 1) = y
        rw [if_neg (by decide), hf2 1 (by omega), ey]
      · show (if 2 = (3 : Int).toNat then w else f 2) = z
        rw [if_neg (by decide), hf2 2 (by omega), ez]
      · show (if 3 = (3 : Int).toNat then w else f 3) = w
        rw [if_pos (by decide)]
  obtain ⟨v1, v2, v3, v4⟩ := vfi_sp hL (x := x) (y := y) (z := z) l.length 0 (by omega)
  have hM0 := hM
  obtain ⟨h0, pm, ⟨pp, hp, hp2⟩, hj, hr⟩ := hM
  unfold vMo at h0
  refine vin 6 [_, _, _, _, _, _] ml_21 rfl rfl ?_
  refine r_aload c21_0 rfl (r_iload c21_1 rfl (r_iload c21_2 rfl (r_iload c21_3 rfl ?_)))
  refine r_iv3 c21_4 vr_22 h0 rfl (k_find hM0 hn ?_ x1 x2 y1 y2 z1 z2 ?_)
  · intro i c hi hc
    obtain ⟨s, hs⟩ : ∃ s, l[i]? = some s := ⟨l[i], List.getElem?_eq_getElem hi⟩
    have r := hL i s hs
    have b := hb s (List.mem_of_getElem? hs)
    have cc : c = 0 ∨ c = 1 ∨ c = 2 ∨ c = 3 := by omega
    rcases cc with rfl | rfl | rfl | rfl
    · rw [r.1]; exact b.1
    · rw [r.2.1]; exact b.2.1
    · rw [r.2.2.1]; exact b.2.2.1
    · rw [r.2.2.2]; exact b.2.2.2
  · dsimp only [vpush]
    generalize hr0 : vfi L x y z l.length 0 = r at *
    refine r_istore c21_7 rfl (r_iload c21_9 rfl (r_aload c21_11 rfl (r_get c21_12 h0 rfl ?_)))
    try dsimp only [vst]
    refine r_icge c21_15 (by omega) (by omega) (by omega) (by omega) (fun c_15 => ?_) (fun c_15 => ?_)
    · have er : r = l.length := by omega
      have ef : l.filter (vnk x y z) = l := by
        rw [List.filter_eq_self]
        intro s hs
        obtain ⟨j, hj⟩ := List.getElem?_of_mem hs
        have jl : j < l.length := (List.getElem?_eq_some_iff.1 hj).1
        unfold vnk
        rw [v4 j s (by omega) (by omega) hj]; rfl
      have eh : vhit l x y z = false := by unfold vhit; rw [ef]; exact decide_eq_false (by omega)
      unfold vask at k
      rw [ef, eh] at k
      have es : (l ++ [(x, y, z, w)]).length = l.length + 1 := by rw [List.length_append]; rfl
      rw [es] at k
      refine r_aload c21_31 rfl (r_dup c21_32 rfl (r_get c21_33 h0 rfl (r_ci c21_36 (r_iadd c21_37 ?_))))
      refine r_put c21_38 h0 hlo rfl ⟨rfl, rfl⟩ (fun h1 s1 => ?_)
      have f1 := vFr_st s1
      have g1 := s1.2.2.1
      dsimp only [vst] at g1
      refine r_aload c21_41 rfl (r_get c21_42 g1 rfl (r_ci c21_45 ?_))
      refine r_icge c21_47 (by omega) (by omega) (by omega) (by omega) (fun c_47 => ?_) (fun c_47 => ?_)
      · have l6 : l.length = 6 := by omega
        refine r_ci c21_63 (r_istore c21_64 rfl (r_aload c21_66 rfl (r_iload c21_67 rfl (r_iload c21_69 rfl (r_iload c21_70 rfl (r_iload c21_71 rfl ?_))))))
        try dsimp only [vst]
        have hM1 : vMe h1 a l.length hi (mi + 1) L := ⟨g1, pm, ⟨pp, (f1.2.2 _ (by omega)).trans hp, hp2⟩, hj, fun j hj2 => by
          obtain ⟨f, q1, q2⟩ := hr j hj2
          exact ⟨f, (f1.2.2 _ (by omega)).trans q1, q2⟩⟩
        have hw := k_write (d := d) (p := 0) (x := x) (y := y) (z := z) (Q := fun v h' => vW (vCall (d + 1)) 21 Q 75 [.ref a, .int (iI x), .int (iI y), .int (iI z), .int (iI w), .int (iI 0)] (vpush v []) h' 0 0) hM1 (vFr_lo f1 hlo) (by omega) (fun h2 hM2 f2 => ?_)
        · refine r_iv4 c21_72 vr_23 g1 rfl (hw)
        · dsimp only [vpush]
          have f12 := vFr_tr (vFr_up f1 (Y := fun q => a ≤ q ∧ q < a + 8) (fun q e => by omega)) (vFr_up f2 (fun q e => by omega))
          refine tail h2 l.length 0 _ _ _ (l.drop 1) hM2 (by rw [List.length_drop]; omega) (by omega) (by omega) rfl rfl rfl (fun j s hs => ?_) (fun h3 hM3 f3 => ?_) (vFr_lo f12 hlo)
          · rw [List.getElem?_drop] at hs
            rw [if_neg (by omega)]
            refine vRw_cg (hL _ s hs) (fun c hc => ?_)
            rw [Nat.add_comm]
            exact if_neg (by omega)
          · rw [if_pos (by omega)] at k
            refine k h3 ?_ (vFr_tr f12 f3)
            rw [List.drop_append_of_le_length (by omega), show vBi false = 0 by rfl, Int.add_zero]
            exact hM3
      · refine r_aload c21_50 rfl (r_dup c21_51 rfl (r_get c21_52 g1 rfl (r_ci c21_55 (r_iadd c21_56 ?_))))
        refine r_put c21_57 g1 (vFr_lo f1 hlo) rfl ⟨rfl, rfl⟩ (fun h2 s2 => ?_)
        have f2 := vFr_tr f1 (vFr_st s2)
        have g2 := s2.2.2.1
        dsimp only [vst] at g2
        rw [vsu] at g2
        refine r_goto c21_60 (r_aload c21_66 rfl (r_iload c21_67 rfl (r_iload c21_69 rfl (r_iload c21_70 rfl (r_iload c21_71 rfl ?_)))))
        have hM1 : vMe h2 a (l.length + 1) hi (mi + 1) L := ⟨g2, pm, ⟨pp, (f2.2.2 _ (by omega)).trans hp, hp2⟩, hj, fun j hj2 => by
          obtain ⟨f, q1, q2⟩ := hr j hj2
          exact ⟨f, (f2.2.2 _ (by omega)).trans q1, q2⟩⟩
        rw [er]
        refine r_iv4 c21_72 vr_23 g2 rfl (k_write hM1 (vFr_lo f2 hlo) (by omega) (fun h3 hM3 f3 => ?_))
        dsimp only [vpush]
        have f13 := vFr_tr (vFr_up f2 (Y := fun q => a ≤ q ∧ q < a + 8) (fun q e => by omega)) (vFr_up f3 (fun q e => by omega))
        refine tail h3 (l.length + 1) l.length _ _ _ l hM3 rfl (by omega) (by omega) (by simp) (by simp) (by simp) (fun j s hs => ?_) (fun h4 hM4 f4 => ?_) (vFr_lo f13 hlo)
        · have jl : j < l.length := (List.getElem?_eq_some_iff.1 hs).1
          rw [if_pos jl]
          refine vRw_cg (hL _ s hs) (fun c hc => ?_)
          exact if_neg (by omega)
        · rw [if_neg (by omega)] at k
          refine k h4 ?_ (vFr_tr f13 f4)
          rw [show vBi false = 0 by rfl, Int.add_zero]
          exact hM4
    · have rl : r < l.length := by omega
      obtain ⟨s0, hs0⟩ : ∃ s, l[r]? = some s := ⟨l[r], List.getElem?_eq_getElem rl⟩
      have ky := v3 s0 hs0
      have ky2 : s0.1 = x ∧ s0.2.1 = y ∧ s0.2.2.1 = z := of_decide_eq_true ky
      have r0 := hL r s0 hs0
      have ef : l.filter (vnk x y z) = l.eraseIdx r := by
        refine vfil_er l r rl (fun s hs => ?_) (fun j s hj2 hs => ?_)
        · unfold vnk; rw [v3 s hs]; rfl
        · unfold vnk
          rcases Nat.lt_or_ge j r with q | q
          · rw [v4 j s (by omega) q hs]; rfl
          · have nd := hd r j s0 s (by omega) hs0 hs
            have : vky x y z s = false := decide_eq_false (fun p => nd ⟨ky2.1.trans p.1.symm, ky2.2.1.trans p.2.1.symm, ky2.2.2.trans p.2.2.symm⟩)
            rw [this]; rfl
      have ele : (l.eraseIdx r).length = l.length - 1 := List.length_eraseIdx_of_lt rl
      have eh : vhit l x y z = true := by unfold vhit; rw [ef]; exact decide_eq_true (by omega)
      unfold vask at k
      rw [ef, eh] at k
      have es : (l.eraseIdx r ++ [(x, y, z, w)]).length = l.length - 1 + 1 := by rw [List.length_append, ele]; rfl
      rw [es, if_neg (by omega)] at k
      refine r_aload c21_18 rfl (r_dup c21_19 rfl (r_get c21_20 h0 rfl (r_ci c21_23 (r_iadd c21_24 ?_))))
      refine r_put c21_25 h0 hlo rfl ⟨rfl, rfl⟩ (fun h1 s1 => ?_)
      have f1 := vFr_st s1
      have g1 := s1.2.2.1
      dsimp only [vst] at g1
      have hM1 : vMe h1 a l.length (hi + 1) mi L := ⟨g1, pm, ⟨pp, (f1.2.2 _ (by omega)).trans hp, hp2⟩, hj, fun j hj2 => by
        obtain ⟨f, q1, q2⟩ := hr j hj2
        exact ⟨f, (f1.2.2 _ (by omega)).trans q1, q2⟩⟩
      refine r_goto c21_28 ?_
      refine tail h1 l.length r _ _ _ (l.eraseIdx r) hM1 (by omega) rl hn (r0.1.trans ky2.1) (r0.2.1.trans ky2.2.1) (r0.2.2.1.trans ky2.2.2) (fun j s hs => ?_) (fun h3 hM3 f3 => ?_) (vFr_lo f1 hlo)
      · rw [List.getElem?_eraseIdx] at hs
        split at hs
        · rename_i q; rw [if_pos q]; exact hL _ s hs
        · rename_i q; rw [if_neg q]; exact hL _ s hs
      · refine k h3 ?_ (vFr_tr (vFr_up f1 (fun q e => by omega)) f3)
        rw [show vBi (!true) = 0 by rfl, Int.add_zero]
        exact hM3
end
section
theorem ml_36 : vml 36 = 1 := by decide +kernel
theorem ml_37 : vml 37 = 2 := by decide +kernel
theorem ml_49 : vml 49 = 6 := by decide +kernel
theorem vr_36 : vrc 36 = some (3, 0) := by decide +kernel
theorem c36_0 : vlk 36 0 = some (6, 0, 0, 0, 1) := by decide +kernel
theorem c36_1 : vlk 36 1 = some (42, 3, 2, 0, 4) := by decide +kernel
theorem c36_4 : vlk 36 4 = some (72, 39, 0, 0, 7) := by decide +kernel
theorem c36_7 : vlk 36 7 = some (6, 0, 0, 0, 8) := by decide +kernel
theorem c36_8 : vlk 36 8 = some (42, 3, 2, 0, 11) := by decide +kernel
theorem c36_11 : vlk 36 11 = some (6, 0, 0, 0, 12) := by decide +kernel
theorem c36_12 : vlk 36 12 = some (42, 3, 1, 0, 15) := by decide +kernel
theorem c36_15 : vlk 36 15 = some (79, 39, 0, 0, 18) := by decide +kernel
theorem c36_18 : vlk 36 18 = some (6, 0, 0, 0, 19) := by decide +kernel
theorem c36_19 : vlk 36 19 = some (42, 3, 2, 0, 22) := by decide +kernel
theorem c36_22 : vlk 36 22 = some (1, 0, 0, 80, 24) := by decide +kernel
theorem c36_24 : vlk 36 24 = some (79, 39, 0, 0, 27) := by decide +kernel
theorem c36_27 : vlk 36 27 = some (6, 0, 0, 0, 28) := by decide +kernel
theorem c36_28 : vlk 36 28 = some (42, 3, 0, 0, 31) := by decide +kernel
theorem c36_31 : vlk 36 31 = some (6, 0, 0, 0, 32) := by decide +kernel
theorem c36_32 : vlk 36 32 = some (42, 3, 2, 0, 35) := by decide +kernel
theorem c36_35 : vlk 36 35 = some (45, 0, 0, 0, 36) := by decide +kernel
theorem c36_36 : vlk 36 36 = some (37, 40, 0, 0, 39) := by decide +kernel
theorem c36_39 : vlk 36 39 = some (1, 0, 0, (-1), 40) := by decide +kernel
theorem c36_40 : vlk 36 40 = some (63, 0, 0, 0, 41) := by decide +kernel
theorem c37_0 : vlk 37 0 = some (6, 0, 0, 0, 1) := by decide +kernel
theorem c37_1 : vlk 37 1 = some (58, 36, 0, 0, 4) := by decide +kernel
theorem c37_4 : vlk 37 4 = some (4, 1, 0, 0, 5) := by decide +kernel
theorem c37_5 : vlk 37 5 = some (76, 10, 0, 0, 8) := by decide +kernel
theorem c37_8 : vlk 37 8 = some (1, 0, 0, 0, 9) := by decide +kernel
theorem c37_9 : vlk 37 9 = some (63, 1, 0, 0, 10) := by decide +kernel
theorem c37_10 : vlk 37 10 = some (6, 0, 0, 0, 11) := by decide +kernel
theorem c37_11 : vlk 37 11 = some (34, 0, 0, 0, 12) := by decide +kernel
theorem c37_12 : vlk 37 12 = some (42, 3, 2, 0, 15) := by decide +kernel
theorem c37_15 : vlk 37 15 = some (1, 0, 0, 1, 16) := by decide +kernel
theorem c37_16 : vlk 37 16 = some (11, 0, 0, 0, 17) := by decide +kernel
theorem c37_17 : vlk 37 17 = some (43, 3, 2, 0, 20) := by decide +kernel
theorem c37_20 : vlk 37 20 = some (1, 0, 0, 1, 21) := by decide +kernel
theorem c37_21 : vlk 37 21 = some (63, 1, 0, 0, 22) := by decide +kernel
theorem c49_0 : vlk 49 0 = some (6, 0, 0, 0, 1) := by decide +kernel
theorem c49_1 : vlk 49 1 = some (42, 3, 2, 0, 4) := by decide +kernel
theorem c49_4 : vlk 49 4 = some (7, 3, 0, 0, 5) := by decide +kernel
theorem c49_5 : vlk 49 5 = some (1, 0, 0, 0, 6) := by decide +kernel
theorem c49_6 : vlk 49 6 = some (7, 4, 0, 0, 8) := by decide +kernel
theorem c49_8 : vlk 49 8 = some (1, 0, 0, 0, 9) := by decide +kernel
theorem c49_9 : vlk 49 9 = some (7, 5, 0, 0, 11) := by decide +kernel
theorem c49_11 : vlk 49 11 = some (4, 5, 0, 0, 13) := by decide +kernel
theorem c49_13 : vlk 49 13 = some (1, 0, 0, 4, 14) := by decide +kernel
theorem c49_14 : vlk 49 14 = some (79, 66, 0, 0, 17) := by decide +kernel
theorem c49_17 : vlk 49 17 = some (6, 0, 0, 0, 18) := by decide +kernel
theorem c49_18 : vlk 49 18 = some (58, 36, 0, 0, 21) := by decide +kernel
theorem c49_21 : vlk 49 21 = some (1, 0, 0, 48, 23) := by decide +kernel
theorem c49_23 : vlk 49 23 = some (78, 66, 0, 0, 26) := by decide +kernel
theorem c49_26 : vlk 49 26 = some (6, 0, 0, 0, 27) := by decide +kernel
theorem c49_27 : vlk 49 27 = some (58, 36, 0, 0, 30) := by decide +kernel
theorem c49_30 : vlk 49 30 = some (1, 0, 0, 57, 32) := by decide +kernel
theorem c49_32 : vlk 49 32 = some (80, 66, 0, 0, 35) := by decide +kernel
theorem c49_35 : vlk 49 35 = some (4, 4, 0, 0, 37) := by decide +kernel
theorem c49_37 : vlk 49 37 = some (1, 0, 0, 10, 39) := by decide +kernel
theorem c49_39 : vlk 49 39 = some (13, 0, 0, 0, 40) := by decide +kernel
theorem c49_40 : vlk 49 40 = some (6, 0, 0, 0, 41) := by decide +kernel
theorem c49_41 : vlk 49 41 = some (58, 36, 0, 0, 44) := by decide +kernel
theorem c49_44 : vlk 49 44 = some (11, 0, 0, 0, 45) := by decide +kernel
theorem c49_45 : vlk 49 45 = some (1, 0, 0, 48, 47) := by decide +kernel
theorem c49_47 : vlk 49 47 = some (12, 0, 0, 0, 48) := by decide +kernel
theorem c49_48 : vlk 49 48 = some (7, 4, 0, 0, 50) := by decide +kernel
theorem c49_50 : vlk 49 50 = some (6, 0, 0, 0, 51) := by decide +kernel
theorem c49_51 : vlk 49 51 = some (34, 0, 0, 0, 52) := by decide +kernel
theorem c49_52 : vlk 49 52 = some (42, 3, 2, 0, 55) := by decide +kernel
theorem c49_55 : vlk 49 55 = some (1, 0, 0, 1, 56) := by decide +kernel
theorem c49_56 : vlk 49 56 = some (11, 0, 0, 0, 57) := by decide +kernel
theorem c49_57 : vlk 49 57 = some (43, 3, 2, 0, 60) := by decide +kernel
theorem c49_60 : vlk 49 60 = some (10, 5, 0, 1, 63) := by decide +kernel
theorem c49_63 : vlk 49 63 = some (37, 11, 0, 0, 66) := by decide +kernel
theorem c49_66 : vlk 49 66 = some (6, 0, 0, 0, 67) := by decide +kernel
theorem c49_67 : vlk 49 67 = some (42, 3, 2, 0, 70) := by decide +kernel
theorem c49_70 : vlk 49 70 = some (4, 3, 0, 0, 71) := by decide +kernel
theorem c49_71 : vlk 49 71 = some (77, 76, 0, 0, 74) := by decide +kernel
theorem c49_74 : vlk 49 74 = some (1, 0, 0, (-1), 75) := by decide +kernel
theorem c49_75 : vlk 49 75 = some (63, 0, 0, 0, 76) := by decide +kernel
theorem c49_76 : vlk 49 76 = some (4, 4, 0, 0, 78) := by decide +kernel
theorem c49_78 : vlk 49 78 = some (4, 1, 0, 0, 79) := by decide +kernel
theorem c49_79 : vlk 49 79 = some (78, 88, 0, 0, 82) := by decide +kernel
theorem c49_82 : vlk 49 82 = some (4, 4, 0, 0, 84) := by decide +kernel
theorem c49_84 : vlk 49 84 = some (4, 2, 0, 0, 85) := by decide +kernel
theorem c49_85 : vlk 49 85 = some (81, 95, 0, 0, 88) := by decide +kernel
theorem c49_88 : vlk 49 88 = some (6, 0, 0, 0, 89) := by decide +kernel
theorem c49_89 : vlk 49 89 = some (4, 3, 0, 0, 90) := by decide +kernel
theorem c49_90 : vlk 49 90 = some (43, 3, 2, 0, 93) := by decide +kernel
theorem c49_93 : vlk 49 93 = some (1, 0, 0, (-1), 94) := by decide +kernel
theorem c49_94 : vlk 49 94 = some (63, 0, 0, 0, 95) := by decide +kernel
theorem c49_95 : vlk 49 95 = some (4, 4, 0, 0, 97) := by decide +kernel
theorem c49_97 : vlk 49 97 = some (63, 0, 0, 0, 98) := by decide +kernel
/-! Reader: what stands here, taking it, numbers -/
def vRo (h : vHp) (r n pl : Nat) : Prop := hg h r = some (.inr (3, [.ref (r + 1), .int (iI (n : Int)), .int (iI (pl : Int)), .ref (r + 2), .ref (r + 3), .ref (r + 4)]))
def vRy (h : vHp) (r : Nat) (t : Nat → Int) : Prop := hg h (r + 1) = some (.inl (0, 80, .inl t))
def vTp (n : Nat) (t : Nat → Int) : Prop := n ≤ 80 ∧ ∀ i, i < n → 1 ≤ t i ∧ t i ≤ 127
/-- the letter at a place; -1 behind the text -/
def vch (n : Nat) (t : Nat → Int) (p : Nat) : Int := if p < n then t p else -1
theorem vch_rg {n : Nat} {t : Nat → Int} (h : vTp n t) (p : Nat) : -1 ≤ vch n t p ∧ vch n t p ≤ 127 ∧ vch n t p ≠ 0 := by
  unfold vch
  split
  · rename_i q; have := h.2 p q; omega
  · omega
theorem vch_lt {n : Nat} {t : Nat → Int} {p : Nat} (h : 0 ≤ vch n t p) : p < n := by
  unfold vch at h
  split at h <;> omega
theorem k_here {d r n pl : Nat} {t : Nat → Int} {h : vHp} {Q : vQ} (ho : vRo h r n pl) (ht : vRy h r t) (hT : vTp n t) (hp : pl ≤ 1000) (k : Q (some (.int (iI (vch n t pl)))) h) : vCall (d + 1) 0 0 36 [.ref r] h Q := by
  unfold vRo at ho
  unfold vRy at ht
  have hn := hT.1
  refine vin 1 [_] ml_36 rfl rfl ?_
  refine r_aload c36_0 rfl (r_get c36_1 ho rfl ?_)
  refine r_iflt c36_4 (by omega) (by omega) (fun q => by exfalso; omega) (fun c_4 => ?_)
  refine r_aload c36_7 rfl (r_get c36_8 ho rfl (r_aload c36_11 rfl (r_get c36_12 ho rfl ?_)))
  refine r_icge c36_15 (by omega) (by omega) (by omega) (by omega) (fun c_15 => ?_) (fun c_15 => ?_)
  · refine r_ci c36_39 ?_
    refine r_iret (st := []) c36_40 ?_
    unfold vch at k
    rw [if_neg (by omega)] at k
    exact k
  · refine r_aload c36_18 rfl (r_get c36_19 ho rfl (r_ci c36_22 ?_))
    refine r_icge c36_24 (by omega) (by omega) (by omega) (by omega) (fun q => by exfalso; omega) (fun c_24 => ?_)
    refine r_aload c36_27 rfl (r_get c36_28 ho rfl (r_aload c36_31 rfl (r_get c36_32 ho rfl (r_iald c36_35 ht (by omega) (by omega) (r_goto c36_36 ?_)))))
    refine r_iret (st := []) c36_40 ?_
    unfold vch at k
    rw [if_pos (by omega)] at k
    rw [Int.toNat_natCast]
    exact k
/-- the place moves on -/
theorem vRo_st {h h1 : vHp} {r n pl pl2 : Nat} (s : vSt h h1 r (.inr (3, vst [.ref (r + 1), .int (iI (n : Int)), .int (iI (pl : Int)), .ref (r + 2), .ref (r + 3), .ref (r + 4)] 2 (.int (iI (pl2 : Int)))))) : vRo h1 r n pl2 := s.2.2.1
theorem k_take {d r n pl : Nat} {z : Int} {t : Nat → Int} {h : vHp} {Q : vQ} (ho : vRo h r n pl) (ht : vRy h r t) (hT : vTp n t) (hp : pl ≤ 900) (hlo : h.1.1 ≤ r) (z1 : 1 ≤ z) (z2 : z ≤ 127) (kT : vch n t pl = z → ∀ h', vRo h' r n (pl + 1) → vFr (fun q => q = r) h h' → Q (some (.int (iI 1))) h') (kF : vch n t pl ≠ z → Q (some (.int (iI 0))) h) : vCall (d + 2) 0 0 37 [.ref r, .int (iI z)] h Q := by
  have hrg := vch_rg hT pl
  have ho2 := ho
  unfold vRo at ho2
  refine vin 2 [_, _] ml_37 rfl rfl ?_
  refine r_aload c37_0 rfl ?_
  refine r_iv0 c37_1 vr_36 ho2 rfl (k_here ho ht hT (by omega) ?_)
  dsimp only [vpush]
  refine r_iload c37_4 rfl ?_
  refine r_iceq c37_5 (by omega) (by omega) (by omega) (by omega) (fun c_5 => ?_) (fun c_5 => ?_)
  · refine r_aload c37_10 rfl (r_dup c37_11 rfl (r_get c37_12 ho2 rfl (r_ci c37_15 (r_iadd c37_16 ?_))))
    refine r_put c37_17 ho2 hlo rfl ⟨rfl, rfl⟩ (fun h1 s1 => ?_)
    rw [vsu] at s1
    refine r_ci c37_20 ?_
    refine r_zret (st := []) c37_21 (by omega) ?_
    exact kT c_5 h1 (vRo_st s1) (vFr_st s1)
  · refine r_ci c37_8 ?_
    refine r_zret (st := []) c37_9 (by omega) ?_
    exact kF c_5
/-- the figures: their value, the place behind them -/
def vnd (n : Nat) (t : Nat → Int) : Nat → Int → Nat → Int × Nat
  | 0, v, p => (v, p)
  | f + 1, v, p => if 48 ≤ vch n t p ∧ vch n t p ≤ 57 then vnd n t f (v * 10 + vch n t p - 48) (p + 1) else (v, p)
theorem vnd_rg {n : Nat} {t : Nat → Int} {p : Nat} : 0 ≤ (vnd n t 4 0 p).1 ∧ (vnd n t 4 0 p).1 ≤ 9999 ∧ p ≤ (vnd n t 4 0 p).2 ∧ (vnd n t 4 0 p).2 ≤ p + 4 := by
  simp only [vnd]
  split
  · split
    · split
      · split
        · dsimp only; omega
        · dsimp only; omega
      · dsimp only; omega
    · dsimp only; omega
  · dsimp only; omega
/-- a number within bounds: the place behind it and the number; -1 at a fault -/
def vnm (n : Nat) (t : Nat → Int) (lo hi : Int) (p : Nat) : Nat × Int := if (vnd n t 4 0 p).2 = p then (p, -1) else if (vnd n t 4 0 p).1 < lo ∨ hi < (vnd n t 4 0 p).1 then (p, -1) else ((vnd n t 4 0 p).2, (vnd n t 4 0 p).1)
theorem k_number {d r n pl : Nat} {lo hi : Int} {t : Nat → Int} {h : vHp} {Q : vQ} (ho : vRo h r n pl) (ht : vRy h r t) (hT : vTp n t) (hp : pl ≤ 800) (hlo : h.1.1 ≤ r) (l1 : -1000 ≤ lo) (l2 : lo ≤ 1000) (l3 : -1000 ≤ hi) (l4 : hi ≤ 1000) (k : ∀ h', vRo h' r n (vnm n t lo hi pl).1 → vFr (fun q => q = r) h h' → Q (some (.int (iI (vnm n t lo hi pl).2))) h') : vCall (d + 2) 0 0 49 [.ref r, .int (iI lo), .int (iI hi)] h Q := by
  have rg := vnd_rg (n := n) (t := t) (p := pl)
  have fin : ∀ (h1 : vHp) (x5 : Value), vRo h1 r n (vnd n t 4 0 pl).2 → vFr (fun q => q = r) h h1 → vW (vCall (d + 1)) 49 Q 66 [.ref r, .int (iI lo), .int (iI hi), .int (iI (pl : Int)), .int (iI (vnd n t 4 0 pl).1), x5] [] h1 0 0 := by
    intro h1 x5 ho1 fr
    have ho2 := ho1
    unfold vRo at ho2
    unfold vnm at k
    generalize hq : (vnd n t 4 0 pl).2 = p2 at *
    generalize hv : (vnd n t 4 0 pl).1 = v at *
    refine r_aload c49_66 rfl (r_get c49_67 ho2 rfl (r_iload c49_70 rfl ?_))
    refine r_icne c49_71 (by omega) (by omega) (by omega) (by omega) (fun c_71 => ?_) (fun c_71 => ?_)
    · rw [if_neg (by omega)] at k
      have back : (v < lo ∨ hi < v) → vW (vCall (d + 1)) 49 Q 88 [.ref r, .int (iI lo), .int (iI hi), .int (iI (pl : Int)), .int (iI v), x5] [] h1 0 0 := fun q => by
        rw [if_pos q] at k
        refine r_aload c49_88 rfl (r_iload c49_89 rfl ?_)
        refine r_put c49_90 ho2 (vFr_lo fr hlo) rfl ⟨rfl, rfl⟩ (fun h2 s2 => ?_)
        refine r_ci c49_93 ?_
        refine r_iret (st := []) c49_94 ?_
        exact k h2 (vRo_st s2) (vFr_tr fr (vFr_st s2))
      refine r_iload c49_76 rfl (r_iload c49_78 rfl ?_)
      refine r_iclt c49_79 (by omega) (by omega) (by omega) (by omega) (fun c_79 => ?_) (fun c_79 => ?_)
      · exact back (Or.inl c_79)
      · refine r_iload c49_82 rfl (r_iload c49_84 rfl ?_)
        refine r_icle c49_85 (by omega) (by omega) (by omega) (by omega) (fun c_85 => ?_) (fun c_85 => ?_)
        · rw [if_neg (by omega)] at k
          refine r_iload c49_95 rfl ?_
          refine r_iret (st := []) c49_97 ?_
          exact k h1 ho1 fr
        · exact back (Or.inr (by omega))
    · rw [if_pos (by omega)] at k
      have e : p2 = pl := by omega
      subst e
      refine r_ci c49_74 ?_
      refine r_iret (st := []) c49_75 ?_
      exact k h1 ho1 fr
  have loop : ∀ f i : Nat, i + f = 4 → ∀ (h1 : vHp) (v : Int) (p : Nat), vnd n t f v p = vnd n t 4 0 pl → p ≤ 800 + i → vRo h1 r n p → vFr (fun q => q = r) h h1 → vW (vCall (d + 1)) 49 Q 11 [.ref r, .int (iI lo), .int (iI hi), .int (iI (pl : Int)), .int (iI v), .int (iI (i : Int))] [] h1 0 0 := by
    intro f
    induction f with
    | zero =>
      intro i hi' h1 v p he hp1 ho1 fr
      refine r_iload c49_11 rfl (r_ci c49_13 ?_)
      refine r_icge c49_14 (by omega) (by omega) (by omega) (by omega) (fun c_14 => ?_) (fun q => by exfalso; omega)
      rw [show v = (vnd n t 4 0 pl).1 by rw [← he]; rfl]
      exact fin h1 _ (by rw [← he]; exact ho1) fr
    | succ f ih =>
      intro i hi' h1 v p he hp1 ho1 fr
      have ho2 := ho1
      unfold vRo at ho2
      have ht1 : vRy h1 r t := (fr.2.2 _ (by omega)).trans ht
      have hrg := vch_rg hT p
      have stop : ¬ (48 ≤ vch n t p ∧ vch n t p ≤ 57) → vW (vCall (d + 1)) 49 Q 66 [.ref r, .int (iI lo), .int (iI hi), .int (iI (pl : Int)), .int (iI v), .int (iI (i : Int))] [] h1 0 0 := fun q => by
        rw [show vnd n t (f + 1) v p = (if 48 ≤ vch n t p ∧ vch n t p ≤ 57 then vnd n t f (v * 10 + vch n t p - 48) (p + 1) else (v, p)) from rfl, if_neg q] at he
        rw [show v = (vnd n t 4 0 pl).1 by rw [← he]]
        exact fin h1 _ (by rw [← he]; exact ho1) fr
      refine r_iload c49_11 rfl (r_ci c49_13 ?_)
      refine r_icge c49_14 (by omega) (by omega) (by omega) (by omega) (fun q => by exfalso; omega) (fun c_14 => ?_)
      refine r_aload c49_17 rfl ?_
      refine r_iv0 c49_18 vr_36 ho2 rfl (k_here ho1 ht1 hT (by omega) ?_)
      dsimp only [vpush]
      refine r_ci c49_21 ?_
      refine r_iclt c49_23 (by omega) (by omega) (by omega) (by omega) (fun c_23 => ?_) (fun c_23 => ?_)
      · exact stop (by omega)
      · refine r_aload c49_26 rfl ?_
        refine r_iv0 c49_27 vr_36 ho2 rfl (k_here ho1 ht1 hT (by omega) ?_)
        dsimp only [vpush]
        refine r_ci c49_30 ?_
        refine r_icgt c49_32 (by omega) (by omega) (by omega) (by omega) (fun c_32 => ?_) (fun c_32 => ?_)
        · exact stop (by omega)
        · refine r_iload c49_35 rfl (r_ci c49_37 (r_imul c49_39 (r_aload c49_40 rfl ?_)))
          refine r_iv0 c49_41 vr_36 ho2 rfl (k_here ho1 ht1 hT (by omega) ?_)
          dsimp only [vpush]
          refine r_iadd c49_44 (r_ci c49_45 (r_isub c49_47 (r_istore c49_48 rfl (r_aload c49_50 rfl (r_dup c49_51 rfl (r_get c49_52 ho2 rfl (r_ci c49_55 (r_iadd c49_56 ?_))))))))
          try dsimp only [vst]
          refine r_put c49_57 ho2 (vFr_lo fr hlo) rfl ⟨rfl, rfl⟩ (fun h2 s2 => ?_)
          rw [vsu] at s2
          refine r_iinc c49_60 rfl rfl (r_goto c49_63 ?_)
          try dsimp only [vst]
          rw [vsu]
          rw [show vnd n t (f + 1) v p = (if 48 ≤ vch n t p ∧ vch n t p ≤ 57 then vnd n t f (v * 10 + vch n t p - 48) (p + 1) else (v, p)) from rfl, if_pos (by omega)] at he
          exact ih (i + 1) (by omega) h2 _ (p + 1) he (by omega) (vRo_st s2) (vFr_tr fr (vFr_st s2))
  have ho2 := ho
  unfold vRo at ho2
  refine vin 6 [_, _, _, _, _, _] ml_49 rfl rfl ?_
  refine r_aload c49_0 rfl (r_get c49_1 ho2 rfl (r_istore c49_4 rfl (r_ci c49_5 (r_istore c49_6 rfl (r_ci c49_8 (r_istore c49_9 rfl ?_))))))
  try dsimp only [vst]
  exact loop 4 0 rfl h 0 pl rfl (by omega) ho vFr_rf
end
section
theorem ml_42 : vml 42 = 1 := by decide +kernel
theorem ml_50 : vml 50 = 1 := by decide +kernel
theorem ml_51 : vml 51 = 1 := by decide +kernel
theorem ml_91 : vml 91 = 1 := by decide +kernel
theorem c42_0 : vlk 42 0 = some (4, 0, 0, 0, 1) := by decide +kernel
theorem c42_1 : vlk 42 1 = some (67, 1, 1, 0, 68) := by decide +kernel
theorem c42_68 : vlk 42 68 = some (1, 0, 0, 1, 69) := by decide +kernel
theorem c42_69 : vlk 42 69 = some (63, 1, 0, 0, 70) := by decide +kernel
theorem c42_70 : vlk 42 70 = some (1, 0, 0, 0, 71) := by decide +kernel
theorem c42_71 : vlk 42 71 = some (63, 1, 0, 0, 72) := by decide +kernel
theorem c50_0 : vlk 50 0 = some (4, 0, 0, 0, 1) := by decide +kernel
theorem c50_1 : vlk 50 1 = some (67, 2, 0, 0, 104) := by decide +kernel
theorem c50_104 : vlk 50 104 = some (1, 0, 0, 6, 106) := by decide +kernel
theorem c50_106 : vlk 50 106 = some (63, 0, 0, 0, 107) := by decide +kernel
theorem c50_107 : vlk 50 107 = some (1, 0, 0, 30, 109) := by decide +kernel
theorem c50_109 : vlk 50 109 = some (63, 0, 0, 0, 110) := by decide +kernel
theorem c50_110 : vlk 50 110 = some (1, 0, 0, 12, 112) := by decide +kernel
theorem c50_112 : vlk 50 112 = some (63, 0, 0, 0, 113) := by decide +kernel
theorem c50_113 : vlk 50 113 = some (1, 0, 0, 1, 114) := by decide +kernel
theorem c50_114 : vlk 50 114 = some (63, 0, 0, 0, 115) := by decide +kernel
theorem c50_115 : vlk 50 115 = some (1, 0, 0, 99, 117) := by decide +kernel
theorem c50_117 : vlk 50 117 = some (63, 0, 0, 0, 118) := by decide +kernel
theorem c50_118 : vlk 50 118 = some (1, 0, 0, 719, 121) := by decide +kernel
theorem c50_121 : vlk 50 121 = some (63, 0, 0, 0, 122) := by decide +kernel
theorem c51_0 : vlk 51 0 = some (4, 0, 0, 0, 1) := by decide +kernel
theorem c51_1 : vlk 51 1 = some (67, 3, 1, 0, 36) := by decide +kernel
theorem c51_36 : vlk 51 36 = some (1, 0, 0, 0, 37) := by decide +kernel
theorem c51_37 : vlk 51 37 = some (63, 0, 0, 0, 38) := by decide +kernel
theorem c51_38 : vlk 51 38 = some (1, 0, 0, 1, 39) := by decide +kernel
theorem c51_39 : vlk 51 39 = some (63, 0, 0, 0, 40) := by decide +kernel
theorem c51_40 : vlk 51 40 = some (1, 0, 0, 2, 41) := by decide +kernel
theorem c51_41 : vlk 51 41 = some (63, 0, 0, 0, 42) := by decide +kernel
theorem c51_42 : vlk 51 42 = some (1, 0, 0, (-1), 43) := by decide +kernel
theorem c51_43 : vlk 51 43 = some (63, 0, 0, 0, 44) := by decide +kernel
theorem c91_0 : vlk 91 0 = some (4, 0, 0, 0, 1) := by decide +kernel
theorem c91_1 : vlk 91 1 = some (72, 16, 0, 0, 4) := by decide +kernel
theorem c91_4 : vlk 91 4 = some (4, 0, 0, 0, 5) := by decide +kernel
theorem c91_5 : vlk 91 5 = some (44, 0, 0, 0, 8) := by decide +kernel
theorem c91_8 : vlk 91 8 = some (53, 0, 0, 0, 9) := by decide +kernel
theorem c91_9 : vlk 91 9 = some (79, 16, 0, 0, 12) := by decide +kernel
theorem c91_12 : vlk 91 12 = some (1, 0, 0, 1, 13) := by decide +kernel
theorem c91_13 : vlk 91 13 = some (37, 17, 0, 0, 16) := by decide +kernel
theorem c91_16 : vlk 91 16 = some (1, 0, 0, 0, 17) := by decide +kernel
theorem c91_17 : vlk 91 17 = some (63, 1, 0, 0, 18) := by decide +kernel
/-! what a text tells: the reading, as a function -/
abbrev vSt1 : Type := Nat → Bool
abbrev vPr : Type := Nat × Option vSt1
/-- goes on where a set was read -/
def vth (r : vPr) (g : Nat → vSt1 → vPr) : vPr := match r.2 with
  | none => (r.1, none)
  | some S => g r.1 S
def vmo (c : Int) : Int := if c = 119 then 6 else if c = 100 then 30 else if c = 109 then 12 else if c = 121 then 1 else if c = 110 ∨ c = 108 ∨ c = 112 then 99 else 719
def vbo (c : Int) : Int := if c = 119 then 0 else if c = 109 then 1 else if c = 121 then 2 else -1
def vbL (b : Int) : Nat := if b = 0 then 7 else if b = 1 then 30 else 360
def vhb (c : Int) : Prop := c = 40 ∨ c = 98 ∨ c = 108 ∨ c = 110 ∨ c = 112 ∨ c = 115 ∨ c = 120
def vun (c : Int) (z d : Nat) : Bool := if c = 119 then decide (d % 7 = z) else if c = 100 then decide (d % 30 + 1 = z) else if c = 109 then decide (d / 30 % 12 + 1 = z) else decide (d / 360 = z)
def vpq (c : Int) (a b d : Nat) : Bool := if c = 101 then decide (b ≤ d ∧ (d - b) % a = 0) else decide (a ≤ d ∧ d ≤ b)
def vbs (c : Int) (L : Nat) (k : Int) (T : vSt1) (d : Nat) : Bool := vob T L (if c = 110 then k - 1 else -k) 720 d
def vcs (c : Int) (k : Int) (T : vSt1) (d : Nat) : Bool := if c = 115 then vmv T k 720 d else if c = 98 then vmv T (-k) 720 d else if c = 112 then vnt T k.toNat 720 d else T d && !decide ((d : Int) = vpk T 0 719 k)
/-- (E) -/
def vbr (n : Nat) (t : Nat → Int) (f : Nat → vPr) (p : Nat) : vPr := if vch n t p = 40 then vth (f (p + 1)) (fun q S => if vch n t q = 41 then (q + 1, some S) else (q, none)) else (p, none)
def vpu (n : Nat) (t : Nat → Int) (c : Int) (p : Nat) : vPr := if (vnm n t (if c = 119 ∨ c = 121 then 0 else 1) (vmo c) p).2 = -1 then ((vnm n t (if c = 119 ∨ c = 121 then 0 else 1) (vmo c) p).1, none) else ((vnm n t (if c = 119 ∨ c = 121 then 0 else 1) (vmo c) p).1, some (vun c (vnm n t (if c = 119 ∨ c = 121 then 0 else 1) (vmo c) p).2.toNat))
def vpp2 (n : Nat) (t : Nat → Int) (c : Int) (a : Int) (p : Nat) : vPr := if (vnm n t (if c = 101 then 0 else a) 719 p).2 = -1 then ((vnm n t (if c = 101 then 0 else a) 719 p).1, none) else ((vnm n t (if c = 101 then 0 else a) 719 p).1, some (vpq c a.toNat (vnm n t (if c = 101 then 0 else a) 719 p).2.toNat))
def vpp (n : Nat) (t : Nat → Int) (c : Int) (p : Nat) : vPr := if (vnm n t (if c = 101 then 1 else 0) 719 p).2 = -1 then ((vnm n t (if c = 101 then 1 else 0) 719 p).1, none) else if vch n t (vnm n t (if c = 101 then 1 else 0) 719 p).1 = 44 then vpp2 n t c (vnm n t (if c = 101 then 1 else 0) 719 p).2 ((vnm n t (if c = 101 then 1 else 0) 719 p).1 + 1) else ((vnm n t (if c = 101 then 1 else 0) 719 p).1, none)
def vpb (n : Nat) (t : Nat → Int) (f : Nat → vPr) (c : Int) (p : Nat) : vPr := if (vnm n t 1 99 p).2 = -1 then ((vnm n t 1 99 p).1, none) else if vbo (vch n t (vnm n t 1 99 p).1) < 0 then ((vnm n t 1 99 p).1, none) else vth (vbr n t f ((vnm n t 1 99 p).1 + 1)) (fun q T => (q, some (vbs c (vbL (vbo (vch n t (vnm n t 1 99 p).1))) (vnm n t 1 99 p).2 T)))
def vpc (n : Nat) (t : Nat → Int) (f : Nat → vPr) (c : Int) (p : Nat) : vPr := if (vnm n t (if c = 120 then 0 else 1) (vmo c) p).2 = -1 then ((vnm n t (if c = 120 then 0 else 1) (vmo c) p).1, none) else vth (vbr n t f (vnm n t (if c = 120 then 0 else 1) (vmo c) p).1) (fun q T => (q, some (vcs c (vnm n t (if c = 120 then 0 else 1) (vmo c) p).2 T)))
/-- a factor without ! -/
def vpn (n : Nat) (t : Nat → Int) (D : Nat → vSt1) (f : Option (Nat → vPr)) (p : Nat) : vPr := match f with
  | none => if vch n t p = 40 ∨ vch n t p = 98 ∨ vch n t p = 108 ∨ vch n t p = 110 ∨ vch n t p = 112 ∨ vch n t p = 115 ∨ vch n t p = 120 then (p, none) else if 65 ≤ vch n t p ∧ vch n t p ≤ 74 then (p + 1, some (D (vch n t p - 65).toNat)) else if vch n t p = 119 ∨ vch n t p = 100 ∨ vch n t p = 109 ∨ vch n t p = 121 then vpu n t (vch n t p) (p + 1) else if vch n t p = 101 ∨ vch n t p = 114 then vpp n t (vch n t p) (p + 1) else (p, none)
  | some f => if vch n t p = 40 then vbr n t f p else if 65 ≤ vch n t p ∧ vch n t p ≤ 74 then (p + 1, some (D (vch n t p - 65).toNat)) else if vch n t p = 119 ∨ vch n t p = 100 ∨ vch n t p = 109 ∨ vch n t p = 121 then vpu n t (vch n t p) (p + 1) else if vch n t p = 101 ∨ vch n t p = 114 then vpp n t (vch n t p) (p + 1) else if vch n t p = 110 ∨ vch n t p = 108 then vpb n t f (vch n t p) (p + 1) else if vch n t p = 115 ∨ vch n t p = 98 ∨ vch n t p = 112 ∨ vch n t p = 120 then vpc n t f (vch n t p) (p + 1) else (p, none)
def vpf (n : Nat) (t : Nat → Int) (D : Nat → vSt1) (f : Option (Nat → vPr)) (p : Nat) : vPr := if vch n t p = 33 then vth (vpn n t D f (p + 1)) (fun q S => (q, some (fun d => !S d))) else vpn n t D f p
def vpd (n : Nat) (t : Nat → Int) (F : Nat → vPr) : Nat → vSt1 → Nat → vPr
  | 0, _, p => (p, none)
  | u + 1, A, p => vth (F p) (fun q S => if vch n t q = 38 then vpd n t F u (fun d => A d && S d) (q + 1) else (q, some (fun d => A d && S d)))
def vpz (n : Nat) (t : Nat → Int) (F : Nat → vPr) : Nat → Bool → vSt1 → Nat → vPr
  | 0, _, _, p => (p, none)
  | u + 1, w, A, p => vth (F p) (fun q S => if vch n t q = 47 then vpz n t F u true (fun d => if w = true then A d && !S d else A d || S d) (q + 1) else if vch n t q = 124 then vpz n t F u false (fun d => if w = true then A d && !S d else A d || S d) (q + 1) else (q, some (fun d => if w = true then A d && !S d else A d || S d)))
/-- E within 5 - e brackets -/
def vex (n : Nat) (t : Nat → Int) (D : Nat → vSt1) : Nat → Nat → vPr
  | 0, p => vpz n t (vpd n t (vpf n t D none) 81 (fun _ => true)) 81 false (fun _ => false) p
  | e + 1, p => vpz n t (vpd n t (vpf n t D (some (vex n t D e))) 81 (fun _ => true)) 81 false (fun _ => false) p
theorem k_hasBracket {d : Nat} {c : Int} {h : vHp} {Q : vQ} (h1 : -1000 ≤ c) (h2 : c ≤ 1000) (kT : vhb c → Q (some (.int (iI 1))) h) (kF : ¬ vhb c → Q (some (.int (iI 0))) h) : vCall (d + 1) 0 0 42 [.int (iI c)] h Q := by
  refine vin 1 [_] ml_42 rfl rfl ?_
  refine r_iload c42_0 rfl ?_
  refine r_sw c42_1 rfl (by omega) (by omega) ?_
  by_cases q : vhb c
  · have e : vfd [(40, 68), (98, 68), (108, 68), (110, 68), (112, 68), (115, 68), (120, 68)] 70 c = 68 := by
      rcases q with rfl | rfl | rfl | rfl | rfl | rfl | rfl <;> rfl
    rw [e]
    refine r_ci c42_68 ?_
    refine r_zret (st := []) c42_69 (by omega) ?_
    exact kT q
  · have e : vfd [(40, 68), (98, 68), (108, 68), (110, 68), (112, 68), (115, 68), (120, 68)] 70 c = 70 := by
      unfold vhb at q
      simp only [vfd]
      rw [if_neg (by omega), if_neg (by omega), if_neg (by omega), if_neg (by omega), if_neg (by omega), if_neg (by omega), if_neg (by omega)]
    rw [e]
    refine r_ci c42_70 ?_
    refine r_zret (st := []) c42_71 (by omega) ?_
    exact kF q
theorem k_blockOf {d : Nat} {c : Int} {h : vHp} {Q : vQ} (h1 : -1000 ≤ c) (h2 : c ≤ 1000) (k : Q (some (.int (iI (vbo c)))) h) : vCall (d + 1) 0 0 51 [.int (iI c)] h Q := by
  refine vin 1 [_] ml_51 rfl rfl ?_
  refine r_iload c51_0 rfl ?_
  refine r_sw c51_1 rfl (by omega) (by omega) ?_
  unfold vbo at k
  by_cases e1 : c = 119
  · subst e1
    refine r_ci c51_36 ?_
    refine r_iret (st := []) c51_37 ?_
    exact k
  · by_cases e2 : c = 109
    · subst e2
      refine r_ci c51_38 ?_
      refine r_iret (st := []) c51_39 ?_
      exact k
    · by_cases e3 : c = 121
      · subst e3
        refine r_ci c51_40 ?_
        refine r_iret (st := []) c51_41 ?_
        exact k
      · have e : vfd [(109, 38), (119, 36), (121, 40)] 42 c = 42 := by
          simp only [vfd]
          rw [if_neg e2, if_neg e1, if_neg e3]
        rw [e]
        refine r_ci c51_42 ?_
        refine r_iret (st := []) c51_43 ?_
        rw [if_neg e1, if_neg e2, if_neg e3] at k
        exact k
theorem k_mostOf {d : Nat} {c : Int} {h : vHp} {Q : vQ} (h1 : -1000 ≤ c) (h2 : c ≤ 1000) (k : Q (some (.int (iI (vmo c)))) h) : vCall (d + 1) 0 0 50 [.int (iI c)] h Q := by
  refine vin 1 [_] ml_50 rfl rfl ?_
  refine r_iload c50_0 rfl ?_
  refine r_sw c50_1 rfl (by omega) (by omega) ?_
  unfold vmo at k
  by_cases e1 : c = 119
  · subst e1
    refine r_ci c50_104 ?_
    refine r_iret (st := []) c50_106 ?_
    exact k
  · by_cases e2 : c = 100
    · subst e2
      refine r_ci c50_107 ?_
      refine r_iret (st := []) c50_109 ?_
      exact k
    · by_cases e3 : c = 109
      · subst e3
        refine r_ci c50_110 ?_
        refine r_iret (st := []) c50_112 ?_
        exact k
      · by_cases e4 : c = 121
        · subst e4
          refine r_ci c50_113 ?_
          refine r_iret (st := []) c50_114 ?_
          exact k
        · by_cases e5 : c = 110 ∨ c = 108 ∨ c = 112
          · rw [if_neg e1, if_neg e2, if_neg e3, if_neg e4, if_pos e5] at k
            have e : vfd [(100, 107), (101, 118), (102, 118), (103, 118), (104, 118), (105, 118), (106, 118), (107, 118), (108, 115), (109, 110), (110, 115), (111, 118), (112, 115), (113, 118), (114, 118), (115, 118), (116, 118), (117, 118), (118, 118), (119, 104), (120, 118), (121, 113)] 118 c = 115 := by
              rcases e5 with rfl | rfl | rfl <;> rfl
            rw [e]
            refine r_ci c50_115 ?_
            refine r_iret (st := []) c50_117 ?_
            exact k
          · rw [if_neg e1, if_neg e2, if_neg e3, if_neg e4, if_neg e5] at k
            have e : vfd [(100, 107), (101, 118), (102, 118), (103, 118), (104, 118), (105, 118), (106, 118), (107, 118), (108, 115), (109, 110), (110, 115), (111, 118), (112, 115), (113, 118), (114, 118), (115, 118), (116, 118), (117, 118), (118, 118), (119, 104), (120, 118), (121, 113)] 118 c = 118 := by
              have a1 : ¬ c = 110 := fun q => e5 (Or.inl q)
              have a2 : ¬ c = 108 := fun q => e5 (Or.inr (Or.inl q))
              have a3 : ¬ c = 112 := fun q => e5 (Or.inr (Or.inr q))
              simp only [vfd, if_neg e1, if_neg e2, if_neg e3, if_neg e4, if_neg a1, if_neg a2, if_neg a3, ite_self]
            rw [e]
            refine r_ci c50_118 ?_
            refine r_iret (st := []) c50_121 ?_
            exact k
/-- the row of the blocks' lengths -/
def vBk (h : vHp) : Prop := (∃ f, hg h h.1.2 = some (.inl (0, 3, .inl f)) ∧ f 0 = 7 ∧ f 1 = 30 ∧ f 2 = 360) ∧ h.1.2 < h.1.1
theorem vBk_fr {X : Nat → Prop} {h h1 : vHp} (hB : vBk h) (f : vFr X h h1) (nx : ∀ q, X q → h.1.1 ≤ q) : vBk h1 := by
  obtain ⟨⟨g, g1, g2⟩, g3⟩ := hB
  unfold vBk
  rw [f.1]
  exact ⟨⟨g, (f.2.2 _ (fun q => by have := nx _ q; omega)).trans g1, g2⟩, g3⟩
theorem k_isBlock {d : Nat} {z : Int} {h : vHp} {Q : vQ} (hB : vBk h) (h1 : -2147483648 ≤ z) (h2 : z ≤ 2147483647) (kT : 0 ≤ z → z < 3 → Q (some (.int (iI 1))) h) (kF : (z < 0 ∨ 3 ≤ z) → Q (some (.int (iI 0))) h) : vCall (d + 1) 0 0 91 [.int (iI z)] h Q := by
  obtain ⟨⟨f, hf, -⟩, -⟩ := hB
  refine vin 1 [_] ml_91 rfl rfl ?_
  refine r_iload c91_0 rfl ?_
  refine r_iflt c91_1 (by omega) (by omega) (fun c_1 => ?_) (fun c_1 => ?_)
  · refine r_ci c91_16 ?_
    refine r_zret (st := []) c91_17 (by omega) ?_
    exact kF (Or.inl c_1)
  · refine r_iload c91_4 rfl (r_gets c91_5 (r_alen c91_8 hf ?_))
    refine r_icge c91_9 (by omega) (by omega) (by omega) (by omega) (fun c_9 => ?_) (fun c_9 => ?_)
    · refine r_ci c91_16 ?_
      refine r_zret (st := []) c91_17 (by omega) ?_
      exact kF (Or.inr (by omega))
    · refine r_ci c91_12 (r_goto c91_13 ?_)
      refine r_zret (st := []) c91_17 (by omega) ?_
      exact kT c_1 (by omega)
end
section
theorem ml_43 : vml 43 = 5 := by decide +kernel
theorem vr_13 : vrc 13 = some (0, 2) := by decide +kernel
theorem vr_14 : vrc 14 = some (0, 2) := by decide +kernel
theorem vr_49 : vrc 49 = some (3, 2) := by decide +kernel
theorem vr_50 : vrc 50 = some (3, 1) := by decide +kernel
theorem c43_0 : vlk 43 0 = some (4, 1, 0, 0, 1) := by decide +kernel
theorem c43_1 : vlk 43 1 = some (1, 0, 0, 119, 3) := by decide +kernel
theorem c43_3 : vlk 43 3 = some (76, 12, 0, 0, 6) := by decide +kernel
theorem c43_6 : vlk 43 6 = some (4, 1, 0, 0, 7) := by decide +kernel
theorem c43_7 : vlk 43 7 = some (1, 0, 0, 121, 9) := by decide +kernel
theorem c43_9 : vlk 43 9 = some (77, 16, 0, 0, 12) := by decide +kernel
theorem c43_12 : vlk 43 12 = some (1, 0, 0, 0, 13) := by decide +kernel
theorem c43_13 : vlk 43 13 = some (37, 17, 0, 0, 16) := by decide +kernel
theorem c43_16 : vlk 43 16 = some (1, 0, 0, 1, 17) := by decide +kernel
theorem c43_17 : vlk 43 17 = some (7, 3, 0, 0, 18) := by decide +kernel
theorem c43_18 : vlk 43 18 = some (6, 0, 0, 0, 19) := by decide +kernel
theorem c43_19 : vlk 43 19 = some (4, 3, 0, 0, 20) := by decide +kernel
theorem c43_20 : vlk 43 20 = some (4, 1, 0, 0, 21) := by decide +kernel
theorem c43_21 : vlk 43 21 = some (59, 50, 0, 0, 24) := by decide +kernel
theorem c43_24 : vlk 43 24 = some (58, 49, 0, 0, 27) := by decide +kernel
theorem c43_27 : vlk 43 27 = some (7, 4, 0, 0, 29) := by decide +kernel
theorem c43_29 : vlk 43 29 = some (4, 4, 0, 0, 31) := by decide +kernel
theorem c43_31 : vlk 43 31 = some (1, 0, 0, (-1), 32) := by decide +kernel
theorem c43_32 : vlk 43 32 = some (77, 37, 0, 0, 35) := by decide +kernel
theorem c43_35 : vlk 43 35 = some (1, 0, 0, 0, 36) := by decide +kernel
theorem c43_36 : vlk 43 36 = some (63, 1, 0, 0, 37) := by decide +kernel
theorem c43_37 : vlk 43 37 = some (6, 2, 0, 0, 38) := by decide +kernel
theorem c43_38 : vlk 43 38 = some (58, 4, 0, 0, 41) := by decide +kernel
theorem c43_41 : vlk 43 41 = some (4, 1, 0, 0, 42) := by decide +kernel
theorem c43_42 : vlk 43 42 = some (1, 0, 0, 119, 44) := by decide +kernel
theorem c43_44 : vlk 43 44 = some (77, 58, 0, 0, 47) := by decide +kernel
theorem c43_47 : vlk 43 47 = some (6, 2, 0, 0, 48) := by decide +kernel
theorem c43_48 : vlk 43 48 = some (1, 0, 0, 7, 50) := by decide +kernel
theorem c43_50 : vlk 43 50 = some (4, 4, 0, 0, 52) := by decide +kernel
theorem c43_52 : vlk 43 52 = some (58, 14, 0, 0, 55) := by decide +kernel
theorem c43_55 : vlk 43 55 = some (37, 152, 0, 0, 58) := by decide +kernel
theorem c43_58 : vlk 43 58 = some (4, 1, 0, 0, 59) := by decide +kernel
theorem c43_59 : vlk 43 59 = some (1, 0, 0, 100, 61) := by decide +kernel
theorem c43_61 : vlk 43 61 = some (77, 77, 0, 0, 64) := by decide +kernel
theorem c43_64 : vlk 43 64 = some (6, 2, 0, 0, 65) := by decide +kernel
theorem c43_65 : vlk 43 65 = some (1, 0, 0, 30, 67) := by decide +kernel
theorem c43_67 : vlk 43 67 = some (4, 4, 0, 0, 69) := by decide +kernel
theorem c43_69 : vlk 43 69 = some (1, 0, 0, 1, 70) := by decide +kernel
theorem c43_70 : vlk 43 70 = some (12, 0, 0, 0, 71) := by decide +kernel
theorem c43_71 : vlk 43 71 = some (58, 14, 0, 0, 74) := by decide +kernel
theorem c43_74 : vlk 43 74 = some (37, 152, 0, 0, 77) := by decide +kernel
theorem c43_77 : vlk 43 77 = some (4, 1, 0, 0, 78) := by decide +kernel
theorem c43_78 : vlk 43 78 = some (1, 0, 0, 109, 80) := by decide +kernel
theorem c43_80 : vlk 43 80 = some (77, 132, 0, 0, 83) := by decide +kernel
theorem c43_83 : vlk 43 83 = some (6, 2, 0, 0, 84) := by decide +kernel
theorem c43_84 : vlk 43 84 = some (1, 0, 0, 30, 86) := by decide +kernel
theorem c43_86 : vlk 43 86 = some (4, 4, 0, 0, 88) := by decide +kernel
theorem c43_88 : vlk 43 88 = some (13, 0, 0, 0, 89) := by decide +kernel
theorem c43_89 : vlk 43 89 = some (1, 0, 0, 30, 91) := by decide +kernel
theorem c43_91 : vlk 43 91 = some (12, 0, 0, 0, 92) := by decide +kernel
theorem c43_92 : vlk 43 92 = some (1, 0, 0, 30, 94) := by decide +kernel
theorem c43_94 : vlk 43 94 = some (4, 4, 0, 0, 96) := by decide +kernel
theorem c43_96 : vlk 43 96 = some (13, 0, 0, 0, 97) := by decide +kernel
theorem c43_97 : vlk 43 97 = some (1, 0, 0, 1, 98) := by decide +kernel
theorem c43_98 : vlk 43 98 = some (12, 0, 0, 0, 99) := by decide +kernel
theorem c43_99 : vlk 43 99 = some (58, 13, 0, 0, 102) := by decide +kernel
theorem c43_102 : vlk 43 102 = some (6, 2, 0, 0, 103) := by decide +kernel
theorem c43_103 : vlk 43 103 = some (1, 0, 0, 360, 106) := by decide +kernel
theorem c43_106 : vlk 43 106 = some (1, 0, 0, 30, 108) := by decide +kernel
theorem c43_108 : vlk 43 108 = some (4, 4, 0, 0, 110) := by decide +kernel
theorem c43_110 : vlk 43 110 = some (13, 0, 0, 0, 111) := by decide +kernel
theorem c43_111 : vlk 43 111 = some (11, 0, 0, 0, 112) := by decide +kernel
theorem c43_112 : vlk 43 112 = some (1, 0, 0, 30, 114) := by decide +kernel
theorem c43_114 : vlk 43 114 = some (12, 0, 0, 0, 115) := by decide +kernel
theorem c43_115 : vlk 43 115 = some (1, 0, 0, 360, 118) := by decide +kernel
theorem c43_118 : vlk 43 118 = some (1, 0, 0, 30, 120) := by decide +kernel
theorem c43_120 : vlk 43 120 = some (4, 4, 0, 0, 122) := by decide +kernel
theorem c43_122 : vlk 43 122 = some (13, 0, 0, 0, 123) := by decide +kernel
theorem c43_123 : vlk 43 123 = some (11, 0, 0, 0, 124) := by decide +kernel
theorem c43_124 : vlk 43 124 = some (1, 0, 0, 1, 125) := by decide +kernel
theorem c43_125 : vlk 43 125 = some (12, 0, 0, 0, 126) := by decide +kernel
theorem c43_126 : vlk 43 126 = some (58, 13, 0, 0, 129) := by decide +kernel
theorem c43_129 : vlk 43 129 = some (37, 152, 0, 0, 132) := by decide +kernel
theorem c43_132 : vlk 43 132 = some (6, 2, 0, 0, 133) := by decide +kernel
theorem c43_133 : vlk 43 133 = some (1, 0, 0, 360, 136) := by decide +kernel
theorem c43_136 : vlk 43 136 = some (4, 4, 0, 0, 138) := by decide +kernel
theorem c43_138 : vlk 43 138 = some (13, 0, 0, 0, 139) := by decide +kernel
theorem c43_139 : vlk 43 139 = some (1, 0, 0, 360, 142) := by decide +kernel
theorem c43_142 : vlk 43 142 = some (4, 4, 0, 0, 144) := by decide +kernel
theorem c43_144 : vlk 43 144 = some (13, 0, 0, 0, 145) := by decide +kernel
theorem c43_145 : vlk 43 145 = some (1, 0, 0, 359, 148) := by decide +kernel
theorem c43_148 : vlk 43 148 = some (11, 0, 0, 0, 149) := by decide +kernel
theorem c43_149 : vlk 43 149 = some (58, 13, 0, 0, 152) := by decide +kernel
theorem c43_152 : vlk 43 152 = some (1, 0, 0, 1, 153) := by decide +kernel
theorem c43_153 : vlk 43 153 = some (63, 1, 0, 0, 154) := by decide +kernel
/-! Reader: what it is as a whole; units and pairs -/
def vRz (h : vHp) (r : Nat) (t : Nat → Int) : Prop := vRy h r t ∧ (∃ p, hg h (r + 2) = some (.inl (4, 6, .inr p)) ∧ ∀ i, i < 6 → p i = some (r + 5 + 2 * (3 * i))) ∧ (∃ p, hg h (r + 3) = some (.inl (4, 6, .inr p)) ∧ ∀ i, i < 6 → p i = some (r + 5 + 2 * (3 * i + 1))) ∧ ∃ p, hg h (r + 4) = some (.inl (4, 6, .inr p)) ∧ ∀ i, i < 6 → p i = some (r + 5 + 2 * (3 * i + 2))
def vRk (h : vHp) (r : Nat) : Prop := ∀ j, j < 18 → ∃ S, vDy h (r + 5 + 2 * j) S
def vPn (h : vHp) (pr : Nat) (pa : Nat → Nat) (D : Nat → vSt1) : Prop := (∃ p, hg h pr = some (.inl (3, 10, .inr p)) ∧ ∀ i, i < 10 → p i = some (pa i)) ∧ ∀ i, i < 10 → (∃ fs, hg h (pa i) = some (.inr (2, fs)) ∧ vgt fs 4 = some (.ref (pa i + 7))) ∧ vDy h (pa i + 7) (D i)
def vAw (r pr : Nat) (pa : Nat → Nat) : Prop := (pr < r ∨ r + 41 ≤ pr) ∧ ∀ i, i < 10 → pa i + 9 ≤ r ∨ r + 41 ≤ pa i
def vPx (h : vHp) (r n : Nat) (t : Nat → Int) (pr : Nat) (pa : Nat → Nat) (D : Nat → vSt1) (pl : Nat) : Prop := vRo h r n pl ∧ vRz h r t ∧ vRk h r ∧ vPn h pr pa D ∧ vBk h ∧ h.1.1 ≤ r ∧ vTp n t ∧ vAw r pr pa
theorem vRz_fr {X : Nat → Prop} {h h1 : vHp} {r : Nat} {t : Nat → Int} (hR : vRz h r t) (f : vFr X h h1) (nx : ∀ q, r < q → q < r + 5 → ¬ X q) : vRz h1 r t := by
  obtain ⟨a, ⟨p, p1, p2⟩, ⟨u, u1, u2⟩, v, v1, v2⟩ := hR
  exact ⟨(f.2.2 _ (nx _ (by omega) (by omega))).trans a, ⟨p, (f.2.2 _ (nx _ (by omega) (by omega))).trans p1, p2⟩, ⟨u, (f.2.2 _ (nx _ (by omega) (by omega))).trans u1, u2⟩, v, (f.2.2 _ (nx _ (by omega) (by omega))).trans v1, v2⟩
theorem vPn_fr {X : Nat → Prop} {h h1 : vHp} {r pr : Nat} {pa : Nat → Nat} {D : Nat → vSt1} (hP : vPn h pr pa D) (hA : vAw r pr pa) (f : vFr X h h1) (nx : ∀ q, X q → r ≤ q ∧ q < r + 41) : vPn h1 pr pa D := by
  obtain ⟨⟨p, p1, p2⟩, p3⟩ := hP
  refine ⟨⟨p, (f.2.2 _ (fun q => by have := nx _ q; have := hA.1; omega)).trans p1, p2⟩, fun i hi => ?_⟩
  obtain ⟨⟨fs, f1, f2⟩, f3⟩ := p3 i hi
  have ha := hA.2 i hi
  exact ⟨⟨fs, (f.2.2 _ (fun q => by have := nx _ q; omega)).trans f1, f2⟩, vDy_fr f3 f (fun q => by have := nx _ q; omega) (fun q => by have := nx _ q; omega)⟩
theorem vPx_pl {r n pl pr : Nat} {t : Nat → Int} {pa : Nat → Nat} {D : Nat → vSt1} {h h1 : vHp} {p2 : Nat} (hP : vPx h r n t pr pa D pl) (ho : vRo h1 r n p2) (f : vFr (fun q => q = r) h h1) : vPx h1 r n t pr pa D p2 := by
  obtain ⟨a1, a2, a3, a4, a5, a6, a7, a8⟩ := hP
  refine ⟨ho, vRz_fr a2 f (fun q e1 e2 => by omega), fun j hj => ?_, vPn_fr a4 a8 f (fun q e => by omega), vBk_fr a5 f (fun q e => by omega), by rw [f.1]; exact a6, a7, a8⟩
  obtain ⟨S, hS⟩ := a3 j hj
  exact ⟨S, vDy_fr hS f (by omega) (by omega)⟩
theorem vPx_dy {r n pl pr : Nat} {t : Nat → Int} {pa : Nat → Nat} {D : Nat → vSt1} {h h1 : vHp} {j : Nat} {S : vSt1} (hP : vPx h r n t pr pa D pl) (hj : j < 18) (hS : vDy h1 (r + 5 + 2 * j) S) (f : vFr (fun q => q = r + 5 + 2 * j + 1) h h1) : vPx h1 r n t pr pa D pl := by
  obtain ⟨a1, a2, a3, a4, a5, a6, a7, a8⟩ := hP
  refine ⟨(f.2.2 _ (by omega)).trans a1, vRz_fr a2 f (fun q e1 e2 => by omega), fun i hi => ?_, vPn_fr a4 a8 f (fun q e => by omega), vBk_fr a5 f (fun q e => by omega), by rw [f.1]; exact a6, a7, a8⟩
  by_cases e : i = j
  · subst e; exact ⟨S, hS⟩
  · obtain ⟨T, hT⟩ := a3 i hi
    exact ⟨T, vDy_fr hT f (by omega) (by omega)⟩
theorem vnd_n {n : Nat} {t : Nat → Int} : ∀ (f : Nat) (v : Int) (p : Nat), p ≤ n → (vnd n t f v p).2 ≤ n
  | 0, _, _, h => h
  | f + 1, v, p, h => by
    rw [show vnd n t (f + 1) v p = (if 48 ≤ vch n t p ∧ vch n t p ≤ 57 then vnd n t f (v * 10 + vch n t p - 48) (p + 1) else (v, p)) from rfl]
    split
    · rename_i q
      have := vch_lt (n := n) (t := t) (p := p) (by omega)
      exact vnd_n f _ _ this
    · exact h
theorem vnm_rg {n : Nat} {t : Nat → Int} {lo hi : Int} {p : Nat} (hp : p ≤ n) : ((vnm n t lo hi p).2 = -1 ∧ (vnm n t lo hi p).1 = p ∨ (lo ≤ (vnm n t lo hi p).2 ∧ (vnm n t lo hi p).2 ≤ hi ∧ 0 ≤ (vnm n t lo hi p).2 ∧ p < (vnm n t lo hi p).1)) ∧ p ≤ (vnm n t lo hi p).1 ∧ (vnm n t lo hi p).1 ≤ n := by
  have rg := vnd_rg (n := n) (t := t) (p := p)
  have rn := vnd_n (n := n) (t := t) 4 0 p hp
  unfold vnm
  split
  · exact ⟨Or.inl ⟨rfl, rfl⟩, Nat.le_refl p, hp⟩
  · split
    · exact ⟨Or.inl ⟨rfl, rfl⟩, Nat.le_refl p, hp⟩
    · exact ⟨Or.inr (by dsimp only; omega), by dsimp only; omega, rn⟩
theorem k_unit {r n pl pr : Nat} {t : Nat → Int} {pa : Nat → Nat} {D : Nat → vSt1} {d j : Nat} {c : Int} {h : vHp} {Q : vQ} (hP : vPx h r n t pr pa D pl) (hj : j < 18) (hpl : pl ≤ n) (hc : c = 119 ∨ c = 100 ∨ c = 109 ∨ c = 121) (kN : (vpu n t c pl).2 = none → ∀ h', vPx h' r n t pr pa D (vpu n t c pl).1 → vFr (fun q => q = r ∨ q = r + 5 + 2 * j + 1) h h' → Q (some (.int (iI 0))) h') (kS : ∀ S, (vpu n t c pl).2 = some S → ∀ h', vPx h' r n t pr pa D (vpu n t c pl).1 → vDy h' (r + 5 + 2 * j) S → vFr (fun q => q = r ∨ q = r + 5 + 2 * j + 1) h h' → Q (some (.int (iI 1))) h') : vCall (d + 4) 0 0 43 [.ref r, .int (iI c), .ref (r + 5 + 2 * j)] h Q := by
  have hP0 := hP
  obtain ⟨ho, hz, hk, hpn, hb, hlo, hT, hA⟩ := hP
  have ho2 := ho
  unfold vRo at ho2
  have hn := hT.1
  have hmo : vmo c = 6 ∨ vmo c = 30 ∨ vmo c = 12 ∨ vmo c = 1 := by rcases hc with rfl | rfl | rfl | rfl <;> decide
  have hlq : (if c = 119 ∨ c = 121 then (0 : Int) else 1) = 0 ∨ (if c = 119 ∨ c = 121 then (0 : Int) else 1) = 1 := by split <;> simp
  have main : ∀ x4 : Value, vW (vCall (d + 3)) 43 Q 18 [.ref r, .int (iI c), .ref (r + 5 + 2 * j), .int (iI (if c = 119 ∨ c = 121 then (0 : Int) else 1)), x4] [] h 0 0 := by
    intro x4
    refine r_aload c43_18 rfl (r_iload c43_19 rfl (r_iload c43_20 rfl ?_))
    refine r_is1 c43_21 vr_50 rfl (k_mostOf (by omega) (by omega) ?_)
    dsimp only [vpush]
    have rg := vnm_rg (n := n) (t := t) (lo := (if c = 119 ∨ c = 121 then (0 : Int) else 1)) (hi := vmo c) (p := pl) hpl
    unfold vpu at kN kS
    generalize hq : (if c = 119 ∨ c = 121 then (0 : Int) else 1) = q0 at *
    refine r_iv2 c43_24 vr_49 ho2 rfl (k_number ho hz.1 hT (by omega) hlo (by omega) (by omega) (by omega) (by omega) (fun h1 ho1 f1 => ?_))
    dsimp only [vpush]
    have hP1 := vPx_pl hP0 ho1 f1
    generalize hz : (vnm n t q0 (vmo c) pl).2 = z at *
    generalize hp' : (vnm n t q0 (vmo c) pl).1 = p1 at *
    refine r_istore c43_27 rfl (r_iload c43_29 rfl (r_ci c43_31 ?_))
    try dsimp only [vst]
    refine r_icne c43_32 (by omega) (by omega) (by omega) (by omega) (fun c_32 => ?_) (fun c_32 => ?_)
    · rw [if_neg c_32] at kS
      obtain ⟨m, rfl⟩ := Int.eq_ofNat_of_zero_le (show 0 ≤ z by omega)
      obtain ⟨S0, hS0⟩ := hP1.2.2.1 j hj
      refine r_aload c43_37 rfl ?_
      refine r_iv0 c43_38 vr_4 hS0.1 rfl (k_wipe hS0 (by have := hP1.2.2.2.2.2.1; omega) (fun h2 hS2 f2 => ?_))
      dsimp only [vpush]
      have hP2 := vPx_dy hP1 hj hS2 f2
      have f12 := vFr_tr (vFr_up f1 (Y := fun q => q = r ∨ q = r + 5 + 2 * j + 1) (fun q e => Or.inl e)) (vFr_up f2 (fun q e => Or.inr e))
      have hl2 : h2.1.1 ≤ r + 5 + 2 * j := by have := hP2.2.2.2.2.2.1; omega
      have fin : ∀ (h3 : vHp) (S : vSt1), vDy h3 (r + 5 + 2 * j) S → vFr (fun q => q = r + 5 + 2 * j + 1) h2 h3 → (∀ e, e < 720 → S e = vun c m e) → vW (vCall (d + 3)) 43 Q 152 [.ref r, .int (iI c), .ref (r + 5 + 2 * j), .int (iI q0), .int (iI (m : Int))] [] h3 0 0 := by
        intro h3 S hS3 f3 he
        refine r_ci c43_152 ?_
        refine r_zret (st := []) c43_153 (by omega) ?_
        exact kS _ rfl h3 (vPx_dy hP2 hj hS3 f3) (vDy_cg hS3 (fun e he2 => by rw [he e he2, Int.toNat_natCast])) (vFr_tr f12 (vFr_up f3 (fun q e => Or.inr e)))
      refine r_iload c43_41 rfl (r_ci c43_42 ?_)
      refine r_icne c43_44 (by omega) (by omega) (by omega) (by omega) (fun c_44 => ?_) (fun c_44 => ?_)
      · refine r_iload c43_58 rfl (r_ci c43_59 ?_)
        refine r_icne c43_61 (by omega) (by omega) (by omega) (by omega) (fun c_61 => ?_) (fun c_61 => ?_)
        · refine r_iload c43_77 rfl (r_ci c43_78 ?_)
          refine r_icne c43_80 (by omega) (by omega) (by omega) (by omega) (fun c_80 => ?_) (fun c_80 => ?_)
          · have ec : c = 121 := by omega
            have e6 : vmo c = 1 := by rw [ec]; rfl
            have e7 : (if c = 119 ∨ c = 121 then (0 : Int) else 1) = 0 := by rw [ec]; rfl
            rw [hq] at e7
            subst ec
            refine r_aload c43_132 rfl (r_ci c43_133 (r_iload c43_136 rfl (r_imul c43_138 (r_ci c43_139 (r_iload c43_142 rfl (r_imul c43_144 (r_ci c43_145 (r_iadd c43_148 ?_))))))))
            rw [show (360 : Int) * (m : Int) = ((360 * m : Nat) : Int) by omega]
            refine r_iv2 c43_149 vr_13 hS2.1 rfl (k_addSpan hS2 hl2 (by omega) (by omega) (by omega) (fun h3 hS3 f3 => ?_))
            dsimp only [vpush]
            refine fin h3 _ hS3 f3 (fun e he => ?_)
            unfold vun
            rw [if_neg (by decide), if_neg (by decide), if_neg (by decide), Bool.false_or]
            exact decide_eq_decide.mpr (by omega)
          · have ec : c = 109 := by omega
            have e6 : vmo c = 12 := by rw [ec]; rfl
            have e7 : (if c = 119 ∨ c = 121 then (0 : Int) else 1) = 1 := by rw [ec]; rfl
            rw [hq] at e7
            subst ec
            refine r_aload c43_83 rfl (r_ci c43_84 (r_iload c43_86 rfl (r_imul c43_88 (r_ci c43_89 (r_isub c43_91 (r_ci c43_92 (r_iload c43_94 rfl (r_imul c43_96 (r_ci c43_97 (r_isub c43_98 ?_))))))))))
            rw [show (30 : Int) * (m : Int) - 30 = ((30 * m - 30 : Nat) : Int) by omega]
            refine r_iv2 c43_99 vr_13 hS2.1 rfl (k_addSpan hS2 hl2 (by omega) (by omega) (by omega) (fun h3 hS3 f3 => ?_))
            dsimp only [vpush]
            refine r_aload c43_102 rfl (r_ci c43_103 (r_ci c43_106 (r_iload c43_108 rfl (r_imul c43_110 (r_iadd c43_111 (r_ci c43_112 (r_isub c43_114 (r_ci c43_115 (r_ci c43_118 (r_iload c43_120 rfl (r_imul c43_122 (r_iadd c43_123 (r_ci c43_124 (r_isub c43_125 ?_))))))))))))))
            rw [show (360 : Int) + 30 * (m : Int) - 30 = ((360 + 30 * m - 30 : Nat) : Int) by omega]
            refine r_iv2 c43_126 vr_13 hS3.1 rfl (k_addSpan hS3 (vFr_lo f3 hl2) (by omega) (by omega) (by omega) (fun h4 hS4 f4 => ?_))
            dsimp only [vpush]
            refine r_goto c43_129 ?_
            refine fin h4 _ hS4 (vFr_tr f3 f4) (fun e he => ?_)
            unfold vun
            rw [if_neg (by decide), if_neg (by decide), if_pos rfl, Bool.false_or, ← Bool.decide_or]
            exact decide_eq_decide.mpr (by omega)
        · have ec : c = 100 := by omega
          have e6 : vmo c = 30 := by rw [ec]; rfl
          have e7 : (if c = 119 ∨ c = 121 then (0 : Int) else 1) = 1 := by rw [ec]; rfl
          rw [hq] at e7
          subst ec
          refine r_aload c43_64 rfl (r_ci c43_65 (r_iload c43_67 rfl (r_ci c43_69 (r_isub c43_70 ?_))))
          rw [show (m : Int) - 1 = ((m - 1 : Nat) : Int) by omega]
          refine r_iv2 c43_71 vr_14 hS2.1 rfl (k_addEach (st := 30) hS2 hl2 (by omega) (by omega) (by omega) (fun h3 hS3 f3 => ?_))
          dsimp only [vpush]
          refine r_goto c43_74 ?_
          refine fin h3 _ hS3 f3 (fun e he => ?_)
          unfold vun
          rw [if_neg (by decide), if_pos rfl, Bool.false_or]
          exact decide_eq_decide.mpr (by omega)
      · have ec : c = 119 := by omega
        have e6 : vmo c = 6 := by rw [ec]; rfl
        have e7 : (if c = 119 ∨ c = 121 then (0 : Int) else 1) = 0 := by rw [ec]; rfl
        rw [hq] at e7
        subst ec
        refine r_aload c43_47 rfl (r_ci c43_48 (r_iload c43_50 rfl ?_))
        refine r_iv2 c43_52 vr_14 hS2.1 rfl (k_addEach (st := 7) hS2 hl2 (by omega) (by omega) (by omega) (fun h3 hS3 f3 => ?_))
        dsimp only [vpush]
        refine r_goto c43_55 ?_
        refine fin h3 _ hS3 f3 (fun e he => ?_)
        unfold vun
        rw [if_pos rfl, Bool.false_or]
        exact decide_eq_decide.mpr (by omega)
    · rw [if_pos c_32] at kN
      refine r_ci c43_35 ?_
      refine r_zret (st := []) c43_36 (by omega) ?_
      exact kN rfl h1 hP1 (vFr_up f1 (fun q e => Or.inl e))
  refine vin 5 [_, _, _, _, _] ml_43 rfl rfl ?_
  refine r_iload c43_0 rfl (r_ci c43_1 ?_)
  refine r_iceq c43_3 (by omega) (by omega) (by omega) (by omega) (fun c_3 => ?_) (fun c_3 => ?_)
  · refine r_ci c43_12 (r_goto c43_13 (r_istore c43_17 rfl ?_))
    try dsimp only [vst]
    rw [if_pos (Or.inl c_3)] at main
    exact main _
  · refine r_iload c43_6 rfl (r_ci c43_7 ?_)
    refine r_icne c43_9 (by omega) (by omega) (by omega) (by omega) (fun c_9 => ?_) (fun c_9 => ?_)
    · refine r_ci c43_16 (r_istore c43_17 rfl ?_)
      try dsimp only [vst]
      rw [if_neg (by omega)] at main
      exact main _
    · refine r_ci c43_12 (r_goto c43_13 (r_istore c43_17 rfl ?_))
      try dsimp only [vst]
      rw [if_pos (Or.inr c_9)] at main
      exact main _
end
section
/-! Reader: places of the reading; pairs, brackets and what has one -/
def vok (n p : Nat) (r : vPr) : Prop := p ≤ r.1 ∧ r.1 ≤ n ∧ (r.2 ≠ none → p < r.1)
theorem vth_ok {n p : Nat} {r : vPr} {g : Nat → vSt1 → vPr} (h : vok n p r) (k : ∀ S, r.2 = some S → r.1 ≤ (g r.1 S).1 ∧ (g r.1 S).1 ≤ n) : vok n p (vth r g) := by
  obtain ⟨q, s⟩ := r
  cases s with
  | none => exact h
  | some S =>
    have k1 := k S rfl
    have h1 := h.2.2 (fun e => nomatch e)
    have h2 := h.1
    exact ⟨Nat.le_trans h2 k1.1, k1.2, fun _ => Nat.lt_of_lt_of_le h1 k1.1⟩
theorem vok_up {n p q : Nat} {r : vPr} (h : vok n q r) (hq : p ≤ q) : vok n p r := ⟨Nat.le_trans hq h.1, h.2.1, fun e => Nat.lt_of_le_of_lt hq (h.2.2 e)⟩
theorem vbr_ok {n : Nat} {t : Nat → Int} {f : Nat → vPr} (hf : ∀ p, p ≤ n → vok n p (f p)) {p : Nat} (hp : p ≤ n) : vok n p (vbr n t f p) := by
  unfold vbr
  split
  · rename_i q
    have := vch_lt (n := n) (t := t) (p := p) (by omega)
    have h1 := hf (p + 1) (by omega)
    refine vth_ok (vok_up h1 (by omega)) (fun S hS => ?_)
    split
    · rename_i q2
      have := vch_lt (n := n) (t := t) (p := (f (p + 1)).1) (by omega)
      exact ⟨by dsimp only; omega, by dsimp only; omega⟩
    · exact ⟨Nat.le_refl _, h1.2.1⟩
  · exact ⟨Nat.le_refl p, hp, fun e => absurd rfl e⟩
theorem vpu_ok {n : Nat} {t : Nat → Int} {c : Int} {p : Nat} (hp : p ≤ n) : vok n p (vpu n t c p) := by
  have rg := vnm_rg (n := n) (t := t) (lo := (if c = 119 ∨ c = 121 then 0 else 1)) (hi := vmo c) (p := p) hp
  unfold vpu
  generalize (if c = 119 ∨ c = 121 then (0 : Int) else 1) = lo at rg ⊢
  split
  · exact ⟨rg.2.1, rg.2.2, fun e => absurd rfl e⟩
  · exact ⟨rg.2.1, rg.2.2, fun _ => by dsimp only; omega⟩
theorem vpp_ok {n : Nat} {t : Nat → Int} {c : Int} {p : Nat} (hp : p ≤ n) : vok n p (vpp n t c p) := by
  have rg := vnm_rg (n := n) (t := t) (lo := (if c = 101 then 1 else 0)) (hi := 719) (p := p) hp
  unfold vpp
  generalize (if c = 101 then (1 : Int) else 0) = lo at rg ⊢
  split
  · exact ⟨rg.2.1, rg.2.2, fun e => absurd rfl e⟩
  · split
    · rename_i q
      have := vch_lt (n := n) (t := t) (p := (vnm n t lo 719 p).1) (by omega)
      have rg2 := vnm_rg (n := n) (t := t) (lo := (if c = 101 then 0 else (vnm n t lo 719 p).2)) (hi := 719) (p := (vnm n t lo 719 p).1 + 1) this
      unfold vpp2
      generalize (if c = 101 then (0 : Int) else (vnm n t lo 719 p).2) = lo2 at rg2 ⊢
      split
      · exact ⟨by dsimp only; omega, rg2.2.2, fun e => absurd rfl e⟩
      · exact ⟨by dsimp only; omega, rg2.2.2, fun _ => by dsimp only; omega⟩
    · exact ⟨rg.2.1, rg.2.2, fun e => absurd rfl e⟩
theorem vpb_ok {n : Nat} {t : Nat → Int} {f : Nat → vPr} (hf : ∀ p, p ≤ n → vok n p (f p)) {c : Int} {p : Nat} (hp : p ≤ n) : vok n p (vpb n t f c p) := by
  have rg := vnm_rg (n := n) (t := t) (lo := 1) (hi := 99) (p := p) hp
  unfold vpb
  split
  · exact ⟨rg.2.1, rg.2.2, fun e => absurd rfl e⟩
  · split
    · exact ⟨rg.2.1, rg.2.2, fun e => absurd rfl e⟩
    · rename_i q
      have hc : 0 ≤ vch n t (vnm n t 1 99 p).1 := by
        unfold vbo at q
        split at q
        · omega
        · split at q
          · omega
          · split at q
            · omega
            · omega
      have hl := vch_lt hc
      have h1 := vbr_ok (t := t) hf (p := (vnm n t 1 99 p).1 + 1) hl
      exact vth_ok (vok_up h1 (by omega)) (fun S _ => ⟨Nat.le_refl _, h1.2.1⟩)
theorem vpc_ok {n : Nat} {t : Nat → Int} {f : Nat → vPr} (hf : ∀ p, p ≤ n → vok n p (f p)) {c : Int} {p : Nat} (hp : p ≤ n) : vok n p (vpc n t f c p) := by
  have rg := vnm_rg (n := n) (t := t) (lo := (if c = 120 then 0 else 1)) (hi := vmo c) (p := p) hp
  unfold vpc
  generalize (if c = 120 then (0 : Int) else 1) = lo at rg ⊢
  split
  · exact ⟨rg.2.1, rg.2.2, fun e => absurd rfl e⟩
  · have h1 := vbr_ok (t := t) hf (p := (vnm n t lo (vmo c) p).1) rg.2.2
    exact vth_ok (vok_up h1 rg.2.1) (fun S _ => ⟨Nat.le_refl _, h1.2.1⟩)
theorem vpn_ok {n : Nat} {t : Nat → Int} {D : Nat → vSt1} {f : Option (Nat → vPr)} (hf : ∀ g, f = some g → ∀ p, p ≤ n → vok n p (g p)) {p : Nat} (hp : p ≤ n) : vok n p (vpn n t D f p) := by
  have no : vok n p (p, none) := ⟨Nat.le_refl p, hp, fun e => absurd rfl e⟩
  have lt : 0 ≤ vch n t p → p + 1 ≤ n := fun q => vch_lt q
  cases f with
  | none =>
    show vok n p (if _ then _ else _)
    split
    · exact no
    · split
      · have := lt (by omega)
        exact ⟨by dsimp only; omega, this, fun _ => by dsimp only; omega⟩
      · split
        · exact vok_up (vpu_ok (lt (by omega))) (by omega)
        · split
          · exact vok_up (vpp_ok (lt (by omega))) (by omega)
          · exact no
  | some g =>
    have hg := hf g rfl
    show vok n p (if _ then _ else _)
    split
    · exact vbr_ok hg hp
    · split
      · have := lt (by omega)
        exact ⟨by dsimp only; omega, this, fun _ => by dsimp only; omega⟩
      · split
        · exact vok_up (vpu_ok (lt (by omega))) (by omega)
        · split
          · exact vok_up (vpp_ok (lt (by omega))) (by omega)
          · split
            · exact vok_up (vpb_ok hg (lt (by omega))) (by omega)
            · split
              · exact vok_up (vpc_ok hg (lt (by omega))) (by omega)
              · exact no
theorem vpf_ok {n : Nat} {t : Nat → Int} {D : Nat → vSt1} {f : Option (Nat → vPr)} (hf : ∀ g, f = some g → ∀ p, p ≤ n → vok n p (g p)) {p : Nat} (hp : p ≤ n) : vok n p (vpf n t D f p) := by
  unfold vpf
  split
  · have := vch_lt (n := n) (t := t) (p := p) (by omega)
    have h1 := vpn_ok (D := D) hf (t := t) (p := p + 1) this
    exact vth_ok (vok_up h1 (by omega)) (fun S _ => ⟨Nat.le_refl _, h1.2.1⟩)
  · exact vpn_ok hf hp
theorem vpd_ok {n : Nat} {t : Nat → Int} {F : Nat → vPr} (hF : ∀ p, p ≤ n → vok n p (F p)) : ∀ (u : Nat) (A : vSt1) (p : Nat), p ≤ n → vok n p (vpd n t F u A p)
  | 0, _, p, hp => ⟨Nat.le_refl p, hp, fun e => absurd rfl e⟩
  | u + 1, A, p, hp => by
    have h1 := hF p hp
    refine vth_ok h1 (fun S hS => ?_)
    split
    · have := vch_lt (n := n) (t := t) (p := (F p).1) (by omega)
      have h2 := vpd_ok (t := t) hF u (fun d => A d && S d) ((F p).1 + 1) this
      exact ⟨by have := h2.1; omega, h2.2.1⟩
    · exact ⟨Nat.le_refl _, h1.2.1⟩
theorem vpz_ok {n : Nat} {t : Nat → Int} {F : Nat → vPr} (hF : ∀ p, p ≤ n → vok n p (F p)) : ∀ (u : Nat) (w : Bool) (A : vSt1) (p : Nat), p ≤ n → vok n p (vpz n t F u w A p)
  | 0, _, _, p, hp => ⟨Nat.le_refl p, hp, fun e => absurd rfl e⟩
  | u + 1, w, A, p, hp => by
    have h1 := hF p hp
    refine vth_ok h1 (fun S hS => ?_)
    split
    · have := vch_lt (n := n) (t := t) (p := (F p).1) (by omega)
      have h2 := vpz_ok (t := t) hF u true (fun d => if w = true then A d && !S d else A d || S d) ((F p).1 + 1) this
      exact ⟨by have := h2.1; omega, h2.2.1⟩
    · split
      · have := vch_lt (n := n) (t := t) (p := (F p).1) (by omega)
        have h2 := vpz_ok (t := t) hF u false (fun d => if w = true then A d && !S d else A d || S d) ((F p).1 + 1) this
        exact ⟨by have := h2.1; omega, h2.2.1⟩
      · exact ⟨Nat.le_refl _, h1.2.1⟩
theorem vex_ok {n : Nat} {t : Nat → Int} {D : Nat → vSt1} : ∀ (e p : Nat), p ≤ n → vok n p (vex n t D e p)
  | 0, p, hp => vpz_ok (fun p hp => vpd_ok (fun p hp => vpf_ok (fun g hg => by cases hg) hp) _ _ p hp) _ _ _ p hp
  | e + 1, p, hp => vpz_ok (fun p hp => vpd_ok (fun p hp => vpf_ok (fun g hg => by
      have : vex n t D e = g := by simpa using hg
      subst this
      exact vex_ok e) hp) _ _ p hp) _ _ _ p hp
end
section
theorem ml_44 : vml 44 = 6 := by decide +kernel
theorem vr_37 : vrc 37 = some (3, 1) := by decide +kernel
theorem c44_0 : vlk 44 0 = some (4, 1, 0, 0, 1) := by decide +kernel
theorem c44_1 : vlk 44 1 = some (1, 0, 0, 101, 3) := by decide +kernel
theorem c44_3 : vlk 44 3 = some (77, 10, 0, 0, 6) := by decide +kernel
theorem c44_6 : vlk 44 6 = some (1, 0, 0, 1, 7) := by decide +kernel
theorem c44_7 : vlk 44 7 = some (37, 11, 0, 0, 10) := by decide +kernel
theorem c44_10 : vlk 44 10 = some (1, 0, 0, 0, 11) := by decide +kernel
theorem c44_11 : vlk 44 11 = some (7, 3, 0, 0, 12) := by decide +kernel
theorem c44_12 : vlk 44 12 = some (6, 0, 0, 0, 13) := by decide +kernel
theorem c44_13 : vlk 44 13 = some (4, 3, 0, 0, 14) := by decide +kernel
theorem c44_14 : vlk 44 14 = some (70, 21, 0, 0, 17) := by decide +kernel
theorem c44_17 : vlk 44 17 = some (1, 0, 0, 1, 18) := by decide +kernel
theorem c44_18 : vlk 44 18 = some (37, 22, 0, 0, 21) := by decide +kernel
theorem c44_21 : vlk 44 21 = some (1, 0, 0, 0, 22) := by decide +kernel
theorem c44_22 : vlk 44 22 = some (1, 0, 0, 719, 25) := by decide +kernel
theorem c44_25 : vlk 44 25 = some (58, 49, 0, 0, 28) := by decide +kernel
theorem c44_28 : vlk 44 28 = some (7, 4, 0, 0, 30) := by decide +kernel
theorem c44_30 : vlk 44 30 = some (4, 4, 0, 0, 32) := by decide +kernel
theorem c44_32 : vlk 44 32 = some (1, 0, 0, (-1), 33) := by decide +kernel
theorem c44_33 : vlk 44 33 = some (76, 45, 0, 0, 36) := by decide +kernel
theorem c44_36 : vlk 44 36 = some (6, 0, 0, 0, 37) := by decide +kernel
theorem c44_37 : vlk 44 37 = some (1, 0, 0, 44, 39) := by decide +kernel
theorem c44_39 : vlk 44 39 = some (58, 37, 0, 0, 42) := by decide +kernel
theorem c44_42 : vlk 44 42 = some (71, 47, 0, 0, 45) := by decide +kernel
theorem c44_45 : vlk 44 45 = some (1, 0, 0, 0, 46) := by decide +kernel
theorem c44_46 : vlk 44 46 = some (63, 1, 0, 0, 47) := by decide +kernel
theorem c44_47 : vlk 44 47 = some (6, 0, 0, 0, 48) := by decide +kernel
theorem c44_48 : vlk 44 48 = some (4, 3, 0, 0, 49) := by decide +kernel
theorem c44_49 : vlk 44 49 = some (70, 56, 0, 0, 52) := by decide +kernel
theorem c44_52 : vlk 44 52 = some (1, 0, 0, 0, 53) := by decide +kernel
theorem c44_53 : vlk 44 53 = some (37, 58, 0, 0, 56) := by decide +kernel
theorem c44_56 : vlk 44 56 = some (4, 4, 0, 0, 58) := by decide +kernel
theorem c44_58 : vlk 44 58 = some (1, 0, 0, 719, 61) := by decide +kernel
theorem c44_61 : vlk 44 61 = some (58, 49, 0, 0, 64) := by decide +kernel
theorem c44_64 : vlk 44 64 = some (7, 5, 0, 0, 66) := by decide +kernel
theorem c44_66 : vlk 44 66 = some (4, 5, 0, 0, 68) := by decide +kernel
theorem c44_68 : vlk 44 68 = some (1, 0, 0, (-1), 69) := by decide +kernel
theorem c44_69 : vlk 44 69 = some (77, 74, 0, 0, 72) := by decide +kernel
theorem c44_72 : vlk 44 72 = some (1, 0, 0, 0, 73) := by decide +kernel
theorem c44_73 : vlk 44 73 = some (63, 1, 0, 0, 74) := by decide +kernel
theorem c44_74 : vlk 44 74 = some (6, 2, 0, 0, 75) := by decide +kernel
theorem c44_75 : vlk 44 75 = some (58, 4, 0, 0, 78) := by decide +kernel
theorem c44_78 : vlk 44 78 = some (4, 3, 0, 0, 79) := by decide +kernel
theorem c44_79 : vlk 44 79 = some (70, 93, 0, 0, 82) := by decide +kernel
theorem c44_82 : vlk 44 82 = some (6, 2, 0, 0, 83) := by decide +kernel
theorem c44_83 : vlk 44 83 = some (4, 4, 0, 0, 85) := by decide +kernel
theorem c44_85 : vlk 44 85 = some (4, 5, 0, 0, 87) := by decide +kernel
theorem c44_87 : vlk 44 87 = some (58, 14, 0, 0, 90) := by decide +kernel
theorem c44_90 : vlk 44 90 = some (37, 101, 0, 0, 93) := by decide +kernel
theorem c44_93 : vlk 44 93 = some (6, 2, 0, 0, 94) := by decide +kernel
theorem c44_94 : vlk 44 94 = some (4, 4, 0, 0, 96) := by decide +kernel
theorem c44_96 : vlk 44 96 = some (4, 5, 0, 0, 98) := by decide +kernel
theorem c44_98 : vlk 44 98 = some (58, 13, 0, 0, 101) := by decide +kernel
theorem c44_101 : vlk 44 101 = some (1, 0, 0, 1, 102) := by decide +kernel
theorem c44_102 : vlk 44 102 = some (63, 1, 0, 0, 103) := by decide +kernel
/-! Reader: pairs, brackets and what has one, on the machine -/
theorem k_pair {r n pl pr : Nat} {t : Nat → Int} {pa : Nat → Nat} {D : Nat → vSt1} {d j : Nat} {c : Int} {h : vHp} {Q : vQ} (hP : vPx h r n t pr pa D pl) (hj : j < 18) (hpl : pl ≤ n) (hc : c = 101 ∨ c = 114) (kN : (vpp n t c pl).2 = none → ∀ h', vPx h' r n t pr pa D (vpp n t c pl).1 → vFr (fun q => q = r ∨ q = r + 5 + 2 * j + 1) h h' → Q (some (.int (iI 0))) h') (kS : ∀ S, (vpp n t c pl).2 = some S → ∀ h', vPx h' r n t pr pa D (vpp n t c pl).1 → vDy h' (r + 5 + 2 * j) S → vFr (fun q => q = r ∨ q = r + 5 + 2 * j + 1) h h' → Q (some (.int (iI 1))) h') : vCall (d + 4) 0 0 44 [.ref r, .int (iI c), .ref (r + 5 + 2 * j)] h Q := by
  have hn := hP.2.2.2.2.2.2.1.1
  have part2 : ∀ (a : Nat) (p1 : Nat) (h1 : vHp) (x5 : Value), a ≤ 719 → (c = 101 → 1 ≤ a) → vpp n t c pl = vpp2 n t c (a : Int) p1 → p1 ≤ n → vPx h1 r n t pr pa D p1 → vFr (fun q => q = r) h h1 → vW (vCall (d + 3)) 44 Q 47 [.ref r, .int (iI c), .ref (r + 5 + 2 * j), .int (iI (if c = 101 then (1 : Int) else 0)), .int (iI (a : Int)), x5] [] h1 0 0 := by
    intro a p1 h1 x5 ha ha1 he hp1 hP1 f1
    have ho1 := hP1.1
    unfold vRo at ho1
    have rg := vnm_rg (n := n) (t := t) (lo := (if c = 101 then (0 : Int) else (a : Int))) (hi := 719) (p := p1) hp1
    have go2 : ∀ x : Int, x = (if c = 101 then (0 : Int) else (a : Int)) → vW (vCall (d + 3)) 44 Q 58 [.ref r, .int (iI c), .ref (r + 5 + 2 * j), .int (iI (if c = 101 then (1 : Int) else 0)), .int (iI (a : Int)), x5] [.int (iI x), .ref r] h1 0 0 := by
      intro x hx
      have hxr : 0 ≤ x ∧ x ≤ 719 := by rw [hx]; split <;> omega
      rw [he] at kN kS
      unfold vpp2 at kN kS
      rw [← hx] at rg kN kS
      refine r_ci c44_58 ?_
      refine r_iv2 c44_61 vr_49 ho1 rfl (k_number hP1.1 hP1.2.1.1 hP1.2.2.2.2.2.2.1 (by omega) hP1.2.2.2.2.2.1 (by omega) (by omega) (by omega) (by omega) (fun h2 ho2 f2 => ?_))
      dsimp only [vpush]
      have hP2 := vPx_pl hP1 ho2 f2
      generalize (vnm n t x 719 p1).2 = z at *
      generalize (vnm n t x 719 p1).1 = p2 at *
      have f12 := vFr_tr f1 f2
      refine r_istore c44_64 rfl (r_iload c44_66 rfl (r_ci c44_68 ?_))
      try dsimp only [vst]
      refine r_icne c44_69 (by omega) (by omega) (by omega) (by omega) (fun c_69 => ?_) (fun c_69 => ?_)
      · rw [if_neg c_69] at kS
        obtain ⟨b, rfl⟩ := Int.eq_ofNat_of_zero_le (show 0 ≤ z by omega)
        obtain ⟨S0, hS0⟩ := hP2.2.2.1 j hj
        refine r_aload c44_74 rfl ?_
        refine r_iv0 c44_75 vr_4 hS0.1 rfl (k_wipe hS0 (by have := hP2.2.2.2.2.2.1; omega) (fun h3 hS3 f3 => ?_))
        dsimp only [vpush]
        have hP3 := vPx_dy hP2 hj hS3 f3
        have f13 := vFr_tr (vFr_up f12 (Y := fun q => q = r ∨ q = r + 5 + 2 * j + 1) (fun q e => Or.inl e)) (vFr_up f3 (fun q e => Or.inr e))
        have hl3 : h3.1.1 ≤ r + 5 + 2 * j := by have := hP3.2.2.2.2.2.1; omega
        have fin : ∀ (h4 : vHp) (S : vSt1), vDy h4 (r + 5 + 2 * j) S → vFr (fun q => q = r + 5 + 2 * j + 1) h3 h4 → (∀ e, e < 720 → S e = vpq c a b e) → vW (vCall (d + 3)) 44 Q 101 [.ref r, .int (iI c), .ref (r + 5 + 2 * j), .int (iI (if c = 101 then (1 : Int) else 0)), .int (iI (a : Int)), .int (iI (b : Int))] [] h4 0 0 := by
          intro h4 S hS4 f4 hee
          refine r_ci c44_101 ?_
          refine r_zret (st := []) c44_102 (by omega) ?_
          exact kS _ rfl h4 (vPx_dy hP3 hj hS4 f4) (vDy_cg hS4 (fun e he2 => by rw [hee e he2, Int.toNat_natCast, Int.toNat_natCast])) (vFr_tr f13 (vFr_up f4 (fun q e => Or.inr e)))
        by_cases ec : c = 101
        · have e1 : (if c = 101 then (1 : Int) else 0) = 1 := if_pos ec
          rw [e1] at fin ⊢
          refine r_iload c44_78 rfl ?_
          refine r_ifeq c44_79 (by omega) (by omega) (fun q => by exfalso; omega) (fun c_79 => ?_)
          refine r_aload c44_82 rfl (r_iload c44_83 rfl (r_iload c44_85 rfl ?_))
          refine r_iv2 c44_87 vr_14 hS3.1 rfl (k_addEach hS3 hl3 (ha1 ec) (by omega) (by omega) (fun h4 hS4 f4 => ?_))
          dsimp only [vpush]
          refine r_goto c44_90 ?_
          refine fin h4 _ hS4 f4 (fun e he => ?_)
          unfold vpq
          rw [if_pos ec, Bool.false_or]
        · have e1 : (if c = 101 then (1 : Int) else 0) = 0 := if_neg ec
          rw [e1] at fin ⊢
          refine r_iload c44_78 rfl ?_
          refine r_ifeq c44_79 (by omega) (by omega) (fun c_79 => ?_) (fun q => by exfalso; omega)
          refine r_aload c44_93 rfl (r_iload c44_94 rfl (r_iload c44_96 rfl ?_))
          refine r_iv2 c44_98 vr_13 hS3.1 rfl (k_addSpan hS3 hl3 (by omega) (by omega) (by omega) (fun h4 hS4 f4 => ?_))
          dsimp only [vpush]
          refine fin h4 _ hS4 f4 (fun e he => ?_)
          unfold vpq
          rw [if_neg ec, Bool.false_or]
          exact decide_eq_decide.mpr (by omega)
      · rw [if_pos c_69] at kN
        refine r_ci c44_72 ?_
        refine r_zret (st := []) c44_73 (by omega) ?_
        exact kN rfl h2 hP2 (vFr_up f12 (fun q e => Or.inl e))
    by_cases ec : c = 101
    · have e1 : (if c = 101 then (1 : Int) else 0) = 1 := if_pos ec
      rw [e1] at go2 ⊢
      refine r_aload c44_47 rfl (r_iload c44_48 rfl ?_)
      refine r_ifeq c44_49 (by omega) (by omega) (fun q => by exfalso; omega) (fun c_49 => ?_)
      refine r_ci c44_52 (r_goto c44_53 ?_)
      exact go2 0 (if_pos ec).symm
    · have e1 : (if c = 101 then (1 : Int) else 0) = 0 := if_neg ec
      rw [e1] at go2 ⊢
      refine r_aload c44_47 rfl (r_iload c44_48 rfl ?_)
      refine r_ifeq c44_49 (by omega) (by omega) (fun c_49 => ?_) (fun q => by exfalso; omega)
      refine r_iload c44_56 rfl ?_
      exact go2 a (if_neg ec).symm
  have ho := hP.1
  unfold vRo at ho
  have part1 : ∀ x4 x5 : Value, vW (vCall (d + 3)) 44 Q 22 [.ref r, .int (iI c), .ref (r + 5 + 2 * j), .int (iI (if c = 101 then (1 : Int) else 0)), x4, x5] [.int (iI (if c = 101 then (1 : Int) else 0)), .ref r] h 0 0 := by
    intro x4 x5
    have rg := vnm_rg (n := n) (t := t) (lo := (if c = 101 then (1 : Int) else 0)) (hi := 719) (p := pl) hpl
    have hq1 : (if c = 101 then (1 : Int) else 0) = 0 ∨ (if c = 101 then (1 : Int) else 0) = 1 := by split <;> simp
    have hq2 : c = 101 → (if c = 101 then (1 : Int) else 0) = 1 := fun e => if_pos e
    unfold vpp at kN kS part2
    generalize (if c = 101 then (1 : Int) else 0) = q0 at *
    refine r_ci c44_22 ?_
    refine r_iv2 c44_25 vr_49 ho rfl (k_number hP.1 hP.2.1.1 hP.2.2.2.2.2.2.1 (by omega) hP.2.2.2.2.2.1 (by omega) (by omega) (by omega) (by omega) (fun h1 ho1 f1 => ?_))
    dsimp only [vpush]
    have hP1 := vPx_pl hP ho1 f1
    generalize (vnm n t q0 719 pl).2 = z at *
    generalize (vnm n t q0 719 pl).1 = p1 at *
    refine r_istore c44_28 rfl (r_iload c44_30 rfl (r_ci c44_32 ?_))
    try dsimp only [vst]
    refine r_iceq c44_33 (by omega) (by omega) (by omega) (by omega) (fun c_33 => ?_) (fun c_33 => ?_)
    · rw [if_pos c_33] at kN
      refine r_ci c44_45 ?_
      refine r_zret (st := []) c44_46 (by omega) ?_
      exact kN rfl h1 hP1 (vFr_up f1 (fun q e => Or.inl e))
    · rw [if_neg c_33] at kN kS part2
      have ho1' := ho1
      unfold vRo at ho1'
      refine r_aload c44_36 rfl (r_ci c44_37 ?_)
      refine r_iv1 c44_39 vr_37 ho1' rfl (k_take hP1.1 hP1.2.1.1 hP1.2.2.2.2.2.2.1 (by omega) hP1.2.2.2.2.2.1 (by omega) (by omega) (fun q h2 ho2 f2 => ?_) (fun q => ?_))
      · dsimp only [vpush]
        refine r_ifne c44_42 (by omega) (by omega) (fun c_42 => ?_) (fun q => by exfalso; omega)
        obtain ⟨a, rfl⟩ := Int.eq_ofNat_of_zero_le (show 0 ≤ z by omega)
        rw [if_pos q] at part2
        have hl := vch_lt (n := n) (t := t) (p := p1) (by omega)
        refine part2 a (p1 + 1) h2 _ (by omega) (fun e => ?_) rfl hl (vPx_pl hP1 ho2 f2) (vFr_tr f1 f2)
        have := hq2 e
        omega
      · dsimp only [vpush]
        refine r_ifne c44_42 (by omega) (by omega) (fun q => by exfalso; omega) (fun c_42 => ?_)
        rw [if_neg q] at kN
        refine r_ci c44_45 ?_
        refine r_zret (st := []) c44_46 (by omega) ?_
        exact kN rfl h1 hP1 (vFr_up f1 (fun q e => Or.inl e))
  refine vin 6 [_, _, _, _, _, _] ml_44 rfl rfl ?_
  refine r_iload c44_0 rfl (r_ci c44_1 ?_)
  by_cases ec : c = 101
  · have e1 : (if c = 101 then (1 : Int) else 0) = 1 := if_pos ec
    rw [e1] at part1
    refine r_icne c44_3 (by omega) (by omega) (by omega) (by omega) (fun q => by exfalso; omega) (fun c_3 => ?_)
    refine r_ci c44_6 (r_goto c44_7 (r_istore c44_11 rfl (r_aload c44_12 rfl (r_iload c44_13 rfl ?_))))
    try dsimp only [vst]
    refine r_ifeq c44_14 (by omega) (by omega) (fun q => by exfalso; omega) (fun c_14 => ?_)
    refine r_ci c44_17 (r_goto c44_18 ?_)
    exact part1 _ _
  · have e1 : (if c = 101 then (1 : Int) else 0) = 0 := if_neg ec
    rw [e1] at part1
    refine r_icne c44_3 (by omega) (by omega) (by omega) (by omega) (fun c_3 => ?_) (fun q => by exfalso; omega)
    refine r_ci c44_10 (r_istore c44_11 rfl (r_aload c44_12 rfl (r_iload c44_13 rfl ?_)))
    try dsimp only [vst]
    refine r_ifeq c44_14 (by omega) (by omega) (fun c_14 => ?_) (fun q => by exfalso; omega)
    refine r_ci c44_21 ?_
    exact part1 _ _
end
section
theorem ml_45 : vml 45 = 8 := by decide +kernel
theorem ml_46 : vml 46 = 7 := by decide +kernel
theorem ml_47 : vml 47 = 5 := by decide +kernel
theorem ml_48 : vml 48 = 4 := by decide +kernel
theorem vr_3 : vrc 3 = some (0, 1) := by decide +kernel
theorem vr_15 : vrc 15 = some (0, 2) := by decide +kernel
theorem vr_16 : vrc 16 = some (0, 2) := by decide +kernel
theorem vr_17 : vrc 17 = some (0, 3) := by decide +kernel
theorem vr_38 : vrc 38 = some (3, 2) := by decide +kernel
theorem vr_48 : vrc 48 = some (3, 2) := by decide +kernel
theorem vr_51 : vrc 51 = some (3, 1) := by decide +kernel
theorem vr_91 : vrc 91 = some (5, 1) := by decide +kernel
theorem c45_0 : vlk 45 0 = some (6, 0, 0, 0, 1) := by decide +kernel
theorem c45_1 : vlk 45 1 = some (1, 0, 0, 1, 2) := by decide +kernel
theorem c45_2 : vlk 45 2 = some (4, 1, 0, 0, 3) := by decide +kernel
theorem c45_3 : vlk 45 3 = some (59, 50, 0, 0, 6) := by decide +kernel
theorem c45_6 : vlk 45 6 = some (58, 49, 0, 0, 9) := by decide +kernel
theorem c45_9 : vlk 45 9 = some (7, 5, 0, 0, 11) := by decide +kernel
theorem c45_11 : vlk 45 11 = some (4, 5, 0, 0, 13) := by decide +kernel
theorem c45_13 : vlk 45 13 = some (1, 0, 0, (-1), 14) := by decide +kernel
theorem c45_14 : vlk 45 14 = some (77, 19, 0, 0, 17) := by decide +kernel
theorem c45_17 : vlk 45 17 = some (1, 0, 0, 0, 18) := by decide +kernel
theorem c45_18 : vlk 45 18 = some (63, 1, 0, 0, 19) := by decide +kernel
theorem c45_19 : vlk 45 19 = some (6, 0, 0, 0, 20) := by decide +kernel
theorem c45_20 : vlk 45 20 = some (58, 36, 0, 0, 23) := by decide +kernel
theorem c45_23 : vlk 45 23 = some (59, 51, 0, 0, 26) := by decide +kernel
theorem c45_26 : vlk 45 26 = some (7, 6, 0, 0, 28) := by decide +kernel
theorem c45_28 : vlk 45 28 = some (4, 6, 0, 0, 30) := by decide +kernel
theorem c45_30 : vlk 45 30 = some (82, 91, 0, 0, 33) := by decide +kernel
theorem c45_33 : vlk 45 33 = some (71, 38, 0, 0, 36) := by decide +kernel
theorem c45_36 : vlk 45 36 = some (1, 0, 0, 0, 37) := by decide +kernel
theorem c45_37 : vlk 45 37 = some (63, 1, 0, 0, 38) := by decide +kernel
theorem c45_38 : vlk 45 38 = some (6, 0, 0, 0, 39) := by decide +kernel
theorem c45_39 : vlk 45 39 = some (34, 0, 0, 0, 40) := by decide +kernel
theorem c45_40 : vlk 45 40 = some (42, 3, 2, 0, 43) := by decide +kernel
theorem c45_43 : vlk 45 43 = some (1, 0, 0, 1, 44) := by decide +kernel
theorem c45_44 : vlk 45 44 = some (11, 0, 0, 0, 45) := by decide +kernel
theorem c45_45 : vlk 45 45 = some (43, 3, 2, 0, 48) := by decide +kernel
theorem c45_48 : vlk 45 48 = some (6, 0, 0, 0, 49) := by decide +kernel
theorem c45_49 : vlk 45 49 = some (4, 2, 0, 0, 50) := by decide +kernel
theorem c45_50 : vlk 45 50 = some (6, 4, 0, 0, 52) := by decide +kernel
theorem c45_52 : vlk 45 52 = some (58, 48, 0, 0, 55) := by decide +kernel
theorem c45_55 : vlk 45 55 = some (9, 7, 0, 0, 57) := by decide +kernel
theorem c45_57 : vlk 45 57 = some (6, 7, 0, 0, 59) := by decide +kernel
theorem c45_59 : vlk 45 59 = some (41, 64, 0, 0, 62) := by decide +kernel
theorem c45_62 : vlk 45 62 = some (1, 0, 0, 0, 63) := by decide +kernel
theorem c45_63 : vlk 45 63 = some (63, 1, 0, 0, 64) := by decide +kernel
theorem c45_64 : vlk 45 64 = some (6, 3, 0, 0, 65) := by decide +kernel
theorem c45_65 : vlk 45 65 = some (58, 4, 0, 0, 68) := by decide +kernel
theorem c45_68 : vlk 45 68 = some (6, 3, 0, 0, 69) := by decide +kernel
theorem c45_69 : vlk 45 69 = some (6, 7, 0, 0, 71) := by decide +kernel
theorem c45_71 : vlk 45 71 = some (44, 0, 1, 0, 74) := by decide +kernel
theorem c45_74 : vlk 45 74 = some (4, 6, 0, 0, 76) := by decide +kernel
theorem c45_76 : vlk 45 76 = some (45, 0, 0, 0, 77) := by decide +kernel
theorem c45_77 : vlk 45 77 = some (4, 1, 0, 0, 78) := by decide +kernel
theorem c45_78 : vlk 45 78 = some (1, 0, 0, 110, 80) := by decide +kernel
theorem c45_80 : vlk 45 80 = some (77, 90, 0, 0, 83) := by decide +kernel
theorem c45_83 : vlk 45 83 = some (4, 5, 0, 0, 85) := by decide +kernel
theorem c45_85 : vlk 45 85 = some (1, 0, 0, 1, 86) := by decide +kernel
theorem c45_86 : vlk 45 86 = some (12, 0, 0, 0, 87) := by decide +kernel
theorem c45_87 : vlk 45 87 = some (37, 93, 0, 0, 90) := by decide +kernel
theorem c45_90 : vlk 45 90 = some (4, 5, 0, 0, 92) := by decide +kernel
theorem c45_92 : vlk 45 92 = some (16, 0, 0, 0, 93) := by decide +kernel
theorem c45_93 : vlk 45 93 = some (58, 17, 0, 0, 96) := by decide +kernel
theorem c45_96 : vlk 45 96 = some (1, 0, 0, 1, 97) := by decide +kernel
theorem c45_97 : vlk 45 97 = some (63, 1, 0, 0, 98) := by decide +kernel
theorem c46_0 : vlk 46 0 = some (6, 0, 0, 0, 1) := by decide +kernel
theorem c46_1 : vlk 46 1 = some (4, 1, 0, 0, 2) := by decide +kernel
theorem c46_2 : vlk 46 2 = some (1, 0, 0, 120, 4) := by decide +kernel
theorem c46_4 : vlk 46 4 = some (77, 11, 0, 0, 7) := by decide +kernel
theorem c46_7 : vlk 46 7 = some (1, 0, 0, 0, 8) := by decide +kernel
theorem c46_8 : vlk 46 8 = some (37, 12, 0, 0, 11) := by decide +kernel
theorem c46_11 : vlk 46 11 = some (1, 0, 0, 1, 12) := by decide +kernel
theorem c46_12 : vlk 46 12 = some (4, 1, 0, 0, 13) := by decide +kernel
theorem c46_13 : vlk 46 13 = some (59, 50, 0, 0, 16) := by decide +kernel
theorem c46_16 : vlk 46 16 = some (58, 49, 0, 0, 19) := by decide +kernel
theorem c46_19 : vlk 46 19 = some (7, 5, 0, 0, 21) := by decide +kernel
theorem c46_21 : vlk 46 21 = some (4, 5, 0, 0, 23) := by decide +kernel
theorem c46_23 : vlk 46 23 = some (1, 0, 0, (-1), 24) := by decide +kernel
theorem c46_24 : vlk 46 24 = some (77, 29, 0, 0, 27) := by decide +kernel
theorem c46_27 : vlk 46 27 = some (1, 0, 0, 0, 28) := by decide +kernel
theorem c46_28 : vlk 46 28 = some (63, 1, 0, 0, 29) := by decide +kernel
theorem c46_29 : vlk 46 29 = some (6, 0, 0, 0, 30) := by decide +kernel
theorem c46_30 : vlk 46 30 = some (4, 2, 0, 0, 31) := by decide +kernel
theorem c46_31 : vlk 46 31 = some (6, 4, 0, 0, 33) := by decide +kernel
theorem c46_33 : vlk 46 33 = some (58, 48, 0, 0, 36) := by decide +kernel
theorem c46_36 : vlk 46 36 = some (9, 6, 0, 0, 38) := by decide +kernel
theorem c46_38 : vlk 46 38 = some (6, 6, 0, 0, 40) := by decide +kernel
theorem c46_40 : vlk 46 40 = some (41, 45, 0, 0, 43) := by decide +kernel
theorem c46_43 : vlk 46 43 = some (1, 0, 0, 0, 44) := by decide +kernel
theorem c46_44 : vlk 46 44 = some (63, 1, 0, 0, 45) := by decide +kernel
theorem c46_45 : vlk 46 45 = some (6, 3, 0, 0, 46) := by decide +kernel
theorem c46_46 : vlk 46 46 = some (58, 4, 0, 0, 49) := by decide +kernel
theorem c46_49 : vlk 46 49 = some (4, 1, 0, 0, 50) := by decide +kernel
theorem c46_50 : vlk 46 50 = some (1, 0, 0, 115, 52) := by decide +kernel
theorem c46_52 : vlk 46 52 = some (77, 66, 0, 0, 55) := by decide +kernel
theorem c46_55 : vlk 46 55 = some (6, 3, 0, 0, 56) := by decide +kernel
theorem c46_56 : vlk 46 56 = some (6, 6, 0, 0, 58) := by decide +kernel
theorem c46_58 : vlk 46 58 = some (4, 5, 0, 0, 60) := by decide +kernel
theorem c46_60 : vlk 46 60 = some (58, 15, 0, 0, 63) := by decide +kernel
theorem c46_63 : vlk 46 63 = some (37, 122, 0, 0, 66) := by decide +kernel
theorem c46_66 : vlk 46 66 = some (4, 1, 0, 0, 67) := by decide +kernel
theorem c46_67 : vlk 46 67 = some (1, 0, 0, 98, 69) := by decide +kernel
theorem c46_69 : vlk 46 69 = some (77, 84, 0, 0, 72) := by decide +kernel
theorem c46_72 : vlk 46 72 = some (6, 3, 0, 0, 73) := by decide +kernel
theorem c46_73 : vlk 46 73 = some (6, 6, 0, 0, 75) := by decide +kernel
theorem c46_75 : vlk 46 75 = some (4, 5, 0, 0, 77) := by decide +kernel
theorem c46_77 : vlk 46 77 = some (16, 0, 0, 0, 78) := by decide +kernel
theorem c46_78 : vlk 46 78 = some (58, 15, 0, 0, 81) := by decide +kernel
theorem c46_81 : vlk 46 81 = some (37, 122, 0, 0, 84) := by decide +kernel
theorem c46_84 : vlk 46 84 = some (4, 1, 0, 0, 85) := by decide +kernel
theorem c46_85 : vlk 46 85 = some (1, 0, 0, 112, 87) := by decide +kernel
theorem c46_87 : vlk 46 87 = some (77, 101, 0, 0, 90) := by decide +kernel
theorem c46_90 : vlk 46 90 = some (6, 3, 0, 0, 91) := by decide +kernel
theorem c46_91 : vlk 46 91 = some (6, 6, 0, 0, 93) := by decide +kernel
theorem c46_93 : vlk 46 93 = some (4, 5, 0, 0, 95) := by decide +kernel
theorem c46_95 : vlk 46 95 = some (58, 16, 0, 0, 98) := by decide +kernel
theorem c46_98 : vlk 46 98 = some (37, 122, 0, 0, 101) := by decide +kernel
theorem c46_101 : vlk 46 101 = some (6, 3, 0, 0, 102) := by decide +kernel
theorem c46_102 : vlk 46 102 = some (6, 6, 0, 0, 104) := by decide +kernel
theorem c46_104 : vlk 46 104 = some (58, 5, 0, 0, 107) := by decide +kernel
theorem c46_107 : vlk 46 107 = some (6, 3, 0, 0, 108) := by decide +kernel
theorem c46_108 : vlk 46 108 = some (6, 6, 0, 0, 110) := by decide +kernel
theorem c46_110 : vlk 46 110 = some (1, 0, 0, 0, 111) := by decide +kernel
theorem c46_111 : vlk 46 111 = some (1, 0, 0, 719, 114) := by decide +kernel
theorem c46_114 : vlk 46 114 = some (4, 5, 0, 0, 116) := by decide +kernel
theorem c46_116 : vlk 46 116 = some (58, 12, 0, 0, 119) := by decide +kernel
theorem c46_119 : vlk 46 119 = some (58, 3, 0, 0, 122) := by decide +kernel
theorem c46_122 : vlk 46 122 = some (1, 0, 0, 1, 123) := by decide +kernel
theorem c46_123 : vlk 46 123 = some (63, 1, 0, 0, 124) := by decide +kernel
theorem c47_0 : vlk 47 0 = some (6, 0, 0, 0, 1) := by decide +kernel
theorem c47_1 : vlk 47 1 = some (4, 1, 0, 0, 2) := by decide +kernel
theorem c47_2 : vlk 47 2 = some (6, 3, 0, 0, 3) := by decide +kernel
theorem c47_3 : vlk 47 3 = some (58, 48, 0, 0, 6) := by decide +kernel
theorem c47_6 : vlk 47 6 = some (9, 4, 0, 0, 8) := by decide +kernel
theorem c47_8 : vlk 47 8 = some (6, 4, 0, 0, 10) := by decide +kernel
theorem c47_10 : vlk 47 10 = some (41, 15, 0, 0, 13) := by decide +kernel
theorem c47_13 : vlk 47 13 = some (1, 0, 0, 0, 14) := by decide +kernel
theorem c47_14 : vlk 47 14 = some (63, 1, 0, 0, 15) := by decide +kernel
theorem c47_15 : vlk 47 15 = some (6, 2, 0, 0, 16) := by decide +kernel
theorem c47_16 : vlk 47 16 = some (6, 4, 0, 0, 18) := by decide +kernel
theorem c47_18 : vlk 47 18 = some (58, 5, 0, 0, 21) := by decide +kernel
theorem c47_21 : vlk 47 21 = some (1, 0, 0, 1, 22) := by decide +kernel
theorem c47_22 : vlk 47 22 = some (63, 1, 0, 0, 23) := by decide +kernel
theorem c48_0 : vlk 48 0 = some (4, 1, 0, 0, 1) := by decide +kernel
theorem c48_1 : vlk 48 1 = some (1, 0, 0, 5, 2) := by decide +kernel
theorem c48_2 : vlk 48 2 = some (79, 14, 0, 0, 5) := by decide +kernel
theorem c48_5 : vlk 48 5 = some (6, 0, 0, 0, 6) := by decide +kernel
theorem c48_6 : vlk 48 6 = some (1, 0, 0, 40, 8) := by decide +kernel
theorem c48_8 : vlk 48 8 = some (58, 37, 0, 0, 11) := by decide +kernel
theorem c48_11 : vlk 48 11 = some (71, 16, 0, 0, 14) := by decide +kernel
theorem c48_14 : vlk 48 14 = some (3, 0, 0, 0, 15) := by decide +kernel
theorem c48_15 : vlk 48 15 = some (65, 0, 0, 0, 16) := by decide +kernel
theorem c48_16 : vlk 48 16 = some (6, 0, 0, 0, 17) := by decide +kernel
theorem c48_17 : vlk 48 17 = some (4, 1, 0, 0, 18) := by decide +kernel
theorem c48_18 : vlk 48 18 = some (1, 0, 0, 1, 19) := by decide +kernel
theorem c48_19 : vlk 48 19 = some (11, 0, 0, 0, 20) := by decide +kernel
theorem c48_20 : vlk 48 20 = some (6, 2, 0, 0, 21) := by decide +kernel
theorem c48_21 : vlk 48 21 = some (58, 38, 0, 0, 24) := by decide +kernel
theorem c48_24 : vlk 48 24 = some (9, 3, 0, 0, 25) := by decide +kernel
theorem c48_25 : vlk 48 25 = some (6, 3, 0, 0, 26) := by decide +kernel
theorem c48_26 : vlk 48 26 = some (40, 42, 0, 0, 29) := by decide +kernel
theorem c48_29 : vlk 48 29 = some (6, 0, 0, 0, 30) := by decide +kernel
theorem c48_30 : vlk 48 30 = some (1, 0, 0, 41, 32) := by decide +kernel
theorem c48_32 : vlk 48 32 = some (58, 37, 0, 0, 35) := by decide +kernel
theorem c48_35 : vlk 48 35 = some (70, 42, 0, 0, 38) := by decide +kernel
theorem c48_38 : vlk 48 38 = some (6, 3, 0, 0, 39) := by decide +kernel
theorem c48_39 : vlk 48 39 = some (37, 43, 0, 0, 42) := by decide +kernel
theorem c48_42 : vlk 48 42 = some (3, 0, 0, 0, 43) := by decide +kernel
theorem c48_43 : vlk 48 43 = some (65, 0, 0, 0, 44) := by decide +kernel
/-! Reader: brackets and what has one, on the machine -/
def vXd (r dep q : Nat) : Prop := q = r ∨ (r + 5 + 6 * dep ≤ q ∧ q < r + 41)
def vKs (d : Nat) (r n : Nat) (t : Nat → Int) (pr : Nat) (pa : Nat → Nat) (D : Nat → vSt1) (dep e : Nat) : Prop := ∀ (h : vHp) (pl : Nat) (Q : vQ), vPx h r n t pr pa D pl → pl ≤ n → ((vex n t D e pl).2 = none → ∀ h', vPx h' r n t pr pa D (vex n t D e pl).1 → vFr (vXd r dep) h h' → Q (some .null) h') → (∀ S, (vex n t D e pl).2 = some S → ∀ h', vPx h' r n t pr pa D (vex n t D e pl).1 → vDy h' (r + 5 + 2 * (3 * dep)) S → vFr (vXd r dep) h h' → Q (some (.ref (r + 5 + 2 * (3 * dep)))) h') → vCall d 0 0 38 [.ref r, .int (iI (dep : Int)), .ref pr] h Q
theorem vXd_r {r dep : Nat} {h h1 : vHp} (f : vFr (fun q => q = r) h h1) : vFr (vXd r dep) h h1 := vFr_up f (fun q e => Or.inl e)
def vXf (r dep q : Nat) : Prop := q = r ∨ (r + 5 + 6 * dep + 4 ≤ q ∧ q < r + 41)
theorem vXf_r {r dep : Nat} {h h1 : vHp} (f : vFr (fun q => q = r) h h1) : vFr (vXf r dep) h h1 := vFr_up f (fun q e => Or.inl e)
theorem vXf_j {r dep j : Nat} {h h1 : vHp} (e1 : 3 * dep + 2 ≤ j) (e2 : j < 18) (f : vFr (fun q => q = r + 5 + 2 * j + 1) h h1) : vFr (vXf r dep) h h1 := vFr_up f (fun q e => by unfold vXf; omega)
theorem vXf_s {r dep : Nat} {h h1 : vHp} (f : vFr (vXd r (dep + 1)) h h1) : vFr (vXf r dep) h h1 := vFr_up f (fun q e => by unfold vXd at e; unfold vXf; omega)
theorem k_bracket {r n pl pr : Nat} {t : Nat → Int} {pa : Nat → Nat} {D : Nat → vSt1} {d dep e : Nat} {h : vHp} {Q : vQ} (hP : vPx h r n t pr pa D pl) (hde : dep + 1 + e = 5) (ih : vKs (d + 3) r n t pr pa D (dep + 1) e) (hpl : pl ≤ n) (kN : (vbr n t (vex n t D e) pl).2 = none → ∀ h', vPx h' r n t pr pa D (vbr n t (vex n t D e) pl).1 → vFr (vXd r (dep + 1)) h h' → Q (some .null) h') (kS : ∀ S, (vbr n t (vex n t D e) pl).2 = some S → ∀ h', vPx h' r n t pr pa D (vbr n t (vex n t D e) pl).1 → vDy h' (r + 5 + 2 * (3 * (dep + 1))) S → vFr (vXd r (dep + 1)) h h' → Q (some (.ref (r + 5 + 2 * (3 * (dep + 1))))) h') : vCall (d + 4) 0 0 48 [.ref r, .int (iI (dep : Int)), .ref pr] h Q := by
  have ho := hP.1
  unfold vRo at ho
  have hn := hP.2.2.2.2.2.2.1.1
  refine vin 4 [_, _, _, _] ml_48 rfl rfl ?_
  refine r_iload c48_0 rfl (r_ci c48_1 ?_)
  refine r_icge c48_2 (by omega) (by omega) (by omega) (by omega) (fun q => by exfalso; omega) (fun c_2 => ?_)
  refine r_aload c48_5 rfl (r_ci c48_6 ?_)
  unfold vbr at kN kS
  refine r_iv1 c48_8 vr_37 ho rfl (k_take hP.1 hP.2.1.1 hP.2.2.2.2.2.2.1 (by omega) hP.2.2.2.2.2.1 (by omega) (by omega) (fun q h1 ho1 f1 => ?_) (fun q => ?_))
  · rw [if_pos q] at kN kS
    have hl := vch_lt (n := n) (t := t) (p := pl) (by omega)
    have hP1 := vPx_pl hP ho1 f1
    have vok1 := vex_ok (t := t) (D := D) e (pl + 1) hl
    dsimp only [vpush]
    refine r_ifne c48_11 (by omega) (by omega) (fun c_11 => ?_) (fun q => by exfalso; omega)
    refine r_aload c48_16 rfl (r_iload c48_17 rfl (r_ci c48_18 (r_iadd c48_19 (r_aload c48_20 rfl ?_))))
    rw [vsu]
    have ho1' := ho1
    unfold vRo at ho1'
    unfold vth at kN kS
    refine r_iv2 c48_21 vr_38 ho1' rfl (ih h1 (pl + 1) _ hP1 hl (fun e1 h2 hP2 f2 => ?_) (fun S e1 h2 hP2 hS2 f2 => ?_))
    · dsimp only [vpush]
      rw [e1] at kN
      refine r_astoreN c48_24 rfl (r_aloadN c48_25 rfl ?_)
      try dsimp only [vst]
      refine r_ifnullN c48_26 ?_
      refine r_null c48_42 ?_
      refine r_aretN (st := []) c48_43 ?_
      exact kN rfl h2 hP2 (vFr_tr (vXd_r f1) f2)
    · dsimp only [vpush]
      rw [e1] at kN kS
      dsimp only at kN kS
      have ho2 := hP2.1
      unfold vRo at ho2
      refine r_astore c48_24 rfl (r_aload c48_25 rfl ?_)
      try dsimp only [vst]
      refine r_ifnullR c48_26 ?_
      refine r_aload c48_29 rfl (r_ci c48_30 ?_)
      refine r_iv1 c48_32 vr_37 ho2 rfl (k_take hP2.1 hP2.2.1.1 hP2.2.2.2.2.2.2.1 (by have := vok1.2.1; omega) hP2.2.2.2.2.2.1 (by omega) (by omega) (fun q2 h3 ho3 f3 => ?_) (fun q2 => ?_))
      · dsimp only [vpush]
        rw [if_pos q2] at kS
        refine r_ifeq c48_35 (by omega) (by omega) (fun q => by exfalso; omega) (fun c_35 => ?_)
        refine r_aload c48_38 rfl (r_goto c48_39 ?_)
        refine r_aret (st := []) c48_43 ?_
        exact kS S rfl h3 (vPx_pl hP2 ho3 f3) (vDy_fr hS2 f3 (by omega) (by omega)) (vFr_tr (vFr_tr (vXd_r f1) f2) (vXd_r f3))
      · dsimp only [vpush]
        rw [if_neg q2] at kN
        refine r_ifeq c48_35 (by omega) (by omega) (fun c_35 => ?_) (fun q => by exfalso; omega)
        refine r_null c48_42 ?_
        refine r_aretN (st := []) c48_43 ?_
        exact kN rfl h2 hP2 (vFr_tr (vXd_r f1) f2)
  · rw [if_neg q] at kN
    dsimp only [vpush]
    refine r_ifne c48_11 (by omega) (by omega) (fun q => by exfalso; omega) (fun c_11 => ?_)
    refine r_null c48_14 ?_
    refine r_aretN (st := []) c48_15 ?_
    exact kN rfl h hP vFr_rf
theorem k_inner {r n pl pr : Nat} {t : Nat → Int} {pa : Nat → Nat} {D : Nat → vSt1} {d dep e : Nat} {h : vHp} {Q : vQ} (hP : vPx h r n t pr pa D pl) (hde : dep + 1 + e = 5) (ih : vKs (d + 3) r n t pr pa D (dep + 1) e) (hpl : pl ≤ n) (kN : (vbr n t (vex n t D e) pl).2 = none → ∀ h', vPx h' r n t pr pa D (vbr n t (vex n t D e) pl).1 → vFr (vXf r dep) h h' → Q (some (.int (iI 0))) h') (kS : ∀ S, (vbr n t (vex n t D e) pl).2 = some S → ∀ h', vPx h' r n t pr pa D (vbr n t (vex n t D e) pl).1 → vDy h' (r + 5 + 2 * (3 * dep + 2)) S → vFr (vXf r dep) h h' → Q (some (.int (iI 1))) h') : vCall (d + 5) 0 0 47 [.ref r, .int (iI (dep : Int)), .ref (r + 5 + 2 * (3 * dep + 2)), .ref pr] h Q := by
  have ho := hP.1
  unfold vRo at ho
  refine vin 5 [_, _, _, _, _] ml_47 rfl rfl ?_
  refine r_aload c47_0 rfl (r_iload c47_1 rfl (r_aload c47_2 rfl ?_))
  refine r_iv2 c47_3 vr_48 ho rfl (k_bracket hP hde ih hpl (fun e1 h2 hP2 f2 => ?_) (fun S e1 h2 hP2 hS2 f2 => ?_))
  · dsimp only [vpush]
    refine r_astoreN c47_6 rfl (r_aloadN c47_8 rfl ?_)
    try dsimp only [vst]
    refine r_ifnonN c47_10 ?_
    refine r_ci c47_13 ?_
    refine r_zret (st := []) c47_14 (by omega) ?_
    exact kN e1 h2 hP2 (vXf_s f2)
  · dsimp only [vpush]
    refine r_astore c47_6 rfl (r_aload c47_8 rfl ?_)
    try dsimp only [vst]
    refine r_ifnonR c47_10 ?_
    obtain ⟨S0, hS0⟩ := hP2.2.2.1 (3 * dep + 2) (by omega)
    refine r_aload c47_15 rfl (r_aload c47_16 rfl ?_)
    refine r_iv1 c47_18 vr_5 hS0.1 rfl (k_become hS0 hS2 (by have := hP2.2.2.2.2.2.1; omega) (fun h3 hS3 f3 => ?_))
    dsimp only [vpush]
    refine r_ci c47_21 ?_
    refine r_zret (st := []) c47_22 (by omega) ?_
    exact kS S e1 h3 (vPx_dy hP2 (by omega) hS3 f3) hS3 (vFr_tr (vXf_s f2) (vXf_j (dep := dep) (j := 3 * dep + 2) (by omega) (by omega) f3))
theorem k_blocks {r n pl pr : Nat} {t : Nat → Int} {pa : Nat → Nat} {D : Nat → vSt1} {d dep e : Nat} {c : Int} {h : vHp} {Q : vQ} (hP : vPx h r n t pr pa D pl) (hde : dep + 1 + e = 5) (ih : vKs (d + 4) r n t pr pa D (dep + 1) e) (hpl : pl ≤ n) (hc : c = 110 ∨ c = 108) (kN : (vpb n t (vex n t D e) c pl).2 = none → ∀ h', vPx h' r n t pr pa D (vpb n t (vex n t D e) c pl).1 → vFr (vXf r dep) h h' → Q (some (.int (iI 0))) h') (kS : ∀ S, (vpb n t (vex n t D e) c pl).2 = some S → ∀ h', vPx h' r n t pr pa D (vpb n t (vex n t D e) c pl).1 → vDy h' (r + 5 + 2 * (3 * dep + 2)) S → vFr (vXf r dep) h h' → Q (some (.int (iI 1))) h') : vCall (d + 6) 0 0 45 [.ref r, .int (iI c), .int (iI (dep : Int)), .ref (r + 5 + 2 * (3 * dep + 2)), .ref pr] h Q := by
  have ho := hP.1
  unfold vRo at ho
  have hT := hP.2.2.2.2.2.2.1
  have hn := hT.1
  have hmo : vmo c = 99 := by rcases hc with rfl | rfl <;> decide
  have rg := vnm_rg (n := n) (t := t) (lo := 1) (hi := 99) (p := pl) hpl
  refine vin 8 [_, _, _, _, _, _, _, _] ml_45 rfl rfl ?_
  refine r_aload c45_0 rfl (r_ci c45_1 (r_iload c45_2 rfl ?_))
  refine r_is1 c45_3 vr_50 rfl (k_mostOf (by omega) (by omega) ?_)
  dsimp only [vpush]
  rw [hmo]
  unfold vpb at kN kS
  refine r_iv2 c45_6 vr_49 ho rfl (k_number hP.1 hP.2.1.1 hT (by omega) hP.2.2.2.2.2.1 (by omega) (by omega) (by omega) (by omega) (fun h1 ho1 f1 => ?_))
  dsimp only [vpush]
  have hP1 := vPx_pl hP ho1 f1
  generalize (vnm n t 1 99 pl).2 = z at *
  generalize (vnm n t 1 99 pl).1 = p1 at *
  refine r_istore c45_9 rfl (r_iload c45_11 rfl (r_ci c45_13 ?_))
  try dsimp only [vst]
  refine r_icne c45_14 (by omega) (by omega) (by omega) (by omega) (fun c_14 => ?_) (fun c_14 => ?_)
  · rw [if_neg c_14] at kN kS
    have ho1' := ho1
    unfold vRo at ho1'
    have hrg := vch_rg hT p1
    refine r_aload c45_19 rfl ?_
    refine r_iv0 c45_20 vr_36 ho1' rfl (k_here hP1.1 hP1.2.1.1 hT (by omega) ?_)
    dsimp only [vpush]
    refine r_is1 c45_23 vr_51 rfl (k_blockOf (by omega) (by omega) ?_)
    dsimp only [vpush]
    have hbr : (vbo (vch n t p1) = -1 ∨ (vbo (vch n t p1) = 0 ∨ vbo (vch n t p1) = 1 ∨ vbo (vch n t p1) = 2) ∧ 0 ≤ vch n t p1) := by
      unfold vbo
      split
      · omega
      · split
        · omega
        · split <;> omega
    generalize hbg : vbo (vch n t p1) = b at *
    refine r_istore c45_26 rfl (r_iload c45_28 rfl ?_)
    try dsimp only [vst]
    refine r_isN1 c45_30 vr_91 rfl (k_isBlock hP1.2.2.2.2.1 (by omega) (by omega) (fun b1 b2 => ?_) (fun b1 => ?_))
    · dsimp only [vpush]
      rw [if_neg (by omega)] at kN kS
      have hl := vch_lt (n := n) (t := t) (p := p1) (by omega)
      refine r_ifne c45_33 (by omega) (by omega) (fun c_33 => ?_) (fun q => by exfalso; omega)
      refine r_aload c45_38 rfl (r_dup c45_39 rfl (r_get c45_40 ho1' rfl (r_ci c45_43 (r_iadd c45_44 ?_))))
      refine r_put c45_45 ho1' hP1.2.2.2.2.2.1 rfl ⟨rfl, rfl⟩ (fun h2 s2 => ?_)
      rw [vsu] at s2
      have hP2 := vPx_pl hP1 (vRo_st s2) (vFr_st s2)
      have f12 := vFr_tr f1 (vFr_st s2)
      have ho2 := hP2.1
      unfold vRo at ho2
      refine r_aload c45_48 rfl (r_iload c45_49 rfl (r_aload c45_50 rfl ?_))
      unfold vth at kN kS
      refine r_iv2 c45_52 vr_48 ho2 rfl (k_bracket (d := d + 1) hP2 hde ih hl (fun e1 h3 hP3 f3 => ?_) (fun S e1 h3 hP3 hS3 f3 => ?_))
      · dsimp only [vpush]
        rw [e1] at kN
        refine r_astoreN c45_55 rfl (r_aloadN c45_57 rfl ?_)
        try dsimp only [vst]
        refine r_ifnonN c45_59 ?_
        refine r_ci c45_62 ?_
        refine r_zret (st := []) c45_63 (by omega) ?_
        exact kN rfl h3 hP3 (vFr_tr (vXf_r f12) (vXf_s f3))
      · dsimp only [vpush]
        rw [e1] at kS
        refine r_astore c45_55 rfl (r_aload c45_57 rfl ?_)
        try dsimp only [vst]
        refine r_ifnonR c45_59 ?_
        obtain ⟨S0, hS0⟩ := hP3.2.2.1 (3 * dep + 2) (by omega)
        have hl3 : h3.1.1 ≤ r + 5 + 2 * (3 * dep + 2) := by have := hP3.2.2.2.2.2.1; omega
        refine r_aload c45_64 rfl ?_
        refine r_iv0 c45_65 vr_4 hS0.1 rfl (k_wipe hS0 hl3 (fun h4 hS4 f4 => ?_))
        dsimp only [vpush]
        have hP4 := vPx_dy hP3 (by omega) hS4 f4
        have hI4 := vDy_fr hS3 f4 (by omega) (by omega)
        obtain ⟨⟨fb, fb1, fb2, fb3, fb4⟩, -⟩ := hP4.2.2.2.2.1
        have eL : fb b.toNat = ((vbL b : Nat) : Int) := by
          have : b = 0 ∨ b = 1 ∨ b = 2 := by omega
          rcases this with e | e | e <;> rw [e] <;> simp [vbL, fb2, fb3, fb4]
        have bL : 0 < vbL b ∧ vbL b ≤ 360 := by unfold vbL; split; omega; split <;> omega
        have fin : ∀ k : Int, k = (if c = 110 then z - 1 else -z) → vW (vCall (d + 5)) 45 Q 93 [.ref r, .int (iI c), .int (iI (dep : Int)), .ref (r + 5 + 2 * (3 * dep + 2)), .ref pr, .int (iI z), .int (iI b), .ref (r + 5 + 2 * (3 * (dep + 1)))] [.int (iI k), .int (iI ((vbL b : Nat) : Int)), .ref (r + 5 + 2 * (3 * (dep + 1))), .ref (r + 5 + 2 * (3 * dep + 2))] h4 0 0 := by
          intro k hk
          have hkr : -1000 ≤ k ∧ k ≤ 1000 := by rw [hk]; split <;> omega
          refine r_iv3 c45_93 vr_17 hS4.1 rfl (k_addOfBlocks hS4 hI4 (by omega) (by rw [f4.1]; exact hl3) bL.1 bL.2 hkr.1 hkr.2 (fun h5 hS5 f5 => ?_))
          dsimp only [vpush]
          refine r_ci c45_96 ?_
          refine r_zret (st := []) c45_97 (by omega) ?_
          refine kS _ rfl h5 (vPx_dy hP4 (by omega) hS5 f5) (vDy_cg hS5 (fun m hm => ?_)) (vFr_tr (vFr_tr (vFr_tr (vXf_r f12) (vXf_s f3)) (vXf_j (dep := dep) (j := 3 * dep + 2) (by omega) (by omega) f4)) (vXf_j (dep := dep) (j := 3 * dep + 2) (by omega) (by omega) f5))
          unfold vbs
          rw [hk, Bool.false_or]
        refine r_aload c45_68 rfl (r_aload c45_69 rfl (r_gets c45_71 (r_iload c45_74 rfl (r_iald c45_76 fb1 (by omega) (by omega) (r_iload c45_77 rfl (r_ci c45_78 ?_))))))
        rw [eL]
        refine r_icne c45_80 (by omega) (by omega) (by omega) (by omega) (fun c_80 => ?_) (fun c_80 => ?_)
        · refine r_iload c45_90 rfl (r_ineg c45_92 ?_)
          exact fin _ (if_neg c_80).symm
        · refine r_iload c45_83 rfl (r_ci c45_85 (r_isub c45_86 (r_goto c45_87 ?_)))
          exact fin _ (if_pos c_80).symm
    · dsimp only [vpush]
      rw [if_pos (by omega)] at kN
      refine r_ifne c45_33 (by omega) (by omega) (fun q => by exfalso; omega) (fun c_33 => ?_)
      refine r_ci c45_36 ?_
      refine r_zret (st := []) c45_37 (by omega) ?_
      exact kN rfl h1 hP1 (vXf_r f1)
  · rw [if_pos c_14] at kN
    refine r_ci c45_17 ?_
    refine r_zret (st := []) c45_18 (by omega) ?_
    exact kN rfl h1 hP1 (vXf_r f1)
theorem k_changed {r n pl pr : Nat} {t : Nat → Int} {pa : Nat → Nat} {D : Nat → vSt1} {d dep e : Nat} {c : Int} {h : vHp} {Q : vQ} (hP : vPx h r n t pr pa D pl) (hde : dep + 1 + e = 5) (ih : vKs (d + 4) r n t pr pa D (dep + 1) e) (hpl : pl ≤ n) (hc : c = 115 ∨ c = 98 ∨ c = 112 ∨ c = 120) (kN : (vpc n t (vex n t D e) c pl).2 = none → ∀ h', vPx h' r n t pr pa D (vpc n t (vex n t D e) c pl).1 → vFr (vXf r dep) h h' → Q (some (.int (iI 0))) h') (kS : ∀ S, (vpc n t (vex n t D e) c pl).2 = some S → ∀ h', vPx h' r n t pr pa D (vpc n t (vex n t D e) c pl).1 → vDy h' (r + 5 + 2 * (3 * dep + 2)) S → vFr (vXf r dep) h h' → Q (some (.int (iI 1))) h') : vCall (d + 6) 0 0 46 [.ref r, .int (iI c), .int (iI (dep : Int)), .ref (r + 5 + 2 * (3 * dep + 2)), .ref pr] h Q := by
  have ho := hP.1
  unfold vRo at ho
  have hT := hP.2.2.2.2.2.2.1
  have hn := hT.1
  have hmo : vmo c ≤ 719 ∧ 0 ≤ vmo c := by rcases hc with rfl | rfl | rfl | rfl <;> decide
  have main : ∀ x5 x6 : Value, vW (vCall (d + 5)) 46 Q 12 [.ref r, .int (iI c), .int (iI (dep : Int)), .ref (r + 5 + 2 * (3 * dep + 2)), .ref pr, x5, x6] [.int (iI (if c = 120 then (0 : Int) else 1)), .ref r] h 0 0 := by
    intro x5 x6
    have hq1 : (if c = 120 then (0 : Int) else 1) = 0 ∨ (if c = 120 then (0 : Int) else 1) = 1 := by split <;> simp
    have hq2 : c ≠ 120 → (if c = 120 then (0 : Int) else 1) = 1 := fun e => if_neg e
    have rg := vnm_rg (n := n) (t := t) (lo := (if c = 120 then (0 : Int) else 1)) (hi := vmo c) (p := pl) hpl
    refine r_iload c46_12 rfl ?_
    refine r_is1 c46_13 vr_50 rfl (k_mostOf (by omega) (by omega) ?_)
    dsimp only [vpush]
    unfold vpc at kN kS
    generalize (if c = 120 then (0 : Int) else 1) = q0 at *
    refine r_iv2 c46_16 vr_49 ho rfl (k_number hP.1 hP.2.1.1 hT (by omega) hP.2.2.2.2.2.1 (by omega) (by omega) (by omega) (by omega) (fun h1 ho1 f1 => ?_))
    dsimp only [vpush]
    have hP1 := vPx_pl hP ho1 f1
    generalize (vnm n t q0 (vmo c) pl).2 = z at *
    generalize (vnm n t q0 (vmo c) pl).1 = p1 at *
    refine r_istore c46_19 rfl (r_iload c46_21 rfl (r_ci c46_23 ?_))
    try dsimp only [vst]
    refine r_icne c46_24 (by omega) (by omega) (by omega) (by omega) (fun c_24 => ?_) (fun c_24 => ?_)
    · rw [if_neg c_24] at kN kS
      have ho1' := ho1
      unfold vRo at ho1'
      refine r_aload c46_29 rfl (r_iload c46_30 rfl (r_aload c46_31 rfl ?_))
      unfold vth at kN kS
      refine r_iv2 c46_33 vr_48 ho1' rfl (k_bracket (d := d + 1) hP1 hde ih rg.2.2 (fun e1 h3 hP3 f3 => ?_) (fun S e1 h3 hP3 hS3 f3 => ?_))
      · dsimp only [vpush]
        rw [e1] at kN
        refine r_astoreN c46_36 rfl (r_aloadN c46_38 rfl ?_)
        try dsimp only [vst]
        refine r_ifnonN c46_40 ?_
        refine r_ci c46_43 ?_
        refine r_zret (st := []) c46_44 (by omega) ?_
        exact kN rfl h3 hP3 (vFr_tr (vXf_r f1) (vXf_s f3))
      · dsimp only [vpush]
        rw [e1] at kS
        refine r_astore c46_36 rfl (r_aload c46_38 rfl ?_)
        try dsimp only [vst]
        refine r_ifnonR c46_40 ?_
        obtain ⟨S0, hS0⟩ := hP3.2.2.1 (3 * dep + 2) (by omega)
        have hl3 : h3.1.1 ≤ r + 5 + 2 * (3 * dep + 2) := by have := hP3.2.2.2.2.2.1; omega
        refine r_aload c46_45 rfl ?_
        refine r_iv0 c46_46 vr_4 hS0.1 rfl (k_wipe hS0 hl3 (fun h4 hS4 f4 => ?_))
        dsimp only [vpush]
        have hP4 := vPx_dy hP3 (by omega) hS4 f4
        have hI4 := vDy_fr hS3 f4 (by omega) (by omega)
        have hl4 : h4.1.1 ≤ r + 5 + 2 * (3 * dep + 2) := by rw [f4.1]; exact hl3
        have ff4 := vFr_tr (vFr_tr (vXf_r f1) (vXf_s f3)) (vXf_j (dep := dep) (j := 3 * dep + 2) (by omega) (by omega) f4)
        have fin : ∀ (h5 : vHp) (T : vSt1), vDy h5 (r + 5 + 2 * (3 * dep + 2)) T → vFr (fun q => q = r + 5 + 2 * (3 * dep + 2) + 1) h4 h5 → (∀ m, m < 720 → T m = vcs c z S m) → vW (vCall (d + 5)) 46 Q 122 [.ref r, .int (iI c), .int (iI (dep : Int)), .ref (r + 5 + 2 * (3 * dep + 2)), .ref pr, .int (iI z), .ref (r + 5 + 2 * (3 * (dep + 1)))] [] h5 0 0 := by
          intro h5 T hS5 f5 he
          refine r_ci c46_122 ?_
          refine r_zret (st := []) c46_123 (by omega) ?_
          exact kS _ rfl h5 (vPx_dy hP4 (by omega) hS5 f5) (vDy_cg hS5 he) (vFr_tr ff4 (vXf_j (dep := dep) (j := 3 * dep + 2) (by omega) (by omega) f5))
        refine r_iload c46_49 rfl (r_ci c46_50 ?_)
        refine r_icne c46_52 (by omega) (by omega) (by omega) (by omega) (fun c_52 => ?_) (fun c_52 => ?_)
        · refine r_iload c46_66 rfl (r_ci c46_67 ?_)
          refine r_icne c46_69 (by omega) (by omega) (by omega) (by omega) (fun c_69 => ?_) (fun c_69 => ?_)
          · refine r_iload c46_84 rfl (r_ci c46_85 ?_)
            refine r_icne c46_87 (by omega) (by omega) (by omega) (by omega) (fun c_87 => ?_) (fun c_87 => ?_)
            · have ec : c = 120 := by omega
              refine r_aload c46_101 rfl (r_aload c46_102 rfl ?_)
              refine r_iv1 c46_104 vr_5 hS4.1 rfl (k_become hS4 hI4 hl4 (fun h5 hS5 f5 => ?_))
              dsimp only [vpush]
              have hI5 := vDy_fr hI4 f5 (by omega) (by omega)
              have hvp := vpk_range S 0 719 z
              refine r_aload c46_107 rfl (r_aload c46_108 rfl (r_ci c46_110 (r_ci c46_111 (r_iload c46_114 rfl ?_))))
              refine r_iv3 c46_116 vr_12 hI5.1 rfl (k_pick (lo := 0) (hi := 719) hI5 (by omega) (by omega) (by omega) (by omega) ?_)
              dsimp only [vpush]
              refine r_iv1 c46_119 vr_3 hS5.1 rfl (k_remove hS5 (vFr_lo f5 hl4) (by omega) (by omega) (fun h6 hS6 f6 => ?_))
              dsimp only [vpush]
              refine fin h6 _ hS6 (vFr_tr f5 f6) (fun m hm => ?_)
              unfold vcs
              rw [if_neg c_52, if_neg c_69, if_neg c_87]
            · obtain ⟨k, rfl⟩ := Int.eq_ofNat_of_zero_le (show 0 ≤ z by omega)
              refine r_aload c46_90 rfl (r_aload c46_91 rfl (r_iload c46_93 rfl ?_))
              refine r_iv2 c46_95 vr_16 hS4.1 rfl (k_addEachNth hS4 hI4 (by omega) hl4 (by omega) (by omega) (fun h5 hS5 f5 => ?_))
              dsimp only [vpush]
              refine r_goto c46_98 ?_
              refine fin h5 _ hS5 f5 (fun m hm => ?_)
              unfold vcs
              rw [if_neg c_52, if_neg c_69, if_pos c_87, Bool.false_or, Int.toNat_natCast]
          · refine r_aload c46_72 rfl (r_aload c46_73 rfl (r_iload c46_75 rfl (r_ineg c46_77 ?_)))
            refine r_iv2 c46_78 vr_15 hS4.1 rfl (k_addMoved hS4 hI4 (by omega) hl4 (by omega) (by omega) (fun h5 hS5 f5 => ?_))
            dsimp only [vpush]
            refine r_goto c46_81 ?_
            refine fin h5 _ hS5 f5 (fun m hm => ?_)
            unfold vcs
            rw [if_neg c_52, if_pos c_69, Bool.false_or]
        · refine r_aload c46_55 rfl (r_aload c46_56 rfl (r_iload c46_58 rfl ?_))
          refine r_iv2 c46_60 vr_15 hS4.1 rfl (k_addMoved hS4 hI4 (by omega) hl4 (by omega) (by omega) (fun h5 hS5 f5 => ?_))
          dsimp only [vpush]
          refine r_goto c46_63 ?_
          refine fin h5 _ hS5 f5 (fun m hm => ?_)
          unfold vcs
          rw [if_pos c_52, Bool.false_or]
    · rw [if_pos c_24] at kN
      refine r_ci c46_27 ?_
      refine r_zret (st := []) c46_28 (by omega) ?_
      exact kN rfl h1 hP1 (vXf_r f1)
  refine vin 7 [_, _, _, _, _, _, _] ml_46 rfl rfl ?_
  refine r_aload c46_0 rfl (r_iload c46_1 rfl (r_ci c46_2 ?_))
  refine r_icne c46_4 (by omega) (by omega) (by omega) (by omega) (fun c_4 => ?_) (fun c_4 => ?_)
  · refine r_ci c46_11 ?_
    rw [if_neg c_4] at main
    exact main _ _
  · refine r_ci c46_7 (r_goto c46_8 ?_)
    rw [if_pos c_4] at main
    exact main _ _
end
section
theorem ml_40 : vml 40 = 5 := by decide +kernel
theorem ml_41 : vml 41 = 5 := by decide +kernel
theorem vr_9 : vrc 9 = some (0, 0) := by decide +kernel
theorem vr_41 : vrc 41 = some (3, 3) := by decide +kernel
theorem vr_42 : vrc 42 = some (3, 1) := by decide +kernel
theorem vr_43 : vrc 43 = some (3, 2) := by decide +kernel
theorem vr_44 : vrc 44 = some (3, 2) := by decide +kernel
theorem vr_45 : vrc 45 = some (3, 4) := by decide +kernel
theorem vr_46 : vrc 46 = some (3, 4) := by decide +kernel
theorem vr_47 : vrc 47 = some (3, 3) := by decide +kernel
theorem c40_0 : vlk 40 0 = some (6, 0, 0, 0, 1) := by decide +kernel
theorem c40_1 : vlk 40 1 = some (42, 3, 5, 0, 4) := by decide +kernel
theorem c40_4 : vlk 40 4 = some (4, 1, 0, 0, 5) := by decide +kernel
theorem c40_5 : vlk 40 5 = some (48, 0, 0, 0, 6) := by decide +kernel
theorem c40_6 : vlk 40 6 = some (9, 3, 0, 0, 7) := by decide +kernel
theorem c40_7 : vlk 40 7 = some (6, 0, 0, 0, 8) := by decide +kernel
theorem c40_8 : vlk 40 8 = some (1, 0, 0, 33, 10) := by decide +kernel
theorem c40_10 : vlk 40 10 = some (58, 37, 0, 0, 13) := by decide +kernel
theorem c40_13 : vlk 40 13 = some (7, 4, 0, 0, 15) := by decide +kernel
theorem c40_15 : vlk 40 15 = some (6, 0, 0, 0, 16) := by decide +kernel
theorem c40_16 : vlk 40 16 = some (4, 1, 0, 0, 17) := by decide +kernel
theorem c40_17 : vlk 40 17 = some (6, 3, 0, 0, 18) := by decide +kernel
theorem c40_18 : vlk 40 18 = some (6, 2, 0, 0, 19) := by decide +kernel
theorem c40_19 : vlk 40 19 = some (58, 41, 0, 0, 22) := by decide +kernel
theorem c40_22 : vlk 40 22 = some (71, 27, 0, 0, 25) := by decide +kernel
theorem c40_25 : vlk 40 25 = some (3, 0, 0, 0, 26) := by decide +kernel
theorem c40_26 : vlk 40 26 = some (65, 0, 0, 0, 27) := by decide +kernel
theorem c40_27 : vlk 40 27 = some (4, 4, 0, 0, 29) := by decide +kernel
theorem c40_29 : vlk 40 29 = some (70, 36, 0, 0, 32) := by decide +kernel
theorem c40_32 : vlk 40 32 = some (6, 3, 0, 0, 33) := by decide +kernel
theorem c40_33 : vlk 40 33 = some (58, 9, 0, 0, 36) := by decide +kernel
theorem c40_36 : vlk 40 36 = some (6, 3, 0, 0, 37) := by decide +kernel
theorem c40_37 : vlk 40 37 = some (65, 0, 0, 0, 38) := by decide +kernel
theorem c41_0 : vlk 41 0 = some (6, 0, 0, 0, 1) := by decide +kernel
theorem c41_1 : vlk 41 1 = some (58, 36, 0, 0, 4) := by decide +kernel
theorem c41_4 : vlk 41 4 = some (7, 4, 0, 0, 6) := by decide +kernel
theorem c41_6 : vlk 41 6 = some (4, 1, 0, 0, 7) := by decide +kernel
theorem c41_7 : vlk 41 7 = some (1, 0, 0, 5, 8) := by decide +kernel
theorem c41_8 : vlk 41 8 = some (78, 21, 0, 0, 11) := by decide +kernel
theorem c41_11 : vlk 41 11 = some (4, 4, 0, 0, 13) := by decide +kernel
theorem c41_13 : vlk 41 13 = some (59, 42, 0, 0, 16) := by decide +kernel
theorem c41_16 : vlk 41 16 = some (70, 21, 0, 0, 19) := by decide +kernel
theorem c41_19 : vlk 41 19 = some (1, 0, 0, 0, 20) := by decide +kernel
theorem c41_20 : vlk 41 20 = some (63, 1, 0, 0, 21) := by decide +kernel
theorem c41_21 : vlk 41 21 = some (4, 4, 0, 0, 23) := by decide +kernel
theorem c41_23 : vlk 41 23 = some (1, 0, 0, 40, 25) := by decide +kernel
theorem c41_25 : vlk 41 25 = some (77, 36, 0, 0, 28) := by decide +kernel
theorem c41_28 : vlk 41 28 = some (6, 0, 0, 0, 29) := by decide +kernel
theorem c41_29 : vlk 41 29 = some (4, 1, 0, 0, 30) := by decide +kernel
theorem c41_30 : vlk 41 30 = some (6, 2, 0, 0, 31) := by decide +kernel
theorem c41_31 : vlk 41 31 = some (6, 3, 0, 0, 32) := by decide +kernel
theorem c41_32 : vlk 41 32 = some (58, 47, 0, 0, 35) := by decide +kernel
theorem c41_35 : vlk 41 35 = some (63, 1, 0, 0, 36) := by decide +kernel
theorem c41_36 : vlk 41 36 = some (4, 4, 0, 0, 38) := by decide +kernel
theorem c41_38 : vlk 41 38 = some (1, 0, 0, 65, 40) := by decide +kernel
theorem c41_40 : vlk 41 40 = some (78, 76, 0, 0, 43) := by decide +kernel
theorem c41_43 : vlk 41 43 = some (4, 4, 0, 0, 45) := by decide +kernel
theorem c41_45 : vlk 41 45 = some (1, 0, 0, 74, 47) := by decide +kernel
theorem c41_47 : vlk 41 47 = some (80, 76, 0, 0, 50) := by decide +kernel
theorem c41_50 : vlk 41 50 = some (6, 0, 0, 0, 51) := by decide +kernel
theorem c41_51 : vlk 41 51 = some (34, 0, 0, 0, 52) := by decide +kernel
theorem c41_52 : vlk 41 52 = some (42, 3, 2, 0, 55) := by decide +kernel
theorem c41_55 : vlk 41 55 = some (1, 0, 0, 1, 56) := by decide +kernel
theorem c41_56 : vlk 41 56 = some (11, 0, 0, 0, 57) := by decide +kernel
theorem c41_57 : vlk 41 57 = some (43, 3, 2, 0, 60) := by decide +kernel
theorem c41_60 : vlk 41 60 = some (6, 2, 0, 0, 61) := by decide +kernel
theorem c41_61 : vlk 41 61 = some (6, 3, 0, 0, 62) := by decide +kernel
theorem c41_62 : vlk 41 62 = some (4, 4, 0, 0, 64) := by decide +kernel
theorem c41_64 : vlk 41 64 = some (1, 0, 0, 65, 66) := by decide +kernel
theorem c41_66 : vlk 41 66 = some (12, 0, 0, 0, 67) := by decide +kernel
theorem c41_67 : vlk 41 67 = some (48, 0, 0, 0, 68) := by decide +kernel
theorem c41_68 : vlk 41 68 = some (42, 2, 4, 0, 71) := by decide +kernel
theorem c41_71 : vlk 41 71 = some (58, 5, 0, 0, 74) := by decide +kernel
theorem c41_74 : vlk 41 74 = some (1, 0, 0, 1, 75) := by decide +kernel
theorem c41_75 : vlk 41 75 = some (63, 1, 0, 0, 76) := by decide +kernel
theorem c41_76 : vlk 41 76 = some (4, 4, 0, 0, 78) := by decide +kernel
theorem c41_78 : vlk 41 78 = some (67, 0, 0, 0, 188) := by decide +kernel
theorem c41_188 : vlk 41 188 = some (6, 0, 0, 0, 189) := by decide +kernel
theorem c41_189 : vlk 41 189 = some (34, 0, 0, 0, 190) := by decide +kernel
theorem c41_190 : vlk 41 190 = some (42, 3, 2, 0, 193) := by decide +kernel
theorem c41_193 : vlk 41 193 = some (1, 0, 0, 1, 194) := by decide +kernel
theorem c41_194 : vlk 41 194 = some (11, 0, 0, 0, 195) := by decide +kernel
theorem c41_195 : vlk 41 195 = some (43, 3, 2, 0, 198) := by decide +kernel
theorem c41_198 : vlk 41 198 = some (6, 0, 0, 0, 199) := by decide +kernel
theorem c41_199 : vlk 41 199 = some (4, 4, 0, 0, 201) := by decide +kernel
theorem c41_201 : vlk 41 201 = some (6, 2, 0, 0, 202) := by decide +kernel
theorem c41_202 : vlk 41 202 = some (58, 43, 0, 0, 205) := by decide +kernel
theorem c41_205 : vlk 41 205 = some (63, 1, 0, 0, 206) := by decide +kernel
theorem c41_206 : vlk 41 206 = some (6, 0, 0, 0, 207) := by decide +kernel
theorem c41_207 : vlk 41 207 = some (34, 0, 0, 0, 208) := by decide +kernel
theorem c41_208 : vlk 41 208 = some (42, 3, 2, 0, 211) := by decide +kernel
theorem c41_211 : vlk 41 211 = some (1, 0, 0, 1, 212) := by decide +kernel
theorem c41_212 : vlk 41 212 = some (11, 0, 0, 0, 213) := by decide +kernel
theorem c41_213 : vlk 41 213 = some (43, 3, 2, 0, 216) := by decide +kernel
theorem c41_216 : vlk 41 216 = some (6, 0, 0, 0, 217) := by decide +kernel
theorem c41_217 : vlk 41 217 = some (4, 4, 0, 0, 219) := by decide +kernel
theorem c41_219 : vlk 41 219 = some (6, 2, 0, 0, 220) := by decide +kernel
theorem c41_220 : vlk 41 220 = some (58, 44, 0, 0, 223) := by decide +kernel
theorem c41_223 : vlk 41 223 = some (63, 1, 0, 0, 224) := by decide +kernel
theorem c41_224 : vlk 41 224 = some (6, 0, 0, 0, 225) := by decide +kernel
theorem c41_225 : vlk 41 225 = some (34, 0, 0, 0, 226) := by decide +kernel
theorem c41_226 : vlk 41 226 = some (42, 3, 2, 0, 229) := by decide +kernel
theorem c41_229 : vlk 41 229 = some (1, 0, 0, 1, 230) := by decide +kernel
theorem c41_230 : vlk 41 230 = some (11, 0, 0, 0, 231) := by decide +kernel
theorem c41_231 : vlk 41 231 = some (43, 3, 2, 0, 234) := by decide +kernel
theorem c41_234 : vlk 41 234 = some (6, 0, 0, 0, 235) := by decide +kernel
theorem c41_235 : vlk 41 235 = some (4, 4, 0, 0, 237) := by decide +kernel
theorem c41_237 : vlk 41 237 = some (4, 1, 0, 0, 238) := by decide +kernel
theorem c41_238 : vlk 41 238 = some (6, 2, 0, 0, 239) := by decide +kernel
theorem c41_239 : vlk 41 239 = some (6, 3, 0, 0, 240) := by decide +kernel
theorem c41_240 : vlk 41 240 = some (58, 45, 0, 0, 243) := by decide +kernel
theorem c41_243 : vlk 41 243 = some (63, 1, 0, 0, 244) := by decide +kernel
theorem c41_244 : vlk 41 244 = some (6, 0, 0, 0, 245) := by decide +kernel
theorem c41_245 : vlk 41 245 = some (34, 0, 0, 0, 246) := by decide +kernel
theorem c41_246 : vlk 41 246 = some (42, 3, 2, 0, 249) := by decide +kernel
theorem c41_249 : vlk 41 249 = some (1, 0, 0, 1, 250) := by decide +kernel
theorem c41_250 : vlk 41 250 = some (11, 0, 0, 0, 251) := by decide +kernel
theorem c41_251 : vlk 41 251 = some (43, 3, 2, 0, 254) := by decide +kernel
theorem c41_254 : vlk 41 254 = some (6, 0, 0, 0, 255) := by decide +kernel
theorem c41_255 : vlk 41 255 = some (4, 4, 0, 0, 257) := by decide +kernel
theorem c41_257 : vlk 41 257 = some (4, 1, 0, 0, 258) := by decide +kernel
theorem c41_258 : vlk 41 258 = some (6, 2, 0, 0, 259) := by decide +kernel
theorem c41_259 : vlk 41 259 = some (6, 3, 0, 0, 260) := by decide +kernel
theorem c41_260 : vlk 41 260 = some (58, 46, 0, 0, 263) := by decide +kernel
theorem c41_263 : vlk 41 263 = some (63, 1, 0, 0, 264) := by decide +kernel
theorem c41_264 : vlk 41 264 = some (1, 0, 0, 0, 265) := by decide +kernel
theorem c41_265 : vlk 41 265 = some (63, 1, 0, 0, 266) := by decide +kernel
/-! Reader: factors -/
theorem vpn_B {n p : Nat} {t : Nat → Int} {D : Nat → vSt1} {f : Option (Nat → vPr)} (h : 65 ≤ vch n t p ∧ vch n t p ≤ 74) : vpn n t D f p = (p + 1, some (D (vch n t p - 65).toNat)) := by
  cases f with
  | none => unfold vpn; dsimp only; rw [if_neg (by omega), if_pos h]
  | some g => unfold vpn; dsimp only; rw [if_neg (by omega), if_pos h]
theorem vpn_U {n p : Nat} {t : Nat → Int} {D : Nat → vSt1} {f : Option (Nat → vPr)} (h : vch n t p = 119 ∨ vch n t p = 100 ∨ vch n t p = 109 ∨ vch n t p = 121) : vpn n t D f p = vpu n t (vch n t p) (p + 1) := by
  cases f with
  | none => unfold vpn; dsimp only; rw [if_neg (by omega), if_neg (by omega), if_pos h]
  | some g => unfold vpn; dsimp only; rw [if_neg (by omega), if_neg (by omega), if_pos h]
theorem vpn_P {n p : Nat} {t : Nat → Int} {D : Nat → vSt1} {f : Option (Nat → vPr)} (h : vch n t p = 101 ∨ vch n t p = 114) : vpn n t D f p = vpp n t (vch n t p) (p + 1) := by
  cases f with
  | none => unfold vpn; dsimp only; rw [if_neg (by omega), if_neg (by omega), if_neg (by omega), if_pos h]
  | some g => unfold vpn; dsimp only; rw [if_neg (by omega), if_neg (by omega), if_neg (by omega), if_pos h]
theorem vpn_0 {n p : Nat} {t : Nat → Int} {D : Nat → vSt1} {f : Option (Nat → vPr)} (h1 : ¬ vhb (vch n t p)) (h2 : ¬ (65 ≤ vch n t p ∧ vch n t p ≤ 74)) (h3 : ¬ (vch n t p = 119 ∨ vch n t p = 100 ∨ vch n t p = 109 ∨ vch n t p = 121)) (h4 : ¬ (vch n t p = 101 ∨ vch n t p = 114)) : vpn n t D f p = (p, none) := by
  unfold vhb at h1
  cases f with
  | none => unfold vpn; dsimp only; rw [if_neg h1, if_neg h2, if_neg h3, if_neg h4]
  | some g => unfold vpn; dsimp only; rw [if_neg (by omega), if_neg h2, if_neg h3, if_neg h4, if_neg (by omega), if_neg (by omega)]
theorem vpn_N {n p : Nat} {t : Nat → Int} {D : Nat → vSt1} (h1 : vhb (vch n t p)) : vpn n t D none p = (p, none) := by
  unfold vpn; dsimp only; exact if_pos h1
theorem k_plain {r n pl pr : Nat} {t : Nat → Int} {pa : Nat → Nat} {D : Nat → vSt1} {d dep : Nat} {f : Option (Nat → vPr)} {h : vHp} {Q : vQ} (hP : vPx h r n t pr pa D pl) (hd5 : dep ≤ 5) (hf : (dep = 5 ∧ f = none) ∨ ∃ e, dep + 1 + e = 5 ∧ f = some (vex n t D e) ∧ vKs (d + 4) r n t pr pa D (dep + 1) e) (hpl : pl ≤ n) (kN : (vpn n t D f pl).2 = none → ∀ h', vPx h' r n t pr pa D (vpn n t D f pl).1 → vFr (vXf r dep) h h' → Q (some (.int (iI 0))) h') (kS : ∀ S, (vpn n t D f pl).2 = some S → ∀ h', vPx h' r n t pr pa D (vpn n t D f pl).1 → vDy h' (r + 5 + 2 * (3 * dep + 2)) S → vFr (vXf r dep) h h' → Q (some (.int (iI 1))) h') : vCall (d + 7) 0 0 41 [.ref r, .int (iI (dep : Int)), .ref (r + 5 + 2 * (3 * dep + 2)), .ref pr] h Q := by
  have ho := hP.1
  unfold vRo at ho
  have hT := hP.2.2.2.2.2.2.1
  have hn := hT.1
  have hrg := vch_rg hT pl
  have hlo := hP.2.2.2.2.2.1
  have next : ∀ pc : Nat, 0 ≤ vch n t pl → pl + 1 ≤ n := fun _ q => vch_lt q
  obtain ⟨S0, hS0⟩ := hP.2.2.1 (3 * dep + 2) (by omega)
  have up : ∀ h2 h3 : vHp, vFr (fun q => q = r) h h2 → vFr (fun q => q = r ∨ q = r + 5 + 2 * (3 * dep + 2) + 1) h2 h3 → vFr (vXf r dep) h h3 := fun h2 h3 f2 f3 => vFr_tr (vXf_r f2) (vFr_up f3 (fun q e => by unfold vXf; omega))
  have from21 : (vhb (vch n t pl) → ∃ e, dep + 1 + e = 5 ∧ f = some (vex n t D e) ∧ vKs (d + 4) r n t pr pa D (dep + 1) e) → vW (vCall (d + 6)) 41 Q 21 [.ref r, .int (iI (dep : Int)), .ref (r + 5 + 2 * (3 * dep + 2)), .ref pr, .int (iI (vch n t pl))] [] h 0 0 := by
    intro hb
    refine r_iload c41_21 rfl (r_ci c41_23 ?_)
    refine r_icne c41_25 (by omega) (by omega) (by omega) (by omega) (fun c_25 => ?_) (fun c_25 => ?_)
    · refine r_iload c41_36 rfl (r_ci c41_38 ?_)
      have from76 : ¬ (65 ≤ vch n t pl ∧ vch n t pl ≤ 74) → vW (vCall (d + 6)) 41 Q 76 [.ref r, .int (iI (dep : Int)), .ref (r + 5 + 2 * (3 * dep + 2)), .ref pr, .int (iI (vch n t pl))] [] h 0 0 := by
        intro nB
        refine r_iload c41_76 rfl ?_
        refine r_sw c41_78 rfl (by omega) (by omega) ?_
        by_cases gU : vch n t pl = 119 ∨ vch n t pl = 100 ∨ vch n t pl = 109 ∨ vch n t pl = 121
        · have e : vfd [(98, 244), (99, 264), (100, 188), (101, 206), (102, 264), (103, 264), (104, 264), (105, 264), (106, 264), (107, 264), (108, 224), (109, 188), (110, 224), (111, 264), (112, 244), (113, 264), (114, 206), (115, 244), (116, 264), (117, 264), (118, 264), (119, 188), (120, 244), (121, 188)] 264 (vch n t pl) = 188 := by rcases gU with q | q | q | q <;> rw [q] <;> rfl
          rw [e]
          rw [vpn_U gU] at kN kS
          refine r_aload c41_188 rfl (r_dup c41_189 rfl (r_get c41_190 ho rfl (r_ci c41_193 (r_iadd c41_194 ?_))))
          refine r_put c41_195 ho hlo rfl ⟨rfl, rfl⟩ (fun h2 s2 => ?_)
          rw [vsu] at s2
          have hP2 := vPx_pl hP (vRo_st s2) (vFr_st s2)
          have ho2 := hP2.1
          unfold vRo at ho2
          refine r_aload c41_198 rfl (r_iload c41_199 rfl (r_aload c41_201 rfl ?_))
          refine r_iv2 c41_202 vr_43 ho2 rfl (k_unit hP2 (by omega) (next 0 (by omega)) gU (fun e1 h3 hP3 f3 => ?_) (fun S e1 h3 hP3 hS3 f3 => ?_))
          · dsimp only [vpush]
            refine r_zret (st := []) c41_205 (by omega) ?_
            exact kN e1 h3 hP3 (up h2 h3 (vFr_st s2) f3)
          · dsimp only [vpush]
            refine r_zret (st := []) c41_205 (by omega) ?_
            exact kS S e1 h3 hP3 hS3 (up h2 h3 (vFr_st s2) f3)
        · by_cases gP : vch n t pl = 101 ∨ vch n t pl = 114
          · have e : vfd [(98, 244), (99, 264), (100, 188), (101, 206), (102, 264), (103, 264), (104, 264), (105, 264), (106, 264), (107, 264), (108, 224), (109, 188), (110, 224), (111, 264), (112, 244), (113, 264), (114, 206), (115, 244), (116, 264), (117, 264), (118, 264), (119, 188), (120, 244), (121, 188)] 264 (vch n t pl) = 206 := by rcases gP with q | q <;> rw [q] <;> rfl
            rw [e]
            rw [vpn_P gP] at kN kS
            refine r_aload c41_206 rfl (r_dup c41_207 rfl (r_get c41_208 ho rfl (r_ci c41_211 (r_iadd c41_212 ?_))))
            refine r_put c41_213 ho hlo rfl ⟨rfl, rfl⟩ (fun h2 s2 => ?_)
            rw [vsu] at s2
            have hP2 := vPx_pl hP (vRo_st s2) (vFr_st s2)
            have ho2 := hP2.1
            unfold vRo at ho2
            refine r_aload c41_216 rfl (r_iload c41_217 rfl (r_aload c41_219 rfl ?_))
            refine r_iv2 c41_220 vr_44 ho2 rfl (k_pair hP2 (by omega) (next 0 (by omega)) gP (fun e1 h3 hP3 f3 => ?_) (fun S e1 h3 hP3 hS3 f3 => ?_))
            · dsimp only [vpush]
              refine r_zret (st := []) c41_223 (by omega) ?_
              exact kN e1 h3 hP3 (up h2 h3 (vFr_st s2) f3)
            · dsimp only [vpush]
              refine r_zret (st := []) c41_223 (by omega) ?_
              exact kS S e1 h3 hP3 hS3 (up h2 h3 (vFr_st s2) f3)
          · by_cases gN : vch n t pl = 110 ∨ vch n t pl = 108
            · have e : vfd [(98, 244), (99, 264), (100, 188), (101, 206), (102, 264), (103, 264), (104, 264), (105, 264), (106, 264), (107, 264), (108, 224), (109, 188), (110, 224), (111, 264), (112, 244), (113, 264), (114, 206), (115, 244), (116, 264), (117, 264), (118, 264), (119, 188), (120, 244), (121, 188)] 264 (vch n t pl) = 224 := by rcases gN with q | q <;> rw [q] <;> rfl
              rw [e]
              obtain ⟨e5, d5, rfl, ih⟩ := hb (by unfold vhb; omega)
              rw [show vpn n t D (some (vex n t D e5)) pl = vpb n t (vex n t D e5) (vch n t pl) (pl + 1) by unfold vpn; dsimp only; rw [if_neg (by omega), if_neg nB, if_neg gU, if_neg gP, if_pos gN]] at kN kS
              refine r_aload c41_224 rfl (r_dup c41_225 rfl (r_get c41_226 ho rfl (r_ci c41_229 (r_iadd c41_230 ?_))))
              refine r_put c41_231 ho hlo rfl ⟨rfl, rfl⟩ (fun h2 s2 => ?_)
              rw [vsu] at s2
              have hP2 := vPx_pl hP (vRo_st s2) (vFr_st s2)
              have ho2 := hP2.1
              unfold vRo at ho2
              refine r_aload c41_234 rfl (r_iload c41_235 rfl (r_iload c41_237 rfl (r_aload c41_238 rfl (r_aload c41_239 rfl ?_))))
              refine r_iv4 c41_240 vr_45 ho2 rfl (k_blocks hP2 d5 ih (next 0 (by omega)) gN (fun e1 h3 hP3 f3 => ?_) (fun S e1 h3 hP3 hS3 f3 => ?_))
              · dsimp only [vpush]
                refine r_zret (st := []) c41_243 (by omega) ?_
                exact kN e1 h3 hP3 (vFr_tr (vXf_r (vFr_st s2)) f3)
              · dsimp only [vpush]
                refine r_zret (st := []) c41_243 (by omega) ?_
                exact kS S e1 h3 hP3 hS3 (vFr_tr (vXf_r (vFr_st s2)) f3)
            · by_cases gX : vch n t pl = 115 ∨ vch n t pl = 98 ∨ vch n t pl = 112 ∨ vch n t pl = 120
              · have e : vfd [(98, 244), (99, 264), (100, 188), (101, 206), (102, 264), (103, 264), (104, 264), (105, 264), (106, 264), (107, 264), (108, 224), (109, 188), (110, 224), (111, 264), (112, 244), (113, 264), (114, 206), (115, 244), (116, 264), (117, 264), (118, 264), (119, 188), (120, 244), (121, 188)] 264 (vch n t pl) = 244 := by rcases gX with q | q | q | q <;> rw [q] <;> rfl
                rw [e]
                obtain ⟨e5, d5, rfl, ih⟩ := hb (by unfold vhb; omega)
                rw [show vpn n t D (some (vex n t D e5)) pl = vpc n t (vex n t D e5) (vch n t pl) (pl + 1) by unfold vpn; dsimp only; rw [if_neg (by omega), if_neg nB, if_neg gU, if_neg gP, if_neg gN, if_pos gX]] at kN kS
                refine r_aload c41_244 rfl (r_dup c41_245 rfl (r_get c41_246 ho rfl (r_ci c41_249 (r_iadd c41_250 ?_))))
                refine r_put c41_251 ho hlo rfl ⟨rfl, rfl⟩ (fun h2 s2 => ?_)
                rw [vsu] at s2
                have hP2 := vPx_pl hP (vRo_st s2) (vFr_st s2)
                have ho2 := hP2.1
                unfold vRo at ho2
                refine r_aload c41_254 rfl (r_iload c41_255 rfl (r_iload c41_257 rfl (r_aload c41_258 rfl (r_aload c41_259 rfl ?_))))
                refine r_iv4 c41_260 vr_46 ho2 rfl (k_changed hP2 d5 ih (next 0 (by omega)) gX (fun e1 h3 hP3 f3 => ?_) (fun S e1 h3 hP3 hS3 f3 => ?_))
                · dsimp only [vpush]
                  refine r_zret (st := []) c41_263 (by omega) ?_
                  exact kN e1 h3 hP3 (vFr_tr (vXf_r (vFr_st s2)) f3)
                · dsimp only [vpush]
                  refine r_zret (st := []) c41_263 (by omega) ?_
                  exact kS S e1 h3 hP3 hS3 (vFr_tr (vXf_r (vFr_st s2)) f3)
              · have e : vfd [(98, 244), (99, 264), (100, 188), (101, 206), (102, 264), (103, 264), (104, 264), (105, 264), (106, 264), (107, 264), (108, 224), (109, 188), (110, 224), (111, 264), (112, 244), (113, 264), (114, 206), (115, 244), (116, 264), (117, 264), (118, 264), (119, 188), (120, 244), (121, 188)] 264 (vch n t pl) = 264 := by
                  generalize vch n t pl = c at gU gP gN gX
                  have a1 : ¬ c = 119 := by omega
                  have a2 : ¬ c = 100 := by omega
                  have a3 : ¬ c = 109 := by omega
                  have a4 : ¬ c = 121 := by omega
                  have a5 : ¬ c = 101 := by omega
                  have a6 : ¬ c = 114 := by omega
                  have a7 : ¬ c = 110 := by omega
                  have a8 : ¬ c = 108 := by omega
                  have a9 : ¬ c = 115 := by omega
                  have b1 : ¬ c = 98 := by omega
                  have b2 : ¬ c = 112 := by omega
                  have b3 : ¬ c = 120 := by omega
                  simp only [vfd, if_neg a1, if_neg a2, if_neg a3, if_neg a4, if_neg a5, if_neg a6, if_neg a7, if_neg a8, if_neg a9, if_neg b1, if_neg b2, if_neg b3, ite_self]
                rw [e]
                rw [vpn_0 (by unfold vhb; omega) nB gU gP] at kN
                refine r_ci c41_264 ?_
                refine r_zret (st := []) c41_265 (by omega) ?_
                exact kN rfl h hP vFr_rf
      refine r_iclt c41_40 (by omega) (by omega) (by omega) (by omega) (fun c_40 => ?_) (fun c_40 => ?_)
      · exact from76 (by omega)
      · refine r_iload c41_43 rfl (r_ci c41_45 ?_)
        refine r_icgt c41_47 (by omega) (by omega) (by omega) (by omega) (fun c_47 => ?_) (fun c_47 => ?_)
        · exact from76 (by omega)
        · rw [vpn_B ⟨c_40, c_47⟩] at kS
          obtain ⟨⟨p, p1, p2⟩, p3⟩ := hP.2.2.2.1
          refine r_aload c41_50 rfl (r_dup c41_51 rfl (r_get c41_52 ho rfl (r_ci c41_55 (r_iadd c41_56 ?_))))
          refine r_put c41_57 ho hlo rfl ⟨rfl, rfl⟩ (fun h2 s2 => ?_)
          rw [vsu] at s2
          have hP2 := vPx_pl hP (vRo_st s2) (vFr_st s2)
          obtain ⟨⟨p, p1, p2⟩, p3⟩ := hP2.2.2.2.1
          obtain ⟨⟨fs, f1, f2⟩, f3⟩ := p3 (vch n t pl - 65).toNat (by omega)
          have hS2 := vDy_fr hS0 (vFr_st s2) (by omega) (by omega)
          refine r_aload c41_60 rfl (r_aload c41_61 rfl (r_iload c41_62 rfl (r_ci c41_64 (r_isub c41_66 (r_aald c41_67 p1 (by omega) (by omega) (by omega) (p2 _ (by omega)) ?_)))))
          refine r_get c41_68 f1 f2 ?_
          refine r_iv1 c41_71 vr_5 hS2.1 rfl (k_become hS2 f3 (by have := hP2.2.2.2.2.2.1; omega) (fun h3 hS3 g3 => ?_))
          dsimp only [vpush]
          refine r_ci c41_74 ?_
          refine r_zret (st := []) c41_75 (by omega) ?_
          exact kS _ rfl h3 (vPx_dy hP2 (by omega) hS3 g3) hS3 (vFr_tr (vXf_r (vFr_st s2)) (vXf_j (dep := dep) (j := 3 * dep + 2) (by omega) (by omega) g3))
    · obtain ⟨e5, d5, rfl, ih⟩ := hb (by unfold vhb; omega)
      rw [show vpn n t D (some (vex n t D e5)) pl = vbr n t (vex n t D e5) pl by unfold vpn; dsimp only; rw [if_pos c_25]] at kN kS
      refine r_aload c41_28 rfl (r_iload c41_29 rfl (r_aload c41_30 rfl (r_aload c41_31 rfl ?_)))
      refine r_iv3 c41_32 vr_47 ho rfl (k_inner (d := d + 1) hP d5 ih hpl (fun e1 h3 hP3 f3 => ?_) (fun S e1 h3 hP3 hS3 f3 => ?_))
      · dsimp only [vpush]
        refine r_zret (st := []) c41_35 (by omega) ?_
        exact kN e1 h3 hP3 f3
      · dsimp only [vpush]
        refine r_zret (st := []) c41_35 (by omega) ?_
        exact kS S e1 h3 hP3 hS3 f3
  refine vin 5 [_, _, _, _, _] ml_41 rfl rfl ?_
  refine r_aload c41_0 rfl ?_
  refine r_iv0 c41_1 vr_36 ho rfl (k_here hP.1 hP.2.1.1 hT (by omega) ?_)
  dsimp only [vpush]
  refine r_istore c41_4 rfl (r_iload c41_6 rfl (r_ci c41_7 ?_))
  try dsimp only [vst]
  refine r_iclt c41_8 (by omega) (by omega) (by omega) (by omega) (fun c_8 => ?_) (fun c_8 => ?_)
  · refine from21 (fun _ => ?_)
    rcases hf with hf | hf
    · omega
    · exact hf
  · rcases hf with hf | ⟨e, he, -⟩
    · obtain ⟨hf1, rfl⟩ := hf
      refine r_iload c41_11 rfl ?_
      refine r_is1 c41_13 vr_42 rfl (k_hasBracket (by omega) (by omega) (fun q => ?_) (fun q => ?_))
      · dsimp only [vpush]
        rw [vpn_N q] at kN
        refine r_ifeq c41_16 (by omega) (by omega) (fun q => by exfalso; omega) (fun c_16 => ?_)
        refine r_ci c41_19 ?_
        refine r_zret (st := []) c41_20 (by omega) ?_
        exact kN rfl h hP vFr_rf
      · dsimp only [vpush]
        refine r_ifeq c41_16 (by omega) (by omega) (fun c_16 => ?_) (fun q => by exfalso; omega)
        exact from21 (fun q2 => absurd q2 q)
    · omega
theorem k_factor {r n pl pr : Nat} {t : Nat → Int} {pa : Nat → Nat} {D : Nat → vSt1} {d dep : Nat} {f : Option (Nat → vPr)} {h : vHp} {Q : vQ} (hP : vPx h r n t pr pa D pl) (hd5 : dep ≤ 5) (hf : (dep = 5 ∧ f = none) ∨ ∃ e, dep + 1 + e = 5 ∧ f = some (vex n t D e) ∧ vKs (d + 4) r n t pr pa D (dep + 1) e) (hpl : pl ≤ n) (kN : (vpf n t D f pl).2 = none → ∀ h', vPx h' r n t pr pa D (vpf n t D f pl).1 → vFr (vXf r dep) h h' → Q (some .null) h') (kS : ∀ S, (vpf n t D f pl).2 = some S → ∀ h', vPx h' r n t pr pa D (vpf n t D f pl).1 → vDy h' (r + 5 + 2 * (3 * dep + 2)) S → vFr (vXf r dep) h h' → Q (some (.ref (r + 5 + 2 * (3 * dep + 2)))) h') : vCall (d + 8) 0 0 40 [.ref r, .int (iI (dep : Int)), .ref pr] h Q := by
  have ho := hP.1
  unfold vRo at ho
  have hT := hP.2.2.2.2.2.2.1
  have hn := hT.1
  obtain ⟨-, -, -, p, p1, p2⟩ := hP.2.1
  refine vin 5 [_, _, _, _, _] ml_40 rfl rfl ?_
  refine r_aload c40_0 rfl (r_get c40_1 ho rfl (r_iload c40_4 rfl (r_aald c40_5 p1 (by omega) (by omega) (by omega) (by rw [Int.toNat_natCast]; exact p2 dep (by omega)) (r_astore c40_6 rfl (r_aload c40_7 rfl (r_ci c40_8 ?_))))))
  try dsimp only [vst]
  unfold vpf at kN kS
  refine r_iv1 c40_10 vr_37 ho rfl (k_take hP.1 hP.2.1.1 hT (by omega) hP.2.2.2.2.2.1 (by omega) (by omega) (fun q h1 ho1 f1 => ?_) (fun q => ?_))
  · dsimp only [vpush]
    rw [if_pos q] at kN kS
    have hl := vch_lt (n := n) (t := t) (p := pl) (by omega)
    have hP1 := vPx_pl hP ho1 f1
    have ho1' := ho1
    unfold vRo at ho1'
    unfold vth at kN kS
    refine r_istore c40_13 rfl (r_aload c40_15 rfl (r_iload c40_16 rfl (r_aload c40_17 rfl (r_aload c40_18 rfl ?_))))
    try dsimp only [vst]
    refine r_iv3 c40_19 vr_41 ho1' rfl (k_plain (pl := pl + 1) hP1 hd5 hf hl (fun e1 h2 hP2 f2 => ?_) (fun S e1 h2 hP2 hS2 f2 => ?_))
    · dsimp only [vpush]
      rw [e1] at kN
      refine r_ifne c40_22 (by omega) (by omega) (fun q => by exfalso; omega) (fun c_22 => ?_)
      refine r_null c40_25 ?_
      refine r_aretN (st := []) c40_26 ?_
      exact kN rfl h2 hP2 (vFr_tr (vXf_r f1) f2)
    · dsimp only [vpush]
      rw [e1] at kS
      refine r_ifne c40_22 (by omega) (by omega) (fun c_22 => ?_) (fun q => by exfalso; omega)
      refine r_iload c40_27 rfl ?_
      refine r_ifeq c40_29 (by omega) (by omega) (fun q => by exfalso; omega) (fun c_29 => ?_)
      refine r_aload c40_32 rfl ?_
      refine r_iv0 c40_33 vr_9 hS2.1 rfl (k_invert hS2 (by have := hP2.2.2.2.2.2.1; omega) (fun h3 hS3 f3 => ?_))
      dsimp only [vpush]
      refine r_aload c40_36 rfl ?_
      refine r_aret (st := []) c40_37 ?_
      exact kS _ rfl h3 (vPx_dy hP2 (by omega) hS3 f3) hS3 (vFr_tr (vFr_tr (vXf_r f1) f2) (vXf_j (dep := dep) (j := 3 * dep + 2) (by omega) (by omega) f3))
  · dsimp only [vpush]
    rw [if_neg q] at kN kS
    refine r_istore c40_13 rfl (r_aload c40_15 rfl (r_iload c40_16 rfl (r_aload c40_17 rfl (r_aload c40_18 rfl ?_))))
    try dsimp only [vst]
    refine r_iv3 c40_19 vr_41 ho rfl (k_plain hP hd5 hf hpl (fun e1 h2 hP2 f2 => ?_) (fun S e1 h2 hP2 hS2 f2 => ?_))
    · dsimp only [vpush]
      refine r_ifne c40_22 (by omega) (by omega) (fun q => by exfalso; omega) (fun c_22 => ?_)
      refine r_null c40_25 ?_
      refine r_aretN (st := []) c40_26 ?_
      exact kN e1 h2 hP2 f2
    · dsimp only [vpush]
      refine r_ifne c40_22 (by omega) (by omega) (fun c_22 => ?_) (fun q => by exfalso; omega)
      refine r_iload c40_27 rfl ?_
      refine r_ifeq c40_29 (by omega) (by omega) (fun c_29 => ?_) (fun q => by exfalso; omega)
      refine r_aload c40_36 rfl ?_
      refine r_aret (st := []) c40_37 ?_
      exact kS S e1 h2 hP2 hS2 f2
end
