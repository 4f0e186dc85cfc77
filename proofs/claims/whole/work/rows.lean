section
-- ===== PART A: goes FIRST, ahead of the names: the tables' words, and 'selects' of the private methods out of them =====
/-- a private method of a class that the tables say can be made, by its rows of tables_1 -/
def lw_okq (q : MethodName × Nat) : Prop := (q.1.cls ≠ "java/lang/invoke/MethodHandle" ∧ q.1.cls ≠ "java/lang/invoke/VarHandle") ∧ Cond.instantiable q.1.cls q.2 ∈ tables_1 ∧ Cond.privateMethod q.1 ∈ tables_1 ∧ Cond.instanceMethod q.1 ∈ tables_1
theorem lw_p0 : lw_okq (⟨"JugglingRows", "addRow", "(II)I"⟩, 10) := ⟨⟨by decide +kernel, by decide +kernel⟩, List.mem_of_getElem? (i := 22) (by decide +kernel), List.mem_of_getElem? (i := 226) (by decide +kernel), List.mem_of_getElem? (i := 227) (by decide +kernel)⟩
theorem lw_p1 : lw_okq (⟨"JugglingRows", "keepChange", "(I)I"⟩, 10) := ⟨⟨by decide +kernel, by decide +kernel⟩, List.mem_of_getElem? (i := 22) (by decide +kernel), List.mem_of_getElem? (i := 253) (by decide +kernel), List.mem_of_getElem? (i := 254) (by decide +kernel)⟩
theorem lw_p2 : lw_okq (⟨"JugglingRows", "dropRow", "(I)I"⟩, 10) := ⟨⟨by decide +kernel, by decide +kernel⟩, List.mem_of_getElem? (i := 22) (by decide +kernel), List.mem_of_getElem? (i := 272) (by decide +kernel), List.mem_of_getElem? (i := 273) (by decide +kernel)⟩
theorem lw_p3 : lw_okq (⟨"JugglingRows", "turnRow", "(I)I"⟩, 10) := ⟨⟨by decide +kernel, by decide +kernel⟩, List.mem_of_getElem? (i := 22) (by decide +kernel), List.mem_of_getElem? (i := 284) (by decide +kernel), List.mem_of_getElem? (i := 285) (by decide +kernel)⟩
theorem lw_p4 : lw_okq (⟨"JugglingRows", "swapBeats", "(III)I"⟩, 10) := ⟨⟨by decide +kernel, by decide +kernel⟩, List.mem_of_getElem? (i := 22) (by decide +kernel), List.mem_of_getElem? (i := 302) (by decide +kernel), List.mem_of_getElem? (i := 303) (by decide +kernel)⟩
theorem lw_p5 : lw_okq (⟨"JugglingRows", "liftRow", "(I)I"⟩, 10) := ⟨⟨by decide +kernel, by decide +kernel⟩, List.mem_of_getElem? (i := 22) (by decide +kernel), List.mem_of_getElem? (i := 315) (by decide +kernel), List.mem_of_getElem? (i := 316) (by decide +kernel)⟩
theorem lw_p6 : lw_okq (⟨"JugglingRows", "beginWith", "(I)I"⟩, 10) := ⟨⟨by decide +kernel, by decide +kernel⟩, List.mem_of_getElem? (i := 22) (by decide +kernel), List.mem_of_getElem? (i := 339) (by decide +kernel), List.mem_of_getElem? (i := 340) (by decide +kernel)⟩
theorem lw_p7 : lw_okq (⟨"JugglingRows", "makeThrow", "(I)I"⟩, 10) := ⟨⟨by decide +kernel, by decide +kernel⟩, List.mem_of_getElem? (i := 22) (by decide +kernel), List.mem_of_getElem? (i := 347) (by decide +kernel), List.mem_of_getElem? (i := 348) (by decide +kernel)⟩
theorem lw_p8 : lw_okq (⟨"JugglingRows", "makeJoin", "(I)I"⟩, 10) := ⟨⟨by decide +kernel, by decide +kernel⟩, List.mem_of_getElem? (i := 22) (by decide +kernel), List.mem_of_getElem? (i := 378) (by decide +kernel), List.mem_of_getElem? (i := 379) (by decide +kernel)⟩
theorem lw_p9 : lw_okq (⟨"JugglingRows", "isOutOfReach", "(LJugglingRows$Row;)Z"⟩, 10) := ⟨⟨by decide +kernel, by decide +kernel⟩, List.mem_of_getElem? (i := 22) (by decide +kernel), List.mem_of_getElem? (i := 382) (by decide +kernel), List.mem_of_getElem? (i := 383) (by decide +kernel)⟩
theorem lw_p10 : lw_okq (⟨"JugglingRows", "makeRowOnce", "(I)I"⟩, 10) := ⟨⟨by decide +kernel, by decide +kernel⟩, List.mem_of_getElem? (i := 22) (by decide +kernel), List.mem_of_getElem? (i := 434) (by decide +kernel), List.mem_of_getElem? (i := 435) (by decide +kernel)⟩
theorem lw_p11 : lw_okq (⟨"JugglingRows", "hasJoin", "(LJugglingRows$Row;)Z"⟩, 10) := ⟨⟨by decide +kernel, by decide +kernel⟩, List.mem_of_getElem? (i := 22) (by decide +kernel), List.mem_of_getElem? (i := 498) (by decide +kernel), List.mem_of_getElem? (i := 499) (by decide +kernel)⟩
theorem lw_p12 : lw_okq (⟨"JugglingRows", "rankKey", "(II)I"⟩, 10) := ⟨⟨by decide +kernel, by decide +kernel⟩, List.mem_of_getElem? (i := 22) (by decide +kernel), List.mem_of_getElem? (i := 527) (by decide +kernel), List.mem_of_getElem? (i := 528) (by decide +kernel)⟩
theorem lw_p13 : lw_okq (⟨"JugglingRows", "countAhead", "(I)I"⟩, 10) := ⟨⟨by decide +kernel, by decide +kernel⟩, List.mem_of_getElem? (i := 22) (by decide +kernel), List.mem_of_getElem? (i := 531) (by decide +kernel), List.mem_of_getElem? (i := 532) (by decide +kernel)⟩
theorem lw_p14 : lw_okq (⟨"JugglingRows", "isAhead", "(II)Z"⟩, 10) := ⟨⟨by decide +kernel, by decide +kernel⟩, List.mem_of_getElem? (i := 22) (by decide +kernel), List.mem_of_getElem? (i := 535) (by decide +kernel), List.mem_of_getElem? (i := 536) (by decide +kernel)⟩
theorem lw_p15 : lw_okq (⟨"JugglingRows", "carryOutAll", "()I"⟩, 10) := ⟨⟨by decide +kernel, by decide +kernel⟩, List.mem_of_getElem? (i := 22) (by decide +kernel), List.mem_of_getElem? (i := 603) (by decide +kernel), List.mem_of_getElem? (i := 604) (by decide +kernel)⟩
def lw_privs_1 : List (MethodName × Nat) := [(⟨"JugglingRows", "addRow", "(II)I"⟩, 10), (⟨"JugglingRows", "keepChange", "(I)I"⟩, 10), (⟨"JugglingRows", "dropRow", "(I)I"⟩, 10), (⟨"JugglingRows", "turnRow", "(I)I"⟩, 10), (⟨"JugglingRows", "swapBeats", "(III)I"⟩, 10), (⟨"JugglingRows", "liftRow", "(I)I"⟩, 10), (⟨"JugglingRows", "beginWith", "(I)I"⟩, 10), (⟨"JugglingRows", "makeThrow", "(I)I"⟩, 10), (⟨"JugglingRows", "makeJoin", "(I)I"⟩, 10), (⟨"JugglingRows", "isOutOfReach", "(LJugglingRows$Row;)Z"⟩, 10), (⟨"JugglingRows", "makeRowOnce", "(I)I"⟩, 10), (⟨"JugglingRows", "hasJoin", "(LJugglingRows$Row;)Z"⟩, 10), (⟨"JugglingRows", "rankKey", "(II)I"⟩, 10), (⟨"JugglingRows", "countAhead", "(I)I"⟩, 10), (⟨"JugglingRows", "isAhead", "(II)Z"⟩, 10), (⟨"JugglingRows", "carryOutAll", "()I"⟩, 10)]
theorem lw_r1 : ∀ q ∈ lw_privs_1, lw_okq q := List.forall_mem_cons.mpr ⟨lw_p0, List.forall_mem_cons.mpr ⟨lw_p1, List.forall_mem_cons.mpr ⟨lw_p2, List.forall_mem_cons.mpr ⟨lw_p3, List.forall_mem_cons.mpr ⟨lw_p4, List.forall_mem_cons.mpr ⟨lw_p5, List.forall_mem_cons.mpr ⟨lw_p6, List.forall_mem_cons.mpr ⟨lw_p7, List.forall_mem_cons.mpr ⟨lw_p8, List.forall_mem_cons.mpr ⟨lw_p9, List.forall_mem_cons.mpr ⟨lw_p10, List.forall_mem_cons.mpr ⟨lw_p11, List.forall_mem_cons.mpr ⟨lw_p12, List.forall_mem_cons.mpr ⟨lw_p13, List.forall_mem_cons.mpr ⟨lw_p14, List.forall_mem_cons.mpr ⟨lw_p15, fun _ h => absurd h List.not_mem_nil⟩⟩⟩⟩⟩⟩⟩⟩⟩⟩⟩⟩⟩⟩⟩⟩
theorem lw_p16 : lw_okq (⟨"JugglingRows", "carryOut", "(I)I"⟩, 10) := ⟨⟨by decide +kernel, by decide +kernel⟩, List.mem_of_getElem? (i := 22) (by decide +kernel), List.mem_of_getElem? (i := 607) (by decide +kernel), List.mem_of_getElem? (i := 608) (by decide +kernel)⟩
theorem lw_p17 : lw_okq (⟨"JugglingRows", "isRowWell", "(LJugglingRows$Row;)Z"⟩, 10) := ⟨⟨by decide +kernel, by decide +kernel⟩, List.mem_of_getElem? (i := 22) (by decide +kernel), List.mem_of_getElem? (i := 651) (by decide +kernel), List.mem_of_getElem? (i := 652) (by decide +kernel)⟩
theorem lw_p18 : lw_okq (⟨"JugglingRowsModel", "refuse", "(ZII)Z"⟩, 26) := ⟨⟨by decide +kernel, by decide +kernel⟩, List.mem_of_getElem? (i := 694) (by decide +kernel), List.mem_of_getElem? (i := 788) (by decide +kernel), List.mem_of_getElem? (i := 789) (by decide +kernel)⟩
theorem lw_p19 : lw_okq (⟨"JugglingRowsModel", "change", "()V"⟩, 26) := ⟨⟨by decide +kernel, by decide +kernel⟩, List.mem_of_getElem? (i := 694) (by decide +kernel), List.mem_of_getElem? (i := 792) (by decide +kernel), List.mem_of_getElem? (i := 793) (by decide +kernel)⟩
theorem lw_p20 : lw_okq (⟨"JugglingRowsModel", "remember", "([I)V"⟩, 26) := ⟨⟨by decide +kernel, by decide +kernel⟩, List.mem_of_getElem? (i := 694) (by decide +kernel), List.mem_of_getElem? (i := 796) (by decide +kernel), List.mem_of_getElem? (i := 797) (by decide +kernel)⟩
theorem lw_p21 : lw_okq (⟨"JugglingRowsModel", "putThrow", "(III)V"⟩, 26) := ⟨⟨by decide +kernel, by decide +kernel⟩, List.mem_of_getElem? (i := 694) (by decide +kernel), List.mem_of_getElem? (i := 803) (by decide +kernel), List.mem_of_getElem? (i := 804) (by decide +kernel)⟩
theorem lw_p22 : lw_okq (⟨"JugglingRowsModel", "isRow", "(I)Z"⟩, 26) := ⟨⟨by decide +kernel, by decide +kernel⟩, List.mem_of_getElem? (i := 694) (by decide +kernel), List.mem_of_getElem? (i := 811) (by decide +kernel), List.mem_of_getElem? (i := 812) (by decide +kernel)⟩
theorem lw_p23 : lw_okq (⟨"JugglingRowsModel", "thrown", "(II)I"⟩, 26) := ⟨⟨by decide +kernel, by decide +kernel⟩, List.mem_of_getElem? (i := 694) (by decide +kernel), List.mem_of_getElem? (i := 819) (by decide +kernel), List.mem_of_getElem? (i := 820) (by decide +kernel)⟩
theorem lw_p24 : lw_okq (⟨"JugglingRowsModel", "lengthOf", "(I)I"⟩, 26) := ⟨⟨by decide +kernel, by decide +kernel⟩, List.mem_of_getElem? (i := 694) (by decide +kernel), List.mem_of_getElem? (i := 823) (by decide +kernel), List.mem_of_getElem? (i := 824) (by decide +kernel)⟩
theorem lw_p25 : lw_okq (⟨"JugglingRowsModel", "isBeat", "(II)Z"⟩, 26) := ⟨⟨by decide +kernel, by decide +kernel⟩, List.mem_of_getElem? (i := 694) (by decide +kernel), List.mem_of_getElem? (i := 831) (by decide +kernel), List.mem_of_getElem? (i := 832) (by decide +kernel)⟩
theorem lw_p26 : lw_okq (⟨"JugglingRowsModel", "ballsOf", "(I)I"⟩, 26) := ⟨⟨by decide +kernel, by decide +kernel⟩, List.mem_of_getElem? (i := 694) (by decide +kernel), List.mem_of_getElem? (i := 839) (by decide +kernel), List.mem_of_getElem? (i := 840) (by decide +kernel)⟩
theorem lw_p27 : lw_okq (⟨"JugglingRowsModel", "clashOf", "(I)I"⟩, 26) := ⟨⟨by decide +kernel, by decide +kernel⟩, List.mem_of_getElem? (i := 694) (by decide +kernel), List.mem_of_getElem? (i := 843) (by decide +kernel), List.mem_of_getElem? (i := 844) (by decide +kernel)⟩
theorem lw_p28 : lw_okq (⟨"JugglingRowsModel", "sumOf", "(I)I"⟩, 26) := ⟨⟨by decide +kernel, by decide +kernel⟩, List.mem_of_getElem? (i := 694) (by decide +kernel), List.mem_of_getElem? (i := 847) (by decide +kernel), List.mem_of_getElem? (i := 848) (by decide +kernel)⟩
theorem lw_p29 : lw_okq (⟨"JugglingRowsModel", "makeThrow", "(I)V"⟩, 26) := ⟨⟨by decide +kernel, by decide +kernel⟩, List.mem_of_getElem? (i := 694) (by decide +kernel), List.mem_of_getElem? (i := 865) (by decide +kernel), List.mem_of_getElem? (i := 866) (by decide +kernel)⟩
theorem lw_p30 : lw_okq (⟨"JugglingRowsModel", "isNotFor", "(I)Z"⟩, 26) := ⟨⟨by decide +kernel, by decide +kernel⟩, List.mem_of_getElem? (i := 694) (by decide +kernel), List.mem_of_getElem? (i := 876) (by decide +kernel), List.mem_of_getElem? (i := 877) (by decide +kernel)⟩
theorem lw_p31 : lw_okq (⟨"JugglingRowsModel", "findJoinTo", "(I)Z"⟩, 26) := ⟨⟨by decide +kernel, by decide +kernel⟩, List.mem_of_getElem? (i := 694) (by decide +kernel), List.mem_of_getElem? (i := 880) (by decide +kernel), List.mem_of_getElem? (i := 881) (by decide +kernel)⟩
def lw_privs_2 : List (MethodName × Nat) := [(⟨"JugglingRows", "carryOut", "(I)I"⟩, 10), (⟨"JugglingRows", "isRowWell", "(LJugglingRows$Row;)Z"⟩, 10), (⟨"JugglingRowsModel", "refuse", "(ZII)Z"⟩, 26), (⟨"JugglingRowsModel", "change", "()V"⟩, 26), (⟨"JugglingRowsModel", "remember", "([I)V"⟩, 26), (⟨"JugglingRowsModel", "putThrow", "(III)V"⟩, 26), (⟨"JugglingRowsModel", "isRow", "(I)Z"⟩, 26), (⟨"JugglingRowsModel", "thrown", "(II)I"⟩, 26), (⟨"JugglingRowsModel", "lengthOf", "(I)I"⟩, 26), (⟨"JugglingRowsModel", "isBeat", "(II)Z"⟩, 26), (⟨"JugglingRowsModel", "ballsOf", "(I)I"⟩, 26), (⟨"JugglingRowsModel", "clashOf", "(I)I"⟩, 26), (⟨"JugglingRowsModel", "sumOf", "(I)I"⟩, 26), (⟨"JugglingRowsModel", "makeThrow", "(I)V"⟩, 26), (⟨"JugglingRowsModel", "isNotFor", "(I)Z"⟩, 26), (⟨"JugglingRowsModel", "findJoinTo", "(I)Z"⟩, 26)]
theorem lw_r2 : ∀ q ∈ lw_privs_2, lw_okq q := List.forall_mem_cons.mpr ⟨lw_p16, List.forall_mem_cons.mpr ⟨lw_p17, List.forall_mem_cons.mpr ⟨lw_p18, List.forall_mem_cons.mpr ⟨lw_p19, List.forall_mem_cons.mpr ⟨lw_p20, List.forall_mem_cons.mpr ⟨lw_p21, List.forall_mem_cons.mpr ⟨lw_p22, List.forall_mem_cons.mpr ⟨lw_p23, List.forall_mem_cons.mpr ⟨lw_p24, List.forall_mem_cons.mpr ⟨lw_p25, List.forall_mem_cons.mpr ⟨lw_p26, List.forall_mem_cons.mpr ⟨lw_p27, List.forall_mem_cons.mpr ⟨lw_p28, List.forall_mem_cons.mpr ⟨lw_p29, List.forall_mem_cons.mpr ⟨lw_p30, List.forall_mem_cons.mpr ⟨lw_p31, fun _ h => absurd h List.not_mem_nil⟩⟩⟩⟩⟩⟩⟩⟩⟩⟩⟩⟩⟩⟩⟩⟩
theorem lw_p32 : lw_okq (⟨"JugglingRowsModel", "stateAt", "(II)I"⟩, 26) := ⟨⟨by decide +kernel, by decide +kernel⟩, List.mem_of_getElem? (i := 694) (by decide +kernel), List.mem_of_getElem? (i := 884) (by decide +kernel), List.mem_of_getElem? (i := 885) (by decide +kernel)⟩
theorem lw_p33 : lw_okq (⟨"JugglingRowsModel", "findJoin", "(II)Z"⟩, 26) := ⟨⟨by decide +kernel, by decide +kernel⟩, List.mem_of_getElem? (i := 694) (by decide +kernel), List.mem_of_getElem? (i := 888) (by decide +kernel), List.mem_of_getElem? (i := 889) (by decide +kernel)⟩
theorem lw_p34 : lw_okq (⟨"JugglingRowsModel", "takeJoin", "(I)V"⟩, 26) := ⟨⟨by decide +kernel, by decide +kernel⟩, List.mem_of_getElem? (i := 694) (by decide +kernel), List.mem_of_getElem? (i := 892) (by decide +kernel), List.mem_of_getElem? (i := 893) (by decide +kernel)⟩
theorem lw_p35 : lw_okq (⟨"JugglingRowsModel", "periodOf", "(I)I"⟩, 26) := ⟨⟨by decide +kernel, by decide +kernel⟩, List.mem_of_getElem? (i := 694) (by decide +kernel), List.mem_of_getElem? (i := 904) (by decide +kernel), List.mem_of_getElem? (i := 905) (by decide +kernel)⟩
theorem lw_p36 : lw_okq (⟨"JugglingRowsModel", "repeatsBy", "(II)Z"⟩, 26) := ⟨⟨by decide +kernel, by decide +kernel⟩, List.mem_of_getElem? (i := 694) (by decide +kernel), List.mem_of_getElem? (i := 908) (by decide +kernel), List.mem_of_getElem? (i := 909) (by decide +kernel)⟩
theorem lw_p37 : lw_okq (⟨"JugglingRowsModel", "greatestOf", "(I)I"⟩, 26) := ⟨⟨by decide +kernel, by decide +kernel⟩, List.mem_of_getElem? (i := 694) (by decide +kernel), List.mem_of_getElem? (i := 912) (by decide +kernel), List.mem_of_getElem? (i := 913) (by decide +kernel)⟩
theorem lw_p38 : lw_okq (⟨"JugglingRowsModel", "oddOf", "(I)I"⟩, 26) := ⟨⟨by decide +kernel, by decide +kernel⟩, List.mem_of_getElem? (i := 694) (by decide +kernel), List.mem_of_getElem? (i := 916) (by decide +kernel), List.mem_of_getElem? (i := 917) (by decide +kernel)⟩
theorem lw_p39 : lw_okq (⟨"JugglingRowsModel", "isPrime", "(I)I"⟩, 26) := ⟨⟨by decide +kernel, by decide +kernel⟩, List.mem_of_getElem? (i := 694) (by decide +kernel), List.mem_of_getElem? (i := 920) (by decide +kernel), List.mem_of_getElem? (i := 921) (by decide +kernel)⟩
theorem lw_p40 : lw_okq (⟨"JugglingRowsModel", "throwsNow", "()I"⟩, 26) := ⟨⟨by decide +kernel, by decide +kernel⟩, List.mem_of_getElem? (i := 694) (by decide +kernel), List.mem_of_getElem? (i := 945) (by decide +kernel), List.mem_of_getElem? (i := 946) (by decide +kernel)⟩
theorem lw_p41 : lw_okq (⟨"JugglingRowsModel", "worth", "(II)I"⟩, 26) := ⟨⟨by decide +kernel, by decide +kernel⟩, List.mem_of_getElem? (i := 694) (by decide +kernel), List.mem_of_getElem? (i := 974) (by decide +kernel), List.mem_of_getElem? (i := 975) (by decide +kernel)⟩
theorem lw_p42 : lw_okq (⟨"JugglingRowsModel", "write", "(I)V"⟩, 26) := ⟨⟨by decide +kernel, by decide +kernel⟩, List.mem_of_getElem? (i := 694) (by decide +kernel), List.mem_of_getElem? (i := 982) (by decide +kernel), List.mem_of_getElem? (i := 983) (by decide +kernel)⟩
theorem lw_p43 : lw_okq (⟨"JugglingRowsModel", "countCommands", "()I"⟩, 26) := ⟨⟨by decide +kernel, by decide +kernel⟩, List.mem_of_getElem? (i := 694) (by decide +kernel), List.mem_of_getElem? (i := 1006) (by decide +kernel), List.mem_of_getElem? (i := 1007) (by decide +kernel)⟩
theorem lw_p44 : lw_okq (⟨"JugglingRowsModel", "readCommand", "()V"⟩, 26) := ⟨⟨by decide +kernel, by decide +kernel⟩, List.mem_of_getElem? (i := 694) (by decide +kernel), List.mem_of_getElem? (i := 1010) (by decide +kernel), List.mem_of_getElem? (i := 1011) (by decide +kernel)⟩
theorem lw_p45 : lw_okq (⟨"JugglingRowsModel", "sees", "(II)Z"⟩, 26) := ⟨⟨by decide +kernel, by decide +kernel⟩, List.mem_of_getElem? (i := 694) (by decide +kernel), List.mem_of_getElem? (i := 1014) (by decide +kernel), List.mem_of_getElem? (i := 1015) (by decide +kernel)⟩
theorem lw_p46 : lw_okq (⟨"JugglingRowsModel", "readRow", "()V"⟩, 26) := ⟨⟨by decide +kernel, by decide +kernel⟩, List.mem_of_getElem? (i := 694) (by decide +kernel), List.mem_of_getElem? (i := 1018) (by decide +kernel), List.mem_of_getElem? (i := 1019) (by decide +kernel)⟩
theorem lw_p47 : lw_okq (⟨"JugglingRowsModel", "readDigit", "()I"⟩, 26) := ⟨⟨by decide +kernel, by decide +kernel⟩, List.mem_of_getElem? (i := 694) (by decide +kernel), List.mem_of_getElem? (i := 1022) (by decide +kernel), List.mem_of_getElem? (i := 1023) (by decide +kernel)⟩
def lw_privs_3 : List (MethodName × Nat) := [(⟨"JugglingRowsModel", "stateAt", "(II)I"⟩, 26), (⟨"JugglingRowsModel", "findJoin", "(II)Z"⟩, 26), (⟨"JugglingRowsModel", "takeJoin", "(I)V"⟩, 26), (⟨"JugglingRowsModel", "periodOf", "(I)I"⟩, 26), (⟨"JugglingRowsModel", "repeatsBy", "(II)Z"⟩, 26), (⟨"JugglingRowsModel", "greatestOf", "(I)I"⟩, 26), (⟨"JugglingRowsModel", "oddOf", "(I)I"⟩, 26), (⟨"JugglingRowsModel", "isPrime", "(I)I"⟩, 26), (⟨"JugglingRowsModel", "throwsNow", "()I"⟩, 26), (⟨"JugglingRowsModel", "worth", "(II)I"⟩, 26), (⟨"JugglingRowsModel", "write", "(I)V"⟩, 26), (⟨"JugglingRowsModel", "countCommands", "()I"⟩, 26), (⟨"JugglingRowsModel", "readCommand", "()V"⟩, 26), (⟨"JugglingRowsModel", "sees", "(II)Z"⟩, 26), (⟨"JugglingRowsModel", "readRow", "()V"⟩, 26), (⟨"JugglingRowsModel", "readDigit", "()I"⟩, 26)]
theorem lw_r3 : ∀ q ∈ lw_privs_3, lw_okq q := List.forall_mem_cons.mpr ⟨lw_p32, List.forall_mem_cons.mpr ⟨lw_p33, List.forall_mem_cons.mpr ⟨lw_p34, List.forall_mem_cons.mpr ⟨lw_p35, List.forall_mem_cons.mpr ⟨lw_p36, List.forall_mem_cons.mpr ⟨lw_p37, List.forall_mem_cons.mpr ⟨lw_p38, List.forall_mem_cons.mpr ⟨lw_p39, List.forall_mem_cons.mpr ⟨lw_p40, List.forall_mem_cons.mpr ⟨lw_p41, List.forall_mem_cons.mpr ⟨lw_p42, List.forall_mem_cons.mpr ⟨lw_p43, List.forall_mem_cons.mpr ⟨lw_p44, List.forall_mem_cons.mpr ⟨lw_p45, List.forall_mem_cons.mpr ⟨lw_p46, List.forall_mem_cons.mpr ⟨lw_p47, fun _ h => absurd h List.not_mem_nil⟩⟩⟩⟩⟩⟩⟩⟩⟩⟩⟩⟩⟩⟩⟩⟩
theorem lw_p48 : lw_okq (⟨"JugglingRowsModel", "carryOut", "()I"⟩, 26) := ⟨⟨by decide +kernel, by decide +kernel⟩, List.mem_of_getElem? (i := 694) (by decide +kernel), List.mem_of_getElem? (i := 1109) (by decide +kernel), List.mem_of_getElem? (i := 1110) (by decide +kernel)⟩
theorem lw_p49 : lw_okq (⟨"JugglingRowsModel", "sumOver", "(I)I"⟩, 26) := ⟨⟨by decide +kernel, by decide +kernel⟩, List.mem_of_getElem? (i := 694) (by decide +kernel), List.mem_of_getElem? (i := 1131) (by decide +kernel), List.mem_of_getElem? (i := 1132) (by decide +kernel)⟩
def lw_privs_4 : List (MethodName × Nat) := [(⟨"JugglingRowsModel", "carryOut", "()I"⟩, 26), (⟨"JugglingRowsModel", "sumOver", "(I)I"⟩, 26)]
theorem lw_r4 : ∀ q ∈ lw_privs_4, lw_okq q := List.forall_mem_cons.mpr ⟨lw_p48, List.forall_mem_cons.mpr ⟨lw_p49, fun _ h => absurd h List.not_mem_nil⟩⟩
def lw_privs : List (MethodName × Nat) := lw_privs_1 ++ (lw_privs_2 ++ (lw_privs_3 ++ (lw_privs_4)))
def lw_tbl : List Cond := k2_sels lw_privs ++ tables_1
theorem lw_privs_ok : ∀ q ∈ lw_privs, lw_okq q := by
  show ∀ q ∈ lw_privs_1 ++ (lw_privs_2 ++ (lw_privs_3 ++ (lw_privs_4))), lw_okq q
  exact List.forall_mem_append.mpr ⟨lw_r1, List.forall_mem_append.mpr ⟨lw_r2, List.forall_mem_append.mpr ⟨lw_r3, lw_r4⟩⟩⟩
/-- the streams that the claim lets the run draw from -/
abbrev lw_cs : List Choice := [Jvm.Choice.named "NaN.bits"]
theorem lw_bits : nanBits ∈ lw_cs := by first | decide | exact List.mem_cons_self | simp [lw_cs, nanBits]
-- ===== end of PART A; then your names; then what follows =====
/-! ===== BEGIN words of one list among another's, by their places ===== -/
theorem goodIn_r {big : List Cond} (ws : List Cond) (ps : List Nat) (hp : ws = ps.filterMap (fun i => big[i]?)) (h : ws.all goodWord = true) : GoodIn big ws := by
  intro w hw
  have h1 := List.all_eq_true.mp h w hw
  rw [hp] at hw
  obtain ⟨i, -, hi⟩ := List.mem_filterMap.mp hw
  have hm : w ∈ big := by first | exact List.mem_of_getElem? hi | exact List.getElem?_mem hi
  exact ⟨hm, good_of_word h1⟩
theorem goodIn_app {big a b : List Cond} (ha : GoodIn big a) (hb : GoodIn big b) : GoodIn big (a ++ b) := fun w h => (List.mem_append.mp h).elim (ha w) (hb w)
theorem goodIn_ca {big a b : List Cond} {c : Cond} (ha : GoodIn big (c :: a)) (hb : GoodIn big b) : GoodIn big (c :: (a ++ b)) := fun w h => (List.mem_cons.mp h).elim (fun e => ha w (List.mem_cons.mpr (Or.inl e))) (fun h => (List.mem_append.mp h).elim (fun h => ha w (List.mem_cons.mpr (Or.inr h))) (hb w))
theorem goodIn_sub {big ws : List Cond} (hm : ∀ w ∈ ws, w ∈ big) (h : ws.all goodWord = true) : GoodIn big ws := fun w hw => ⟨hm w hw, good_of_word (List.all_eq_true.mp h w hw)⟩
/-! ===== END ===== -/

/-! ===== BEGIN new T[n][m]: the outer array a place, the inner ones among the pooled ===== -/
/-- f, but v at every address of l -/
def vr_up {α : Type} (f : Nat → α) (l : List Nat) (v : α) : Nat → α := fun a => if a ∈ l then v else f a
theorem vr_up_in {α : Type} {f : Nat → α} {l : List Nat} {v : α} {a : Nat} (h : a ∈ l) : vr_up f l v a = v := if_pos h
theorem vr_up_ne {α : Type} {f : Nat → α} {l : List Nat} {v : α} {a : Nat} (h : a ∉ l) : vr_up f l v a = f a := if_neg h
theorem vr_rows {L l : List Nat} {f : Nat → va_E} {e : va_E} (h : ∀ a, a ∈ l → a ∉ L) : va_pl L f ++ l.map (fun a => (a, e)) = va_pl (L ++ l) (vr_up f l e) := by
  unfold va_pl
  rw [List.map_append]
  congr 1
  · apply List.map_congr_left
    intro a ha
    rw [vr_up_ne (fun q => h a q ha)]
  · apply List.map_congr_left
    intro a ha
    rw [vr_up_in ha]
theorem vr_lay {X rows : va_W} {x : Nat × va_E} {pl : va_W} {D : va_G} {cl : List vw_C} {H : Heap} (hP : va_P D cl (((X ++ pl) ++ [x]) ++ rows) H) : va_P D cl ((X ++ [x]) ++ (pl ++ rows)) H := by
  rw [List.append_assoc (X ++ pl)] at hP
  have h := va_P.swap hP
  rw [← List.append_assoc X] at h
  have h2 := va_P.swap h
  rw [List.append_assoc (X ++ [x])] at h2
  exact h2
theorem vr_layD {X rows : va_W} {x : Nat × va_E} {pl : va_W} {A : Nat → Prop} (hD : va_D A (((X ++ pl) ++ [x]) ++ rows)) : va_D A ((X ++ [x]) ++ (pl ++ rows)) := by
  rw [List.append_assoc (X ++ pl)] at hD
  have h := va_D.swap hD
  rw [← List.append_assoc X] at h
  have h2 := va_D.swap h
  rw [List.append_assoc (X ++ [x])] at h2
  exact h2
theorem vr_outer (c : ClassId) (N h0 : Nat) : ∀ i : Nat, Jvm.Free.Multi.outerC c N h0 i = arrV c N (fun j => va_rf (if j < i then some (h0 + 1 + j) else none))
  | 0 => by
    show ({ cls := c, slots := Array.replicate N .null, vm := .none } : Cell) = _
    rw [arrV_new]
    refine congrArg (arrV c N) (funext fun j => ?_)
    simp [va_rf]
  | i + 1 => by
    show (Jvm.Free.Multi.outerC c N h0 i).setSlot i (.ref (h0 + 1 + i)) = _
    rw [vr_outer c N h0 i, arrV_store]
    refine congrArg (arrV c N) (funext fun j => ?_)
    by_cases e : j = i
    · subst e
      simp [updV, va_rf]
    · by_cases h : j < i
      · simp [updV, e, h, Nat.lt_succ_of_lt h]
      · simp [updV, e, h, show ¬ j < i + 1 by omega]
/-! ===== END ===== -/

/-! ===== BEGIN printed: names, fields, word lists, decode rows ===== -/
def RX0 : String := "JugglingRows$Joins"
def TX0 : u_T := fun k => match k with
  | 0 => ("JugglingRows$Joins", "steps", "[I", true)
  | 1 => ("JugglingRows$Joins", "queue", "[I", true)
  | 2 => ("JugglingRows$Joins", "queued", "I", false)
  | _ => ("JugglingRows$Joins", "heights", "[I", true)
def tyX0 : Nat → FieldType := fun k => match k with
  | 0 => .array .int
  | 1 => .array .int
  | 2 => .int
  | _ => .array .int
abbrev wsX00 : List Cond := u_ws RX0 TX0 4
theorem nmX0 : ∀ a, a < 4 → ∀ b, b < 4 → a ≠ b → (TX0 a).2.1 ≠ (TX0 b).2.1 := by decide +kernel
theorem tyX0_ok : ∀ k, k < 4 → parseFieldDescriptor (TX0 k).2.2.1 = some (tyX0 k) := by decide +kernel
abbrev cX0_init : ByteArray := prog_2_method_1_code
def yX0_init : MethodName := ⟨RX0, "<init>", "()V"⟩
abbrev cX0_countOnward : ByteArray := prog_2_method_2_code
def yX0_countOnward : MethodName := ⟨RX0, "countOnward", "(II)I"⟩
abbrev cX0_countBack : ByteArray := prog_2_method_3_code
def yX0_countBack : MethodName := ⟨RX0, "countBack", "(II)I"⟩
abbrev cX0_find : ByteArray := prog_2_method_4_code
def yX0_find : MethodName := ⟨RX0, "find", "(II)I"⟩
abbrev cX0_heightAt : ByteArray := prog_2_method_5_code
def yX0_heightAt : MethodName := ⟨RX0, "heightAt", "(I)I"⟩
abbrev cX0_lowestNearer : ByteArray := prog_2_method_6_code
def yX0_lowestNearer : MethodName := ⟨RX0, "lowestNearer", "(II)I"⟩
abbrev cX0_startAt : ByteArray := prog_2_method_7_code
def yX0_startAt : MethodName := ⟨RX0, "startAt", "(I)V"⟩
abbrev cX0_spreadOnward : ByteArray := prog_2_method_8_code
def yX0_spreadOnward : MethodName := ⟨RX0, "spreadOnward", "(I)V"⟩
abbrev cX0_spreadBack : ByteArray := prog_2_method_9_code
def yX0_spreadBack : MethodName := ⟨RX0, "spreadBack", "(I)V"⟩
abbrev cX0_reach : ByteArray := prog_2_method_10_code
def yX0_reach : MethodName := ⟨RX0, "reach", "(II)V"⟩
abbrev cX0_isState : ByteArray := prog_2_method_11_code
def yX0_isState : MethodName := ⟨RX0, "isState", "(I)Z"⟩
def RX1 : String := "JugglingRows$Line"
def TX1 : u_T := fun k => match k with
  | 0 => ("JugglingRows$Line", "length", "I", false)
  | _ => ("JugglingRows$Line", "characters", "[C", true)
def tyX1 : Nat → FieldType := fun k => match k with
  | 0 => .int
  | _ => .array .char
abbrev wsX10 : List Cond := u_ws RX1 TX1 2
theorem nmX1 : ∀ a, a < 2 → ∀ b, b < 2 → a ≠ b → (TX1 a).2.1 ≠ (TX1 b).2.1 := by decide +kernel
theorem tyX1_ok : ∀ k, k < 2 → parseFieldDescriptor (TX1 k).2.2.1 = some (tyX1 k) := by decide +kernel
abbrev cX1_init : ByteArray := prog_3_method_1_code
def yX1_init : MethodName := ⟨RX1, "<init>", "()V"⟩
abbrev cX1_clear : ByteArray := prog_3_method_2_code
def yX1_clear : MethodName := ⟨RX1, "clear", "()V"⟩
abbrev cX1_put : ByteArray := prog_3_method_3_code
def yX1_put : MethodName := ⟨RX1, "put", "(C)V"⟩
abbrev cX1_putDigit : ByteArray := prog_3_method_4_code
def yX1_putDigit : MethodName := ⟨RX1, "putDigit", "(I)V"⟩
abbrev cX1_codeAt : ByteArray := prog_3_method_5_code
def yX1_codeAt : MethodName := ⟨RX1, "codeAt", "(I)I"⟩
def RX2 : String := "JugglingRows$Past"
def TX2 : u_T := fun k => match k with
  | 0 => ("JugglingRows$Past", "stands", "[LJugglingRows$Stand;", true)
  | 1 => ("JugglingRows$Past", "next", "I", false)
  | _ => ("JugglingRows$Past", "kept", "I", false)
def tyX2 : Nat → FieldType := fun k => match k with
  | 0 => .array (.object "JugglingRows$Stand")
  | 1 => .int
  | _ => .int
abbrev wsX20 : List Cond := u_ws RX2 TX2 3
theorem nmX2 : ∀ a, a < 3 → ∀ b, b < 3 → a ≠ b → (TX2 a).2.1 ≠ (TX2 b).2.1 := by decide +kernel
theorem tyX2_ok : ∀ k, k < 3 → parseFieldDescriptor (TX2 k).2.2.1 = some (tyX2 k) := by decide +kernel
abbrev cX2_init : ByteArray := prog_4_method_1_code
def yX2_init : MethodName := ⟨RX2, "<init>", "()V"⟩
abbrev cX2_keep : ByteArray := prog_4_method_2_code
def yX2_keep : MethodName := ⟨RX2, "keep", "(LJugglingRows$Stand;)V"⟩
abbrev cX2_takeBack : ByteArray := prog_4_method_3_code
def yX2_takeBack : MethodName := ⟨RX2, "takeBack", "(LJugglingRows$Stand;)Z"⟩
abbrev cX2_forget : ByteArray := prog_4_method_4_code
def yX2_forget : MethodName := ⟨RX2, "forget", "()V"⟩
def RX3 : String := "JugglingRows$Refusals"
def TX3 : u_T := fun k => match k with
  | 0 => ("JugglingRows$Refusals", "reason", "I", false)
  | 1 => ("JugglingRows$Refusals", "detail", "I", false)
  | 2 => ("JugglingRows$Refusals", "command", "I", false)
  | _ => ("JugglingRows$Refusals", "commandNow", "I", false)
def tyX3 : Nat → FieldType := fun k => match k with
  | 0 => .int
  | 1 => .int
  | 2 => .int
  | _ => .int
abbrev wsX30 : List Cond := u_ws RX3 TX3 4
theorem nmX3 : ∀ a, a < 4 → ∀ b, b < 4 → a ≠ b → (TX3 a).2.1 ≠ (TX3 b).2.1 := by decide +kernel
theorem tyX3_ok : ∀ k, k < 4 → parseFieldDescriptor (TX3 k).2.2.1 = some (tyX3 k) := by decide +kernel
abbrev cX3_init : ByteArray := prog_5_method_1_code
def yX3_init : MethodName := ⟨RX3, "<init>", "()V"⟩
abbrev cX3_refuse : ByteArray := prog_5_method_2_code
def yX3_refuse : MethodName := ⟨RX3, "refuse", "(II)I"⟩
def RX4 : String := "JugglingRows$Row"
def TX4 : u_T := fun k => match k with
  | 0 => ("JugglingRows$Row", "length", "I", false)
  | _ => ("JugglingRows$Row", "heights", "[I", true)
def tyX4 : Nat → FieldType := fun k => match k with
  | 0 => .int
  | _ => .array .int
abbrev wsX40 : List Cond := u_ws RX4 TX4 2
theorem nmX4 : ∀ a, a < 2 → ∀ b, b < 2 → a ≠ b → (TX4 a).2.1 ≠ (TX4 b).2.1 := by decide +kernel
theorem tyX4_ok : ∀ k, k < 2 → parseFieldDescriptor (TX4 k).2.2.1 = some (tyX4 k) := by decide +kernel
abbrev cX4_init : ByteArray := prog_6_method_1_code
def yX4_init : MethodName := ⟨RX4, "<init>", "()V"⟩
abbrev cX4_copyThrows : ByteArray := prog_6_method_2_code
def yX4_copyThrows : MethodName := ⟨RX4, "copyThrows", "(LJugglingRows$Row;)V"⟩
abbrev cX4_fill : ByteArray := prog_6_method_3_code
def yX4_fill : MethodName := ⟨RX4, "fill", "(II)V"⟩
abbrev cX4_hasBeat : ByteArray := prog_6_method_4_code
def yX4_hasBeat : MethodName := ⟨RX4, "hasBeat", "(I)Z"⟩
abbrev cX4_heightAt : ByteArray := prog_6_method_5_code
def yX4_heightAt : MethodName := ⟨RX4, "heightAt", "(I)I"⟩
abbrev cX4_setHeight : ByteArray := prog_6_method_6_code
def yX4_setHeight : MethodName := ⟨RX4, "setHeight", "(II)V"⟩
abbrev cX4_moveFirstToEnd : ByteArray := prog_6_method_7_code
def yX4_moveFirstToEnd : MethodName := ⟨RX4, "moveFirstToEnd", "()V"⟩
abbrev cX4_sum : ByteArray := prog_6_method_8_code
def yX4_sum : MethodName := ⟨RX4, "sum", "()I"⟩
abbrev cX4_greatest : ByteArray := prog_6_method_9_code
def yX4_greatest : MethodName := ⟨RX4, "greatest", "()I"⟩
abbrev cX4_throwsToOtherHand : ByteArray := prog_6_method_10_code
def yX4_throwsToOtherHand : MethodName := ⟨RX4, "throwsToOtherHand", "()I"⟩
abbrev cX4_landing : ByteArray := prog_6_method_11_code
def yX4_landing : MethodName := ⟨RX4, "landing", "(I)I"⟩
abbrev cX4_marksEachLanding : ByteArray := prog_6_method_12_code
def yX4_marksEachLanding : MethodName := ⟨RX4, "marksEachLanding", "()Z"⟩
abbrev cX4_lowestClash : ByteArray := prog_6_method_13_code
def yX4_lowestClash : MethodName := ⟨RX4, "lowestClash", "()I"⟩
abbrev cX4_balls : ByteArray := prog_6_method_14_code
def yX4_balls : MethodName := ⟨RX4, "balls", "()I"⟩
abbrev cX4_stateAt : ByteArray := prog_6_method_15_code
def yX4_stateAt : MethodName := ⟨RX4, "stateAt", "(I)I"⟩
abbrev cX4_period : ByteArray := prog_6_method_16_code
def yX4_period : MethodName := ⟨RX4, "period", "()I"⟩
abbrev cX4_repeatsBy : ByteArray := prog_6_method_17_code
def yX4_repeatsBy : MethodName := ⟨RX4, "repeatsBy", "(I)Z"⟩
abbrev cX4_statesDiffer : ByteArray := prog_6_method_18_code
def yX4_statesDiffer : MethodName := ⟨RX4, "statesDiffer", "()I"⟩
abbrev cX4_statesHoldTheBalls : ByteArray := prog_6_method_19_code
def yX4_statesHoldTheBalls : MethodName := ⟨RX4, "statesHoldTheBalls", "()Z"⟩
def RX5 : String := "JugglingRows$Stand"
def TX5 : u_T := fun k => match k with
  | 0 => ("JugglingRows$Stand", "count", "I", false)
  | 1 => ("JugglingRows$Stand", "rows", "[LJugglingRows$Row;", true)
  | 2 => ("JugglingRows$Stand", "state", "I", false)
  | 3 => ("JugglingRows$Stand", "beats", "I", false)
  | 4 => ("JugglingRows$Stand", "thrown", "I", false)
  | 5 => ("JugglingRows$Stand", "thrownBalls", "I", false)
  | 6 => ("JugglingRows$Stand", "highestThrown", "I", false)
  | 7 => ("JugglingRows$Stand", "joined", "I", false)
  | _ => ("JugglingRows$Stand", "begun", "I", false)
def tyX5 : Nat → FieldType := fun k => match k with
  | 0 => .int
  | 1 => .array (.object "JugglingRows$Row")
  | 2 => .int
  | 3 => .int
  | 4 => .int
  | 5 => .int
  | 6 => .int
  | 7 => .int
  | _ => .int
abbrev wsX50 : List Cond := u_ws RX5 TX5 9
theorem nmX5 : ∀ a, a < 9 → ∀ b, b < 9 → a ≠ b → (TX5 a).2.1 ≠ (TX5 b).2.1 := by decide +kernel
theorem tyX5_ok : ∀ k, k < 9 → parseFieldDescriptor (TX5 k).2.2.1 = some (tyX5 k) := by decide +kernel
abbrev cX5_init : ByteArray := prog_7_method_1_code
def yX5_init : MethodName := ⟨RX5, "<init>", "()V"⟩
abbrev cX5_copyFrom : ByteArray := prog_7_method_2_code
def yX5_copyFrom : MethodName := ⟨RX5, "copyFrom", "(LJugglingRows$Stand;)V"⟩
abbrev cX5_rowNumbered : ByteArray := prog_7_method_3_code
def yX5_rowNumbered : MethodName := ⟨RX5, "rowNumbered", "(I)LJugglingRows$Row;"⟩
abbrev cX5_appendRow : ByteArray := prog_7_method_4_code
def yX5_appendRow : MethodName := ⟨RX5, "appendRow", "(II)I"⟩
abbrev cX5_removeRow : ByteArray := prog_7_method_5_code
def yX5_removeRow : MethodName := ⟨RX5, "removeRow", "(I)Z"⟩
abbrev cX5_balls : ByteArray := prog_7_method_6_code
def yX5_balls : MethodName := ⟨RX5, "balls", "()I"⟩
abbrev cX5_throwOne : ByteArray := prog_7_method_7_code
def yX5_throwOne : MethodName := ⟨RX5, "throwOne", "(I)V"⟩
abbrev cX5_countClean : ByteArray := prog_7_method_8_code
def yX5_countClean : MethodName := ⟨RX5, "countClean", "()I"⟩
abbrev cX5_ballsOfCleanRows : ByteArray := prog_7_method_9_code
def yX5_ballsOfCleanRows : MethodName := ⟨RX5, "ballsOfCleanRows", "()I"⟩
abbrev cX5_countThrows : ByteArray := prog_7_method_10_code
def yX5_countThrows : MethodName := ⟨RX5, "countThrows", "()I"⟩
abbrev cX5_sumOfThrows : ByteArray := prog_7_method_11_code
def yX5_sumOfThrows : MethodName := ⟨RX5, "sumOfThrows", "()I"⟩
def RX6 : String := "JugglingRows$Text"
def TX6 : u_T := fun k => match k with
  | 0 => ("JugglingRows$Text", "length", "I", false)
  | _ => ("JugglingRows$Text", "characters", "[C", true)
def tyX6 : Nat → FieldType := fun k => match k with
  | 0 => .int
  | _ => .array .char
abbrev wsX60 : List Cond := u_ws RX6 TX6 2
theorem nmX6 : ∀ a, a < 2 → ∀ b, b < 2 → a ≠ b → (TX6 a).2.1 ≠ (TX6 b).2.1 := by decide +kernel
theorem tyX6_ok : ∀ k, k < 2 → parseFieldDescriptor (TX6 k).2.2.1 = some (tyX6 k) := by decide +kernel
abbrev cX6_init : ByteArray := prog_8_method_1_code
def yX6_init : MethodName := ⟨RX6, "<init>", "()V"⟩
abbrev cX6_clear : ByteArray := prog_8_method_2_code
def yX6_clear : MethodName := ⟨RX6, "clear", "()V"⟩
abbrev cX6_put : ByteArray := prog_8_method_3_code
def yX6_put : MethodName := ⟨RX6, "put", "(I)Z"⟩
abbrev cX6_codeAt : ByteArray := prog_8_method_4_code
def yX6_codeAt : MethodName := ⟨RX6, "codeAt", "(I)I"⟩
abbrev cX6_digitAt : ByteArray := prog_8_method_5_code
def yX6_digitAt : MethodName := ⟨RX6, "digitAt", "(I)I"⟩
abbrev cX6_digitsFrom : ByteArray := prog_8_method_6_code
def yX6_digitsFrom : MethodName := ⟨RX6, "digitsFrom", "(II)I"⟩
abbrev cX6_digitsBehind : ByteArray := prog_8_method_7_code
def yX6_digitsBehind : MethodName := ⟨RX6, "digitsBehind", "(I)I"⟩
abbrev cX6_faultPosition : ByteArray := prog_8_method_8_code
def yX6_faultPosition : MethodName := ⟨RX6, "faultPosition", "()I"⟩
abbrev cX6_endOfCommand : ByteArray := prog_8_method_9_code
def yX6_endOfCommand : MethodName := ⟨RX6, "endOfCommand", "(I)I"⟩
abbrev cX6_numberAt : ByteArray := prog_8_method_10_code
def yX6_numberAt : MethodName := ⟨RX6, "numberAt", "(I)I"⟩
def RX7 : String := "JugglingRows"
def TX7 : u_T := fun k => match k with
  | 0 => ("JugglingRows", "now", "LJugglingRows$Stand;", true)
  | 1 => ("JugglingRows", "before", "LJugglingRows$Stand;", true)
  | 2 => ("JugglingRows", "snapshot", "LJugglingRows$Stand;", true)
  | 3 => ("JugglingRows", "hasSnapshot", "Z", false)
  | 4 => ("JugglingRows", "past", "LJugglingRows$Past;", true)
  | 5 => ("JugglingRows", "joins", "LJugglingRows$Joins;", true)
  | 6 => ("JugglingRows", "line", "LJugglingRows$Line;", true)
  | 7 => ("JugglingRows", "text", "LJugglingRows$Text;", true)
  | 8 => ("JugglingRows", "refusals", "LJugglingRows$Refusals;", true)
  | _ => ("JugglingRows", "rankKeys", "[I", true)
def tyX7 : Nat → FieldType := fun k => match k with
  | 0 => .object "JugglingRows$Stand"
  | 1 => .object "JugglingRows$Stand"
  | 2 => .object "JugglingRows$Stand"
  | 3 => .boolean
  | 4 => .object "JugglingRows$Past"
  | 5 => .object "JugglingRows$Joins"
  | 6 => .object "JugglingRows$Line"
  | 7 => .object "JugglingRows$Text"
  | 8 => .object "JugglingRows$Refusals"
  | _ => .array .int
abbrev wsX70 : List Cond := u_ws RX7 TX7 10
theorem nmX7 : ∀ a, a < 10 → ∀ b, b < 10 → a ≠ b → (TX7 a).2.1 ≠ (TX7 b).2.1 := by decide +kernel
theorem tyX7_ok : ∀ k, k < 10 → parseFieldDescriptor (TX7 k).2.2.1 = some (tyX7 k) := by decide +kernel
abbrev cX7_init : ByteArray := prog_1_method_1_code
def yX7_init : MethodName := ⟨RX7, "<init>", "()V"⟩
abbrev cX7_row : ByteArray := prog_1_method_2_code
def yX7_row : MethodName := ⟨RX7, "row", "(II)I"⟩
abbrev cX7_drop : ByteArray := prog_1_method_3_code
def yX7_drop : MethodName := ⟨RX7, "drop", "(I)I"⟩
abbrev cX7_turn : ByteArray := prog_1_method_4_code
def yX7_turn : MethodName := ⟨RX7, "turn", "(I)I"⟩
abbrev cX7_swap : ByteArray := prog_1_method_5_code
def yX7_swap : MethodName := ⟨RX7, "swap", "(III)I"⟩
abbrev cX7_lift : ByteArray := prog_1_method_6_code
def yX7_lift : MethodName := ⟨RX7, "lift", "(I)I"⟩
abbrev cX7_begin : ByteArray := prog_1_method_7_code
def yX7_begin : MethodName := ⟨RX7, "begin", "(I)I"⟩
abbrev cX7_toss : ByteArray := prog_1_method_8_code
def yX7_toss : MethodName := ⟨RX7, "toss", "(I)I"⟩
abbrev cX7_join : ByteArray := prog_1_method_9_code
def yX7_join : MethodName := ⟨RX7, "join", "(I)I"⟩
abbrev cX7_once : ByteArray := prog_1_method_10_code
def yX7_once : MethodName := ⟨RX7, "once", "(I)I"⟩
abbrev cX7_rowOf : ByteArray := prog_1_method_11_code
def yX7_rowOf : MethodName := ⟨RX7, "rowOf", "(II)I"⟩
abbrev cX7_throwAt : ByteArray := prog_1_method_12_code
def yX7_throwAt : MethodName := ⟨RX7, "throwAt", "(II)I"⟩
abbrev cX7_isClean : ByteArray := prog_1_method_13_code
def yX7_isClean : MethodName := ⟨RX7, "isClean", "(I)I"⟩
abbrev cX7_isCleanAgain : ByteArray := prog_1_method_14_code
def yX7_isCleanAgain : MethodName := ⟨RX7, "isCleanAgain", "(I)I"⟩
abbrev cX7_stateOf : ByteArray := prog_1_method_15_code
def yX7_stateOf : MethodName := ⟨RX7, "stateOf", "(II)I"⟩
abbrev cX7_juggler : ByteArray := prog_1_method_16_code
def yX7_juggler : MethodName := ⟨RX7, "juggler", "(I)I"⟩
abbrev cX7_could : ByteArray := prog_1_method_17_code
def yX7_could : MethodName := ⟨RX7, "could", "(I)I"⟩
abbrev cX7_joinTo : ByteArray := prog_1_method_18_code
def yX7_joinTo : MethodName := ⟨RX7, "joinTo", "(I)I"⟩
abbrev cX7_joinAgain : ByteArray := prog_1_method_19_code
def yX7_joinAgain : MethodName := ⟨RX7, "joinAgain", "(I)I"⟩
abbrev cX7_joinThrow : ByteArray := prog_1_method_20_code
def yX7_joinThrow : MethodName := ⟨RX7, "joinThrow", "(II)I"⟩
abbrev cX7_between : ByteArray := prog_1_method_21_code
def yX7_between : MethodName := ⟨RX7, "between", "(II)I"⟩
abbrev cX7_ranked : ByteArray := prog_1_method_22_code
def yX7_ranked : MethodName := ⟨RX7, "ranked", "(II)I"⟩
abbrev cX7_tellRow : ByteArray := prog_1_method_23_code
def yX7_tellRow : MethodName := ⟨RX7, "tellRow", "(I)I"⟩
abbrev cX7_tellState : ByteArray := prog_1_method_24_code
def yX7_tellState : MethodName := ⟨RX7, "tellState", "()I"⟩
abbrev cX7_tellJoin : ByteArray := prog_1_method_25_code
def yX7_tellJoin : MethodName := ⟨RX7, "tellJoin", "(I)I"⟩
abbrev cX7_sign : ByteArray := prog_1_method_26_code
def yX7_sign : MethodName := ⟨RX7, "sign", "(I)I"⟩
abbrev cX7_append : ByteArray := prog_1_method_27_code
def yX7_append : MethodName := ⟨RX7, "append", "(I)I"⟩
abbrev cX7_read : ByteArray := prog_1_method_28_code
def yX7_read : MethodName := ⟨RX7, "read", "()I"⟩
abbrev cX7_refusal : ByteArray := prog_1_method_29_code
def yX7_refusal : MethodName := ⟨RX7, "refusal", "(I)I"⟩
abbrev cX7_account : ByteArray := prog_1_method_30_code
def yX7_account : MethodName := ⟨RX7, "account", "(I)I"⟩
abbrev cX7_isWell : ByteArray := prog_1_method_31_code
def yX7_isWell : MethodName := ⟨RX7, "isWell", "()I"⟩
abbrev cX7_mean : ByteArray := prog_1_method_32_code
def yX7_mean : MethodName := ⟨RX7, "mean", "()I"⟩
abbrev cX7_undo : ByteArray := prog_1_method_33_code
def yX7_undo : MethodName := ⟨RX7, "undo", "()I"⟩
abbrev cX7_save : ByteArray := prog_1_method_34_code
def yX7_save : MethodName := ⟨RX7, "save", "()I"⟩
abbrev cX7_restore : ByteArray := prog_1_method_35_code
def yX7_restore : MethodName := ⟨RX7, "restore", "()I"⟩
abbrev cX7_addRow : ByteArray := prog_1_method_36_code
def yX7_addRow : MethodName := ⟨RX7, "addRow", "(II)I"⟩
abbrev cX7_dropRow : ByteArray := prog_1_method_37_code
def yX7_dropRow : MethodName := ⟨RX7, "dropRow", "(I)I"⟩
abbrev cX7_turnRow : ByteArray := prog_1_method_38_code
def yX7_turnRow : MethodName := ⟨RX7, "turnRow", "(I)I"⟩
abbrev cX7_swapBeats : ByteArray := prog_1_method_39_code
def yX7_swapBeats : MethodName := ⟨RX7, "swapBeats", "(III)I"⟩
abbrev cX7_liftRow : ByteArray := prog_1_method_40_code
def yX7_liftRow : MethodName := ⟨RX7, "liftRow", "(I)I"⟩
abbrev cX7_beginWith : ByteArray := prog_1_method_41_code
def yX7_beginWith : MethodName := ⟨RX7, "beginWith", "(I)I"⟩
abbrev cX7_makeThrow : ByteArray := prog_1_method_42_code
def yX7_makeThrow : MethodName := ⟨RX7, "makeThrow", "(I)I"⟩
abbrev cX7_makeJoin : ByteArray := prog_1_method_43_code
def yX7_makeJoin : MethodName := ⟨RX7, "makeJoin", "(I)I"⟩
abbrev cX7_makeRowOnce : ByteArray := prog_1_method_44_code
def yX7_makeRowOnce : MethodName := ⟨RX7, "makeRowOnce", "(I)I"⟩
abbrev cX7_isOutOfReach : ByteArray := prog_1_method_45_code
def yX7_isOutOfReach : MethodName := ⟨RX7, "isOutOfReach", "(LJugglingRows$Row;)Z"⟩
abbrev cX7_keepChange : ByteArray := prog_1_method_46_code
def yX7_keepChange : MethodName := ⟨RX7, "keepChange", "(I)I"⟩
abbrev cX7_isError : ByteArray := prog_1_method_47_code
def yX7_isError : MethodName := ⟨RX7, "isError", "(I)Z"⟩
abbrev cX7_carryOutAll : ByteArray := prog_1_method_48_code
def yX7_carryOutAll : MethodName := ⟨RX7, "carryOutAll", "()I"⟩
abbrev cX7_carryOut : ByteArray := prog_1_method_49_code
def yX7_carryOut : MethodName := ⟨RX7, "carryOut", "(I)I"⟩
abbrev cX7_canMake : ByteArray := prog_1_method_50_code
def yX7_canMake : MethodName := ⟨RX7, "canMake", "(II)Z"⟩
abbrev cX7_stateBehind : ByteArray := prog_1_method_51_code
def yX7_stateBehind : MethodName := ⟨RX7, "stateBehind", "(II)I"⟩
abbrev cX7_countPossible : ByteArray := prog_1_method_52_code
def yX7_countPossible : MethodName := ⟨RX7, "countPossible", "(I)I"⟩
abbrev cX7_hasJoin : ByteArray := prog_1_method_53_code
def yX7_hasJoin : MethodName := ⟨RX7, "hasJoin", "(LJugglingRows$Row;)Z"⟩
abbrev cX7_rankKey : ByteArray := prog_1_method_54_code
def yX7_rankKey : MethodName := ⟨RX7, "rankKey", "(II)I"⟩
abbrev cX7_countAhead : ByteArray := prog_1_method_55_code
def yX7_countAhead : MethodName := ⟨RX7, "countAhead", "(I)I"⟩
abbrev cX7_isAhead : ByteArray := prog_1_method_56_code
def yX7_isAhead : MethodName := ⟨RX7, "isAhead", "(II)Z"⟩
abbrev cX7_isRowWell : ByteArray := prog_1_method_57_code
def yX7_isRowWell : MethodName := ⟨RX7, "isRowWell", "(LJugglingRows$Row;)Z"⟩
abbrev cX7_powerOfTen : ByteArray := prog_1_method_58_code
def yX7_powerOfTen : MethodName := ⟨RX7, "powerOfTen", "(I)I"⟩
abbrev cX7_bitsOf : ByteArray := prog_1_method_59_code
def yX7_bitsOf : MethodName := ⟨RX7, "bitsOf", "(F)I"⟩
def RX8 : String := "JugglingRowsModel"
def TX8 : u_T := fun k => match k with
  | 0 => ("JugglingRowsModel", "now", "[I", true)
  | 1 => ("JugglingRowsModel", "saved", "[I", true)
  | 2 => ("JugglingRowsModel", "before", "[I", true)
  | 3 => ("JugglingRowsModel", "history", "[[I", true)
  | 4 => ("JugglingRowsModel", "kept", "I", false)
  | 5 => ("JugglingRowsModel", "reason", "I", false)
  | 6 => ("JugglingRowsModel", "detail", "I", false)
  | 7 => ("JugglingRowsModel", "inText", "I", false)
  | 8 => ("JugglingRowsModel", "command", "I", false)
  | 9 => ("JugglingRowsModel", "isSaved", "Z", false)
  | 10 => ("JugglingRowsModel", "isInText", "Z", false)
  | 11 => ("JugglingRowsModel", "queue", "[I", true)
  | 12 => ("JugglingRowsModel", "from", "[I", true)
  | 13 => ("JugglingRowsModel", "by", "[I", true)
  | 14 => ("JugglingRowsModel", "join", "[I", true)
  | 15 => ("JugglingRowsModel", "length", "I", false)
  | 16 => ("JugglingRowsModel", "line", "[C", true)
  | 17 => ("JugglingRowsModel", "written", "I", false)
  | 18 => ("JugglingRowsModel", "text", "[I", true)
  | 19 => ("JugglingRowsModel", "read", "I", false)
  | 20 => ("JugglingRowsModel", "at", "I", false)
  | 21 => ("JugglingRowsModel", "what", "I", false)
  | 22 => ("JugglingRowsModel", "one", "I", false)
  | 23 => ("JugglingRowsModel", "other", "I", false)
  | 24 => ("JugglingRowsModel", "third", "I", false)
  | _ => ("JugglingRowsModel", "isWrong", "Z", false)
def tyX8 : Nat → FieldType := fun k => match k with
  | 0 => .array .int
  | 1 => .array .int
  | 2 => .array .int
  | 3 => .array (.array .int)
  | 4 => .int
  | 5 => .int
  | 6 => .int
  | 7 => .int
  | 8 => .int
  | 9 => .boolean
  | 10 => .boolean
  | 11 => .array .int
  | 12 => .array .int
  | 13 => .array .int
  | 14 => .array .int
  | 15 => .int
  | 16 => .array .char
  | 17 => .int
  | 18 => .array .int
  | 19 => .int
  | 20 => .int
  | 21 => .int
  | 22 => .int
  | 23 => .int
  | 24 => .int
  | _ => .boolean
abbrev wsX80 : List Cond := u_ws RX8 TX8 26
theorem nmX8 : ∀ a, a < 26 → ∀ b, b < 26 → a ≠ b → (TX8 a).2.1 ≠ (TX8 b).2.1 := by decide +kernel
theorem tyX8_ok : ∀ k, k < 26 → parseFieldDescriptor (TX8 k).2.2.1 = some (tyX8 k) := by decide +kernel
abbrev cX8_init : ByteArray := prog_10_method_1_code
def yX8_init : MethodName := ⟨RX8, "<init>", "()V"⟩
abbrev cX8_isBetween : ByteArray := prog_10_method_2_code
def yX8_isBetween : MethodName := ⟨RX8, "isBetween", "(III)Z"⟩
abbrev cX8_copyRow : ByteArray := prog_10_method_3_code
def yX8_copyRow : MethodName := ⟨RX8, "copyRow", "([I[I)V"⟩
abbrev cX8_refuse : ByteArray := prog_10_method_4_code
def yX8_refuse : MethodName := ⟨RX8, "refuse", "(ZII)Z"⟩
abbrev cX8_remember : ByteArray := prog_10_method_5_code
def yX8_remember : MethodName := ⟨RX8, "remember", "([I)V"⟩
abbrev cX8_change : ByteArray := prog_10_method_6_code
def yX8_change : MethodName := ⟨RX8, "change", "()V"⟩
abbrev cX8_isRow : ByteArray := prog_10_method_7_code
def yX8_isRow : MethodName := ⟨RX8, "isRow", "(I)Z"⟩
abbrev cX8_lengthOf : ByteArray := prog_10_method_8_code
def yX8_lengthOf : MethodName := ⟨RX8, "lengthOf", "(I)I"⟩
abbrev cX8_isBeat : ByteArray := prog_10_method_9_code
def yX8_isBeat : MethodName := ⟨RX8, "isBeat", "(II)Z"⟩
abbrev cX8_thrown : ByteArray := prog_10_method_10_code
def yX8_thrown : MethodName := ⟨RX8, "thrown", "(II)I"⟩
abbrev cX8_putThrow : ByteArray := prog_10_method_11_code
def yX8_putThrow : MethodName := ⟨RX8, "putThrow", "(III)V"⟩
abbrev cX8_sumOf : ByteArray := prog_10_method_12_code
def yX8_sumOf : MethodName := ⟨RX8, "sumOf", "(I)I"⟩
abbrev cX8_clashOf : ByteArray := prog_10_method_13_code
def yX8_clashOf : MethodName := ⟨RX8, "clashOf", "(I)I"⟩
abbrev cX8_ballsOf : ByteArray := prog_10_method_14_code
def yX8_ballsOf : MethodName := ⟨RX8, "ballsOf", "(I)I"⟩
abbrev cX8_stateAt : ByteArray := prog_10_method_15_code
def yX8_stateAt : MethodName := ⟨RX8, "stateAt", "(II)I"⟩
abbrev cX8_can : ByteArray := prog_10_method_16_code
def yX8_can : MethodName := ⟨RX8, "can", "(II)Z"⟩
abbrev cX8_behind : ByteArray := prog_10_method_17_code
def yX8_behind : MethodName := ⟨RX8, "behind", "(II)I"⟩
abbrev cX8_findJoin : ByteArray := prog_10_method_18_code
def yX8_findJoin : MethodName := ⟨RX8, "findJoin", "(II)Z"⟩
abbrev cX8_takeJoin : ByteArray := prog_10_method_19_code
def yX8_takeJoin : MethodName := ⟨RX8, "takeJoin", "(I)V"⟩
abbrev cX8_findJoinTo : ByteArray := prog_10_method_20_code
def yX8_findJoinTo : MethodName := ⟨RX8, "findJoinTo", "(I)Z"⟩
abbrev cX8_row : ByteArray := prog_10_method_21_code
def yX8_row : MethodName := ⟨RX8, "row", "(II)I"⟩
abbrev cX8_drop : ByteArray := prog_10_method_22_code
def yX8_drop : MethodName := ⟨RX8, "drop", "(I)I"⟩
abbrev cX8_turn : ByteArray := prog_10_method_23_code
def yX8_turn : MethodName := ⟨RX8, "turn", "(I)I"⟩
abbrev cX8_swap : ByteArray := prog_10_method_24_code
def yX8_swap : MethodName := ⟨RX8, "swap", "(III)I"⟩
abbrev cX8_orNothing : ByteArray := prog_10_method_25_code
def yX8_orNothing : MethodName := ⟨RX8, "orNothing", "(I)I"⟩
abbrev cX8_lift : ByteArray := prog_10_method_26_code
def yX8_lift : MethodName := ⟨RX8, "lift", "(I)I"⟩
abbrev cX8_begin : ByteArray := prog_10_method_27_code
def yX8_begin : MethodName := ⟨RX8, "begin", "(I)I"⟩
abbrev cX8_makeThrow : ByteArray := prog_10_method_28_code
def yX8_makeThrow : MethodName := ⟨RX8, "makeThrow", "(I)V"⟩
abbrev cX8_toss : ByteArray := prog_10_method_29_code
def yX8_toss : MethodName := ⟨RX8, "toss", "(I)I"⟩
abbrev cX8_isNotFor : ByteArray := prog_10_method_30_code
def yX8_isNotFor : MethodName := ⟨RX8, "isNotFor", "(I)Z"⟩
abbrev cX8_join : ByteArray := prog_10_method_31_code
def yX8_join : MethodName := ⟨RX8, "join", "(I)I"⟩
abbrev cX8_once : ByteArray := prog_10_method_32_code
def yX8_once : MethodName := ⟨RX8, "once", "(I)I"⟩
abbrev cX8_repeatsBy : ByteArray := prog_10_method_33_code
def yX8_repeatsBy : MethodName := ⟨RX8, "repeatsBy", "(II)Z"⟩
abbrev cX8_periodOf : ByteArray := prog_10_method_34_code
def yX8_periodOf : MethodName := ⟨RX8, "periodOf", "(I)I"⟩
abbrev cX8_greatestOf : ByteArray := prog_10_method_35_code
def yX8_greatestOf : MethodName := ⟨RX8, "greatestOf", "(I)I"⟩
abbrev cX8_oddOf : ByteArray := prog_10_method_36_code
def yX8_oddOf : MethodName := ⟨RX8, "oddOf", "(I)I"⟩
abbrev cX8_isPrime : ByteArray := prog_10_method_37_code
def yX8_isPrime : MethodName := ⟨RX8, "isPrime", "(I)I"⟩
abbrev cX8_rowOf : ByteArray := prog_10_method_38_code
def yX8_rowOf : MethodName := ⟨RX8, "rowOf", "(II)I"⟩
abbrev cX8_throwAt : ByteArray := prog_10_method_39_code
def yX8_throwAt : MethodName := ⟨RX8, "throwAt", "(II)I"⟩
abbrev cX8_isClean : ByteArray := prog_10_method_40_code
def yX8_isClean : MethodName := ⟨RX8, "isClean", "(I)I"⟩
abbrev cX8_isCleanAgain : ByteArray := prog_10_method_41_code
def yX8_isCleanAgain : MethodName := ⟨RX8, "isCleanAgain", "(I)I"⟩
abbrev cX8_stateOf : ByteArray := prog_10_method_42_code
def yX8_stateOf : MethodName := ⟨RX8, "stateOf", "(II)I"⟩
abbrev cX8_throwsNow : ByteArray := prog_10_method_43_code
def yX8_throwsNow : MethodName := ⟨RX8, "throwsNow", "()I"⟩
abbrev cX8_juggler : ByteArray := prog_10_method_44_code
def yX8_juggler : MethodName := ⟨RX8, "juggler", "(I)I"⟩
abbrev cX8_could : ByteArray := prog_10_method_45_code
def yX8_could : MethodName := ⟨RX8, "could", "(I)I"⟩
abbrev cX8_joinTo : ByteArray := prog_10_method_46_code
def yX8_joinTo : MethodName := ⟨RX8, "joinTo", "(I)I"⟩
abbrev cX8_joinAgain : ByteArray := prog_10_method_47_code
def yX8_joinAgain : MethodName := ⟨RX8, "joinAgain", "(I)I"⟩
abbrev cX8_joinThrow : ByteArray := prog_10_method_48_code
def yX8_joinThrow : MethodName := ⟨RX8, "joinThrow", "(II)I"⟩
abbrev cX8_between : ByteArray := prog_10_method_49_code
def yX8_between : MethodName := ⟨RX8, "between", "(II)I"⟩
abbrev cX8_worth : ByteArray := prog_10_method_50_code
def yX8_worth : MethodName := ⟨RX8, "worth", "(II)I"⟩
abbrev cX8_ranked : ByteArray := prog_10_method_51_code
def yX8_ranked : MethodName := ⟨RX8, "ranked", "(II)I"⟩
abbrev cX8_write : ByteArray := prog_10_method_52_code
def yX8_write : MethodName := ⟨RX8, "write", "(I)V"⟩
abbrev cX8_tellRow : ByteArray := prog_10_method_53_code
def yX8_tellRow : MethodName := ⟨RX8, "tellRow", "(I)I"⟩
abbrev cX8_tellState : ByteArray := prog_10_method_54_code
def yX8_tellState : MethodName := ⟨RX8, "tellState", "()I"⟩
abbrev cX8_tellJoin : ByteArray := prog_10_method_55_code
def yX8_tellJoin : MethodName := ⟨RX8, "tellJoin", "(I)I"⟩
abbrev cX8_sign : ByteArray := prog_10_method_56_code
def yX8_sign : MethodName := ⟨RX8, "sign", "(I)I"⟩
abbrev cX8_append : ByteArray := prog_10_method_57_code
def yX8_append : MethodName := ⟨RX8, "append", "(I)I"⟩
abbrev cX8_sees : ByteArray := prog_10_method_58_code
def yX8_sees : MethodName := ⟨RX8, "sees", "(II)Z"⟩
abbrev cX8_readDigit : ByteArray := prog_10_method_59_code
def yX8_readDigit : MethodName := ⟨RX8, "readDigit", "()I"⟩
abbrev cX8_readRow : ByteArray := prog_10_method_60_code
def yX8_readRow : MethodName := ⟨RX8, "readRow", "()V"⟩
abbrev cX8_readCommand : ByteArray := prog_10_method_61_code
def yX8_readCommand : MethodName := ⟨RX8, "readCommand", "()V"⟩
abbrev cX8_countCommands : ByteArray := prog_10_method_62_code
def yX8_countCommands : MethodName := ⟨RX8, "countCommands", "()I"⟩
abbrev cX8_carryOut : ByteArray := prog_10_method_63_code
def yX8_carryOut : MethodName := ⟨RX8, "carryOut", "()I"⟩
abbrev cX8_read : ByteArray := prog_10_method_64_code
def yX8_read : MethodName := ⟨RX8, "read", "()I"⟩
abbrev cX8_refusal : ByteArray := prog_10_method_65_code
def yX8_refusal : MethodName := ⟨RX8, "refusal", "(I)I"⟩
abbrev cX8_sumOver : ByteArray := prog_10_method_66_code
def yX8_sumOver : MethodName := ⟨RX8, "sumOver", "(I)I"⟩
abbrev cX8_account : ByteArray := prog_10_method_67_code
def yX8_account : MethodName := ⟨RX8, "account", "(I)I"⟩
abbrev cX8_isWell : ByteArray := prog_10_method_68_code
def yX8_isWell : MethodName := ⟨RX8, "isWell", "()I"⟩
abbrev cX8_mean : ByteArray := prog_10_method_69_code
def yX8_mean : MethodName := ⟨RX8, "mean", "()I"⟩
abbrev cX8_undo : ByteArray := prog_10_method_70_code
def yX8_undo : MethodName := ⟨RX8, "undo", "()I"⟩
abbrev cX8_save : ByteArray := prog_10_method_71_code
def yX8_save : MethodName := ⟨RX8, "save", "()I"⟩
abbrev cX8_restore : ByteArray := prog_10_method_72_code
def yX8_restore : MethodName := ⟨RX8, "restore", "()I"⟩
def RJx145de : String := "java/io/Serializable"
def TJx145de : u_T := fun k => match k with
  | _ => ("", "", "", false)
def tyJx145de : Nat → FieldType := fun k => match k with
  | _ => .int
abbrev wsJx145de0 : List Cond := u_ws RJx145de TJx145de 0
theorem nmJx145de : ∀ a, a < 0 → ∀ b, b < 0 → a ≠ b → (TJx145de a).2.1 ≠ (TJx145de b).2.1 := by decide +kernel
theorem tyJx145de_ok : ∀ k, k < 0 → parseFieldDescriptor (TJx145de k).2.2.1 = some (tyJx145de k) := by decide +kernel
def RJx9f9b0 : String := "java/lang/CharSequence"
def TJx9f9b0 : u_T := fun k => match k with
  | _ => ("", "", "", false)
def tyJx9f9b0 : Nat → FieldType := fun k => match k with
  | _ => .int
abbrev wsJx9f9b00 : List Cond := u_ws RJx9f9b0 TJx9f9b0 0
theorem nmJx9f9b0 : ∀ a, a < 0 → ∀ b, b < 0 → a ≠ b → (TJx9f9b0 a).2.1 ≠ (TJx9f9b0 b).2.1 := by decide +kernel
theorem tyJx9f9b0_ok : ∀ k, k < 0 → parseFieldDescriptor (TJx9f9b0 k).2.2.1 = some (tyJx9f9b0 k) := by decide +kernel
def RJ11 : String := "java/lang/Character"
def TJ11 : u_T := fun k => match k with
  | _ => ("", "", "", false)
def tyJ11 : Nat → FieldType := fun k => match k with
  | _ => .int
abbrev wsJ110 : List Cond := u_ws RJ11 TJ11 0
theorem nmJ11 : ∀ a, a < 0 → ∀ b, b < 0 → a ≠ b → (TJ11 a).2.1 ≠ (TJ11 b).2.1 := by decide +kernel
theorem tyJ11_ok : ∀ k, k < 0 → parseFieldDescriptor (TJ11 k).2.2.1 = some (tyJ11 k) := by decide +kernel
abbrev cJ11_isValidCodePoint_9a6ad : ByteArray := prog_11_method_11_code
def yJ11_isValidCodePoint_9a6ad : MethodName := ⟨RJ11, "isValidCodePoint", "(I)Z"⟩
abbrev cJ11_highSurrogate_5068e : ByteArray := prog_11_method_28_code
def yJ11_highSurrogate_5068e : MethodName := ⟨RJ11, "highSurrogate", "(I)C"⟩
abbrev cJ11_lowSurrogate_5068e : ByteArray := prog_11_method_29_code
def yJ11_lowSurrogate_5068e : MethodName := ⟨RJ11, "lowSurrogate", "(I)C"⟩
def RJxb160c : String := "java/lang/Comparable"
def TJxb160c : u_T := fun k => match k with
  | _ => ("", "", "", false)
def tyJxb160c : Nat → FieldType := fun k => match k with
  | _ => .int
abbrev wsJxb160c0 : List Cond := u_ws RJxb160c TJxb160c 0
theorem nmJxb160c : ∀ a, a < 0 → ∀ b, b < 0 → a ≠ b → (TJxb160c a).2.1 ≠ (TJxb160c b).2.1 := by decide +kernel
theorem tyJxb160c_ok : ∀ k, k < 0 → parseFieldDescriptor (TJxb160c k).2.2.1 = some (tyJxb160c k) := by decide +kernel
def RJxf58ca : String := "java/lang/Float"
def TJxf58ca : u_T := fun k => match k with
  | _ => ("", "", "", false)
def tyJxf58ca : Nat → FieldType := fun k => match k with
  | _ => .int
abbrev wsJxf58ca0 : List Cond := u_ws RJxf58ca TJxf58ca 0
theorem nmJxf58ca : ∀ a, a < 0 → ∀ b, b < 0 → a ≠ b → (TJxf58ca a).2.1 ≠ (TJxf58ca b).2.1 := by decide +kernel
theorem tyJxf58ca_ok : ∀ k, k < 0 → parseFieldDescriptor (TJxf58ca k).2.2.1 = some (tyJxf58ca k) := by decide +kernel
abbrev cJxf58ca_isNaN_12338 : ByteArray := prog_12_method_6_code
def yJxf58ca_isNaN_12338 : MethodName := ⟨RJxf58ca, "isNaN", "(F)Z"⟩
abbrev cJxf58ca_floatToIntBits_5c35a : ByteArray := prog_12_method_24_code
def yJxf58ca_floatToIntBits_5c35a : MethodName := ⟨RJxf58ca, "floatToIntBits", "(F)I"⟩
def RJ6 : String := "java/lang/Integer"
def TJ6 : u_T := fun k => match k with
  | _ => ("", "", "", false)
def tyJ6 : Nat → FieldType := fun k => match k with
  | _ => .int
abbrev wsJ60 : List Cond := u_ws RJ6 TJ6 0
theorem nmJ6 : ∀ a, a < 0 → ∀ b, b < 0 → a ≠ b → (TJ6 a).2.1 ≠ (TJ6 b).2.1 := by decide +kernel
theorem tyJ6_ok : ∀ k, k < 0 → parseFieldDescriptor (TJ6 k).2.2.1 = some (tyJ6 k) := by decide +kernel
abbrev cJ6_bitCount_0f7a4 : ByteArray := prog_13_method_49_code
def yJ6_bitCount_0f7a4 : MethodName := ⟨RJ6, "bitCount", "(I)I"⟩
def RJ9 : String := "java/lang/Math"
def TJ9 : u_T := fun k => match k with
  | _ => ("", "", "", false)
def tyJ9 : Nat → FieldType := fun k => match k with
  | _ => .int
abbrev wsJ90 : List Cond := u_ws RJ9 TJ9 0
theorem nmJ9 : ∀ a, a < 0 → ∀ b, b < 0 → a ≠ b → (TJ9 a).2.1 ≠ (TJ9 b).2.1 := by decide +kernel
theorem tyJ9_ok : ∀ k, k < 0 → parseFieldDescriptor (TJ9 k).2.2.1 = some (tyJ9 k) := by decide +kernel
abbrev cJ9_max_7cf53 : ByteArray := prog_14_method_65_code
def yJ9_max_7cf53 : MethodName := ⟨RJ9, "max", "(II)I"⟩
abbrev cJ9_min_7cf53 : ByteArray := prog_14_method_69_code
def yJ9_min_7cf53 : MethodName := ⟨RJ9, "min", "(II)I"⟩
def RJxd2413 : String := "java/lang/Number"
def TJxd2413 : u_T := fun k => match k with
  | _ => ("", "", "", false)
def tyJxd2413 : Nat → FieldType := fun k => match k with
  | _ => .int
abbrev wsJxd24130 : List Cond := u_ws RJxd2413 TJxd2413 0
theorem nmJxd2413 : ∀ a, a < 0 → ∀ b, b < 0 → a ≠ b → (TJxd2413 a).2.1 ≠ (TJxd2413 b).2.1 := by decide +kernel
theorem tyJxd2413_ok : ∀ k, k < 0 → parseFieldDescriptor (TJxd2413 k).2.2.1 = some (tyJxd2413 k) := by decide +kernel
def RJ0 : String := "java/lang/String"
def TJ0 : u_T := fun k => match k with
  | _ => ("", "", "", false)
def tyJ0 : Nat → FieldType := fun k => match k with
  | _ => .int
abbrev wsJ00 : List Cond := u_ws RJ0 TJ0 0
theorem nmJ0 : ∀ a, a < 0 → ∀ b, b < 0 → a ≠ b → (TJ0 a).2.1 ≠ (TJ0 b).2.1 := by decide +kernel
theorem tyJ0_ok : ∀ k, k < 0 → parseFieldDescriptor (TJ0 k).2.2.1 = some (tyJ0 k) := by decide +kernel
abbrev cJ0_length_8abf5 : ByteArray := prog_16_method_54_code
def yJ0_length_8abf5 : MethodName := ⟨RJ0, "length", "()I"⟩
abbrev cJ0_indexOf_0f7a4 : ByteArray := prog_16_method_79_code
def yJ0_indexOf_0f7a4 : MethodName := ⟨RJ0, "indexOf", "(I)I"⟩
abbrev cJ0_indexOf_7cf53 : ByteArray := prog_16_method_80_code
def yJ0_indexOf_7cf53 : MethodName := ⟨RJ0, "indexOf", "(II)I"⟩
abbrev cJ0_coder_7d493 : ByteArray := prog_16_method_152_code
def yJ0_coder_7d493 : MethodName := ⟨RJ0, "coder", "()B"⟩
abbrev cJ0_isLatin1_aae02 : ByteArray := prog_16_method_154_code
def yJ0_isLatin1_aae02 : MethodName := ⟨RJ0, "isLatin1", "()Z"⟩
abbrev cJ0_checkBoundsBeginEnd_23922 : ByteArray := prog_16_method_158_code
def yJ0_checkBoundsBeginEnd_23922 : MethodName := ⟨RJ0, "checkBoundsBeginEnd", "(III)V"⟩
def RJ1 : String := "java/lang/StringLatin1"
def TJ1 : u_T := fun k => match k with
  | _ => ("", "", "", false)
def tyJ1 : Nat → FieldType := fun k => match k with
  | _ => .int
abbrev wsJ10 : List Cond := u_ws RJ1 TJ1 0
theorem nmJ1 : ∀ a, a < 0 → ∀ b, b < 0 → a ≠ b → (TJ1 a).2.1 ≠ (TJ1 b).2.1 := by decide +kernel
theorem tyJ1_ok : ∀ k, k < 0 → parseFieldDescriptor (TJ1 k).2.2.1 = some (tyJ1 k) := by decide +kernel
abbrev cJ1_canEncode_9a6ad : ByteArray := prog_17_method_4_code
def yJ1_canEncode_9a6ad : MethodName := ⟨RJ1, "canEncode", "(I)Z"⟩
abbrev cJ1_indexOf_4cfef : ByteArray := prog_17_method_22_code
def yJ1_indexOf_4cfef : MethodName := ⟨RJ1, "indexOf", "([BIII)I"⟩
abbrev cJ1_indexOfChar_4cfef : ByteArray := prog_17_method_23_code
def yJ1_indexOfChar_4cfef : MethodName := ⟨RJ1, "indexOfChar", "([BIII)I"⟩
def RJ2 : String := "java/lang/StringUTF16"
def TJ2 : u_T := fun k => match k with
  | _ => ("", "", "", false)
def tyJ2 : Nat → FieldType := fun k => match k with
  | _ => .int
abbrev wsJ20 : List Cond := u_ws RJ2 TJ2 0
theorem nmJ2 : ∀ a, a < 0 → ∀ b, b < 0 → a ≠ b → (TJ2 a).2.1 ≠ (TJ2 b).2.1 := by decide +kernel
theorem tyJ2_ok : ∀ k, k < 0 → parseFieldDescriptor (TJ2 k).2.2.1 = some (tyJ2 k) := by decide +kernel
abbrev cJ2_getChar_3b067 : ByteArray := prog_18_method_5_code
def yJ2_getChar_3b067 : MethodName := ⟨RJ2, "getChar", "([BI)C"⟩
abbrev cJ2_length_9d52b : ByteArray := prog_18_method_6_code
def yJ2_length_9d52b : MethodName := ⟨RJ2, "length", "([B)I"⟩
abbrev cJ2_indexOf_4cfef : ByteArray := prog_18_method_40_code
def yJ2_indexOf_4cfef : MethodName := ⟨RJ2, "indexOf", "([BIII)I"⟩
abbrev cJ2_indexOfChar_4cfef : ByteArray := prog_18_method_47_code
def yJ2_indexOfChar_4cfef : MethodName := ⟨RJ2, "indexOfChar", "([BIII)I"⟩
abbrev cJ2_indexOfCharUnsafe_4cfef : ByteArray := prog_18_method_48_code
def yJ2_indexOfCharUnsafe_4cfef : MethodName := ⟨RJ2, "indexOfCharUnsafe", "([BIII)I"⟩
abbrev cJ2_indexOfSupplementary_4cfef : ByteArray := prog_18_method_49_code
def yJ2_indexOfSupplementary_4cfef : MethodName := ⟨RJ2, "indexOfSupplementary", "([BIII)I"⟩
abbrev cJ2_checkBoundsBeginEnd_d044e : ByteArray := prog_18_method_93_code
def yJ2_checkBoundsBeginEnd_d044e : MethodName := ⟨RJ2, "checkBoundsBeginEnd", "(II[B)V"⟩
def RJ10 : String := "java/lang/System"
def TJ10 : u_T := fun k => match k with
  | _ => ("", "", "", false)
def tyJ10 : Nat → FieldType := fun k => match k with
  | _ => .int
abbrev wsJ100 : List Cond := u_ws RJ10 TJ10 0
theorem nmJ10 : ∀ a, a < 0 → ∀ b, b < 0 → a ≠ b → (TJ10 a).2.1 ≠ (TJ10 b).2.1 := by decide +kernel
theorem tyJ10_ok : ∀ k, k < 0 → parseFieldDescriptor (TJ10 k).2.2.1 = some (tyJ10 k) := by decide +kernel
def RJxfd54e : String := "java/lang/constant/Constable"
def TJxfd54e : u_T := fun k => match k with
  | _ => ("", "", "", false)
def tyJxfd54e : Nat → FieldType := fun k => match k with
  | _ => .int
abbrev wsJxfd54e0 : List Cond := u_ws RJxfd54e TJxfd54e 0
theorem nmJxfd54e : ∀ a, a < 0 → ∀ b, b < 0 → a ≠ b → (TJxfd54e a).2.1 ≠ (TJxfd54e b).2.1 := by decide +kernel
theorem tyJxfd54e_ok : ∀ k, k < 0 → parseFieldDescriptor (TJxfd54e k).2.2.1 = some (tyJxfd54e k) := by decide +kernel
def RJx3cf43 : String := "java/lang/constant/ConstantDesc"
def TJx3cf43 : u_T := fun k => match k with
  | _ => ("", "", "", false)
def tyJx3cf43 : Nat → FieldType := fun k => match k with
  | _ => .int
abbrev wsJx3cf430 : List Cond := u_ws RJx3cf43 TJx3cf43 0
theorem nmJx3cf43 : ∀ a, a < 0 → ∀ b, b < 0 → a ≠ b → (TJx3cf43 a).2.1 ≠ (TJx3cf43 b).2.1 := by decide +kernel
theorem tyJx3cf43_ok : ∀ k, k < 0 → parseFieldDescriptor (TJx3cf43 k).2.2.1 = some (tyJx3cf43 k) := by decide +kernel
def RJ7 : String := "java/util/Arrays"
def TJ7 : u_T := fun k => match k with
  | _ => ("", "", "", false)
def tyJ7 : Nat → FieldType := fun k => match k with
  | _ => .int
abbrev wsJ70 : List Cond := u_ws RJ7 TJ7 0
theorem nmJ7 : ∀ a, a < 0 → ∀ b, b < 0 → a ≠ b → (TJ7 a).2.1 ≠ (TJ7 b).2.1 := by decide +kernel
theorem tyJ7_ok : ∀ k, k < 0 → parseFieldDescriptor (TJ7 k).2.2.1 = some (tyJ7 k) := by decide +kernel
abbrev cJ7_fill_53178 : ByteArray := prog_20_method_103_code
def yJ7_fill_53178 : MethodName := ⟨RJ7, "fill", "([II)V"⟩
def RJ3 : String := "jdk/internal/util/Preconditions"
def TJ3 : u_T := fun k => match k with
  | _ => ("", "", "", false)
def tyJ3 : Nat → FieldType := fun k => match k with
  | _ => .int
abbrev wsJ30 : List Cond := u_ws RJ3 TJ3 0
theorem nmJ3 : ∀ a, a < 0 → ∀ b, b < 0 → a ≠ b → (TJ3 a).2.1 ≠ (TJ3 b).2.1 := by decide +kernel
theorem tyJ3_ok : ∀ k, k < 0 → parseFieldDescriptor (TJ3 k).2.2.1 = some (tyJ3 k) := by decide +kernel
abbrev cJ3_checkFromToIndex_8c36e : ByteArray := prog_21_method_12_code
def yJ3_checkFromToIndex_8c36e : MethodName := ⟨RJ3, "checkFromToIndex", "(IIILjava/util/function/BiFunction;)I"⟩
def RL : String := "JugglingRowsLaw"
abbrev cL_law : ByteArray := code
def yL_law : MethodName := ⟨RL, "law", "([I)Z"⟩
def wsL_law_r1 : List Cond := [Cond.classLink RL 7 RX7, Cond.instantiable RX7 10, Cond.initialized RX7, Cond.classLink RL 10 RX8, Cond.instantiable RX8 26, Cond.initialized RX8, Cond.methodLink RL 9 yX7_init, Cond.instanceMethod yX7_init, Cond.code yX7_init cX7_init 1 none, Cond.methodLink RX7 1 objectInit, Cond.instanceMethod objectInit, Cond.code objectInit ⟨#[0xb1]⟩ 1 none, Cond.classLink RX7 7 RX5, Cond.instantiable RX5 9, Cond.initialized RX5, Cond.fieldLink RX7 10 "JugglingRows" "now" "LJugglingRows$Stand;", Cond.fieldLink RX7 16 "JugglingRows" "before" "LJugglingRows$Stand;", Cond.fieldLink RX7 19 "JugglingRows" "snapshot" "LJugglingRows$Stand;", Cond.classLink RX7 22 RX2, Cond.instantiable RX2 3, Cond.initialized RX2, Cond.fieldLink RX7 25 "JugglingRows" "past" "LJugglingRows$Past;", Cond.classLink RX7 29 RX0, Cond.instantiable RX0 4]
def wsL_law_r2 : List Cond := [Cond.initialized RX0, Cond.fieldLink RX7 32 "JugglingRows" "joins" "LJugglingRows$Joins;", Cond.classLink RX7 36 RX1, Cond.instantiable RX1 2, Cond.initialized RX1, Cond.fieldLink RX7 39 "JugglingRows" "line" "LJugglingRows$Line;", Cond.classLink RX7 43 RX6, Cond.instantiable RX6 2, Cond.initialized RX6, Cond.fieldLink RX7 46 "JugglingRows" "text" "LJugglingRows$Text;", Cond.classLink RX7 50 RX3, Cond.instantiable RX3 4, Cond.initialized RX3, Cond.fieldLink RX7 53 "JugglingRows" "refusals" "LJugglingRows$Refusals;", Cond.arrayClass .int, Cond.fieldLink RX7 57 "JugglingRows" "rankKeys" "[I", Cond.methodLink RX7 9 yX5_init, Cond.instanceMethod yX5_init, Cond.code yX5_init cX5_init 2 none, Cond.methodLink RX5 3 objectInit, Cond.classLink RX5 9 RX4, Cond.fieldLink RX5 11 "JugglingRows$Stand" "rows" "[LJugglingRows$Row;", Cond.instantiable RX4 2, Cond.initialized RX4]
def wsL_law_r3 : List Cond := [Cond.instanceMethod yX4_init, Cond.code yX4_init cX4_init 1 none, Cond.methodLink RX4 3 objectInit, Cond.fieldLink RX4 9 "JugglingRows$Row" "heights" "[I", Cond.methodLink RX7 24 yX2_init, Cond.instanceMethod yX2_init, Cond.code yX2_init cX2_init 2 none, Cond.methodLink RX2 3 objectInit, Cond.classLink RX2 9 RX5, Cond.fieldLink RX2 11 "JugglingRows$Past" "stands" "[LJugglingRows$Stand;", Cond.methodLink RX2 17 yX5_init, Cond.instanceMethod yX0_init, Cond.code yX0_init cX0_init 1 none, Cond.methodLink RX0 3 objectInit, Cond.fieldLink RX0 9 "JugglingRows$Joins" "steps" "[I", Cond.fieldLink RX0 15 "JugglingRows$Joins" "queue" "[I", Cond.fieldLink RX0 18 "JugglingRows$Joins" "heights" "[I", Cond.instanceMethod yX1_init, Cond.code yX1_init cX1_init 1 none, Cond.methodLink RX1 3 objectInit, Cond.arrayClass .char, Cond.fieldLink RX1 9 "JugglingRows$Line" "characters" "[C", Cond.instanceMethod yX6_init, Cond.code yX6_init cX6_init 1 none]
def wsL_law_r4 : List Cond := [Cond.methodLink RX6 3 objectInit, Cond.fieldLink RX6 9 "JugglingRows$Text" "characters" "[C", Cond.instanceMethod yX3_init, Cond.code yX3_init cX3_init 1 none, Cond.methodLink RX3 3 objectInit, Cond.fieldLink RX3 9 "JugglingRows$Refusals" "commandNow" "I", Cond.methodLink RL 12 yX8_init, Cond.instanceMethod yX8_init, Cond.code yX8_init cX8_init 1 none, Cond.methodLink RX8 3 objectInit, Cond.fieldLink RX8 9 "JugglingRowsModel" "now" "[I", Cond.fieldLink RX8 13 "JugglingRowsModel" "saved" "[I", Cond.fieldLink RX8 16 "JugglingRowsModel" "before" "[I", Cond.classLink RX8 19 "[[I", Cond.fieldLink RX8 21 "JugglingRowsModel" "history" "[[I", Cond.fieldLink RX8 24 "JugglingRowsModel" "inText" "I", Cond.fieldLink RX8 28 "JugglingRowsModel" "queue" "[I", Cond.fieldLink RX8 31 "JugglingRowsModel" "from" "[I", Cond.fieldLink RX8 34 "JugglingRowsModel" "by" "[I", Cond.fieldLink RX8 37 "JugglingRowsModel" "join" "[I", Cond.fieldLink RX8 40 "JugglingRowsModel" "line" "[C", Cond.fieldLink RX8 44 "JugglingRowsModel" "text" "[I", Cond.methodLink RL 13 yX7_row, Cond.instanceMethod yX7_row]
def wsL_law_r5 : List Cond := [Cond.selects RX7 yX7_row yX7_row, Cond.code yX7_row cX7_row 3 (some .int), Cond.methodLink RX7 61 yX5_copyFrom, Cond.instanceMethod yX5_copyFrom, Cond.selects RX5 yX5_copyFrom yX5_copyFrom, Cond.code yX5_copyFrom cX5_copyFrom 5 none, Cond.fieldLink RX5 18 "JugglingRows$Stand" "count" "I", Cond.fieldLink RX5 26 "JugglingRows$Stand" "state" "I", Cond.fieldLink RX5 29 "JugglingRows$Stand" "beats" "I", Cond.fieldLink RX5 32 "JugglingRows$Stand" "thrown" "I", Cond.fieldLink RX5 35 "JugglingRows$Stand" "thrownBalls" "I", Cond.fieldLink RX5 38 "JugglingRows$Stand" "highestThrown" "I", Cond.fieldLink RX5 41 "JugglingRows$Stand" "joined" "I", Cond.fieldLink RX5 44 "JugglingRows$Stand" "begun" "I", Cond.methodLink RX5 22 yX4_copyThrows, Cond.instanceMethod yX4_copyThrows, Cond.selects RX4 yX4_copyThrows yX4_copyThrows, Cond.code yX4_copyThrows cX4_copyThrows 2 none, Cond.fieldLink RX4 15 "JugglingRows$Row" "length" "I", Cond.methodLink RX4 19 arraycopyName, Cond.native arraycopyName, Cond.static arraycopyName, Cond.initialized "java/lang/System", Cond.methodLink RX7 65 yX7_addRow]
def wsL_law_r6 : List Cond := [Cond.instanceMethod yX7_addRow, Cond.selects RX7 yX7_addRow yX7_addRow, Cond.code yX7_addRow cX7_addRow 3 (some .int), Cond.fieldLink RX7 172 "JugglingRows$Stand" "count" "I", Cond.methodLink RX7 266 yX7_powerOfTen, Cond.static yX7_powerOfTen, Cond.code yX7_powerOfTen cX7_powerOfTen 3 (some .int), Cond.methodLink RX7 269 yX3_refuse, Cond.instanceMethod yX3_refuse, Cond.selects RX3 yX3_refuse yX3_refuse, Cond.code yX3_refuse cX3_refuse 3 (some .int), Cond.fieldLink RX3 15 "JugglingRows$Refusals" "reason" "I", Cond.fieldLink RX3 18 "JugglingRows$Refusals" "detail" "I", Cond.fieldLink RX3 21 "JugglingRows$Refusals" "command" "I", Cond.methodLink RX7 272 yX5_appendRow, Cond.instanceMethod yX5_appendRow, Cond.selects RX5 yX5_appendRow yX5_appendRow, Cond.code yX5_appendRow cX5_appendRow 4 (some .int), Cond.methodLink RX5 47 yX5_rowNumbered, Cond.instanceMethod yX5_rowNumbered, Cond.selects RX5 yX5_rowNumbered yX5_rowNumbered, Cond.code yX5_rowNumbered cX5_rowNumbered 2 (some (.object "JugglingRows$Row")), Cond.methodLink RX5 51 yX4_fill, Cond.instanceMethod yX4_fill]
def wsL_law_r7 : List Cond := [Cond.selects RX4 yX4_fill yX4_fill, Cond.code yX4_fill cX4_fill 5 none, Cond.methodLink RX4 25 yX4_setHeight, Cond.instanceMethod yX4_setHeight, Cond.selects RX4 yX4_setHeight yX4_setHeight, Cond.code yX4_setHeight cX4_setHeight 3 none, Cond.methodLink RX7 69 yX7_keepChange, Cond.instanceMethod yX7_keepChange, Cond.selects RX7 yX7_keepChange yX7_keepChange, Cond.code yX7_keepChange cX7_keepChange 2 (some .int), Cond.methodLink RX7 291 yX7_isError, Cond.static yX7_isError, Cond.code yX7_isError cX7_isError 1 (some .boolean), Cond.methodLink RX7 294 yX2_keep, Cond.instanceMethod yX2_keep, Cond.selects RX2 yX2_keep yX2_keep, Cond.code yX2_keep cX2_keep 3 none, Cond.fieldLink RX2 18 "JugglingRows$Past" "next" "I", Cond.fieldLink RX2 26 "JugglingRows$Past" "kept" "I", Cond.methodLink RX2 29 Lib.Math.min.name, Cond.static Lib.Math.min.name, Cond.initialized "java/lang/Math", Cond.code Lib.Math.min.name Lib.Math.min.code 2 (some .int), Cond.methodLink RX2 22 yX5_copyFrom]
def wsL_law_r8 : List Cond := [Cond.methodLink RL 17 yX8_row, Cond.instanceMethod yX8_row, Cond.selects RX8 yX8_row yX8_row, Cond.code yX8_row cX8_row 6 (some .int), Cond.methodLink RX8 71 yX8_isBetween, Cond.static yX8_isBetween, Cond.code yX8_isBetween cX8_isBetween 3 (some .boolean), Cond.methodLink RX8 112 yX8_refuse, Cond.instanceMethod yX8_refuse, Cond.selects RX8 yX8_refuse yX8_refuse, Cond.code yX8_refuse cX8_refuse 4 (some .boolean), Cond.fieldLink RX8 47 "JugglingRowsModel" "reason" "I", Cond.fieldLink RX8 50 "JugglingRowsModel" "detail" "I", Cond.fieldLink RX8 53 "JugglingRowsModel" "isInText" "Z", Cond.fieldLink RX8 57 "JugglingRowsModel" "command" "I", Cond.methodLink RX8 116 yX8_change, Cond.instanceMethod yX8_change, Cond.selects RX8 yX8_change yX8_change, Cond.code yX8_change cX8_change 1 none, Cond.methodLink RX8 67 yX8_remember, Cond.instanceMethod yX8_remember, Cond.selects RX8 yX8_remember yX8_remember, Cond.code yX8_remember cX8_remember 3 none, Cond.fieldLink RX8 60 "JugglingRowsModel" "kept" "I"]
def wsL_law_r9 : List Cond := [Cond.methodLink RX8 63 yX8_copyRow, Cond.static yX8_copyRow, Cond.code yX8_copyRow cX8_copyRow 3 none, Cond.methodLink RX8 119 yX8_putThrow, Cond.instanceMethod yX8_putThrow, Cond.selects RX8 yX8_putThrow yX8_putThrow, Cond.code yX8_putThrow cX8_putThrow 4 none, Cond.methodLink RL 18 yX7_drop, Cond.instanceMethod yX7_drop, Cond.selects RX7 yX7_drop yX7_drop, Cond.code yX7_drop cX7_drop 2 (some .int), Cond.methodLink RX7 73 yX7_dropRow, Cond.instanceMethod yX7_dropRow, Cond.selects RX7 yX7_dropRow yX7_dropRow, Cond.code yX7_dropRow cX7_dropRow 2 (some .int), Cond.methodLink RX7 275 yX5_removeRow, Cond.instanceMethod yX5_removeRow, Cond.selects RX5 yX5_removeRow yX5_removeRow, Cond.code yX5_removeRow cX5_removeRow 4 (some .boolean), Cond.methodLink RL 22 yX8_drop, Cond.instanceMethod yX8_drop, Cond.selects RX8 yX8_drop yX8_drop, Cond.code yX8_drop cX8_drop 3 (some .int), Cond.methodLink RX8 123 yX8_isRow]
def wsL_law_r10 : List Cond := [Cond.instanceMethod yX8_isRow, Cond.selects RX8 yX8_isRow yX8_isRow, Cond.code yX8_isRow cX8_isRow 2 (some .boolean), Cond.methodLink RL 23 yX7_turn, Cond.instanceMethod yX7_turn, Cond.selects RX7 yX7_turn yX7_turn, Cond.code yX7_turn cX7_turn 2 (some .int), Cond.methodLink RX7 76 yX7_turnRow, Cond.instanceMethod yX7_turnRow, Cond.selects RX7 yX7_turnRow yX7_turnRow, Cond.code yX7_turnRow cX7_turnRow 3 (some .int), Cond.methodLink RX7 98 yX5_rowNumbered, Cond.methodLink RX7 278 yX4_moveFirstToEnd, Cond.instanceMethod yX4_moveFirstToEnd, Cond.selects RX4 yX4_moveFirstToEnd yX4_moveFirstToEnd, Cond.code yX4_moveFirstToEnd cX4_moveFirstToEnd 3 none, Cond.methodLink RX4 29 yX4_heightAt, Cond.instanceMethod yX4_heightAt, Cond.selects RX4 yX4_heightAt yX4_heightAt, Cond.code yX4_heightAt cX4_heightAt 2 (some .int), Cond.methodLink RX7 134 yX4_heightAt, Cond.methodLink RL 26 yX8_turn, Cond.instanceMethod yX8_turn, Cond.selects RX8 yX8_turn yX8_turn]
def wsL_law_r11 : List Cond := [Cond.code yX8_turn cX8_turn 5 (some .int), Cond.methodLink RX8 79 yX8_thrown, Cond.instanceMethod yX8_thrown, Cond.selects RX8 yX8_thrown yX8_thrown, Cond.code yX8_thrown cX8_thrown 3 (some .int), Cond.methodLink RX8 75 yX8_lengthOf, Cond.instanceMethod yX8_lengthOf, Cond.selects RX8 yX8_lengthOf yX8_lengthOf, Cond.code yX8_lengthOf cX8_lengthOf 2 (some .int), Cond.methodLink RL 27 yX7_swap, Cond.instanceMethod yX7_swap, Cond.selects RX7 yX7_swap yX7_swap, Cond.code yX7_swap cX7_swap 4 (some .int), Cond.methodLink RX7 79 yX7_swapBeats, Cond.instanceMethod yX7_swapBeats, Cond.selects RX7 yX7_swapBeats yX7_swapBeats, Cond.code yX7_swapBeats cX7_swapBeats 7 (some .int), Cond.methodLink RX7 130 yX4_hasBeat, Cond.instanceMethod yX4_hasBeat, Cond.selects RX4 yX4_hasBeat yX4_hasBeat, Cond.code yX4_hasBeat cX4_hasBeat 2 (some .boolean), Cond.methodLink RX7 281 yX4_setHeight, Cond.methodLink RL 31 yX8_swap, Cond.instanceMethod yX8_swap]
def wsL_law_r12 : List Cond := [Cond.selects RX8 yX8_swap yX8_swap, Cond.code yX8_swap cX8_swap 6 (some .int), Cond.methodLink RX8 127 yX8_isBeat, Cond.instanceMethod yX8_isBeat, Cond.selects RX8 yX8_isBeat yX8_isBeat, Cond.code yX8_isBeat cX8_isBeat 3 (some .boolean), Cond.methodLink RL 32 yX7_lift, Cond.instanceMethod yX7_lift, Cond.selects RX7 yX7_lift yX7_lift, Cond.code yX7_lift cX7_lift 2 (some .int), Cond.methodLink RX7 83 yX7_liftRow, Cond.instanceMethod yX7_liftRow, Cond.selects RX7 yX7_liftRow yX7_liftRow, Cond.code yX7_liftRow cX7_liftRow 4 (some .int), Cond.fieldLink RX7 102 "JugglingRows$Row" "length" "I", Cond.methodLink RX7 112 yX4_balls, Cond.instanceMethod yX4_balls, Cond.selects RX4 yX4_balls yX4_balls, Cond.code yX4_balls cX4_balls 1 (some .int), Cond.methodLink RX4 42 yX4_marksEachLanding, Cond.instanceMethod yX4_marksEachLanding, Cond.selects RX4 yX4_marksEachLanding yX4_marksEachLanding, Cond.code yX4_marksEachLanding cX4_marksEachLanding 3 (some .boolean), Cond.methodLink RX4 39 yX4_landing]
def wsL_law_r13 : List Cond := [Cond.instanceMethod yX4_landing, Cond.selects RX4 yX4_landing yX4_landing, Cond.code yX4_landing cX4_landing 2 (some .int), Cond.methodLink RX4 46 yX4_sum, Cond.instanceMethod yX4_sum, Cond.selects RX4 yX4_sum yX4_sum, Cond.code yX4_sum cX4_sum 3 (some .int), Cond.methodLink RL 35 yX8_lift, Cond.instanceMethod yX8_lift, Cond.selects RX8 yX8_lift yX8_lift, Cond.code yX8_lift cX8_lift 3 (some .int), Cond.methodLink RX8 103 yX8_ballsOf, Cond.instanceMethod yX8_ballsOf, Cond.selects RX8 yX8_ballsOf yX8_ballsOf, Cond.code yX8_ballsOf cX8_ballsOf 2 (some .int), Cond.methodLink RX8 83 yX8_clashOf, Cond.instanceMethod yX8_clashOf, Cond.selects RX8 yX8_clashOf yX8_clashOf, Cond.code yX8_clashOf cX8_clashOf 5 (some .int), Cond.methodLink RX8 86 yX8_sumOf, Cond.instanceMethod yX8_sumOf, Cond.selects RX8 yX8_sumOf yX8_sumOf, Cond.code yX8_sumOf cX8_sumOf 4 (some .int), Cond.methodLink RX8 130 yX8_orNothing]
def wsL_law_r14 : List Cond := [Cond.static yX8_orNothing, Cond.code yX8_orNothing cX8_orNothing 1 (some .int), Cond.methodLink RL 36 yX7_begin, Cond.instanceMethod yX7_begin, Cond.selects RX7 yX7_begin yX7_begin, Cond.code yX7_begin cX7_begin 2 (some .int), Cond.methodLink RX7 86 yX7_beginWith, Cond.instanceMethod yX7_beginWith, Cond.selects RX7 yX7_beginWith yX7_beginWith, Cond.code yX7_beginWith cX7_beginWith 2 (some .int), Cond.fieldLink RX7 144 "JugglingRows$Stand" "state" "I", Cond.fieldLink RX7 148 "JugglingRows$Stand" "beats" "I", Cond.fieldLink RX7 239 "JugglingRows$Stand" "begun" "I", Cond.methodLink RL 39 yX8_begin, Cond.instanceMethod yX8_begin, Cond.selects RX8 yX8_begin yX8_begin, Cond.code yX8_begin cX8_begin 2 (some .int), Cond.methodLink RL 40 yX7_toss, Cond.instanceMethod yX7_toss, Cond.selects RX7 yX7_toss yX7_toss, Cond.code yX7_toss cX7_toss 2 (some .int), Cond.methodLink RX7 89 yX7_makeThrow, Cond.instanceMethod yX7_makeThrow, Cond.selects RX7 yX7_makeThrow yX7_makeThrow]
def wsL_law_r15 : List Cond := [Cond.code yX7_makeThrow cX7_makeThrow 3 (some .int), Cond.methodLink RX7 147 yX5_balls, Cond.instanceMethod yX5_balls, Cond.selects RX5 yX5_balls yX5_balls, Cond.code yX5_balls cX5_balls 1 (some .int), Cond.methodLink RX5 55 yJ6_bitCount_0f7a4, Cond.static yJ6_bitCount_0f7a4, Cond.initialized RJ6, Cond.code yJ6_bitCount_0f7a4 cJ6_bitCount_0f7a4 1 (some .int), Cond.constant RJ6 265 (1431655765), Cond.constant RJ6 266 (858993459), Cond.constant RJ6 267 (252645135), Cond.methodLink RX7 154 yX7_canMake, Cond.static yX7_canMake, Cond.code yX7_canMake cX7_canMake 3 (some .boolean), Cond.methodLink RX7 285 yX5_throwOne, Cond.instanceMethod yX5_throwOne, Cond.selects RX5 yX5_throwOne yX5_throwOne, Cond.code yX5_throwOne cX5_throwOne 2 none, Cond.methodLink RX5 65 Lib.Math.max.name, Cond.static Lib.Math.max.name, Cond.code Lib.Math.max.name Lib.Math.max.code 2 (some .int), Cond.static yX7_stateBehind, Cond.code yX7_stateBehind cX7_stateBehind 3 (some .int)]
def wsL_law_r16 : List Cond := [Cond.methodLink RL 43 yX8_toss, Cond.instanceMethod yX8_toss, Cond.selects RX8 yX8_toss yX8_toss, Cond.code yX8_toss cX8_toss 2 (some .int), Cond.methodLink RX8 92 yX8_can, Cond.static yX8_can, Cond.code yX8_can cX8_can 2 (some .boolean), Cond.methodLink RX8 133 yX8_makeThrow, Cond.instanceMethod yX8_makeThrow, Cond.selects RX8 yX8_makeThrow yX8_makeThrow, Cond.code yX8_makeThrow cX8_makeThrow 2 none, Cond.methodLink RX8 89 yX8_behind, Cond.static yX8_behind, Cond.code yX8_behind cX8_behind 2 (some .int), Cond.methodLink RL 44 yX7_join, Cond.instanceMethod yX7_join, Cond.selects RX7 yX7_join yX7_join, Cond.code yX7_join cX7_join 2 (some .int), Cond.methodLink RX7 92 yX7_makeJoin, Cond.instanceMethod yX7_makeJoin, Cond.selects RX7 yX7_makeJoin yX7_makeJoin, Cond.code yX7_makeJoin cX7_makeJoin 5 (some .int), Cond.fieldLink RX7 236 "JugglingRows$Stand" "joined" "I", Cond.methodLink RX7 288 yX7_isOutOfReach]
def wsL_law_r17 : List Cond := [Cond.instanceMethod yX7_isOutOfReach, Cond.selects RX7 yX7_isOutOfReach yX7_isOutOfReach, Cond.code yX7_isOutOfReach cX7_isOutOfReach 4 (some .boolean), Cond.methodLink RX7 115 yX4_lowestClash, Cond.instanceMethod yX4_lowestClash, Cond.selects RX4 yX4_lowestClash yX4_lowestClash, Cond.code yX4_lowestClash cX4_lowestClash 3 (some .int), Cond.methodLink RX7 141 yX4_stateAt, Cond.instanceMethod yX4_stateAt, Cond.selects RX4 yX4_stateAt yX4_stateAt, Cond.code yX4_stateAt cX4_stateAt 6 (some .int), Cond.methodLink RX7 168 yX0_find, Cond.instanceMethod yX0_find, Cond.selects RX0 yX0_find yX0_find, Cond.code yX0_find cX0_find 7 (some .int), Cond.methodLink RX0 39 yX0_countBack, Cond.instanceMethod yX0_countBack, Cond.selects RX0 yX0_countBack yX0_countBack, Cond.code yX0_countBack cX0_countBack 4 (some .int), Cond.fieldLink RX0 29 "JugglingRows$Joins" "queued" "I", Cond.methodLink RX0 21 yX0_isState, Cond.static yX0_isState, Cond.code yX0_isState cX0_isState 1 (some .boolean), Cond.methodLink RX0 25 yX0_startAt]
def wsL_law_r18 : List Cond := [Cond.instanceMethod yX0_startAt, Cond.selects RX0 yX0_startAt yX0_startAt, Cond.code yX0_startAt cX0_startAt 2 none, Cond.methodLink RX0 53 yJ7_fill_53178, Cond.static yJ7_fill_53178, Cond.initialized RJ7, Cond.code yJ7_fill_53178 cJ7_fill_53178 4 none, Cond.methodLink RX0 59 yX0_reach, Cond.instanceMethod yX0_reach, Cond.selects RX0 yX0_reach yX0_reach, Cond.code yX0_reach cX0_reach 3 none, Cond.methodLink RX0 36 yX0_spreadBack, Cond.instanceMethod yX0_spreadBack, Cond.selects RX0 yX0_spreadBack yX0_spreadBack, Cond.code yX0_spreadBack cX0_spreadBack 4 none, Cond.methodLink RX0 43 yX0_lowestNearer, Cond.instanceMethod yX0_lowestNearer, Cond.selects RX0 yX0_lowestNearer yX0_lowestNearer, Cond.code yX0_lowestNearer cX0_lowestNearer 5 (some .int), Cond.methodLink RX7 171 yX0_heightAt, Cond.instanceMethod yX0_heightAt, Cond.selects RX0 yX0_heightAt yX0_heightAt, Cond.code yX0_heightAt cX0_heightAt 2 (some .int), Cond.methodLink RL 47 yX8_join]
def wsL_law_r19 : List Cond := [Cond.instanceMethod yX8_join, Cond.selects RX8 yX8_join yX8_join, Cond.code yX8_join cX8_join 3 (some .int), Cond.fieldLink RX8 100 "JugglingRowsModel" "length" "I", Cond.methodLink RX8 136 yX8_isNotFor, Cond.instanceMethod yX8_isNotFor, Cond.selects RX8 yX8_isNotFor yX8_isNotFor, Cond.code yX8_isNotFor cX8_isNotFor 2 (some .boolean), Cond.methodLink RX8 139 yX8_findJoinTo, Cond.instanceMethod yX8_findJoinTo, Cond.selects RX8 yX8_findJoinTo yX8_findJoinTo, Cond.code yX8_findJoinTo cX8_findJoinTo 2 (some .boolean), Cond.methodLink RX8 106 yX8_stateAt, Cond.instanceMethod yX8_stateAt, Cond.selects RX8 yX8_stateAt yX8_stateAt, Cond.code yX8_stateAt cX8_stateAt 7 (some .int), Cond.methodLink RX8 109 yX8_findJoin, Cond.instanceMethod yX8_findJoin, Cond.selects RX8 yX8_findJoin yX8_findJoin, Cond.code yX8_findJoin cX8_findJoin 7 (some .boolean), Cond.methodLink RX8 96 yX8_takeJoin, Cond.instanceMethod yX8_takeJoin, Cond.selects RX8 yX8_takeJoin yX8_takeJoin, Cond.code yX8_takeJoin cX8_takeJoin 4 none]
def wsL_law_r20 : List Cond := [Cond.methodLink RL 48 yX7_once, Cond.instanceMethod yX7_once, Cond.selects RX7 yX7_once yX7_once, Cond.code yX7_once cX7_once 2 (some .int), Cond.methodLink RX7 95 yX7_makeRowOnce, Cond.instanceMethod yX7_makeRowOnce, Cond.selects RX7 yX7_makeRowOnce yX7_makeRowOnce, Cond.code yX7_makeRowOnce cX7_makeRowOnce 4 (some .int), Cond.methodLink RL 51 yX8_once, Cond.instanceMethod yX8_once, Cond.selects RX8 yX8_once yX8_once, Cond.code yX8_once cX8_once 3 (some .int), Cond.methodLink RL 52 yX7_rowOf, Cond.instanceMethod yX7_rowOf, Cond.selects RX7 yX7_rowOf yX7_rowOf, Cond.code yX7_rowOf cX7_rowOf 4 (some .int), Cond.methodLink RX7 108 yX4_sum, Cond.methodLink RX7 118 yX4_period, Cond.instanceMethod yX4_period, Cond.selects RX4 yX4_period yX4_period, Cond.code yX4_period cX4_period 2 (some .int), Cond.methodLink RX4 50 yX4_repeatsBy, Cond.instanceMethod yX4_repeatsBy, Cond.selects RX4 yX4_repeatsBy yX4_repeatsBy]
def wsL_law_r21 : List Cond := [Cond.code yX4_repeatsBy cX4_repeatsBy 3 (some .boolean), Cond.methodLink RX7 121 yX4_greatest, Cond.instanceMethod yX4_greatest, Cond.selects RX4 yX4_greatest yX4_greatest, Cond.code yX4_greatest cX4_greatest 3 (some .int), Cond.methodLink RX4 33 Lib.Math.max.name, Cond.methodLink RX7 124 yX4_throwsToOtherHand, Cond.instanceMethod yX4_throwsToOtherHand, Cond.selects RX4 yX4_throwsToOtherHand yX4_throwsToOtherHand, Cond.code yX4_throwsToOtherHand cX4_throwsToOtherHand 3 (some .int), Cond.methodLink RX7 127 yX4_statesDiffer, Cond.instanceMethod yX4_statesDiffer, Cond.selects RX4 yX4_statesDiffer yX4_statesDiffer, Cond.code yX4_statesDiffer cX4_statesDiffer 4 (some .int), Cond.methodLink RX4 54 yX4_period, Cond.methodLink RX4 57 yX4_stateAt, Cond.methodLink RL 55 yX8_rowOf, Cond.instanceMethod yX8_rowOf, Cond.selects RX8 yX8_rowOf yX8_rowOf, Cond.code yX8_rowOf cX8_rowOf 3 (some .int), Cond.methodLink RX8 145 yX8_periodOf, Cond.instanceMethod yX8_periodOf, Cond.selects RX8 yX8_periodOf yX8_periodOf, Cond.code yX8_periodOf cX8_periodOf 3 (some .int)]
def wsL_law_r22 : List Cond := [Cond.methodLink RX8 142 yX8_repeatsBy, Cond.instanceMethod yX8_repeatsBy, Cond.selects RX8 yX8_repeatsBy yX8_repeatsBy, Cond.code yX8_repeatsBy cX8_repeatsBy 6 (some .boolean), Cond.methodLink RX8 148 yX8_greatestOf, Cond.instanceMethod yX8_greatestOf, Cond.selects RX8 yX8_greatestOf yX8_greatestOf, Cond.code yX8_greatestOf cX8_greatestOf 4 (some .int), Cond.methodLink RX8 151 yX8_oddOf, Cond.instanceMethod yX8_oddOf, Cond.selects RX8 yX8_oddOf yX8_oddOf, Cond.code yX8_oddOf cX8_oddOf 4 (some .int), Cond.methodLink RX8 154 yX8_isPrime, Cond.instanceMethod yX8_isPrime, Cond.selects RX8 yX8_isPrime yX8_isPrime, Cond.code yX8_isPrime cX8_isPrime 5 (some .int), Cond.methodLink RL 56 yX7_throwAt, Cond.instanceMethod yX7_throwAt, Cond.selects RX7 yX7_throwAt yX7_throwAt, Cond.code yX7_throwAt cX7_throwAt 4 (some .int), Cond.methodLink RL 59 yX8_throwAt, Cond.instanceMethod yX8_throwAt, Cond.selects RX8 yX8_throwAt yX8_throwAt, Cond.code yX8_throwAt cX8_throwAt 3 (some .int)]
def wsL_law_r23 : List Cond := [Cond.methodLink RL 60 yX7_isClean, Cond.instanceMethod yX7_isClean, Cond.selects RX7 yX7_isClean yX7_isClean, Cond.code yX7_isClean cX7_isClean 3 (some .int), Cond.methodLink RX7 137 yX4_marksEachLanding, Cond.methodLink RL 63 yX8_isClean, Cond.instanceMethod yX8_isClean, Cond.selects RX8 yX8_isClean yX8_isClean, Cond.code yX8_isClean cX8_isClean 2 (some .int), Cond.methodLink RL 64 yX7_isCleanAgain, Cond.instanceMethod yX7_isCleanAgain, Cond.selects RX7 yX7_isCleanAgain yX7_isCleanAgain, Cond.code yX7_isCleanAgain cX7_isCleanAgain 3 (some .int), Cond.methodLink RL 67 yX8_isCleanAgain, Cond.instanceMethod yX8_isCleanAgain, Cond.selects RX8 yX8_isCleanAgain yX8_isCleanAgain, Cond.code yX8_isCleanAgain cX8_isCleanAgain 2 (some .int), Cond.methodLink RX8 157 yX8_isClean, Cond.methodLink RL 68 yX7_stateOf, Cond.instanceMethod yX7_stateOf, Cond.selects RX7 yX7_stateOf yX7_stateOf, Cond.code yX7_stateOf cX7_stateOf 4 (some .int), Cond.methodLink RL 71 yX8_stateOf, Cond.instanceMethod yX8_stateOf]
def wsL_law_r24 : List Cond := [Cond.selects RX8 yX8_stateOf yX8_stateOf, Cond.code yX8_stateOf cX8_stateOf 3 (some .int), Cond.methodLink RL 72 yX7_juggler, Cond.instanceMethod yX7_juggler, Cond.selects RX7 yX7_juggler yX7_juggler, Cond.code yX7_juggler cX7_juggler 2 (some .int), Cond.methodLink RX7 151 yX7_countPossible, Cond.static yX7_countPossible, Cond.code yX7_countPossible cX7_countPossible 3 (some .int), Cond.methodLink RL 75 yX8_juggler, Cond.instanceMethod yX8_juggler, Cond.selects RX8 yX8_juggler yX8_juggler, Cond.code yX8_juggler cX8_juggler 2 (some .int), Cond.methodLink RX8 160 yX8_throwsNow, Cond.instanceMethod yX8_throwsNow, Cond.selects RX8 yX8_throwsNow yX8_throwsNow, Cond.code yX8_throwsNow cX8_throwsNow 3 (some .int), Cond.methodLink RL 76 yX7_could, Cond.instanceMethod yX7_could, Cond.selects RX7 yX7_could yX7_could, Cond.code yX7_could cX7_could 4 (some .int), Cond.methodLink RL 79 yX8_could, Cond.instanceMethod yX8_could, Cond.selects RX8 yX8_could yX8_could]
def wsL_law_r25 : List Cond := [Cond.code yX8_could cX8_could 5 (some .int), Cond.methodLink RL 80 yX7_joinTo, Cond.instanceMethod yX7_joinTo, Cond.selects RX7 yX7_joinTo yX7_joinTo, Cond.code yX7_joinTo cX7_joinTo 3 (some .int), Cond.methodLink RX7 158 yX7_hasJoin, Cond.instanceMethod yX7_hasJoin, Cond.selects RX7 yX7_hasJoin yX7_hasJoin, Cond.code yX7_hasJoin cX7_hasJoin 2 (some .boolean), Cond.methodLink RX7 162 yX0_countOnward, Cond.instanceMethod yX0_countOnward, Cond.selects RX0 yX0_countOnward yX0_countOnward, Cond.code yX0_countOnward cX0_countOnward 4 (some .int), Cond.methodLink RX0 33 yX0_spreadOnward, Cond.instanceMethod yX0_spreadOnward, Cond.selects RX0 yX0_spreadOnward yX0_spreadOnward, Cond.code yX0_spreadOnward cX0_spreadOnward 3 none, Cond.methodLink RL 83 yX8_joinTo, Cond.instanceMethod yX8_joinTo, Cond.selects RX8 yX8_joinTo yX8_joinTo, Cond.code yX8_joinTo cX8_joinTo 2 (some .int), Cond.methodLink RL 84 yX7_joinAgain, Cond.instanceMethod yX7_joinAgain, Cond.selects RX7 yX7_joinAgain yX7_joinAgain]
def wsL_law_r26 : List Cond := [Cond.code yX7_joinAgain cX7_joinAgain 3 (some .int), Cond.methodLink RX7 165 yX0_countBack, Cond.methodLink RL 87 yX8_joinAgain, Cond.instanceMethod yX8_joinAgain, Cond.selects RX8 yX8_joinAgain yX8_joinAgain, Cond.code yX8_joinAgain cX8_joinAgain 2 (some .int), Cond.methodLink RX8 164 yX8_joinTo, Cond.methodLink RL 88 yX7_joinThrow, Cond.instanceMethod yX7_joinThrow, Cond.selects RX7 yX7_joinThrow yX7_joinThrow, Cond.code yX7_joinThrow cX7_joinThrow 5 (some .int), Cond.methodLink RL 91 yX8_joinThrow, Cond.instanceMethod yX8_joinThrow, Cond.selects RX8 yX8_joinThrow yX8_joinThrow, Cond.code yX8_joinThrow cX8_joinThrow 3 (some .int), Cond.methodLink RL 92 yX7_between, Cond.instanceMethod yX7_between, Cond.selects RX7 yX7_between yX7_between, Cond.code yX7_between cX7_between 6 (some .int), Cond.methodLink RL 95 yX8_between, Cond.instanceMethod yX8_between, Cond.selects RX8 yX8_between yX8_between, Cond.code yX8_between cX8_between 4 (some .int), Cond.methodLink RL 96 yX7_ranked]
def wsL_law_r27 : List Cond := [Cond.instanceMethod yX7_ranked, Cond.selects RX7 yX7_ranked yX7_ranked, Cond.code yX7_ranked cX7_ranked 4 (some .int), Cond.methodLink RX7 175 yX7_rankKey, Cond.instanceMethod yX7_rankKey, Cond.selects RX7 yX7_rankKey yX7_rankKey, Cond.code yX7_rankKey cX7_rankKey 5 (some .int), Cond.methodLink RX7 178 yX7_countAhead, Cond.instanceMethod yX7_countAhead, Cond.selects RX7 yX7_countAhead yX7_countAhead, Cond.code yX7_countAhead cX7_countAhead 4 (some .int), Cond.methodLink RX7 310 yX7_isAhead, Cond.instanceMethod yX7_isAhead, Cond.selects RX7 yX7_isAhead yX7_isAhead, Cond.code yX7_isAhead cX7_isAhead 3 (some .boolean), Cond.methodLink RL 99 yX8_ranked, Cond.instanceMethod yX8_ranked, Cond.selects RX8 yX8_ranked yX8_ranked, Cond.code yX8_ranked cX8_ranked 7 (some .int), Cond.methodLink RX8 167 yX8_worth, Cond.instanceMethod yX8_worth, Cond.selects RX8 yX8_worth yX8_worth, Cond.code yX8_worth cX8_worth 3 (some .int), Cond.methodLink RL 100 yX7_tellRow]
def wsL_law_r28 : List Cond := [Cond.instanceMethod yX7_tellRow, Cond.selects RX7 yX7_tellRow yX7_tellRow, Cond.code yX7_tellRow cX7_tellRow 4 (some .int), Cond.fieldLink RX7 192 "JugglingRows$Line" "length" "I", Cond.methodLink RX7 181 yX1_clear, Cond.instanceMethod yX1_clear, Cond.selects RX1 yX1_clear yX1_clear, Cond.code yX1_clear cX1_clear 1 none, Cond.fieldLink RX1 15 "JugglingRows$Line" "length" "I", Cond.methodLink RX7 184 yX1_putDigit, Cond.instanceMethod yX1_putDigit, Cond.selects RX1 yX1_putDigit yX1_putDigit, Cond.code yX1_putDigit cX1_putDigit 2 none, Cond.methodLink RX1 19 yX1_put, Cond.instanceMethod yX1_put, Cond.selects RX1 yX1_put yX1_put, Cond.code yX1_put cX1_put 2 none, Cond.methodLink RX7 188 yX1_put, Cond.methodLink RL 103 yX8_tellRow, Cond.instanceMethod yX8_tellRow, Cond.selects RX8 yX8_tellRow yX8_tellRow, Cond.code yX8_tellRow cX8_tellRow 3 (some .int), Cond.fieldLink RX8 170 "JugglingRowsModel" "written" "I", Cond.methodLink RX8 173 yX8_write]
def wsL_law_r29 : List Cond := [Cond.instanceMethod yX8_write, Cond.selects RX8 yX8_write yX8_write, Cond.code yX8_write cX8_write 2 none, Cond.methodLink RL 104 yX7_tellState, Cond.instanceMethod yX7_tellState, Cond.selects RX7 yX7_tellState yX7_tellState, Cond.code yX7_tellState cX7_tellState 3 (some .int), Cond.methodLink RL 108 yX8_tellState, Cond.instanceMethod yX8_tellState, Cond.selects RX8 yX8_tellState yX8_tellState, Cond.code yX8_tellState cX8_tellState 2 (some .int), Cond.methodLink RL 109 yX7_tellJoin, Cond.instanceMethod yX7_tellJoin, Cond.selects RX7 yX7_tellJoin yX7_tellJoin, Cond.code yX7_tellJoin cX7_tellJoin 5 (some .int), Cond.methodLink RL 112 yX8_tellJoin, Cond.instanceMethod yX8_tellJoin, Cond.selects RX8 yX8_tellJoin yX8_tellJoin, Cond.code yX8_tellJoin cX8_tellJoin 3 (some .int), Cond.methodLink RL 113 yX7_sign, Cond.instanceMethod yX7_sign, Cond.selects RX7 yX7_sign yX7_sign, Cond.code yX7_sign cX7_sign 2 (some .int), Cond.methodLink RX7 193 yX1_codeAt]
def wsL_law_r30 : List Cond := [Cond.instanceMethod yX1_codeAt, Cond.selects RX1 yX1_codeAt yX1_codeAt, Cond.code yX1_codeAt cX1_codeAt 2 (some .int), Cond.methodLink RL 116 yX8_sign, Cond.instanceMethod yX8_sign, Cond.selects RX8 yX8_sign yX8_sign, Cond.code yX8_sign cX8_sign 2 (some .int), Cond.methodLink RL 117 yX7_append, Cond.instanceMethod yX7_append, Cond.selects RX7 yX7_append yX7_append, Cond.code yX7_append cX7_append 2 (some .int), Cond.fieldLink RX7 198 "JugglingRows$Text" "length" "I", Cond.methodLink RX7 196 yX6_put, Cond.instanceMethod yX6_put, Cond.selects RX6 yX6_put yX6_put, Cond.code yX6_put cX6_put 2 (some .boolean), Cond.fieldLink RX6 15 "JugglingRows$Text" "length" "I", Cond.methodLink RL 120 yX8_append, Cond.instanceMethod yX8_append, Cond.selects RX8 yX8_append yX8_append, Cond.code yX8_append cX8_append 2 (some .int), Cond.fieldLink RX8 176 "JugglingRowsModel" "read" "I", Cond.methodLink RL 121 yX7_read, Cond.instanceMethod yX7_read]
def wsL_law_r31 : List Cond := [Cond.selects RX7 yX7_read yX7_read, Cond.code yX7_read cX7_read 3 (some .int), Cond.fieldLink RX7 205 "JugglingRows$Refusals" "commandNow" "I", Cond.methodLink RX7 199 yX6_faultPosition, Cond.instanceMethod yX6_faultPosition, Cond.selects RX6 yX6_faultPosition yX6_faultPosition, Cond.code yX6_faultPosition cX6_faultPosition 6 (some .int), Cond.methodLink RX6 19 yX6_codeAt, Cond.instanceMethod yX6_codeAt, Cond.selects RX6 yX6_codeAt yX6_codeAt, Cond.code yX6_codeAt cX6_codeAt 2 (some .int), Cond.methodLink RX6 26 yX6_digitsBehind, Cond.static yX6_digitsBehind, Cond.code yX6_digitsBehind cX6_digitsBehind 1 (some .int), Cond.methodLink RX6 29 yX6_digitsFrom, Cond.instanceMethod yX6_digitsFrom, Cond.selects RX6 yX6_digitsFrom yX6_digitsFrom, Cond.code yX6_digitsFrom cX6_digitsFrom 4 (some .int), Cond.methodLink RX6 23 yX6_digitAt, Cond.instanceMethod yX6_digitAt, Cond.selects RX6 yX6_digitAt yX6_digitAt, Cond.code yX6_digitAt cX6_digitAt 3 (some .int), Cond.methodLink RX7 202 yX7_carryOutAll, Cond.instanceMethod yX7_carryOutAll]
def wsL_law_r32 : List Cond := [Cond.selects RX7 yX7_carryOutAll yX7_carryOutAll, Cond.code yX7_carryOutAll cX7_carryOutAll 5 (some .int), Cond.methodLink RX7 297 yX7_carryOut, Cond.instanceMethod yX7_carryOut, Cond.selects RX7 yX7_carryOut yX7_carryOut, Cond.code yX7_carryOut cX7_carryOut 3 (some .int), Cond.methodLink RX7 303 yX6_digitAt, Cond.methodLink RX7 306 yX6_codeAt, Cond.methodLink RX7 307 yX6_numberAt, Cond.instanceMethod yX6_numberAt, Cond.selects RX6 yX6_numberAt yX6_numberAt, Cond.code yX6_numberAt cX6_numberAt 5 (some .int), Cond.methodLink RX7 300 yX6_endOfCommand, Cond.instanceMethod yX6_endOfCommand, Cond.selects RX6 yX6_endOfCommand yX6_endOfCommand, Cond.code yX6_endOfCommand cX6_endOfCommand 3 (some .int), Cond.methodLink RX7 208 yX6_clear, Cond.instanceMethod yX6_clear, Cond.selects RX6 yX6_clear yX6_clear, Cond.code yX6_clear cX6_clear 1 none, Cond.methodLink RL 124 yX8_read, Cond.instanceMethod yX8_read, Cond.selects RX8 yX8_read yX8_read, Cond.code yX8_read cX8_read 4 (some .int)]
def wsL_law_r33 : List Cond := [Cond.fieldLink RX8 179 "JugglingRowsModel" "isWrong" "Z", Cond.fieldLink RX8 182 "JugglingRowsModel" "at" "I", Cond.methodLink RX8 243 yX8_countCommands, Cond.instanceMethod yX8_countCommands, Cond.selects RX8 yX8_countCommands yX8_countCommands, Cond.code yX8_countCommands cX8_countCommands 2 (some .int), Cond.methodLink RX8 213 yX8_readCommand, Cond.instanceMethod yX8_readCommand, Cond.selects RX8 yX8_readCommand yX8_readCommand, Cond.code yX8_readCommand cX8_readCommand 1 none, Cond.fieldLink RX8 197 "JugglingRowsModel" "what" "I", Cond.fieldLink RX8 188 "JugglingRowsModel" "one" "I", Cond.fieldLink RX8 191 "JugglingRowsModel" "other" "I", Cond.fieldLink RX8 210 "JugglingRowsModel" "third" "I", Cond.methodLink RX8 185 yX8_sees, Cond.instanceMethod yX8_sees, Cond.selects RX8 yX8_sees yX8_sees, Cond.code yX8_sees cX8_sees 3 (some .boolean), Cond.methodLink RX8 200 yX8_readRow, Cond.instanceMethod yX8_readRow, Cond.selects RX8 yX8_readRow yX8_readRow, Cond.code yX8_readRow cX8_readRow 1 none, Cond.methodLink RX8 194 yX8_readDigit, Cond.instanceMethod yX8_readDigit]
def wsL_law_r34 : List Cond := [Cond.selects RX8 yX8_readDigit yX8_readDigit, Cond.code yX8_readDigit cX8_readDigit 2 (some .int), Cond.methodLink RX8 205 yJ0_indexOf_0f7a4, Cond.instanceMethod yJ0_indexOf_0f7a4, Cond.selects RJ0 yJ0_indexOf_0f7a4 yJ0_indexOf_0f7a4, Cond.initialized RJ0, Cond.code yJ0_indexOf_0f7a4 cJ0_indexOf_0f7a4 2 (some .int), Cond.methodLink RJ0 633 yJ0_indexOf_7cf53, Cond.instanceMethod yJ0_indexOf_7cf53, Cond.selects RJ0 yJ0_indexOf_7cf53 yJ0_indexOf_7cf53, Cond.code yJ0_indexOf_7cf53 cJ0_indexOf_7cf53 3 (some .int), Cond.fieldLink RJ0 9 "java/lang/String" "value" "[B", Cond.methodLink RJ0 492 yJ0_isLatin1_aae02, Cond.instanceMethod yJ0_isLatin1_aae02, Cond.selects RJ0 yJ0_isLatin1_aae02 yJ0_isLatin1_aae02, Cond.code yJ0_isLatin1_aae02 cJ0_isLatin1_aae02 1 (some .boolean), Cond.fieldLink RJ0 38 "java/lang/String" "COMPACT_STRINGS" "Z", Cond.fieldLink RJ0 15 "java/lang/String" "coder" "B", Cond.methodLink RJ0 505 yJ0_length_8abf5, Cond.instanceMethod yJ0_length_8abf5, Cond.selects RJ0 yJ0_length_8abf5 yJ0_length_8abf5, Cond.code yJ0_length_8abf5 cJ0_length_8abf5 1 (some .int), Cond.methodLink RJ0 335 yJ0_coder_7d493, Cond.instanceMethod yJ0_coder_7d493]
def wsL_law_r35 : List Cond := [Cond.selects RJ0 yJ0_coder_7d493 yJ0_coder_7d493, Cond.code yJ0_coder_7d493 cJ0_coder_7d493 1 (some .byte), Cond.methodLink RJ0 637 yJ1_indexOf_4cfef, Cond.static yJ1_indexOf_4cfef, Cond.initialized RJ1, Cond.code yJ1_indexOf_4cfef cJ1_indexOf_4cfef 4 (some .int), Cond.methodLink RJ1 92 Lib.Math.max.name, Cond.methodLink RJ1 38 Lib.Math.min.name, Cond.methodLink RJ1 88 yJ1_canEncode_9a6ad, Cond.static yJ1_canEncode_9a6ad, Cond.code yJ1_canEncode_9a6ad cJ1_canEncode_9a6ad 1 (some .boolean), Cond.methodLink RJ1 95 yJ1_indexOfChar_4cfef, Cond.static yJ1_indexOfChar_4cfef, Cond.code yJ1_indexOfChar_4cfef cJ1_indexOfChar_4cfef 6 (some .int), Cond.methodLink RJ0 640 yJ2_indexOf_4cfef, Cond.static yJ2_indexOf_4cfef, Cond.initialized RJ2, Cond.code yJ2_indexOf_4cfef cJ2_indexOf_4cfef 4 (some .int), Cond.methodLink RJ2 224 Lib.Math.max.name, Cond.methodLink RJ2 183 Lib.Math.min.name, Cond.constant RJ2 227 (65536), Cond.methodLink RJ2 228 yJ2_indexOfChar_4cfef, Cond.static yJ2_indexOfChar_4cfef, Cond.code yJ2_indexOfChar_4cfef cJ2_indexOfChar_4cfef 4 (some .int)]
def wsL_law_r36 : List Cond := [Cond.methodLink RJ2 96 yJ2_checkBoundsBeginEnd_d044e, Cond.static yJ2_checkBoundsBeginEnd_d044e, Cond.code yJ2_checkBoundsBeginEnd_d044e cJ2_checkBoundsBeginEnd_d044e 3 none, Cond.methodLink RJ2 48 yJ2_length_9d52b, Cond.static yJ2_length_9d52b, Cond.code yJ2_length_9d52b cJ2_length_9d52b 1 (some .int), Cond.methodLink RJ2 241 yJ0_checkBoundsBeginEnd_23922, Cond.static yJ0_checkBoundsBeginEnd_23922, Cond.code yJ0_checkBoundsBeginEnd_23922 cJ0_checkBoundsBeginEnd_23922 3 none, Cond.fieldLink RJ0 1053 "jdk/internal/util/Preconditions" "SIOOBE_FORMATTER" "Ljava/util/function/BiFunction;", Cond.methodLink RJ0 1062 yJ3_checkFromToIndex_8c36e, Cond.static yJ3_checkFromToIndex_8c36e, Cond.initialized RJ3, Cond.code yJ3_checkFromToIndex_8c36e cJ3_checkFromToIndex_8c36e 4 (some .int), Cond.methodLink RJ2 244 yJ2_indexOfCharUnsafe_4cfef, Cond.static yJ2_indexOfCharUnsafe_4cfef, Cond.code yJ2_indexOfCharUnsafe_4cfef cJ2_indexOfCharUnsafe_4cfef 5 (some .int), Cond.methodLink RJ2 71 yJ2_getChar_3b067, Cond.static yJ2_getChar_3b067, Cond.code yJ2_getChar_3b067 cJ2_getChar_3b067 2 (some .char), Cond.fieldLink RJ2 44 "java/lang/StringUTF16" "$assertionsDisabled" "Z", Cond.fieldLink RJ2 59 "java/lang/StringUTF16" "HI_BYTE_SHIFT" "I", Cond.fieldLink RJ2 63 "java/lang/StringUTF16" "LO_BYTE_SHIFT" "I", Cond.methodLink RJ2 232 yJ2_indexOfSupplementary_4cfef]
def wsL_law_r37 : List Cond := [Cond.static yJ2_indexOfSupplementary_4cfef, Cond.code yJ2_indexOfSupplementary_4cfef cJ2_indexOfSupplementary_4cfef 7 (some .int), Cond.methodLink RJ2 164 yJ11_isValidCodePoint_9a6ad, Cond.static yJ11_isValidCodePoint_9a6ad, Cond.initialized RJ11, Cond.code yJ11_isValidCodePoint_9a6ad cJ11_isValidCodePoint_9a6ad 2 (some .boolean), Cond.methodLink RJ2 157 yJ11_highSurrogate_5068e, Cond.static yJ11_highSurrogate_5068e, Cond.code yJ11_highSurrogate_5068e cJ11_highSurrogate_5068e 1 (some .char), Cond.constant RJ11 110 (55232), Cond.methodLink RJ2 161 yJ11_lowSurrogate_5068e, Cond.static yJ11_lowSurrogate_5068e, Cond.code yJ11_lowSurrogate_5068e cJ11_lowSurrogate_5068e 1 (some .char), Cond.constant RJ11 76 (56320), Cond.methodLink RX8 246 yX8_carryOut, Cond.instanceMethod yX8_carryOut, Cond.selects RX8 yX8_carryOut yX8_carryOut, Cond.code yX8_carryOut cX8_carryOut 2 (some .int), Cond.methodLink RX8 216 yX8_row, Cond.methodLink RX8 219 yX8_drop, Cond.methodLink RX8 222 yX8_turn, Cond.methodLink RX8 225 yX8_swap, Cond.methodLink RX8 229 yX8_lift, Cond.methodLink RX8 232 yX8_begin]
def wsL_law_r38 : List Cond := [Cond.methodLink RX8 235 yX8_toss, Cond.methodLink RX8 238 yX8_join, Cond.methodLink RX8 240 yX8_once, Cond.methodLink RL 125 yX7_refusal, Cond.instanceMethod yX7_refusal, Cond.selects RX7 yX7_refusal yX7_refusal, Cond.code yX7_refusal cX7_refusal 2 (some .int), Cond.fieldLink RX7 209 "JugglingRows$Refusals" "reason" "I", Cond.fieldLink RX7 212 "JugglingRows$Refusals" "detail" "I", Cond.fieldLink RX7 215 "JugglingRows$Refusals" "command" "I", Cond.methodLink RL 128 yX8_refusal, Cond.instanceMethod yX8_refusal, Cond.selects RX8 yX8_refusal yX8_refusal, Cond.code yX8_refusal cX8_refusal 2 (some .int), Cond.methodLink RL 129 yX7_account, Cond.instanceMethod yX7_account, Cond.selects RX7 yX7_account yX7_account, Cond.code yX7_account cX7_account 2 (some .int), Cond.fieldLink RX7 227 "JugglingRows$Stand" "thrown" "I", Cond.fieldLink RX7 230 "JugglingRows$Stand" "thrownBalls" "I", Cond.fieldLink RX7 233 "JugglingRows$Stand" "highestThrown" "I", Cond.fieldLink RX7 242 "JugglingRows$Past" "kept" "I", Cond.methodLink RX7 218 yX5_countClean, Cond.instanceMethod yX5_countClean]
def wsL_law_r39 : List Cond := [Cond.selects RX5 yX5_countClean yX5_countClean, Cond.code yX5_countClean cX5_countClean 4 (some .int), Cond.methodLink RX5 70 yX4_marksEachLanding, Cond.methodLink RX7 221 yX5_countThrows, Cond.instanceMethod yX5_countThrows, Cond.selects RX5 yX5_countThrows yX5_countThrows, Cond.code yX5_countThrows cX5_countThrows 4 (some .int), Cond.fieldLink RX5 78 "JugglingRows$Row" "length" "I", Cond.methodLink RX7 224 yX5_ballsOfCleanRows, Cond.instanceMethod yX5_ballsOfCleanRows, Cond.selects RX5 yX5_ballsOfCleanRows yX5_ballsOfCleanRows, Cond.code yX5_ballsOfCleanRows cX5_ballsOfCleanRows 4 (some .int), Cond.methodLink RX5 74 yX4_balls, Cond.methodLink RL 132 yX8_account, Cond.instanceMethod yX8_account, Cond.selects RX8 yX8_account yX8_account, Cond.code yX8_account cX8_account 2 (some .int), Cond.methodLink RX8 249 yX8_sumOver, Cond.instanceMethod yX8_sumOver, Cond.selects RX8 yX8_sumOver yX8_sumOver, Cond.code yX8_sumOver cX8_sumOver 5 (some .int), Cond.methodLink RL 133 yX7_isWell, Cond.instanceMethod yX7_isWell, Cond.selects RX7 yX7_isWell yX7_isWell]
def wsL_law_r40 : List Cond := [Cond.code yX7_isWell cX7_isWell 3 (some .int), Cond.methodLink RX7 245 yX7_isRowWell, Cond.instanceMethod yX7_isRowWell, Cond.selects RX7 yX7_isRowWell yX7_isRowWell, Cond.code yX7_isRowWell cX7_isRowWell 4 (some .boolean), Cond.methodLink RX7 313 yX4_statesHoldTheBalls, Cond.instanceMethod yX4_statesHoldTheBalls, Cond.selects RX4 yX4_statesHoldTheBalls yX4_statesHoldTheBalls, Cond.code yX4_statesHoldTheBalls cX4_statesHoldTheBalls 3 (some .boolean), Cond.methodLink RX4 60 yX4_balls, Cond.methodLink RX4 63 yJ6_bitCount_0f7a4, Cond.methodLink RL 136 yX8_isWell, Cond.instanceMethod yX8_isWell, Cond.selects RX8 yX8_isWell yX8_isWell, Cond.code yX8_isWell cX8_isWell 1 (some .int), Cond.methodLink RL 137 yX7_mean, Cond.instanceMethod yX7_mean, Cond.selects RX7 yX7_mean yX7_mean, Cond.code yX7_mean cX7_mean 2 (some .int), Cond.methodLink RX7 248 yX5_sumOfThrows, Cond.instanceMethod yX5_sumOfThrows, Cond.selects RX5 yX5_sumOfThrows yX5_sumOfThrows, Cond.code yX5_sumOfThrows cX5_sumOfThrows 4 (some .int), Cond.methodLink RX5 81 yX4_sum]
def wsL_law_r41 : List Cond := [Cond.methodLink RX7 251 yX7_bitsOf, Cond.static yX7_bitsOf, Cond.code yX7_bitsOf cX7_bitsOf 4 (some .int), Cond.constantFloat RX7 316 (1258291200), Cond.methodLink RL 140 yX8_mean, Cond.instanceMethod yX8_mean, Cond.selects RX8 yX8_mean yX8_mean, Cond.code yX8_mean cX8_mean 3 (some .int), Cond.methodLink RX8 252 yJxf58ca_floatToIntBits_5c35a, Cond.static yJxf58ca_floatToIntBits_5c35a, Cond.initialized RJxf58ca, Cond.code yJxf58ca_floatToIntBits_5c35a cJxf58ca_floatToIntBits_5c35a 1 (some .int), Cond.methodLink RJxf58ca 74 ⟨"java/lang/Float", "floatToRawIntBits", "(F)I"⟩, Cond.native ⟨"java/lang/Float", "floatToRawIntBits", "(F)I"⟩, Cond.static ⟨"java/lang/Float", "floatToRawIntBits", "(F)I"⟩, Cond.initialized "java/lang/Float", Cond.constant RJxf58ca 77 (2143289344), Cond.methodLink RJxf58ca 59 yJxf58ca_isNaN_12338, Cond.static yJxf58ca_isNaN_12338, Cond.code yJxf58ca_isNaN_12338 cJxf58ca_isNaN_12338 1 (some .boolean), Cond.methodLink RL 141 yX7_undo, Cond.instanceMethod yX7_undo, Cond.selects RX7 yX7_undo yX7_undo, Cond.code yX7_undo cX7_undo 1 (some .int)]
def wsL_law_r42 : List Cond := [Cond.methodLink RX7 255 yX2_takeBack, Cond.instanceMethod yX2_takeBack, Cond.selects RX2 yX2_takeBack yX2_takeBack, Cond.code yX2_takeBack cX2_takeBack 4 (some .boolean), Cond.methodLink RL 144 yX8_undo, Cond.instanceMethod yX8_undo, Cond.selects RX8 yX8_undo yX8_undo, Cond.code yX8_undo cX8_undo 1 (some .int), Cond.methodLink RL 145 yX7_save, Cond.instanceMethod yX7_save, Cond.selects RX7 yX7_save yX7_save, Cond.code yX7_save cX7_save 1 (some .int), Cond.fieldLink RX7 259 "JugglingRows" "hasSnapshot" "Z", Cond.methodLink RL 148 yX8_save, Cond.instanceMethod yX8_save, Cond.selects RX8 yX8_save yX8_save, Cond.code yX8_save cX8_save 1 (some .int), Cond.fieldLink RX8 258 "JugglingRowsModel" "isSaved" "Z", Cond.methodLink RL 149 yX7_restore, Cond.instanceMethod yX7_restore, Cond.selects RX7 yX7_restore yX7_restore, Cond.code yX7_restore cX7_restore 1 (some .int), Cond.methodLink RX7 263 yX2_forget, Cond.instanceMethod yX2_forget]
def wsL_law_r43 : List Cond := [Cond.selects RX2 yX2_forget yX2_forget, Cond.code yX2_forget cX2_forget 1 none, Cond.methodLink RL 152 yX8_restore, Cond.instanceMethod yX8_restore, Cond.selects RX8 yX8_restore yX8_restore, Cond.code yX8_restore cX8_restore 1 (some .int)]
def wsL_law : List Cond := (wsL_law_r1 ++ (wsL_law_r2 ++ (wsL_law_r3 ++ (wsL_law_r4 ++ (wsL_law_r5 ++ (wsL_law_r6 ++ (wsL_law_r7 ++ (wsL_law_r8 ++ (wsL_law_r9 ++ (wsL_law_r10 ++ (wsL_law_r11 ++ (wsL_law_r12 ++ (wsL_law_r13 ++ (wsL_law_r14 ++ (wsL_law_r15 ++ (wsL_law_r16 ++ (wsL_law_r17 ++ (wsL_law_r18 ++ (wsL_law_r19 ++ (wsL_law_r20 ++ (wsL_law_r21 ++ (wsL_law_r22 ++ (wsL_law_r23 ++ (wsL_law_r24 ++ (wsL_law_r25 ++ (wsL_law_r26 ++ (wsL_law_r27 ++ (wsL_law_r28 ++ (wsL_law_r29 ++ (wsL_law_r30 ++ (wsL_law_r31 ++ (wsL_law_r32 ++ (wsL_law_r33 ++ (wsL_law_r34 ++ (wsL_law_r35 ++ (wsL_law_r36 ++ (wsL_law_r37 ++ (wsL_law_r38 ++ (wsL_law_r39 ++ (wsL_law_r40 ++ (wsL_law_r41 ++ (wsL_law_r42 ++ wsL_law_r43)))))))))))))))))))))))))))))))))))))))))) ++ wsX70 ++ wsX80 ++ wsX50 ++ wsX20 ++ wsX00 ++ wsX10 ++ wsX60 ++ wsX30 ++ wsX40 ++ ([] : List Cond)
theorem inlX0 : ∀ w ∈ wsX00, w ∈ wsL_law := fun _ h => List.mem_append_left _ (List.mem_append_left _ (List.mem_append_left _ (List.mem_append_left _ (List.mem_append_left _ (List.mem_append_right _ h)))))
theorem inlX1 : ∀ w ∈ wsX10, w ∈ wsL_law := fun _ h => List.mem_append_left _ (List.mem_append_left _ (List.mem_append_left _ (List.mem_append_left _ (List.mem_append_right _ h))))
theorem inlX2 : ∀ w ∈ wsX20, w ∈ wsL_law := fun _ h => List.mem_append_left _ (List.mem_append_left _ (List.mem_append_left _ (List.mem_append_left _ (List.mem_append_left _ (List.mem_append_left _ (List.mem_append_right _ h))))))
theorem inlX3 : ∀ w ∈ wsX30, w ∈ wsL_law := fun _ h => List.mem_append_left _ (List.mem_append_left _ (List.mem_append_right _ h))
theorem inlX4 : ∀ w ∈ wsX40, w ∈ wsL_law := fun _ h => List.mem_append_left _ (List.mem_append_right _ h)
theorem inlX5 : ∀ w ∈ wsX50, w ∈ wsL_law := fun _ h => List.mem_append_left _ (List.mem_append_left _ (List.mem_append_left _ (List.mem_append_left _ (List.mem_append_left _ (List.mem_append_left _ (List.mem_append_left _ (List.mem_append_right _ h)))))))
theorem inlX6 : ∀ w ∈ wsX60, w ∈ wsL_law := fun _ h => List.mem_append_left _ (List.mem_append_left _ (List.mem_append_left _ (List.mem_append_right _ h)))
theorem inlX7 : ∀ w ∈ wsX70, w ∈ wsL_law := fun _ h => List.mem_append_left _ (List.mem_append_left _ (List.mem_append_left _ (List.mem_append_left _ (List.mem_append_left _ (List.mem_append_left _ (List.mem_append_left _ (List.mem_append_left _ (List.mem_append_left _ (List.mem_append_right _ h)))))))))
theorem inlX8 : ∀ w ∈ wsX80, w ∈ wsL_law := fun _ h => List.mem_append_left _ (List.mem_append_left _ (List.mem_append_left _ (List.mem_append_left _ (List.mem_append_left _ (List.mem_append_left _ (List.mem_append_left _ (List.mem_append_left _ (List.mem_append_right _ h))))))))
abbrev vwCl : List vw_C := [(RX0, TX0, 4), (RX1, TX1, 2), (RX2, TX2, 3), (RX3, TX3, 4), (RX4, TX4, 2), (RX5, TX5, 9), (RX6, TX6, 2), (RX7, TX7, 10), (RX8, TX8, 26)]
end
section
theorem dX0_init_0 : decode cX0_init 0 = .ok (.aload_n 0, 1) := by decide +kernel
theorem dX0_init_1 : decode cX0_init 1 = .ok (.invokespecial 3, 3) := by decide +kernel
theorem dX0_init_4 : decode cX0_init 4 = .ok (.aload_n 0, 1) := by decide +kernel
theorem dX0_init_5 : decode cX0_init 5 = .ok (.sipush 512, 3) := by decide +kernel
theorem dX0_init_8 : decode cX0_init 8 = .ok (.newarray .int, 2) := by decide +kernel
theorem dX0_init_10 : decode cX0_init 10 = .ok (.putfield 9, 3) := by decide +kernel
theorem dX0_init_13 : decode cX0_init 13 = .ok (.aload_n 0, 1) := by decide +kernel
theorem dX0_init_14 : decode cX0_init 14 = .ok (.sipush 512, 3) := by decide +kernel
theorem dX0_init_17 : decode cX0_init 17 = .ok (.newarray .int, 2) := by decide +kernel
theorem dX0_init_19 : decode cX0_init 19 = .ok (.putfield 15, 3) := by decide +kernel
theorem dX0_init_22 : decode cX0_init 22 = .ok (.aload_n 0, 1) := by decide +kernel
theorem dX0_init_23 : decode cX0_init 23 = .ok (.bipush 9, 2) := by decide +kernel
theorem dX0_init_25 : decode cX0_init 25 = .ok (.newarray .int, 2) := by decide +kernel
theorem dX0_init_27 : decode cX0_init 27 = .ok (.putfield 18, 3) := by decide +kernel
theorem dX0_init_30 : decode cX0_init 30 = .ok (.return_, 1) := by decide +kernel
theorem dX0_countOnward_0 : decode cX0_countOnward 0 = .ok (.iload_n 1, 1) := by decide +kernel
theorem dX0_countOnward_1 : decode cX0_countOnward 1 = .ok (.invokestatic 21, 3) := by decide +kernel
theorem dX0_countOnward_4 : decode cX0_countOnward 4 = .ok (.ifCond .eq 10, 3) := by decide +kernel
theorem dX0_countOnward_7 : decode cX0_countOnward 7 = .ok (.iload_n 2, 1) := by decide +kernel
theorem dX0_countOnward_8 : decode cX0_countOnward 8 = .ok (.invokestatic 21, 3) := by decide +kernel
theorem dX0_countOnward_11 : decode cX0_countOnward 11 = .ok (.ifCond .ne 6, 3) := by decide +kernel
theorem dX0_countOnward_14 : decode cX0_countOnward 14 = .ok (.bipush (-4), 2) := by decide +kernel
theorem dX0_countOnward_16 : decode cX0_countOnward 16 = .ok (.ireturn, 1) := by decide +kernel
theorem dX0_countOnward_17 : decode cX0_countOnward 17 = .ok (.aload_n 0, 1) := by decide +kernel
theorem dX0_countOnward_18 : decode cX0_countOnward 18 = .ok (.iload_n 1, 1) := by decide +kernel
theorem dX0_countOnward_19 : decode cX0_countOnward 19 = .ok (.invokevirtual 25, 3) := by decide +kernel
theorem dX0_countOnward_22 : decode cX0_countOnward 22 = .ok (.iconst 0, 1) := by decide +kernel
theorem dX0_countOnward_23 : decode cX0_countOnward 23 = .ok (.istore_n 3, 1) := by decide +kernel
theorem dX0_countOnward_24 : decode cX0_countOnward 24 = .ok (.iload_n 3, 1) := by decide +kernel
theorem dX0_countOnward_25 : decode cX0_countOnward 25 = .ok (.aload_n 0, 1) := by decide +kernel
theorem dX0_countOnward_26 : decode cX0_countOnward 26 = .ok (.getfield 29, 3) := by decide +kernel
theorem dX0_countOnward_29 : decode cX0_countOnward 29 = .ok (.if_icmp .ge 38, 3) := by decide +kernel
theorem dX0_countOnward_32 : decode cX0_countOnward 32 = .ok (.iload_n 3, 1) := by decide +kernel
theorem dX0_countOnward_33 : decode cX0_countOnward 33 = .ok (.aload_n 0, 1) := by decide +kernel
theorem dX0_countOnward_34 : decode cX0_countOnward 34 = .ok (.getfield 15, 3) := by decide +kernel
theorem dX0_countOnward_37 : decode cX0_countOnward 37 = .ok (.arraylength, 1) := by decide +kernel
theorem dX0_countOnward_38 : decode cX0_countOnward 38 = .ok (.if_icmp .ge 29, 3) := by decide +kernel
theorem dX0_countOnward_41 : decode cX0_countOnward 41 = .ok (.aload_n 0, 1) := by decide +kernel
theorem dX0_countOnward_42 : decode cX0_countOnward 42 = .ok (.getfield 9, 3) := by decide +kernel
theorem dX0_countOnward_45 : decode cX0_countOnward 45 = .ok (.iload_n 2, 1) := by decide +kernel
theorem dX0_countOnward_46 : decode cX0_countOnward 46 = .ok (.iaload, 1) := by decide +kernel
theorem dX0_countOnward_47 : decode cX0_countOnward 47 = .ok (.iconst (-1), 1) := by decide +kernel
theorem dX0_countOnward_48 : decode cX0_countOnward 48 = .ok (.if_icmp .ne 19, 3) := by decide +kernel
theorem dX0_countOnward_51 : decode cX0_countOnward 51 = .ok (.aload_n 0, 1) := by decide +kernel
theorem dX0_countOnward_52 : decode cX0_countOnward 52 = .ok (.aload_n 0, 1) := by decide +kernel
theorem dX0_countOnward_53 : decode cX0_countOnward 53 = .ok (.getfield 15, 3) := by decide +kernel
theorem dX0_countOnward_56 : decode cX0_countOnward 56 = .ok (.iload_n 3, 1) := by decide +kernel
theorem dX0_countOnward_57 : decode cX0_countOnward 57 = .ok (.iaload, 1) := by decide +kernel
theorem dX0_countOnward_58 : decode cX0_countOnward 58 = .ok (.invokevirtual 33, 3) := by decide +kernel
theorem dX0_countOnward_61 : decode cX0_countOnward 61 = .ok (.iinc 3 1, 3) := by decide +kernel
theorem dX0_countOnward_64 : decode cX0_countOnward 64 = .ok (.goto (-40), 3) := by decide +kernel
theorem dX0_countOnward_67 : decode cX0_countOnward 67 = .ok (.aload_n 0, 1) := by decide +kernel
theorem dX0_countOnward_68 : decode cX0_countOnward 68 = .ok (.getfield 9, 3) := by decide +kernel
theorem dX0_countOnward_71 : decode cX0_countOnward 71 = .ok (.iload_n 2, 1) := by decide +kernel
theorem dX0_countOnward_72 : decode cX0_countOnward 72 = .ok (.iaload, 1) := by decide +kernel
theorem dX0_countOnward_73 : decode cX0_countOnward 73 = .ok (.iconst (-1), 1) := by decide +kernel
theorem dX0_countOnward_74 : decode cX0_countOnward 74 = .ok (.if_icmp .ne 8, 3) := by decide +kernel
theorem dX0_countOnward_77 : decode cX0_countOnward 77 = .ok (.bipush (-4), 2) := by decide +kernel
theorem dX0_countOnward_79 : decode cX0_countOnward 79 = .ok (.goto 9, 3) := by decide +kernel
theorem dX0_countOnward_82 : decode cX0_countOnward 82 = .ok (.aload_n 0, 1) := by decide +kernel
theorem dX0_countOnward_83 : decode cX0_countOnward 83 = .ok (.getfield 9, 3) := by decide +kernel
theorem dX0_countOnward_86 : decode cX0_countOnward 86 = .ok (.iload_n 2, 1) := by decide +kernel
theorem dX0_countOnward_87 : decode cX0_countOnward 87 = .ok (.iaload, 1) := by decide +kernel
theorem dX0_countOnward_88 : decode cX0_countOnward 88 = .ok (.ireturn, 1) := by decide +kernel
theorem dX0_countBack_0 : decode cX0_countBack 0 = .ok (.iload_n 1, 1) := by decide +kernel
theorem dX0_countBack_1 : decode cX0_countBack 1 = .ok (.invokestatic 21, 3) := by decide +kernel
theorem dX0_countBack_4 : decode cX0_countBack 4 = .ok (.ifCond .eq 10, 3) := by decide +kernel
theorem dX0_countBack_7 : decode cX0_countBack 7 = .ok (.iload_n 2, 1) := by decide +kernel
theorem dX0_countBack_8 : decode cX0_countBack 8 = .ok (.invokestatic 21, 3) := by decide +kernel
theorem dX0_countBack_11 : decode cX0_countBack 11 = .ok (.ifCond .ne 6, 3) := by decide +kernel
theorem dX0_countBack_14 : decode cX0_countBack 14 = .ok (.bipush (-4), 2) := by decide +kernel
theorem dX0_countBack_16 : decode cX0_countBack 16 = .ok (.ireturn, 1) := by decide +kernel
theorem dX0_countBack_17 : decode cX0_countBack 17 = .ok (.aload_n 0, 1) := by decide +kernel
theorem dX0_countBack_18 : decode cX0_countBack 18 = .ok (.iload_n 2, 1) := by decide +kernel
theorem dX0_countBack_19 : decode cX0_countBack 19 = .ok (.invokevirtual 25, 3) := by decide +kernel
theorem dX0_countBack_22 : decode cX0_countBack 22 = .ok (.iconst 0, 1) := by decide +kernel
theorem dX0_countBack_23 : decode cX0_countBack 23 = .ok (.istore_n 3, 1) := by decide +kernel
theorem dX0_countBack_24 : decode cX0_countBack 24 = .ok (.iload_n 3, 1) := by decide +kernel
theorem dX0_countBack_25 : decode cX0_countBack 25 = .ok (.aload_n 0, 1) := by decide +kernel
theorem dX0_countBack_26 : decode cX0_countBack 26 = .ok (.getfield 29, 3) := by decide +kernel
theorem dX0_countBack_29 : decode cX0_countBack 29 = .ok (.if_icmp .ge 38, 3) := by decide +kernel
theorem dX0_countBack_32 : decode cX0_countBack 32 = .ok (.iload_n 3, 1) := by decide +kernel
theorem dX0_countBack_33 : decode cX0_countBack 33 = .ok (.aload_n 0, 1) := by decide +kernel
theorem dX0_countBack_34 : decode cX0_countBack 34 = .ok (.getfield 15, 3) := by decide +kernel
theorem dX0_countBack_37 : decode cX0_countBack 37 = .ok (.arraylength, 1) := by decide +kernel
theorem dX0_countBack_38 : decode cX0_countBack 38 = .ok (.if_icmp .ge 29, 3) := by decide +kernel
theorem dX0_countBack_41 : decode cX0_countBack 41 = .ok (.aload_n 0, 1) := by decide +kernel
theorem dX0_countBack_42 : decode cX0_countBack 42 = .ok (.getfield 9, 3) := by decide +kernel
theorem dX0_countBack_45 : decode cX0_countBack 45 = .ok (.iload_n 1, 1) := by decide +kernel
theorem dX0_countBack_46 : decode cX0_countBack 46 = .ok (.iaload, 1) := by decide +kernel
theorem dX0_countBack_47 : decode cX0_countBack 47 = .ok (.iconst (-1), 1) := by decide +kernel
theorem dX0_countBack_48 : decode cX0_countBack 48 = .ok (.if_icmp .ne 19, 3) := by decide +kernel
theorem dX0_countBack_51 : decode cX0_countBack 51 = .ok (.aload_n 0, 1) := by decide +kernel
theorem dX0_countBack_52 : decode cX0_countBack 52 = .ok (.aload_n 0, 1) := by decide +kernel
theorem dX0_countBack_53 : decode cX0_countBack 53 = .ok (.getfield 15, 3) := by decide +kernel
theorem dX0_countBack_56 : decode cX0_countBack 56 = .ok (.iload_n 3, 1) := by decide +kernel
theorem dX0_countBack_57 : decode cX0_countBack 57 = .ok (.iaload, 1) := by decide +kernel
theorem dX0_countBack_58 : decode cX0_countBack 58 = .ok (.invokevirtual 36, 3) := by decide +kernel
theorem dX0_countBack_61 : decode cX0_countBack 61 = .ok (.iinc 3 1, 3) := by decide +kernel
theorem dX0_countBack_64 : decode cX0_countBack 64 = .ok (.goto (-40), 3) := by decide +kernel
theorem dX0_countBack_67 : decode cX0_countBack 67 = .ok (.aload_n 0, 1) := by decide +kernel
theorem dX0_countBack_68 : decode cX0_countBack 68 = .ok (.getfield 9, 3) := by decide +kernel
theorem dX0_countBack_71 : decode cX0_countBack 71 = .ok (.iload_n 1, 1) := by decide +kernel
theorem dX0_countBack_72 : decode cX0_countBack 72 = .ok (.iaload, 1) := by decide +kernel
theorem dX0_countBack_73 : decode cX0_countBack 73 = .ok (.iconst (-1), 1) := by decide +kernel
theorem dX0_countBack_74 : decode cX0_countBack 74 = .ok (.if_icmp .ne 8, 3) := by decide +kernel
theorem dX0_countBack_77 : decode cX0_countBack 77 = .ok (.bipush (-4), 2) := by decide +kernel
theorem dX0_countBack_79 : decode cX0_countBack 79 = .ok (.goto 9, 3) := by decide +kernel
theorem dX0_countBack_82 : decode cX0_countBack 82 = .ok (.aload_n 0, 1) := by decide +kernel
theorem dX0_countBack_83 : decode cX0_countBack 83 = .ok (.getfield 9, 3) := by decide +kernel
theorem dX0_countBack_86 : decode cX0_countBack 86 = .ok (.iload_n 1, 1) := by decide +kernel
theorem dX0_countBack_87 : decode cX0_countBack 87 = .ok (.iaload, 1) := by decide +kernel
theorem dX0_countBack_88 : decode cX0_countBack 88 = .ok (.ireturn, 1) := by decide +kernel
theorem dX0_find_0 : decode cX0_find 0 = .ok (.aload_n 0, 1) := by decide +kernel
theorem dX0_find_1 : decode cX0_find 1 = .ok (.iload_n 1, 1) := by decide +kernel
theorem dX0_find_2 : decode cX0_find 2 = .ok (.iload_n 2, 1) := by decide +kernel
theorem dX0_find_3 : decode cX0_find 3 = .ok (.invokevirtual 39, 3) := by decide +kernel
theorem dX0_find_6 : decode cX0_find 6 = .ok (.istore_n 3, 1) := by decide +kernel
theorem dX0_find_7 : decode cX0_find 7 = .ok (.iload_n 1, 1) := by decide +kernel
theorem dX0_find_8 : decode cX0_find 8 = .ok (.istore 4, 2) := by decide +kernel
theorem dX0_find_10 : decode cX0_find 10 = .ok (.iconst 0, 1) := by decide +kernel
theorem dX0_find_11 : decode cX0_find 11 = .ok (.istore 5, 2) := by decide +kernel
theorem dX0_find_13 : decode cX0_find 13 = .ok (.iload 5, 2) := by decide +kernel
theorem dX0_find_15 : decode cX0_find 15 = .ok (.iload_n 3, 1) := by decide +kernel
theorem dX0_find_16 : decode cX0_find 16 = .ok (.if_icmp .ge 51, 3) := by decide +kernel
theorem dX0_find_19 : decode cX0_find 19 = .ok (.iload 5, 2) := by decide +kernel
theorem dX0_find_21 : decode cX0_find 21 = .ok (.aload_n 0, 1) := by decide +kernel
theorem dX0_find_22 : decode cX0_find 22 = .ok (.getfield 18, 3) := by decide +kernel
theorem dX0_find_25 : decode cX0_find 25 = .ok (.arraylength, 1) := by decide +kernel
theorem dX0_find_26 : decode cX0_find 26 = .ok (.if_icmp .ge 41, 3) := by decide +kernel
theorem dX0_find_29 : decode cX0_find 29 = .ok (.aload_n 0, 1) := by decide +kernel
theorem dX0_find_30 : decode cX0_find 30 = .ok (.iload 4, 2) := by decide +kernel
theorem dX0_find_32 : decode cX0_find 32 = .ok (.iload_n 3, 1) := by decide +kernel
theorem dX0_find_33 : decode cX0_find 33 = .ok (.iload 5, 2) := by decide +kernel
theorem dX0_find_35 : decode cX0_find 35 = .ok (.isub, 1) := by decide +kernel
theorem dX0_find_36 : decode cX0_find 36 = .ok (.iconst 1, 1) := by decide +kernel
theorem dX0_find_37 : decode cX0_find 37 = .ok (.isub, 1) := by decide +kernel
theorem dX0_find_38 : decode cX0_find 38 = .ok (.invokevirtual 43, 3) := by decide +kernel
theorem dX0_find_41 : decode cX0_find 41 = .ok (.istore 6, 2) := by decide +kernel
theorem dX0_find_43 : decode cX0_find 43 = .ok (.aload_n 0, 1) := by decide +kernel
theorem dX0_find_44 : decode cX0_find 44 = .ok (.getfield 18, 3) := by decide +kernel
theorem dX0_find_47 : decode cX0_find 47 = .ok (.iload 5, 2) := by decide +kernel
theorem dX0_find_49 : decode cX0_find 49 = .ok (.iload 6, 2) := by decide +kernel
theorem dX0_find_51 : decode cX0_find 51 = .ok (.iastore, 1) := by decide +kernel
theorem dX0_find_52 : decode cX0_find 52 = .ok (.iload 4, 2) := by decide +kernel
theorem dX0_find_54 : decode cX0_find 54 = .ok (.iload 6, 2) := by decide +kernel
theorem dX0_find_56 : decode cX0_find 56 = .ok (.invokestatic 46, 3) := by decide +kernel
theorem dX0_find_59 : decode cX0_find 59 = .ok (.istore 4, 2) := by decide +kernel
theorem dX0_find_61 : decode cX0_find 61 = .ok (.iinc 5 1, 3) := by decide +kernel
theorem dX0_find_64 : decode cX0_find 64 = .ok (.goto (-51), 3) := by decide +kernel
theorem dX0_find_67 : decode cX0_find 67 = .ok (.iload_n 3, 1) := by decide +kernel
theorem dX0_find_68 : decode cX0_find 68 = .ok (.ireturn, 1) := by decide +kernel
theorem dX0_heightAt_0 : decode cX0_heightAt 0 = .ok (.iload_n 1, 1) := by decide +kernel
theorem dX0_heightAt_1 : decode cX0_heightAt 1 = .ok (.ifCond .lt 21, 3) := by decide +kernel
theorem dX0_heightAt_4 : decode cX0_heightAt 4 = .ok (.iload_n 1, 1) := by decide +kernel
theorem dX0_heightAt_5 : decode cX0_heightAt 5 = .ok (.aload_n 0, 1) := by decide +kernel
theorem dX0_heightAt_6 : decode cX0_heightAt 6 = .ok (.getfield 18, 3) := by decide +kernel
theorem dX0_heightAt_9 : decode cX0_heightAt 9 = .ok (.arraylength, 1) := by decide +kernel
theorem dX0_heightAt_10 : decode cX0_heightAt 10 = .ok (.if_icmp .ge 12, 3) := by decide +kernel
theorem dX0_heightAt_13 : decode cX0_heightAt 13 = .ok (.aload_n 0, 1) := by decide +kernel
theorem dX0_heightAt_14 : decode cX0_heightAt 14 = .ok (.getfield 18, 3) := by decide +kernel
theorem dX0_heightAt_17 : decode cX0_heightAt 17 = .ok (.iload_n 1, 1) := by decide +kernel
theorem dX0_heightAt_18 : decode cX0_heightAt 18 = .ok (.iaload, 1) := by decide +kernel
theorem dX0_heightAt_19 : decode cX0_heightAt 19 = .ok (.goto 4, 3) := by decide +kernel
theorem dX0_heightAt_22 : decode cX0_heightAt 22 = .ok (.iconst 0, 1) := by decide +kernel
theorem dX0_heightAt_23 : decode cX0_heightAt 23 = .ok (.ireturn, 1) := by decide +kernel
theorem dX0_lowestNearer_0 : decode cX0_lowestNearer 0 = .ok (.iconst 0, 1) := by decide +kernel
theorem dX0_lowestNearer_1 : decode cX0_lowestNearer 1 = .ok (.istore_n 3, 1) := by decide +kernel
theorem dX0_lowestNearer_2 : decode cX0_lowestNearer 2 = .ok (.iload_n 3, 1) := by decide +kernel
theorem dX0_lowestNearer_3 : decode cX0_lowestNearer 3 = .ok (.bipush 9, 2) := by decide +kernel
theorem dX0_lowestNearer_5 : decode cX0_lowestNearer 5 = .ok (.if_icmp .gt 45, 3) := by decide +kernel
theorem dX0_lowestNearer_8 : decode cX0_lowestNearer 8 = .ok (.iload_n 1, 1) := by decide +kernel
theorem dX0_lowestNearer_9 : decode cX0_lowestNearer 9 = .ok (.iload_n 3, 1) := by decide +kernel
theorem dX0_lowestNearer_10 : decode cX0_lowestNearer 10 = .ok (.invokestatic 49, 3) := by decide +kernel
theorem dX0_lowestNearer_13 : decode cX0_lowestNearer 13 = .ok (.ifCond .eq 31, 3) := by decide +kernel
theorem dX0_lowestNearer_16 : decode cX0_lowestNearer 16 = .ok (.iload_n 1, 1) := by decide +kernel
theorem dX0_lowestNearer_17 : decode cX0_lowestNearer 17 = .ok (.iload_n 3, 1) := by decide +kernel
theorem dX0_lowestNearer_18 : decode cX0_lowestNearer 18 = .ok (.invokestatic 46, 3) := by decide +kernel
theorem dX0_lowestNearer_21 : decode cX0_lowestNearer 21 = .ok (.istore 4, 2) := by decide +kernel
theorem dX0_lowestNearer_23 : decode cX0_lowestNearer 23 = .ok (.iload 4, 2) := by decide +kernel
theorem dX0_lowestNearer_25 : decode cX0_lowestNearer 25 = .ok (.invokestatic 21, 3) := by decide +kernel
theorem dX0_lowestNearer_28 : decode cX0_lowestNearer 28 = .ok (.ifCond .eq 16, 3) := by decide +kernel
theorem dX0_lowestNearer_31 : decode cX0_lowestNearer 31 = .ok (.aload_n 0, 1) := by decide +kernel
theorem dX0_lowestNearer_32 : decode cX0_lowestNearer 32 = .ok (.getfield 9, 3) := by decide +kernel
theorem dX0_lowestNearer_35 : decode cX0_lowestNearer 35 = .ok (.iload 4, 2) := by decide +kernel
theorem dX0_lowestNearer_37 : decode cX0_lowestNearer 37 = .ok (.iaload, 1) := by decide +kernel
theorem dX0_lowestNearer_38 : decode cX0_lowestNearer 38 = .ok (.iload_n 2, 1) := by decide +kernel
theorem dX0_lowestNearer_39 : decode cX0_lowestNearer 39 = .ok (.if_icmp .ne 5, 3) := by decide +kernel
theorem dX0_lowestNearer_42 : decode cX0_lowestNearer 42 = .ok (.iload_n 3, 1) := by decide +kernel
theorem dX0_lowestNearer_43 : decode cX0_lowestNearer 43 = .ok (.ireturn, 1) := by decide +kernel
theorem dX0_lowestNearer_44 : decode cX0_lowestNearer 44 = .ok (.iinc 3 1, 3) := by decide +kernel
theorem dX0_lowestNearer_47 : decode cX0_lowestNearer 47 = .ok (.goto (-45), 3) := by decide +kernel
theorem dX0_lowestNearer_50 : decode cX0_lowestNearer 50 = .ok (.iconst 0, 1) := by decide +kernel
theorem dX0_lowestNearer_51 : decode cX0_lowestNearer 51 = .ok (.ireturn, 1) := by decide +kernel
theorem dX0_startAt_0 : decode cX0_startAt 0 = .ok (.aload_n 0, 1) := by decide +kernel
theorem dX0_startAt_1 : decode cX0_startAt 1 = .ok (.getfield 9, 3) := by decide +kernel
theorem dX0_startAt_4 : decode cX0_startAt 4 = .ok (.iconst (-1), 1) := by decide +kernel
theorem dX0_startAt_5 : decode cX0_startAt 5 = .ok (.invokestatic 53, 3) := by decide +kernel
theorem dX0_startAt_8 : decode cX0_startAt 8 = .ok (.aload_n 0, 1) := by decide +kernel
theorem dX0_startAt_9 : decode cX0_startAt 9 = .ok (.iconst 0, 1) := by decide +kernel
theorem dX0_startAt_10 : decode cX0_startAt 10 = .ok (.putfield 29, 3) := by decide +kernel
theorem dX0_startAt_13 : decode cX0_startAt 13 = .ok (.aload_n 0, 1) := by decide +kernel
theorem dX0_startAt_14 : decode cX0_startAt 14 = .ok (.iload_n 1, 1) := by decide +kernel
theorem dX0_startAt_15 : decode cX0_startAt 15 = .ok (.iconst 0, 1) := by decide +kernel
theorem dX0_startAt_16 : decode cX0_startAt 16 = .ok (.invokevirtual 59, 3) := by decide +kernel
theorem dX0_startAt_19 : decode cX0_startAt 19 = .ok (.return_, 1) := by decide +kernel
theorem dX0_spreadOnward_0 : decode cX0_spreadOnward 0 = .ok (.iload_n 1, 1) := by decide +kernel
theorem dX0_spreadOnward_1 : decode cX0_spreadOnward 1 = .ok (.invokestatic 21, 3) := by decide +kernel
theorem dX0_spreadOnward_4 : decode cX0_spreadOnward 4 = .ok (.ifCond .ne 4, 3) := by decide +kernel
theorem dX0_spreadOnward_7 : decode cX0_spreadOnward 7 = .ok (.return_, 1) := by decide +kernel
theorem dX0_spreadOnward_8 : decode cX0_spreadOnward 8 = .ok (.iconst 0, 1) := by decide +kernel
theorem dX0_spreadOnward_9 : decode cX0_spreadOnward 9 = .ok (.istore_n 2, 1) := by decide +kernel
theorem dX0_spreadOnward_10 : decode cX0_spreadOnward 10 = .ok (.iload_n 2, 1) := by decide +kernel
theorem dX0_spreadOnward_11 : decode cX0_spreadOnward 11 = .ok (.bipush 9, 2) := by decide +kernel
theorem dX0_spreadOnward_13 : decode cX0_spreadOnward 13 = .ok (.if_icmp .gt 34, 3) := by decide +kernel
theorem dX0_spreadOnward_16 : decode cX0_spreadOnward 16 = .ok (.iload_n 1, 1) := by decide +kernel
theorem dX0_spreadOnward_17 : decode cX0_spreadOnward 17 = .ok (.iload_n 2, 1) := by decide +kernel
theorem dX0_spreadOnward_18 : decode cX0_spreadOnward 18 = .ok (.invokestatic 49, 3) := by decide +kernel
theorem dX0_spreadOnward_21 : decode cX0_spreadOnward 21 = .ok (.ifCond .eq 20, 3) := by decide +kernel
theorem dX0_spreadOnward_24 : decode cX0_spreadOnward 24 = .ok (.aload_n 0, 1) := by decide +kernel
theorem dX0_spreadOnward_25 : decode cX0_spreadOnward 25 = .ok (.iload_n 1, 1) := by decide +kernel
theorem dX0_spreadOnward_26 : decode cX0_spreadOnward 26 = .ok (.iload_n 2, 1) := by decide +kernel
theorem dX0_spreadOnward_27 : decode cX0_spreadOnward 27 = .ok (.invokestatic 46, 3) := by decide +kernel
theorem dX0_spreadOnward_30 : decode cX0_spreadOnward 30 = .ok (.aload_n 0, 1) := by decide +kernel
theorem dX0_spreadOnward_31 : decode cX0_spreadOnward 31 = .ok (.getfield 9, 3) := by decide +kernel
theorem dX0_spreadOnward_34 : decode cX0_spreadOnward 34 = .ok (.iload_n 1, 1) := by decide +kernel
theorem dX0_spreadOnward_35 : decode cX0_spreadOnward 35 = .ok (.iaload, 1) := by decide +kernel
theorem dX0_spreadOnward_36 : decode cX0_spreadOnward 36 = .ok (.iconst 1, 1) := by decide +kernel
theorem dX0_spreadOnward_37 : decode cX0_spreadOnward 37 = .ok (.iadd, 1) := by decide +kernel
theorem dX0_spreadOnward_38 : decode cX0_spreadOnward 38 = .ok (.invokevirtual 59, 3) := by decide +kernel
theorem dX0_spreadOnward_41 : decode cX0_spreadOnward 41 = .ok (.iinc 2 1, 3) := by decide +kernel
theorem dX0_spreadOnward_44 : decode cX0_spreadOnward 44 = .ok (.goto (-34), 3) := by decide +kernel
theorem dX0_spreadOnward_47 : decode cX0_spreadOnward 47 = .ok (.return_, 1) := by decide +kernel
theorem dX0_spreadBack_0 : decode cX0_spreadBack 0 = .ok (.iload_n 1, 1) := by decide +kernel
theorem dX0_spreadBack_1 : decode cX0_spreadBack 1 = .ok (.invokestatic 21, 3) := by decide +kernel
theorem dX0_spreadBack_4 : decode cX0_spreadBack 4 = .ok (.ifCond .ne 4, 3) := by decide +kernel
theorem dX0_spreadBack_7 : decode cX0_spreadBack 7 = .ok (.return_, 1) := by decide +kernel
theorem dX0_spreadBack_8 : decode cX0_spreadBack 8 = .ok (.aload_n 0, 1) := by decide +kernel
theorem dX0_spreadBack_9 : decode cX0_spreadBack 9 = .ok (.iload_n 1, 1) := by decide +kernel
theorem dX0_spreadBack_10 : decode cX0_spreadBack 10 = .ok (.iconst 1, 1) := by decide +kernel
theorem dX0_spreadBack_11 : decode cX0_spreadBack 11 = .ok (.ishl, 1) := by decide +kernel
theorem dX0_spreadBack_12 : decode cX0_spreadBack 12 = .ok (.aload_n 0, 1) := by decide +kernel
theorem dX0_spreadBack_13 : decode cX0_spreadBack 13 = .ok (.getfield 9, 3) := by decide +kernel
theorem dX0_spreadBack_16 : decode cX0_spreadBack 16 = .ok (.iload_n 1, 1) := by decide +kernel
theorem dX0_spreadBack_17 : decode cX0_spreadBack 17 = .ok (.iaload, 1) := by decide +kernel
theorem dX0_spreadBack_18 : decode cX0_spreadBack 18 = .ok (.iconst 1, 1) := by decide +kernel
theorem dX0_spreadBack_19 : decode cX0_spreadBack 19 = .ok (.iadd, 1) := by decide +kernel
theorem dX0_spreadBack_20 : decode cX0_spreadBack 20 = .ok (.invokevirtual 59, 3) := by decide +kernel
theorem dX0_spreadBack_23 : decode cX0_spreadBack 23 = .ok (.iconst 1, 1) := by decide +kernel
theorem dX0_spreadBack_24 : decode cX0_spreadBack 24 = .ok (.istore_n 2, 1) := by decide +kernel
theorem dX0_spreadBack_25 : decode cX0_spreadBack 25 = .ok (.iload_n 2, 1) := by decide +kernel
theorem dX0_spreadBack_26 : decode cX0_spreadBack 26 = .ok (.bipush 9, 2) := by decide +kernel
theorem dX0_spreadBack_28 : decode cX0_spreadBack 28 = .ok (.if_icmp .gt 40, 3) := by decide +kernel
theorem dX0_spreadBack_31 : decode cX0_spreadBack 31 = .ok (.iconst 1, 1) := by decide +kernel
theorem dX0_spreadBack_32 : decode cX0_spreadBack 32 = .ok (.iload_n 2, 1) := by decide +kernel
theorem dX0_spreadBack_33 : decode cX0_spreadBack 33 = .ok (.iconst 1, 1) := by decide +kernel
theorem dX0_spreadBack_34 : decode cX0_spreadBack 34 = .ok (.isub, 1) := by decide +kernel
theorem dX0_spreadBack_35 : decode cX0_spreadBack 35 = .ok (.ishl, 1) := by decide +kernel
theorem dX0_spreadBack_36 : decode cX0_spreadBack 36 = .ok (.istore_n 3, 1) := by decide +kernel
theorem dX0_spreadBack_37 : decode cX0_spreadBack 37 = .ok (.iload_n 1, 1) := by decide +kernel
theorem dX0_spreadBack_38 : decode cX0_spreadBack 38 = .ok (.iload_n 3, 1) := by decide +kernel
theorem dX0_spreadBack_39 : decode cX0_spreadBack 39 = .ok (.iand, 1) := by decide +kernel
theorem dX0_spreadBack_40 : decode cX0_spreadBack 40 = .ok (.ifCond .eq 22, 3) := by decide +kernel
theorem dX0_spreadBack_43 : decode cX0_spreadBack 43 = .ok (.aload_n 0, 1) := by decide +kernel
theorem dX0_spreadBack_44 : decode cX0_spreadBack 44 = .ok (.iload_n 1, 1) := by decide +kernel
theorem dX0_spreadBack_45 : decode cX0_spreadBack 45 = .ok (.iload_n 3, 1) := by decide +kernel
theorem dX0_spreadBack_46 : decode cX0_spreadBack 46 = .ok (.isub, 1) := by decide +kernel
theorem dX0_spreadBack_47 : decode cX0_spreadBack 47 = .ok (.iconst 1, 1) := by decide +kernel
theorem dX0_spreadBack_48 : decode cX0_spreadBack 48 = .ok (.ishl, 1) := by decide +kernel
theorem dX0_spreadBack_49 : decode cX0_spreadBack 49 = .ok (.iconst 1, 1) := by decide +kernel
theorem dX0_spreadBack_50 : decode cX0_spreadBack 50 = .ok (.ior, 1) := by decide +kernel
theorem dX0_spreadBack_51 : decode cX0_spreadBack 51 = .ok (.aload_n 0, 1) := by decide +kernel
theorem dX0_spreadBack_52 : decode cX0_spreadBack 52 = .ok (.getfield 9, 3) := by decide +kernel
theorem dX0_spreadBack_55 : decode cX0_spreadBack 55 = .ok (.iload_n 1, 1) := by decide +kernel
theorem dX0_spreadBack_56 : decode cX0_spreadBack 56 = .ok (.iaload, 1) := by decide +kernel
theorem dX0_spreadBack_57 : decode cX0_spreadBack 57 = .ok (.iconst 1, 1) := by decide +kernel
theorem dX0_spreadBack_58 : decode cX0_spreadBack 58 = .ok (.iadd, 1) := by decide +kernel
theorem dX0_spreadBack_59 : decode cX0_spreadBack 59 = .ok (.invokevirtual 59, 3) := by decide +kernel
theorem dX0_spreadBack_62 : decode cX0_spreadBack 62 = .ok (.iinc 2 1, 3) := by decide +kernel
theorem dX0_spreadBack_65 : decode cX0_spreadBack 65 = .ok (.goto (-40), 3) := by decide +kernel
theorem dX0_spreadBack_68 : decode cX0_spreadBack 68 = .ok (.return_, 1) := by decide +kernel
theorem dX0_reach_0 : decode cX0_reach 0 = .ok (.iload_n 1, 1) := by decide +kernel
theorem dX0_reach_1 : decode cX0_reach 1 = .ok (.ifCond .lt 31, 3) := by decide +kernel
theorem dX0_reach_4 : decode cX0_reach 4 = .ok (.iload_n 1, 1) := by decide +kernel
theorem dX0_reach_5 : decode cX0_reach 5 = .ok (.aload_n 0, 1) := by decide +kernel
theorem dX0_reach_6 : decode cX0_reach 6 = .ok (.getfield 9, 3) := by decide +kernel
theorem dX0_reach_9 : decode cX0_reach 9 = .ok (.arraylength, 1) := by decide +kernel
theorem dX0_reach_10 : decode cX0_reach 10 = .ok (.if_icmp .ge 22, 3) := by decide +kernel
theorem dX0_reach_13 : decode cX0_reach 13 = .ok (.aload_n 0, 1) := by decide +kernel
theorem dX0_reach_14 : decode cX0_reach 14 = .ok (.getfield 29, 3) := by decide +kernel
theorem dX0_reach_17 : decode cX0_reach 17 = .ok (.ifCond .lt 15, 3) := by decide +kernel
theorem dX0_reach_20 : decode cX0_reach 20 = .ok (.aload_n 0, 1) := by decide +kernel
theorem dX0_reach_21 : decode cX0_reach 21 = .ok (.getfield 29, 3) := by decide +kernel
theorem dX0_reach_24 : decode cX0_reach 24 = .ok (.aload_n 0, 1) := by decide +kernel
theorem dX0_reach_25 : decode cX0_reach 25 = .ok (.getfield 15, 3) := by decide +kernel
theorem dX0_reach_28 : decode cX0_reach 28 = .ok (.arraylength, 1) := by decide +kernel
theorem dX0_reach_29 : decode cX0_reach 29 = .ok (.if_icmp .lt 4, 3) := by decide +kernel
theorem dX0_reach_32 : decode cX0_reach 32 = .ok (.return_, 1) := by decide +kernel
theorem dX0_reach_33 : decode cX0_reach 33 = .ok (.aload_n 0, 1) := by decide +kernel
theorem dX0_reach_34 : decode cX0_reach 34 = .ok (.getfield 9, 3) := by decide +kernel
theorem dX0_reach_37 : decode cX0_reach 37 = .ok (.iload_n 1, 1) := by decide +kernel
theorem dX0_reach_38 : decode cX0_reach 38 = .ok (.iaload, 1) := by decide +kernel
theorem dX0_reach_39 : decode cX0_reach 39 = .ok (.iconst (-1), 1) := by decide +kernel
theorem dX0_reach_40 : decode cX0_reach 40 = .ok (.if_icmp .ne 30, 3) := by decide +kernel
theorem dX0_reach_43 : decode cX0_reach 43 = .ok (.aload_n 0, 1) := by decide +kernel
theorem dX0_reach_44 : decode cX0_reach 44 = .ok (.getfield 9, 3) := by decide +kernel
theorem dX0_reach_47 : decode cX0_reach 47 = .ok (.iload_n 1, 1) := by decide +kernel
theorem dX0_reach_48 : decode cX0_reach 48 = .ok (.iload_n 2, 1) := by decide +kernel
theorem dX0_reach_49 : decode cX0_reach 49 = .ok (.iastore, 1) := by decide +kernel
theorem dX0_reach_50 : decode cX0_reach 50 = .ok (.aload_n 0, 1) := by decide +kernel
theorem dX0_reach_51 : decode cX0_reach 51 = .ok (.getfield 15, 3) := by decide +kernel
theorem dX0_reach_54 : decode cX0_reach 54 = .ok (.aload_n 0, 1) := by decide +kernel
theorem dX0_reach_55 : decode cX0_reach 55 = .ok (.getfield 29, 3) := by decide +kernel
theorem dX0_reach_58 : decode cX0_reach 58 = .ok (.iload_n 1, 1) := by decide +kernel
theorem dX0_reach_59 : decode cX0_reach 59 = .ok (.iastore, 1) := by decide +kernel
theorem dX0_reach_60 : decode cX0_reach 60 = .ok (.aload_n 0, 1) := by decide +kernel
theorem dX0_reach_61 : decode cX0_reach 61 = .ok (.dup, 1) := by decide +kernel
theorem dX0_reach_62 : decode cX0_reach 62 = .ok (.getfield 29, 3) := by decide +kernel
theorem dX0_reach_65 : decode cX0_reach 65 = .ok (.iconst 1, 1) := by decide +kernel
theorem dX0_reach_66 : decode cX0_reach 66 = .ok (.iadd, 1) := by decide +kernel
theorem dX0_reach_67 : decode cX0_reach 67 = .ok (.putfield 29, 3) := by decide +kernel
theorem dX0_reach_70 : decode cX0_reach 70 = .ok (.return_, 1) := by decide +kernel
theorem dX0_isState_0 : decode cX0_isState 0 = .ok (.iload_n 0, 1) := by decide +kernel
theorem dX0_isState_1 : decode cX0_isState 1 = .ok (.ifCond .lt 14, 3) := by decide +kernel
theorem dX0_isState_4 : decode cX0_isState 4 = .ok (.iload_n 0, 1) := by decide +kernel
theorem dX0_isState_5 : decode cX0_isState 5 = .ok (.sipush 512, 3) := by decide +kernel
theorem dX0_isState_8 : decode cX0_isState 8 = .ok (.if_icmp .ge 7, 3) := by decide +kernel
theorem dX0_isState_11 : decode cX0_isState 11 = .ok (.iconst 1, 1) := by decide +kernel
theorem dX0_isState_12 : decode cX0_isState 12 = .ok (.goto 4, 3) := by decide +kernel
theorem dX0_isState_15 : decode cX0_isState 15 = .ok (.iconst 0, 1) := by decide +kernel
theorem dX0_isState_16 : decode cX0_isState 16 = .ok (.ireturn, 1) := by decide +kernel
theorem dX1_init_0 : decode cX1_init 0 = .ok (.aload_n 0, 1) := by decide +kernel
theorem dX1_init_1 : decode cX1_init 1 = .ok (.invokespecial 3, 3) := by decide +kernel
theorem dX1_init_4 : decode cX1_init 4 = .ok (.aload_n 0, 1) := by decide +kernel
theorem dX1_init_5 : decode cX1_init 5 = .ok (.bipush 10, 2) := by decide +kernel
theorem dX1_init_7 : decode cX1_init 7 = .ok (.newarray .char, 2) := by decide +kernel
theorem dX1_init_9 : decode cX1_init 9 = .ok (.putfield 9, 3) := by decide +kernel
theorem dX1_init_12 : decode cX1_init 12 = .ok (.return_, 1) := by decide +kernel
theorem dX1_clear_0 : decode cX1_clear 0 = .ok (.aload_n 0, 1) := by decide +kernel
theorem dX1_clear_1 : decode cX1_clear 1 = .ok (.iconst 0, 1) := by decide +kernel
theorem dX1_clear_2 : decode cX1_clear 2 = .ok (.putfield 15, 3) := by decide +kernel
theorem dX1_clear_5 : decode cX1_clear 5 = .ok (.return_, 1) := by decide +kernel
theorem dX1_put_0 : decode cX1_put 0 = .ok (.aload_n 0, 1) := by decide +kernel
theorem dX1_put_1 : decode cX1_put 1 = .ok (.getfield 15, 3) := by decide +kernel
theorem dX1_put_4 : decode cX1_put 4 = .ok (.ifCond .lt 35, 3) := by decide +kernel
theorem dX1_put_7 : decode cX1_put 7 = .ok (.aload_n 0, 1) := by decide +kernel
theorem dX1_put_8 : decode cX1_put 8 = .ok (.getfield 15, 3) := by decide +kernel
theorem dX1_put_11 : decode cX1_put 11 = .ok (.aload_n 0, 1) := by decide +kernel
theorem dX1_put_12 : decode cX1_put 12 = .ok (.getfield 9, 3) := by decide +kernel
theorem dX1_put_15 : decode cX1_put 15 = .ok (.arraylength, 1) := by decide +kernel
theorem dX1_put_16 : decode cX1_put 16 = .ok (.if_icmp .ge 23, 3) := by decide +kernel
theorem dX1_put_19 : decode cX1_put 19 = .ok (.aload_n 0, 1) := by decide +kernel
theorem dX1_put_20 : decode cX1_put 20 = .ok (.getfield 9, 3) := by decide +kernel
theorem dX1_put_23 : decode cX1_put 23 = .ok (.aload_n 0, 1) := by decide +kernel
theorem dX1_put_24 : decode cX1_put 24 = .ok (.getfield 15, 3) := by decide +kernel
theorem dX1_put_27 : decode cX1_put 27 = .ok (.iload_n 1, 1) := by decide +kernel
theorem dX1_put_28 : decode cX1_put 28 = .ok (.castore, 1) := by decide +kernel
theorem dX1_put_29 : decode cX1_put 29 = .ok (.aload_n 0, 1) := by decide +kernel
theorem dX1_put_30 : decode cX1_put 30 = .ok (.dup, 1) := by decide +kernel
theorem dX1_put_31 : decode cX1_put 31 = .ok (.getfield 15, 3) := by decide +kernel
theorem dX1_put_34 : decode cX1_put 34 = .ok (.iconst 1, 1) := by decide +kernel
theorem dX1_put_35 : decode cX1_put 35 = .ok (.iadd, 1) := by decide +kernel
theorem dX1_put_36 : decode cX1_put 36 = .ok (.putfield 15, 3) := by decide +kernel
theorem dX1_put_39 : decode cX1_put 39 = .ok (.return_, 1) := by decide +kernel
theorem dX1_putDigit_0 : decode cX1_putDigit 0 = .ok (.aload_n 0, 1) := by decide +kernel
theorem dX1_putDigit_1 : decode cX1_putDigit 1 = .ok (.bipush 48, 2) := by decide +kernel
theorem dX1_putDigit_3 : decode cX1_putDigit 3 = .ok (.iload_n 1, 1) := by decide +kernel
theorem dX1_putDigit_4 : decode cX1_putDigit 4 = .ok (.iadd, 1) := by decide +kernel
theorem dX1_putDigit_5 : decode cX1_putDigit 5 = .ok (.i2c, 1) := by decide +kernel
theorem dX1_putDigit_6 : decode cX1_putDigit 6 = .ok (.invokevirtual 19, 3) := by decide +kernel
theorem dX1_putDigit_9 : decode cX1_putDigit 9 = .ok (.return_, 1) := by decide +kernel
theorem dX1_codeAt_0 : decode cX1_codeAt 0 = .ok (.iload_n 1, 1) := by decide +kernel
theorem dX1_codeAt_1 : decode cX1_codeAt 1 = .ok (.ifCond .lt 29, 3) := by decide +kernel
theorem dX1_codeAt_4 : decode cX1_codeAt 4 = .ok (.iload_n 1, 1) := by decide +kernel
theorem dX1_codeAt_5 : decode cX1_codeAt 5 = .ok (.aload_n 0, 1) := by decide +kernel
theorem dX1_codeAt_6 : decode cX1_codeAt 6 = .ok (.getfield 15, 3) := by decide +kernel
theorem dX1_codeAt_9 : decode cX1_codeAt 9 = .ok (.if_icmp .ge 21, 3) := by decide +kernel
theorem dX1_codeAt_12 : decode cX1_codeAt 12 = .ok (.iload_n 1, 1) := by decide +kernel
theorem dX1_codeAt_13 : decode cX1_codeAt 13 = .ok (.aload_n 0, 1) := by decide +kernel
theorem dX1_codeAt_14 : decode cX1_codeAt 14 = .ok (.getfield 9, 3) := by decide +kernel
theorem dX1_codeAt_17 : decode cX1_codeAt 17 = .ok (.arraylength, 1) := by decide +kernel
theorem dX1_codeAt_18 : decode cX1_codeAt 18 = .ok (.if_icmp .ge 12, 3) := by decide +kernel
theorem dX1_codeAt_21 : decode cX1_codeAt 21 = .ok (.aload_n 0, 1) := by decide +kernel
theorem dX1_codeAt_22 : decode cX1_codeAt 22 = .ok (.getfield 9, 3) := by decide +kernel
theorem dX1_codeAt_25 : decode cX1_codeAt 25 = .ok (.iload_n 1, 1) := by decide +kernel
theorem dX1_codeAt_26 : decode cX1_codeAt 26 = .ok (.caload, 1) := by decide +kernel
theorem dX1_codeAt_27 : decode cX1_codeAt 27 = .ok (.goto 4, 3) := by decide +kernel
theorem dX1_codeAt_30 : decode cX1_codeAt 30 = .ok (.iconst (-1), 1) := by decide +kernel
theorem dX1_codeAt_31 : decode cX1_codeAt 31 = .ok (.ireturn, 1) := by decide +kernel
theorem dX2_init_0 : decode cX2_init 0 = .ok (.aload_n 0, 1) := by decide +kernel
theorem dX2_init_1 : decode cX2_init 1 = .ok (.invokespecial 3, 3) := by decide +kernel
theorem dX2_init_4 : decode cX2_init 4 = .ok (.aload_n 0, 1) := by decide +kernel
theorem dX2_init_5 : decode cX2_init 5 = .ok (.bipush 8, 2) := by decide +kernel
theorem dX2_init_7 : decode cX2_init 7 = .ok (.anewarray 9, 3) := by decide +kernel
theorem dX2_init_10 : decode cX2_init 10 = .ok (.putfield 11, 3) := by decide +kernel
theorem dX2_init_13 : decode cX2_init 13 = .ok (.iconst 0, 1) := by decide +kernel
theorem dX2_init_14 : decode cX2_init 14 = .ok (.istore_n 1, 1) := by decide +kernel
theorem dX2_init_15 : decode cX2_init 15 = .ok (.iload_n 1, 1) := by decide +kernel
theorem dX2_init_16 : decode cX2_init 16 = .ok (.aload_n 0, 1) := by decide +kernel
theorem dX2_init_17 : decode cX2_init 17 = .ok (.getfield 11, 3) := by decide +kernel
theorem dX2_init_20 : decode cX2_init 20 = .ok (.arraylength, 1) := by decide +kernel
theorem dX2_init_21 : decode cX2_init 21 = .ok (.if_icmp .ge 22, 3) := by decide +kernel
theorem dX2_init_24 : decode cX2_init 24 = .ok (.aload_n 0, 1) := by decide +kernel
theorem dX2_init_25 : decode cX2_init 25 = .ok (.getfield 11, 3) := by decide +kernel
theorem dX2_init_28 : decode cX2_init 28 = .ok (.iload_n 1, 1) := by decide +kernel
theorem dX2_init_29 : decode cX2_init 29 = .ok (.new 9, 3) := by decide +kernel
theorem dX2_init_32 : decode cX2_init 32 = .ok (.dup, 1) := by decide +kernel
theorem dX2_init_33 : decode cX2_init 33 = .ok (.invokespecial 17, 3) := by decide +kernel
theorem dX2_init_36 : decode cX2_init 36 = .ok (.aastore, 1) := by decide +kernel
theorem dX2_init_37 : decode cX2_init 37 = .ok (.iinc 1 1, 3) := by decide +kernel
theorem dX2_init_40 : decode cX2_init 40 = .ok (.goto (-25), 3) := by decide +kernel
theorem dX2_init_43 : decode cX2_init 43 = .ok (.return_, 1) := by decide +kernel
theorem dX2_keep_0 : decode cX2_keep 0 = .ok (.aload_n 0, 1) := by decide +kernel
theorem dX2_keep_1 : decode cX2_keep 1 = .ok (.getfield 18, 3) := by decide +kernel
theorem dX2_keep_4 : decode cX2_keep 4 = .ok (.ifCond .lt 15, 3) := by decide +kernel
theorem dX2_keep_7 : decode cX2_keep 7 = .ok (.aload_n 0, 1) := by decide +kernel
theorem dX2_keep_8 : decode cX2_keep 8 = .ok (.getfield 18, 3) := by decide +kernel
theorem dX2_keep_11 : decode cX2_keep 11 = .ok (.aload_n 0, 1) := by decide +kernel
theorem dX2_keep_12 : decode cX2_keep 12 = .ok (.getfield 11, 3) := by decide +kernel
theorem dX2_keep_15 : decode cX2_keep 15 = .ok (.arraylength, 1) := by decide +kernel
theorem dX2_keep_16 : decode cX2_keep 16 = .ok (.if_icmp .lt 4, 3) := by decide +kernel
theorem dX2_keep_19 : decode cX2_keep 19 = .ok (.return_, 1) := by decide +kernel
theorem dX2_keep_20 : decode cX2_keep 20 = .ok (.aload_n 0, 1) := by decide +kernel
theorem dX2_keep_21 : decode cX2_keep 21 = .ok (.getfield 11, 3) := by decide +kernel
theorem dX2_keep_24 : decode cX2_keep 24 = .ok (.aload_n 0, 1) := by decide +kernel
theorem dX2_keep_25 : decode cX2_keep 25 = .ok (.getfield 18, 3) := by decide +kernel
theorem dX2_keep_28 : decode cX2_keep 28 = .ok (.aaload, 1) := by decide +kernel
theorem dX2_keep_29 : decode cX2_keep 29 = .ok (.astore_n 2, 1) := by decide +kernel
theorem dX2_keep_30 : decode cX2_keep 30 = .ok (.aload_n 2, 1) := by decide +kernel
theorem dX2_keep_31 : decode cX2_keep 31 = .ok (.ifnonnull 4, 3) := by decide +kernel
theorem dX2_keep_34 : decode cX2_keep 34 = .ok (.return_, 1) := by decide +kernel
theorem dX2_keep_35 : decode cX2_keep 35 = .ok (.aload_n 2, 1) := by decide +kernel
theorem dX2_keep_36 : decode cX2_keep 36 = .ok (.aload_n 1, 1) := by decide +kernel
theorem dX2_keep_37 : decode cX2_keep 37 = .ok (.invokevirtual 22, 3) := by decide +kernel
theorem dX2_keep_40 : decode cX2_keep 40 = .ok (.aload_n 0, 1) := by decide +kernel
theorem dX2_keep_41 : decode cX2_keep 41 = .ok (.aload_n 0, 1) := by decide +kernel
theorem dX2_keep_42 : decode cX2_keep 42 = .ok (.getfield 18, 3) := by decide +kernel
theorem dX2_keep_45 : decode cX2_keep 45 = .ok (.iconst 1, 1) := by decide +kernel
theorem dX2_keep_46 : decode cX2_keep 46 = .ok (.iadd, 1) := by decide +kernel
theorem dX2_keep_47 : decode cX2_keep 47 = .ok (.aload_n 0, 1) := by decide +kernel
theorem dX2_keep_48 : decode cX2_keep 48 = .ok (.getfield 11, 3) := by decide +kernel
theorem dX2_keep_51 : decode cX2_keep 51 = .ok (.arraylength, 1) := by decide +kernel
theorem dX2_keep_52 : decode cX2_keep 52 = .ok (.if_icmp .ge 12, 3) := by decide +kernel
theorem dX2_keep_55 : decode cX2_keep 55 = .ok (.aload_n 0, 1) := by decide +kernel
theorem dX2_keep_56 : decode cX2_keep 56 = .ok (.getfield 18, 3) := by decide +kernel
theorem dX2_keep_59 : decode cX2_keep 59 = .ok (.iconst 1, 1) := by decide +kernel
theorem dX2_keep_60 : decode cX2_keep 60 = .ok (.iadd, 1) := by decide +kernel
theorem dX2_keep_61 : decode cX2_keep 61 = .ok (.goto 4, 3) := by decide +kernel
theorem dX2_keep_64 : decode cX2_keep 64 = .ok (.iconst 0, 1) := by decide +kernel
theorem dX2_keep_65 : decode cX2_keep 65 = .ok (.putfield 18, 3) := by decide +kernel
theorem dX2_keep_68 : decode cX2_keep 68 = .ok (.aload_n 0, 1) := by decide +kernel
theorem dX2_keep_69 : decode cX2_keep 69 = .ok (.aload_n 0, 1) := by decide +kernel
theorem dX2_keep_70 : decode cX2_keep 70 = .ok (.getfield 26, 3) := by decide +kernel
theorem dX2_keep_73 : decode cX2_keep 73 = .ok (.iconst 1, 1) := by decide +kernel
theorem dX2_keep_74 : decode cX2_keep 74 = .ok (.iadd, 1) := by decide +kernel
theorem dX2_keep_75 : decode cX2_keep 75 = .ok (.bipush 8, 2) := by decide +kernel
theorem dX2_keep_77 : decode cX2_keep 77 = .ok (.invokestatic 29, 3) := by decide +kernel
theorem dX2_keep_80 : decode cX2_keep 80 = .ok (.putfield 26, 3) := by decide +kernel
theorem dX2_keep_83 : decode cX2_keep 83 = .ok (.return_, 1) := by decide +kernel
theorem dX2_takeBack_0 : decode cX2_takeBack 0 = .ok (.aload_n 0, 1) := by decide +kernel
theorem dX2_takeBack_1 : decode cX2_takeBack 1 = .ok (.getfield 18, 3) := by decide +kernel
theorem dX2_takeBack_4 : decode cX2_takeBack 4 = .ok (.ifCond .le 12, 3) := by decide +kernel
theorem dX2_takeBack_7 : decode cX2_takeBack 7 = .ok (.aload_n 0, 1) := by decide +kernel
theorem dX2_takeBack_8 : decode cX2_takeBack 8 = .ok (.getfield 18, 3) := by decide +kernel
theorem dX2_takeBack_11 : decode cX2_takeBack 11 = .ok (.iconst 1, 1) := by decide +kernel
theorem dX2_takeBack_12 : decode cX2_takeBack 12 = .ok (.isub, 1) := by decide +kernel
theorem dX2_takeBack_13 : decode cX2_takeBack 13 = .ok (.goto 10, 3) := by decide +kernel
theorem dX2_takeBack_16 : decode cX2_takeBack 16 = .ok (.aload_n 0, 1) := by decide +kernel
theorem dX2_takeBack_17 : decode cX2_takeBack 17 = .ok (.getfield 11, 3) := by decide +kernel
theorem dX2_takeBack_20 : decode cX2_takeBack 20 = .ok (.arraylength, 1) := by decide +kernel
theorem dX2_takeBack_21 : decode cX2_takeBack 21 = .ok (.iconst 1, 1) := by decide +kernel
theorem dX2_takeBack_22 : decode cX2_takeBack 22 = .ok (.isub, 1) := by decide +kernel
theorem dX2_takeBack_23 : decode cX2_takeBack 23 = .ok (.istore_n 2, 1) := by decide +kernel
theorem dX2_takeBack_24 : decode cX2_takeBack 24 = .ok (.aload_n 0, 1) := by decide +kernel
theorem dX2_takeBack_25 : decode cX2_takeBack 25 = .ok (.getfield 26, 3) := by decide +kernel
theorem dX2_takeBack_28 : decode cX2_takeBack 28 = .ok (.ifCond .le 12, 3) := by decide +kernel
theorem dX2_takeBack_31 : decode cX2_takeBack 31 = .ok (.iload_n 2, 1) := by decide +kernel
theorem dX2_takeBack_32 : decode cX2_takeBack 32 = .ok (.aload_n 0, 1) := by decide +kernel
theorem dX2_takeBack_33 : decode cX2_takeBack 33 = .ok (.getfield 11, 3) := by decide +kernel
theorem dX2_takeBack_36 : decode cX2_takeBack 36 = .ok (.arraylength, 1) := by decide +kernel
theorem dX2_takeBack_37 : decode cX2_takeBack 37 = .ok (.if_icmp .lt 5, 3) := by decide +kernel
theorem dX2_takeBack_40 : decode cX2_takeBack 40 = .ok (.iconst 0, 1) := by decide +kernel
theorem dX2_takeBack_41 : decode cX2_takeBack 41 = .ok (.ireturn, 1) := by decide +kernel
theorem dX2_takeBack_42 : decode cX2_takeBack 42 = .ok (.aload_n 0, 1) := by decide +kernel
theorem dX2_takeBack_43 : decode cX2_takeBack 43 = .ok (.getfield 11, 3) := by decide +kernel
theorem dX2_takeBack_46 : decode cX2_takeBack 46 = .ok (.iload_n 2, 1) := by decide +kernel
theorem dX2_takeBack_47 : decode cX2_takeBack 47 = .ok (.aaload, 1) := by decide +kernel
theorem dX2_takeBack_48 : decode cX2_takeBack 48 = .ok (.astore_n 3, 1) := by decide +kernel
theorem dX2_takeBack_49 : decode cX2_takeBack 49 = .ok (.aload_n 3, 1) := by decide +kernel
theorem dX2_takeBack_50 : decode cX2_takeBack 50 = .ok (.ifnonnull 5, 3) := by decide +kernel
theorem dX2_takeBack_53 : decode cX2_takeBack 53 = .ok (.iconst 0, 1) := by decide +kernel
theorem dX2_takeBack_54 : decode cX2_takeBack 54 = .ok (.ireturn, 1) := by decide +kernel
theorem dX2_takeBack_55 : decode cX2_takeBack 55 = .ok (.aload_n 1, 1) := by decide +kernel
theorem dX2_takeBack_56 : decode cX2_takeBack 56 = .ok (.aload_n 3, 1) := by decide +kernel
theorem dX2_takeBack_57 : decode cX2_takeBack 57 = .ok (.invokevirtual 22, 3) := by decide +kernel
theorem dX2_takeBack_60 : decode cX2_takeBack 60 = .ok (.aload_n 0, 1) := by decide +kernel
theorem dX2_takeBack_61 : decode cX2_takeBack 61 = .ok (.iload_n 2, 1) := by decide +kernel
theorem dX2_takeBack_62 : decode cX2_takeBack 62 = .ok (.putfield 18, 3) := by decide +kernel
theorem dX2_takeBack_65 : decode cX2_takeBack 65 = .ok (.aload_n 0, 1) := by decide +kernel
theorem dX2_takeBack_66 : decode cX2_takeBack 66 = .ok (.dup, 1) := by decide +kernel
theorem dX2_takeBack_67 : decode cX2_takeBack 67 = .ok (.getfield 26, 3) := by decide +kernel
theorem dX2_takeBack_70 : decode cX2_takeBack 70 = .ok (.iconst 1, 1) := by decide +kernel
theorem dX2_takeBack_71 : decode cX2_takeBack 71 = .ok (.isub, 1) := by decide +kernel
theorem dX2_takeBack_72 : decode cX2_takeBack 72 = .ok (.putfield 26, 3) := by decide +kernel
theorem dX2_takeBack_75 : decode cX2_takeBack 75 = .ok (.iconst 1, 1) := by decide +kernel
theorem dX2_takeBack_76 : decode cX2_takeBack 76 = .ok (.ireturn, 1) := by decide +kernel
theorem dX2_forget_0 : decode cX2_forget 0 = .ok (.aload_n 0, 1) := by decide +kernel
theorem dX2_forget_1 : decode cX2_forget 1 = .ok (.iconst 0, 1) := by decide +kernel
theorem dX2_forget_2 : decode cX2_forget 2 = .ok (.putfield 26, 3) := by decide +kernel
theorem dX2_forget_5 : decode cX2_forget 5 = .ok (.return_, 1) := by decide +kernel
theorem dX3_init_0 : decode cX3_init 0 = .ok (.aload_n 0, 1) := by decide +kernel
theorem dX3_init_1 : decode cX3_init 1 = .ok (.invokespecial 3, 3) := by decide +kernel
theorem dX3_init_4 : decode cX3_init 4 = .ok (.aload_n 0, 1) := by decide +kernel
theorem dX3_init_5 : decode cX3_init 5 = .ok (.bipush (-4), 2) := by decide +kernel
theorem dX3_init_7 : decode cX3_init 7 = .ok (.putfield 9, 3) := by decide +kernel
theorem dX3_init_10 : decode cX3_init 10 = .ok (.return_, 1) := by decide +kernel
theorem dX3_refuse_0 : decode cX3_refuse 0 = .ok (.aload_n 0, 1) := by decide +kernel
theorem dX3_refuse_1 : decode cX3_refuse 1 = .ok (.iload_n 1, 1) := by decide +kernel
theorem dX3_refuse_2 : decode cX3_refuse 2 = .ok (.putfield 15, 3) := by decide +kernel
theorem dX3_refuse_5 : decode cX3_refuse 5 = .ok (.aload_n 0, 1) := by decide +kernel
theorem dX3_refuse_6 : decode cX3_refuse 6 = .ok (.iload_n 2, 1) := by decide +kernel
theorem dX3_refuse_7 : decode cX3_refuse 7 = .ok (.putfield 18, 3) := by decide +kernel
theorem dX3_refuse_10 : decode cX3_refuse 10 = .ok (.aload_n 0, 1) := by decide +kernel
theorem dX3_refuse_11 : decode cX3_refuse 11 = .ok (.aload_n 0, 1) := by decide +kernel
theorem dX3_refuse_12 : decode cX3_refuse 12 = .ok (.getfield 9, 3) := by decide +kernel
theorem dX3_refuse_15 : decode cX3_refuse 15 = .ok (.putfield 21, 3) := by decide +kernel
theorem dX3_refuse_18 : decode cX3_refuse 18 = .ok (.bipush (-3), 2) := by decide +kernel
theorem dX3_refuse_20 : decode cX3_refuse 20 = .ok (.ireturn, 1) := by decide +kernel
theorem dX4_init_0 : decode cX4_init 0 = .ok (.aload_n 0, 1) := by decide +kernel
theorem dX4_init_1 : decode cX4_init 1 = .ok (.invokespecial 3, 3) := by decide +kernel
theorem dX4_init_4 : decode cX4_init 4 = .ok (.aload_n 0, 1) := by decide +kernel
theorem dX4_init_5 : decode cX4_init 5 = .ok (.bipush 8, 2) := by decide +kernel
theorem dX4_init_7 : decode cX4_init 7 = .ok (.newarray .int, 2) := by decide +kernel
theorem dX4_init_9 : decode cX4_init 9 = .ok (.putfield 9, 3) := by decide +kernel
theorem dX4_init_12 : decode cX4_init 12 = .ok (.return_, 1) := by decide +kernel
theorem dX4_copyThrows_0 : decode cX4_copyThrows 0 = .ok (.aload_n 0, 1) := by decide +kernel
theorem dX4_copyThrows_1 : decode cX4_copyThrows 1 = .ok (.aload_n 1, 1) := by decide +kernel
theorem dX4_copyThrows_2 : decode cX4_copyThrows 2 = .ok (.getfield 15, 3) := by decide +kernel
theorem dX4_copyThrows_5 : decode cX4_copyThrows 5 = .ok (.putfield 15, 3) := by decide +kernel
theorem dX4_copyThrows_8 : decode cX4_copyThrows 8 = .ok (.aload_n 1, 1) := by decide +kernel
theorem dX4_copyThrows_9 : decode cX4_copyThrows 9 = .ok (.getfield 9, 3) := by decide +kernel
theorem dX4_copyThrows_12 : decode cX4_copyThrows 12 = .ok (.iconst 0, 1) := by decide +kernel
theorem dX4_copyThrows_13 : decode cX4_copyThrows 13 = .ok (.aload_n 0, 1) := by decide +kernel
theorem dX4_copyThrows_14 : decode cX4_copyThrows 14 = .ok (.getfield 9, 3) := by decide +kernel
theorem dX4_copyThrows_17 : decode cX4_copyThrows 17 = .ok (.iconst 0, 1) := by decide +kernel
theorem dX4_copyThrows_18 : decode cX4_copyThrows 18 = .ok (.bipush 8, 2) := by decide +kernel
theorem dX4_copyThrows_20 : decode cX4_copyThrows 20 = .ok (.invokestatic 19, 3) := by decide +kernel
theorem dX4_copyThrows_23 : decode cX4_copyThrows 23 = .ok (.return_, 1) := by decide +kernel
theorem dX4_fill_0 : decode cX4_fill 0 = .ok (.aload_n 0, 1) := by decide +kernel
theorem dX4_fill_1 : decode cX4_fill 1 = .ok (.iload_n 2, 1) := by decide +kernel
theorem dX4_fill_2 : decode cX4_fill 2 = .ok (.putfield 15, 3) := by decide +kernel
theorem dX4_fill_5 : decode cX4_fill 5 = .ok (.iload_n 1, 1) := by decide +kernel
theorem dX4_fill_6 : decode cX4_fill 6 = .ok (.istore_n 3, 1) := by decide +kernel
theorem dX4_fill_7 : decode cX4_fill 7 = .ok (.iload_n 2, 1) := by decide +kernel
theorem dX4_fill_8 : decode cX4_fill 8 = .ok (.iconst 1, 1) := by decide +kernel
theorem dX4_fill_9 : decode cX4_fill 9 = .ok (.isub, 1) := by decide +kernel
theorem dX4_fill_10 : decode cX4_fill 10 = .ok (.istore 4, 2) := by decide +kernel
theorem dX4_fill_12 : decode cX4_fill 12 = .ok (.iload 4, 2) := by decide +kernel
theorem dX4_fill_14 : decode cX4_fill 14 = .ok (.ifCond .lt 24, 3) := by decide +kernel
theorem dX4_fill_17 : decode cX4_fill 17 = .ok (.aload_n 0, 1) := by decide +kernel
theorem dX4_fill_18 : decode cX4_fill 18 = .ok (.iload 4, 2) := by decide +kernel
theorem dX4_fill_20 : decode cX4_fill 20 = .ok (.iload_n 3, 1) := by decide +kernel
theorem dX4_fill_21 : decode cX4_fill 21 = .ok (.bipush 10, 2) := by decide +kernel
theorem dX4_fill_23 : decode cX4_fill 23 = .ok (.irem, 1) := by decide +kernel
theorem dX4_fill_24 : decode cX4_fill 24 = .ok (.invokevirtual 25, 3) := by decide +kernel
theorem dX4_fill_27 : decode cX4_fill 27 = .ok (.iload_n 3, 1) := by decide +kernel
theorem dX4_fill_28 : decode cX4_fill 28 = .ok (.bipush 10, 2) := by decide +kernel
theorem dX4_fill_30 : decode cX4_fill 30 = .ok (.idiv, 1) := by decide +kernel
theorem dX4_fill_31 : decode cX4_fill 31 = .ok (.istore_n 3, 1) := by decide +kernel
theorem dX4_fill_32 : decode cX4_fill 32 = .ok (.iinc 4 (-1), 3) := by decide +kernel
theorem dX4_fill_35 : decode cX4_fill 35 = .ok (.goto (-23), 3) := by decide +kernel
theorem dX4_fill_38 : decode cX4_fill 38 = .ok (.return_, 1) := by decide +kernel
theorem dX4_hasBeat_0 : decode cX4_hasBeat 0 = .ok (.iload_n 1, 1) := by decide +kernel
theorem dX4_hasBeat_1 : decode cX4_hasBeat 1 = .ok (.ifCond .lt 15, 3) := by decide +kernel
theorem dX4_hasBeat_4 : decode cX4_hasBeat 4 = .ok (.iload_n 1, 1) := by decide +kernel
theorem dX4_hasBeat_5 : decode cX4_hasBeat 5 = .ok (.aload_n 0, 1) := by decide +kernel
theorem dX4_hasBeat_6 : decode cX4_hasBeat 6 = .ok (.getfield 15, 3) := by decide +kernel
theorem dX4_hasBeat_9 : decode cX4_hasBeat 9 = .ok (.if_icmp .ge 7, 3) := by decide +kernel
theorem dX4_hasBeat_12 : decode cX4_hasBeat 12 = .ok (.iconst 1, 1) := by decide +kernel
theorem dX4_hasBeat_13 : decode cX4_hasBeat 13 = .ok (.goto 4, 3) := by decide +kernel
theorem dX4_hasBeat_16 : decode cX4_hasBeat 16 = .ok (.iconst 0, 1) := by decide +kernel
theorem dX4_hasBeat_17 : decode cX4_hasBeat 17 = .ok (.ireturn, 1) := by decide +kernel
theorem dX4_heightAt_0 : decode cX4_heightAt 0 = .ok (.iload_n 1, 1) := by decide +kernel
theorem dX4_heightAt_1 : decode cX4_heightAt 1 = .ok (.ifCond .lt 21, 3) := by decide +kernel
theorem dX4_heightAt_4 : decode cX4_heightAt 4 = .ok (.iload_n 1, 1) := by decide +kernel
theorem dX4_heightAt_5 : decode cX4_heightAt 5 = .ok (.aload_n 0, 1) := by decide +kernel
theorem dX4_heightAt_6 : decode cX4_heightAt 6 = .ok (.getfield 9, 3) := by decide +kernel
theorem dX4_heightAt_9 : decode cX4_heightAt 9 = .ok (.arraylength, 1) := by decide +kernel
theorem dX4_heightAt_10 : decode cX4_heightAt 10 = .ok (.if_icmp .ge 12, 3) := by decide +kernel
theorem dX4_heightAt_13 : decode cX4_heightAt 13 = .ok (.aload_n 0, 1) := by decide +kernel
theorem dX4_heightAt_14 : decode cX4_heightAt 14 = .ok (.getfield 9, 3) := by decide +kernel
theorem dX4_heightAt_17 : decode cX4_heightAt 17 = .ok (.iload_n 1, 1) := by decide +kernel
theorem dX4_heightAt_18 : decode cX4_heightAt 18 = .ok (.iaload, 1) := by decide +kernel
theorem dX4_heightAt_19 : decode cX4_heightAt 19 = .ok (.goto 4, 3) := by decide +kernel
theorem dX4_heightAt_22 : decode cX4_heightAt 22 = .ok (.iconst 0, 1) := by decide +kernel
theorem dX4_heightAt_23 : decode cX4_heightAt 23 = .ok (.ireturn, 1) := by decide +kernel
theorem dX4_setHeight_0 : decode cX4_setHeight 0 = .ok (.iload_n 1, 1) := by decide +kernel
theorem dX4_setHeight_1 : decode cX4_setHeight 1 = .ok (.ifCond .lt 19, 3) := by decide +kernel
theorem dX4_setHeight_4 : decode cX4_setHeight 4 = .ok (.iload_n 1, 1) := by decide +kernel
theorem dX4_setHeight_5 : decode cX4_setHeight 5 = .ok (.aload_n 0, 1) := by decide +kernel
theorem dX4_setHeight_6 : decode cX4_setHeight 6 = .ok (.getfield 9, 3) := by decide +kernel
theorem dX4_setHeight_9 : decode cX4_setHeight 9 = .ok (.arraylength, 1) := by decide +kernel
theorem dX4_setHeight_10 : decode cX4_setHeight 10 = .ok (.if_icmp .ge 10, 3) := by decide +kernel
theorem dX4_setHeight_13 : decode cX4_setHeight 13 = .ok (.aload_n 0, 1) := by decide +kernel
theorem dX4_setHeight_14 : decode cX4_setHeight 14 = .ok (.getfield 9, 3) := by decide +kernel
theorem dX4_setHeight_17 : decode cX4_setHeight 17 = .ok (.iload_n 1, 1) := by decide +kernel
theorem dX4_setHeight_18 : decode cX4_setHeight 18 = .ok (.iload_n 2, 1) := by decide +kernel
theorem dX4_setHeight_19 : decode cX4_setHeight 19 = .ok (.iastore, 1) := by decide +kernel
theorem dX4_setHeight_20 : decode cX4_setHeight 20 = .ok (.return_, 1) := by decide +kernel
theorem dX4_moveFirstToEnd_0 : decode cX4_moveFirstToEnd 0 = .ok (.aload_n 0, 1) := by decide +kernel
theorem dX4_moveFirstToEnd_1 : decode cX4_moveFirstToEnd 1 = .ok (.iconst 0, 1) := by decide +kernel
theorem dX4_moveFirstToEnd_2 : decode cX4_moveFirstToEnd 2 = .ok (.invokevirtual 29, 3) := by decide +kernel
theorem dX4_moveFirstToEnd_5 : decode cX4_moveFirstToEnd 5 = .ok (.istore_n 1, 1) := by decide +kernel
theorem dX4_moveFirstToEnd_6 : decode cX4_moveFirstToEnd 6 = .ok (.iconst 1, 1) := by decide +kernel
theorem dX4_moveFirstToEnd_7 : decode cX4_moveFirstToEnd 7 = .ok (.istore_n 2, 1) := by decide +kernel
theorem dX4_moveFirstToEnd_8 : decode cX4_moveFirstToEnd 8 = .ok (.iload_n 2, 1) := by decide +kernel
theorem dX4_moveFirstToEnd_9 : decode cX4_moveFirstToEnd 9 = .ok (.aload_n 0, 1) := by decide +kernel
theorem dX4_moveFirstToEnd_10 : decode cX4_moveFirstToEnd 10 = .ok (.getfield 15, 3) := by decide +kernel
theorem dX4_moveFirstToEnd_13 : decode cX4_moveFirstToEnd 13 = .ok (.if_icmp .ge 21, 3) := by decide +kernel
theorem dX4_moveFirstToEnd_16 : decode cX4_moveFirstToEnd 16 = .ok (.aload_n 0, 1) := by decide +kernel
theorem dX4_moveFirstToEnd_17 : decode cX4_moveFirstToEnd 17 = .ok (.iload_n 2, 1) := by decide +kernel
theorem dX4_moveFirstToEnd_18 : decode cX4_moveFirstToEnd 18 = .ok (.iconst 1, 1) := by decide +kernel
theorem dX4_moveFirstToEnd_19 : decode cX4_moveFirstToEnd 19 = .ok (.isub, 1) := by decide +kernel
theorem dX4_moveFirstToEnd_20 : decode cX4_moveFirstToEnd 20 = .ok (.aload_n 0, 1) := by decide +kernel
theorem dX4_moveFirstToEnd_21 : decode cX4_moveFirstToEnd 21 = .ok (.iload_n 2, 1) := by decide +kernel
theorem dX4_moveFirstToEnd_22 : decode cX4_moveFirstToEnd 22 = .ok (.invokevirtual 29, 3) := by decide +kernel
theorem dX4_moveFirstToEnd_25 : decode cX4_moveFirstToEnd 25 = .ok (.invokevirtual 25, 3) := by decide +kernel
theorem dX4_moveFirstToEnd_28 : decode cX4_moveFirstToEnd 28 = .ok (.iinc 2 1, 3) := by decide +kernel
theorem dX4_moveFirstToEnd_31 : decode cX4_moveFirstToEnd 31 = .ok (.goto (-23), 3) := by decide +kernel
theorem dX4_moveFirstToEnd_34 : decode cX4_moveFirstToEnd 34 = .ok (.aload_n 0, 1) := by decide +kernel
theorem dX4_moveFirstToEnd_35 : decode cX4_moveFirstToEnd 35 = .ok (.aload_n 0, 1) := by decide +kernel
theorem dX4_moveFirstToEnd_36 : decode cX4_moveFirstToEnd 36 = .ok (.getfield 15, 3) := by decide +kernel
theorem dX4_moveFirstToEnd_39 : decode cX4_moveFirstToEnd 39 = .ok (.iconst 1, 1) := by decide +kernel
theorem dX4_moveFirstToEnd_40 : decode cX4_moveFirstToEnd 40 = .ok (.isub, 1) := by decide +kernel
theorem dX4_moveFirstToEnd_41 : decode cX4_moveFirstToEnd 41 = .ok (.iload_n 1, 1) := by decide +kernel
theorem dX4_moveFirstToEnd_42 : decode cX4_moveFirstToEnd 42 = .ok (.invokevirtual 25, 3) := by decide +kernel
theorem dX4_moveFirstToEnd_45 : decode cX4_moveFirstToEnd 45 = .ok (.return_, 1) := by decide +kernel
theorem dX4_sum_0 : decode cX4_sum 0 = .ok (.iconst 0, 1) := by decide +kernel
theorem dX4_sum_1 : decode cX4_sum 1 = .ok (.istore_n 1, 1) := by decide +kernel
theorem dX4_sum_2 : decode cX4_sum 2 = .ok (.iconst 0, 1) := by decide +kernel
theorem dX4_sum_3 : decode cX4_sum 3 = .ok (.istore_n 2, 1) := by decide +kernel
theorem dX4_sum_4 : decode cX4_sum 4 = .ok (.iload_n 2, 1) := by decide +kernel
theorem dX4_sum_5 : decode cX4_sum 5 = .ok (.aload_n 0, 1) := by decide +kernel
theorem dX4_sum_6 : decode cX4_sum 6 = .ok (.getfield 15, 3) := by decide +kernel
theorem dX4_sum_9 : decode cX4_sum 9 = .ok (.if_icmp .ge 17, 3) := by decide +kernel
theorem dX4_sum_12 : decode cX4_sum 12 = .ok (.iload_n 1, 1) := by decide +kernel
theorem dX4_sum_13 : decode cX4_sum 13 = .ok (.aload_n 0, 1) := by decide +kernel
theorem dX4_sum_14 : decode cX4_sum 14 = .ok (.iload_n 2, 1) := by decide +kernel
theorem dX4_sum_15 : decode cX4_sum 15 = .ok (.invokevirtual 29, 3) := by decide +kernel
theorem dX4_sum_18 : decode cX4_sum 18 = .ok (.iadd, 1) := by decide +kernel
theorem dX4_sum_19 : decode cX4_sum 19 = .ok (.istore_n 1, 1) := by decide +kernel
theorem dX4_sum_20 : decode cX4_sum 20 = .ok (.iinc 2 1, 3) := by decide +kernel
theorem dX4_sum_23 : decode cX4_sum 23 = .ok (.goto (-19), 3) := by decide +kernel
theorem dX4_sum_26 : decode cX4_sum 26 = .ok (.iload_n 1, 1) := by decide +kernel
theorem dX4_sum_27 : decode cX4_sum 27 = .ok (.ireturn, 1) := by decide +kernel
theorem dX4_greatest_0 : decode cX4_greatest 0 = .ok (.iconst 0, 1) := by decide +kernel
theorem dX4_greatest_1 : decode cX4_greatest 1 = .ok (.istore_n 1, 1) := by decide +kernel
theorem dX4_greatest_2 : decode cX4_greatest 2 = .ok (.iconst 0, 1) := by decide +kernel
theorem dX4_greatest_3 : decode cX4_greatest 3 = .ok (.istore_n 2, 1) := by decide +kernel
theorem dX4_greatest_4 : decode cX4_greatest 4 = .ok (.iload_n 2, 1) := by decide +kernel
theorem dX4_greatest_5 : decode cX4_greatest 5 = .ok (.aload_n 0, 1) := by decide +kernel
theorem dX4_greatest_6 : decode cX4_greatest 6 = .ok (.getfield 15, 3) := by decide +kernel
theorem dX4_greatest_9 : decode cX4_greatest 9 = .ok (.if_icmp .ge 19, 3) := by decide +kernel
theorem dX4_greatest_12 : decode cX4_greatest 12 = .ok (.iload_n 1, 1) := by decide +kernel
theorem dX4_greatest_13 : decode cX4_greatest 13 = .ok (.aload_n 0, 1) := by decide +kernel
theorem dX4_greatest_14 : decode cX4_greatest 14 = .ok (.iload_n 2, 1) := by decide +kernel
theorem dX4_greatest_15 : decode cX4_greatest 15 = .ok (.invokevirtual 29, 3) := by decide +kernel
theorem dX4_greatest_18 : decode cX4_greatest 18 = .ok (.invokestatic 33, 3) := by decide +kernel
theorem dX4_greatest_21 : decode cX4_greatest 21 = .ok (.istore_n 1, 1) := by decide +kernel
theorem dX4_greatest_22 : decode cX4_greatest 22 = .ok (.iinc 2 1, 3) := by decide +kernel
theorem dX4_greatest_25 : decode cX4_greatest 25 = .ok (.goto (-21), 3) := by decide +kernel
theorem dX4_greatest_28 : decode cX4_greatest 28 = .ok (.iload_n 1, 1) := by decide +kernel
theorem dX4_greatest_29 : decode cX4_greatest 29 = .ok (.ireturn, 1) := by decide +kernel
theorem dX4_throwsToOtherHand_0 : decode cX4_throwsToOtherHand 0 = .ok (.iconst 0, 1) := by decide +kernel
theorem dX4_throwsToOtherHand_1 : decode cX4_throwsToOtherHand 1 = .ok (.istore_n 1, 1) := by decide +kernel
theorem dX4_throwsToOtherHand_2 : decode cX4_throwsToOtherHand 2 = .ok (.iconst 0, 1) := by decide +kernel
theorem dX4_throwsToOtherHand_3 : decode cX4_throwsToOtherHand 3 = .ok (.istore_n 2, 1) := by decide +kernel
theorem dX4_throwsToOtherHand_4 : decode cX4_throwsToOtherHand 4 = .ok (.iload_n 2, 1) := by decide +kernel
theorem dX4_throwsToOtherHand_5 : decode cX4_throwsToOtherHand 5 = .ok (.aload_n 0, 1) := by decide +kernel
theorem dX4_throwsToOtherHand_6 : decode cX4_throwsToOtherHand 6 = .ok (.getfield 15, 3) := by decide +kernel
theorem dX4_throwsToOtherHand_9 : decode cX4_throwsToOtherHand 9 = .ok (.if_icmp .ge 19, 3) := by decide +kernel
theorem dX4_throwsToOtherHand_12 : decode cX4_throwsToOtherHand 12 = .ok (.iload_n 1, 1) := by decide +kernel
theorem dX4_throwsToOtherHand_13 : decode cX4_throwsToOtherHand 13 = .ok (.aload_n 0, 1) := by decide +kernel
theorem dX4_throwsToOtherHand_14 : decode cX4_throwsToOtherHand 14 = .ok (.iload_n 2, 1) := by decide +kernel
theorem dX4_throwsToOtherHand_15 : decode cX4_throwsToOtherHand 15 = .ok (.invokevirtual 29, 3) := by decide +kernel
theorem dX4_throwsToOtherHand_18 : decode cX4_throwsToOtherHand 18 = .ok (.iconst 1, 1) := by decide +kernel
theorem dX4_throwsToOtherHand_19 : decode cX4_throwsToOtherHand 19 = .ok (.iand, 1) := by decide +kernel
theorem dX4_throwsToOtherHand_20 : decode cX4_throwsToOtherHand 20 = .ok (.iadd, 1) := by decide +kernel
theorem dX4_throwsToOtherHand_21 : decode cX4_throwsToOtherHand 21 = .ok (.istore_n 1, 1) := by decide +kernel
theorem dX4_throwsToOtherHand_22 : decode cX4_throwsToOtherHand 22 = .ok (.iinc 2 1, 3) := by decide +kernel
theorem dX4_throwsToOtherHand_25 : decode cX4_throwsToOtherHand 25 = .ok (.goto (-21), 3) := by decide +kernel
theorem dX4_throwsToOtherHand_28 : decode cX4_throwsToOtherHand 28 = .ok (.iload_n 1, 1) := by decide +kernel
theorem dX4_throwsToOtherHand_29 : decode cX4_throwsToOtherHand 29 = .ok (.ireturn, 1) := by decide +kernel
theorem dX4_landing_0 : decode cX4_landing 0 = .ok (.aload_n 0, 1) := by decide +kernel
theorem dX4_landing_1 : decode cX4_landing 1 = .ok (.getfield 15, 3) := by decide +kernel
theorem dX4_landing_4 : decode cX4_landing 4 = .ok (.ifCond .le 16, 3) := by decide +kernel
theorem dX4_landing_7 : decode cX4_landing 7 = .ok (.iload_n 1, 1) := by decide +kernel
theorem dX4_landing_8 : decode cX4_landing 8 = .ok (.ifCond .lt 12, 3) := by decide +kernel
theorem dX4_landing_11 : decode cX4_landing 11 = .ok (.iload_n 1, 1) := by decide +kernel
theorem dX4_landing_12 : decode cX4_landing 12 = .ok (.aload_n 0, 1) := by decide +kernel
theorem dX4_landing_13 : decode cX4_landing 13 = .ok (.getfield 9, 3) := by decide +kernel
theorem dX4_landing_16 : decode cX4_landing 16 = .ok (.arraylength, 1) := by decide +kernel
theorem dX4_landing_17 : decode cX4_landing 17 = .ok (.if_icmp .lt 5, 3) := by decide +kernel
theorem dX4_landing_20 : decode cX4_landing 20 = .ok (.iconst 0, 1) := by decide +kernel
theorem dX4_landing_21 : decode cX4_landing 21 = .ok (.ireturn, 1) := by decide +kernel
theorem dX4_landing_22 : decode cX4_landing 22 = .ok (.iload_n 1, 1) := by decide +kernel
theorem dX4_landing_23 : decode cX4_landing 23 = .ok (.aload_n 0, 1) := by decide +kernel
theorem dX4_landing_24 : decode cX4_landing 24 = .ok (.getfield 9, 3) := by decide +kernel
theorem dX4_landing_27 : decode cX4_landing 27 = .ok (.iload_n 1, 1) := by decide +kernel
theorem dX4_landing_28 : decode cX4_landing 28 = .ok (.iaload, 1) := by decide +kernel
theorem dX4_landing_29 : decode cX4_landing 29 = .ok (.iadd, 1) := by decide +kernel
theorem dX4_landing_30 : decode cX4_landing 30 = .ok (.aload_n 0, 1) := by decide +kernel
theorem dX4_landing_31 : decode cX4_landing 31 = .ok (.getfield 15, 3) := by decide +kernel
theorem dX4_landing_34 : decode cX4_landing 34 = .ok (.irem, 1) := by decide +kernel
theorem dX4_landing_35 : decode cX4_landing 35 = .ok (.ireturn, 1) := by decide +kernel
theorem dX4_marksEachLanding_0 : decode cX4_marksEachLanding 0 = .ok (.iconst 0, 1) := by decide +kernel
theorem dX4_marksEachLanding_1 : decode cX4_marksEachLanding 1 = .ok (.istore_n 1, 1) := by decide +kernel
theorem dX4_marksEachLanding_2 : decode cX4_marksEachLanding 2 = .ok (.iconst 0, 1) := by decide +kernel
theorem dX4_marksEachLanding_3 : decode cX4_marksEachLanding 3 = .ok (.istore_n 2, 1) := by decide +kernel
theorem dX4_marksEachLanding_4 : decode cX4_marksEachLanding 4 = .ok (.iload_n 2, 1) := by decide +kernel
theorem dX4_marksEachLanding_5 : decode cX4_marksEachLanding 5 = .ok (.aload_n 0, 1) := by decide +kernel
theorem dX4_marksEachLanding_6 : decode cX4_marksEachLanding 6 = .ok (.getfield 15, 3) := by decide +kernel
theorem dX4_marksEachLanding_9 : decode cX4_marksEachLanding 9 = .ok (.if_icmp .ge 19, 3) := by decide +kernel
theorem dX4_marksEachLanding_12 : decode cX4_marksEachLanding 12 = .ok (.iload_n 1, 1) := by decide +kernel
theorem dX4_marksEachLanding_13 : decode cX4_marksEachLanding 13 = .ok (.iconst 1, 1) := by decide +kernel
theorem dX4_marksEachLanding_14 : decode cX4_marksEachLanding 14 = .ok (.aload_n 0, 1) := by decide +kernel
theorem dX4_marksEachLanding_15 : decode cX4_marksEachLanding 15 = .ok (.iload_n 2, 1) := by decide +kernel
theorem dX4_marksEachLanding_16 : decode cX4_marksEachLanding 16 = .ok (.invokevirtual 39, 3) := by decide +kernel
theorem dX4_marksEachLanding_19 : decode cX4_marksEachLanding 19 = .ok (.ishl, 1) := by decide +kernel
theorem dX4_marksEachLanding_20 : decode cX4_marksEachLanding 20 = .ok (.ior, 1) := by decide +kernel
theorem dX4_marksEachLanding_21 : decode cX4_marksEachLanding 21 = .ok (.istore_n 1, 1) := by decide +kernel
theorem dX4_marksEachLanding_22 : decode cX4_marksEachLanding 22 = .ok (.iinc 2 1, 3) := by decide +kernel
theorem dX4_marksEachLanding_25 : decode cX4_marksEachLanding 25 = .ok (.goto (-21), 3) := by decide +kernel
theorem dX4_marksEachLanding_28 : decode cX4_marksEachLanding 28 = .ok (.iload_n 1, 1) := by decide +kernel
theorem dX4_marksEachLanding_29 : decode cX4_marksEachLanding 29 = .ok (.iconst 1, 1) := by decide +kernel
theorem dX4_marksEachLanding_30 : decode cX4_marksEachLanding 30 = .ok (.aload_n 0, 1) := by decide +kernel
theorem dX4_marksEachLanding_31 : decode cX4_marksEachLanding 31 = .ok (.getfield 15, 3) := by decide +kernel
theorem dX4_marksEachLanding_34 : decode cX4_marksEachLanding 34 = .ok (.ishl, 1) := by decide +kernel
theorem dX4_marksEachLanding_35 : decode cX4_marksEachLanding 35 = .ok (.iconst 1, 1) := by decide +kernel
theorem dX4_marksEachLanding_36 : decode cX4_marksEachLanding 36 = .ok (.isub, 1) := by decide +kernel
theorem dX4_marksEachLanding_37 : decode cX4_marksEachLanding 37 = .ok (.if_icmp .ne 7, 3) := by decide +kernel
theorem dX4_marksEachLanding_40 : decode cX4_marksEachLanding 40 = .ok (.iconst 1, 1) := by decide +kernel
theorem dX4_marksEachLanding_41 : decode cX4_marksEachLanding 41 = .ok (.goto 4, 3) := by decide +kernel
theorem dX4_marksEachLanding_44 : decode cX4_marksEachLanding 44 = .ok (.iconst 0, 1) := by decide +kernel
theorem dX4_marksEachLanding_45 : decode cX4_marksEachLanding 45 = .ok (.ireturn, 1) := by decide +kernel
theorem dX4_lowestClash_0 : decode cX4_lowestClash 0 = .ok (.iconst 0, 1) := by decide +kernel
theorem dX4_lowestClash_1 : decode cX4_lowestClash 1 = .ok (.istore_n 1, 1) := by decide +kernel
theorem dX4_lowestClash_2 : decode cX4_lowestClash 2 = .ok (.iload_n 1, 1) := by decide +kernel
theorem dX4_lowestClash_3 : decode cX4_lowestClash 3 = .ok (.aload_n 0, 1) := by decide +kernel
theorem dX4_lowestClash_4 : decode cX4_lowestClash 4 = .ok (.getfield 15, 3) := by decide +kernel
theorem dX4_lowestClash_7 : decode cX4_lowestClash 7 = .ok (.if_icmp .ge 42, 3) := by decide +kernel
theorem dX4_lowestClash_10 : decode cX4_lowestClash 10 = .ok (.iload_n 1, 1) := by decide +kernel
theorem dX4_lowestClash_11 : decode cX4_lowestClash 11 = .ok (.iconst 1, 1) := by decide +kernel
theorem dX4_lowestClash_12 : decode cX4_lowestClash 12 = .ok (.iadd, 1) := by decide +kernel
theorem dX4_lowestClash_13 : decode cX4_lowestClash 13 = .ok (.istore_n 2, 1) := by decide +kernel
theorem dX4_lowestClash_14 : decode cX4_lowestClash 14 = .ok (.iload_n 2, 1) := by decide +kernel
theorem dX4_lowestClash_15 : decode cX4_lowestClash 15 = .ok (.aload_n 0, 1) := by decide +kernel
theorem dX4_lowestClash_16 : decode cX4_lowestClash 16 = .ok (.getfield 15, 3) := by decide +kernel
theorem dX4_lowestClash_19 : decode cX4_lowestClash 19 = .ok (.if_icmp .ge 24, 3) := by decide +kernel
theorem dX4_lowestClash_22 : decode cX4_lowestClash 22 = .ok (.aload_n 0, 1) := by decide +kernel
theorem dX4_lowestClash_23 : decode cX4_lowestClash 23 = .ok (.iload_n 1, 1) := by decide +kernel
theorem dX4_lowestClash_24 : decode cX4_lowestClash 24 = .ok (.invokevirtual 39, 3) := by decide +kernel
theorem dX4_lowestClash_27 : decode cX4_lowestClash 27 = .ok (.aload_n 0, 1) := by decide +kernel
theorem dX4_lowestClash_28 : decode cX4_lowestClash 28 = .ok (.iload_n 2, 1) := by decide +kernel
theorem dX4_lowestClash_29 : decode cX4_lowestClash 29 = .ok (.invokevirtual 39, 3) := by decide +kernel
theorem dX4_lowestClash_32 : decode cX4_lowestClash 32 = .ok (.if_icmp .ne 5, 3) := by decide +kernel
theorem dX4_lowestClash_35 : decode cX4_lowestClash 35 = .ok (.iload_n 1, 1) := by decide +kernel
theorem dX4_lowestClash_36 : decode cX4_lowestClash 36 = .ok (.ireturn, 1) := by decide +kernel
theorem dX4_lowestClash_37 : decode cX4_lowestClash 37 = .ok (.iinc 2 1, 3) := by decide +kernel
theorem dX4_lowestClash_40 : decode cX4_lowestClash 40 = .ok (.goto (-26), 3) := by decide +kernel
theorem dX4_lowestClash_43 : decode cX4_lowestClash 43 = .ok (.iinc 1 1, 3) := by decide +kernel
theorem dX4_lowestClash_46 : decode cX4_lowestClash 46 = .ok (.goto (-44), 3) := by decide +kernel
theorem dX4_lowestClash_49 : decode cX4_lowestClash 49 = .ok (.bipush (-4), 2) := by decide +kernel
theorem dX4_lowestClash_51 : decode cX4_lowestClash 51 = .ok (.ireturn, 1) := by decide +kernel
theorem dX4_balls_0 : decode cX4_balls 0 = .ok (.aload_n 0, 1) := by decide +kernel
theorem dX4_balls_1 : decode cX4_balls 1 = .ok (.getfield 15, 3) := by decide +kernel
theorem dX4_balls_4 : decode cX4_balls 4 = .ok (.ifCond .le 22, 3) := by decide +kernel
theorem dX4_balls_7 : decode cX4_balls 7 = .ok (.aload_n 0, 1) := by decide +kernel
theorem dX4_balls_8 : decode cX4_balls 8 = .ok (.invokevirtual 42, 3) := by decide +kernel
theorem dX4_balls_11 : decode cX4_balls 11 = .ok (.ifCond .eq 15, 3) := by decide +kernel
theorem dX4_balls_14 : decode cX4_balls 14 = .ok (.aload_n 0, 1) := by decide +kernel
theorem dX4_balls_15 : decode cX4_balls 15 = .ok (.invokevirtual 46, 3) := by decide +kernel
theorem dX4_balls_18 : decode cX4_balls 18 = .ok (.aload_n 0, 1) := by decide +kernel
theorem dX4_balls_19 : decode cX4_balls 19 = .ok (.getfield 15, 3) := by decide +kernel
theorem dX4_balls_22 : decode cX4_balls 22 = .ok (.idiv, 1) := by decide +kernel
theorem dX4_balls_23 : decode cX4_balls 23 = .ok (.goto 5, 3) := by decide +kernel
theorem dX4_balls_26 : decode cX4_balls 26 = .ok (.bipush (-4), 2) := by decide +kernel
theorem dX4_balls_28 : decode cX4_balls 28 = .ok (.ireturn, 1) := by decide +kernel
theorem dX4_stateAt_0 : decode cX4_stateAt 0 = .ok (.iconst 0, 1) := by decide +kernel
theorem dX4_stateAt_1 : decode cX4_stateAt 1 = .ok (.istore_n 2, 1) := by decide +kernel
theorem dX4_stateAt_2 : decode cX4_stateAt 2 = .ok (.iload_n 1, 1) := by decide +kernel
theorem dX4_stateAt_3 : decode cX4_stateAt 3 = .ok (.istore_n 3, 1) := by decide +kernel
theorem dX4_stateAt_4 : decode cX4_stateAt 4 = .ok (.iconst 1, 1) := by decide +kernel
theorem dX4_stateAt_5 : decode cX4_stateAt 5 = .ok (.istore 4, 2) := by decide +kernel
theorem dX4_stateAt_7 : decode cX4_stateAt 7 = .ok (.iload 4, 2) := by decide +kernel
theorem dX4_stateAt_9 : decode cX4_stateAt 9 = .ok (.bipush 9, 2) := by decide +kernel
theorem dX4_stateAt_11 : decode cX4_stateAt 11 = .ok (.if_icmp .gt 48, 3) := by decide +kernel
theorem dX4_stateAt_14 : decode cX4_stateAt 14 = .ok (.iload_n 3, 1) := by decide +kernel
theorem dX4_stateAt_15 : decode cX4_stateAt 15 = .ok (.ifCond .le 9, 3) := by decide +kernel
theorem dX4_stateAt_18 : decode cX4_stateAt 18 = .ok (.iload_n 3, 1) := by decide +kernel
theorem dX4_stateAt_19 : decode cX4_stateAt 19 = .ok (.iconst 1, 1) := by decide +kernel
theorem dX4_stateAt_20 : decode cX4_stateAt 20 = .ok (.isub, 1) := by decide +kernel
theorem dX4_stateAt_21 : decode cX4_stateAt 21 = .ok (.goto 9, 3) := by decide +kernel
theorem dX4_stateAt_24 : decode cX4_stateAt 24 = .ok (.aload_n 0, 1) := by decide +kernel
theorem dX4_stateAt_25 : decode cX4_stateAt 25 = .ok (.getfield 15, 3) := by decide +kernel
theorem dX4_stateAt_28 : decode cX4_stateAt 28 = .ok (.iconst 1, 1) := by decide +kernel
theorem dX4_stateAt_29 : decode cX4_stateAt 29 = .ok (.isub, 1) := by decide +kernel
theorem dX4_stateAt_30 : decode cX4_stateAt 30 = .ok (.istore_n 3, 1) := by decide +kernel
theorem dX4_stateAt_31 : decode cX4_stateAt 31 = .ok (.aload_n 0, 1) := by decide +kernel
theorem dX4_stateAt_32 : decode cX4_stateAt 32 = .ok (.iload_n 3, 1) := by decide +kernel
theorem dX4_stateAt_33 : decode cX4_stateAt 33 = .ok (.invokevirtual 29, 3) := by decide +kernel
theorem dX4_stateAt_36 : decode cX4_stateAt 36 = .ok (.iload 4, 2) := by decide +kernel
theorem dX4_stateAt_38 : decode cX4_stateAt 38 = .ok (.isub, 1) := by decide +kernel
theorem dX4_stateAt_39 : decode cX4_stateAt 39 = .ok (.istore 5, 2) := by decide +kernel
theorem dX4_stateAt_41 : decode cX4_stateAt 41 = .ok (.iload 5, 2) := by decide +kernel
theorem dX4_stateAt_43 : decode cX4_stateAt 43 = .ok (.ifCond .lt 10, 3) := by decide +kernel
theorem dX4_stateAt_46 : decode cX4_stateAt 46 = .ok (.iload_n 2, 1) := by decide +kernel
theorem dX4_stateAt_47 : decode cX4_stateAt 47 = .ok (.iconst 1, 1) := by decide +kernel
theorem dX4_stateAt_48 : decode cX4_stateAt 48 = .ok (.iload 5, 2) := by decide +kernel
theorem dX4_stateAt_50 : decode cX4_stateAt 50 = .ok (.ishl, 1) := by decide +kernel
theorem dX4_stateAt_51 : decode cX4_stateAt 51 = .ok (.ior, 1) := by decide +kernel
theorem dX4_stateAt_52 : decode cX4_stateAt 52 = .ok (.istore_n 2, 1) := by decide +kernel
theorem dX4_stateAt_53 : decode cX4_stateAt 53 = .ok (.iinc 4 1, 3) := by decide +kernel
theorem dX4_stateAt_56 : decode cX4_stateAt 56 = .ok (.goto (-49), 3) := by decide +kernel
theorem dX4_stateAt_59 : decode cX4_stateAt 59 = .ok (.iload_n 2, 1) := by decide +kernel
theorem dX4_stateAt_60 : decode cX4_stateAt 60 = .ok (.ireturn, 1) := by decide +kernel
theorem dX4_period_0 : decode cX4_period 0 = .ok (.iconst 1, 1) := by decide +kernel
theorem dX4_period_1 : decode cX4_period 1 = .ok (.istore_n 1, 1) := by decide +kernel
theorem dX4_period_2 : decode cX4_period 2 = .ok (.iload_n 1, 1) := by decide +kernel
theorem dX4_period_3 : decode cX4_period 3 = .ok (.aload_n 0, 1) := by decide +kernel
theorem dX4_period_4 : decode cX4_period 4 = .ok (.getfield 15, 3) := by decide +kernel
theorem dX4_period_7 : decode cX4_period 7 = .ok (.if_icmp .ge 28, 3) := by decide +kernel
theorem dX4_period_10 : decode cX4_period 10 = .ok (.aload_n 0, 1) := by decide +kernel
theorem dX4_period_11 : decode cX4_period 11 = .ok (.getfield 15, 3) := by decide +kernel
theorem dX4_period_14 : decode cX4_period 14 = .ok (.iload_n 1, 1) := by decide +kernel
theorem dX4_period_15 : decode cX4_period 15 = .ok (.irem, 1) := by decide +kernel
theorem dX4_period_16 : decode cX4_period 16 = .ok (.ifCond .ne 13, 3) := by decide +kernel
theorem dX4_period_19 : decode cX4_period 19 = .ok (.aload_n 0, 1) := by decide +kernel
theorem dX4_period_20 : decode cX4_period 20 = .ok (.iload_n 1, 1) := by decide +kernel
theorem dX4_period_21 : decode cX4_period 21 = .ok (.invokevirtual 50, 3) := by decide +kernel
theorem dX4_period_24 : decode cX4_period 24 = .ok (.ifCond .eq 5, 3) := by decide +kernel
theorem dX4_period_27 : decode cX4_period 27 = .ok (.iload_n 1, 1) := by decide +kernel
theorem dX4_period_28 : decode cX4_period 28 = .ok (.ireturn, 1) := by decide +kernel
theorem dX4_period_29 : decode cX4_period 29 = .ok (.iinc 1 1, 3) := by decide +kernel
theorem dX4_period_32 : decode cX4_period 32 = .ok (.goto (-30), 3) := by decide +kernel
theorem dX4_period_35 : decode cX4_period 35 = .ok (.aload_n 0, 1) := by decide +kernel
theorem dX4_period_36 : decode cX4_period 36 = .ok (.getfield 15, 3) := by decide +kernel
theorem dX4_period_39 : decode cX4_period 39 = .ok (.ireturn, 1) := by decide +kernel
theorem dX4_repeatsBy_0 : decode cX4_repeatsBy 0 = .ok (.iconst 0, 1) := by decide +kernel
theorem dX4_repeatsBy_1 : decode cX4_repeatsBy 1 = .ok (.istore_n 2, 1) := by decide +kernel
theorem dX4_repeatsBy_2 : decode cX4_repeatsBy 2 = .ok (.iload_n 2, 1) := by decide +kernel
theorem dX4_repeatsBy_3 : decode cX4_repeatsBy 3 = .ok (.iload_n 1, 1) := by decide +kernel
theorem dX4_repeatsBy_4 : decode cX4_repeatsBy 4 = .ok (.iadd, 1) := by decide +kernel
theorem dX4_repeatsBy_5 : decode cX4_repeatsBy 5 = .ok (.aload_n 0, 1) := by decide +kernel
theorem dX4_repeatsBy_6 : decode cX4_repeatsBy 6 = .ok (.getfield 15, 3) := by decide +kernel
theorem dX4_repeatsBy_9 : decode cX4_repeatsBy 9 = .ok (.if_icmp .ge 26, 3) := by decide +kernel
theorem dX4_repeatsBy_12 : decode cX4_repeatsBy 12 = .ok (.aload_n 0, 1) := by decide +kernel
theorem dX4_repeatsBy_13 : decode cX4_repeatsBy 13 = .ok (.iload_n 2, 1) := by decide +kernel
theorem dX4_repeatsBy_14 : decode cX4_repeatsBy 14 = .ok (.invokevirtual 29, 3) := by decide +kernel
theorem dX4_repeatsBy_17 : decode cX4_repeatsBy 17 = .ok (.aload_n 0, 1) := by decide +kernel
theorem dX4_repeatsBy_18 : decode cX4_repeatsBy 18 = .ok (.iload_n 2, 1) := by decide +kernel
theorem dX4_repeatsBy_19 : decode cX4_repeatsBy 19 = .ok (.iload_n 1, 1) := by decide +kernel
theorem dX4_repeatsBy_20 : decode cX4_repeatsBy 20 = .ok (.iadd, 1) := by decide +kernel
theorem dX4_repeatsBy_21 : decode cX4_repeatsBy 21 = .ok (.invokevirtual 29, 3) := by decide +kernel
theorem dX4_repeatsBy_24 : decode cX4_repeatsBy 24 = .ok (.if_icmp .eq 5, 3) := by decide +kernel
theorem dX4_repeatsBy_27 : decode cX4_repeatsBy 27 = .ok (.iconst 0, 1) := by decide +kernel
theorem dX4_repeatsBy_28 : decode cX4_repeatsBy 28 = .ok (.ireturn, 1) := by decide +kernel
theorem dX4_repeatsBy_29 : decode cX4_repeatsBy 29 = .ok (.iinc 2 1, 3) := by decide +kernel
theorem dX4_repeatsBy_32 : decode cX4_repeatsBy 32 = .ok (.goto (-30), 3) := by decide +kernel
theorem dX4_repeatsBy_35 : decode cX4_repeatsBy 35 = .ok (.iconst 1, 1) := by decide +kernel
theorem dX4_repeatsBy_36 : decode cX4_repeatsBy 36 = .ok (.ireturn, 1) := by decide +kernel
theorem dX4_statesDiffer_0 : decode cX4_statesDiffer 0 = .ok (.aload_n 0, 1) := by decide +kernel
theorem dX4_statesDiffer_1 : decode cX4_statesDiffer 1 = .ok (.invokevirtual 42, 3) := by decide +kernel
theorem dX4_statesDiffer_4 : decode cX4_statesDiffer 4 = .ok (.ifCond .ne 6, 3) := by decide +kernel
theorem dX4_statesDiffer_7 : decode cX4_statesDiffer 7 = .ok (.bipush (-4), 2) := by decide +kernel
theorem dX4_statesDiffer_9 : decode cX4_statesDiffer 9 = .ok (.ireturn, 1) := by decide +kernel
theorem dX4_statesDiffer_10 : decode cX4_statesDiffer 10 = .ok (.aload_n 0, 1) := by decide +kernel
theorem dX4_statesDiffer_11 : decode cX4_statesDiffer 11 = .ok (.invokevirtual 54, 3) := by decide +kernel
theorem dX4_statesDiffer_14 : decode cX4_statesDiffer 14 = .ok (.istore_n 1, 1) := by decide +kernel
theorem dX4_statesDiffer_15 : decode cX4_statesDiffer 15 = .ok (.iconst 0, 1) := by decide +kernel
theorem dX4_statesDiffer_16 : decode cX4_statesDiffer 16 = .ok (.istore_n 2, 1) := by decide +kernel
theorem dX4_statesDiffer_17 : decode cX4_statesDiffer 17 = .ok (.iload_n 2, 1) := by decide +kernel
theorem dX4_statesDiffer_18 : decode cX4_statesDiffer 18 = .ok (.iload_n 1, 1) := by decide +kernel
theorem dX4_statesDiffer_19 : decode cX4_statesDiffer 19 = .ok (.if_icmp .ge 39, 3) := by decide +kernel
theorem dX4_statesDiffer_22 : decode cX4_statesDiffer 22 = .ok (.iload_n 2, 1) := by decide +kernel
theorem dX4_statesDiffer_23 : decode cX4_statesDiffer 23 = .ok (.iconst 1, 1) := by decide +kernel
theorem dX4_statesDiffer_24 : decode cX4_statesDiffer 24 = .ok (.iadd, 1) := by decide +kernel
theorem dX4_statesDiffer_25 : decode cX4_statesDiffer 25 = .ok (.istore_n 3, 1) := by decide +kernel
theorem dX4_statesDiffer_26 : decode cX4_statesDiffer 26 = .ok (.iload_n 3, 1) := by decide +kernel
theorem dX4_statesDiffer_27 : decode cX4_statesDiffer 27 = .ok (.iload_n 1, 1) := by decide +kernel
theorem dX4_statesDiffer_28 : decode cX4_statesDiffer 28 = .ok (.if_icmp .ge 24, 3) := by decide +kernel
theorem dX4_statesDiffer_31 : decode cX4_statesDiffer 31 = .ok (.aload_n 0, 1) := by decide +kernel
theorem dX4_statesDiffer_32 : decode cX4_statesDiffer 32 = .ok (.iload_n 2, 1) := by decide +kernel
theorem dX4_statesDiffer_33 : decode cX4_statesDiffer 33 = .ok (.invokevirtual 57, 3) := by decide +kernel
theorem dX4_statesDiffer_36 : decode cX4_statesDiffer 36 = .ok (.aload_n 0, 1) := by decide +kernel
theorem dX4_statesDiffer_37 : decode cX4_statesDiffer 37 = .ok (.iload_n 3, 1) := by decide +kernel
theorem dX4_statesDiffer_38 : decode cX4_statesDiffer 38 = .ok (.invokevirtual 57, 3) := by decide +kernel
theorem dX4_statesDiffer_41 : decode cX4_statesDiffer 41 = .ok (.if_icmp .ne 5, 3) := by decide +kernel
theorem dX4_statesDiffer_44 : decode cX4_statesDiffer 44 = .ok (.iconst 0, 1) := by decide +kernel
theorem dX4_statesDiffer_45 : decode cX4_statesDiffer 45 = .ok (.ireturn, 1) := by decide +kernel
theorem dX4_statesDiffer_46 : decode cX4_statesDiffer 46 = .ok (.iinc 3 1, 3) := by decide +kernel
theorem dX4_statesDiffer_49 : decode cX4_statesDiffer 49 = .ok (.goto (-23), 3) := by decide +kernel
theorem dX4_statesDiffer_52 : decode cX4_statesDiffer 52 = .ok (.iinc 2 1, 3) := by decide +kernel
theorem dX4_statesDiffer_55 : decode cX4_statesDiffer 55 = .ok (.goto (-38), 3) := by decide +kernel
theorem dX4_statesDiffer_58 : decode cX4_statesDiffer 58 = .ok (.iconst 1, 1) := by decide +kernel
theorem dX4_statesDiffer_59 : decode cX4_statesDiffer 59 = .ok (.ireturn, 1) := by decide +kernel
theorem dX4_statesHoldTheBalls_0 : decode cX4_statesHoldTheBalls 0 = .ok (.aload_n 0, 1) := by decide +kernel
theorem dX4_statesHoldTheBalls_1 : decode cX4_statesHoldTheBalls 1 = .ok (.invokevirtual 60, 3) := by decide +kernel
theorem dX4_statesHoldTheBalls_4 : decode cX4_statesHoldTheBalls 4 = .ok (.istore_n 1, 1) := by decide +kernel
theorem dX4_statesHoldTheBalls_5 : decode cX4_statesHoldTheBalls 5 = .ok (.iconst 0, 1) := by decide +kernel
theorem dX4_statesHoldTheBalls_6 : decode cX4_statesHoldTheBalls 6 = .ok (.istore_n 2, 1) := by decide +kernel
theorem dX4_statesHoldTheBalls_7 : decode cX4_statesHoldTheBalls 7 = .ok (.iload_n 2, 1) := by decide +kernel
theorem dX4_statesHoldTheBalls_8 : decode cX4_statesHoldTheBalls 8 = .ok (.aload_n 0, 1) := by decide +kernel
theorem dX4_statesHoldTheBalls_9 : decode cX4_statesHoldTheBalls 9 = .ok (.getfield 15, 3) := by decide +kernel
theorem dX4_statesHoldTheBalls_12 : decode cX4_statesHoldTheBalls 12 = .ok (.if_icmp .ge 23, 3) := by decide +kernel
theorem dX4_statesHoldTheBalls_15 : decode cX4_statesHoldTheBalls 15 = .ok (.aload_n 0, 1) := by decide +kernel
theorem dX4_statesHoldTheBalls_16 : decode cX4_statesHoldTheBalls 16 = .ok (.iload_n 2, 1) := by decide +kernel
theorem dX4_statesHoldTheBalls_17 : decode cX4_statesHoldTheBalls 17 = .ok (.invokevirtual 57, 3) := by decide +kernel
theorem dX4_statesHoldTheBalls_20 : decode cX4_statesHoldTheBalls 20 = .ok (.invokestatic 63, 3) := by decide +kernel
theorem dX4_statesHoldTheBalls_23 : decode cX4_statesHoldTheBalls 23 = .ok (.iload_n 1, 1) := by decide +kernel
theorem dX4_statesHoldTheBalls_24 : decode cX4_statesHoldTheBalls 24 = .ok (.if_icmp .eq 5, 3) := by decide +kernel
theorem dX4_statesHoldTheBalls_27 : decode cX4_statesHoldTheBalls 27 = .ok (.iconst 0, 1) := by decide +kernel
theorem dX4_statesHoldTheBalls_28 : decode cX4_statesHoldTheBalls 28 = .ok (.ireturn, 1) := by decide +kernel
theorem dX4_statesHoldTheBalls_29 : decode cX4_statesHoldTheBalls 29 = .ok (.iinc 2 1, 3) := by decide +kernel
theorem dX4_statesHoldTheBalls_32 : decode cX4_statesHoldTheBalls 32 = .ok (.goto (-25), 3) := by decide +kernel
theorem dX4_statesHoldTheBalls_35 : decode cX4_statesHoldTheBalls 35 = .ok (.iconst 1, 1) := by decide +kernel
theorem dX4_statesHoldTheBalls_36 : decode cX4_statesHoldTheBalls 36 = .ok (.ireturn, 1) := by decide +kernel
theorem dX5_init_0 : decode cX5_init 0 = .ok (.aload_n 0, 1) := by decide +kernel
theorem dX5_init_1 : decode cX5_init 1 = .ok (.invokespecial 3, 3) := by decide +kernel
theorem dX5_init_4 : decode cX5_init 4 = .ok (.aload_n 0, 1) := by decide +kernel
theorem dX5_init_5 : decode cX5_init 5 = .ok (.bipush 6, 2) := by decide +kernel
theorem dX5_init_7 : decode cX5_init 7 = .ok (.anewarray 9, 3) := by decide +kernel
theorem dX5_init_10 : decode cX5_init 10 = .ok (.putfield 11, 3) := by decide +kernel
theorem dX5_init_13 : decode cX5_init 13 = .ok (.iconst 0, 1) := by decide +kernel
theorem dX5_init_14 : decode cX5_init 14 = .ok (.istore_n 1, 1) := by decide +kernel
theorem dX5_init_15 : decode cX5_init 15 = .ok (.iload_n 1, 1) := by decide +kernel
theorem dX5_init_16 : decode cX5_init 16 = .ok (.aload_n 0, 1) := by decide +kernel
theorem dX5_init_17 : decode cX5_init 17 = .ok (.getfield 11, 3) := by decide +kernel
theorem dX5_init_20 : decode cX5_init 20 = .ok (.arraylength, 1) := by decide +kernel
theorem dX5_init_21 : decode cX5_init 21 = .ok (.if_icmp .ge 22, 3) := by decide +kernel
theorem dX5_init_24 : decode cX5_init 24 = .ok (.aload_n 0, 1) := by decide +kernel
theorem dX5_init_25 : decode cX5_init 25 = .ok (.getfield 11, 3) := by decide +kernel
theorem dX5_init_28 : decode cX5_init 28 = .ok (.iload_n 1, 1) := by decide +kernel
theorem dX5_init_29 : decode cX5_init 29 = .ok (.new 9, 3) := by decide +kernel
theorem dX5_init_32 : decode cX5_init 32 = .ok (.dup, 1) := by decide +kernel
theorem dX5_init_33 : decode cX5_init 33 = .ok (.invokespecial 17, 3) := by decide +kernel
theorem dX5_init_36 : decode cX5_init 36 = .ok (.aastore, 1) := by decide +kernel
theorem dX5_init_37 : decode cX5_init 37 = .ok (.iinc 1 1, 3) := by decide +kernel
theorem dX5_init_40 : decode cX5_init 40 = .ok (.goto (-25), 3) := by decide +kernel
theorem dX5_init_43 : decode cX5_init 43 = .ok (.return_, 1) := by decide +kernel
theorem dX5_copyFrom_0 : decode cX5_copyFrom 0 = .ok (.aload_n 0, 1) := by decide +kernel
theorem dX5_copyFrom_1 : decode cX5_copyFrom 1 = .ok (.aload_n 1, 1) := by decide +kernel
theorem dX5_copyFrom_2 : decode cX5_copyFrom 2 = .ok (.getfield 18, 3) := by decide +kernel
theorem dX5_copyFrom_5 : decode cX5_copyFrom 5 = .ok (.putfield 18, 3) := by decide +kernel
theorem dX5_copyFrom_8 : decode cX5_copyFrom 8 = .ok (.iconst 0, 1) := by decide +kernel
theorem dX5_copyFrom_9 : decode cX5_copyFrom 9 = .ok (.istore_n 2, 1) := by decide +kernel
theorem dX5_copyFrom_10 : decode cX5_copyFrom 10 = .ok (.iload_n 2, 1) := by decide +kernel
theorem dX5_copyFrom_11 : decode cX5_copyFrom 11 = .ok (.aload_n 0, 1) := by decide +kernel
theorem dX5_copyFrom_12 : decode cX5_copyFrom 12 = .ok (.getfield 11, 3) := by decide +kernel
theorem dX5_copyFrom_15 : decode cX5_copyFrom 15 = .ok (.arraylength, 1) := by decide +kernel
theorem dX5_copyFrom_16 : decode cX5_copyFrom 16 = .ok (.if_icmp .ge 48, 3) := by decide +kernel
theorem dX5_copyFrom_19 : decode cX5_copyFrom 19 = .ok (.iload_n 2, 1) := by decide +kernel
theorem dX5_copyFrom_20 : decode cX5_copyFrom 20 = .ok (.aload_n 1, 1) := by decide +kernel
theorem dX5_copyFrom_21 : decode cX5_copyFrom 21 = .ok (.getfield 11, 3) := by decide +kernel
theorem dX5_copyFrom_24 : decode cX5_copyFrom 24 = .ok (.arraylength, 1) := by decide +kernel
theorem dX5_copyFrom_25 : decode cX5_copyFrom 25 = .ok (.if_icmp .ge 39, 3) := by decide +kernel
theorem dX5_copyFrom_28 : decode cX5_copyFrom 28 = .ok (.aload_n 0, 1) := by decide +kernel
theorem dX5_copyFrom_29 : decode cX5_copyFrom 29 = .ok (.getfield 11, 3) := by decide +kernel
theorem dX5_copyFrom_32 : decode cX5_copyFrom 32 = .ok (.iload_n 2, 1) := by decide +kernel
theorem dX5_copyFrom_33 : decode cX5_copyFrom 33 = .ok (.aaload, 1) := by decide +kernel
theorem dX5_copyFrom_34 : decode cX5_copyFrom 34 = .ok (.astore_n 3, 1) := by decide +kernel
theorem dX5_copyFrom_35 : decode cX5_copyFrom 35 = .ok (.aload_n 1, 1) := by decide +kernel
theorem dX5_copyFrom_36 : decode cX5_copyFrom 36 = .ok (.getfield 11, 3) := by decide +kernel
theorem dX5_copyFrom_39 : decode cX5_copyFrom 39 = .ok (.iload_n 2, 1) := by decide +kernel
theorem dX5_copyFrom_40 : decode cX5_copyFrom 40 = .ok (.aaload, 1) := by decide +kernel
theorem dX5_copyFrom_41 : decode cX5_copyFrom 41 = .ok (.astore 4, 2) := by decide +kernel
theorem dX5_copyFrom_43 : decode cX5_copyFrom 43 = .ok (.aload_n 3, 1) := by decide +kernel
theorem dX5_copyFrom_44 : decode cX5_copyFrom 44 = .ok (.ifnull 14, 3) := by decide +kernel
theorem dX5_copyFrom_47 : decode cX5_copyFrom 47 = .ok (.aload 4, 2) := by decide +kernel
theorem dX5_copyFrom_49 : decode cX5_copyFrom 49 = .ok (.ifnull 9, 3) := by decide +kernel
theorem dX5_copyFrom_52 : decode cX5_copyFrom 52 = .ok (.aload_n 3, 1) := by decide +kernel
theorem dX5_copyFrom_53 : decode cX5_copyFrom 53 = .ok (.aload 4, 2) := by decide +kernel
theorem dX5_copyFrom_55 : decode cX5_copyFrom 55 = .ok (.invokevirtual 22, 3) := by decide +kernel
theorem dX5_copyFrom_58 : decode cX5_copyFrom 58 = .ok (.iinc 2 1, 3) := by decide +kernel
theorem dX5_copyFrom_61 : decode cX5_copyFrom 61 = .ok (.goto (-51), 3) := by decide +kernel
theorem dX5_copyFrom_64 : decode cX5_copyFrom 64 = .ok (.aload_n 0, 1) := by decide +kernel
theorem dX5_copyFrom_65 : decode cX5_copyFrom 65 = .ok (.aload_n 1, 1) := by decide +kernel
theorem dX5_copyFrom_66 : decode cX5_copyFrom 66 = .ok (.getfield 26, 3) := by decide +kernel
theorem dX5_copyFrom_69 : decode cX5_copyFrom 69 = .ok (.putfield 26, 3) := by decide +kernel
theorem dX5_copyFrom_72 : decode cX5_copyFrom 72 = .ok (.aload_n 0, 1) := by decide +kernel
theorem dX5_copyFrom_73 : decode cX5_copyFrom 73 = .ok (.aload_n 1, 1) := by decide +kernel
theorem dX5_copyFrom_74 : decode cX5_copyFrom 74 = .ok (.getfield 29, 3) := by decide +kernel
theorem dX5_copyFrom_77 : decode cX5_copyFrom 77 = .ok (.putfield 29, 3) := by decide +kernel
theorem dX5_copyFrom_80 : decode cX5_copyFrom 80 = .ok (.aload_n 0, 1) := by decide +kernel
theorem dX5_copyFrom_81 : decode cX5_copyFrom 81 = .ok (.aload_n 1, 1) := by decide +kernel
theorem dX5_copyFrom_82 : decode cX5_copyFrom 82 = .ok (.getfield 32, 3) := by decide +kernel
theorem dX5_copyFrom_85 : decode cX5_copyFrom 85 = .ok (.putfield 32, 3) := by decide +kernel
theorem dX5_copyFrom_88 : decode cX5_copyFrom 88 = .ok (.aload_n 0, 1) := by decide +kernel
theorem dX5_copyFrom_89 : decode cX5_copyFrom 89 = .ok (.aload_n 1, 1) := by decide +kernel
theorem dX5_copyFrom_90 : decode cX5_copyFrom 90 = .ok (.getfield 35, 3) := by decide +kernel
theorem dX5_copyFrom_93 : decode cX5_copyFrom 93 = .ok (.putfield 35, 3) := by decide +kernel
theorem dX5_copyFrom_96 : decode cX5_copyFrom 96 = .ok (.aload_n 0, 1) := by decide +kernel
theorem dX5_copyFrom_97 : decode cX5_copyFrom 97 = .ok (.aload_n 1, 1) := by decide +kernel
theorem dX5_copyFrom_98 : decode cX5_copyFrom 98 = .ok (.getfield 38, 3) := by decide +kernel
theorem dX5_copyFrom_101 : decode cX5_copyFrom 101 = .ok (.putfield 38, 3) := by decide +kernel
theorem dX5_copyFrom_104 : decode cX5_copyFrom 104 = .ok (.aload_n 0, 1) := by decide +kernel
theorem dX5_copyFrom_105 : decode cX5_copyFrom 105 = .ok (.aload_n 1, 1) := by decide +kernel
theorem dX5_copyFrom_106 : decode cX5_copyFrom 106 = .ok (.getfield 41, 3) := by decide +kernel
theorem dX5_copyFrom_109 : decode cX5_copyFrom 109 = .ok (.putfield 41, 3) := by decide +kernel
theorem dX5_copyFrom_112 : decode cX5_copyFrom 112 = .ok (.aload_n 0, 1) := by decide +kernel
theorem dX5_copyFrom_113 : decode cX5_copyFrom 113 = .ok (.aload_n 1, 1) := by decide +kernel
theorem dX5_copyFrom_114 : decode cX5_copyFrom 114 = .ok (.getfield 44, 3) := by decide +kernel
theorem dX5_copyFrom_117 : decode cX5_copyFrom 117 = .ok (.putfield 44, 3) := by decide +kernel
theorem dX5_copyFrom_120 : decode cX5_copyFrom 120 = .ok (.return_, 1) := by decide +kernel
theorem dX5_rowNumbered_0 : decode cX5_rowNumbered 0 = .ok (.iload_n 1, 1) := by decide +kernel
theorem dX5_rowNumbered_1 : decode cX5_rowNumbered 1 = .ok (.ifCond .lt 29, 3) := by decide +kernel
theorem dX5_rowNumbered_4 : decode cX5_rowNumbered 4 = .ok (.iload_n 1, 1) := by decide +kernel
theorem dX5_rowNumbered_5 : decode cX5_rowNumbered 5 = .ok (.aload_n 0, 1) := by decide +kernel
theorem dX5_rowNumbered_6 : decode cX5_rowNumbered 6 = .ok (.getfield 18, 3) := by decide +kernel
theorem dX5_rowNumbered_9 : decode cX5_rowNumbered 9 = .ok (.if_icmp .ge 21, 3) := by decide +kernel
theorem dX5_rowNumbered_12 : decode cX5_rowNumbered 12 = .ok (.iload_n 1, 1) := by decide +kernel
theorem dX5_rowNumbered_13 : decode cX5_rowNumbered 13 = .ok (.aload_n 0, 1) := by decide +kernel
theorem dX5_rowNumbered_14 : decode cX5_rowNumbered 14 = .ok (.getfield 11, 3) := by decide +kernel
theorem dX5_rowNumbered_17 : decode cX5_rowNumbered 17 = .ok (.arraylength, 1) := by decide +kernel
theorem dX5_rowNumbered_18 : decode cX5_rowNumbered 18 = .ok (.if_icmp .ge 12, 3) := by decide +kernel
theorem dX5_rowNumbered_21 : decode cX5_rowNumbered 21 = .ok (.aload_n 0, 1) := by decide +kernel
theorem dX5_rowNumbered_22 : decode cX5_rowNumbered 22 = .ok (.getfield 11, 3) := by decide +kernel
theorem dX5_rowNumbered_25 : decode cX5_rowNumbered 25 = .ok (.iload_n 1, 1) := by decide +kernel
theorem dX5_rowNumbered_26 : decode cX5_rowNumbered 26 = .ok (.aaload, 1) := by decide +kernel
theorem dX5_rowNumbered_27 : decode cX5_rowNumbered 27 = .ok (.goto 4, 3) := by decide +kernel
theorem dX5_rowNumbered_30 : decode cX5_rowNumbered 30 = .ok (.aconst_null, 1) := by decide +kernel
theorem dX5_rowNumbered_31 : decode cX5_rowNumbered 31 = .ok (.areturn, 1) := by decide +kernel
theorem dX5_appendRow_0 : decode cX5_appendRow 0 = .ok (.aload_n 0, 1) := by decide +kernel
theorem dX5_appendRow_1 : decode cX5_appendRow 1 = .ok (.dup, 1) := by decide +kernel
theorem dX5_appendRow_2 : decode cX5_appendRow 2 = .ok (.getfield 18, 3) := by decide +kernel
theorem dX5_appendRow_5 : decode cX5_appendRow 5 = .ok (.iconst 1, 1) := by decide +kernel
theorem dX5_appendRow_6 : decode cX5_appendRow 6 = .ok (.iadd, 1) := by decide +kernel
theorem dX5_appendRow_7 : decode cX5_appendRow 7 = .ok (.putfield 18, 3) := by decide +kernel
theorem dX5_appendRow_10 : decode cX5_appendRow 10 = .ok (.aload_n 0, 1) := by decide +kernel
theorem dX5_appendRow_11 : decode cX5_appendRow 11 = .ok (.aload_n 0, 1) := by decide +kernel
theorem dX5_appendRow_12 : decode cX5_appendRow 12 = .ok (.getfield 18, 3) := by decide +kernel
theorem dX5_appendRow_15 : decode cX5_appendRow 15 = .ok (.iconst 1, 1) := by decide +kernel
theorem dX5_appendRow_16 : decode cX5_appendRow 16 = .ok (.isub, 1) := by decide +kernel
theorem dX5_appendRow_17 : decode cX5_appendRow 17 = .ok (.invokevirtual 47, 3) := by decide +kernel
theorem dX5_appendRow_20 : decode cX5_appendRow 20 = .ok (.astore_n 3, 1) := by decide +kernel
theorem dX5_appendRow_21 : decode cX5_appendRow 21 = .ok (.aload_n 3, 1) := by decide +kernel
theorem dX5_appendRow_22 : decode cX5_appendRow 22 = .ok (.ifnull 9, 3) := by decide +kernel
theorem dX5_appendRow_25 : decode cX5_appendRow 25 = .ok (.aload_n 3, 1) := by decide +kernel
theorem dX5_appendRow_26 : decode cX5_appendRow 26 = .ok (.iload_n 1, 1) := by decide +kernel
theorem dX5_appendRow_27 : decode cX5_appendRow 27 = .ok (.iload_n 2, 1) := by decide +kernel
theorem dX5_appendRow_28 : decode cX5_appendRow 28 = .ok (.invokevirtual 51, 3) := by decide +kernel
theorem dX5_appendRow_31 : decode cX5_appendRow 31 = .ok (.aload_n 0, 1) := by decide +kernel
theorem dX5_appendRow_32 : decode cX5_appendRow 32 = .ok (.getfield 18, 3) := by decide +kernel
theorem dX5_appendRow_35 : decode cX5_appendRow 35 = .ok (.iconst 1, 1) := by decide +kernel
theorem dX5_appendRow_36 : decode cX5_appendRow 36 = .ok (.isub, 1) := by decide +kernel
theorem dX5_appendRow_37 : decode cX5_appendRow 37 = .ok (.ireturn, 1) := by decide +kernel
theorem dX5_removeRow_0 : decode cX5_removeRow 0 = .ok (.aload_n 0, 1) := by decide +kernel
theorem dX5_removeRow_1 : decode cX5_removeRow 1 = .ok (.iload_n 1, 1) := by decide +kernel
theorem dX5_removeRow_2 : decode cX5_removeRow 2 = .ok (.invokevirtual 47, 3) := by decide +kernel
theorem dX5_removeRow_5 : decode cX5_removeRow 5 = .ok (.astore_n 2, 1) := by decide +kernel
theorem dX5_removeRow_6 : decode cX5_removeRow 6 = .ok (.aload_n 2, 1) := by decide +kernel
theorem dX5_removeRow_7 : decode cX5_removeRow 7 = .ok (.ifnonnull 5, 3) := by decide +kernel
theorem dX5_removeRow_10 : decode cX5_removeRow 10 = .ok (.iconst 0, 1) := by decide +kernel
theorem dX5_removeRow_11 : decode cX5_removeRow 11 = .ok (.ireturn, 1) := by decide +kernel
theorem dX5_removeRow_12 : decode cX5_removeRow 12 = .ok (.iload_n 1, 1) := by decide +kernel
theorem dX5_removeRow_13 : decode cX5_removeRow 13 = .ok (.iconst 1, 1) := by decide +kernel
theorem dX5_removeRow_14 : decode cX5_removeRow 14 = .ok (.iadd, 1) := by decide +kernel
theorem dX5_removeRow_15 : decode cX5_removeRow 15 = .ok (.istore_n 3, 1) := by decide +kernel
theorem dX5_removeRow_16 : decode cX5_removeRow 16 = .ok (.iload_n 3, 1) := by decide +kernel
theorem dX5_removeRow_17 : decode cX5_removeRow 17 = .ok (.aload_n 0, 1) := by decide +kernel
theorem dX5_removeRow_18 : decode cX5_removeRow 18 = .ok (.getfield 18, 3) := by decide +kernel
theorem dX5_removeRow_21 : decode cX5_removeRow 21 = .ok (.if_icmp .ge 32, 3) := by decide +kernel
theorem dX5_removeRow_24 : decode cX5_removeRow 24 = .ok (.iload_n 3, 1) := by decide +kernel
theorem dX5_removeRow_25 : decode cX5_removeRow 25 = .ok (.aload_n 0, 1) := by decide +kernel
theorem dX5_removeRow_26 : decode cX5_removeRow 26 = .ok (.getfield 11, 3) := by decide +kernel
theorem dX5_removeRow_29 : decode cX5_removeRow 29 = .ok (.arraylength, 1) := by decide +kernel
theorem dX5_removeRow_30 : decode cX5_removeRow 30 = .ok (.if_icmp .ge 23, 3) := by decide +kernel
theorem dX5_removeRow_33 : decode cX5_removeRow 33 = .ok (.aload_n 0, 1) := by decide +kernel
theorem dX5_removeRow_34 : decode cX5_removeRow 34 = .ok (.getfield 11, 3) := by decide +kernel
theorem dX5_removeRow_37 : decode cX5_removeRow 37 = .ok (.iload_n 3, 1) := by decide +kernel
theorem dX5_removeRow_38 : decode cX5_removeRow 38 = .ok (.iconst 1, 1) := by decide +kernel
theorem dX5_removeRow_39 : decode cX5_removeRow 39 = .ok (.isub, 1) := by decide +kernel
theorem dX5_removeRow_40 : decode cX5_removeRow 40 = .ok (.aload_n 0, 1) := by decide +kernel
theorem dX5_removeRow_41 : decode cX5_removeRow 41 = .ok (.getfield 11, 3) := by decide +kernel
theorem dX5_removeRow_44 : decode cX5_removeRow 44 = .ok (.iload_n 3, 1) := by decide +kernel
theorem dX5_removeRow_45 : decode cX5_removeRow 45 = .ok (.aaload, 1) := by decide +kernel
theorem dX5_removeRow_46 : decode cX5_removeRow 46 = .ok (.aastore, 1) := by decide +kernel
theorem dX5_removeRow_47 : decode cX5_removeRow 47 = .ok (.iinc 3 1, 3) := by decide +kernel
theorem dX5_removeRow_50 : decode cX5_removeRow 50 = .ok (.goto (-34), 3) := by decide +kernel
theorem dX5_removeRow_53 : decode cX5_removeRow 53 = .ok (.aload_n 0, 1) := by decide +kernel
theorem dX5_removeRow_54 : decode cX5_removeRow 54 = .ok (.dup, 1) := by decide +kernel
theorem dX5_removeRow_55 : decode cX5_removeRow 55 = .ok (.getfield 18, 3) := by decide +kernel
theorem dX5_removeRow_58 : decode cX5_removeRow 58 = .ok (.iconst 1, 1) := by decide +kernel
theorem dX5_removeRow_59 : decode cX5_removeRow 59 = .ok (.isub, 1) := by decide +kernel
theorem dX5_removeRow_60 : decode cX5_removeRow 60 = .ok (.putfield 18, 3) := by decide +kernel
theorem dX5_removeRow_63 : decode cX5_removeRow 63 = .ok (.aload_n 0, 1) := by decide +kernel
theorem dX5_removeRow_64 : decode cX5_removeRow 64 = .ok (.getfield 18, 3) := by decide +kernel
theorem dX5_removeRow_67 : decode cX5_removeRow 67 = .ok (.ifCond .lt 25, 3) := by decide +kernel
theorem dX5_removeRow_70 : decode cX5_removeRow 70 = .ok (.aload_n 0, 1) := by decide +kernel
theorem dX5_removeRow_71 : decode cX5_removeRow 71 = .ok (.getfield 18, 3) := by decide +kernel
theorem dX5_removeRow_74 : decode cX5_removeRow 74 = .ok (.aload_n 0, 1) := by decide +kernel
theorem dX5_removeRow_75 : decode cX5_removeRow 75 = .ok (.getfield 11, 3) := by decide +kernel
theorem dX5_removeRow_78 : decode cX5_removeRow 78 = .ok (.arraylength, 1) := by decide +kernel
theorem dX5_removeRow_79 : decode cX5_removeRow 79 = .ok (.if_icmp .ge 13, 3) := by decide +kernel
theorem dX5_removeRow_82 : decode cX5_removeRow 82 = .ok (.aload_n 0, 1) := by decide +kernel
theorem dX5_removeRow_83 : decode cX5_removeRow 83 = .ok (.getfield 11, 3) := by decide +kernel
theorem dX5_removeRow_86 : decode cX5_removeRow 86 = .ok (.aload_n 0, 1) := by decide +kernel
theorem dX5_removeRow_87 : decode cX5_removeRow 87 = .ok (.getfield 18, 3) := by decide +kernel
theorem dX5_removeRow_90 : decode cX5_removeRow 90 = .ok (.aload_n 2, 1) := by decide +kernel
theorem dX5_removeRow_91 : decode cX5_removeRow 91 = .ok (.aastore, 1) := by decide +kernel
theorem dX5_removeRow_92 : decode cX5_removeRow 92 = .ok (.iconst 1, 1) := by decide +kernel
theorem dX5_removeRow_93 : decode cX5_removeRow 93 = .ok (.ireturn, 1) := by decide +kernel
theorem dX5_balls_0 : decode cX5_balls 0 = .ok (.aload_n 0, 1) := by decide +kernel
theorem dX5_balls_1 : decode cX5_balls 1 = .ok (.getfield 26, 3) := by decide +kernel
theorem dX5_balls_4 : decode cX5_balls 4 = .ok (.invokestatic 55, 3) := by decide +kernel
theorem dX5_balls_7 : decode cX5_balls 7 = .ok (.ireturn, 1) := by decide +kernel
theorem dX5_throwOne_0 : decode cX5_throwOne 0 = .ok (.aload_n 0, 1) := by decide +kernel
theorem dX5_throwOne_1 : decode cX5_throwOne 1 = .ok (.aload_n 0, 1) := by decide +kernel
theorem dX5_throwOne_2 : decode cX5_throwOne 2 = .ok (.getfield 26, 3) := by decide +kernel
theorem dX5_throwOne_5 : decode cX5_throwOne 5 = .ok (.iload_n 1, 1) := by decide +kernel
theorem dX5_throwOne_6 : decode cX5_throwOne 6 = .ok (.invokestatic 61, 3) := by decide +kernel
theorem dX5_throwOne_9 : decode cX5_throwOne 9 = .ok (.putfield 26, 3) := by decide +kernel
theorem dX5_throwOne_12 : decode cX5_throwOne 12 = .ok (.aload_n 0, 1) := by decide +kernel
theorem dX5_throwOne_13 : decode cX5_throwOne 13 = .ok (.dup, 1) := by decide +kernel
theorem dX5_throwOne_14 : decode cX5_throwOne 14 = .ok (.getfield 29, 3) := by decide +kernel
theorem dX5_throwOne_17 : decode cX5_throwOne 17 = .ok (.iconst 1, 1) := by decide +kernel
theorem dX5_throwOne_18 : decode cX5_throwOne 18 = .ok (.iadd, 1) := by decide +kernel
theorem dX5_throwOne_19 : decode cX5_throwOne 19 = .ok (.putfield 29, 3) := by decide +kernel
theorem dX5_throwOne_22 : decode cX5_throwOne 22 = .ok (.aload_n 0, 1) := by decide +kernel
theorem dX5_throwOne_23 : decode cX5_throwOne 23 = .ok (.dup, 1) := by decide +kernel
theorem dX5_throwOne_24 : decode cX5_throwOne 24 = .ok (.getfield 32, 3) := by decide +kernel
theorem dX5_throwOne_27 : decode cX5_throwOne 27 = .ok (.iconst 1, 1) := by decide +kernel
theorem dX5_throwOne_28 : decode cX5_throwOne 28 = .ok (.iadd, 1) := by decide +kernel
theorem dX5_throwOne_29 : decode cX5_throwOne 29 = .ok (.putfield 32, 3) := by decide +kernel
theorem dX5_throwOne_32 : decode cX5_throwOne 32 = .ok (.iload_n 1, 1) := by decide +kernel
theorem dX5_throwOne_33 : decode cX5_throwOne 33 = .ok (.ifCond .le 13, 3) := by decide +kernel
theorem dX5_throwOne_36 : decode cX5_throwOne 36 = .ok (.aload_n 0, 1) := by decide +kernel
theorem dX5_throwOne_37 : decode cX5_throwOne 37 = .ok (.dup, 1) := by decide +kernel
theorem dX5_throwOne_38 : decode cX5_throwOne 38 = .ok (.getfield 35, 3) := by decide +kernel
theorem dX5_throwOne_41 : decode cX5_throwOne 41 = .ok (.iconst 1, 1) := by decide +kernel
theorem dX5_throwOne_42 : decode cX5_throwOne 42 = .ok (.iadd, 1) := by decide +kernel
theorem dX5_throwOne_43 : decode cX5_throwOne 43 = .ok (.putfield 35, 3) := by decide +kernel
theorem dX5_throwOne_46 : decode cX5_throwOne 46 = .ok (.aload_n 0, 1) := by decide +kernel
theorem dX5_throwOne_47 : decode cX5_throwOne 47 = .ok (.aload_n 0, 1) := by decide +kernel
theorem dX5_throwOne_48 : decode cX5_throwOne 48 = .ok (.getfield 38, 3) := by decide +kernel
theorem dX5_throwOne_51 : decode cX5_throwOne 51 = .ok (.iload_n 1, 1) := by decide +kernel
theorem dX5_throwOne_52 : decode cX5_throwOne 52 = .ok (.invokestatic 65, 3) := by decide +kernel
theorem dX5_throwOne_55 : decode cX5_throwOne 55 = .ok (.putfield 38, 3) := by decide +kernel
theorem dX5_throwOne_58 : decode cX5_throwOne 58 = .ok (.return_, 1) := by decide +kernel
theorem dX5_countClean_0 : decode cX5_countClean 0 = .ok (.iconst 0, 1) := by decide +kernel
theorem dX5_countClean_1 : decode cX5_countClean 1 = .ok (.istore_n 1, 1) := by decide +kernel
theorem dX5_countClean_2 : decode cX5_countClean 2 = .ok (.iconst 0, 1) := by decide +kernel
theorem dX5_countClean_3 : decode cX5_countClean 3 = .ok (.istore_n 2, 1) := by decide +kernel
theorem dX5_countClean_4 : decode cX5_countClean 4 = .ok (.iload_n 2, 1) := by decide +kernel
theorem dX5_countClean_5 : decode cX5_countClean 5 = .ok (.aload_n 0, 1) := by decide +kernel
theorem dX5_countClean_6 : decode cX5_countClean 6 = .ok (.getfield 18, 3) := by decide +kernel
theorem dX5_countClean_9 : decode cX5_countClean 9 = .ok (.if_icmp .ge 29, 3) := by decide +kernel
theorem dX5_countClean_12 : decode cX5_countClean 12 = .ok (.aload_n 0, 1) := by decide +kernel
theorem dX5_countClean_13 : decode cX5_countClean 13 = .ok (.iload_n 2, 1) := by decide +kernel
theorem dX5_countClean_14 : decode cX5_countClean 14 = .ok (.invokevirtual 47, 3) := by decide +kernel
theorem dX5_countClean_17 : decode cX5_countClean 17 = .ok (.astore_n 3, 1) := by decide +kernel
theorem dX5_countClean_18 : decode cX5_countClean 18 = .ok (.aload_n 3, 1) := by decide +kernel
theorem dX5_countClean_19 : decode cX5_countClean 19 = .ok (.ifnull 13, 3) := by decide +kernel
theorem dX5_countClean_22 : decode cX5_countClean 22 = .ok (.aload_n 3, 1) := by decide +kernel
theorem dX5_countClean_23 : decode cX5_countClean 23 = .ok (.invokevirtual 70, 3) := by decide +kernel
theorem dX5_countClean_26 : decode cX5_countClean 26 = .ok (.ifCond .eq 6, 3) := by decide +kernel
theorem dX5_countClean_29 : decode cX5_countClean 29 = .ok (.iinc 1 1, 3) := by decide +kernel
theorem dX5_countClean_32 : decode cX5_countClean 32 = .ok (.iinc 2 1, 3) := by decide +kernel
theorem dX5_countClean_35 : decode cX5_countClean 35 = .ok (.goto (-31), 3) := by decide +kernel
theorem dX5_countClean_38 : decode cX5_countClean 38 = .ok (.iload_n 1, 1) := by decide +kernel
theorem dX5_countClean_39 : decode cX5_countClean 39 = .ok (.ireturn, 1) := by decide +kernel
theorem dX5_ballsOfCleanRows_0 : decode cX5_ballsOfCleanRows 0 = .ok (.iconst 0, 1) := by decide +kernel
theorem dX5_ballsOfCleanRows_1 : decode cX5_ballsOfCleanRows 1 = .ok (.istore_n 1, 1) := by decide +kernel
theorem dX5_ballsOfCleanRows_2 : decode cX5_ballsOfCleanRows 2 = .ok (.iconst 0, 1) := by decide +kernel
theorem dX5_ballsOfCleanRows_3 : decode cX5_ballsOfCleanRows 3 = .ok (.istore_n 2, 1) := by decide +kernel
theorem dX5_ballsOfCleanRows_4 : decode cX5_ballsOfCleanRows 4 = .ok (.iload_n 2, 1) := by decide +kernel
theorem dX5_ballsOfCleanRows_5 : decode cX5_ballsOfCleanRows 5 = .ok (.aload_n 0, 1) := by decide +kernel
theorem dX5_ballsOfCleanRows_6 : decode cX5_ballsOfCleanRows 6 = .ok (.getfield 18, 3) := by decide +kernel
theorem dX5_ballsOfCleanRows_9 : decode cX5_ballsOfCleanRows 9 = .ok (.if_icmp .ge 33, 3) := by decide +kernel
theorem dX5_ballsOfCleanRows_12 : decode cX5_ballsOfCleanRows 12 = .ok (.aload_n 0, 1) := by decide +kernel
theorem dX5_ballsOfCleanRows_13 : decode cX5_ballsOfCleanRows 13 = .ok (.iload_n 2, 1) := by decide +kernel
theorem dX5_ballsOfCleanRows_14 : decode cX5_ballsOfCleanRows 14 = .ok (.invokevirtual 47, 3) := by decide +kernel
theorem dX5_ballsOfCleanRows_17 : decode cX5_ballsOfCleanRows 17 = .ok (.astore_n 3, 1) := by decide +kernel
theorem dX5_ballsOfCleanRows_18 : decode cX5_ballsOfCleanRows 18 = .ok (.aload_n 3, 1) := by decide +kernel
theorem dX5_ballsOfCleanRows_19 : decode cX5_ballsOfCleanRows 19 = .ok (.ifnull 17, 3) := by decide +kernel
theorem dX5_ballsOfCleanRows_22 : decode cX5_ballsOfCleanRows 22 = .ok (.aload_n 3, 1) := by decide +kernel
theorem dX5_ballsOfCleanRows_23 : decode cX5_ballsOfCleanRows 23 = .ok (.invokevirtual 70, 3) := by decide +kernel
theorem dX5_ballsOfCleanRows_26 : decode cX5_ballsOfCleanRows 26 = .ok (.ifCond .eq 10, 3) := by decide +kernel
theorem dX5_ballsOfCleanRows_29 : decode cX5_ballsOfCleanRows 29 = .ok (.iload_n 1, 1) := by decide +kernel
theorem dX5_ballsOfCleanRows_30 : decode cX5_ballsOfCleanRows 30 = .ok (.aload_n 3, 1) := by decide +kernel
theorem dX5_ballsOfCleanRows_31 : decode cX5_ballsOfCleanRows 31 = .ok (.invokevirtual 74, 3) := by decide +kernel
theorem dX5_ballsOfCleanRows_34 : decode cX5_ballsOfCleanRows 34 = .ok (.iadd, 1) := by decide +kernel
theorem dX5_ballsOfCleanRows_35 : decode cX5_ballsOfCleanRows 35 = .ok (.istore_n 1, 1) := by decide +kernel
theorem dX5_ballsOfCleanRows_36 : decode cX5_ballsOfCleanRows 36 = .ok (.iinc 2 1, 3) := by decide +kernel
theorem dX5_ballsOfCleanRows_39 : decode cX5_ballsOfCleanRows 39 = .ok (.goto (-35), 3) := by decide +kernel
theorem dX5_ballsOfCleanRows_42 : decode cX5_ballsOfCleanRows 42 = .ok (.iload_n 1, 1) := by decide +kernel
theorem dX5_ballsOfCleanRows_43 : decode cX5_ballsOfCleanRows 43 = .ok (.ireturn, 1) := by decide +kernel
theorem dX5_countThrows_0 : decode cX5_countThrows 0 = .ok (.iconst 0, 1) := by decide +kernel
theorem dX5_countThrows_1 : decode cX5_countThrows 1 = .ok (.istore_n 1, 1) := by decide +kernel
theorem dX5_countThrows_2 : decode cX5_countThrows 2 = .ok (.iconst 0, 1) := by decide +kernel
theorem dX5_countThrows_3 : decode cX5_countThrows 3 = .ok (.istore_n 2, 1) := by decide +kernel
theorem dX5_countThrows_4 : decode cX5_countThrows 4 = .ok (.iload_n 2, 1) := by decide +kernel
theorem dX5_countThrows_5 : decode cX5_countThrows 5 = .ok (.aload_n 0, 1) := by decide +kernel
theorem dX5_countThrows_6 : decode cX5_countThrows 6 = .ok (.getfield 18, 3) := by decide +kernel
theorem dX5_countThrows_9 : decode cX5_countThrows 9 = .ok (.if_icmp .ge 26, 3) := by decide +kernel
theorem dX5_countThrows_12 : decode cX5_countThrows 12 = .ok (.aload_n 0, 1) := by decide +kernel
theorem dX5_countThrows_13 : decode cX5_countThrows 13 = .ok (.iload_n 2, 1) := by decide +kernel
theorem dX5_countThrows_14 : decode cX5_countThrows 14 = .ok (.invokevirtual 47, 3) := by decide +kernel
theorem dX5_countThrows_17 : decode cX5_countThrows 17 = .ok (.astore_n 3, 1) := by decide +kernel
theorem dX5_countThrows_18 : decode cX5_countThrows 18 = .ok (.aload_n 3, 1) := by decide +kernel
theorem dX5_countThrows_19 : decode cX5_countThrows 19 = .ok (.ifnull 10, 3) := by decide +kernel
theorem dX5_countThrows_22 : decode cX5_countThrows 22 = .ok (.iload_n 1, 1) := by decide +kernel
theorem dX5_countThrows_23 : decode cX5_countThrows 23 = .ok (.aload_n 3, 1) := by decide +kernel
theorem dX5_countThrows_24 : decode cX5_countThrows 24 = .ok (.getfield 78, 3) := by decide +kernel
theorem dX5_countThrows_27 : decode cX5_countThrows 27 = .ok (.iadd, 1) := by decide +kernel
theorem dX5_countThrows_28 : decode cX5_countThrows 28 = .ok (.istore_n 1, 1) := by decide +kernel
theorem dX5_countThrows_29 : decode cX5_countThrows 29 = .ok (.iinc 2 1, 3) := by decide +kernel
theorem dX5_countThrows_32 : decode cX5_countThrows 32 = .ok (.goto (-28), 3) := by decide +kernel
theorem dX5_countThrows_35 : decode cX5_countThrows 35 = .ok (.iload_n 1, 1) := by decide +kernel
theorem dX5_countThrows_36 : decode cX5_countThrows 36 = .ok (.ireturn, 1) := by decide +kernel
theorem dX5_sumOfThrows_0 : decode cX5_sumOfThrows 0 = .ok (.iconst 0, 1) := by decide +kernel
theorem dX5_sumOfThrows_1 : decode cX5_sumOfThrows 1 = .ok (.istore_n 1, 1) := by decide +kernel
theorem dX5_sumOfThrows_2 : decode cX5_sumOfThrows 2 = .ok (.iconst 0, 1) := by decide +kernel
theorem dX5_sumOfThrows_3 : decode cX5_sumOfThrows 3 = .ok (.istore_n 2, 1) := by decide +kernel
theorem dX5_sumOfThrows_4 : decode cX5_sumOfThrows 4 = .ok (.iload_n 2, 1) := by decide +kernel
theorem dX5_sumOfThrows_5 : decode cX5_sumOfThrows 5 = .ok (.aload_n 0, 1) := by decide +kernel
theorem dX5_sumOfThrows_6 : decode cX5_sumOfThrows 6 = .ok (.getfield 18, 3) := by decide +kernel
theorem dX5_sumOfThrows_9 : decode cX5_sumOfThrows 9 = .ok (.if_icmp .ge 26, 3) := by decide +kernel
theorem dX5_sumOfThrows_12 : decode cX5_sumOfThrows 12 = .ok (.aload_n 0, 1) := by decide +kernel
theorem dX5_sumOfThrows_13 : decode cX5_sumOfThrows 13 = .ok (.iload_n 2, 1) := by decide +kernel
theorem dX5_sumOfThrows_14 : decode cX5_sumOfThrows 14 = .ok (.invokevirtual 47, 3) := by decide +kernel
theorem dX5_sumOfThrows_17 : decode cX5_sumOfThrows 17 = .ok (.astore_n 3, 1) := by decide +kernel
theorem dX5_sumOfThrows_18 : decode cX5_sumOfThrows 18 = .ok (.aload_n 3, 1) := by decide +kernel
theorem dX5_sumOfThrows_19 : decode cX5_sumOfThrows 19 = .ok (.ifnull 10, 3) := by decide +kernel
theorem dX5_sumOfThrows_22 : decode cX5_sumOfThrows 22 = .ok (.iload_n 1, 1) := by decide +kernel
theorem dX5_sumOfThrows_23 : decode cX5_sumOfThrows 23 = .ok (.aload_n 3, 1) := by decide +kernel
theorem dX5_sumOfThrows_24 : decode cX5_sumOfThrows 24 = .ok (.invokevirtual 81, 3) := by decide +kernel
theorem dX5_sumOfThrows_27 : decode cX5_sumOfThrows 27 = .ok (.iadd, 1) := by decide +kernel
theorem dX5_sumOfThrows_28 : decode cX5_sumOfThrows 28 = .ok (.istore_n 1, 1) := by decide +kernel
theorem dX5_sumOfThrows_29 : decode cX5_sumOfThrows 29 = .ok (.iinc 2 1, 3) := by decide +kernel
theorem dX5_sumOfThrows_32 : decode cX5_sumOfThrows 32 = .ok (.goto (-28), 3) := by decide +kernel
theorem dX5_sumOfThrows_35 : decode cX5_sumOfThrows 35 = .ok (.iload_n 1, 1) := by decide +kernel
theorem dX5_sumOfThrows_36 : decode cX5_sumOfThrows 36 = .ok (.ireturn, 1) := by decide +kernel
theorem dX6_init_0 : decode cX6_init 0 = .ok (.aload_n 0, 1) := by decide +kernel
theorem dX6_init_1 : decode cX6_init 1 = .ok (.invokespecial 3, 3) := by decide +kernel
theorem dX6_init_4 : decode cX6_init 4 = .ok (.aload_n 0, 1) := by decide +kernel
theorem dX6_init_5 : decode cX6_init 5 = .ok (.bipush 70, 2) := by decide +kernel
theorem dX6_init_7 : decode cX6_init 7 = .ok (.newarray .char, 2) := by decide +kernel
theorem dX6_init_9 : decode cX6_init 9 = .ok (.putfield 9, 3) := by decide +kernel
theorem dX6_init_12 : decode cX6_init 12 = .ok (.return_, 1) := by decide +kernel
theorem dX6_clear_0 : decode cX6_clear 0 = .ok (.aload_n 0, 1) := by decide +kernel
theorem dX6_clear_1 : decode cX6_clear 1 = .ok (.iconst 0, 1) := by decide +kernel
theorem dX6_clear_2 : decode cX6_clear 2 = .ok (.putfield 15, 3) := by decide +kernel
theorem dX6_clear_5 : decode cX6_clear 5 = .ok (.return_, 1) := by decide +kernel
theorem dX6_put_0 : decode cX6_put 0 = .ok (.iload_n 1, 1) := by decide +kernel
theorem dX6_put_1 : decode cX6_put 1 = .ok (.bipush 32, 2) := by decide +kernel
theorem dX6_put_3 : decode cX6_put 3 = .ok (.if_icmp .lt 28, 3) := by decide +kernel
theorem dX6_put_6 : decode cX6_put 6 = .ok (.iload_n 1, 1) := by decide +kernel
theorem dX6_put_7 : decode cX6_put 7 = .ok (.bipush 126, 2) := by decide +kernel
theorem dX6_put_9 : decode cX6_put 9 = .ok (.if_icmp .gt 22, 3) := by decide +kernel
theorem dX6_put_12 : decode cX6_put 12 = .ok (.aload_n 0, 1) := by decide +kernel
theorem dX6_put_13 : decode cX6_put 13 = .ok (.getfield 15, 3) := by decide +kernel
theorem dX6_put_16 : decode cX6_put 16 = .ok (.ifCond .lt 15, 3) := by decide +kernel
theorem dX6_put_19 : decode cX6_put 19 = .ok (.aload_n 0, 1) := by decide +kernel
theorem dX6_put_20 : decode cX6_put 20 = .ok (.getfield 15, 3) := by decide +kernel
theorem dX6_put_23 : decode cX6_put 23 = .ok (.aload_n 0, 1) := by decide +kernel
theorem dX6_put_24 : decode cX6_put 24 = .ok (.getfield 9, 3) := by decide +kernel
theorem dX6_put_27 : decode cX6_put 27 = .ok (.arraylength, 1) := by decide +kernel
theorem dX6_put_28 : decode cX6_put 28 = .ok (.if_icmp .lt 5, 3) := by decide +kernel
theorem dX6_put_31 : decode cX6_put 31 = .ok (.iconst 0, 1) := by decide +kernel
theorem dX6_put_32 : decode cX6_put 32 = .ok (.ireturn, 1) := by decide +kernel
theorem dX6_put_33 : decode cX6_put 33 = .ok (.aload_n 0, 1) := by decide +kernel
theorem dX6_put_34 : decode cX6_put 34 = .ok (.getfield 9, 3) := by decide +kernel
theorem dX6_put_37 : decode cX6_put 37 = .ok (.aload_n 0, 1) := by decide +kernel
theorem dX6_put_38 : decode cX6_put 38 = .ok (.getfield 15, 3) := by decide +kernel
theorem dX6_put_41 : decode cX6_put 41 = .ok (.iload_n 1, 1) := by decide +kernel
theorem dX6_put_42 : decode cX6_put 42 = .ok (.i2c, 1) := by decide +kernel
theorem dX6_put_43 : decode cX6_put 43 = .ok (.castore, 1) := by decide +kernel
theorem dX6_put_44 : decode cX6_put 44 = .ok (.aload_n 0, 1) := by decide +kernel
theorem dX6_put_45 : decode cX6_put 45 = .ok (.dup, 1) := by decide +kernel
theorem dX6_put_46 : decode cX6_put 46 = .ok (.getfield 15, 3) := by decide +kernel
theorem dX6_put_49 : decode cX6_put 49 = .ok (.iconst 1, 1) := by decide +kernel
theorem dX6_put_50 : decode cX6_put 50 = .ok (.iadd, 1) := by decide +kernel
theorem dX6_put_51 : decode cX6_put 51 = .ok (.putfield 15, 3) := by decide +kernel
theorem dX6_put_54 : decode cX6_put 54 = .ok (.iconst 1, 1) := by decide +kernel
theorem dX6_put_55 : decode cX6_put 55 = .ok (.ireturn, 1) := by decide +kernel
theorem dX6_codeAt_0 : decode cX6_codeAt 0 = .ok (.iload_n 1, 1) := by decide +kernel
theorem dX6_codeAt_1 : decode cX6_codeAt 1 = .ok (.ifCond .lt 29, 3) := by decide +kernel
theorem dX6_codeAt_4 : decode cX6_codeAt 4 = .ok (.iload_n 1, 1) := by decide +kernel
theorem dX6_codeAt_5 : decode cX6_codeAt 5 = .ok (.aload_n 0, 1) := by decide +kernel
theorem dX6_codeAt_6 : decode cX6_codeAt 6 = .ok (.getfield 15, 3) := by decide +kernel
theorem dX6_codeAt_9 : decode cX6_codeAt 9 = .ok (.if_icmp .ge 21, 3) := by decide +kernel
theorem dX6_codeAt_12 : decode cX6_codeAt 12 = .ok (.iload_n 1, 1) := by decide +kernel
theorem dX6_codeAt_13 : decode cX6_codeAt 13 = .ok (.aload_n 0, 1) := by decide +kernel
theorem dX6_codeAt_14 : decode cX6_codeAt 14 = .ok (.getfield 9, 3) := by decide +kernel
theorem dX6_codeAt_17 : decode cX6_codeAt 17 = .ok (.arraylength, 1) := by decide +kernel
theorem dX6_codeAt_18 : decode cX6_codeAt 18 = .ok (.if_icmp .ge 12, 3) := by decide +kernel
theorem dX6_codeAt_21 : decode cX6_codeAt 21 = .ok (.aload_n 0, 1) := by decide +kernel
theorem dX6_codeAt_22 : decode cX6_codeAt 22 = .ok (.getfield 9, 3) := by decide +kernel
theorem dX6_codeAt_25 : decode cX6_codeAt 25 = .ok (.iload_n 1, 1) := by decide +kernel
theorem dX6_codeAt_26 : decode cX6_codeAt 26 = .ok (.caload, 1) := by decide +kernel
theorem dX6_codeAt_27 : decode cX6_codeAt 27 = .ok (.goto 4, 3) := by decide +kernel
theorem dX6_codeAt_30 : decode cX6_codeAt 30 = .ok (.iconst (-1), 1) := by decide +kernel
theorem dX6_codeAt_31 : decode cX6_codeAt 31 = .ok (.ireturn, 1) := by decide +kernel
theorem dX6_digitAt_0 : decode cX6_digitAt 0 = .ok (.aload_n 0, 1) := by decide +kernel
theorem dX6_digitAt_1 : decode cX6_digitAt 1 = .ok (.iload_n 1, 1) := by decide +kernel
theorem dX6_digitAt_2 : decode cX6_digitAt 2 = .ok (.invokevirtual 19, 3) := by decide +kernel
theorem dX6_digitAt_5 : decode cX6_digitAt 5 = .ok (.istore_n 2, 1) := by decide +kernel
theorem dX6_digitAt_6 : decode cX6_digitAt 6 = .ok (.iload_n 2, 1) := by decide +kernel
theorem dX6_digitAt_7 : decode cX6_digitAt 7 = .ok (.bipush 48, 2) := by decide +kernel
theorem dX6_digitAt_9 : decode cX6_digitAt 9 = .ok (.if_icmp .lt 16, 3) := by decide +kernel
theorem dX6_digitAt_12 : decode cX6_digitAt 12 = .ok (.iload_n 2, 1) := by decide +kernel
theorem dX6_digitAt_13 : decode cX6_digitAt 13 = .ok (.bipush 57, 2) := by decide +kernel
theorem dX6_digitAt_15 : decode cX6_digitAt 15 = .ok (.if_icmp .gt 10, 3) := by decide +kernel
theorem dX6_digitAt_18 : decode cX6_digitAt 18 = .ok (.iload_n 2, 1) := by decide +kernel
theorem dX6_digitAt_19 : decode cX6_digitAt 19 = .ok (.bipush 48, 2) := by decide +kernel
theorem dX6_digitAt_21 : decode cX6_digitAt 21 = .ok (.isub, 1) := by decide +kernel
theorem dX6_digitAt_22 : decode cX6_digitAt 22 = .ok (.goto 4, 3) := by decide +kernel
theorem dX6_digitAt_25 : decode cX6_digitAt 25 = .ok (.iconst (-1), 1) := by decide +kernel
theorem dX6_digitAt_26 : decode cX6_digitAt 26 = .ok (.ireturn, 1) := by decide +kernel
theorem dX6_digitsFrom_0 : decode cX6_digitsFrom 0 = .ok (.iconst 0, 1) := by decide +kernel
theorem dX6_digitsFrom_1 : decode cX6_digitsFrom 1 = .ok (.istore_n 3, 1) := by decide +kernel
theorem dX6_digitsFrom_2 : decode cX6_digitsFrom 2 = .ok (.iload_n 3, 1) := by decide +kernel
theorem dX6_digitsFrom_3 : decode cX6_digitsFrom 3 = .ok (.iload_n 2, 1) := by decide +kernel
theorem dX6_digitsFrom_4 : decode cX6_digitsFrom 4 = .ok (.if_icmp .ge 20, 3) := by decide +kernel
theorem dX6_digitsFrom_7 : decode cX6_digitsFrom 7 = .ok (.aload_n 0, 1) := by decide +kernel
theorem dX6_digitsFrom_8 : decode cX6_digitsFrom 8 = .ok (.iload_n 1, 1) := by decide +kernel
theorem dX6_digitsFrom_9 : decode cX6_digitsFrom 9 = .ok (.iload_n 3, 1) := by decide +kernel
theorem dX6_digitsFrom_10 : decode cX6_digitsFrom 10 = .ok (.iadd, 1) := by decide +kernel
theorem dX6_digitsFrom_11 : decode cX6_digitsFrom 11 = .ok (.invokevirtual 23, 3) := by decide +kernel
theorem dX6_digitsFrom_14 : decode cX6_digitsFrom 14 = .ok (.iconst (-1), 1) := by decide +kernel
theorem dX6_digitsFrom_15 : decode cX6_digitsFrom 15 = .ok (.if_icmp .eq 9, 3) := by decide +kernel
theorem dX6_digitsFrom_18 : decode cX6_digitsFrom 18 = .ok (.iinc 3 1, 3) := by decide +kernel
theorem dX6_digitsFrom_21 : decode cX6_digitsFrom 21 = .ok (.goto (-19), 3) := by decide +kernel
theorem dX6_digitsFrom_24 : decode cX6_digitsFrom 24 = .ok (.iload_n 3, 1) := by decide +kernel
theorem dX6_digitsFrom_25 : decode cX6_digitsFrom 25 = .ok (.ireturn, 1) := by decide +kernel
theorem dX6_digitsBehind_0 : decode cX6_digitsBehind 0 = .ok (.iload_n 0, 1) := by decide +kernel
theorem dX6_digitsBehind_1 : decode cX6_digitsBehind 1 = .ok (.tableswitch 111 98 120 #[107, 107, 111, 111, 111, 111, 111, 111, 107, 111, 107, 111, 111, 111, 111, 111, 107, 109, 107, 111, 111, 111, 107], 107) := by decide +kernel
theorem dX6_digitsBehind_108 : decode cX6_digitsBehind 108 = .ok (.iconst 1, 1) := by decide +kernel
theorem dX6_digitsBehind_109 : decode cX6_digitsBehind 109 = .ok (.ireturn, 1) := by decide +kernel
theorem dX6_digitsBehind_110 : decode cX6_digitsBehind 110 = .ok (.iconst 3, 1) := by decide +kernel
theorem dX6_digitsBehind_111 : decode cX6_digitsBehind 111 = .ok (.ireturn, 1) := by decide +kernel
theorem dX6_digitsBehind_112 : decode cX6_digitsBehind 112 = .ok (.iconst 0, 1) := by decide +kernel
theorem dX6_digitsBehind_113 : decode cX6_digitsBehind 113 = .ok (.ireturn, 1) := by decide +kernel
theorem dX6_faultPosition_0 : decode cX6_faultPosition 0 = .ok (.iconst 0, 1) := by decide +kernel
theorem dX6_faultPosition_1 : decode cX6_faultPosition 1 = .ok (.istore_n 1, 1) := by decide +kernel
theorem dX6_faultPosition_2 : decode cX6_faultPosition 2 = .ok (.iconst 0, 1) := by decide +kernel
theorem dX6_faultPosition_3 : decode cX6_faultPosition 3 = .ok (.istore_n 2, 1) := by decide +kernel
theorem dX6_faultPosition_4 : decode cX6_faultPosition 4 = .ok (.iload_n 2, 1) := by decide +kernel
theorem dX6_faultPosition_5 : decode cX6_faultPosition 5 = .ok (.bipush 70, 2) := by decide +kernel
theorem dX6_faultPosition_7 : decode cX6_faultPosition 7 = .ok (.if_icmp .gt 95, 3) := by decide +kernel
theorem dX6_faultPosition_10 : decode cX6_faultPosition 10 = .ok (.aload_n 0, 1) := by decide +kernel
theorem dX6_faultPosition_11 : decode cX6_faultPosition 11 = .ok (.iload_n 1, 1) := by decide +kernel
theorem dX6_faultPosition_12 : decode cX6_faultPosition 12 = .ok (.invokevirtual 19, 3) := by decide +kernel
theorem dX6_faultPosition_15 : decode cX6_faultPosition 15 = .ok (.invokestatic 26, 3) := by decide +kernel
theorem dX6_faultPosition_18 : decode cX6_faultPosition 18 = .ok (.istore_n 3, 1) := by decide +kernel
theorem dX6_faultPosition_19 : decode cX6_faultPosition 19 = .ok (.iload_n 3, 1) := by decide +kernel
theorem dX6_faultPosition_20 : decode cX6_faultPosition 20 = .ok (.ifCond .le 7, 3) := by decide +kernel
theorem dX6_faultPosition_23 : decode cX6_faultPosition 23 = .ok (.iconst 1, 1) := by decide +kernel
theorem dX6_faultPosition_24 : decode cX6_faultPosition 24 = .ok (.goto 4, 3) := by decide +kernel
theorem dX6_faultPosition_27 : decode cX6_faultPosition 27 = .ok (.iconst 0, 1) := by decide +kernel
theorem dX6_faultPosition_28 : decode cX6_faultPosition 28 = .ok (.istore 4, 2) := by decide +kernel
theorem dX6_faultPosition_30 : decode cX6_faultPosition 30 = .ok (.aload_n 0, 1) := by decide +kernel
theorem dX6_faultPosition_31 : decode cX6_faultPosition 31 = .ok (.iload_n 1, 1) := by decide +kernel
theorem dX6_faultPosition_32 : decode cX6_faultPosition 32 = .ok (.iload 4, 2) := by decide +kernel
theorem dX6_faultPosition_34 : decode cX6_faultPosition 34 = .ok (.iadd, 1) := by decide +kernel
theorem dX6_faultPosition_35 : decode cX6_faultPosition 35 = .ok (.iload_n 3, 1) := by decide +kernel
theorem dX6_faultPosition_36 : decode cX6_faultPosition 36 = .ok (.ifCond .le 7, 3) := by decide +kernel
theorem dX6_faultPosition_39 : decode cX6_faultPosition 39 = .ok (.iload_n 3, 1) := by decide +kernel
theorem dX6_faultPosition_40 : decode cX6_faultPosition 40 = .ok (.goto 5, 3) := by decide +kernel
theorem dX6_faultPosition_43 : decode cX6_faultPosition 43 = .ok (.bipush 8, 2) := by decide +kernel
theorem dX6_faultPosition_45 : decode cX6_faultPosition 45 = .ok (.invokevirtual 29, 3) := by decide +kernel
theorem dX6_faultPosition_48 : decode cX6_faultPosition 48 = .ok (.istore 5, 2) := by decide +kernel
theorem dX6_faultPosition_50 : decode cX6_faultPosition 50 = .ok (.iload_n 1, 1) := by decide +kernel
theorem dX6_faultPosition_51 : decode cX6_faultPosition 51 = .ok (.iload 4, 2) := by decide +kernel
theorem dX6_faultPosition_53 : decode cX6_faultPosition 53 = .ok (.iload 5, 2) := by decide +kernel
theorem dX6_faultPosition_55 : decode cX6_faultPosition 55 = .ok (.iadd, 1) := by decide +kernel
theorem dX6_faultPosition_56 : decode cX6_faultPosition 56 = .ok (.iadd, 1) := by decide +kernel
theorem dX6_faultPosition_57 : decode cX6_faultPosition 57 = .ok (.istore_n 1, 1) := by decide +kernel
theorem dX6_faultPosition_58 : decode cX6_faultPosition 58 = .ok (.iload 5, 2) := by decide +kernel
theorem dX6_faultPosition_60 : decode cX6_faultPosition 60 = .ok (.ifCond .eq 9, 3) := by decide +kernel
theorem dX6_faultPosition_63 : decode cX6_faultPosition 63 = .ok (.iload 5, 2) := by decide +kernel
theorem dX6_faultPosition_65 : decode cX6_faultPosition 65 = .ok (.iload_n 3, 1) := by decide +kernel
theorem dX6_faultPosition_66 : decode cX6_faultPosition 66 = .ok (.if_icmp .ge 5, 3) := by decide +kernel
theorem dX6_faultPosition_69 : decode cX6_faultPosition 69 = .ok (.iload_n 1, 1) := by decide +kernel
theorem dX6_faultPosition_70 : decode cX6_faultPosition 70 = .ok (.ireturn, 1) := by decide +kernel
theorem dX6_faultPosition_71 : decode cX6_faultPosition 71 = .ok (.iload_n 1, 1) := by decide +kernel
theorem dX6_faultPosition_72 : decode cX6_faultPosition 72 = .ok (.aload_n 0, 1) := by decide +kernel
theorem dX6_faultPosition_73 : decode cX6_faultPosition 73 = .ok (.getfield 15, 3) := by decide +kernel
theorem dX6_faultPosition_76 : decode cX6_faultPosition 76 = .ok (.if_icmp .ne 5, 3) := by decide +kernel
theorem dX6_faultPosition_79 : decode cX6_faultPosition 79 = .ok (.iconst (-1), 1) := by decide +kernel
theorem dX6_faultPosition_80 : decode cX6_faultPosition 80 = .ok (.ireturn, 1) := by decide +kernel
theorem dX6_faultPosition_81 : decode cX6_faultPosition 81 = .ok (.aload_n 0, 1) := by decide +kernel
theorem dX6_faultPosition_82 : decode cX6_faultPosition 82 = .ok (.iload_n 1, 1) := by decide +kernel
theorem dX6_faultPosition_83 : decode cX6_faultPosition 83 = .ok (.invokevirtual 19, 3) := by decide +kernel
theorem dX6_faultPosition_86 : decode cX6_faultPosition 86 = .ok (.bipush 59, 2) := by decide +kernel
theorem dX6_faultPosition_88 : decode cX6_faultPosition 88 = .ok (.if_icmp .eq 5, 3) := by decide +kernel
theorem dX6_faultPosition_91 : decode cX6_faultPosition 91 = .ok (.iload_n 1, 1) := by decide +kernel
theorem dX6_faultPosition_92 : decode cX6_faultPosition 92 = .ok (.ireturn, 1) := by decide +kernel
theorem dX6_faultPosition_93 : decode cX6_faultPosition 93 = .ok (.iinc 1 1, 3) := by decide +kernel
theorem dX6_faultPosition_96 : decode cX6_faultPosition 96 = .ok (.iinc 2 1, 3) := by decide +kernel
theorem dX6_faultPosition_99 : decode cX6_faultPosition 99 = .ok (.goto (-95), 3) := by decide +kernel
theorem dX6_faultPosition_102 : decode cX6_faultPosition 102 = .ok (.iload_n 1, 1) := by decide +kernel
theorem dX6_faultPosition_103 : decode cX6_faultPosition 103 = .ok (.ireturn, 1) := by decide +kernel
theorem dX6_endOfCommand_0 : decode cX6_endOfCommand 0 = .ok (.iload_n 1, 1) := by decide +kernel
theorem dX6_endOfCommand_1 : decode cX6_endOfCommand 1 = .ok (.istore_n 2, 1) := by decide +kernel
theorem dX6_endOfCommand_2 : decode cX6_endOfCommand 2 = .ok (.iload_n 2, 1) := by decide +kernel
theorem dX6_endOfCommand_3 : decode cX6_endOfCommand 3 = .ok (.aload_n 0, 1) := by decide +kernel
theorem dX6_endOfCommand_4 : decode cX6_endOfCommand 4 = .ok (.getfield 15, 3) := by decide +kernel
theorem dX6_endOfCommand_7 : decode cX6_endOfCommand 7 = .ok (.if_icmp .ge 19, 3) := by decide +kernel
theorem dX6_endOfCommand_10 : decode cX6_endOfCommand 10 = .ok (.aload_n 0, 1) := by decide +kernel
theorem dX6_endOfCommand_11 : decode cX6_endOfCommand 11 = .ok (.iload_n 2, 1) := by decide +kernel
theorem dX6_endOfCommand_12 : decode cX6_endOfCommand 12 = .ok (.invokevirtual 19, 3) := by decide +kernel
theorem dX6_endOfCommand_15 : decode cX6_endOfCommand 15 = .ok (.bipush 59, 2) := by decide +kernel
theorem dX6_endOfCommand_17 : decode cX6_endOfCommand 17 = .ok (.if_icmp .eq 9, 3) := by decide +kernel
theorem dX6_endOfCommand_20 : decode cX6_endOfCommand 20 = .ok (.iinc 2 1, 3) := by decide +kernel
theorem dX6_endOfCommand_23 : decode cX6_endOfCommand 23 = .ok (.goto (-21), 3) := by decide +kernel
theorem dX6_endOfCommand_26 : decode cX6_endOfCommand 26 = .ok (.iload_n 2, 1) := by decide +kernel
theorem dX6_endOfCommand_27 : decode cX6_endOfCommand 27 = .ok (.ireturn, 1) := by decide +kernel
theorem dX6_numberAt_0 : decode cX6_numberAt 0 = .ok (.iconst 0, 1) := by decide +kernel
theorem dX6_numberAt_1 : decode cX6_numberAt 1 = .ok (.istore_n 2, 1) := by decide +kernel
theorem dX6_numberAt_2 : decode cX6_numberAt 2 = .ok (.aload_n 0, 1) := by decide +kernel
theorem dX6_numberAt_3 : decode cX6_numberAt 3 = .ok (.iload_n 1, 1) := by decide +kernel
theorem dX6_numberAt_4 : decode cX6_numberAt 4 = .ok (.bipush 8, 2) := by decide +kernel
theorem dX6_numberAt_6 : decode cX6_numberAt 6 = .ok (.invokevirtual 29, 3) := by decide +kernel
theorem dX6_numberAt_9 : decode cX6_numberAt 9 = .ok (.istore_n 3, 1) := by decide +kernel
theorem dX6_numberAt_10 : decode cX6_numberAt 10 = .ok (.iconst 0, 1) := by decide +kernel
theorem dX6_numberAt_11 : decode cX6_numberAt 11 = .ok (.istore 4, 2) := by decide +kernel
theorem dX6_numberAt_13 : decode cX6_numberAt 13 = .ok (.iload 4, 2) := by decide +kernel
theorem dX6_numberAt_15 : decode cX6_numberAt 15 = .ok (.iload_n 3, 1) := by decide +kernel
theorem dX6_numberAt_16 : decode cX6_numberAt 16 = .ok (.if_icmp .ge 23, 3) := by decide +kernel
theorem dX6_numberAt_19 : decode cX6_numberAt 19 = .ok (.iload_n 2, 1) := by decide +kernel
theorem dX6_numberAt_20 : decode cX6_numberAt 20 = .ok (.bipush 10, 2) := by decide +kernel
theorem dX6_numberAt_22 : decode cX6_numberAt 22 = .ok (.imul, 1) := by decide +kernel
theorem dX6_numberAt_23 : decode cX6_numberAt 23 = .ok (.aload_n 0, 1) := by decide +kernel
theorem dX6_numberAt_24 : decode cX6_numberAt 24 = .ok (.iload_n 1, 1) := by decide +kernel
theorem dX6_numberAt_25 : decode cX6_numberAt 25 = .ok (.iload 4, 2) := by decide +kernel
theorem dX6_numberAt_27 : decode cX6_numberAt 27 = .ok (.iadd, 1) := by decide +kernel
theorem dX6_numberAt_28 : decode cX6_numberAt 28 = .ok (.invokevirtual 23, 3) := by decide +kernel
theorem dX6_numberAt_31 : decode cX6_numberAt 31 = .ok (.iadd, 1) := by decide +kernel
theorem dX6_numberAt_32 : decode cX6_numberAt 32 = .ok (.istore_n 2, 1) := by decide +kernel
theorem dX6_numberAt_33 : decode cX6_numberAt 33 = .ok (.iinc 4 1, 3) := by decide +kernel
theorem dX6_numberAt_36 : decode cX6_numberAt 36 = .ok (.goto (-23), 3) := by decide +kernel
theorem dX6_numberAt_39 : decode cX6_numberAt 39 = .ok (.iload_n 2, 1) := by decide +kernel
theorem dX6_numberAt_40 : decode cX6_numberAt 40 = .ok (.ireturn, 1) := by decide +kernel
theorem dJ11_isValidCodePoint_9a6ad_0 : decode cJ11_isValidCodePoint_9a6ad 0 = .ok (.iload_n 0, 1) := by decide +kernel
theorem dJ11_isValidCodePoint_9a6ad_1 : decode cJ11_isValidCodePoint_9a6ad 1 = .ok (.bipush 16, 2) := by decide +kernel
theorem dJ11_isValidCodePoint_9a6ad_3 : decode cJ11_isValidCodePoint_9a6ad 3 = .ok (.iushr, 1) := by decide +kernel
theorem dJ11_isValidCodePoint_9a6ad_4 : decode cJ11_isValidCodePoint_9a6ad 4 = .ok (.istore_n 1, 1) := by decide +kernel
theorem dJ11_isValidCodePoint_9a6ad_5 : decode cJ11_isValidCodePoint_9a6ad 5 = .ok (.iload_n 1, 1) := by decide +kernel
theorem dJ11_isValidCodePoint_9a6ad_6 : decode cJ11_isValidCodePoint_9a6ad 6 = .ok (.bipush 17, 2) := by decide +kernel
theorem dJ11_isValidCodePoint_9a6ad_8 : decode cJ11_isValidCodePoint_9a6ad 8 = .ok (.if_icmp .ge 7, 3) := by decide +kernel
theorem dJ11_isValidCodePoint_9a6ad_11 : decode cJ11_isValidCodePoint_9a6ad 11 = .ok (.iconst 1, 1) := by decide +kernel
theorem dJ11_isValidCodePoint_9a6ad_12 : decode cJ11_isValidCodePoint_9a6ad 12 = .ok (.goto 4, 3) := by decide +kernel
theorem dJ11_isValidCodePoint_9a6ad_15 : decode cJ11_isValidCodePoint_9a6ad 15 = .ok (.iconst 0, 1) := by decide +kernel
theorem dJ11_isValidCodePoint_9a6ad_16 : decode cJ11_isValidCodePoint_9a6ad 16 = .ok (.ireturn, 1) := by decide +kernel
theorem dJ11_highSurrogate_5068e_0 : decode cJ11_highSurrogate_5068e 0 = .ok (.iload_n 0, 1) := by decide +kernel
theorem dJ11_highSurrogate_5068e_1 : decode cJ11_highSurrogate_5068e 1 = .ok (.bipush 10, 2) := by decide +kernel
theorem dJ11_highSurrogate_5068e_3 : decode cJ11_highSurrogate_5068e 3 = .ok (.iushr, 1) := by decide +kernel
theorem dJ11_highSurrogate_5068e_4 : decode cJ11_highSurrogate_5068e 4 = .ok (.ldc 110, 2) := by decide +kernel
theorem dJ11_highSurrogate_5068e_6 : decode cJ11_highSurrogate_5068e 6 = .ok (.iadd, 1) := by decide +kernel
theorem dJ11_highSurrogate_5068e_7 : decode cJ11_highSurrogate_5068e 7 = .ok (.i2c, 1) := by decide +kernel
theorem dJ11_highSurrogate_5068e_8 : decode cJ11_highSurrogate_5068e 8 = .ok (.ireturn, 1) := by decide +kernel
theorem dJ11_lowSurrogate_5068e_0 : decode cJ11_lowSurrogate_5068e 0 = .ok (.iload_n 0, 1) := by decide +kernel
theorem dJ11_lowSurrogate_5068e_1 : decode cJ11_lowSurrogate_5068e 1 = .ok (.sipush 1023, 3) := by decide +kernel
theorem dJ11_lowSurrogate_5068e_4 : decode cJ11_lowSurrogate_5068e 4 = .ok (.iand, 1) := by decide +kernel
theorem dJ11_lowSurrogate_5068e_5 : decode cJ11_lowSurrogate_5068e 5 = .ok (.ldc 76, 2) := by decide +kernel
theorem dJ11_lowSurrogate_5068e_7 : decode cJ11_lowSurrogate_5068e 7 = .ok (.iadd, 1) := by decide +kernel
theorem dJ11_lowSurrogate_5068e_8 : decode cJ11_lowSurrogate_5068e 8 = .ok (.i2c, 1) := by decide +kernel
theorem dJ11_lowSurrogate_5068e_9 : decode cJ11_lowSurrogate_5068e 9 = .ok (.ireturn, 1) := by decide +kernel
theorem dJxf58ca_isNaN_12338_0 : decode cJxf58ca_isNaN_12338 0 = .ok (.fload_n 0, 1) := by decide +kernel
theorem dJxf58ca_isNaN_12338_1 : decode cJxf58ca_isNaN_12338 1 = .ok (.fload_n 0, 1) := by decide +kernel
theorem dJxf58ca_isNaN_12338_2 : decode cJxf58ca_isNaN_12338 2 = .ok (.fcmp .l, 1) := by decide +kernel
theorem dJxf58ca_isNaN_12338_3 : decode cJxf58ca_isNaN_12338 3 = .ok (.ifCond .eq 7, 3) := by decide +kernel
theorem dJxf58ca_isNaN_12338_6 : decode cJxf58ca_isNaN_12338 6 = .ok (.iconst 1, 1) := by decide +kernel
theorem dJxf58ca_isNaN_12338_7 : decode cJxf58ca_isNaN_12338 7 = .ok (.goto 4, 3) := by decide +kernel
theorem dJxf58ca_isNaN_12338_10 : decode cJxf58ca_isNaN_12338 10 = .ok (.iconst 0, 1) := by decide +kernel
theorem dJxf58ca_isNaN_12338_11 : decode cJxf58ca_isNaN_12338 11 = .ok (.ireturn, 1) := by decide +kernel
theorem dJxf58ca_floatToIntBits_5c35a_0 : decode cJxf58ca_floatToIntBits_5c35a 0 = .ok (.fload_n 0, 1) := by decide +kernel
theorem dJxf58ca_floatToIntBits_5c35a_1 : decode cJxf58ca_floatToIntBits_5c35a 1 = .ok (.invokestatic 59, 3) := by decide +kernel
theorem dJxf58ca_floatToIntBits_5c35a_4 : decode cJxf58ca_floatToIntBits_5c35a 4 = .ok (.ifCond .ne 8, 3) := by decide +kernel
theorem dJxf58ca_floatToIntBits_5c35a_7 : decode cJxf58ca_floatToIntBits_5c35a 7 = .ok (.fload_n 0, 1) := by decide +kernel
theorem dJxf58ca_floatToIntBits_5c35a_8 : decode cJxf58ca_floatToIntBits_5c35a 8 = .ok (.invokestatic 74, 3) := by decide +kernel
theorem dJxf58ca_floatToIntBits_5c35a_11 : decode cJxf58ca_floatToIntBits_5c35a 11 = .ok (.ireturn, 1) := by decide +kernel
theorem dJxf58ca_floatToIntBits_5c35a_12 : decode cJxf58ca_floatToIntBits_5c35a 12 = .ok (.ldc 77, 2) := by decide +kernel
theorem dJxf58ca_floatToIntBits_5c35a_14 : decode cJxf58ca_floatToIntBits_5c35a 14 = .ok (.ireturn, 1) := by decide +kernel
theorem dJ6_bitCount_0f7a4_0 : decode cJ6_bitCount_0f7a4 0 = .ok (.iload_n 0, 1) := by decide +kernel
theorem dJ6_bitCount_0f7a4_1 : decode cJ6_bitCount_0f7a4 1 = .ok (.iload_n 0, 1) := by decide +kernel
theorem dJ6_bitCount_0f7a4_2 : decode cJ6_bitCount_0f7a4 2 = .ok (.iconst 1, 1) := by decide +kernel
theorem dJ6_bitCount_0f7a4_3 : decode cJ6_bitCount_0f7a4 3 = .ok (.iushr, 1) := by decide +kernel
theorem dJ6_bitCount_0f7a4_4 : decode cJ6_bitCount_0f7a4 4 = .ok (.ldc_w 265, 3) := by decide +kernel
theorem dJ6_bitCount_0f7a4_7 : decode cJ6_bitCount_0f7a4 7 = .ok (.iand, 1) := by decide +kernel
theorem dJ6_bitCount_0f7a4_8 : decode cJ6_bitCount_0f7a4 8 = .ok (.isub, 1) := by decide +kernel
theorem dJ6_bitCount_0f7a4_9 : decode cJ6_bitCount_0f7a4 9 = .ok (.istore_n 0, 1) := by decide +kernel
theorem dJ6_bitCount_0f7a4_10 : decode cJ6_bitCount_0f7a4 10 = .ok (.iload_n 0, 1) := by decide +kernel
theorem dJ6_bitCount_0f7a4_11 : decode cJ6_bitCount_0f7a4 11 = .ok (.ldc_w 266, 3) := by decide +kernel
theorem dJ6_bitCount_0f7a4_14 : decode cJ6_bitCount_0f7a4 14 = .ok (.iand, 1) := by decide +kernel
theorem dJ6_bitCount_0f7a4_15 : decode cJ6_bitCount_0f7a4 15 = .ok (.iload_n 0, 1) := by decide +kernel
theorem dJ6_bitCount_0f7a4_16 : decode cJ6_bitCount_0f7a4 16 = .ok (.iconst 2, 1) := by decide +kernel
theorem dJ6_bitCount_0f7a4_17 : decode cJ6_bitCount_0f7a4 17 = .ok (.iushr, 1) := by decide +kernel
theorem dJ6_bitCount_0f7a4_18 : decode cJ6_bitCount_0f7a4 18 = .ok (.ldc_w 266, 3) := by decide +kernel
theorem dJ6_bitCount_0f7a4_21 : decode cJ6_bitCount_0f7a4 21 = .ok (.iand, 1) := by decide +kernel
theorem dJ6_bitCount_0f7a4_22 : decode cJ6_bitCount_0f7a4 22 = .ok (.iadd, 1) := by decide +kernel
theorem dJ6_bitCount_0f7a4_23 : decode cJ6_bitCount_0f7a4 23 = .ok (.istore_n 0, 1) := by decide +kernel
theorem dJ6_bitCount_0f7a4_24 : decode cJ6_bitCount_0f7a4 24 = .ok (.iload_n 0, 1) := by decide +kernel
theorem dJ6_bitCount_0f7a4_25 : decode cJ6_bitCount_0f7a4 25 = .ok (.iload_n 0, 1) := by decide +kernel
theorem dJ6_bitCount_0f7a4_26 : decode cJ6_bitCount_0f7a4 26 = .ok (.iconst 4, 1) := by decide +kernel
theorem dJ6_bitCount_0f7a4_27 : decode cJ6_bitCount_0f7a4 27 = .ok (.iushr, 1) := by decide +kernel
theorem dJ6_bitCount_0f7a4_28 : decode cJ6_bitCount_0f7a4 28 = .ok (.iadd, 1) := by decide +kernel
theorem dJ6_bitCount_0f7a4_29 : decode cJ6_bitCount_0f7a4 29 = .ok (.ldc_w 267, 3) := by decide +kernel
theorem dJ6_bitCount_0f7a4_32 : decode cJ6_bitCount_0f7a4 32 = .ok (.iand, 1) := by decide +kernel
theorem dJ6_bitCount_0f7a4_33 : decode cJ6_bitCount_0f7a4 33 = .ok (.istore_n 0, 1) := by decide +kernel
theorem dJ6_bitCount_0f7a4_34 : decode cJ6_bitCount_0f7a4 34 = .ok (.iload_n 0, 1) := by decide +kernel
theorem dJ6_bitCount_0f7a4_35 : decode cJ6_bitCount_0f7a4 35 = .ok (.iload_n 0, 1) := by decide +kernel
theorem dJ6_bitCount_0f7a4_36 : decode cJ6_bitCount_0f7a4 36 = .ok (.bipush 8, 2) := by decide +kernel
theorem dJ6_bitCount_0f7a4_38 : decode cJ6_bitCount_0f7a4 38 = .ok (.iushr, 1) := by decide +kernel
theorem dJ6_bitCount_0f7a4_39 : decode cJ6_bitCount_0f7a4 39 = .ok (.iadd, 1) := by decide +kernel
theorem dJ6_bitCount_0f7a4_40 : decode cJ6_bitCount_0f7a4 40 = .ok (.istore_n 0, 1) := by decide +kernel
theorem dJ6_bitCount_0f7a4_41 : decode cJ6_bitCount_0f7a4 41 = .ok (.iload_n 0, 1) := by decide +kernel
theorem dJ6_bitCount_0f7a4_42 : decode cJ6_bitCount_0f7a4 42 = .ok (.iload_n 0, 1) := by decide +kernel
theorem dJ6_bitCount_0f7a4_43 : decode cJ6_bitCount_0f7a4 43 = .ok (.bipush 16, 2) := by decide +kernel
theorem dJ6_bitCount_0f7a4_45 : decode cJ6_bitCount_0f7a4 45 = .ok (.iushr, 1) := by decide +kernel
theorem dJ6_bitCount_0f7a4_46 : decode cJ6_bitCount_0f7a4 46 = .ok (.iadd, 1) := by decide +kernel
theorem dJ6_bitCount_0f7a4_47 : decode cJ6_bitCount_0f7a4 47 = .ok (.istore_n 0, 1) := by decide +kernel
theorem dJ6_bitCount_0f7a4_48 : decode cJ6_bitCount_0f7a4 48 = .ok (.iload_n 0, 1) := by decide +kernel
theorem dJ6_bitCount_0f7a4_49 : decode cJ6_bitCount_0f7a4 49 = .ok (.bipush 63, 2) := by decide +kernel
theorem dJ6_bitCount_0f7a4_51 : decode cJ6_bitCount_0f7a4 51 = .ok (.iand, 1) := by decide +kernel
theorem dJ6_bitCount_0f7a4_52 : decode cJ6_bitCount_0f7a4 52 = .ok (.ireturn, 1) := by decide +kernel
theorem dJ9_max_7cf53_0 : decode cJ9_max_7cf53 0 = .ok (.iload_n 0, 1) := by decide +kernel
theorem dJ9_max_7cf53_1 : decode cJ9_max_7cf53 1 = .ok (.iload_n 1, 1) := by decide +kernel
theorem dJ9_max_7cf53_2 : decode cJ9_max_7cf53 2 = .ok (.if_icmp .lt 7, 3) := by decide +kernel
theorem dJ9_max_7cf53_5 : decode cJ9_max_7cf53 5 = .ok (.iload_n 0, 1) := by decide +kernel
theorem dJ9_max_7cf53_6 : decode cJ9_max_7cf53 6 = .ok (.goto 4, 3) := by decide +kernel
theorem dJ9_max_7cf53_9 : decode cJ9_max_7cf53 9 = .ok (.iload_n 1, 1) := by decide +kernel
theorem dJ9_max_7cf53_10 : decode cJ9_max_7cf53 10 = .ok (.ireturn, 1) := by decide +kernel
theorem dJ9_min_7cf53_0 : decode cJ9_min_7cf53 0 = .ok (.iload_n 0, 1) := by decide +kernel
theorem dJ9_min_7cf53_1 : decode cJ9_min_7cf53 1 = .ok (.iload_n 1, 1) := by decide +kernel
theorem dJ9_min_7cf53_2 : decode cJ9_min_7cf53 2 = .ok (.if_icmp .gt 7, 3) := by decide +kernel
theorem dJ9_min_7cf53_5 : decode cJ9_min_7cf53 5 = .ok (.iload_n 0, 1) := by decide +kernel
theorem dJ9_min_7cf53_6 : decode cJ9_min_7cf53 6 = .ok (.goto 4, 3) := by decide +kernel
theorem dJ9_min_7cf53_9 : decode cJ9_min_7cf53 9 = .ok (.iload_n 1, 1) := by decide +kernel
theorem dJ9_min_7cf53_10 : decode cJ9_min_7cf53 10 = .ok (.ireturn, 1) := by decide +kernel
theorem dJ0_length_8abf5_0 : decode cJ0_length_8abf5 0 = .ok (.aload_n 0, 1) := by decide +kernel
theorem dJ0_length_8abf5_1 : decode cJ0_length_8abf5 1 = .ok (.getfield 9, 3) := by decide +kernel
theorem dJ0_length_8abf5_4 : decode cJ0_length_8abf5 4 = .ok (.arraylength, 1) := by decide +kernel
theorem dJ0_length_8abf5_5 : decode cJ0_length_8abf5 5 = .ok (.aload_n 0, 1) := by decide +kernel
theorem dJ0_length_8abf5_6 : decode cJ0_length_8abf5 6 = .ok (.invokevirtual 335, 3) := by decide +kernel
theorem dJ0_length_8abf5_9 : decode cJ0_length_8abf5 9 = .ok (.ishr, 1) := by decide +kernel
theorem dJ0_length_8abf5_10 : decode cJ0_length_8abf5 10 = .ok (.ireturn, 1) := by decide +kernel
theorem dJ0_indexOf_0f7a4_0 : decode cJ0_indexOf_0f7a4 0 = .ok (.aload_n 0, 1) := by decide +kernel
theorem dJ0_indexOf_0f7a4_1 : decode cJ0_indexOf_0f7a4 1 = .ok (.iload_n 1, 1) := by decide +kernel
theorem dJ0_indexOf_0f7a4_2 : decode cJ0_indexOf_0f7a4 2 = .ok (.iconst 0, 1) := by decide +kernel
theorem dJ0_indexOf_0f7a4_3 : decode cJ0_indexOf_0f7a4 3 = .ok (.invokevirtual 633, 3) := by decide +kernel
theorem dJ0_indexOf_0f7a4_6 : decode cJ0_indexOf_0f7a4 6 = .ok (.ireturn, 1) := by decide +kernel
theorem dJ0_indexOf_7cf53_0 : decode cJ0_indexOf_7cf53 0 = .ok (.aload_n 0, 1) := by decide +kernel
theorem dJ0_indexOf_7cf53_1 : decode cJ0_indexOf_7cf53 1 = .ok (.invokevirtual 492, 3) := by decide +kernel
theorem dJ0_indexOf_7cf53_4 : decode cJ0_indexOf_7cf53 4 = .ok (.ifCond .eq 19, 3) := by decide +kernel
theorem dJ0_indexOf_7cf53_7 : decode cJ0_indexOf_7cf53 7 = .ok (.aload_n 0, 1) := by decide +kernel
theorem dJ0_indexOf_7cf53_8 : decode cJ0_indexOf_7cf53 8 = .ok (.getfield 9, 3) := by decide +kernel
theorem dJ0_indexOf_7cf53_11 : decode cJ0_indexOf_7cf53 11 = .ok (.iload_n 1, 1) := by decide +kernel
theorem dJ0_indexOf_7cf53_12 : decode cJ0_indexOf_7cf53 12 = .ok (.iload_n 2, 1) := by decide +kernel
theorem dJ0_indexOf_7cf53_13 : decode cJ0_indexOf_7cf53 13 = .ok (.aload_n 0, 1) := by decide +kernel
theorem dJ0_indexOf_7cf53_14 : decode cJ0_indexOf_7cf53 14 = .ok (.invokevirtual 505, 3) := by decide +kernel
theorem dJ0_indexOf_7cf53_17 : decode cJ0_indexOf_7cf53 17 = .ok (.invokestatic 637, 3) := by decide +kernel
theorem dJ0_indexOf_7cf53_20 : decode cJ0_indexOf_7cf53 20 = .ok (.goto 16, 3) := by decide +kernel
theorem dJ0_indexOf_7cf53_23 : decode cJ0_indexOf_7cf53 23 = .ok (.aload_n 0, 1) := by decide +kernel
theorem dJ0_indexOf_7cf53_24 : decode cJ0_indexOf_7cf53 24 = .ok (.getfield 9, 3) := by decide +kernel
theorem dJ0_indexOf_7cf53_27 : decode cJ0_indexOf_7cf53 27 = .ok (.iload_n 1, 1) := by decide +kernel
theorem dJ0_indexOf_7cf53_28 : decode cJ0_indexOf_7cf53 28 = .ok (.iload_n 2, 1) := by decide +kernel
theorem dJ0_indexOf_7cf53_29 : decode cJ0_indexOf_7cf53 29 = .ok (.aload_n 0, 1) := by decide +kernel
theorem dJ0_indexOf_7cf53_30 : decode cJ0_indexOf_7cf53 30 = .ok (.invokevirtual 505, 3) := by decide +kernel
theorem dJ0_indexOf_7cf53_33 : decode cJ0_indexOf_7cf53 33 = .ok (.invokestatic 640, 3) := by decide +kernel
theorem dJ0_indexOf_7cf53_36 : decode cJ0_indexOf_7cf53 36 = .ok (.ireturn, 1) := by decide +kernel
theorem dJ0_coder_7d493_0 : decode cJ0_coder_7d493 0 = .ok (.getstatic 38, 3) := by decide +kernel
theorem dJ0_coder_7d493_3 : decode cJ0_coder_7d493 3 = .ok (.ifCond .eq 10, 3) := by decide +kernel
theorem dJ0_coder_7d493_6 : decode cJ0_coder_7d493 6 = .ok (.aload_n 0, 1) := by decide +kernel
theorem dJ0_coder_7d493_7 : decode cJ0_coder_7d493 7 = .ok (.getfield 15, 3) := by decide +kernel
theorem dJ0_coder_7d493_10 : decode cJ0_coder_7d493 10 = .ok (.goto 4, 3) := by decide +kernel
theorem dJ0_coder_7d493_13 : decode cJ0_coder_7d493 13 = .ok (.iconst 1, 1) := by decide +kernel
theorem dJ0_coder_7d493_14 : decode cJ0_coder_7d493 14 = .ok (.ireturn, 1) := by decide +kernel
theorem dJ0_isLatin1_aae02_0 : decode cJ0_isLatin1_aae02 0 = .ok (.getstatic 38, 3) := by decide +kernel
theorem dJ0_isLatin1_aae02_3 : decode cJ0_isLatin1_aae02 3 = .ok (.ifCond .eq 14, 3) := by decide +kernel
theorem dJ0_isLatin1_aae02_6 : decode cJ0_isLatin1_aae02 6 = .ok (.aload_n 0, 1) := by decide +kernel
theorem dJ0_isLatin1_aae02_7 : decode cJ0_isLatin1_aae02 7 = .ok (.getfield 15, 3) := by decide +kernel
theorem dJ0_isLatin1_aae02_10 : decode cJ0_isLatin1_aae02 10 = .ok (.ifCond .ne 7, 3) := by decide +kernel
theorem dJ0_isLatin1_aae02_13 : decode cJ0_isLatin1_aae02 13 = .ok (.iconst 1, 1) := by decide +kernel
theorem dJ0_isLatin1_aae02_14 : decode cJ0_isLatin1_aae02 14 = .ok (.goto 4, 3) := by decide +kernel
theorem dJ0_isLatin1_aae02_17 : decode cJ0_isLatin1_aae02 17 = .ok (.iconst 0, 1) := by decide +kernel
theorem dJ0_isLatin1_aae02_18 : decode cJ0_isLatin1_aae02 18 = .ok (.ireturn, 1) := by decide +kernel
theorem dJ0_checkBoundsBeginEnd_23922_0 : decode cJ0_checkBoundsBeginEnd_23922 0 = .ok (.iload_n 0, 1) := by decide +kernel
theorem dJ0_checkBoundsBeginEnd_23922_1 : decode cJ0_checkBoundsBeginEnd_23922 1 = .ok (.iload_n 1, 1) := by decide +kernel
theorem dJ0_checkBoundsBeginEnd_23922_2 : decode cJ0_checkBoundsBeginEnd_23922 2 = .ok (.iload_n 2, 1) := by decide +kernel
theorem dJ0_checkBoundsBeginEnd_23922_3 : decode cJ0_checkBoundsBeginEnd_23922 3 = .ok (.getstatic 1053, 3) := by decide +kernel
theorem dJ0_checkBoundsBeginEnd_23922_6 : decode cJ0_checkBoundsBeginEnd_23922 6 = .ok (.invokestatic 1062, 3) := by decide +kernel
theorem dJ0_checkBoundsBeginEnd_23922_9 : decode cJ0_checkBoundsBeginEnd_23922 9 = .ok (.pop, 1) := by decide +kernel
theorem dJ0_checkBoundsBeginEnd_23922_10 : decode cJ0_checkBoundsBeginEnd_23922 10 = .ok (.return_, 1) := by decide +kernel
theorem dJ1_canEncode_9a6ad_0 : decode cJ1_canEncode_9a6ad 0 = .ok (.iload_n 0, 1) := by decide +kernel
theorem dJ1_canEncode_9a6ad_1 : decode cJ1_canEncode_9a6ad 1 = .ok (.ifCond .lt 14, 3) := by decide +kernel
theorem dJ1_canEncode_9a6ad_4 : decode cJ1_canEncode_9a6ad 4 = .ok (.iload_n 0, 1) := by decide +kernel
theorem dJ1_canEncode_9a6ad_5 : decode cJ1_canEncode_9a6ad 5 = .ok (.sipush 255, 3) := by decide +kernel
theorem dJ1_canEncode_9a6ad_8 : decode cJ1_canEncode_9a6ad 8 = .ok (.if_icmp .gt 7, 3) := by decide +kernel
theorem dJ1_canEncode_9a6ad_11 : decode cJ1_canEncode_9a6ad 11 = .ok (.iconst 1, 1) := by decide +kernel
theorem dJ1_canEncode_9a6ad_12 : decode cJ1_canEncode_9a6ad 12 = .ok (.goto 4, 3) := by decide +kernel
theorem dJ1_canEncode_9a6ad_15 : decode cJ1_canEncode_9a6ad 15 = .ok (.iconst 0, 1) := by decide +kernel
theorem dJ1_canEncode_9a6ad_16 : decode cJ1_canEncode_9a6ad 16 = .ok (.ireturn, 1) := by decide +kernel
theorem dJ1_indexOf_4cfef_0 : decode cJ1_indexOf_4cfef 0 = .ok (.iload_n 1, 1) := by decide +kernel
theorem dJ1_indexOf_4cfef_1 : decode cJ1_indexOf_4cfef 1 = .ok (.invokestatic 88, 3) := by decide +kernel
theorem dJ1_indexOf_4cfef_4 : decode cJ1_indexOf_4cfef 4 = .ok (.ifCond .ne 5, 3) := by decide +kernel
theorem dJ1_indexOf_4cfef_7 : decode cJ1_indexOf_4cfef 7 = .ok (.iconst (-1), 1) := by decide +kernel
theorem dJ1_indexOf_4cfef_8 : decode cJ1_indexOf_4cfef 8 = .ok (.ireturn, 1) := by decide +kernel
theorem dJ1_indexOf_4cfef_9 : decode cJ1_indexOf_4cfef 9 = .ok (.iload_n 2, 1) := by decide +kernel
theorem dJ1_indexOf_4cfef_10 : decode cJ1_indexOf_4cfef 10 = .ok (.iconst 0, 1) := by decide +kernel
theorem dJ1_indexOf_4cfef_11 : decode cJ1_indexOf_4cfef 11 = .ok (.invokestatic 92, 3) := by decide +kernel
theorem dJ1_indexOf_4cfef_14 : decode cJ1_indexOf_4cfef 14 = .ok (.istore_n 2, 1) := by decide +kernel
theorem dJ1_indexOf_4cfef_15 : decode cJ1_indexOf_4cfef 15 = .ok (.iload_n 3, 1) := by decide +kernel
theorem dJ1_indexOf_4cfef_16 : decode cJ1_indexOf_4cfef 16 = .ok (.aload_n 0, 1) := by decide +kernel
theorem dJ1_indexOf_4cfef_17 : decode cJ1_indexOf_4cfef 17 = .ok (.arraylength, 1) := by decide +kernel
theorem dJ1_indexOf_4cfef_18 : decode cJ1_indexOf_4cfef 18 = .ok (.invokestatic 38, 3) := by decide +kernel
theorem dJ1_indexOf_4cfef_21 : decode cJ1_indexOf_4cfef 21 = .ok (.istore_n 3, 1) := by decide +kernel
theorem dJ1_indexOf_4cfef_22 : decode cJ1_indexOf_4cfef 22 = .ok (.iload_n 2, 1) := by decide +kernel
theorem dJ1_indexOf_4cfef_23 : decode cJ1_indexOf_4cfef 23 = .ok (.iload_n 3, 1) := by decide +kernel
theorem dJ1_indexOf_4cfef_24 : decode cJ1_indexOf_4cfef 24 = .ok (.if_icmp .lt 5, 3) := by decide +kernel
theorem dJ1_indexOf_4cfef_27 : decode cJ1_indexOf_4cfef 27 = .ok (.iconst (-1), 1) := by decide +kernel
theorem dJ1_indexOf_4cfef_28 : decode cJ1_indexOf_4cfef 28 = .ok (.ireturn, 1) := by decide +kernel
theorem dJ1_indexOf_4cfef_29 : decode cJ1_indexOf_4cfef 29 = .ok (.aload_n 0, 1) := by decide +kernel
theorem dJ1_indexOf_4cfef_30 : decode cJ1_indexOf_4cfef 30 = .ok (.iload_n 1, 1) := by decide +kernel
theorem dJ1_indexOf_4cfef_31 : decode cJ1_indexOf_4cfef 31 = .ok (.iload_n 2, 1) := by decide +kernel
theorem dJ1_indexOf_4cfef_32 : decode cJ1_indexOf_4cfef 32 = .ok (.iload_n 3, 1) := by decide +kernel
theorem dJ1_indexOf_4cfef_33 : decode cJ1_indexOf_4cfef 33 = .ok (.invokestatic 95, 3) := by decide +kernel
theorem dJ1_indexOf_4cfef_36 : decode cJ1_indexOf_4cfef 36 = .ok (.ireturn, 1) := by decide +kernel
theorem dJ1_indexOfChar_4cfef_0 : decode cJ1_indexOfChar_4cfef 0 = .ok (.iload_n 1, 1) := by decide +kernel
theorem dJ1_indexOfChar_4cfef_1 : decode cJ1_indexOfChar_4cfef 1 = .ok (.i2b, 1) := by decide +kernel
theorem dJ1_indexOfChar_4cfef_2 : decode cJ1_indexOfChar_4cfef 2 = .ok (.istore 4, 2) := by decide +kernel
theorem dJ1_indexOfChar_4cfef_4 : decode cJ1_indexOfChar_4cfef 4 = .ok (.iload_n 2, 1) := by decide +kernel
theorem dJ1_indexOfChar_4cfef_5 : decode cJ1_indexOfChar_4cfef 5 = .ok (.istore 5, 2) := by decide +kernel
theorem dJ1_indexOfChar_4cfef_7 : decode cJ1_indexOfChar_4cfef 7 = .ok (.iload 5, 2) := by decide +kernel
theorem dJ1_indexOfChar_4cfef_9 : decode cJ1_indexOfChar_4cfef 9 = .ok (.iload_n 3, 1) := by decide +kernel
theorem dJ1_indexOfChar_4cfef_10 : decode cJ1_indexOfChar_4cfef 10 = .ok (.if_icmp .ge 21, 3) := by decide +kernel
theorem dJ1_indexOfChar_4cfef_13 : decode cJ1_indexOfChar_4cfef 13 = .ok (.aload_n 0, 1) := by decide +kernel
theorem dJ1_indexOfChar_4cfef_14 : decode cJ1_indexOfChar_4cfef 14 = .ok (.iload 5, 2) := by decide +kernel
theorem dJ1_indexOfChar_4cfef_16 : decode cJ1_indexOfChar_4cfef 16 = .ok (.baload, 1) := by decide +kernel
theorem dJ1_indexOfChar_4cfef_17 : decode cJ1_indexOfChar_4cfef 17 = .ok (.iload 4, 2) := by decide +kernel
theorem dJ1_indexOfChar_4cfef_19 : decode cJ1_indexOfChar_4cfef 19 = .ok (.if_icmp .ne 6, 3) := by decide +kernel
theorem dJ1_indexOfChar_4cfef_22 : decode cJ1_indexOfChar_4cfef 22 = .ok (.iload 5, 2) := by decide +kernel
theorem dJ1_indexOfChar_4cfef_24 : decode cJ1_indexOfChar_4cfef 24 = .ok (.ireturn, 1) := by decide +kernel
theorem dJ1_indexOfChar_4cfef_25 : decode cJ1_indexOfChar_4cfef 25 = .ok (.iinc 5 1, 3) := by decide +kernel
theorem dJ1_indexOfChar_4cfef_28 : decode cJ1_indexOfChar_4cfef 28 = .ok (.goto (-21), 3) := by decide +kernel
theorem dJ1_indexOfChar_4cfef_31 : decode cJ1_indexOfChar_4cfef 31 = .ok (.iconst (-1), 1) := by decide +kernel
theorem dJ1_indexOfChar_4cfef_32 : decode cJ1_indexOfChar_4cfef 32 = .ok (.ireturn, 1) := by decide +kernel
theorem dJ2_getChar_3b067_0 : decode cJ2_getChar_3b067 0 = .ok (.getstatic 44, 3) := by decide +kernel
theorem dJ2_getChar_3b067_3 : decode cJ2_getChar_3b067 3 = .ok (.ifCond .ne 25, 3) := by decide +kernel
theorem dJ2_getChar_3b067_6 : decode cJ2_getChar_3b067 6 = .ok (.iload_n 1, 1) := by decide +kernel
theorem dJ2_getChar_3b067_7 : decode cJ2_getChar_3b067 7 = .ok (.ifCond .lt 11, 3) := by decide +kernel
theorem dJ2_getChar_3b067_10 : decode cJ2_getChar_3b067 10 = .ok (.iload_n 1, 1) := by decide +kernel
theorem dJ2_getChar_3b067_11 : decode cJ2_getChar_3b067 11 = .ok (.aload_n 0, 1) := by decide +kernel
theorem dJ2_getChar_3b067_12 : decode cJ2_getChar_3b067 12 = .ok (.invokestatic 48, 3) := by decide +kernel
theorem dJ2_getChar_3b067_15 : decode cJ2_getChar_3b067 15 = .ok (.if_icmp .lt 13, 3) := by decide +kernel
theorem dJ2_getChar_3b067_18 : decode cJ2_getChar_3b067 18 = .ok (.new 52, 3) := by decide +kernel
theorem dJ2_getChar_3b067_21 : decode cJ2_getChar_3b067 21 = .ok (.dup, 1) := by decide +kernel
theorem dJ2_getChar_3b067_22 : decode cJ2_getChar_3b067 22 = .ok (.ldc 54, 2) := by decide +kernel
theorem dJ2_getChar_3b067_24 : decode cJ2_getChar_3b067 24 = .ok (.invokespecial 56, 3) := by decide +kernel
theorem dJ2_getChar_3b067_27 : decode cJ2_getChar_3b067 27 = .ok (.athrow, 1) := by decide +kernel
theorem dJ2_getChar_3b067_28 : decode cJ2_getChar_3b067 28 = .ok (.iload_n 1, 1) := by decide +kernel
theorem dJ2_getChar_3b067_29 : decode cJ2_getChar_3b067 29 = .ok (.iconst 1, 1) := by decide +kernel
theorem dJ2_getChar_3b067_30 : decode cJ2_getChar_3b067 30 = .ok (.ishl, 1) := by decide +kernel
theorem dJ2_getChar_3b067_31 : decode cJ2_getChar_3b067 31 = .ok (.istore_n 1, 1) := by decide +kernel
theorem dJ2_getChar_3b067_32 : decode cJ2_getChar_3b067 32 = .ok (.aload_n 0, 1) := by decide +kernel
theorem dJ2_getChar_3b067_33 : decode cJ2_getChar_3b067 33 = .ok (.iload_n 1, 1) := by decide +kernel
theorem dJ2_getChar_3b067_34 : decode cJ2_getChar_3b067 34 = .ok (.iinc 1 1, 3) := by decide +kernel
theorem dJ2_getChar_3b067_37 : decode cJ2_getChar_3b067 37 = .ok (.baload, 1) := by decide +kernel
theorem dJ2_getChar_3b067_38 : decode cJ2_getChar_3b067 38 = .ok (.sipush 255, 3) := by decide +kernel
theorem dJ2_getChar_3b067_41 : decode cJ2_getChar_3b067 41 = .ok (.iand, 1) := by decide +kernel
theorem dJ2_getChar_3b067_42 : decode cJ2_getChar_3b067 42 = .ok (.getstatic 59, 3) := by decide +kernel
theorem dJ2_getChar_3b067_45 : decode cJ2_getChar_3b067 45 = .ok (.ishl, 1) := by decide +kernel
theorem dJ2_getChar_3b067_46 : decode cJ2_getChar_3b067 46 = .ok (.aload_n 0, 1) := by decide +kernel
theorem dJ2_getChar_3b067_47 : decode cJ2_getChar_3b067 47 = .ok (.iload_n 1, 1) := by decide +kernel
theorem dJ2_getChar_3b067_48 : decode cJ2_getChar_3b067 48 = .ok (.baload, 1) := by decide +kernel
theorem dJ2_getChar_3b067_49 : decode cJ2_getChar_3b067 49 = .ok (.sipush 255, 3) := by decide +kernel
theorem dJ2_getChar_3b067_52 : decode cJ2_getChar_3b067 52 = .ok (.iand, 1) := by decide +kernel
theorem dJ2_getChar_3b067_53 : decode cJ2_getChar_3b067 53 = .ok (.getstatic 63, 3) := by decide +kernel
theorem dJ2_getChar_3b067_56 : decode cJ2_getChar_3b067 56 = .ok (.ishl, 1) := by decide +kernel
theorem dJ2_getChar_3b067_57 : decode cJ2_getChar_3b067 57 = .ok (.ior, 1) := by decide +kernel
theorem dJ2_getChar_3b067_58 : decode cJ2_getChar_3b067 58 = .ok (.i2c, 1) := by decide +kernel
theorem dJ2_getChar_3b067_59 : decode cJ2_getChar_3b067 59 = .ok (.ireturn, 1) := by decide +kernel
theorem dJ2_length_9d52b_0 : decode cJ2_length_9d52b 0 = .ok (.aload_n 0, 1) := by decide +kernel
theorem dJ2_length_9d52b_1 : decode cJ2_length_9d52b 1 = .ok (.arraylength, 1) := by decide +kernel
theorem dJ2_length_9d52b_2 : decode cJ2_length_9d52b 2 = .ok (.iconst 1, 1) := by decide +kernel
theorem dJ2_length_9d52b_3 : decode cJ2_length_9d52b 3 = .ok (.ishr, 1) := by decide +kernel
theorem dJ2_length_9d52b_4 : decode cJ2_length_9d52b 4 = .ok (.ireturn, 1) := by decide +kernel
theorem dJ2_indexOf_4cfef_0 : decode cJ2_indexOf_4cfef 0 = .ok (.iload_n 2, 1) := by decide +kernel
theorem dJ2_indexOf_4cfef_1 : decode cJ2_indexOf_4cfef 1 = .ok (.iconst 0, 1) := by decide +kernel
theorem dJ2_indexOf_4cfef_2 : decode cJ2_indexOf_4cfef 2 = .ok (.invokestatic 224, 3) := by decide +kernel
theorem dJ2_indexOf_4cfef_5 : decode cJ2_indexOf_4cfef 5 = .ok (.istore_n 2, 1) := by decide +kernel
theorem dJ2_indexOf_4cfef_6 : decode cJ2_indexOf_4cfef 6 = .ok (.iload_n 3, 1) := by decide +kernel
theorem dJ2_indexOf_4cfef_7 : decode cJ2_indexOf_4cfef 7 = .ok (.aload_n 0, 1) := by decide +kernel
theorem dJ2_indexOf_4cfef_8 : decode cJ2_indexOf_4cfef 8 = .ok (.arraylength, 1) := by decide +kernel
theorem dJ2_indexOf_4cfef_9 : decode cJ2_indexOf_4cfef 9 = .ok (.iconst 1, 1) := by decide +kernel
theorem dJ2_indexOf_4cfef_10 : decode cJ2_indexOf_4cfef 10 = .ok (.ishr, 1) := by decide +kernel
theorem dJ2_indexOf_4cfef_11 : decode cJ2_indexOf_4cfef 11 = .ok (.invokestatic 183, 3) := by decide +kernel
theorem dJ2_indexOf_4cfef_14 : decode cJ2_indexOf_4cfef 14 = .ok (.istore_n 3, 1) := by decide +kernel
theorem dJ2_indexOf_4cfef_15 : decode cJ2_indexOf_4cfef 15 = .ok (.iload_n 2, 1) := by decide +kernel
theorem dJ2_indexOf_4cfef_16 : decode cJ2_indexOf_4cfef 16 = .ok (.iload_n 3, 1) := by decide +kernel
theorem dJ2_indexOf_4cfef_17 : decode cJ2_indexOf_4cfef 17 = .ok (.if_icmp .lt 5, 3) := by decide +kernel
theorem dJ2_indexOf_4cfef_20 : decode cJ2_indexOf_4cfef 20 = .ok (.iconst (-1), 1) := by decide +kernel
theorem dJ2_indexOf_4cfef_21 : decode cJ2_indexOf_4cfef 21 = .ok (.ireturn, 1) := by decide +kernel
theorem dJ2_indexOf_4cfef_22 : decode cJ2_indexOf_4cfef 22 = .ok (.iload_n 1, 1) := by decide +kernel
theorem dJ2_indexOf_4cfef_23 : decode cJ2_indexOf_4cfef 23 = .ok (.ldc 227, 2) := by decide +kernel
theorem dJ2_indexOf_4cfef_25 : decode cJ2_indexOf_4cfef 25 = .ok (.if_icmp .ge 11, 3) := by decide +kernel
theorem dJ2_indexOf_4cfef_28 : decode cJ2_indexOf_4cfef 28 = .ok (.aload_n 0, 1) := by decide +kernel
theorem dJ2_indexOf_4cfef_29 : decode cJ2_indexOf_4cfef 29 = .ok (.iload_n 1, 1) := by decide +kernel
theorem dJ2_indexOf_4cfef_30 : decode cJ2_indexOf_4cfef 30 = .ok (.iload_n 2, 1) := by decide +kernel
theorem dJ2_indexOf_4cfef_31 : decode cJ2_indexOf_4cfef 31 = .ok (.iload_n 3, 1) := by decide +kernel
theorem dJ2_indexOf_4cfef_32 : decode cJ2_indexOf_4cfef 32 = .ok (.invokestatic 228, 3) := by decide +kernel
theorem dJ2_indexOf_4cfef_35 : decode cJ2_indexOf_4cfef 35 = .ok (.ireturn, 1) := by decide +kernel
theorem dJ2_indexOf_4cfef_36 : decode cJ2_indexOf_4cfef 36 = .ok (.aload_n 0, 1) := by decide +kernel
theorem dJ2_indexOf_4cfef_37 : decode cJ2_indexOf_4cfef 37 = .ok (.iload_n 1, 1) := by decide +kernel
theorem dJ2_indexOf_4cfef_38 : decode cJ2_indexOf_4cfef 38 = .ok (.iload_n 2, 1) := by decide +kernel
theorem dJ2_indexOf_4cfef_39 : decode cJ2_indexOf_4cfef 39 = .ok (.iload_n 3, 1) := by decide +kernel
theorem dJ2_indexOf_4cfef_40 : decode cJ2_indexOf_4cfef 40 = .ok (.invokestatic 232, 3) := by decide +kernel
theorem dJ2_indexOf_4cfef_43 : decode cJ2_indexOf_4cfef 43 = .ok (.ireturn, 1) := by decide +kernel
theorem dJ2_indexOfChar_4cfef_0 : decode cJ2_indexOfChar_4cfef 0 = .ok (.iload_n 2, 1) := by decide +kernel
theorem dJ2_indexOfChar_4cfef_1 : decode cJ2_indexOfChar_4cfef 1 = .ok (.iload_n 3, 1) := by decide +kernel
theorem dJ2_indexOfChar_4cfef_2 : decode cJ2_indexOfChar_4cfef 2 = .ok (.aload_n 0, 1) := by decide +kernel
theorem dJ2_indexOfChar_4cfef_3 : decode cJ2_indexOfChar_4cfef 3 = .ok (.invokestatic 96, 3) := by decide +kernel
theorem dJ2_indexOfChar_4cfef_6 : decode cJ2_indexOfChar_4cfef 6 = .ok (.aload_n 0, 1) := by decide +kernel
theorem dJ2_indexOfChar_4cfef_7 : decode cJ2_indexOfChar_4cfef 7 = .ok (.iload_n 1, 1) := by decide +kernel
theorem dJ2_indexOfChar_4cfef_8 : decode cJ2_indexOfChar_4cfef 8 = .ok (.iload_n 2, 1) := by decide +kernel
theorem dJ2_indexOfChar_4cfef_9 : decode cJ2_indexOfChar_4cfef 9 = .ok (.iload_n 3, 1) := by decide +kernel
theorem dJ2_indexOfChar_4cfef_10 : decode cJ2_indexOfChar_4cfef 10 = .ok (.invokestatic 244, 3) := by decide +kernel
theorem dJ2_indexOfChar_4cfef_13 : decode cJ2_indexOfChar_4cfef 13 = .ok (.ireturn, 1) := by decide +kernel
theorem dJ2_indexOfCharUnsafe_4cfef_0 : decode cJ2_indexOfCharUnsafe_4cfef 0 = .ok (.iload_n 2, 1) := by decide +kernel
theorem dJ2_indexOfCharUnsafe_4cfef_1 : decode cJ2_indexOfCharUnsafe_4cfef 1 = .ok (.istore 4, 2) := by decide +kernel
theorem dJ2_indexOfCharUnsafe_4cfef_3 : decode cJ2_indexOfCharUnsafe_4cfef 3 = .ok (.iload 4, 2) := by decide +kernel
theorem dJ2_indexOfCharUnsafe_4cfef_5 : decode cJ2_indexOfCharUnsafe_4cfef 5 = .ok (.iload_n 3, 1) := by decide +kernel
theorem dJ2_indexOfCharUnsafe_4cfef_6 : decode cJ2_indexOfCharUnsafe_4cfef 6 = .ok (.if_icmp .ge 22, 3) := by decide +kernel
theorem dJ2_indexOfCharUnsafe_4cfef_9 : decode cJ2_indexOfCharUnsafe_4cfef 9 = .ok (.aload_n 0, 1) := by decide +kernel
theorem dJ2_indexOfCharUnsafe_4cfef_10 : decode cJ2_indexOfCharUnsafe_4cfef 10 = .ok (.iload 4, 2) := by decide +kernel
theorem dJ2_indexOfCharUnsafe_4cfef_12 : decode cJ2_indexOfCharUnsafe_4cfef 12 = .ok (.invokestatic 71, 3) := by decide +kernel
theorem dJ2_indexOfCharUnsafe_4cfef_15 : decode cJ2_indexOfCharUnsafe_4cfef 15 = .ok (.iload_n 1, 1) := by decide +kernel
theorem dJ2_indexOfCharUnsafe_4cfef_16 : decode cJ2_indexOfCharUnsafe_4cfef 16 = .ok (.if_icmp .ne 6, 3) := by decide +kernel
theorem dJ2_indexOfCharUnsafe_4cfef_19 : decode cJ2_indexOfCharUnsafe_4cfef 19 = .ok (.iload 4, 2) := by decide +kernel
theorem dJ2_indexOfCharUnsafe_4cfef_21 : decode cJ2_indexOfCharUnsafe_4cfef 21 = .ok (.ireturn, 1) := by decide +kernel
theorem dJ2_indexOfCharUnsafe_4cfef_22 : decode cJ2_indexOfCharUnsafe_4cfef 22 = .ok (.iinc 4 1, 3) := by decide +kernel
theorem dJ2_indexOfCharUnsafe_4cfef_25 : decode cJ2_indexOfCharUnsafe_4cfef 25 = .ok (.goto (-22), 3) := by decide +kernel
theorem dJ2_indexOfCharUnsafe_4cfef_28 : decode cJ2_indexOfCharUnsafe_4cfef 28 = .ok (.iconst (-1), 1) := by decide +kernel
theorem dJ2_indexOfCharUnsafe_4cfef_29 : decode cJ2_indexOfCharUnsafe_4cfef 29 = .ok (.ireturn, 1) := by decide +kernel
theorem dJ2_indexOfSupplementary_4cfef_0 : decode cJ2_indexOfSupplementary_4cfef 0 = .ok (.iload_n 1, 1) := by decide +kernel
theorem dJ2_indexOfSupplementary_4cfef_1 : decode cJ2_indexOfSupplementary_4cfef 1 = .ok (.invokestatic 164, 3) := by decide +kernel
theorem dJ2_indexOfSupplementary_4cfef_4 : decode cJ2_indexOfSupplementary_4cfef 4 = .ok (.ifCond .eq 65, 3) := by decide +kernel
theorem dJ2_indexOfSupplementary_4cfef_7 : decode cJ2_indexOfSupplementary_4cfef 7 = .ok (.iload_n 1, 1) := by decide +kernel
theorem dJ2_indexOfSupplementary_4cfef_8 : decode cJ2_indexOfSupplementary_4cfef 8 = .ok (.invokestatic 157, 3) := by decide +kernel
theorem dJ2_indexOfSupplementary_4cfef_11 : decode cJ2_indexOfSupplementary_4cfef 11 = .ok (.istore 4, 2) := by decide +kernel
theorem dJ2_indexOfSupplementary_4cfef_13 : decode cJ2_indexOfSupplementary_4cfef 13 = .ok (.iload_n 1, 1) := by decide +kernel
theorem dJ2_indexOfSupplementary_4cfef_14 : decode cJ2_indexOfSupplementary_4cfef 14 = .ok (.invokestatic 161, 3) := by decide +kernel
theorem dJ2_indexOfSupplementary_4cfef_17 : decode cJ2_indexOfSupplementary_4cfef 17 = .ok (.istore 5, 2) := by decide +kernel
theorem dJ2_indexOfSupplementary_4cfef_19 : decode cJ2_indexOfSupplementary_4cfef 19 = .ok (.iload_n 2, 1) := by decide +kernel
theorem dJ2_indexOfSupplementary_4cfef_20 : decode cJ2_indexOfSupplementary_4cfef 20 = .ok (.iload_n 3, 1) := by decide +kernel
theorem dJ2_indexOfSupplementary_4cfef_21 : decode cJ2_indexOfSupplementary_4cfef 21 = .ok (.aload_n 0, 1) := by decide +kernel
theorem dJ2_indexOfSupplementary_4cfef_22 : decode cJ2_indexOfSupplementary_4cfef 22 = .ok (.invokestatic 96, 3) := by decide +kernel
theorem dJ2_indexOfSupplementary_4cfef_25 : decode cJ2_indexOfSupplementary_4cfef 25 = .ok (.iload_n 2, 1) := by decide +kernel
theorem dJ2_indexOfSupplementary_4cfef_26 : decode cJ2_indexOfSupplementary_4cfef 26 = .ok (.istore 6, 2) := by decide +kernel
theorem dJ2_indexOfSupplementary_4cfef_28 : decode cJ2_indexOfSupplementary_4cfef 28 = .ok (.iload 6, 2) := by decide +kernel
theorem dJ2_indexOfSupplementary_4cfef_30 : decode cJ2_indexOfSupplementary_4cfef 30 = .ok (.iload_n 3, 1) := by decide +kernel
theorem dJ2_indexOfSupplementary_4cfef_31 : decode cJ2_indexOfSupplementary_4cfef 31 = .ok (.iconst 1, 1) := by decide +kernel
theorem dJ2_indexOfSupplementary_4cfef_32 : decode cJ2_indexOfSupplementary_4cfef 32 = .ok (.isub, 1) := by decide +kernel
theorem dJ2_indexOfSupplementary_4cfef_33 : decode cJ2_indexOfSupplementary_4cfef 33 = .ok (.if_icmp .ge 36, 3) := by decide +kernel
theorem dJ2_indexOfSupplementary_4cfef_36 : decode cJ2_indexOfSupplementary_4cfef 36 = .ok (.aload_n 0, 1) := by decide +kernel
theorem dJ2_indexOfSupplementary_4cfef_37 : decode cJ2_indexOfSupplementary_4cfef 37 = .ok (.iload 6, 2) := by decide +kernel
theorem dJ2_indexOfSupplementary_4cfef_39 : decode cJ2_indexOfSupplementary_4cfef 39 = .ok (.invokestatic 71, 3) := by decide +kernel
theorem dJ2_indexOfSupplementary_4cfef_42 : decode cJ2_indexOfSupplementary_4cfef 42 = .ok (.iload 4, 2) := by decide +kernel
theorem dJ2_indexOfSupplementary_4cfef_44 : decode cJ2_indexOfSupplementary_4cfef 44 = .ok (.if_icmp .ne 19, 3) := by decide +kernel
theorem dJ2_indexOfSupplementary_4cfef_47 : decode cJ2_indexOfSupplementary_4cfef 47 = .ok (.aload_n 0, 1) := by decide +kernel
theorem dJ2_indexOfSupplementary_4cfef_48 : decode cJ2_indexOfSupplementary_4cfef 48 = .ok (.iload 6, 2) := by decide +kernel
theorem dJ2_indexOfSupplementary_4cfef_50 : decode cJ2_indexOfSupplementary_4cfef 50 = .ok (.iconst 1, 1) := by decide +kernel
theorem dJ2_indexOfSupplementary_4cfef_51 : decode cJ2_indexOfSupplementary_4cfef 51 = .ok (.iadd, 1) := by decide +kernel
theorem dJ2_indexOfSupplementary_4cfef_52 : decode cJ2_indexOfSupplementary_4cfef 52 = .ok (.invokestatic 71, 3) := by decide +kernel
theorem dJ2_indexOfSupplementary_4cfef_55 : decode cJ2_indexOfSupplementary_4cfef 55 = .ok (.iload 5, 2) := by decide +kernel
theorem dJ2_indexOfSupplementary_4cfef_57 : decode cJ2_indexOfSupplementary_4cfef 57 = .ok (.if_icmp .ne 6, 3) := by decide +kernel
theorem dJ2_indexOfSupplementary_4cfef_60 : decode cJ2_indexOfSupplementary_4cfef 60 = .ok (.iload 6, 2) := by decide +kernel
theorem dJ2_indexOfSupplementary_4cfef_62 : decode cJ2_indexOfSupplementary_4cfef 62 = .ok (.ireturn, 1) := by decide +kernel
theorem dJ2_indexOfSupplementary_4cfef_63 : decode cJ2_indexOfSupplementary_4cfef 63 = .ok (.iinc 6 1, 3) := by decide +kernel
theorem dJ2_indexOfSupplementary_4cfef_66 : decode cJ2_indexOfSupplementary_4cfef 66 = .ok (.goto (-38), 3) := by decide +kernel
theorem dJ2_indexOfSupplementary_4cfef_69 : decode cJ2_indexOfSupplementary_4cfef 69 = .ok (.iconst (-1), 1) := by decide +kernel
theorem dJ2_indexOfSupplementary_4cfef_70 : decode cJ2_indexOfSupplementary_4cfef 70 = .ok (.ireturn, 1) := by decide +kernel
theorem dJ2_checkBoundsBeginEnd_d044e_0 : decode cJ2_checkBoundsBeginEnd_d044e 0 = .ok (.iload_n 0, 1) := by decide +kernel
theorem dJ2_checkBoundsBeginEnd_d044e_1 : decode cJ2_checkBoundsBeginEnd_d044e 1 = .ok (.iload_n 1, 1) := by decide +kernel
theorem dJ2_checkBoundsBeginEnd_d044e_2 : decode cJ2_checkBoundsBeginEnd_d044e 2 = .ok (.aload_n 2, 1) := by decide +kernel
theorem dJ2_checkBoundsBeginEnd_d044e_3 : decode cJ2_checkBoundsBeginEnd_d044e 3 = .ok (.invokestatic 48, 3) := by decide +kernel
theorem dJ2_checkBoundsBeginEnd_d044e_6 : decode cJ2_checkBoundsBeginEnd_d044e 6 = .ok (.invokestatic 241, 3) := by decide +kernel
theorem dJ2_checkBoundsBeginEnd_d044e_9 : decode cJ2_checkBoundsBeginEnd_d044e 9 = .ok (.return_, 1) := by decide +kernel
theorem dJ7_fill_53178_0 : decode cJ7_fill_53178 0 = .ok (.iconst 0, 1) := by decide +kernel
theorem dJ7_fill_53178_1 : decode cJ7_fill_53178 1 = .ok (.istore_n 2, 1) := by decide +kernel
theorem dJ7_fill_53178_2 : decode cJ7_fill_53178 2 = .ok (.aload_n 0, 1) := by decide +kernel
theorem dJ7_fill_53178_3 : decode cJ7_fill_53178 3 = .ok (.arraylength, 1) := by decide +kernel
theorem dJ7_fill_53178_4 : decode cJ7_fill_53178 4 = .ok (.istore_n 3, 1) := by decide +kernel
theorem dJ7_fill_53178_5 : decode cJ7_fill_53178 5 = .ok (.iload_n 2, 1) := by decide +kernel
theorem dJ7_fill_53178_6 : decode cJ7_fill_53178 6 = .ok (.iload_n 3, 1) := by decide +kernel
theorem dJ7_fill_53178_7 : decode cJ7_fill_53178 7 = .ok (.if_icmp .ge 13, 3) := by decide +kernel
theorem dJ7_fill_53178_10 : decode cJ7_fill_53178 10 = .ok (.aload_n 0, 1) := by decide +kernel
theorem dJ7_fill_53178_11 : decode cJ7_fill_53178 11 = .ok (.iload_n 2, 1) := by decide +kernel
theorem dJ7_fill_53178_12 : decode cJ7_fill_53178 12 = .ok (.iload_n 1, 1) := by decide +kernel
theorem dJ7_fill_53178_13 : decode cJ7_fill_53178 13 = .ok (.iastore, 1) := by decide +kernel
theorem dJ7_fill_53178_14 : decode cJ7_fill_53178 14 = .ok (.iinc 2 1, 3) := by decide +kernel
theorem dJ7_fill_53178_17 : decode cJ7_fill_53178 17 = .ok (.goto (-12), 3) := by decide +kernel
theorem dJ7_fill_53178_20 : decode cJ7_fill_53178 20 = .ok (.return_, 1) := by decide +kernel
theorem dJ3_checkFromToIndex_8c36e_0 : decode cJ3_checkFromToIndex_8c36e 0 = .ok (.iload_n 0, 1) := by decide +kernel
theorem dJ3_checkFromToIndex_8c36e_1 : decode cJ3_checkFromToIndex_8c36e 1 = .ok (.ifCond .lt 13, 3) := by decide +kernel
theorem dJ3_checkFromToIndex_8c36e_4 : decode cJ3_checkFromToIndex_8c36e 4 = .ok (.iload_n 0, 1) := by decide +kernel
theorem dJ3_checkFromToIndex_8c36e_5 : decode cJ3_checkFromToIndex_8c36e 5 = .ok (.iload_n 1, 1) := by decide +kernel
theorem dJ3_checkFromToIndex_8c36e_6 : decode cJ3_checkFromToIndex_8c36e 6 = .ok (.if_icmp .gt 8, 3) := by decide +kernel
theorem dJ3_checkFromToIndex_8c36e_9 : decode cJ3_checkFromToIndex_8c36e 9 = .ok (.iload_n 1, 1) := by decide +kernel
theorem dJ3_checkFromToIndex_8c36e_10 : decode cJ3_checkFromToIndex_8c36e 10 = .ok (.iload_n 2, 1) := by decide +kernel
theorem dJ3_checkFromToIndex_8c36e_11 : decode cJ3_checkFromToIndex_8c36e 11 = .ok (.if_icmp .le 11, 3) := by decide +kernel
theorem dJ3_checkFromToIndex_8c36e_14 : decode cJ3_checkFromToIndex_8c36e 14 = .ok (.aload_n 3, 1) := by decide +kernel
theorem dJ3_checkFromToIndex_8c36e_15 : decode cJ3_checkFromToIndex_8c36e 15 = .ok (.iload_n 0, 1) := by decide +kernel
theorem dJ3_checkFromToIndex_8c36e_16 : decode cJ3_checkFromToIndex_8c36e 16 = .ok (.iload_n 1, 1) := by decide +kernel
theorem dJ3_checkFromToIndex_8c36e_17 : decode cJ3_checkFromToIndex_8c36e 17 = .ok (.iload_n 2, 1) := by decide +kernel
theorem dJ3_checkFromToIndex_8c36e_18 : decode cJ3_checkFromToIndex_8c36e 18 = .ok (.invokestatic 99, 3) := by decide +kernel
theorem dJ3_checkFromToIndex_8c36e_21 : decode cJ3_checkFromToIndex_8c36e 21 = .ok (.athrow, 1) := by decide +kernel
theorem dJ3_checkFromToIndex_8c36e_22 : decode cJ3_checkFromToIndex_8c36e 22 = .ok (.iload_n 0, 1) := by decide +kernel
theorem dJ3_checkFromToIndex_8c36e_23 : decode cJ3_checkFromToIndex_8c36e 23 = .ok (.ireturn, 1) := by decide +kernel
end
section
theorem dX7_init_0 : decode cX7_init 0 = .ok (.aload_n 0, 1) := by decide +kernel
theorem dX7_init_1 : decode cX7_init 1 = .ok (.invokespecial 1, 3) := by decide +kernel
theorem dX7_init_4 : decode cX7_init 4 = .ok (.aload_n 0, 1) := by decide +kernel
theorem dX7_init_5 : decode cX7_init 5 = .ok (.new 7, 3) := by decide +kernel
theorem dX7_init_8 : decode cX7_init 8 = .ok (.dup, 1) := by decide +kernel
theorem dX7_init_9 : decode cX7_init 9 = .ok (.invokespecial 9, 3) := by decide +kernel
theorem dX7_init_12 : decode cX7_init 12 = .ok (.putfield 10, 3) := by decide +kernel
theorem dX7_init_15 : decode cX7_init 15 = .ok (.aload_n 0, 1) := by decide +kernel
theorem dX7_init_16 : decode cX7_init 16 = .ok (.new 7, 3) := by decide +kernel
theorem dX7_init_19 : decode cX7_init 19 = .ok (.dup, 1) := by decide +kernel
theorem dX7_init_20 : decode cX7_init 20 = .ok (.invokespecial 9, 3) := by decide +kernel
theorem dX7_init_23 : decode cX7_init 23 = .ok (.putfield 16, 3) := by decide +kernel
theorem dX7_init_26 : decode cX7_init 26 = .ok (.aload_n 0, 1) := by decide +kernel
theorem dX7_init_27 : decode cX7_init 27 = .ok (.new 7, 3) := by decide +kernel
theorem dX7_init_30 : decode cX7_init 30 = .ok (.dup, 1) := by decide +kernel
theorem dX7_init_31 : decode cX7_init 31 = .ok (.invokespecial 9, 3) := by decide +kernel
theorem dX7_init_34 : decode cX7_init 34 = .ok (.putfield 19, 3) := by decide +kernel
theorem dX7_init_37 : decode cX7_init 37 = .ok (.aload_n 0, 1) := by decide +kernel
theorem dX7_init_38 : decode cX7_init 38 = .ok (.new 22, 3) := by decide +kernel
theorem dX7_init_41 : decode cX7_init 41 = .ok (.dup, 1) := by decide +kernel
theorem dX7_init_42 : decode cX7_init 42 = .ok (.invokespecial 24, 3) := by decide +kernel
theorem dX7_init_45 : decode cX7_init 45 = .ok (.putfield 25, 3) := by decide +kernel
theorem dX7_init_48 : decode cX7_init 48 = .ok (.aload_n 0, 1) := by decide +kernel
theorem dX7_init_49 : decode cX7_init 49 = .ok (.new 29, 3) := by decide +kernel
theorem dX7_init_52 : decode cX7_init 52 = .ok (.dup, 1) := by decide +kernel
theorem dX7_init_53 : decode cX7_init 53 = .ok (.invokespecial 31, 3) := by decide +kernel
theorem dX7_init_56 : decode cX7_init 56 = .ok (.putfield 32, 3) := by decide +kernel
theorem dX7_init_59 : decode cX7_init 59 = .ok (.aload_n 0, 1) := by decide +kernel
theorem dX7_init_60 : decode cX7_init 60 = .ok (.new 36, 3) := by decide +kernel
theorem dX7_init_63 : decode cX7_init 63 = .ok (.dup, 1) := by decide +kernel
theorem dX7_init_64 : decode cX7_init 64 = .ok (.invokespecial 38, 3) := by decide +kernel
theorem dX7_init_67 : decode cX7_init 67 = .ok (.putfield 39, 3) := by decide +kernel
theorem dX7_init_70 : decode cX7_init 70 = .ok (.aload_n 0, 1) := by decide +kernel
theorem dX7_init_71 : decode cX7_init 71 = .ok (.new 43, 3) := by decide +kernel
theorem dX7_init_74 : decode cX7_init 74 = .ok (.dup, 1) := by decide +kernel
theorem dX7_init_75 : decode cX7_init 75 = .ok (.invokespecial 45, 3) := by decide +kernel
theorem dX7_init_78 : decode cX7_init 78 = .ok (.putfield 46, 3) := by decide +kernel
theorem dX7_init_81 : decode cX7_init 81 = .ok (.aload_n 0, 1) := by decide +kernel
theorem dX7_init_82 : decode cX7_init 82 = .ok (.new 50, 3) := by decide +kernel
theorem dX7_init_85 : decode cX7_init 85 = .ok (.dup, 1) := by decide +kernel
theorem dX7_init_86 : decode cX7_init 86 = .ok (.invokespecial 52, 3) := by decide +kernel
theorem dX7_init_89 : decode cX7_init 89 = .ok (.putfield 53, 3) := by decide +kernel
theorem dX7_init_92 : decode cX7_init 92 = .ok (.aload_n 0, 1) := by decide +kernel
theorem dX7_init_93 : decode cX7_init 93 = .ok (.bipush 6, 2) := by decide +kernel
theorem dX7_init_95 : decode cX7_init 95 = .ok (.newarray .int, 2) := by decide +kernel
theorem dX7_init_97 : decode cX7_init 97 = .ok (.putfield 57, 3) := by decide +kernel
theorem dX7_init_100 : decode cX7_init 100 = .ok (.return_, 1) := by decide +kernel
theorem dX7_row_0 : decode cX7_row 0 = .ok (.aload_n 0, 1) := by decide +kernel
theorem dX7_row_1 : decode cX7_row 1 = .ok (.getfield 16, 3) := by decide +kernel
theorem dX7_row_4 : decode cX7_row 4 = .ok (.aload_n 0, 1) := by decide +kernel
theorem dX7_row_5 : decode cX7_row 5 = .ok (.getfield 10, 3) := by decide +kernel
theorem dX7_row_8 : decode cX7_row 8 = .ok (.invokevirtual 61, 3) := by decide +kernel
theorem dX7_row_11 : decode cX7_row 11 = .ok (.aload_n 0, 1) := by decide +kernel
theorem dX7_row_12 : decode cX7_row 12 = .ok (.aload_n 0, 1) := by decide +kernel
theorem dX7_row_13 : decode cX7_row 13 = .ok (.iload_n 1, 1) := by decide +kernel
theorem dX7_row_14 : decode cX7_row 14 = .ok (.iload_n 2, 1) := by decide +kernel
theorem dX7_row_15 : decode cX7_row 15 = .ok (.invokevirtual 65, 3) := by decide +kernel
theorem dX7_row_18 : decode cX7_row 18 = .ok (.invokevirtual 69, 3) := by decide +kernel
theorem dX7_row_21 : decode cX7_row 21 = .ok (.ireturn, 1) := by decide +kernel
theorem dX7_drop_0 : decode cX7_drop 0 = .ok (.aload_n 0, 1) := by decide +kernel
theorem dX7_drop_1 : decode cX7_drop 1 = .ok (.getfield 16, 3) := by decide +kernel
theorem dX7_drop_4 : decode cX7_drop 4 = .ok (.aload_n 0, 1) := by decide +kernel
theorem dX7_drop_5 : decode cX7_drop 5 = .ok (.getfield 10, 3) := by decide +kernel
theorem dX7_drop_8 : decode cX7_drop 8 = .ok (.invokevirtual 61, 3) := by decide +kernel
theorem dX7_drop_11 : decode cX7_drop 11 = .ok (.aload_n 0, 1) := by decide +kernel
theorem dX7_drop_12 : decode cX7_drop 12 = .ok (.aload_n 0, 1) := by decide +kernel
theorem dX7_drop_13 : decode cX7_drop 13 = .ok (.iload_n 1, 1) := by decide +kernel
theorem dX7_drop_14 : decode cX7_drop 14 = .ok (.invokevirtual 73, 3) := by decide +kernel
theorem dX7_drop_17 : decode cX7_drop 17 = .ok (.invokevirtual 69, 3) := by decide +kernel
theorem dX7_drop_20 : decode cX7_drop 20 = .ok (.ireturn, 1) := by decide +kernel
theorem dX7_turn_0 : decode cX7_turn 0 = .ok (.aload_n 0, 1) := by decide +kernel
theorem dX7_turn_1 : decode cX7_turn 1 = .ok (.getfield 16, 3) := by decide +kernel
theorem dX7_turn_4 : decode cX7_turn 4 = .ok (.aload_n 0, 1) := by decide +kernel
theorem dX7_turn_5 : decode cX7_turn 5 = .ok (.getfield 10, 3) := by decide +kernel
theorem dX7_turn_8 : decode cX7_turn 8 = .ok (.invokevirtual 61, 3) := by decide +kernel
theorem dX7_turn_11 : decode cX7_turn 11 = .ok (.aload_n 0, 1) := by decide +kernel
theorem dX7_turn_12 : decode cX7_turn 12 = .ok (.aload_n 0, 1) := by decide +kernel
theorem dX7_turn_13 : decode cX7_turn 13 = .ok (.iload_n 1, 1) := by decide +kernel
theorem dX7_turn_14 : decode cX7_turn 14 = .ok (.invokevirtual 76, 3) := by decide +kernel
theorem dX7_turn_17 : decode cX7_turn 17 = .ok (.invokevirtual 69, 3) := by decide +kernel
theorem dX7_turn_20 : decode cX7_turn 20 = .ok (.ireturn, 1) := by decide +kernel
theorem dX7_swap_0 : decode cX7_swap 0 = .ok (.aload_n 0, 1) := by decide +kernel
theorem dX7_swap_1 : decode cX7_swap 1 = .ok (.getfield 16, 3) := by decide +kernel
theorem dX7_swap_4 : decode cX7_swap 4 = .ok (.aload_n 0, 1) := by decide +kernel
theorem dX7_swap_5 : decode cX7_swap 5 = .ok (.getfield 10, 3) := by decide +kernel
theorem dX7_swap_8 : decode cX7_swap 8 = .ok (.invokevirtual 61, 3) := by decide +kernel
theorem dX7_swap_11 : decode cX7_swap 11 = .ok (.aload_n 0, 1) := by decide +kernel
theorem dX7_swap_12 : decode cX7_swap 12 = .ok (.aload_n 0, 1) := by decide +kernel
theorem dX7_swap_13 : decode cX7_swap 13 = .ok (.iload_n 1, 1) := by decide +kernel
theorem dX7_swap_14 : decode cX7_swap 14 = .ok (.iload_n 2, 1) := by decide +kernel
theorem dX7_swap_15 : decode cX7_swap 15 = .ok (.iload_n 3, 1) := by decide +kernel
theorem dX7_swap_16 : decode cX7_swap 16 = .ok (.invokevirtual 79, 3) := by decide +kernel
theorem dX7_swap_19 : decode cX7_swap 19 = .ok (.invokevirtual 69, 3) := by decide +kernel
theorem dX7_swap_22 : decode cX7_swap 22 = .ok (.ireturn, 1) := by decide +kernel
theorem dX7_lift_0 : decode cX7_lift 0 = .ok (.aload_n 0, 1) := by decide +kernel
theorem dX7_lift_1 : decode cX7_lift 1 = .ok (.getfield 16, 3) := by decide +kernel
theorem dX7_lift_4 : decode cX7_lift 4 = .ok (.aload_n 0, 1) := by decide +kernel
theorem dX7_lift_5 : decode cX7_lift 5 = .ok (.getfield 10, 3) := by decide +kernel
theorem dX7_lift_8 : decode cX7_lift 8 = .ok (.invokevirtual 61, 3) := by decide +kernel
theorem dX7_lift_11 : decode cX7_lift 11 = .ok (.aload_n 0, 1) := by decide +kernel
theorem dX7_lift_12 : decode cX7_lift 12 = .ok (.aload_n 0, 1) := by decide +kernel
theorem dX7_lift_13 : decode cX7_lift 13 = .ok (.iload_n 1, 1) := by decide +kernel
theorem dX7_lift_14 : decode cX7_lift 14 = .ok (.invokevirtual 83, 3) := by decide +kernel
theorem dX7_lift_17 : decode cX7_lift 17 = .ok (.invokevirtual 69, 3) := by decide +kernel
theorem dX7_lift_20 : decode cX7_lift 20 = .ok (.ireturn, 1) := by decide +kernel
theorem dX7_begin_0 : decode cX7_begin 0 = .ok (.aload_n 0, 1) := by decide +kernel
theorem dX7_begin_1 : decode cX7_begin 1 = .ok (.getfield 16, 3) := by decide +kernel
theorem dX7_begin_4 : decode cX7_begin 4 = .ok (.aload_n 0, 1) := by decide +kernel
theorem dX7_begin_5 : decode cX7_begin 5 = .ok (.getfield 10, 3) := by decide +kernel
theorem dX7_begin_8 : decode cX7_begin 8 = .ok (.invokevirtual 61, 3) := by decide +kernel
theorem dX7_begin_11 : decode cX7_begin 11 = .ok (.aload_n 0, 1) := by decide +kernel
theorem dX7_begin_12 : decode cX7_begin 12 = .ok (.aload_n 0, 1) := by decide +kernel
theorem dX7_begin_13 : decode cX7_begin 13 = .ok (.iload_n 1, 1) := by decide +kernel
theorem dX7_begin_14 : decode cX7_begin 14 = .ok (.invokevirtual 86, 3) := by decide +kernel
theorem dX7_begin_17 : decode cX7_begin 17 = .ok (.invokevirtual 69, 3) := by decide +kernel
theorem dX7_begin_20 : decode cX7_begin 20 = .ok (.ireturn, 1) := by decide +kernel
theorem dX7_toss_0 : decode cX7_toss 0 = .ok (.aload_n 0, 1) := by decide +kernel
theorem dX7_toss_1 : decode cX7_toss 1 = .ok (.getfield 16, 3) := by decide +kernel
theorem dX7_toss_4 : decode cX7_toss 4 = .ok (.aload_n 0, 1) := by decide +kernel
theorem dX7_toss_5 : decode cX7_toss 5 = .ok (.getfield 10, 3) := by decide +kernel
theorem dX7_toss_8 : decode cX7_toss 8 = .ok (.invokevirtual 61, 3) := by decide +kernel
theorem dX7_toss_11 : decode cX7_toss 11 = .ok (.aload_n 0, 1) := by decide +kernel
theorem dX7_toss_12 : decode cX7_toss 12 = .ok (.aload_n 0, 1) := by decide +kernel
theorem dX7_toss_13 : decode cX7_toss 13 = .ok (.iload_n 1, 1) := by decide +kernel
theorem dX7_toss_14 : decode cX7_toss 14 = .ok (.invokevirtual 89, 3) := by decide +kernel
theorem dX7_toss_17 : decode cX7_toss 17 = .ok (.invokevirtual 69, 3) := by decide +kernel
theorem dX7_toss_20 : decode cX7_toss 20 = .ok (.ireturn, 1) := by decide +kernel
theorem dX7_join_0 : decode cX7_join 0 = .ok (.aload_n 0, 1) := by decide +kernel
theorem dX7_join_1 : decode cX7_join 1 = .ok (.getfield 16, 3) := by decide +kernel
theorem dX7_join_4 : decode cX7_join 4 = .ok (.aload_n 0, 1) := by decide +kernel
theorem dX7_join_5 : decode cX7_join 5 = .ok (.getfield 10, 3) := by decide +kernel
theorem dX7_join_8 : decode cX7_join 8 = .ok (.invokevirtual 61, 3) := by decide +kernel
theorem dX7_join_11 : decode cX7_join 11 = .ok (.aload_n 0, 1) := by decide +kernel
theorem dX7_join_12 : decode cX7_join 12 = .ok (.aload_n 0, 1) := by decide +kernel
theorem dX7_join_13 : decode cX7_join 13 = .ok (.iload_n 1, 1) := by decide +kernel
theorem dX7_join_14 : decode cX7_join 14 = .ok (.invokevirtual 92, 3) := by decide +kernel
theorem dX7_join_17 : decode cX7_join 17 = .ok (.invokevirtual 69, 3) := by decide +kernel
theorem dX7_join_20 : decode cX7_join 20 = .ok (.ireturn, 1) := by decide +kernel
theorem dX7_once_0 : decode cX7_once 0 = .ok (.aload_n 0, 1) := by decide +kernel
theorem dX7_once_1 : decode cX7_once 1 = .ok (.getfield 16, 3) := by decide +kernel
theorem dX7_once_4 : decode cX7_once 4 = .ok (.aload_n 0, 1) := by decide +kernel
theorem dX7_once_5 : decode cX7_once 5 = .ok (.getfield 10, 3) := by decide +kernel
theorem dX7_once_8 : decode cX7_once 8 = .ok (.invokevirtual 61, 3) := by decide +kernel
theorem dX7_once_11 : decode cX7_once 11 = .ok (.aload_n 0, 1) := by decide +kernel
theorem dX7_once_12 : decode cX7_once 12 = .ok (.aload_n 0, 1) := by decide +kernel
theorem dX7_once_13 : decode cX7_once 13 = .ok (.iload_n 1, 1) := by decide +kernel
theorem dX7_once_14 : decode cX7_once 14 = .ok (.invokevirtual 95, 3) := by decide +kernel
theorem dX7_once_17 : decode cX7_once 17 = .ok (.invokevirtual 69, 3) := by decide +kernel
theorem dX7_once_20 : decode cX7_once 20 = .ok (.ireturn, 1) := by decide +kernel
theorem dX7_rowOf_0 : decode cX7_rowOf 0 = .ok (.aload_n 0, 1) := by decide +kernel
theorem dX7_rowOf_1 : decode cX7_rowOf 1 = .ok (.getfield 10, 3) := by decide +kernel
theorem dX7_rowOf_4 : decode cX7_rowOf 4 = .ok (.iload_n 1, 1) := by decide +kernel
theorem dX7_rowOf_5 : decode cX7_rowOf 5 = .ok (.invokevirtual 98, 3) := by decide +kernel
theorem dX7_rowOf_8 : decode cX7_rowOf 8 = .ok (.astore_n 3, 1) := by decide +kernel
theorem dX7_rowOf_9 : decode cX7_rowOf 9 = .ok (.aload_n 3, 1) := by decide +kernel
theorem dX7_rowOf_10 : decode cX7_rowOf 10 = .ok (.ifnonnull 5, 3) := by decide +kernel
theorem dX7_rowOf_13 : decode cX7_rowOf 13 = .ok (.iconst (-1), 1) := by decide +kernel
theorem dX7_rowOf_14 : decode cX7_rowOf 14 = .ok (.ireturn, 1) := by decide +kernel
theorem dX7_rowOf_15 : decode cX7_rowOf 15 = .ok (.iload_n 2, 1) := by decide +kernel
theorem dX7_rowOf_16 : decode cX7_rowOf 16 = .ok (.tableswitch 88 0 7 #[48, 53, 58, 63, 68, 73, 78, 83], 48) := by decide +kernel
theorem dX7_rowOf_64 : decode cX7_rowOf 64 = .ok (.aload_n 3, 1) := by decide +kernel
theorem dX7_rowOf_65 : decode cX7_rowOf 65 = .ok (.getfield 102, 3) := by decide +kernel
theorem dX7_rowOf_68 : decode cX7_rowOf 68 = .ok (.ireturn, 1) := by decide +kernel
theorem dX7_rowOf_69 : decode cX7_rowOf 69 = .ok (.aload_n 3, 1) := by decide +kernel
theorem dX7_rowOf_70 : decode cX7_rowOf 70 = .ok (.invokevirtual 108, 3) := by decide +kernel
theorem dX7_rowOf_73 : decode cX7_rowOf 73 = .ok (.ireturn, 1) := by decide +kernel
theorem dX7_rowOf_74 : decode cX7_rowOf 74 = .ok (.aload_n 3, 1) := by decide +kernel
theorem dX7_rowOf_75 : decode cX7_rowOf 75 = .ok (.invokevirtual 112, 3) := by decide +kernel
theorem dX7_rowOf_78 : decode cX7_rowOf 78 = .ok (.ireturn, 1) := by decide +kernel
theorem dX7_rowOf_79 : decode cX7_rowOf 79 = .ok (.aload_n 3, 1) := by decide +kernel
theorem dX7_rowOf_80 : decode cX7_rowOf 80 = .ok (.invokevirtual 115, 3) := by decide +kernel
theorem dX7_rowOf_83 : decode cX7_rowOf 83 = .ok (.ireturn, 1) := by decide +kernel
theorem dX7_rowOf_84 : decode cX7_rowOf 84 = .ok (.aload_n 3, 1) := by decide +kernel
theorem dX7_rowOf_85 : decode cX7_rowOf 85 = .ok (.invokevirtual 118, 3) := by decide +kernel
theorem dX7_rowOf_88 : decode cX7_rowOf 88 = .ok (.ireturn, 1) := by decide +kernel
theorem dX7_rowOf_89 : decode cX7_rowOf 89 = .ok (.aload_n 3, 1) := by decide +kernel
theorem dX7_rowOf_90 : decode cX7_rowOf 90 = .ok (.invokevirtual 121, 3) := by decide +kernel
theorem dX7_rowOf_93 : decode cX7_rowOf 93 = .ok (.ireturn, 1) := by decide +kernel
theorem dX7_rowOf_94 : decode cX7_rowOf 94 = .ok (.aload_n 3, 1) := by decide +kernel
theorem dX7_rowOf_95 : decode cX7_rowOf 95 = .ok (.invokevirtual 124, 3) := by decide +kernel
theorem dX7_rowOf_98 : decode cX7_rowOf 98 = .ok (.ireturn, 1) := by decide +kernel
theorem dX7_rowOf_99 : decode cX7_rowOf 99 = .ok (.aload_n 3, 1) := by decide +kernel
theorem dX7_rowOf_100 : decode cX7_rowOf 100 = .ok (.invokevirtual 127, 3) := by decide +kernel
theorem dX7_rowOf_103 : decode cX7_rowOf 103 = .ok (.ireturn, 1) := by decide +kernel
theorem dX7_rowOf_104 : decode cX7_rowOf 104 = .ok (.bipush (-2), 2) := by decide +kernel
theorem dX7_rowOf_106 : decode cX7_rowOf 106 = .ok (.ireturn, 1) := by decide +kernel
theorem dX7_throwAt_0 : decode cX7_throwAt 0 = .ok (.aload_n 0, 1) := by decide +kernel
theorem dX7_throwAt_1 : decode cX7_throwAt 1 = .ok (.getfield 10, 3) := by decide +kernel
theorem dX7_throwAt_4 : decode cX7_throwAt 4 = .ok (.iload_n 1, 1) := by decide +kernel
theorem dX7_throwAt_5 : decode cX7_throwAt 5 = .ok (.invokevirtual 98, 3) := by decide +kernel
theorem dX7_throwAt_8 : decode cX7_throwAt 8 = .ok (.astore_n 3, 1) := by decide +kernel
theorem dX7_throwAt_9 : decode cX7_throwAt 9 = .ok (.aload_n 3, 1) := by decide +kernel
theorem dX7_throwAt_10 : decode cX7_throwAt 10 = .ok (.ifnull 11, 3) := by decide +kernel
theorem dX7_throwAt_13 : decode cX7_throwAt 13 = .ok (.aload_n 3, 1) := by decide +kernel
theorem dX7_throwAt_14 : decode cX7_throwAt 14 = .ok (.iload_n 2, 1) := by decide +kernel
theorem dX7_throwAt_15 : decode cX7_throwAt 15 = .ok (.invokevirtual 130, 3) := by decide +kernel
theorem dX7_throwAt_18 : decode cX7_throwAt 18 = .ok (.ifCond .ne 5, 3) := by decide +kernel
theorem dX7_throwAt_21 : decode cX7_throwAt 21 = .ok (.iconst (-1), 1) := by decide +kernel
theorem dX7_throwAt_22 : decode cX7_throwAt 22 = .ok (.ireturn, 1) := by decide +kernel
theorem dX7_throwAt_23 : decode cX7_throwAt 23 = .ok (.aload_n 3, 1) := by decide +kernel
theorem dX7_throwAt_24 : decode cX7_throwAt 24 = .ok (.iload_n 2, 1) := by decide +kernel
theorem dX7_throwAt_25 : decode cX7_throwAt 25 = .ok (.invokevirtual 134, 3) := by decide +kernel
theorem dX7_throwAt_28 : decode cX7_throwAt 28 = .ok (.ireturn, 1) := by decide +kernel
theorem dX7_isClean_0 : decode cX7_isClean 0 = .ok (.aload_n 0, 1) := by decide +kernel
theorem dX7_isClean_1 : decode cX7_isClean 1 = .ok (.getfield 10, 3) := by decide +kernel
theorem dX7_isClean_4 : decode cX7_isClean 4 = .ok (.iload_n 1, 1) := by decide +kernel
theorem dX7_isClean_5 : decode cX7_isClean 5 = .ok (.invokevirtual 98, 3) := by decide +kernel
theorem dX7_isClean_8 : decode cX7_isClean 8 = .ok (.astore_n 2, 1) := by decide +kernel
theorem dX7_isClean_9 : decode cX7_isClean 9 = .ok (.aload_n 2, 1) := by decide +kernel
theorem dX7_isClean_10 : decode cX7_isClean 10 = .ok (.ifnonnull 5, 3) := by decide +kernel
theorem dX7_isClean_13 : decode cX7_isClean 13 = .ok (.iconst (-1), 1) := by decide +kernel
theorem dX7_isClean_14 : decode cX7_isClean 14 = .ok (.ireturn, 1) := by decide +kernel
theorem dX7_isClean_15 : decode cX7_isClean 15 = .ok (.aload_n 2, 1) := by decide +kernel
theorem dX7_isClean_16 : decode cX7_isClean 16 = .ok (.invokevirtual 137, 3) := by decide +kernel
theorem dX7_isClean_19 : decode cX7_isClean 19 = .ok (.ifCond .eq 7, 3) := by decide +kernel
theorem dX7_isClean_22 : decode cX7_isClean 22 = .ok (.iconst 1, 1) := by decide +kernel
theorem dX7_isClean_23 : decode cX7_isClean 23 = .ok (.goto 4, 3) := by decide +kernel
theorem dX7_isClean_26 : decode cX7_isClean 26 = .ok (.iconst 0, 1) := by decide +kernel
theorem dX7_isClean_27 : decode cX7_isClean 27 = .ok (.ireturn, 1) := by decide +kernel
theorem dX7_isCleanAgain_0 : decode cX7_isCleanAgain 0 = .ok (.aload_n 0, 1) := by decide +kernel
theorem dX7_isCleanAgain_1 : decode cX7_isCleanAgain 1 = .ok (.getfield 10, 3) := by decide +kernel
theorem dX7_isCleanAgain_4 : decode cX7_isCleanAgain 4 = .ok (.iload_n 1, 1) := by decide +kernel
theorem dX7_isCleanAgain_5 : decode cX7_isCleanAgain 5 = .ok (.invokevirtual 98, 3) := by decide +kernel
theorem dX7_isCleanAgain_8 : decode cX7_isCleanAgain 8 = .ok (.astore_n 2, 1) := by decide +kernel
theorem dX7_isCleanAgain_9 : decode cX7_isCleanAgain 9 = .ok (.aload_n 2, 1) := by decide +kernel
theorem dX7_isCleanAgain_10 : decode cX7_isCleanAgain 10 = .ok (.ifnonnull 5, 3) := by decide +kernel
theorem dX7_isCleanAgain_13 : decode cX7_isCleanAgain 13 = .ok (.iconst (-1), 1) := by decide +kernel
theorem dX7_isCleanAgain_14 : decode cX7_isCleanAgain 14 = .ok (.ireturn, 1) := by decide +kernel
theorem dX7_isCleanAgain_15 : decode cX7_isCleanAgain 15 = .ok (.aload_n 2, 1) := by decide +kernel
theorem dX7_isCleanAgain_16 : decode cX7_isCleanAgain 16 = .ok (.invokevirtual 115, 3) := by decide +kernel
theorem dX7_isCleanAgain_19 : decode cX7_isCleanAgain 19 = .ok (.bipush (-4), 2) := by decide +kernel
theorem dX7_isCleanAgain_21 : decode cX7_isCleanAgain 21 = .ok (.if_icmp .ne 7, 3) := by decide +kernel
theorem dX7_isCleanAgain_24 : decode cX7_isCleanAgain 24 = .ok (.iconst 1, 1) := by decide +kernel
theorem dX7_isCleanAgain_25 : decode cX7_isCleanAgain 25 = .ok (.goto 4, 3) := by decide +kernel
theorem dX7_isCleanAgain_28 : decode cX7_isCleanAgain 28 = .ok (.iconst 0, 1) := by decide +kernel
theorem dX7_isCleanAgain_29 : decode cX7_isCleanAgain 29 = .ok (.ireturn, 1) := by decide +kernel
theorem dX7_stateOf_0 : decode cX7_stateOf 0 = .ok (.aload_n 0, 1) := by decide +kernel
theorem dX7_stateOf_1 : decode cX7_stateOf 1 = .ok (.getfield 10, 3) := by decide +kernel
theorem dX7_stateOf_4 : decode cX7_stateOf 4 = .ok (.iload_n 1, 1) := by decide +kernel
theorem dX7_stateOf_5 : decode cX7_stateOf 5 = .ok (.invokevirtual 98, 3) := by decide +kernel
theorem dX7_stateOf_8 : decode cX7_stateOf 8 = .ok (.astore_n 3, 1) := by decide +kernel
theorem dX7_stateOf_9 : decode cX7_stateOf 9 = .ok (.aload_n 3, 1) := by decide +kernel
theorem dX7_stateOf_10 : decode cX7_stateOf 10 = .ok (.ifnull 11, 3) := by decide +kernel
theorem dX7_stateOf_13 : decode cX7_stateOf 13 = .ok (.aload_n 3, 1) := by decide +kernel
theorem dX7_stateOf_14 : decode cX7_stateOf 14 = .ok (.iload_n 2, 1) := by decide +kernel
theorem dX7_stateOf_15 : decode cX7_stateOf 15 = .ok (.invokevirtual 130, 3) := by decide +kernel
theorem dX7_stateOf_18 : decode cX7_stateOf 18 = .ok (.ifCond .ne 5, 3) := by decide +kernel
theorem dX7_stateOf_21 : decode cX7_stateOf 21 = .ok (.iconst (-1), 1) := by decide +kernel
theorem dX7_stateOf_22 : decode cX7_stateOf 22 = .ok (.ireturn, 1) := by decide +kernel
theorem dX7_stateOf_23 : decode cX7_stateOf 23 = .ok (.aload_n 3, 1) := by decide +kernel
theorem dX7_stateOf_24 : decode cX7_stateOf 24 = .ok (.invokevirtual 137, 3) := by decide +kernel
theorem dX7_stateOf_27 : decode cX7_stateOf 27 = .ok (.ifCond .eq 11, 3) := by decide +kernel
theorem dX7_stateOf_30 : decode cX7_stateOf 30 = .ok (.aload_n 3, 1) := by decide +kernel
theorem dX7_stateOf_31 : decode cX7_stateOf 31 = .ok (.iload_n 2, 1) := by decide +kernel
theorem dX7_stateOf_32 : decode cX7_stateOf 32 = .ok (.invokevirtual 141, 3) := by decide +kernel
theorem dX7_stateOf_35 : decode cX7_stateOf 35 = .ok (.goto 5, 3) := by decide +kernel
theorem dX7_stateOf_38 : decode cX7_stateOf 38 = .ok (.bipush (-4), 2) := by decide +kernel
theorem dX7_stateOf_40 : decode cX7_stateOf 40 = .ok (.ireturn, 1) := by decide +kernel
theorem dX7_juggler_0 : decode cX7_juggler 0 = .ok (.iload_n 1, 1) := by decide +kernel
theorem dX7_juggler_1 : decode cX7_juggler 1 = .ok (.tableswitch 94 0 5 #[39, 47, 55, 63, 73, 83], 39) := by decide +kernel
theorem dX7_juggler_40 : decode cX7_juggler 40 = .ok (.aload_n 0, 1) := by decide +kernel
theorem dX7_juggler_41 : decode cX7_juggler 41 = .ok (.getfield 10, 3) := by decide +kernel
theorem dX7_juggler_44 : decode cX7_juggler 44 = .ok (.getfield 144, 3) := by decide +kernel
theorem dX7_juggler_47 : decode cX7_juggler 47 = .ok (.ireturn, 1) := by decide +kernel
theorem dX7_juggler_48 : decode cX7_juggler 48 = .ok (.aload_n 0, 1) := by decide +kernel
theorem dX7_juggler_49 : decode cX7_juggler 49 = .ok (.getfield 10, 3) := by decide +kernel
theorem dX7_juggler_52 : decode cX7_juggler 52 = .ok (.invokevirtual 147, 3) := by decide +kernel
theorem dX7_juggler_55 : decode cX7_juggler 55 = .ok (.ireturn, 1) := by decide +kernel
theorem dX7_juggler_56 : decode cX7_juggler 56 = .ok (.aload_n 0, 1) := by decide +kernel
theorem dX7_juggler_57 : decode cX7_juggler 57 = .ok (.getfield 10, 3) := by decide +kernel
theorem dX7_juggler_60 : decode cX7_juggler 60 = .ok (.getfield 148, 3) := by decide +kernel
theorem dX7_juggler_63 : decode cX7_juggler 63 = .ok (.ireturn, 1) := by decide +kernel
theorem dX7_juggler_64 : decode cX7_juggler 64 = .ok (.aload_n 0, 1) := by decide +kernel
theorem dX7_juggler_65 : decode cX7_juggler 65 = .ok (.getfield 10, 3) := by decide +kernel
theorem dX7_juggler_68 : decode cX7_juggler 68 = .ok (.getfield 148, 3) := by decide +kernel
theorem dX7_juggler_71 : decode cX7_juggler 71 = .ok (.iconst 1, 1) := by decide +kernel
theorem dX7_juggler_72 : decode cX7_juggler 72 = .ok (.iand, 1) := by decide +kernel
theorem dX7_juggler_73 : decode cX7_juggler 73 = .ok (.ireturn, 1) := by decide +kernel
theorem dX7_juggler_74 : decode cX7_juggler 74 = .ok (.aload_n 0, 1) := by decide +kernel
theorem dX7_juggler_75 : decode cX7_juggler 75 = .ok (.getfield 10, 3) := by decide +kernel
theorem dX7_juggler_78 : decode cX7_juggler 78 = .ok (.getfield 144, 3) := by decide +kernel
theorem dX7_juggler_81 : decode cX7_juggler 81 = .ok (.iconst 1, 1) := by decide +kernel
theorem dX7_juggler_82 : decode cX7_juggler 82 = .ok (.iand, 1) := by decide +kernel
theorem dX7_juggler_83 : decode cX7_juggler 83 = .ok (.ireturn, 1) := by decide +kernel
theorem dX7_juggler_84 : decode cX7_juggler 84 = .ok (.aload_n 0, 1) := by decide +kernel
theorem dX7_juggler_85 : decode cX7_juggler 85 = .ok (.getfield 10, 3) := by decide +kernel
theorem dX7_juggler_88 : decode cX7_juggler 88 = .ok (.getfield 144, 3) := by decide +kernel
theorem dX7_juggler_91 : decode cX7_juggler 91 = .ok (.invokestatic 151, 3) := by decide +kernel
theorem dX7_juggler_94 : decode cX7_juggler 94 = .ok (.ireturn, 1) := by decide +kernel
theorem dX7_juggler_95 : decode cX7_juggler 95 = .ok (.bipush (-2), 2) := by decide +kernel
theorem dX7_juggler_97 : decode cX7_juggler 97 = .ok (.ireturn, 1) := by decide +kernel
theorem dX7_could_0 : decode cX7_could 0 = .ok (.iconst 0, 1) := by decide +kernel
theorem dX7_could_1 : decode cX7_could 1 = .ok (.istore_n 2, 1) := by decide +kernel
theorem dX7_could_2 : decode cX7_could 2 = .ok (.iconst 0, 1) := by decide +kernel
theorem dX7_could_3 : decode cX7_could 3 = .ok (.istore_n 3, 1) := by decide +kernel
theorem dX7_could_4 : decode cX7_could 4 = .ok (.iload_n 3, 1) := by decide +kernel
theorem dX7_could_5 : decode cX7_could 5 = .ok (.bipush 9, 2) := by decide +kernel
theorem dX7_could_7 : decode cX7_could 7 = .ok (.if_icmp .gt 33, 3) := by decide +kernel
theorem dX7_could_10 : decode cX7_could 10 = .ok (.aload_n 0, 1) := by decide +kernel
theorem dX7_could_11 : decode cX7_could 11 = .ok (.getfield 10, 3) := by decide +kernel
theorem dX7_could_14 : decode cX7_could 14 = .ok (.getfield 144, 3) := by decide +kernel
theorem dX7_could_17 : decode cX7_could 17 = .ok (.iload_n 3, 1) := by decide +kernel
theorem dX7_could_18 : decode cX7_could 18 = .ok (.invokestatic 154, 3) := by decide +kernel
theorem dX7_could_21 : decode cX7_could 21 = .ok (.ifCond .eq 13, 3) := by decide +kernel
theorem dX7_could_24 : decode cX7_could 24 = .ok (.iload_n 2, 1) := by decide +kernel
theorem dX7_could_25 : decode cX7_could 25 = .ok (.iload_n 1, 1) := by decide +kernel
theorem dX7_could_26 : decode cX7_could 26 = .ok (.if_icmp .ne 5, 3) := by decide +kernel
theorem dX7_could_29 : decode cX7_could 29 = .ok (.iload_n 3, 1) := by decide +kernel
theorem dX7_could_30 : decode cX7_could 30 = .ok (.ireturn, 1) := by decide +kernel
theorem dX7_could_31 : decode cX7_could 31 = .ok (.iinc 2 1, 3) := by decide +kernel
theorem dX7_could_34 : decode cX7_could 34 = .ok (.iinc 3 1, 3) := by decide +kernel
theorem dX7_could_37 : decode cX7_could 37 = .ok (.goto (-33), 3) := by decide +kernel
theorem dX7_could_40 : decode cX7_could 40 = .ok (.iconst (-1), 1) := by decide +kernel
theorem dX7_could_41 : decode cX7_could 41 = .ok (.ireturn, 1) := by decide +kernel
theorem dX7_joinTo_0 : decode cX7_joinTo 0 = .ok (.aload_n 0, 1) := by decide +kernel
theorem dX7_joinTo_1 : decode cX7_joinTo 1 = .ok (.getfield 10, 3) := by decide +kernel
theorem dX7_joinTo_4 : decode cX7_joinTo 4 = .ok (.iload_n 1, 1) := by decide +kernel
theorem dX7_joinTo_5 : decode cX7_joinTo 5 = .ok (.invokevirtual 98, 3) := by decide +kernel
theorem dX7_joinTo_8 : decode cX7_joinTo 8 = .ok (.astore_n 2, 1) := by decide +kernel
theorem dX7_joinTo_9 : decode cX7_joinTo 9 = .ok (.aload_n 2, 1) := by decide +kernel
theorem dX7_joinTo_10 : decode cX7_joinTo 10 = .ok (.ifnonnull 5, 3) := by decide +kernel
theorem dX7_joinTo_13 : decode cX7_joinTo 13 = .ok (.iconst (-1), 1) := by decide +kernel
theorem dX7_joinTo_14 : decode cX7_joinTo 14 = .ok (.ireturn, 1) := by decide +kernel
theorem dX7_joinTo_15 : decode cX7_joinTo 15 = .ok (.aload_n 0, 1) := by decide +kernel
theorem dX7_joinTo_16 : decode cX7_joinTo 16 = .ok (.aload_n 2, 1) := by decide +kernel
theorem dX7_joinTo_17 : decode cX7_joinTo 17 = .ok (.invokevirtual 158, 3) := by decide +kernel
theorem dX7_joinTo_20 : decode cX7_joinTo 20 = .ok (.ifCond .eq 25, 3) := by decide +kernel
theorem dX7_joinTo_23 : decode cX7_joinTo 23 = .ok (.aload_n 0, 1) := by decide +kernel
theorem dX7_joinTo_24 : decode cX7_joinTo 24 = .ok (.getfield 32, 3) := by decide +kernel
theorem dX7_joinTo_27 : decode cX7_joinTo 27 = .ok (.aload_n 0, 1) := by decide +kernel
theorem dX7_joinTo_28 : decode cX7_joinTo 28 = .ok (.getfield 10, 3) := by decide +kernel
theorem dX7_joinTo_31 : decode cX7_joinTo 31 = .ok (.getfield 144, 3) := by decide +kernel
theorem dX7_joinTo_34 : decode cX7_joinTo 34 = .ok (.aload_n 2, 1) := by decide +kernel
theorem dX7_joinTo_35 : decode cX7_joinTo 35 = .ok (.iconst 0, 1) := by decide +kernel
theorem dX7_joinTo_36 : decode cX7_joinTo 36 = .ok (.invokevirtual 141, 3) := by decide +kernel
theorem dX7_joinTo_39 : decode cX7_joinTo 39 = .ok (.invokevirtual 162, 3) := by decide +kernel
theorem dX7_joinTo_42 : decode cX7_joinTo 42 = .ok (.goto 5, 3) := by decide +kernel
theorem dX7_joinTo_45 : decode cX7_joinTo 45 = .ok (.bipush (-4), 2) := by decide +kernel
theorem dX7_joinTo_47 : decode cX7_joinTo 47 = .ok (.ireturn, 1) := by decide +kernel
theorem dX7_joinAgain_0 : decode cX7_joinAgain 0 = .ok (.aload_n 0, 1) := by decide +kernel
theorem dX7_joinAgain_1 : decode cX7_joinAgain 1 = .ok (.getfield 10, 3) := by decide +kernel
theorem dX7_joinAgain_4 : decode cX7_joinAgain 4 = .ok (.iload_n 1, 1) := by decide +kernel
theorem dX7_joinAgain_5 : decode cX7_joinAgain 5 = .ok (.invokevirtual 98, 3) := by decide +kernel
theorem dX7_joinAgain_8 : decode cX7_joinAgain 8 = .ok (.astore_n 2, 1) := by decide +kernel
theorem dX7_joinAgain_9 : decode cX7_joinAgain 9 = .ok (.aload_n 2, 1) := by decide +kernel
theorem dX7_joinAgain_10 : decode cX7_joinAgain 10 = .ok (.ifnonnull 5, 3) := by decide +kernel
theorem dX7_joinAgain_13 : decode cX7_joinAgain 13 = .ok (.iconst (-1), 1) := by decide +kernel
theorem dX7_joinAgain_14 : decode cX7_joinAgain 14 = .ok (.ireturn, 1) := by decide +kernel
theorem dX7_joinAgain_15 : decode cX7_joinAgain 15 = .ok (.aload_n 0, 1) := by decide +kernel
theorem dX7_joinAgain_16 : decode cX7_joinAgain 16 = .ok (.aload_n 2, 1) := by decide +kernel
theorem dX7_joinAgain_17 : decode cX7_joinAgain 17 = .ok (.invokevirtual 158, 3) := by decide +kernel
theorem dX7_joinAgain_20 : decode cX7_joinAgain 20 = .ok (.ifCond .eq 25, 3) := by decide +kernel
theorem dX7_joinAgain_23 : decode cX7_joinAgain 23 = .ok (.aload_n 0, 1) := by decide +kernel
theorem dX7_joinAgain_24 : decode cX7_joinAgain 24 = .ok (.getfield 32, 3) := by decide +kernel
theorem dX7_joinAgain_27 : decode cX7_joinAgain 27 = .ok (.aload_n 0, 1) := by decide +kernel
theorem dX7_joinAgain_28 : decode cX7_joinAgain 28 = .ok (.getfield 10, 3) := by decide +kernel
theorem dX7_joinAgain_31 : decode cX7_joinAgain 31 = .ok (.getfield 144, 3) := by decide +kernel
theorem dX7_joinAgain_34 : decode cX7_joinAgain 34 = .ok (.aload_n 2, 1) := by decide +kernel
theorem dX7_joinAgain_35 : decode cX7_joinAgain 35 = .ok (.iconst 0, 1) := by decide +kernel
theorem dX7_joinAgain_36 : decode cX7_joinAgain 36 = .ok (.invokevirtual 141, 3) := by decide +kernel
theorem dX7_joinAgain_39 : decode cX7_joinAgain 39 = .ok (.invokevirtual 165, 3) := by decide +kernel
theorem dX7_joinAgain_42 : decode cX7_joinAgain 42 = .ok (.goto 5, 3) := by decide +kernel
theorem dX7_joinAgain_45 : decode cX7_joinAgain 45 = .ok (.bipush (-4), 2) := by decide +kernel
theorem dX7_joinAgain_47 : decode cX7_joinAgain 47 = .ok (.ireturn, 1) := by decide +kernel
theorem dX7_joinThrow_0 : decode cX7_joinThrow 0 = .ok (.aload_n 0, 1) := by decide +kernel
theorem dX7_joinThrow_1 : decode cX7_joinThrow 1 = .ok (.getfield 10, 3) := by decide +kernel
theorem dX7_joinThrow_4 : decode cX7_joinThrow 4 = .ok (.iload_n 1, 1) := by decide +kernel
theorem dX7_joinThrow_5 : decode cX7_joinThrow 5 = .ok (.invokevirtual 98, 3) := by decide +kernel
theorem dX7_joinThrow_8 : decode cX7_joinThrow 8 = .ok (.astore_n 3, 1) := by decide +kernel
theorem dX7_joinThrow_9 : decode cX7_joinThrow 9 = .ok (.aload_n 3, 1) := by decide +kernel
theorem dX7_joinThrow_10 : decode cX7_joinThrow 10 = .ok (.ifnonnull 5, 3) := by decide +kernel
theorem dX7_joinThrow_13 : decode cX7_joinThrow 13 = .ok (.iconst (-1), 1) := by decide +kernel
theorem dX7_joinThrow_14 : decode cX7_joinThrow 14 = .ok (.ireturn, 1) := by decide +kernel
theorem dX7_joinThrow_15 : decode cX7_joinThrow 15 = .ok (.aload_n 0, 1) := by decide +kernel
theorem dX7_joinThrow_16 : decode cX7_joinThrow 16 = .ok (.aload_n 3, 1) := by decide +kernel
theorem dX7_joinThrow_17 : decode cX7_joinThrow 17 = .ok (.invokevirtual 158, 3) := by decide +kernel
theorem dX7_joinThrow_20 : decode cX7_joinThrow 20 = .ok (.ifCond .ne 6, 3) := by decide +kernel
theorem dX7_joinThrow_23 : decode cX7_joinThrow 23 = .ok (.bipush (-4), 2) := by decide +kernel
theorem dX7_joinThrow_25 : decode cX7_joinThrow 25 = .ok (.ireturn, 1) := by decide +kernel
theorem dX7_joinThrow_26 : decode cX7_joinThrow 26 = .ok (.aload_n 0, 1) := by decide +kernel
theorem dX7_joinThrow_27 : decode cX7_joinThrow 27 = .ok (.getfield 32, 3) := by decide +kernel
theorem dX7_joinThrow_30 : decode cX7_joinThrow 30 = .ok (.aload_n 0, 1) := by decide +kernel
theorem dX7_joinThrow_31 : decode cX7_joinThrow 31 = .ok (.getfield 10, 3) := by decide +kernel
theorem dX7_joinThrow_34 : decode cX7_joinThrow 34 = .ok (.getfield 144, 3) := by decide +kernel
theorem dX7_joinThrow_37 : decode cX7_joinThrow 37 = .ok (.aload_n 3, 1) := by decide +kernel
theorem dX7_joinThrow_38 : decode cX7_joinThrow 38 = .ok (.iconst 0, 1) := by decide +kernel
theorem dX7_joinThrow_39 : decode cX7_joinThrow 39 = .ok (.invokevirtual 141, 3) := by decide +kernel
theorem dX7_joinThrow_42 : decode cX7_joinThrow 42 = .ok (.invokevirtual 168, 3) := by decide +kernel
theorem dX7_joinThrow_45 : decode cX7_joinThrow 45 = .ok (.istore 4, 2) := by decide +kernel
theorem dX7_joinThrow_47 : decode cX7_joinThrow 47 = .ok (.iload_n 2, 1) := by decide +kernel
theorem dX7_joinThrow_48 : decode cX7_joinThrow 48 = .ok (.ifCond .lt 20, 3) := by decide +kernel
theorem dX7_joinThrow_51 : decode cX7_joinThrow 51 = .ok (.iload_n 2, 1) := by decide +kernel
theorem dX7_joinThrow_52 : decode cX7_joinThrow 52 = .ok (.iload 4, 2) := by decide +kernel
theorem dX7_joinThrow_54 : decode cX7_joinThrow 54 = .ok (.if_icmp .ge 14, 3) := by decide +kernel
theorem dX7_joinThrow_57 : decode cX7_joinThrow 57 = .ok (.aload_n 0, 1) := by decide +kernel
theorem dX7_joinThrow_58 : decode cX7_joinThrow 58 = .ok (.getfield 32, 3) := by decide +kernel
theorem dX7_joinThrow_61 : decode cX7_joinThrow 61 = .ok (.iload_n 2, 1) := by decide +kernel
theorem dX7_joinThrow_62 : decode cX7_joinThrow 62 = .ok (.invokevirtual 171, 3) := by decide +kernel
theorem dX7_joinThrow_65 : decode cX7_joinThrow 65 = .ok (.goto 4, 3) := by decide +kernel
theorem dX7_joinThrow_68 : decode cX7_joinThrow 68 = .ok (.iconst (-1), 1) := by decide +kernel
theorem dX7_joinThrow_69 : decode cX7_joinThrow 69 = .ok (.ireturn, 1) := by decide +kernel
theorem dX7_between_0 : decode cX7_between 0 = .ok (.aload_n 0, 1) := by decide +kernel
theorem dX7_between_1 : decode cX7_between 1 = .ok (.getfield 10, 3) := by decide +kernel
theorem dX7_between_4 : decode cX7_between 4 = .ok (.iload_n 1, 1) := by decide +kernel
theorem dX7_between_5 : decode cX7_between 5 = .ok (.invokevirtual 98, 3) := by decide +kernel
theorem dX7_between_8 : decode cX7_between 8 = .ok (.astore_n 3, 1) := by decide +kernel
theorem dX7_between_9 : decode cX7_between 9 = .ok (.aload_n 0, 1) := by decide +kernel
theorem dX7_between_10 : decode cX7_between 10 = .ok (.getfield 10, 3) := by decide +kernel
theorem dX7_between_13 : decode cX7_between 13 = .ok (.iload_n 2, 1) := by decide +kernel
theorem dX7_between_14 : decode cX7_between 14 = .ok (.invokevirtual 98, 3) := by decide +kernel
theorem dX7_between_17 : decode cX7_between 17 = .ok (.astore 4, 2) := by decide +kernel
theorem dX7_between_19 : decode cX7_between 19 = .ok (.aload_n 3, 1) := by decide +kernel
theorem dX7_between_20 : decode cX7_between 20 = .ok (.ifnull 8, 3) := by decide +kernel
theorem dX7_between_23 : decode cX7_between 23 = .ok (.aload 4, 2) := by decide +kernel
theorem dX7_between_25 : decode cX7_between 25 = .ok (.ifnonnull 5, 3) := by decide +kernel
theorem dX7_between_28 : decode cX7_between 28 = .ok (.iconst (-1), 1) := by decide +kernel
theorem dX7_between_29 : decode cX7_between 29 = .ok (.ireturn, 1) := by decide +kernel
theorem dX7_between_30 : decode cX7_between 30 = .ok (.aload_n 3, 1) := by decide +kernel
theorem dX7_between_31 : decode cX7_between 31 = .ok (.invokevirtual 112, 3) := by decide +kernel
theorem dX7_between_34 : decode cX7_between 34 = .ok (.istore 5, 2) := by decide +kernel
theorem dX7_between_36 : decode cX7_between 36 = .ok (.iload 5, 2) := by decide +kernel
theorem dX7_between_38 : decode cX7_between 38 = .ok (.bipush (-4), 2) := by decide +kernel
theorem dX7_between_40 : decode cX7_between 40 = .ok (.if_icmp .eq 13, 3) := by decide +kernel
theorem dX7_between_43 : decode cX7_between 43 = .ok (.iload 5, 2) := by decide +kernel
theorem dX7_between_45 : decode cX7_between 45 = .ok (.aload 4, 2) := by decide +kernel
theorem dX7_between_47 : decode cX7_between 47 = .ok (.invokevirtual 112, 3) := by decide +kernel
theorem dX7_between_50 : decode cX7_between 50 = .ok (.if_icmp .eq 6, 3) := by decide +kernel
theorem dX7_between_53 : decode cX7_between 53 = .ok (.bipush (-4), 2) := by decide +kernel
theorem dX7_between_55 : decode cX7_between 55 = .ok (.ireturn, 1) := by decide +kernel
theorem dX7_between_56 : decode cX7_between 56 = .ok (.aload_n 0, 1) := by decide +kernel
theorem dX7_between_57 : decode cX7_between 57 = .ok (.getfield 32, 3) := by decide +kernel
theorem dX7_between_60 : decode cX7_between 60 = .ok (.aload_n 3, 1) := by decide +kernel
theorem dX7_between_61 : decode cX7_between 61 = .ok (.iconst 0, 1) := by decide +kernel
theorem dX7_between_62 : decode cX7_between 62 = .ok (.invokevirtual 141, 3) := by decide +kernel
theorem dX7_between_65 : decode cX7_between 65 = .ok (.aload 4, 2) := by decide +kernel
theorem dX7_between_67 : decode cX7_between 67 = .ok (.iconst 0, 1) := by decide +kernel
theorem dX7_between_68 : decode cX7_between 68 = .ok (.invokevirtual 141, 3) := by decide +kernel
theorem dX7_between_71 : decode cX7_between 71 = .ok (.invokevirtual 162, 3) := by decide +kernel
theorem dX7_between_74 : decode cX7_between 74 = .ok (.ireturn, 1) := by decide +kernel
theorem dX7_ranked_0 : decode cX7_ranked 0 = .ok (.iload_n 1, 1) := by decide +kernel
theorem dX7_ranked_1 : decode cX7_ranked 1 = .ok (.ifCond .lt 8, 3) := by decide +kernel
theorem dX7_ranked_4 : decode cX7_ranked 4 = .ok (.iload_n 1, 1) := by decide +kernel
theorem dX7_ranked_5 : decode cX7_ranked 5 = .ok (.iconst 2, 1) := by decide +kernel
theorem dX7_ranked_6 : decode cX7_ranked 6 = .ok (.if_icmp .le 6, 3) := by decide +kernel
theorem dX7_ranked_9 : decode cX7_ranked 9 = .ok (.bipush (-2), 2) := by decide +kernel
theorem dX7_ranked_11 : decode cX7_ranked 11 = .ok (.ireturn, 1) := by decide +kernel
theorem dX7_ranked_12 : decode cX7_ranked 12 = .ok (.iload_n 2, 1) := by decide +kernel
theorem dX7_ranked_13 : decode cX7_ranked 13 = .ok (.ifCond .lt 14, 3) := by decide +kernel
theorem dX7_ranked_16 : decode cX7_ranked 16 = .ok (.iload_n 2, 1) := by decide +kernel
theorem dX7_ranked_17 : decode cX7_ranked 17 = .ok (.aload_n 0, 1) := by decide +kernel
theorem dX7_ranked_18 : decode cX7_ranked 18 = .ok (.getfield 10, 3) := by decide +kernel
theorem dX7_ranked_21 : decode cX7_ranked 21 = .ok (.getfield 172, 3) := by decide +kernel
theorem dX7_ranked_24 : decode cX7_ranked 24 = .ok (.if_icmp .lt 5, 3) := by decide +kernel
theorem dX7_ranked_27 : decode cX7_ranked 27 = .ok (.iconst (-1), 1) := by decide +kernel
theorem dX7_ranked_28 : decode cX7_ranked 28 = .ok (.ireturn, 1) := by decide +kernel
theorem dX7_ranked_29 : decode cX7_ranked 29 = .ok (.iconst 0, 1) := by decide +kernel
theorem dX7_ranked_30 : decode cX7_ranked 30 = .ok (.istore_n 3, 1) := by decide +kernel
theorem dX7_ranked_31 : decode cX7_ranked 31 = .ok (.iload_n 3, 1) := by decide +kernel
theorem dX7_ranked_32 : decode cX7_ranked 32 = .ok (.aload_n 0, 1) := by decide +kernel
theorem dX7_ranked_33 : decode cX7_ranked 33 = .ok (.getfield 10, 3) := by decide +kernel
theorem dX7_ranked_36 : decode cX7_ranked 36 = .ok (.getfield 172, 3) := by decide +kernel
theorem dX7_ranked_39 : decode cX7_ranked 39 = .ok (.if_icmp .ge 30, 3) := by decide +kernel
theorem dX7_ranked_42 : decode cX7_ranked 42 = .ok (.iload_n 3, 1) := by decide +kernel
theorem dX7_ranked_43 : decode cX7_ranked 43 = .ok (.aload_n 0, 1) := by decide +kernel
theorem dX7_ranked_44 : decode cX7_ranked 44 = .ok (.getfield 57, 3) := by decide +kernel
theorem dX7_ranked_47 : decode cX7_ranked 47 = .ok (.arraylength, 1) := by decide +kernel
theorem dX7_ranked_48 : decode cX7_ranked 48 = .ok (.if_icmp .ge 21, 3) := by decide +kernel
theorem dX7_ranked_51 : decode cX7_ranked 51 = .ok (.aload_n 0, 1) := by decide +kernel
theorem dX7_ranked_52 : decode cX7_ranked 52 = .ok (.getfield 57, 3) := by decide +kernel
theorem dX7_ranked_55 : decode cX7_ranked 55 = .ok (.iload_n 3, 1) := by decide +kernel
theorem dX7_ranked_56 : decode cX7_ranked 56 = .ok (.aload_n 0, 1) := by decide +kernel
theorem dX7_ranked_57 : decode cX7_ranked 57 = .ok (.iload_n 1, 1) := by decide +kernel
theorem dX7_ranked_58 : decode cX7_ranked 58 = .ok (.iload_n 3, 1) := by decide +kernel
theorem dX7_ranked_59 : decode cX7_ranked 59 = .ok (.invokevirtual 175, 3) := by decide +kernel
theorem dX7_ranked_62 : decode cX7_ranked 62 = .ok (.iastore, 1) := by decide +kernel
theorem dX7_ranked_63 : decode cX7_ranked 63 = .ok (.iinc 3 1, 3) := by decide +kernel
theorem dX7_ranked_66 : decode cX7_ranked 66 = .ok (.goto (-35), 3) := by decide +kernel
theorem dX7_ranked_69 : decode cX7_ranked 69 = .ok (.iconst 0, 1) := by decide +kernel
theorem dX7_ranked_70 : decode cX7_ranked 70 = .ok (.istore_n 3, 1) := by decide +kernel
theorem dX7_ranked_71 : decode cX7_ranked 71 = .ok (.iload_n 3, 1) := by decide +kernel
theorem dX7_ranked_72 : decode cX7_ranked 72 = .ok (.aload_n 0, 1) := by decide +kernel
theorem dX7_ranked_73 : decode cX7_ranked 73 = .ok (.getfield 10, 3) := by decide +kernel
theorem dX7_ranked_76 : decode cX7_ranked 76 = .ok (.getfield 172, 3) := by decide +kernel
theorem dX7_ranked_79 : decode cX7_ranked 79 = .ok (.if_icmp .ge 20, 3) := by decide +kernel
theorem dX7_ranked_82 : decode cX7_ranked 82 = .ok (.aload_n 0, 1) := by decide +kernel
theorem dX7_ranked_83 : decode cX7_ranked 83 = .ok (.iload_n 3, 1) := by decide +kernel
theorem dX7_ranked_84 : decode cX7_ranked 84 = .ok (.invokevirtual 178, 3) := by decide +kernel
theorem dX7_ranked_87 : decode cX7_ranked 87 = .ok (.iload_n 2, 1) := by decide +kernel
theorem dX7_ranked_88 : decode cX7_ranked 88 = .ok (.if_icmp .ne 5, 3) := by decide +kernel
theorem dX7_ranked_91 : decode cX7_ranked 91 = .ok (.iload_n 3, 1) := by decide +kernel
theorem dX7_ranked_92 : decode cX7_ranked 92 = .ok (.ireturn, 1) := by decide +kernel
theorem dX7_ranked_93 : decode cX7_ranked 93 = .ok (.iinc 3 1, 3) := by decide +kernel
theorem dX7_ranked_96 : decode cX7_ranked 96 = .ok (.goto (-25), 3) := by decide +kernel
theorem dX7_ranked_99 : decode cX7_ranked 99 = .ok (.iconst (-1), 1) := by decide +kernel
theorem dX7_ranked_100 : decode cX7_ranked 100 = .ok (.ireturn, 1) := by decide +kernel
theorem dX7_tellRow_0 : decode cX7_tellRow 0 = .ok (.aload_n 0, 1) := by decide +kernel
theorem dX7_tellRow_1 : decode cX7_tellRow 1 = .ok (.getfield 10, 3) := by decide +kernel
theorem dX7_tellRow_4 : decode cX7_tellRow 4 = .ok (.iload_n 1, 1) := by decide +kernel
theorem dX7_tellRow_5 : decode cX7_tellRow 5 = .ok (.invokevirtual 98, 3) := by decide +kernel
theorem dX7_tellRow_8 : decode cX7_tellRow 8 = .ok (.astore_n 2, 1) := by decide +kernel
theorem dX7_tellRow_9 : decode cX7_tellRow 9 = .ok (.aload_n 2, 1) := by decide +kernel
theorem dX7_tellRow_10 : decode cX7_tellRow 10 = .ok (.ifnonnull 5, 3) := by decide +kernel
theorem dX7_tellRow_13 : decode cX7_tellRow 13 = .ok (.iconst (-1), 1) := by decide +kernel
theorem dX7_tellRow_14 : decode cX7_tellRow 14 = .ok (.ireturn, 1) := by decide +kernel
theorem dX7_tellRow_15 : decode cX7_tellRow 15 = .ok (.aload_n 0, 1) := by decide +kernel
theorem dX7_tellRow_16 : decode cX7_tellRow 16 = .ok (.getfield 39, 3) := by decide +kernel
theorem dX7_tellRow_19 : decode cX7_tellRow 19 = .ok (.invokevirtual 181, 3) := by decide +kernel
theorem dX7_tellRow_22 : decode cX7_tellRow 22 = .ok (.iconst 0, 1) := by decide +kernel
theorem dX7_tellRow_23 : decode cX7_tellRow 23 = .ok (.istore_n 3, 1) := by decide +kernel
theorem dX7_tellRow_24 : decode cX7_tellRow 24 = .ok (.iload_n 3, 1) := by decide +kernel
theorem dX7_tellRow_25 : decode cX7_tellRow 25 = .ok (.aload_n 2, 1) := by decide +kernel
theorem dX7_tellRow_26 : decode cX7_tellRow 26 = .ok (.getfield 102, 3) := by decide +kernel
theorem dX7_tellRow_29 : decode cX7_tellRow 29 = .ok (.if_icmp .ge 21, 3) := by decide +kernel
theorem dX7_tellRow_32 : decode cX7_tellRow 32 = .ok (.aload_n 0, 1) := by decide +kernel
theorem dX7_tellRow_33 : decode cX7_tellRow 33 = .ok (.getfield 39, 3) := by decide +kernel
theorem dX7_tellRow_36 : decode cX7_tellRow 36 = .ok (.aload_n 2, 1) := by decide +kernel
theorem dX7_tellRow_37 : decode cX7_tellRow 37 = .ok (.iload_n 3, 1) := by decide +kernel
theorem dX7_tellRow_38 : decode cX7_tellRow 38 = .ok (.invokevirtual 134, 3) := by decide +kernel
theorem dX7_tellRow_41 : decode cX7_tellRow 41 = .ok (.invokevirtual 184, 3) := by decide +kernel
theorem dX7_tellRow_44 : decode cX7_tellRow 44 = .ok (.iinc 3 1, 3) := by decide +kernel
theorem dX7_tellRow_47 : decode cX7_tellRow 47 = .ok (.goto (-23), 3) := by decide +kernel
theorem dX7_tellRow_50 : decode cX7_tellRow 50 = .ok (.aload_n 2, 1) := by decide +kernel
theorem dX7_tellRow_51 : decode cX7_tellRow 51 = .ok (.invokevirtual 115, 3) := by decide +kernel
theorem dX7_tellRow_54 : decode cX7_tellRow 54 = .ok (.istore_n 3, 1) := by decide +kernel
theorem dX7_tellRow_55 : decode cX7_tellRow 55 = .ok (.iload_n 3, 1) := by decide +kernel
theorem dX7_tellRow_56 : decode cX7_tellRow 56 = .ok (.bipush (-4), 2) := by decide +kernel
theorem dX7_tellRow_58 : decode cX7_tellRow 58 = .ok (.if_icmp .ne 26, 3) := by decide +kernel
theorem dX7_tellRow_61 : decode cX7_tellRow 61 = .ok (.aload_n 0, 1) := by decide +kernel
theorem dX7_tellRow_62 : decode cX7_tellRow 62 = .ok (.getfield 39, 3) := by decide +kernel
theorem dX7_tellRow_65 : decode cX7_tellRow 65 = .ok (.bipush 61, 2) := by decide +kernel
theorem dX7_tellRow_67 : decode cX7_tellRow 67 = .ok (.invokevirtual 188, 3) := by decide +kernel
theorem dX7_tellRow_70 : decode cX7_tellRow 70 = .ok (.aload_n 0, 1) := by decide +kernel
theorem dX7_tellRow_71 : decode cX7_tellRow 71 = .ok (.getfield 39, 3) := by decide +kernel
theorem dX7_tellRow_74 : decode cX7_tellRow 74 = .ok (.aload_n 2, 1) := by decide +kernel
theorem dX7_tellRow_75 : decode cX7_tellRow 75 = .ok (.invokevirtual 112, 3) := by decide +kernel
theorem dX7_tellRow_78 : decode cX7_tellRow 78 = .ok (.invokevirtual 184, 3) := by decide +kernel
theorem dX7_tellRow_81 : decode cX7_tellRow 81 = .ok (.goto 20, 3) := by decide +kernel
theorem dX7_tellRow_84 : decode cX7_tellRow 84 = .ok (.aload_n 0, 1) := by decide +kernel
theorem dX7_tellRow_85 : decode cX7_tellRow 85 = .ok (.getfield 39, 3) := by decide +kernel
theorem dX7_tellRow_88 : decode cX7_tellRow 88 = .ok (.bipush 33, 2) := by decide +kernel
theorem dX7_tellRow_90 : decode cX7_tellRow 90 = .ok (.invokevirtual 188, 3) := by decide +kernel
theorem dX7_tellRow_93 : decode cX7_tellRow 93 = .ok (.aload_n 0, 1) := by decide +kernel
theorem dX7_tellRow_94 : decode cX7_tellRow 94 = .ok (.getfield 39, 3) := by decide +kernel
theorem dX7_tellRow_97 : decode cX7_tellRow 97 = .ok (.iload_n 3, 1) := by decide +kernel
theorem dX7_tellRow_98 : decode cX7_tellRow 98 = .ok (.invokevirtual 184, 3) := by decide +kernel
theorem dX7_tellRow_101 : decode cX7_tellRow 101 = .ok (.aload_n 0, 1) := by decide +kernel
theorem dX7_tellRow_102 : decode cX7_tellRow 102 = .ok (.getfield 39, 3) := by decide +kernel
theorem dX7_tellRow_105 : decode cX7_tellRow 105 = .ok (.getfield 192, 3) := by decide +kernel
theorem dX7_tellRow_108 : decode cX7_tellRow 108 = .ok (.ireturn, 1) := by decide +kernel
theorem dX7_tellState_0 : decode cX7_tellState 0 = .ok (.aload_n 0, 1) := by decide +kernel
theorem dX7_tellState_1 : decode cX7_tellState 1 = .ok (.getfield 39, 3) := by decide +kernel
theorem dX7_tellState_4 : decode cX7_tellState 4 = .ok (.invokevirtual 181, 3) := by decide +kernel
theorem dX7_tellState_7 : decode cX7_tellState 7 = .ok (.aload_n 0, 1) := by decide +kernel
theorem dX7_tellState_8 : decode cX7_tellState 8 = .ok (.getfield 10, 3) := by decide +kernel
theorem dX7_tellState_11 : decode cX7_tellState 11 = .ok (.getfield 144, 3) := by decide +kernel
theorem dX7_tellState_14 : decode cX7_tellState 14 = .ok (.istore_n 1, 1) := by decide +kernel
theorem dX7_tellState_15 : decode cX7_tellState 15 = .ok (.iconst 0, 1) := by decide +kernel
theorem dX7_tellState_16 : decode cX7_tellState 16 = .ok (.istore_n 2, 1) := by decide +kernel
theorem dX7_tellState_17 : decode cX7_tellState 17 = .ok (.iload_n 2, 1) := by decide +kernel
theorem dX7_tellState_18 : decode cX7_tellState 18 = .ok (.bipush 9, 2) := by decide +kernel
theorem dX7_tellState_20 : decode cX7_tellState 20 = .ok (.if_icmp .ge 41, 3) := by decide +kernel
theorem dX7_tellState_23 : decode cX7_tellState 23 = .ok (.iload_n 2, 1) := by decide +kernel
theorem dX7_tellState_24 : decode cX7_tellState 24 = .ok (.ifCond .eq 7, 3) := by decide +kernel
theorem dX7_tellState_27 : decode cX7_tellState 27 = .ok (.iload_n 1, 1) := by decide +kernel
theorem dX7_tellState_28 : decode cX7_tellState 28 = .ok (.ifCond .eq 33, 3) := by decide +kernel
theorem dX7_tellState_31 : decode cX7_tellState 31 = .ok (.aload_n 0, 1) := by decide +kernel
theorem dX7_tellState_32 : decode cX7_tellState 32 = .ok (.getfield 39, 3) := by decide +kernel
theorem dX7_tellState_35 : decode cX7_tellState 35 = .ok (.iload_n 1, 1) := by decide +kernel
theorem dX7_tellState_36 : decode cX7_tellState 36 = .ok (.iconst 1, 1) := by decide +kernel
theorem dX7_tellState_37 : decode cX7_tellState 37 = .ok (.iand, 1) := by decide +kernel
theorem dX7_tellState_38 : decode cX7_tellState 38 = .ok (.ifCond .eq 8, 3) := by decide +kernel
theorem dX7_tellState_41 : decode cX7_tellState 41 = .ok (.bipush 120, 2) := by decide +kernel
theorem dX7_tellState_43 : decode cX7_tellState 43 = .ok (.goto 5, 3) := by decide +kernel
theorem dX7_tellState_46 : decode cX7_tellState 46 = .ok (.bipush 45, 2) := by decide +kernel
theorem dX7_tellState_48 : decode cX7_tellState 48 = .ok (.invokevirtual 188, 3) := by decide +kernel
theorem dX7_tellState_51 : decode cX7_tellState 51 = .ok (.iload_n 1, 1) := by decide +kernel
theorem dX7_tellState_52 : decode cX7_tellState 52 = .ok (.iconst 1, 1) := by decide +kernel
theorem dX7_tellState_53 : decode cX7_tellState 53 = .ok (.ishr, 1) := by decide +kernel
theorem dX7_tellState_54 : decode cX7_tellState 54 = .ok (.istore_n 1, 1) := by decide +kernel
theorem dX7_tellState_55 : decode cX7_tellState 55 = .ok (.iinc 2 1, 3) := by decide +kernel
theorem dX7_tellState_58 : decode cX7_tellState 58 = .ok (.goto (-41), 3) := by decide +kernel
theorem dX7_tellState_61 : decode cX7_tellState 61 = .ok (.aload_n 0, 1) := by decide +kernel
theorem dX7_tellState_62 : decode cX7_tellState 62 = .ok (.getfield 39, 3) := by decide +kernel
theorem dX7_tellState_65 : decode cX7_tellState 65 = .ok (.getfield 192, 3) := by decide +kernel
theorem dX7_tellState_68 : decode cX7_tellState 68 = .ok (.ireturn, 1) := by decide +kernel
theorem dX7_tellJoin_0 : decode cX7_tellJoin 0 = .ok (.aload_n 0, 1) := by decide +kernel
theorem dX7_tellJoin_1 : decode cX7_tellJoin 1 = .ok (.getfield 10, 3) := by decide +kernel
theorem dX7_tellJoin_4 : decode cX7_tellJoin 4 = .ok (.iload_n 1, 1) := by decide +kernel
theorem dX7_tellJoin_5 : decode cX7_tellJoin 5 = .ok (.invokevirtual 98, 3) := by decide +kernel
theorem dX7_tellJoin_8 : decode cX7_tellJoin 8 = .ok (.astore_n 2, 1) := by decide +kernel
theorem dX7_tellJoin_9 : decode cX7_tellJoin 9 = .ok (.aload_n 2, 1) := by decide +kernel
theorem dX7_tellJoin_10 : decode cX7_tellJoin 10 = .ok (.ifnonnull 5, 3) := by decide +kernel
theorem dX7_tellJoin_13 : decode cX7_tellJoin 13 = .ok (.iconst (-1), 1) := by decide +kernel
theorem dX7_tellJoin_14 : decode cX7_tellJoin 14 = .ok (.ireturn, 1) := by decide +kernel
theorem dX7_tellJoin_15 : decode cX7_tellJoin 15 = .ok (.aload_n 0, 1) := by decide +kernel
theorem dX7_tellJoin_16 : decode cX7_tellJoin 16 = .ok (.aload_n 2, 1) := by decide +kernel
theorem dX7_tellJoin_17 : decode cX7_tellJoin 17 = .ok (.invokevirtual 158, 3) := by decide +kernel
theorem dX7_tellJoin_20 : decode cX7_tellJoin 20 = .ok (.ifCond .ne 6, 3) := by decide +kernel
theorem dX7_tellJoin_23 : decode cX7_tellJoin 23 = .ok (.bipush (-4), 2) := by decide +kernel
theorem dX7_tellJoin_25 : decode cX7_tellJoin 25 = .ok (.ireturn, 1) := by decide +kernel
theorem dX7_tellJoin_26 : decode cX7_tellJoin 26 = .ok (.aload_n 0, 1) := by decide +kernel
theorem dX7_tellJoin_27 : decode cX7_tellJoin 27 = .ok (.getfield 32, 3) := by decide +kernel
theorem dX7_tellJoin_30 : decode cX7_tellJoin 30 = .ok (.aload_n 0, 1) := by decide +kernel
theorem dX7_tellJoin_31 : decode cX7_tellJoin 31 = .ok (.getfield 10, 3) := by decide +kernel
theorem dX7_tellJoin_34 : decode cX7_tellJoin 34 = .ok (.getfield 144, 3) := by decide +kernel
theorem dX7_tellJoin_37 : decode cX7_tellJoin 37 = .ok (.aload_n 2, 1) := by decide +kernel
theorem dX7_tellJoin_38 : decode cX7_tellJoin 38 = .ok (.iconst 0, 1) := by decide +kernel
theorem dX7_tellJoin_39 : decode cX7_tellJoin 39 = .ok (.invokevirtual 141, 3) := by decide +kernel
theorem dX7_tellJoin_42 : decode cX7_tellJoin 42 = .ok (.invokevirtual 168, 3) := by decide +kernel
theorem dX7_tellJoin_45 : decode cX7_tellJoin 45 = .ok (.istore_n 3, 1) := by decide +kernel
theorem dX7_tellJoin_46 : decode cX7_tellJoin 46 = .ok (.aload_n 0, 1) := by decide +kernel
theorem dX7_tellJoin_47 : decode cX7_tellJoin 47 = .ok (.getfield 39, 3) := by decide +kernel
theorem dX7_tellJoin_50 : decode cX7_tellJoin 50 = .ok (.invokevirtual 181, 3) := by decide +kernel
theorem dX7_tellJoin_53 : decode cX7_tellJoin 53 = .ok (.iconst 0, 1) := by decide +kernel
theorem dX7_tellJoin_54 : decode cX7_tellJoin 54 = .ok (.istore 4, 2) := by decide +kernel
theorem dX7_tellJoin_56 : decode cX7_tellJoin 56 = .ok (.iload 4, 2) := by decide +kernel
theorem dX7_tellJoin_58 : decode cX7_tellJoin 58 = .ok (.iload_n 3, 1) := by decide +kernel
theorem dX7_tellJoin_59 : decode cX7_tellJoin 59 = .ok (.if_icmp .ge 25, 3) := by decide +kernel
theorem dX7_tellJoin_62 : decode cX7_tellJoin 62 = .ok (.aload_n 0, 1) := by decide +kernel
theorem dX7_tellJoin_63 : decode cX7_tellJoin 63 = .ok (.getfield 39, 3) := by decide +kernel
theorem dX7_tellJoin_66 : decode cX7_tellJoin 66 = .ok (.aload_n 0, 1) := by decide +kernel
theorem dX7_tellJoin_67 : decode cX7_tellJoin 67 = .ok (.getfield 32, 3) := by decide +kernel
theorem dX7_tellJoin_70 : decode cX7_tellJoin 70 = .ok (.iload 4, 2) := by decide +kernel
theorem dX7_tellJoin_72 : decode cX7_tellJoin 72 = .ok (.invokevirtual 171, 3) := by decide +kernel
theorem dX7_tellJoin_75 : decode cX7_tellJoin 75 = .ok (.invokevirtual 184, 3) := by decide +kernel
theorem dX7_tellJoin_78 : decode cX7_tellJoin 78 = .ok (.iinc 4 1, 3) := by decide +kernel
theorem dX7_tellJoin_81 : decode cX7_tellJoin 81 = .ok (.goto (-25), 3) := by decide +kernel
theorem dX7_tellJoin_84 : decode cX7_tellJoin 84 = .ok (.aload_n 0, 1) := by decide +kernel
theorem dX7_tellJoin_85 : decode cX7_tellJoin 85 = .ok (.getfield 39, 3) := by decide +kernel
theorem dX7_tellJoin_88 : decode cX7_tellJoin 88 = .ok (.getfield 192, 3) := by decide +kernel
theorem dX7_tellJoin_91 : decode cX7_tellJoin 91 = .ok (.ireturn, 1) := by decide +kernel
theorem dX7_sign_0 : decode cX7_sign 0 = .ok (.aload_n 0, 1) := by decide +kernel
theorem dX7_sign_1 : decode cX7_sign 1 = .ok (.getfield 39, 3) := by decide +kernel
theorem dX7_sign_4 : decode cX7_sign 4 = .ok (.iload_n 1, 1) := by decide +kernel
theorem dX7_sign_5 : decode cX7_sign 5 = .ok (.invokevirtual 193, 3) := by decide +kernel
theorem dX7_sign_8 : decode cX7_sign 8 = .ok (.ireturn, 1) := by decide +kernel
theorem dX7_append_0 : decode cX7_append 0 = .ok (.aload_n 0, 1) := by decide +kernel
theorem dX7_append_1 : decode cX7_append 1 = .ok (.getfield 46, 3) := by decide +kernel
theorem dX7_append_4 : decode cX7_append 4 = .ok (.iload_n 1, 1) := by decide +kernel
theorem dX7_append_5 : decode cX7_append 5 = .ok (.invokevirtual 196, 3) := by decide +kernel
theorem dX7_append_8 : decode cX7_append 8 = .ok (.ifCond .eq 13, 3) := by decide +kernel
theorem dX7_append_11 : decode cX7_append 11 = .ok (.aload_n 0, 1) := by decide +kernel
theorem dX7_append_12 : decode cX7_append 12 = .ok (.getfield 46, 3) := by decide +kernel
theorem dX7_append_15 : decode cX7_append 15 = .ok (.getfield 198, 3) := by decide +kernel
theorem dX7_append_18 : decode cX7_append 18 = .ok (.goto 5, 3) := by decide +kernel
theorem dX7_append_21 : decode cX7_append 21 = .ok (.bipush (-2), 2) := by decide +kernel
theorem dX7_append_23 : decode cX7_append 23 = .ok (.ireturn, 1) := by decide +kernel
theorem dX7_read_0 : decode cX7_read 0 = .ok (.aload_n 0, 1) := by decide +kernel
theorem dX7_read_1 : decode cX7_read 1 = .ok (.getfield 46, 3) := by decide +kernel
theorem dX7_read_4 : decode cX7_read 4 = .ok (.invokevirtual 199, 3) := by decide +kernel
theorem dX7_read_7 : decode cX7_read 7 = .ok (.istore_n 1, 1) := by decide +kernel
theorem dX7_read_8 : decode cX7_read 8 = .ok (.iload_n 1, 1) := by decide +kernel
theorem dX7_read_9 : decode cX7_read 9 = .ok (.iconst (-1), 1) := by decide +kernel
theorem dX7_read_10 : decode cX7_read 10 = .ok (.if_icmp .ne 10, 3) := by decide +kernel
theorem dX7_read_13 : decode cX7_read 13 = .ok (.aload_n 0, 1) := by decide +kernel
theorem dX7_read_14 : decode cX7_read 14 = .ok (.invokevirtual 202, 3) := by decide +kernel
theorem dX7_read_17 : decode cX7_read 17 = .ok (.goto 7, 3) := by decide +kernel
theorem dX7_read_20 : decode cX7_read 20 = .ok (.bipush (-100), 2) := by decide +kernel
theorem dX7_read_22 : decode cX7_read 22 = .ok (.iload_n 1, 1) := by decide +kernel
theorem dX7_read_23 : decode cX7_read 23 = .ok (.isub, 1) := by decide +kernel
theorem dX7_read_24 : decode cX7_read 24 = .ok (.istore_n 2, 1) := by decide +kernel
theorem dX7_read_25 : decode cX7_read 25 = .ok (.aload_n 0, 1) := by decide +kernel
theorem dX7_read_26 : decode cX7_read 26 = .ok (.getfield 53, 3) := by decide +kernel
theorem dX7_read_29 : decode cX7_read 29 = .ok (.bipush (-4), 2) := by decide +kernel
theorem dX7_read_31 : decode cX7_read 31 = .ok (.putfield 205, 3) := by decide +kernel
theorem dX7_read_34 : decode cX7_read 34 = .ok (.aload_n 0, 1) := by decide +kernel
theorem dX7_read_35 : decode cX7_read 35 = .ok (.getfield 46, 3) := by decide +kernel
theorem dX7_read_38 : decode cX7_read 38 = .ok (.invokevirtual 208, 3) := by decide +kernel
theorem dX7_read_41 : decode cX7_read 41 = .ok (.iload_n 2, 1) := by decide +kernel
theorem dX7_read_42 : decode cX7_read 42 = .ok (.ireturn, 1) := by decide +kernel
theorem dX7_refusal_0 : decode cX7_refusal 0 = .ok (.iload_n 1, 1) := by decide +kernel
theorem dX7_refusal_1 : decode cX7_refusal 1 = .ok (.ifCond .lt 8, 3) := by decide +kernel
theorem dX7_refusal_4 : decode cX7_refusal 4 = .ok (.iload_n 1, 1) := by decide +kernel
theorem dX7_refusal_5 : decode cX7_refusal 5 = .ok (.iconst 2, 1) := by decide +kernel
theorem dX7_refusal_6 : decode cX7_refusal 6 = .ok (.if_icmp .le 6, 3) := by decide +kernel
theorem dX7_refusal_9 : decode cX7_refusal 9 = .ok (.bipush (-2), 2) := by decide +kernel
theorem dX7_refusal_11 : decode cX7_refusal 11 = .ok (.ireturn, 1) := by decide +kernel
theorem dX7_refusal_12 : decode cX7_refusal 12 = .ok (.aload_n 0, 1) := by decide +kernel
theorem dX7_refusal_13 : decode cX7_refusal 13 = .ok (.getfield 53, 3) := by decide +kernel
theorem dX7_refusal_16 : decode cX7_refusal 16 = .ok (.getfield 209, 3) := by decide +kernel
theorem dX7_refusal_19 : decode cX7_refusal 19 = .ok (.ifCond .ne 6, 3) := by decide +kernel
theorem dX7_refusal_22 : decode cX7_refusal 22 = .ok (.bipush (-4), 2) := by decide +kernel
theorem dX7_refusal_24 : decode cX7_refusal 24 = .ok (.ireturn, 1) := by decide +kernel
theorem dX7_refusal_25 : decode cX7_refusal 25 = .ok (.iload_n 1, 1) := by decide +kernel
theorem dX7_refusal_26 : decode cX7_refusal 26 = .ok (.ifCond .ne 11, 3) := by decide +kernel
theorem dX7_refusal_29 : decode cX7_refusal 29 = .ok (.aload_n 0, 1) := by decide +kernel
theorem dX7_refusal_30 : decode cX7_refusal 30 = .ok (.getfield 53, 3) := by decide +kernel
theorem dX7_refusal_33 : decode cX7_refusal 33 = .ok (.getfield 209, 3) := by decide +kernel
theorem dX7_refusal_36 : decode cX7_refusal 36 = .ok (.ireturn, 1) := by decide +kernel
theorem dX7_refusal_37 : decode cX7_refusal 37 = .ok (.iload_n 1, 1) := by decide +kernel
theorem dX7_refusal_38 : decode cX7_refusal 38 = .ok (.iconst 1, 1) := by decide +kernel
theorem dX7_refusal_39 : decode cX7_refusal 39 = .ok (.if_icmp .ne 13, 3) := by decide +kernel
theorem dX7_refusal_42 : decode cX7_refusal 42 = .ok (.aload_n 0, 1) := by decide +kernel
theorem dX7_refusal_43 : decode cX7_refusal 43 = .ok (.getfield 53, 3) := by decide +kernel
theorem dX7_refusal_46 : decode cX7_refusal 46 = .ok (.getfield 212, 3) := by decide +kernel
theorem dX7_refusal_49 : decode cX7_refusal 49 = .ok (.goto 10, 3) := by decide +kernel
theorem dX7_refusal_52 : decode cX7_refusal 52 = .ok (.aload_n 0, 1) := by decide +kernel
theorem dX7_refusal_53 : decode cX7_refusal 53 = .ok (.getfield 53, 3) := by decide +kernel
theorem dX7_refusal_56 : decode cX7_refusal 56 = .ok (.getfield 215, 3) := by decide +kernel
theorem dX7_refusal_59 : decode cX7_refusal 59 = .ok (.ireturn, 1) := by decide +kernel
theorem dX7_account_0 : decode cX7_account 0 = .ok (.iload_n 1, 1) := by decide +kernel
theorem dX7_account_1 : decode cX7_account 1 = .ok (.tableswitch 147 0 10 #[59, 67, 75, 83, 91, 99, 107, 115, 123, 131, 139], 59) := by decide +kernel
theorem dX7_account_60 : decode cX7_account 60 = .ok (.aload_n 0, 1) := by decide +kernel
theorem dX7_account_61 : decode cX7_account 61 = .ok (.getfield 10, 3) := by decide +kernel
theorem dX7_account_64 : decode cX7_account 64 = .ok (.getfield 172, 3) := by decide +kernel
theorem dX7_account_67 : decode cX7_account 67 = .ok (.ireturn, 1) := by decide +kernel
theorem dX7_account_68 : decode cX7_account 68 = .ok (.aload_n 0, 1) := by decide +kernel
theorem dX7_account_69 : decode cX7_account 69 = .ok (.getfield 10, 3) := by decide +kernel
theorem dX7_account_72 : decode cX7_account 72 = .ok (.invokevirtual 218, 3) := by decide +kernel
theorem dX7_account_75 : decode cX7_account 75 = .ok (.ireturn, 1) := by decide +kernel
theorem dX7_account_76 : decode cX7_account 76 = .ok (.aload_n 0, 1) := by decide +kernel
theorem dX7_account_77 : decode cX7_account 77 = .ok (.getfield 10, 3) := by decide +kernel
theorem dX7_account_80 : decode cX7_account 80 = .ok (.invokevirtual 221, 3) := by decide +kernel
theorem dX7_account_83 : decode cX7_account 83 = .ok (.ireturn, 1) := by decide +kernel
theorem dX7_account_84 : decode cX7_account 84 = .ok (.aload_n 0, 1) := by decide +kernel
theorem dX7_account_85 : decode cX7_account 85 = .ok (.getfield 10, 3) := by decide +kernel
theorem dX7_account_88 : decode cX7_account 88 = .ok (.invokevirtual 224, 3) := by decide +kernel
theorem dX7_account_91 : decode cX7_account 91 = .ok (.ireturn, 1) := by decide +kernel
theorem dX7_account_92 : decode cX7_account 92 = .ok (.aload_n 0, 1) := by decide +kernel
theorem dX7_account_93 : decode cX7_account 93 = .ok (.getfield 10, 3) := by decide +kernel
theorem dX7_account_96 : decode cX7_account 96 = .ok (.getfield 227, 3) := by decide +kernel
theorem dX7_account_99 : decode cX7_account 99 = .ok (.ireturn, 1) := by decide +kernel
theorem dX7_account_100 : decode cX7_account 100 = .ok (.aload_n 0, 1) := by decide +kernel
theorem dX7_account_101 : decode cX7_account 101 = .ok (.getfield 10, 3) := by decide +kernel
theorem dX7_account_104 : decode cX7_account 104 = .ok (.getfield 230, 3) := by decide +kernel
theorem dX7_account_107 : decode cX7_account 107 = .ok (.ireturn, 1) := by decide +kernel
theorem dX7_account_108 : decode cX7_account 108 = .ok (.aload_n 0, 1) := by decide +kernel
theorem dX7_account_109 : decode cX7_account 109 = .ok (.getfield 10, 3) := by decide +kernel
theorem dX7_account_112 : decode cX7_account 112 = .ok (.getfield 233, 3) := by decide +kernel
theorem dX7_account_115 : decode cX7_account 115 = .ok (.ireturn, 1) := by decide +kernel
theorem dX7_account_116 : decode cX7_account 116 = .ok (.aload_n 0, 1) := by decide +kernel
theorem dX7_account_117 : decode cX7_account 117 = .ok (.getfield 10, 3) := by decide +kernel
theorem dX7_account_120 : decode cX7_account 120 = .ok (.getfield 236, 3) := by decide +kernel
theorem dX7_account_123 : decode cX7_account 123 = .ok (.ireturn, 1) := by decide +kernel
theorem dX7_account_124 : decode cX7_account 124 = .ok (.aload_n 0, 1) := by decide +kernel
theorem dX7_account_125 : decode cX7_account 125 = .ok (.getfield 10, 3) := by decide +kernel
theorem dX7_account_128 : decode cX7_account 128 = .ok (.getfield 239, 3) := by decide +kernel
theorem dX7_account_131 : decode cX7_account 131 = .ok (.ireturn, 1) := by decide +kernel
theorem dX7_account_132 : decode cX7_account 132 = .ok (.aload_n 0, 1) := by decide +kernel
theorem dX7_account_133 : decode cX7_account 133 = .ok (.getfield 46, 3) := by decide +kernel
theorem dX7_account_136 : decode cX7_account 136 = .ok (.getfield 198, 3) := by decide +kernel
theorem dX7_account_139 : decode cX7_account 139 = .ok (.ireturn, 1) := by decide +kernel
theorem dX7_account_140 : decode cX7_account 140 = .ok (.aload_n 0, 1) := by decide +kernel
theorem dX7_account_141 : decode cX7_account 141 = .ok (.getfield 25, 3) := by decide +kernel
theorem dX7_account_144 : decode cX7_account 144 = .ok (.getfield 242, 3) := by decide +kernel
theorem dX7_account_147 : decode cX7_account 147 = .ok (.ireturn, 1) := by decide +kernel
theorem dX7_account_148 : decode cX7_account 148 = .ok (.bipush (-2), 2) := by decide +kernel
theorem dX7_account_150 : decode cX7_account 150 = .ok (.ireturn, 1) := by decide +kernel
theorem dX7_isWell_0 : decode cX7_isWell 0 = .ok (.iconst 0, 1) := by decide +kernel
theorem dX7_isWell_1 : decode cX7_isWell 1 = .ok (.istore_n 1, 1) := by decide +kernel
theorem dX7_isWell_2 : decode cX7_isWell 2 = .ok (.iload_n 1, 1) := by decide +kernel
theorem dX7_isWell_3 : decode cX7_isWell 3 = .ok (.aload_n 0, 1) := by decide +kernel
theorem dX7_isWell_4 : decode cX7_isWell 4 = .ok (.getfield 10, 3) := by decide +kernel
theorem dX7_isWell_7 : decode cX7_isWell 7 = .ok (.getfield 172, 3) := by decide +kernel
theorem dX7_isWell_10 : decode cX7_isWell 10 = .ok (.if_icmp .ge 32, 3) := by decide +kernel
theorem dX7_isWell_13 : decode cX7_isWell 13 = .ok (.aload_n 0, 1) := by decide +kernel
theorem dX7_isWell_14 : decode cX7_isWell 14 = .ok (.getfield 10, 3) := by decide +kernel
theorem dX7_isWell_17 : decode cX7_isWell 17 = .ok (.iload_n 1, 1) := by decide +kernel
theorem dX7_isWell_18 : decode cX7_isWell 18 = .ok (.invokevirtual 98, 3) := by decide +kernel
theorem dX7_isWell_21 : decode cX7_isWell 21 = .ok (.astore_n 2, 1) := by decide +kernel
theorem dX7_isWell_22 : decode cX7_isWell 22 = .ok (.aload_n 2, 1) := by decide +kernel
theorem dX7_isWell_23 : decode cX7_isWell 23 = .ok (.ifnull 13, 3) := by decide +kernel
theorem dX7_isWell_26 : decode cX7_isWell 26 = .ok (.aload_n 0, 1) := by decide +kernel
theorem dX7_isWell_27 : decode cX7_isWell 27 = .ok (.aload_n 2, 1) := by decide +kernel
theorem dX7_isWell_28 : decode cX7_isWell 28 = .ok (.invokevirtual 245, 3) := by decide +kernel
theorem dX7_isWell_31 : decode cX7_isWell 31 = .ok (.ifCond .ne 5, 3) := by decide +kernel
theorem dX7_isWell_34 : decode cX7_isWell 34 = .ok (.iconst 0, 1) := by decide +kernel
theorem dX7_isWell_35 : decode cX7_isWell 35 = .ok (.ireturn, 1) := by decide +kernel
theorem dX7_isWell_36 : decode cX7_isWell 36 = .ok (.iinc 1 1, 3) := by decide +kernel
theorem dX7_isWell_39 : decode cX7_isWell 39 = .ok (.goto (-37), 3) := by decide +kernel
theorem dX7_isWell_42 : decode cX7_isWell 42 = .ok (.iconst 1, 1) := by decide +kernel
theorem dX7_isWell_43 : decode cX7_isWell 43 = .ok (.ireturn, 1) := by decide +kernel
theorem dX7_mean_0 : decode cX7_mean 0 = .ok (.aload_n 0, 1) := by decide +kernel
theorem dX7_mean_1 : decode cX7_mean 1 = .ok (.getfield 10, 3) := by decide +kernel
theorem dX7_mean_4 : decode cX7_mean 4 = .ok (.invokevirtual 221, 3) := by decide +kernel
theorem dX7_mean_7 : decode cX7_mean 7 = .ok (.istore_n 1, 1) := by decide +kernel
theorem dX7_mean_8 : decode cX7_mean 8 = .ok (.iload_n 1, 1) := by decide +kernel
theorem dX7_mean_9 : decode cX7_mean 9 = .ok (.ifCond .gt 6, 3) := by decide +kernel
theorem dX7_mean_12 : decode cX7_mean 12 = .ok (.bipush (-4), 2) := by decide +kernel
theorem dX7_mean_14 : decode cX7_mean 14 = .ok (.ireturn, 1) := by decide +kernel
theorem dX7_mean_15 : decode cX7_mean 15 = .ok (.aload_n 0, 1) := by decide +kernel
theorem dX7_mean_16 : decode cX7_mean 16 = .ok (.getfield 10, 3) := by decide +kernel
theorem dX7_mean_19 : decode cX7_mean 19 = .ok (.invokevirtual 248, 3) := by decide +kernel
theorem dX7_mean_22 : decode cX7_mean 22 = .ok (.i2f, 1) := by decide +kernel
theorem dX7_mean_23 : decode cX7_mean 23 = .ok (.iload_n 1, 1) := by decide +kernel
theorem dX7_mean_24 : decode cX7_mean 24 = .ok (.i2f, 1) := by decide +kernel
theorem dX7_mean_25 : decode cX7_mean 25 = .ok (.fdiv, 1) := by decide +kernel
theorem dX7_mean_26 : decode cX7_mean 26 = .ok (.invokestatic 251, 3) := by decide +kernel
theorem dX7_mean_29 : decode cX7_mean 29 = .ok (.ireturn, 1) := by decide +kernel
theorem dX7_undo_0 : decode cX7_undo 0 = .ok (.aload_n 0, 1) := by decide +kernel
theorem dX7_undo_1 : decode cX7_undo 1 = .ok (.getfield 25, 3) := by decide +kernel
theorem dX7_undo_4 : decode cX7_undo 4 = .ok (.aload_n 0, 1) := by decide +kernel
theorem dX7_undo_5 : decode cX7_undo 5 = .ok (.getfield 10, 3) := by decide +kernel
theorem dX7_undo_8 : decode cX7_undo 8 = .ok (.invokevirtual 255, 3) := by decide +kernel
theorem dX7_undo_11 : decode cX7_undo 11 = .ok (.ifCond .eq 13, 3) := by decide +kernel
theorem dX7_undo_14 : decode cX7_undo 14 = .ok (.aload_n 0, 1) := by decide +kernel
theorem dX7_undo_15 : decode cX7_undo 15 = .ok (.getfield 25, 3) := by decide +kernel
theorem dX7_undo_18 : decode cX7_undo 18 = .ok (.getfield 242, 3) := by decide +kernel
theorem dX7_undo_21 : decode cX7_undo 21 = .ok (.goto 5, 3) := by decide +kernel
theorem dX7_undo_24 : decode cX7_undo 24 = .ok (.bipush (-4), 2) := by decide +kernel
theorem dX7_undo_26 : decode cX7_undo 26 = .ok (.ireturn, 1) := by decide +kernel
theorem dX7_save_0 : decode cX7_save 0 = .ok (.aload_n 0, 1) := by decide +kernel
theorem dX7_save_1 : decode cX7_save 1 = .ok (.getfield 19, 3) := by decide +kernel
theorem dX7_save_4 : decode cX7_save 4 = .ok (.aload_n 0, 1) := by decide +kernel
theorem dX7_save_5 : decode cX7_save 5 = .ok (.getfield 10, 3) := by decide +kernel
theorem dX7_save_8 : decode cX7_save 8 = .ok (.invokevirtual 61, 3) := by decide +kernel
theorem dX7_save_11 : decode cX7_save 11 = .ok (.aload_n 0, 1) := by decide +kernel
theorem dX7_save_12 : decode cX7_save 12 = .ok (.iconst 1, 1) := by decide +kernel
theorem dX7_save_13 : decode cX7_save 13 = .ok (.putfield 259, 3) := by decide +kernel
theorem dX7_save_16 : decode cX7_save 16 = .ok (.aload_n 0, 1) := by decide +kernel
theorem dX7_save_17 : decode cX7_save 17 = .ok (.getfield 10, 3) := by decide +kernel
theorem dX7_save_20 : decode cX7_save 20 = .ok (.getfield 172, 3) := by decide +kernel
theorem dX7_save_23 : decode cX7_save 23 = .ok (.ireturn, 1) := by decide +kernel
theorem dX7_restore_0 : decode cX7_restore 0 = .ok (.aload_n 0, 1) := by decide +kernel
theorem dX7_restore_1 : decode cX7_restore 1 = .ok (.getfield 259, 3) := by decide +kernel
theorem dX7_restore_4 : decode cX7_restore 4 = .ok (.ifCond .ne 6, 3) := by decide +kernel
theorem dX7_restore_7 : decode cX7_restore 7 = .ok (.bipush (-4), 2) := by decide +kernel
theorem dX7_restore_9 : decode cX7_restore 9 = .ok (.ireturn, 1) := by decide +kernel
theorem dX7_restore_10 : decode cX7_restore 10 = .ok (.aload_n 0, 1) := by decide +kernel
theorem dX7_restore_11 : decode cX7_restore 11 = .ok (.getfield 10, 3) := by decide +kernel
theorem dX7_restore_14 : decode cX7_restore 14 = .ok (.aload_n 0, 1) := by decide +kernel
theorem dX7_restore_15 : decode cX7_restore 15 = .ok (.getfield 19, 3) := by decide +kernel
theorem dX7_restore_18 : decode cX7_restore 18 = .ok (.invokevirtual 61, 3) := by decide +kernel
theorem dX7_restore_21 : decode cX7_restore 21 = .ok (.aload_n 0, 1) := by decide +kernel
theorem dX7_restore_22 : decode cX7_restore 22 = .ok (.getfield 25, 3) := by decide +kernel
theorem dX7_restore_25 : decode cX7_restore 25 = .ok (.invokevirtual 263, 3) := by decide +kernel
theorem dX7_restore_28 : decode cX7_restore 28 = .ok (.aload_n 0, 1) := by decide +kernel
theorem dX7_restore_29 : decode cX7_restore 29 = .ok (.getfield 10, 3) := by decide +kernel
theorem dX7_restore_32 : decode cX7_restore 32 = .ok (.getfield 172, 3) := by decide +kernel
theorem dX7_restore_35 : decode cX7_restore 35 = .ok (.ireturn, 1) := by decide +kernel
theorem dX7_addRow_0 : decode cX7_addRow 0 = .ok (.iload_n 2, 1) := by decide +kernel
theorem dX7_addRow_1 : decode cX7_addRow 1 = .ok (.iconst 1, 1) := by decide +kernel
theorem dX7_addRow_2 : decode cX7_addRow 2 = .ok (.if_icmp .lt 21, 3) := by decide +kernel
theorem dX7_addRow_5 : decode cX7_addRow 5 = .ok (.iload_n 2, 1) := by decide +kernel
theorem dX7_addRow_6 : decode cX7_addRow 6 = .ok (.bipush 8, 2) := by decide +kernel
theorem dX7_addRow_8 : decode cX7_addRow 8 = .ok (.if_icmp .gt 15, 3) := by decide +kernel
theorem dX7_addRow_11 : decode cX7_addRow 11 = .ok (.iload_n 1, 1) := by decide +kernel
theorem dX7_addRow_12 : decode cX7_addRow 12 = .ok (.ifCond .lt 11, 3) := by decide +kernel
theorem dX7_addRow_15 : decode cX7_addRow 15 = .ok (.iload_n 1, 1) := by decide +kernel
theorem dX7_addRow_16 : decode cX7_addRow 16 = .ok (.iload_n 2, 1) := by decide +kernel
theorem dX7_addRow_17 : decode cX7_addRow 17 = .ok (.invokestatic 266, 3) := by decide +kernel
theorem dX7_addRow_20 : decode cX7_addRow 20 = .ok (.if_icmp .lt 6, 3) := by decide +kernel
theorem dX7_addRow_23 : decode cX7_addRow 23 = .ok (.bipush (-2), 2) := by decide +kernel
theorem dX7_addRow_25 : decode cX7_addRow 25 = .ok (.ireturn, 1) := by decide +kernel
theorem dX7_addRow_26 : decode cX7_addRow 26 = .ok (.aload_n 0, 1) := by decide +kernel
theorem dX7_addRow_27 : decode cX7_addRow 27 = .ok (.getfield 10, 3) := by decide +kernel
theorem dX7_addRow_30 : decode cX7_addRow 30 = .ok (.getfield 172, 3) := by decide +kernel
theorem dX7_addRow_33 : decode cX7_addRow 33 = .ok (.bipush 6, 2) := by decide +kernel
theorem dX7_addRow_35 : decode cX7_addRow 35 = .ok (.if_icmp .lt 14, 3) := by decide +kernel
theorem dX7_addRow_38 : decode cX7_addRow 38 = .ok (.aload_n 0, 1) := by decide +kernel
theorem dX7_addRow_39 : decode cX7_addRow 39 = .ok (.getfield 53, 3) := by decide +kernel
theorem dX7_addRow_42 : decode cX7_addRow 42 = .ok (.iconst 1, 1) := by decide +kernel
theorem dX7_addRow_43 : decode cX7_addRow 43 = .ok (.bipush 6, 2) := by decide +kernel
theorem dX7_addRow_45 : decode cX7_addRow 45 = .ok (.invokevirtual 269, 3) := by decide +kernel
theorem dX7_addRow_48 : decode cX7_addRow 48 = .ok (.ireturn, 1) := by decide +kernel
theorem dX7_addRow_49 : decode cX7_addRow 49 = .ok (.aload_n 0, 1) := by decide +kernel
theorem dX7_addRow_50 : decode cX7_addRow 50 = .ok (.getfield 10, 3) := by decide +kernel
theorem dX7_addRow_53 : decode cX7_addRow 53 = .ok (.iload_n 1, 1) := by decide +kernel
theorem dX7_addRow_54 : decode cX7_addRow 54 = .ok (.iload_n 2, 1) := by decide +kernel
theorem dX7_addRow_55 : decode cX7_addRow 55 = .ok (.invokevirtual 272, 3) := by decide +kernel
theorem dX7_addRow_58 : decode cX7_addRow 58 = .ok (.ireturn, 1) := by decide +kernel
theorem dX7_dropRow_0 : decode cX7_dropRow 0 = .ok (.aload_n 0, 1) := by decide +kernel
theorem dX7_dropRow_1 : decode cX7_dropRow 1 = .ok (.getfield 10, 3) := by decide +kernel
theorem dX7_dropRow_4 : decode cX7_dropRow 4 = .ok (.iload_n 1, 1) := by decide +kernel
theorem dX7_dropRow_5 : decode cX7_dropRow 5 = .ok (.invokevirtual 275, 3) := by decide +kernel
theorem dX7_dropRow_8 : decode cX7_dropRow 8 = .ok (.ifCond .eq 13, 3) := by decide +kernel
theorem dX7_dropRow_11 : decode cX7_dropRow 11 = .ok (.aload_n 0, 1) := by decide +kernel
theorem dX7_dropRow_12 : decode cX7_dropRow 12 = .ok (.getfield 10, 3) := by decide +kernel
theorem dX7_dropRow_15 : decode cX7_dropRow 15 = .ok (.getfield 172, 3) := by decide +kernel
theorem dX7_dropRow_18 : decode cX7_dropRow 18 = .ok (.goto 4, 3) := by decide +kernel
theorem dX7_dropRow_21 : decode cX7_dropRow 21 = .ok (.iconst (-1), 1) := by decide +kernel
theorem dX7_dropRow_22 : decode cX7_dropRow 22 = .ok (.ireturn, 1) := by decide +kernel
theorem dX7_turnRow_0 : decode cX7_turnRow 0 = .ok (.aload_n 0, 1) := by decide +kernel
theorem dX7_turnRow_1 : decode cX7_turnRow 1 = .ok (.getfield 10, 3) := by decide +kernel
theorem dX7_turnRow_4 : decode cX7_turnRow 4 = .ok (.iload_n 1, 1) := by decide +kernel
theorem dX7_turnRow_5 : decode cX7_turnRow 5 = .ok (.invokevirtual 98, 3) := by decide +kernel
theorem dX7_turnRow_8 : decode cX7_turnRow 8 = .ok (.astore_n 2, 1) := by decide +kernel
theorem dX7_turnRow_9 : decode cX7_turnRow 9 = .ok (.aload_n 2, 1) := by decide +kernel
theorem dX7_turnRow_10 : decode cX7_turnRow 10 = .ok (.ifnonnull 5, 3) := by decide +kernel
theorem dX7_turnRow_13 : decode cX7_turnRow 13 = .ok (.iconst (-1), 1) := by decide +kernel
theorem dX7_turnRow_14 : decode cX7_turnRow 14 = .ok (.ireturn, 1) := by decide +kernel
theorem dX7_turnRow_15 : decode cX7_turnRow 15 = .ok (.aload_n 2, 1) := by decide +kernel
theorem dX7_turnRow_16 : decode cX7_turnRow 16 = .ok (.invokevirtual 278, 3) := by decide +kernel
theorem dX7_turnRow_19 : decode cX7_turnRow 19 = .ok (.aload_n 2, 1) := by decide +kernel
theorem dX7_turnRow_20 : decode cX7_turnRow 20 = .ok (.iconst 0, 1) := by decide +kernel
theorem dX7_turnRow_21 : decode cX7_turnRow 21 = .ok (.invokevirtual 134, 3) := by decide +kernel
theorem dX7_turnRow_24 : decode cX7_turnRow 24 = .ok (.ireturn, 1) := by decide +kernel
theorem dX7_swapBeats_0 : decode cX7_swapBeats 0 = .ok (.aload_n 0, 1) := by decide +kernel
theorem dX7_swapBeats_1 : decode cX7_swapBeats 1 = .ok (.getfield 10, 3) := by decide +kernel
theorem dX7_swapBeats_4 : decode cX7_swapBeats 4 = .ok (.iload_n 1, 1) := by decide +kernel
theorem dX7_swapBeats_5 : decode cX7_swapBeats 5 = .ok (.invokevirtual 98, 3) := by decide +kernel
theorem dX7_swapBeats_8 : decode cX7_swapBeats 8 = .ok (.astore 4, 2) := by decide +kernel
theorem dX7_swapBeats_10 : decode cX7_swapBeats 10 = .ok (.aload 4, 2) := by decide +kernel
theorem dX7_swapBeats_12 : decode cX7_swapBeats 12 = .ok (.ifnull 21, 3) := by decide +kernel
theorem dX7_swapBeats_15 : decode cX7_swapBeats 15 = .ok (.aload 4, 2) := by decide +kernel
theorem dX7_swapBeats_17 : decode cX7_swapBeats 17 = .ok (.iload_n 2, 1) := by decide +kernel
theorem dX7_swapBeats_18 : decode cX7_swapBeats 18 = .ok (.invokevirtual 130, 3) := by decide +kernel
theorem dX7_swapBeats_21 : decode cX7_swapBeats 21 = .ok (.ifCond .eq 12, 3) := by decide +kernel
theorem dX7_swapBeats_24 : decode cX7_swapBeats 24 = .ok (.aload 4, 2) := by decide +kernel
theorem dX7_swapBeats_26 : decode cX7_swapBeats 26 = .ok (.iload_n 3, 1) := by decide +kernel
theorem dX7_swapBeats_27 : decode cX7_swapBeats 27 = .ok (.invokevirtual 130, 3) := by decide +kernel
theorem dX7_swapBeats_30 : decode cX7_swapBeats 30 = .ok (.ifCond .ne 5, 3) := by decide +kernel
theorem dX7_swapBeats_33 : decode cX7_swapBeats 33 = .ok (.iconst (-1), 1) := by decide +kernel
theorem dX7_swapBeats_34 : decode cX7_swapBeats 34 = .ok (.ireturn, 1) := by decide +kernel
theorem dX7_swapBeats_35 : decode cX7_swapBeats 35 = .ok (.iload_n 2, 1) := by decide +kernel
theorem dX7_swapBeats_36 : decode cX7_swapBeats 36 = .ok (.iload_n 3, 1) := by decide +kernel
theorem dX7_swapBeats_37 : decode cX7_swapBeats 37 = .ok (.if_icmp .lt 14, 3) := by decide +kernel
theorem dX7_swapBeats_40 : decode cX7_swapBeats 40 = .ok (.aload_n 0, 1) := by decide +kernel
theorem dX7_swapBeats_41 : decode cX7_swapBeats 41 = .ok (.getfield 53, 3) := by decide +kernel
theorem dX7_swapBeats_44 : decode cX7_swapBeats 44 = .ok (.bipush 7, 2) := by decide +kernel
theorem dX7_swapBeats_46 : decode cX7_swapBeats 46 = .ok (.iload_n 2, 1) := by decide +kernel
theorem dX7_swapBeats_47 : decode cX7_swapBeats 47 = .ok (.invokevirtual 269, 3) := by decide +kernel
theorem dX7_swapBeats_50 : decode cX7_swapBeats 50 = .ok (.ireturn, 1) := by decide +kernel
theorem dX7_swapBeats_51 : decode cX7_swapBeats 51 = .ok (.aload 4, 2) := by decide +kernel
theorem dX7_swapBeats_53 : decode cX7_swapBeats 53 = .ok (.iload_n 3, 1) := by decide +kernel
theorem dX7_swapBeats_54 : decode cX7_swapBeats 54 = .ok (.invokevirtual 134, 3) := by decide +kernel
theorem dX7_swapBeats_57 : decode cX7_swapBeats 57 = .ok (.iload_n 3, 1) := by decide +kernel
theorem dX7_swapBeats_58 : decode cX7_swapBeats 58 = .ok (.iload_n 2, 1) := by decide +kernel
theorem dX7_swapBeats_59 : decode cX7_swapBeats 59 = .ok (.isub, 1) := by decide +kernel
theorem dX7_swapBeats_60 : decode cX7_swapBeats 60 = .ok (.iadd, 1) := by decide +kernel
theorem dX7_swapBeats_61 : decode cX7_swapBeats 61 = .ok (.istore 5, 2) := by decide +kernel
theorem dX7_swapBeats_63 : decode cX7_swapBeats 63 = .ok (.aload 4, 2) := by decide +kernel
theorem dX7_swapBeats_65 : decode cX7_swapBeats 65 = .ok (.iload_n 2, 1) := by decide +kernel
theorem dX7_swapBeats_66 : decode cX7_swapBeats 66 = .ok (.invokevirtual 134, 3) := by decide +kernel
theorem dX7_swapBeats_69 : decode cX7_swapBeats 69 = .ok (.iload_n 3, 1) := by decide +kernel
theorem dX7_swapBeats_70 : decode cX7_swapBeats 70 = .ok (.iload_n 2, 1) := by decide +kernel
theorem dX7_swapBeats_71 : decode cX7_swapBeats 71 = .ok (.isub, 1) := by decide +kernel
theorem dX7_swapBeats_72 : decode cX7_swapBeats 72 = .ok (.isub, 1) := by decide +kernel
theorem dX7_swapBeats_73 : decode cX7_swapBeats 73 = .ok (.istore 6, 2) := by decide +kernel
theorem dX7_swapBeats_75 : decode cX7_swapBeats 75 = .ok (.iload 5, 2) := by decide +kernel
theorem dX7_swapBeats_77 : decode cX7_swapBeats 77 = .ok (.bipush 9, 2) := by decide +kernel
theorem dX7_swapBeats_79 : decode cX7_swapBeats 79 = .ok (.if_icmp .le 13, 3) := by decide +kernel
theorem dX7_swapBeats_82 : decode cX7_swapBeats 82 = .ok (.aload_n 0, 1) := by decide +kernel
theorem dX7_swapBeats_83 : decode cX7_swapBeats 83 = .ok (.getfield 53, 3) := by decide +kernel
theorem dX7_swapBeats_86 : decode cX7_swapBeats 86 = .ok (.iconst 2, 1) := by decide +kernel
theorem dX7_swapBeats_87 : decode cX7_swapBeats 87 = .ok (.iload_n 2, 1) := by decide +kernel
theorem dX7_swapBeats_88 : decode cX7_swapBeats 88 = .ok (.invokevirtual 269, 3) := by decide +kernel
theorem dX7_swapBeats_91 : decode cX7_swapBeats 91 = .ok (.ireturn, 1) := by decide +kernel
theorem dX7_swapBeats_92 : decode cX7_swapBeats 92 = .ok (.iload 6, 2) := by decide +kernel
theorem dX7_swapBeats_94 : decode cX7_swapBeats 94 = .ok (.ifCond .ge 13, 3) := by decide +kernel
theorem dX7_swapBeats_97 : decode cX7_swapBeats 97 = .ok (.aload_n 0, 1) := by decide +kernel
theorem dX7_swapBeats_98 : decode cX7_swapBeats 98 = .ok (.getfield 53, 3) := by decide +kernel
theorem dX7_swapBeats_101 : decode cX7_swapBeats 101 = .ok (.iconst 2, 1) := by decide +kernel
theorem dX7_swapBeats_102 : decode cX7_swapBeats 102 = .ok (.iload_n 3, 1) := by decide +kernel
theorem dX7_swapBeats_103 : decode cX7_swapBeats 103 = .ok (.invokevirtual 269, 3) := by decide +kernel
theorem dX7_swapBeats_106 : decode cX7_swapBeats 106 = .ok (.ireturn, 1) := by decide +kernel
theorem dX7_swapBeats_107 : decode cX7_swapBeats 107 = .ok (.aload 4, 2) := by decide +kernel
theorem dX7_swapBeats_109 : decode cX7_swapBeats 109 = .ok (.iload_n 2, 1) := by decide +kernel
theorem dX7_swapBeats_110 : decode cX7_swapBeats 110 = .ok (.iload 5, 2) := by decide +kernel
theorem dX7_swapBeats_112 : decode cX7_swapBeats 112 = .ok (.invokevirtual 281, 3) := by decide +kernel
theorem dX7_swapBeats_115 : decode cX7_swapBeats 115 = .ok (.aload 4, 2) := by decide +kernel
theorem dX7_swapBeats_117 : decode cX7_swapBeats 117 = .ok (.iload_n 3, 1) := by decide +kernel
theorem dX7_swapBeats_118 : decode cX7_swapBeats 118 = .ok (.iload 6, 2) := by decide +kernel
theorem dX7_swapBeats_120 : decode cX7_swapBeats 120 = .ok (.invokevirtual 281, 3) := by decide +kernel
theorem dX7_swapBeats_123 : decode cX7_swapBeats 123 = .ok (.iload 5, 2) := by decide +kernel
theorem dX7_swapBeats_125 : decode cX7_swapBeats 125 = .ok (.ireturn, 1) := by decide +kernel
theorem dX7_liftRow_0 : decode cX7_liftRow 0 = .ok (.aload_n 0, 1) := by decide +kernel
theorem dX7_liftRow_1 : decode cX7_liftRow 1 = .ok (.getfield 10, 3) := by decide +kernel
theorem dX7_liftRow_4 : decode cX7_liftRow 4 = .ok (.iload_n 1, 1) := by decide +kernel
theorem dX7_liftRow_5 : decode cX7_liftRow 5 = .ok (.invokevirtual 98, 3) := by decide +kernel
theorem dX7_liftRow_8 : decode cX7_liftRow 8 = .ok (.astore_n 2, 1) := by decide +kernel
theorem dX7_liftRow_9 : decode cX7_liftRow 9 = .ok (.aload_n 2, 1) := by decide +kernel
theorem dX7_liftRow_10 : decode cX7_liftRow 10 = .ok (.ifnonnull 5, 3) := by decide +kernel
theorem dX7_liftRow_13 : decode cX7_liftRow 13 = .ok (.iconst (-1), 1) := by decide +kernel
theorem dX7_liftRow_14 : decode cX7_liftRow 14 = .ok (.ireturn, 1) := by decide +kernel
theorem dX7_liftRow_15 : decode cX7_liftRow 15 = .ok (.iconst 0, 1) := by decide +kernel
theorem dX7_liftRow_16 : decode cX7_liftRow 16 = .ok (.istore_n 3, 1) := by decide +kernel
theorem dX7_liftRow_17 : decode cX7_liftRow 17 = .ok (.iload_n 3, 1) := by decide +kernel
theorem dX7_liftRow_18 : decode cX7_liftRow 18 = .ok (.aload_n 2, 1) := by decide +kernel
theorem dX7_liftRow_19 : decode cX7_liftRow 19 = .ok (.getfield 102, 3) := by decide +kernel
theorem dX7_liftRow_22 : decode cX7_liftRow 22 = .ok (.if_icmp .ge 29, 3) := by decide +kernel
theorem dX7_liftRow_25 : decode cX7_liftRow 25 = .ok (.aload_n 2, 1) := by decide +kernel
theorem dX7_liftRow_26 : decode cX7_liftRow 26 = .ok (.iload_n 3, 1) := by decide +kernel
theorem dX7_liftRow_27 : decode cX7_liftRow 27 = .ok (.invokevirtual 134, 3) := by decide +kernel
theorem dX7_liftRow_30 : decode cX7_liftRow 30 = .ok (.bipush 9, 2) := by decide +kernel
theorem dX7_liftRow_32 : decode cX7_liftRow 32 = .ok (.if_icmp .lt 13, 3) := by decide +kernel
theorem dX7_liftRow_35 : decode cX7_liftRow 35 = .ok (.aload_n 0, 1) := by decide +kernel
theorem dX7_liftRow_36 : decode cX7_liftRow 36 = .ok (.getfield 53, 3) := by decide +kernel
theorem dX7_liftRow_39 : decode cX7_liftRow 39 = .ok (.iconst 2, 1) := by decide +kernel
theorem dX7_liftRow_40 : decode cX7_liftRow 40 = .ok (.iload_n 3, 1) := by decide +kernel
theorem dX7_liftRow_41 : decode cX7_liftRow 41 = .ok (.invokevirtual 269, 3) := by decide +kernel
theorem dX7_liftRow_44 : decode cX7_liftRow 44 = .ok (.ireturn, 1) := by decide +kernel
theorem dX7_liftRow_45 : decode cX7_liftRow 45 = .ok (.iinc 3 1, 3) := by decide +kernel
theorem dX7_liftRow_48 : decode cX7_liftRow 48 = .ok (.goto (-31), 3) := by decide +kernel
theorem dX7_liftRow_51 : decode cX7_liftRow 51 = .ok (.iconst 0, 1) := by decide +kernel
theorem dX7_liftRow_52 : decode cX7_liftRow 52 = .ok (.istore_n 3, 1) := by decide +kernel
theorem dX7_liftRow_53 : decode cX7_liftRow 53 = .ok (.iload_n 3, 1) := by decide +kernel
theorem dX7_liftRow_54 : decode cX7_liftRow 54 = .ok (.aload_n 2, 1) := by decide +kernel
theorem dX7_liftRow_55 : decode cX7_liftRow 55 = .ok (.getfield 102, 3) := by decide +kernel
theorem dX7_liftRow_58 : decode cX7_liftRow 58 = .ok (.if_icmp .ge 21, 3) := by decide +kernel
theorem dX7_liftRow_61 : decode cX7_liftRow 61 = .ok (.aload_n 2, 1) := by decide +kernel
theorem dX7_liftRow_62 : decode cX7_liftRow 62 = .ok (.iload_n 3, 1) := by decide +kernel
theorem dX7_liftRow_63 : decode cX7_liftRow 63 = .ok (.aload_n 2, 1) := by decide +kernel
theorem dX7_liftRow_64 : decode cX7_liftRow 64 = .ok (.iload_n 3, 1) := by decide +kernel
theorem dX7_liftRow_65 : decode cX7_liftRow 65 = .ok (.invokevirtual 134, 3) := by decide +kernel
theorem dX7_liftRow_68 : decode cX7_liftRow 68 = .ok (.iconst 1, 1) := by decide +kernel
theorem dX7_liftRow_69 : decode cX7_liftRow 69 = .ok (.iadd, 1) := by decide +kernel
theorem dX7_liftRow_70 : decode cX7_liftRow 70 = .ok (.invokevirtual 281, 3) := by decide +kernel
theorem dX7_liftRow_73 : decode cX7_liftRow 73 = .ok (.iinc 3 1, 3) := by decide +kernel
theorem dX7_liftRow_76 : decode cX7_liftRow 76 = .ok (.goto (-23), 3) := by decide +kernel
theorem dX7_liftRow_79 : decode cX7_liftRow 79 = .ok (.aload_n 2, 1) := by decide +kernel
theorem dX7_liftRow_80 : decode cX7_liftRow 80 = .ok (.invokevirtual 112, 3) := by decide +kernel
theorem dX7_liftRow_83 : decode cX7_liftRow 83 = .ok (.ireturn, 1) := by decide +kernel
theorem dX7_beginWith_0 : decode cX7_beginWith 0 = .ok (.iload_n 1, 1) := by decide +kernel
theorem dX7_beginWith_1 : decode cX7_beginWith 1 = .ok (.iconst 1, 1) := by decide +kernel
theorem dX7_beginWith_2 : decode cX7_beginWith 2 = .ok (.if_icmp .lt 9, 3) := by decide +kernel
theorem dX7_beginWith_5 : decode cX7_beginWith 5 = .ok (.iload_n 1, 1) := by decide +kernel
theorem dX7_beginWith_6 : decode cX7_beginWith 6 = .ok (.bipush 8, 2) := by decide +kernel
theorem dX7_beginWith_8 : decode cX7_beginWith 8 = .ok (.if_icmp .le 6, 3) := by decide +kernel
theorem dX7_beginWith_11 : decode cX7_beginWith 11 = .ok (.bipush (-2), 2) := by decide +kernel
theorem dX7_beginWith_13 : decode cX7_beginWith 13 = .ok (.ireturn, 1) := by decide +kernel
theorem dX7_beginWith_14 : decode cX7_beginWith 14 = .ok (.aload_n 0, 1) := by decide +kernel
theorem dX7_beginWith_15 : decode cX7_beginWith 15 = .ok (.getfield 10, 3) := by decide +kernel
theorem dX7_beginWith_18 : decode cX7_beginWith 18 = .ok (.iconst 1, 1) := by decide +kernel
theorem dX7_beginWith_19 : decode cX7_beginWith 19 = .ok (.iload_n 1, 1) := by decide +kernel
theorem dX7_beginWith_20 : decode cX7_beginWith 20 = .ok (.ishl, 1) := by decide +kernel
theorem dX7_beginWith_21 : decode cX7_beginWith 21 = .ok (.iconst 1, 1) := by decide +kernel
theorem dX7_beginWith_22 : decode cX7_beginWith 22 = .ok (.isub, 1) := by decide +kernel
theorem dX7_beginWith_23 : decode cX7_beginWith 23 = .ok (.putfield 144, 3) := by decide +kernel
theorem dX7_beginWith_26 : decode cX7_beginWith 26 = .ok (.aload_n 0, 1) := by decide +kernel
theorem dX7_beginWith_27 : decode cX7_beginWith 27 = .ok (.getfield 10, 3) := by decide +kernel
theorem dX7_beginWith_30 : decode cX7_beginWith 30 = .ok (.iconst 0, 1) := by decide +kernel
theorem dX7_beginWith_31 : decode cX7_beginWith 31 = .ok (.putfield 148, 3) := by decide +kernel
theorem dX7_beginWith_34 : decode cX7_beginWith 34 = .ok (.aload_n 0, 1) := by decide +kernel
theorem dX7_beginWith_35 : decode cX7_beginWith 35 = .ok (.getfield 10, 3) := by decide +kernel
theorem dX7_beginWith_38 : decode cX7_beginWith 38 = .ok (.dup, 1) := by decide +kernel
theorem dX7_beginWith_39 : decode cX7_beginWith 39 = .ok (.getfield 239, 3) := by decide +kernel
theorem dX7_beginWith_42 : decode cX7_beginWith 42 = .ok (.iconst 1, 1) := by decide +kernel
theorem dX7_beginWith_43 : decode cX7_beginWith 43 = .ok (.iadd, 1) := by decide +kernel
theorem dX7_beginWith_44 : decode cX7_beginWith 44 = .ok (.putfield 239, 3) := by decide +kernel
theorem dX7_beginWith_47 : decode cX7_beginWith 47 = .ok (.aload_n 0, 1) := by decide +kernel
theorem dX7_beginWith_48 : decode cX7_beginWith 48 = .ok (.getfield 10, 3) := by decide +kernel
theorem dX7_beginWith_51 : decode cX7_beginWith 51 = .ok (.getfield 144, 3) := by decide +kernel
theorem dX7_beginWith_54 : decode cX7_beginWith 54 = .ok (.ireturn, 1) := by decide +kernel
theorem dX7_makeThrow_0 : decode cX7_makeThrow 0 = .ok (.iload_n 1, 1) := by decide +kernel
theorem dX7_makeThrow_1 : decode cX7_makeThrow 1 = .ok (.ifCond .lt 9, 3) := by decide +kernel
theorem dX7_makeThrow_4 : decode cX7_makeThrow 4 = .ok (.iload_n 1, 1) := by decide +kernel
theorem dX7_makeThrow_5 : decode cX7_makeThrow 5 = .ok (.bipush 9, 2) := by decide +kernel
theorem dX7_makeThrow_7 : decode cX7_makeThrow 7 = .ok (.if_icmp .le 6, 3) := by decide +kernel
theorem dX7_makeThrow_10 : decode cX7_makeThrow 10 = .ok (.bipush (-2), 2) := by decide +kernel
theorem dX7_makeThrow_12 : decode cX7_makeThrow 12 = .ok (.ireturn, 1) := by decide +kernel
theorem dX7_makeThrow_13 : decode cX7_makeThrow 13 = .ok (.aload_n 0, 1) := by decide +kernel
theorem dX7_makeThrow_14 : decode cX7_makeThrow 14 = .ok (.getfield 10, 3) := by decide +kernel
theorem dX7_makeThrow_17 : decode cX7_makeThrow 17 = .ok (.invokevirtual 147, 3) := by decide +kernel
theorem dX7_makeThrow_20 : decode cX7_makeThrow 20 = .ok (.ifCond .ne 20, 3) := by decide +kernel
theorem dX7_makeThrow_23 : decode cX7_makeThrow 23 = .ok (.aload_n 0, 1) := by decide +kernel
theorem dX7_makeThrow_24 : decode cX7_makeThrow 24 = .ok (.getfield 53, 3) := by decide +kernel
theorem dX7_makeThrow_27 : decode cX7_makeThrow 27 = .ok (.bipush 6, 2) := by decide +kernel
theorem dX7_makeThrow_29 : decode cX7_makeThrow 29 = .ok (.aload_n 0, 1) := by decide +kernel
theorem dX7_makeThrow_30 : decode cX7_makeThrow 30 = .ok (.getfield 10, 3) := by decide +kernel
theorem dX7_makeThrow_33 : decode cX7_makeThrow 33 = .ok (.getfield 148, 3) := by decide +kernel
theorem dX7_makeThrow_36 : decode cX7_makeThrow 36 = .ok (.invokevirtual 269, 3) := by decide +kernel
theorem dX7_makeThrow_39 : decode cX7_makeThrow 39 = .ok (.ireturn, 1) := by decide +kernel
theorem dX7_makeThrow_40 : decode cX7_makeThrow 40 = .ok (.aload_n 0, 1) := by decide +kernel
theorem dX7_makeThrow_41 : decode cX7_makeThrow 41 = .ok (.getfield 10, 3) := by decide +kernel
theorem dX7_makeThrow_44 : decode cX7_makeThrow 44 = .ok (.getfield 144, 3) := by decide +kernel
theorem dX7_makeThrow_47 : decode cX7_makeThrow 47 = .ok (.iload_n 1, 1) := by decide +kernel
theorem dX7_makeThrow_48 : decode cX7_makeThrow 48 = .ok (.invokestatic 154, 3) := by decide +kernel
theorem dX7_makeThrow_51 : decode cX7_makeThrow 51 = .ok (.ifCond .ne 19, 3) := by decide +kernel
theorem dX7_makeThrow_54 : decode cX7_makeThrow 54 = .ok (.aload_n 0, 1) := by decide +kernel
theorem dX7_makeThrow_55 : decode cX7_makeThrow 55 = .ok (.getfield 53, 3) := by decide +kernel
theorem dX7_makeThrow_58 : decode cX7_makeThrow 58 = .ok (.iconst 4, 1) := by decide +kernel
theorem dX7_makeThrow_59 : decode cX7_makeThrow 59 = .ok (.aload_n 0, 1) := by decide +kernel
theorem dX7_makeThrow_60 : decode cX7_makeThrow 60 = .ok (.getfield 10, 3) := by decide +kernel
theorem dX7_makeThrow_63 : decode cX7_makeThrow 63 = .ok (.getfield 144, 3) := by decide +kernel
theorem dX7_makeThrow_66 : decode cX7_makeThrow 66 = .ok (.invokevirtual 269, 3) := by decide +kernel
theorem dX7_makeThrow_69 : decode cX7_makeThrow 69 = .ok (.ireturn, 1) := by decide +kernel
theorem dX7_makeThrow_70 : decode cX7_makeThrow 70 = .ok (.aload_n 0, 1) := by decide +kernel
theorem dX7_makeThrow_71 : decode cX7_makeThrow 71 = .ok (.getfield 10, 3) := by decide +kernel
theorem dX7_makeThrow_74 : decode cX7_makeThrow 74 = .ok (.getfield 148, 3) := by decide +kernel
theorem dX7_makeThrow_77 : decode cX7_makeThrow 77 = .ok (.iconst 1, 1) := by decide +kernel
theorem dX7_makeThrow_78 : decode cX7_makeThrow 78 = .ok (.iand, 1) := by decide +kernel
theorem dX7_makeThrow_79 : decode cX7_makeThrow 79 = .ok (.istore_n 2, 1) := by decide +kernel
theorem dX7_makeThrow_80 : decode cX7_makeThrow 80 = .ok (.aload_n 0, 1) := by decide +kernel
theorem dX7_makeThrow_81 : decode cX7_makeThrow 81 = .ok (.getfield 10, 3) := by decide +kernel
theorem dX7_makeThrow_84 : decode cX7_makeThrow 84 = .ok (.iload_n 1, 1) := by decide +kernel
theorem dX7_makeThrow_85 : decode cX7_makeThrow 85 = .ok (.invokevirtual 285, 3) := by decide +kernel
theorem dX7_makeThrow_88 : decode cX7_makeThrow 88 = .ok (.iload_n 2, 1) := by decide +kernel
theorem dX7_makeThrow_89 : decode cX7_makeThrow 89 = .ok (.ireturn, 1) := by decide +kernel
theorem dX7_makeJoin_0 : decode cX7_makeJoin 0 = .ok (.aload_n 0, 1) := by decide +kernel
theorem dX7_makeJoin_1 : decode cX7_makeJoin 1 = .ok (.getfield 10, 3) := by decide +kernel
theorem dX7_makeJoin_4 : decode cX7_makeJoin 4 = .ok (.iload_n 1, 1) := by decide +kernel
theorem dX7_makeJoin_5 : decode cX7_makeJoin 5 = .ok (.invokevirtual 98, 3) := by decide +kernel
theorem dX7_makeJoin_8 : decode cX7_makeJoin 8 = .ok (.astore_n 2, 1) := by decide +kernel
theorem dX7_makeJoin_9 : decode cX7_makeJoin 9 = .ok (.aload_n 2, 1) := by decide +kernel
theorem dX7_makeJoin_10 : decode cX7_makeJoin 10 = .ok (.ifnonnull 5, 3) := by decide +kernel
theorem dX7_makeJoin_13 : decode cX7_makeJoin 13 = .ok (.iconst (-1), 1) := by decide +kernel
theorem dX7_makeJoin_14 : decode cX7_makeJoin 14 = .ok (.ireturn, 1) := by decide +kernel
theorem dX7_makeJoin_15 : decode cX7_makeJoin 15 = .ok (.aload_n 0, 1) := by decide +kernel
theorem dX7_makeJoin_16 : decode cX7_makeJoin 16 = .ok (.aload_n 2, 1) := by decide +kernel
theorem dX7_makeJoin_17 : decode cX7_makeJoin 17 = .ok (.invokevirtual 288, 3) := by decide +kernel
theorem dX7_makeJoin_20 : decode cX7_makeJoin 20 = .ok (.ifCond .eq 6, 3) := by decide +kernel
theorem dX7_makeJoin_23 : decode cX7_makeJoin 23 = .ok (.bipush (-3), 2) := by decide +kernel
theorem dX7_makeJoin_25 : decode cX7_makeJoin 25 = .ok (.ireturn, 1) := by decide +kernel
theorem dX7_makeJoin_26 : decode cX7_makeJoin 26 = .ok (.aload_n 0, 1) := by decide +kernel
theorem dX7_makeJoin_27 : decode cX7_makeJoin 27 = .ok (.getfield 32, 3) := by decide +kernel
theorem dX7_makeJoin_30 : decode cX7_makeJoin 30 = .ok (.aload_n 0, 1) := by decide +kernel
theorem dX7_makeJoin_31 : decode cX7_makeJoin 31 = .ok (.getfield 10, 3) := by decide +kernel
theorem dX7_makeJoin_34 : decode cX7_makeJoin 34 = .ok (.getfield 144, 3) := by decide +kernel
theorem dX7_makeJoin_37 : decode cX7_makeJoin 37 = .ok (.aload_n 2, 1) := by decide +kernel
theorem dX7_makeJoin_38 : decode cX7_makeJoin 38 = .ok (.iconst 0, 1) := by decide +kernel
theorem dX7_makeJoin_39 : decode cX7_makeJoin 39 = .ok (.invokevirtual 141, 3) := by decide +kernel
theorem dX7_makeJoin_42 : decode cX7_makeJoin 42 = .ok (.invokevirtual 168, 3) := by decide +kernel
theorem dX7_makeJoin_45 : decode cX7_makeJoin 45 = .ok (.istore_n 3, 1) := by decide +kernel
theorem dX7_makeJoin_46 : decode cX7_makeJoin 46 = .ok (.iconst 0, 1) := by decide +kernel
theorem dX7_makeJoin_47 : decode cX7_makeJoin 47 = .ok (.istore 4, 2) := by decide +kernel
theorem dX7_makeJoin_49 : decode cX7_makeJoin 49 = .ok (.iload 4, 2) := by decide +kernel
theorem dX7_makeJoin_51 : decode cX7_makeJoin 51 = .ok (.iload_n 3, 1) := by decide +kernel
theorem dX7_makeJoin_52 : decode cX7_makeJoin 52 = .ok (.if_icmp .ge 25, 3) := by decide +kernel
theorem dX7_makeJoin_55 : decode cX7_makeJoin 55 = .ok (.aload_n 0, 1) := by decide +kernel
theorem dX7_makeJoin_56 : decode cX7_makeJoin 56 = .ok (.getfield 10, 3) := by decide +kernel
theorem dX7_makeJoin_59 : decode cX7_makeJoin 59 = .ok (.aload_n 0, 1) := by decide +kernel
theorem dX7_makeJoin_60 : decode cX7_makeJoin 60 = .ok (.getfield 32, 3) := by decide +kernel
theorem dX7_makeJoin_63 : decode cX7_makeJoin 63 = .ok (.iload 4, 2) := by decide +kernel
theorem dX7_makeJoin_65 : decode cX7_makeJoin 65 = .ok (.invokevirtual 171, 3) := by decide +kernel
theorem dX7_makeJoin_68 : decode cX7_makeJoin 68 = .ok (.invokevirtual 285, 3) := by decide +kernel
theorem dX7_makeJoin_71 : decode cX7_makeJoin 71 = .ok (.iinc 4 1, 3) := by decide +kernel
theorem dX7_makeJoin_74 : decode cX7_makeJoin 74 = .ok (.goto (-25), 3) := by decide +kernel
theorem dX7_makeJoin_77 : decode cX7_makeJoin 77 = .ok (.aload_n 0, 1) := by decide +kernel
theorem dX7_makeJoin_78 : decode cX7_makeJoin 78 = .ok (.getfield 10, 3) := by decide +kernel
theorem dX7_makeJoin_81 : decode cX7_makeJoin 81 = .ok (.dup, 1) := by decide +kernel
theorem dX7_makeJoin_82 : decode cX7_makeJoin 82 = .ok (.getfield 236, 3) := by decide +kernel
theorem dX7_makeJoin_85 : decode cX7_makeJoin 85 = .ok (.iconst 1, 1) := by decide +kernel
theorem dX7_makeJoin_86 : decode cX7_makeJoin 86 = .ok (.iadd, 1) := by decide +kernel
theorem dX7_makeJoin_87 : decode cX7_makeJoin 87 = .ok (.putfield 236, 3) := by decide +kernel
theorem dX7_makeJoin_90 : decode cX7_makeJoin 90 = .ok (.iload_n 3, 1) := by decide +kernel
theorem dX7_makeJoin_91 : decode cX7_makeJoin 91 = .ok (.ireturn, 1) := by decide +kernel
theorem dX7_makeRowOnce_0 : decode cX7_makeRowOnce 0 = .ok (.aload_n 0, 1) := by decide +kernel
theorem dX7_makeRowOnce_1 : decode cX7_makeRowOnce 1 = .ok (.getfield 10, 3) := by decide +kernel
theorem dX7_makeRowOnce_4 : decode cX7_makeRowOnce 4 = .ok (.iload_n 1, 1) := by decide +kernel
theorem dX7_makeRowOnce_5 : decode cX7_makeRowOnce 5 = .ok (.invokevirtual 98, 3) := by decide +kernel
theorem dX7_makeRowOnce_8 : decode cX7_makeRowOnce 8 = .ok (.astore_n 2, 1) := by decide +kernel
theorem dX7_makeRowOnce_9 : decode cX7_makeRowOnce 9 = .ok (.aload_n 2, 1) := by decide +kernel
theorem dX7_makeRowOnce_10 : decode cX7_makeRowOnce 10 = .ok (.ifnonnull 5, 3) := by decide +kernel
theorem dX7_makeRowOnce_13 : decode cX7_makeRowOnce 13 = .ok (.iconst (-1), 1) := by decide +kernel
theorem dX7_makeRowOnce_14 : decode cX7_makeRowOnce 14 = .ok (.ireturn, 1) := by decide +kernel
theorem dX7_makeRowOnce_15 : decode cX7_makeRowOnce 15 = .ok (.aload_n 0, 1) := by decide +kernel
theorem dX7_makeRowOnce_16 : decode cX7_makeRowOnce 16 = .ok (.aload_n 2, 1) := by decide +kernel
theorem dX7_makeRowOnce_17 : decode cX7_makeRowOnce 17 = .ok (.invokevirtual 288, 3) := by decide +kernel
theorem dX7_makeRowOnce_20 : decode cX7_makeRowOnce 20 = .ok (.ifCond .eq 6, 3) := by decide +kernel
theorem dX7_makeRowOnce_23 : decode cX7_makeRowOnce 23 = .ok (.bipush (-3), 2) := by decide +kernel
theorem dX7_makeRowOnce_25 : decode cX7_makeRowOnce 25 = .ok (.ireturn, 1) := by decide +kernel
theorem dX7_makeRowOnce_26 : decode cX7_makeRowOnce 26 = .ok (.aload_n 0, 1) := by decide +kernel
theorem dX7_makeRowOnce_27 : decode cX7_makeRowOnce 27 = .ok (.getfield 10, 3) := by decide +kernel
theorem dX7_makeRowOnce_30 : decode cX7_makeRowOnce 30 = .ok (.getfield 144, 3) := by decide +kernel
theorem dX7_makeRowOnce_33 : decode cX7_makeRowOnce 33 = .ok (.aload_n 2, 1) := by decide +kernel
theorem dX7_makeRowOnce_34 : decode cX7_makeRowOnce 34 = .ok (.iconst 0, 1) := by decide +kernel
theorem dX7_makeRowOnce_35 : decode cX7_makeRowOnce 35 = .ok (.invokevirtual 141, 3) := by decide +kernel
theorem dX7_makeRowOnce_38 : decode cX7_makeRowOnce 38 = .ok (.if_icmp .eq 19, 3) := by decide +kernel
theorem dX7_makeRowOnce_41 : decode cX7_makeRowOnce 41 = .ok (.aload_n 0, 1) := by decide +kernel
theorem dX7_makeRowOnce_42 : decode cX7_makeRowOnce 42 = .ok (.getfield 53, 3) := by decide +kernel
theorem dX7_makeRowOnce_45 : decode cX7_makeRowOnce 45 = .ok (.iconst 4, 1) := by decide +kernel
theorem dX7_makeRowOnce_46 : decode cX7_makeRowOnce 46 = .ok (.aload_n 0, 1) := by decide +kernel
theorem dX7_makeRowOnce_47 : decode cX7_makeRowOnce 47 = .ok (.getfield 10, 3) := by decide +kernel
theorem dX7_makeRowOnce_50 : decode cX7_makeRowOnce 50 = .ok (.getfield 144, 3) := by decide +kernel
theorem dX7_makeRowOnce_53 : decode cX7_makeRowOnce 53 = .ok (.invokevirtual 269, 3) := by decide +kernel
theorem dX7_makeRowOnce_56 : decode cX7_makeRowOnce 56 = .ok (.ireturn, 1) := by decide +kernel
theorem dX7_makeRowOnce_57 : decode cX7_makeRowOnce 57 = .ok (.iconst 0, 1) := by decide +kernel
theorem dX7_makeRowOnce_58 : decode cX7_makeRowOnce 58 = .ok (.istore_n 3, 1) := by decide +kernel
theorem dX7_makeRowOnce_59 : decode cX7_makeRowOnce 59 = .ok (.iload_n 3, 1) := by decide +kernel
theorem dX7_makeRowOnce_60 : decode cX7_makeRowOnce 60 = .ok (.aload_n 2, 1) := by decide +kernel
theorem dX7_makeRowOnce_61 : decode cX7_makeRowOnce 61 = .ok (.getfield 102, 3) := by decide +kernel
theorem dX7_makeRowOnce_64 : decode cX7_makeRowOnce 64 = .ok (.if_icmp .ge 21, 3) := by decide +kernel
theorem dX7_makeRowOnce_67 : decode cX7_makeRowOnce 67 = .ok (.aload_n 0, 1) := by decide +kernel
theorem dX7_makeRowOnce_68 : decode cX7_makeRowOnce 68 = .ok (.getfield 10, 3) := by decide +kernel
theorem dX7_makeRowOnce_71 : decode cX7_makeRowOnce 71 = .ok (.aload_n 2, 1) := by decide +kernel
theorem dX7_makeRowOnce_72 : decode cX7_makeRowOnce 72 = .ok (.iload_n 3, 1) := by decide +kernel
theorem dX7_makeRowOnce_73 : decode cX7_makeRowOnce 73 = .ok (.invokevirtual 134, 3) := by decide +kernel
theorem dX7_makeRowOnce_76 : decode cX7_makeRowOnce 76 = .ok (.invokevirtual 285, 3) := by decide +kernel
theorem dX7_makeRowOnce_79 : decode cX7_makeRowOnce 79 = .ok (.iinc 3 1, 3) := by decide +kernel
theorem dX7_makeRowOnce_82 : decode cX7_makeRowOnce 82 = .ok (.goto (-23), 3) := by decide +kernel
theorem dX7_makeRowOnce_85 : decode cX7_makeRowOnce 85 = .ok (.aload_n 2, 1) := by decide +kernel
theorem dX7_makeRowOnce_86 : decode cX7_makeRowOnce 86 = .ok (.getfield 102, 3) := by decide +kernel
theorem dX7_makeRowOnce_89 : decode cX7_makeRowOnce 89 = .ok (.ireturn, 1) := by decide +kernel
theorem dX7_isOutOfReach_0 : decode cX7_isOutOfReach 0 = .ok (.aload_n 0, 1) := by decide +kernel
theorem dX7_isOutOfReach_1 : decode cX7_isOutOfReach 1 = .ok (.getfield 10, 3) := by decide +kernel
theorem dX7_isOutOfReach_4 : decode cX7_isOutOfReach 4 = .ok (.invokevirtual 147, 3) := by decide +kernel
theorem dX7_isOutOfReach_7 : decode cX7_isOutOfReach 7 = .ok (.ifCond .ne 22, 3) := by decide +kernel
theorem dX7_isOutOfReach_10 : decode cX7_isOutOfReach 10 = .ok (.aload_n 0, 1) := by decide +kernel
theorem dX7_isOutOfReach_11 : decode cX7_isOutOfReach 11 = .ok (.getfield 53, 3) := by decide +kernel
theorem dX7_isOutOfReach_14 : decode cX7_isOutOfReach 14 = .ok (.bipush 6, 2) := by decide +kernel
theorem dX7_isOutOfReach_16 : decode cX7_isOutOfReach 16 = .ok (.aload_n 0, 1) := by decide +kernel
theorem dX7_isOutOfReach_17 : decode cX7_isOutOfReach 17 = .ok (.getfield 10, 3) := by decide +kernel
theorem dX7_isOutOfReach_20 : decode cX7_isOutOfReach 20 = .ok (.getfield 148, 3) := by decide +kernel
theorem dX7_isOutOfReach_23 : decode cX7_isOutOfReach 23 = .ok (.invokevirtual 269, 3) := by decide +kernel
theorem dX7_isOutOfReach_26 : decode cX7_isOutOfReach 26 = .ok (.pop, 1) := by decide +kernel
theorem dX7_isOutOfReach_27 : decode cX7_isOutOfReach 27 = .ok (.iconst 1, 1) := by decide +kernel
theorem dX7_isOutOfReach_28 : decode cX7_isOutOfReach 28 = .ok (.ireturn, 1) := by decide +kernel
theorem dX7_isOutOfReach_29 : decode cX7_isOutOfReach 29 = .ok (.aload_n 1, 1) := by decide +kernel
theorem dX7_isOutOfReach_30 : decode cX7_isOutOfReach 30 = .ok (.invokevirtual 115, 3) := by decide +kernel
theorem dX7_isOutOfReach_33 : decode cX7_isOutOfReach 33 = .ok (.istore_n 2, 1) := by decide +kernel
theorem dX7_isOutOfReach_34 : decode cX7_isOutOfReach 34 = .ok (.iload_n 2, 1) := by decide +kernel
theorem dX7_isOutOfReach_35 : decode cX7_isOutOfReach 35 = .ok (.bipush (-4), 2) := by decide +kernel
theorem dX7_isOutOfReach_37 : decode cX7_isOutOfReach 37 = .ok (.if_icmp .eq 15, 3) := by decide +kernel
theorem dX7_isOutOfReach_40 : decode cX7_isOutOfReach 40 = .ok (.aload_n 0, 1) := by decide +kernel
theorem dX7_isOutOfReach_41 : decode cX7_isOutOfReach 41 = .ok (.getfield 53, 3) := by decide +kernel
theorem dX7_isOutOfReach_44 : decode cX7_isOutOfReach 44 = .ok (.iconst 3, 1) := by decide +kernel
theorem dX7_isOutOfReach_45 : decode cX7_isOutOfReach 45 = .ok (.iload_n 2, 1) := by decide +kernel
theorem dX7_isOutOfReach_46 : decode cX7_isOutOfReach 46 = .ok (.invokevirtual 269, 3) := by decide +kernel
theorem dX7_isOutOfReach_49 : decode cX7_isOutOfReach 49 = .ok (.pop, 1) := by decide +kernel
theorem dX7_isOutOfReach_50 : decode cX7_isOutOfReach 50 = .ok (.iconst 1, 1) := by decide +kernel
theorem dX7_isOutOfReach_51 : decode cX7_isOutOfReach 51 = .ok (.ireturn, 1) := by decide +kernel
theorem dX7_isOutOfReach_52 : decode cX7_isOutOfReach 52 = .ok (.aload_n 1, 1) := by decide +kernel
theorem dX7_isOutOfReach_53 : decode cX7_isOutOfReach 53 = .ok (.invokevirtual 112, 3) := by decide +kernel
theorem dX7_isOutOfReach_56 : decode cX7_isOutOfReach 56 = .ok (.istore_n 3, 1) := by decide +kernel
theorem dX7_isOutOfReach_57 : decode cX7_isOutOfReach 57 = .ok (.iload_n 3, 1) := by decide +kernel
theorem dX7_isOutOfReach_58 : decode cX7_isOutOfReach 58 = .ok (.aload_n 0, 1) := by decide +kernel
theorem dX7_isOutOfReach_59 : decode cX7_isOutOfReach 59 = .ok (.getfield 10, 3) := by decide +kernel
theorem dX7_isOutOfReach_62 : decode cX7_isOutOfReach 62 = .ok (.invokevirtual 147, 3) := by decide +kernel
theorem dX7_isOutOfReach_65 : decode cX7_isOutOfReach 65 = .ok (.if_icmp .eq 15, 3) := by decide +kernel
theorem dX7_isOutOfReach_68 : decode cX7_isOutOfReach 68 = .ok (.aload_n 0, 1) := by decide +kernel
theorem dX7_isOutOfReach_69 : decode cX7_isOutOfReach 69 = .ok (.getfield 53, 3) := by decide +kernel
theorem dX7_isOutOfReach_72 : decode cX7_isOutOfReach 72 = .ok (.iconst 5, 1) := by decide +kernel
theorem dX7_isOutOfReach_73 : decode cX7_isOutOfReach 73 = .ok (.iload_n 3, 1) := by decide +kernel
theorem dX7_isOutOfReach_74 : decode cX7_isOutOfReach 74 = .ok (.invokevirtual 269, 3) := by decide +kernel
theorem dX7_isOutOfReach_77 : decode cX7_isOutOfReach 77 = .ok (.pop, 1) := by decide +kernel
theorem dX7_isOutOfReach_78 : decode cX7_isOutOfReach 78 = .ok (.iconst 1, 1) := by decide +kernel
theorem dX7_isOutOfReach_79 : decode cX7_isOutOfReach 79 = .ok (.ireturn, 1) := by decide +kernel
theorem dX7_isOutOfReach_80 : decode cX7_isOutOfReach 80 = .ok (.iconst 0, 1) := by decide +kernel
theorem dX7_isOutOfReach_81 : decode cX7_isOutOfReach 81 = .ok (.ireturn, 1) := by decide +kernel
theorem dX7_keepChange_0 : decode cX7_keepChange 0 = .ok (.iload_n 1, 1) := by decide +kernel
theorem dX7_keepChange_1 : decode cX7_keepChange 1 = .ok (.invokestatic 291, 3) := by decide +kernel
theorem dX7_keepChange_4 : decode cX7_keepChange 4 = .ok (.ifCond .ne 14, 3) := by decide +kernel
theorem dX7_keepChange_7 : decode cX7_keepChange 7 = .ok (.aload_n 0, 1) := by decide +kernel
theorem dX7_keepChange_8 : decode cX7_keepChange 8 = .ok (.getfield 25, 3) := by decide +kernel
theorem dX7_keepChange_11 : decode cX7_keepChange 11 = .ok (.aload_n 0, 1) := by decide +kernel
theorem dX7_keepChange_12 : decode cX7_keepChange 12 = .ok (.getfield 16, 3) := by decide +kernel
theorem dX7_keepChange_15 : decode cX7_keepChange 15 = .ok (.invokevirtual 294, 3) := by decide +kernel
theorem dX7_keepChange_18 : decode cX7_keepChange 18 = .ok (.iload_n 1, 1) := by decide +kernel
theorem dX7_keepChange_19 : decode cX7_keepChange 19 = .ok (.ireturn, 1) := by decide +kernel
theorem dX7_isError_0 : decode cX7_isError 0 = .ok (.iload_n 0, 1) := by decide +kernel
theorem dX7_isError_1 : decode cX7_isError 1 = .ok (.iconst (-1), 1) := by decide +kernel
theorem dX7_isError_2 : decode cX7_isError 2 = .ok (.if_icmp .eq 15, 3) := by decide +kernel
theorem dX7_isError_5 : decode cX7_isError 5 = .ok (.iload_n 0, 1) := by decide +kernel
theorem dX7_isError_6 : decode cX7_isError 6 = .ok (.bipush (-2), 2) := by decide +kernel
theorem dX7_isError_8 : decode cX7_isError 8 = .ok (.if_icmp .eq 9, 3) := by decide +kernel
theorem dX7_isError_11 : decode cX7_isError 11 = .ok (.iload_n 0, 1) := by decide +kernel
theorem dX7_isError_12 : decode cX7_isError 12 = .ok (.bipush (-3), 2) := by decide +kernel
theorem dX7_isError_14 : decode cX7_isError 14 = .ok (.if_icmp .ne 7, 3) := by decide +kernel
theorem dX7_isError_17 : decode cX7_isError 17 = .ok (.iconst 1, 1) := by decide +kernel
theorem dX7_isError_18 : decode cX7_isError 18 = .ok (.goto 4, 3) := by decide +kernel
theorem dX7_isError_21 : decode cX7_isError 21 = .ok (.iconst 0, 1) := by decide +kernel
theorem dX7_isError_22 : decode cX7_isError 22 = .ok (.ireturn, 1) := by decide +kernel
theorem dX7_carryOutAll_0 : decode cX7_carryOutAll 0 = .ok (.aload_n 0, 1) := by decide +kernel
theorem dX7_carryOutAll_1 : decode cX7_carryOutAll 1 = .ok (.getfield 16, 3) := by decide +kernel
theorem dX7_carryOutAll_4 : decode cX7_carryOutAll 4 = .ok (.aload_n 0, 1) := by decide +kernel
theorem dX7_carryOutAll_5 : decode cX7_carryOutAll 5 = .ok (.getfield 10, 3) := by decide +kernel
theorem dX7_carryOutAll_8 : decode cX7_carryOutAll 8 = .ok (.invokevirtual 61, 3) := by decide +kernel
theorem dX7_carryOutAll_11 : decode cX7_carryOutAll 11 = .ok (.iconst 0, 1) := by decide +kernel
theorem dX7_carryOutAll_12 : decode cX7_carryOutAll 12 = .ok (.istore_n 1, 1) := by decide +kernel
theorem dX7_carryOutAll_13 : decode cX7_carryOutAll 13 = .ok (.iconst 0, 1) := by decide +kernel
theorem dX7_carryOutAll_14 : decode cX7_carryOutAll 14 = .ok (.istore_n 2, 1) := by decide +kernel
theorem dX7_carryOutAll_15 : decode cX7_carryOutAll 15 = .ok (.iconst 0, 1) := by decide +kernel
theorem dX7_carryOutAll_16 : decode cX7_carryOutAll 16 = .ok (.istore_n 3, 1) := by decide +kernel
theorem dX7_carryOutAll_17 : decode cX7_carryOutAll 17 = .ok (.iload_n 3, 1) := by decide +kernel
theorem dX7_carryOutAll_18 : decode cX7_carryOutAll 18 = .ok (.bipush 70, 2) := by decide +kernel
theorem dX7_carryOutAll_20 : decode cX7_carryOutAll 20 = .ok (.if_icmp .ge 83, 3) := by decide +kernel
theorem dX7_carryOutAll_23 : decode cX7_carryOutAll 23 = .ok (.iload_n 2, 1) := by decide +kernel
theorem dX7_carryOutAll_24 : decode cX7_carryOutAll 24 = .ok (.aload_n 0, 1) := by decide +kernel
theorem dX7_carryOutAll_25 : decode cX7_carryOutAll 25 = .ok (.getfield 46, 3) := by decide +kernel
theorem dX7_carryOutAll_28 : decode cX7_carryOutAll 28 = .ok (.getfield 198, 3) := by decide +kernel
theorem dX7_carryOutAll_31 : decode cX7_carryOutAll 31 = .ok (.if_icmp .ge 72, 3) := by decide +kernel
theorem dX7_carryOutAll_34 : decode cX7_carryOutAll 34 = .ok (.aload_n 0, 1) := by decide +kernel
theorem dX7_carryOutAll_35 : decode cX7_carryOutAll 35 = .ok (.getfield 53, 3) := by decide +kernel
theorem dX7_carryOutAll_38 : decode cX7_carryOutAll 38 = .ok (.iload_n 3, 1) := by decide +kernel
theorem dX7_carryOutAll_39 : decode cX7_carryOutAll 39 = .ok (.putfield 205, 3) := by decide +kernel
theorem dX7_carryOutAll_42 : decode cX7_carryOutAll 42 = .ok (.aload_n 0, 1) := by decide +kernel
theorem dX7_carryOutAll_43 : decode cX7_carryOutAll 43 = .ok (.iload_n 2, 1) := by decide +kernel
theorem dX7_carryOutAll_44 : decode cX7_carryOutAll 44 = .ok (.invokevirtual 297, 3) := by decide +kernel
theorem dX7_carryOutAll_47 : decode cX7_carryOutAll 47 = .ok (.istore 4, 2) := by decide +kernel
theorem dX7_carryOutAll_49 : decode cX7_carryOutAll 49 = .ok (.iload 4, 2) := by decide +kernel
theorem dX7_carryOutAll_51 : decode cX7_carryOutAll 51 = .ok (.invokestatic 291, 3) := by decide +kernel
theorem dX7_carryOutAll_54 : decode cX7_carryOutAll 54 = .ok (.ifCond .eq 29, 3) := by decide +kernel
theorem dX7_carryOutAll_57 : decode cX7_carryOutAll 57 = .ok (.aload_n 0, 1) := by decide +kernel
theorem dX7_carryOutAll_58 : decode cX7_carryOutAll 58 = .ok (.getfield 10, 3) := by decide +kernel
theorem dX7_carryOutAll_61 : decode cX7_carryOutAll 61 = .ok (.aload_n 0, 1) := by decide +kernel
theorem dX7_carryOutAll_62 : decode cX7_carryOutAll 62 = .ok (.getfield 16, 3) := by decide +kernel
theorem dX7_carryOutAll_65 : decode cX7_carryOutAll 65 = .ok (.invokevirtual 61, 3) := by decide +kernel
theorem dX7_carryOutAll_68 : decode cX7_carryOutAll 68 = .ok (.iload 4, 2) := by decide +kernel
theorem dX7_carryOutAll_70 : decode cX7_carryOutAll 70 = .ok (.bipush (-3), 2) := by decide +kernel
theorem dX7_carryOutAll_72 : decode cX7_carryOutAll 72 = .ok (.if_icmp .ne 8, 3) := by decide +kernel
theorem dX7_carryOutAll_75 : decode cX7_carryOutAll 75 = .ok (.bipush (-3), 2) := by decide +kernel
theorem dX7_carryOutAll_77 : decode cX7_carryOutAll 77 = .ok (.goto 5, 3) := by decide +kernel
theorem dX7_carryOutAll_80 : decode cX7_carryOutAll 80 = .ok (.bipush (-2), 2) := by decide +kernel
theorem dX7_carryOutAll_82 : decode cX7_carryOutAll 82 = .ok (.ireturn, 1) := by decide +kernel
theorem dX7_carryOutAll_83 : decode cX7_carryOutAll 83 = .ok (.aload_n 0, 1) := by decide +kernel
theorem dX7_carryOutAll_84 : decode cX7_carryOutAll 84 = .ok (.getfield 46, 3) := by decide +kernel
theorem dX7_carryOutAll_87 : decode cX7_carryOutAll 87 = .ok (.iload_n 2, 1) := by decide +kernel
theorem dX7_carryOutAll_88 : decode cX7_carryOutAll 88 = .ok (.invokevirtual 300, 3) := by decide +kernel
theorem dX7_carryOutAll_91 : decode cX7_carryOutAll 91 = .ok (.iconst 1, 1) := by decide +kernel
theorem dX7_carryOutAll_92 : decode cX7_carryOutAll 92 = .ok (.iadd, 1) := by decide +kernel
theorem dX7_carryOutAll_93 : decode cX7_carryOutAll 93 = .ok (.istore_n 2, 1) := by decide +kernel
theorem dX7_carryOutAll_94 : decode cX7_carryOutAll 94 = .ok (.iinc 1 1, 3) := by decide +kernel
theorem dX7_carryOutAll_97 : decode cX7_carryOutAll 97 = .ok (.iinc 3 1, 3) := by decide +kernel
theorem dX7_carryOutAll_100 : decode cX7_carryOutAll 100 = .ok (.goto (-83), 3) := by decide +kernel
theorem dX7_carryOutAll_103 : decode cX7_carryOutAll 103 = .ok (.aload_n 0, 1) := by decide +kernel
theorem dX7_carryOutAll_104 : decode cX7_carryOutAll 104 = .ok (.getfield 25, 3) := by decide +kernel
theorem dX7_carryOutAll_107 : decode cX7_carryOutAll 107 = .ok (.aload_n 0, 1) := by decide +kernel
theorem dX7_carryOutAll_108 : decode cX7_carryOutAll 108 = .ok (.getfield 16, 3) := by decide +kernel
theorem dX7_carryOutAll_111 : decode cX7_carryOutAll 111 = .ok (.invokevirtual 294, 3) := by decide +kernel
theorem dX7_carryOutAll_114 : decode cX7_carryOutAll 114 = .ok (.iload_n 1, 1) := by decide +kernel
theorem dX7_carryOutAll_115 : decode cX7_carryOutAll 115 = .ok (.ireturn, 1) := by decide +kernel
theorem dX7_carryOut_0 : decode cX7_carryOut 0 = .ok (.aload_n 0, 1) := by decide +kernel
theorem dX7_carryOut_1 : decode cX7_carryOut 1 = .ok (.getfield 46, 3) := by decide +kernel
theorem dX7_carryOut_4 : decode cX7_carryOut 4 = .ok (.iload_n 1, 1) := by decide +kernel
theorem dX7_carryOut_5 : decode cX7_carryOut 5 = .ok (.iconst 1, 1) := by decide +kernel
theorem dX7_carryOut_6 : decode cX7_carryOut 6 = .ok (.iadd, 1) := by decide +kernel
theorem dX7_carryOut_7 : decode cX7_carryOut 7 = .ok (.invokevirtual 303, 3) := by decide +kernel
theorem dX7_carryOut_10 : decode cX7_carryOut 10 = .ok (.istore_n 2, 1) := by decide +kernel
theorem dX7_carryOut_11 : decode cX7_carryOut 11 = .ok (.aload_n 0, 1) := by decide +kernel
theorem dX7_carryOut_12 : decode cX7_carryOut 12 = .ok (.getfield 46, 3) := by decide +kernel
theorem dX7_carryOut_15 : decode cX7_carryOut 15 = .ok (.iload_n 1, 1) := by decide +kernel
theorem dX7_carryOut_16 : decode cX7_carryOut 16 = .ok (.invokevirtual 306, 3) := by decide +kernel
theorem dX7_carryOut_19 : decode cX7_carryOut 19 = .ok (.tableswitch 173 98 120 #[149, 161, 173, 173, 173, 173, 173, 173, 155, 173, 143, 173, 173, 173, 173, 173, 167, 117, 111, 173, 173, 173, 105], 105) := by decide +kernel
theorem dX7_carryOut_124 : decode cX7_carryOut 124 = .ok (.aload_n 0, 1) := by decide +kernel
theorem dX7_carryOut_125 : decode cX7_carryOut 125 = .ok (.iload_n 2, 1) := by decide +kernel
theorem dX7_carryOut_126 : decode cX7_carryOut 126 = .ok (.invokevirtual 73, 3) := by decide +kernel
theorem dX7_carryOut_129 : decode cX7_carryOut 129 = .ok (.ireturn, 1) := by decide +kernel
theorem dX7_carryOut_130 : decode cX7_carryOut 130 = .ok (.aload_n 0, 1) := by decide +kernel
theorem dX7_carryOut_131 : decode cX7_carryOut 131 = .ok (.iload_n 2, 1) := by decide +kernel
theorem dX7_carryOut_132 : decode cX7_carryOut 132 = .ok (.invokevirtual 76, 3) := by decide +kernel
theorem dX7_carryOut_135 : decode cX7_carryOut 135 = .ok (.ireturn, 1) := by decide +kernel
theorem dX7_carryOut_136 : decode cX7_carryOut 136 = .ok (.aload_n 0, 1) := by decide +kernel
theorem dX7_carryOut_137 : decode cX7_carryOut 137 = .ok (.iload_n 2, 1) := by decide +kernel
theorem dX7_carryOut_138 : decode cX7_carryOut 138 = .ok (.aload_n 0, 1) := by decide +kernel
theorem dX7_carryOut_139 : decode cX7_carryOut 139 = .ok (.getfield 46, 3) := by decide +kernel
theorem dX7_carryOut_142 : decode cX7_carryOut 142 = .ok (.iload_n 1, 1) := by decide +kernel
theorem dX7_carryOut_143 : decode cX7_carryOut 143 = .ok (.iconst 2, 1) := by decide +kernel
theorem dX7_carryOut_144 : decode cX7_carryOut 144 = .ok (.iadd, 1) := by decide +kernel
theorem dX7_carryOut_145 : decode cX7_carryOut 145 = .ok (.invokevirtual 303, 3) := by decide +kernel
theorem dX7_carryOut_148 : decode cX7_carryOut 148 = .ok (.aload_n 0, 1) := by decide +kernel
theorem dX7_carryOut_149 : decode cX7_carryOut 149 = .ok (.getfield 46, 3) := by decide +kernel
theorem dX7_carryOut_152 : decode cX7_carryOut 152 = .ok (.iload_n 1, 1) := by decide +kernel
theorem dX7_carryOut_153 : decode cX7_carryOut 153 = .ok (.iconst 3, 1) := by decide +kernel
theorem dX7_carryOut_154 : decode cX7_carryOut 154 = .ok (.iadd, 1) := by decide +kernel
theorem dX7_carryOut_155 : decode cX7_carryOut 155 = .ok (.invokevirtual 303, 3) := by decide +kernel
theorem dX7_carryOut_158 : decode cX7_carryOut 158 = .ok (.invokevirtual 79, 3) := by decide +kernel
theorem dX7_carryOut_161 : decode cX7_carryOut 161 = .ok (.ireturn, 1) := by decide +kernel
theorem dX7_carryOut_162 : decode cX7_carryOut 162 = .ok (.aload_n 0, 1) := by decide +kernel
theorem dX7_carryOut_163 : decode cX7_carryOut 163 = .ok (.iload_n 2, 1) := by decide +kernel
theorem dX7_carryOut_164 : decode cX7_carryOut 164 = .ok (.invokevirtual 83, 3) := by decide +kernel
theorem dX7_carryOut_167 : decode cX7_carryOut 167 = .ok (.ireturn, 1) := by decide +kernel
theorem dX7_carryOut_168 : decode cX7_carryOut 168 = .ok (.aload_n 0, 1) := by decide +kernel
theorem dX7_carryOut_169 : decode cX7_carryOut 169 = .ok (.iload_n 2, 1) := by decide +kernel
theorem dX7_carryOut_170 : decode cX7_carryOut 170 = .ok (.invokevirtual 86, 3) := by decide +kernel
theorem dX7_carryOut_173 : decode cX7_carryOut 173 = .ok (.ireturn, 1) := by decide +kernel
theorem dX7_carryOut_174 : decode cX7_carryOut 174 = .ok (.aload_n 0, 1) := by decide +kernel
theorem dX7_carryOut_175 : decode cX7_carryOut 175 = .ok (.iload_n 2, 1) := by decide +kernel
theorem dX7_carryOut_176 : decode cX7_carryOut 176 = .ok (.invokevirtual 89, 3) := by decide +kernel
theorem dX7_carryOut_179 : decode cX7_carryOut 179 = .ok (.ireturn, 1) := by decide +kernel
theorem dX7_carryOut_180 : decode cX7_carryOut 180 = .ok (.aload_n 0, 1) := by decide +kernel
theorem dX7_carryOut_181 : decode cX7_carryOut 181 = .ok (.iload_n 2, 1) := by decide +kernel
theorem dX7_carryOut_182 : decode cX7_carryOut 182 = .ok (.invokevirtual 92, 3) := by decide +kernel
theorem dX7_carryOut_185 : decode cX7_carryOut 185 = .ok (.ireturn, 1) := by decide +kernel
theorem dX7_carryOut_186 : decode cX7_carryOut 186 = .ok (.aload_n 0, 1) := by decide +kernel
theorem dX7_carryOut_187 : decode cX7_carryOut 187 = .ok (.iload_n 2, 1) := by decide +kernel
theorem dX7_carryOut_188 : decode cX7_carryOut 188 = .ok (.invokevirtual 95, 3) := by decide +kernel
theorem dX7_carryOut_191 : decode cX7_carryOut 191 = .ok (.ireturn, 1) := by decide +kernel
theorem dX7_carryOut_192 : decode cX7_carryOut 192 = .ok (.aload_n 0, 1) := by decide +kernel
theorem dX7_carryOut_193 : decode cX7_carryOut 193 = .ok (.aload_n 0, 1) := by decide +kernel
theorem dX7_carryOut_194 : decode cX7_carryOut 194 = .ok (.getfield 46, 3) := by decide +kernel
theorem dX7_carryOut_197 : decode cX7_carryOut 197 = .ok (.iload_n 1, 1) := by decide +kernel
theorem dX7_carryOut_198 : decode cX7_carryOut 198 = .ok (.invokevirtual 307, 3) := by decide +kernel
theorem dX7_carryOut_201 : decode cX7_carryOut 201 = .ok (.aload_n 0, 1) := by decide +kernel
theorem dX7_carryOut_202 : decode cX7_carryOut 202 = .ok (.getfield 46, 3) := by decide +kernel
theorem dX7_carryOut_205 : decode cX7_carryOut 205 = .ok (.iload_n 1, 1) := by decide +kernel
theorem dX7_carryOut_206 : decode cX7_carryOut 206 = .ok (.invokevirtual 300, 3) := by decide +kernel
theorem dX7_carryOut_209 : decode cX7_carryOut 209 = .ok (.iload_n 1, 1) := by decide +kernel
theorem dX7_carryOut_210 : decode cX7_carryOut 210 = .ok (.isub, 1) := by decide +kernel
theorem dX7_carryOut_211 : decode cX7_carryOut 211 = .ok (.invokevirtual 65, 3) := by decide +kernel
theorem dX7_carryOut_214 : decode cX7_carryOut 214 = .ok (.ireturn, 1) := by decide +kernel
theorem dX7_canMake_0 : decode cX7_canMake 0 = .ok (.iload_n 0, 1) := by decide +kernel
theorem dX7_canMake_1 : decode cX7_canMake 1 = .ok (.iconst 1, 1) := by decide +kernel
theorem dX7_canMake_2 : decode cX7_canMake 2 = .ok (.iand, 1) := by decide +kernel
theorem dX7_canMake_3 : decode cX7_canMake 3 = .ok (.ifCond .eq 7, 3) := by decide +kernel
theorem dX7_canMake_6 : decode cX7_canMake 6 = .ok (.iconst 1, 1) := by decide +kernel
theorem dX7_canMake_7 : decode cX7_canMake 7 = .ok (.goto 4, 3) := by decide +kernel
theorem dX7_canMake_10 : decode cX7_canMake 10 = .ok (.iconst 0, 1) := by decide +kernel
theorem dX7_canMake_11 : decode cX7_canMake 11 = .ok (.istore_n 2, 1) := by decide +kernel
theorem dX7_canMake_12 : decode cX7_canMake 12 = .ok (.iload_n 1, 1) := by decide +kernel
theorem dX7_canMake_13 : decode cX7_canMake 13 = .ok (.ifCond .ne 13, 3) := by decide +kernel
theorem dX7_canMake_16 : decode cX7_canMake 16 = .ok (.iload_n 2, 1) := by decide +kernel
theorem dX7_canMake_17 : decode cX7_canMake 17 = .ok (.ifCond .ne 7, 3) := by decide +kernel
theorem dX7_canMake_20 : decode cX7_canMake 20 = .ok (.iconst 1, 1) := by decide +kernel
theorem dX7_canMake_21 : decode cX7_canMake 21 = .ok (.goto 4, 3) := by decide +kernel
theorem dX7_canMake_24 : decode cX7_canMake 24 = .ok (.iconst 0, 1) := by decide +kernel
theorem dX7_canMake_25 : decode cX7_canMake 25 = .ok (.ireturn, 1) := by decide +kernel
theorem dX7_canMake_26 : decode cX7_canMake 26 = .ok (.iload_n 2, 1) := by decide +kernel
theorem dX7_canMake_27 : decode cX7_canMake 27 = .ok (.ifCond .eq 15, 3) := by decide +kernel
theorem dX7_canMake_30 : decode cX7_canMake 30 = .ok (.iload_n 0, 1) := by decide +kernel
theorem dX7_canMake_31 : decode cX7_canMake 31 = .ok (.iconst 1, 1) := by decide +kernel
theorem dX7_canMake_32 : decode cX7_canMake 32 = .ok (.iload_n 1, 1) := by decide +kernel
theorem dX7_canMake_33 : decode cX7_canMake 33 = .ok (.ishl, 1) := by decide +kernel
theorem dX7_canMake_34 : decode cX7_canMake 34 = .ok (.iand, 1) := by decide +kernel
theorem dX7_canMake_35 : decode cX7_canMake 35 = .ok (.ifCond .ne 7, 3) := by decide +kernel
theorem dX7_canMake_38 : decode cX7_canMake 38 = .ok (.iconst 1, 1) := by decide +kernel
theorem dX7_canMake_39 : decode cX7_canMake 39 = .ok (.goto 4, 3) := by decide +kernel
theorem dX7_canMake_42 : decode cX7_canMake 42 = .ok (.iconst 0, 1) := by decide +kernel
theorem dX7_canMake_43 : decode cX7_canMake 43 = .ok (.ireturn, 1) := by decide +kernel
theorem dX7_stateBehind_0 : decode cX7_stateBehind 0 = .ok (.iload_n 0, 1) := by decide +kernel
theorem dX7_stateBehind_1 : decode cX7_stateBehind 1 = .ok (.iconst 1, 1) := by decide +kernel
theorem dX7_stateBehind_2 : decode cX7_stateBehind 2 = .ok (.ishr, 1) := by decide +kernel
theorem dX7_stateBehind_3 : decode cX7_stateBehind 3 = .ok (.istore_n 2, 1) := by decide +kernel
theorem dX7_stateBehind_4 : decode cX7_stateBehind 4 = .ok (.iload_n 1, 1) := by decide +kernel
theorem dX7_stateBehind_5 : decode cX7_stateBehind 5 = .ok (.ifCond .ne 7, 3) := by decide +kernel
theorem dX7_stateBehind_8 : decode cX7_stateBehind 8 = .ok (.iload_n 2, 1) := by decide +kernel
theorem dX7_stateBehind_9 : decode cX7_stateBehind 9 = .ok (.goto 10, 3) := by decide +kernel
theorem dX7_stateBehind_12 : decode cX7_stateBehind 12 = .ok (.iload_n 2, 1) := by decide +kernel
theorem dX7_stateBehind_13 : decode cX7_stateBehind 13 = .ok (.iconst 1, 1) := by decide +kernel
theorem dX7_stateBehind_14 : decode cX7_stateBehind 14 = .ok (.iload_n 1, 1) := by decide +kernel
theorem dX7_stateBehind_15 : decode cX7_stateBehind 15 = .ok (.iconst 1, 1) := by decide +kernel
theorem dX7_stateBehind_16 : decode cX7_stateBehind 16 = .ok (.isub, 1) := by decide +kernel
theorem dX7_stateBehind_17 : decode cX7_stateBehind 17 = .ok (.ishl, 1) := by decide +kernel
theorem dX7_stateBehind_18 : decode cX7_stateBehind 18 = .ok (.ior, 1) := by decide +kernel
theorem dX7_stateBehind_19 : decode cX7_stateBehind 19 = .ok (.ireturn, 1) := by decide +kernel
theorem dX7_countPossible_0 : decode cX7_countPossible 0 = .ok (.iconst 0, 1) := by decide +kernel
theorem dX7_countPossible_1 : decode cX7_countPossible 1 = .ok (.istore_n 1, 1) := by decide +kernel
theorem dX7_countPossible_2 : decode cX7_countPossible 2 = .ok (.iconst 0, 1) := by decide +kernel
theorem dX7_countPossible_3 : decode cX7_countPossible 3 = .ok (.istore_n 2, 1) := by decide +kernel
theorem dX7_countPossible_4 : decode cX7_countPossible 4 = .ok (.iload_n 2, 1) := by decide +kernel
theorem dX7_countPossible_5 : decode cX7_countPossible 5 = .ok (.bipush 9, 2) := by decide +kernel
theorem dX7_countPossible_7 : decode cX7_countPossible 7 = .ok (.if_icmp .gt 20, 3) := by decide +kernel
theorem dX7_countPossible_10 : decode cX7_countPossible 10 = .ok (.iload_n 0, 1) := by decide +kernel
theorem dX7_countPossible_11 : decode cX7_countPossible 11 = .ok (.iload_n 2, 1) := by decide +kernel
theorem dX7_countPossible_12 : decode cX7_countPossible 12 = .ok (.invokestatic 154, 3) := by decide +kernel
theorem dX7_countPossible_15 : decode cX7_countPossible 15 = .ok (.ifCond .eq 6, 3) := by decide +kernel
theorem dX7_countPossible_18 : decode cX7_countPossible 18 = .ok (.iinc 1 1, 3) := by decide +kernel
theorem dX7_countPossible_21 : decode cX7_countPossible 21 = .ok (.iinc 2 1, 3) := by decide +kernel
theorem dX7_countPossible_24 : decode cX7_countPossible 24 = .ok (.goto (-20), 3) := by decide +kernel
theorem dX7_countPossible_27 : decode cX7_countPossible 27 = .ok (.iload_n 1, 1) := by decide +kernel
theorem dX7_countPossible_28 : decode cX7_countPossible 28 = .ok (.ireturn, 1) := by decide +kernel
theorem dX7_hasJoin_0 : decode cX7_hasJoin 0 = .ok (.aload_n 1, 1) := by decide +kernel
theorem dX7_hasJoin_1 : decode cX7_hasJoin 1 = .ok (.invokevirtual 112, 3) := by decide +kernel
theorem dX7_hasJoin_4 : decode cX7_hasJoin 4 = .ok (.aload_n 0, 1) := by decide +kernel
theorem dX7_hasJoin_5 : decode cX7_hasJoin 5 = .ok (.getfield 10, 3) := by decide +kernel
theorem dX7_hasJoin_8 : decode cX7_hasJoin 8 = .ok (.invokevirtual 147, 3) := by decide +kernel
theorem dX7_hasJoin_11 : decode cX7_hasJoin 11 = .ok (.if_icmp .ne 7, 3) := by decide +kernel
theorem dX7_hasJoin_14 : decode cX7_hasJoin 14 = .ok (.iconst 1, 1) := by decide +kernel
theorem dX7_hasJoin_15 : decode cX7_hasJoin 15 = .ok (.goto 4, 3) := by decide +kernel
theorem dX7_hasJoin_18 : decode cX7_hasJoin 18 = .ok (.iconst 0, 1) := by decide +kernel
theorem dX7_hasJoin_19 : decode cX7_hasJoin 19 = .ok (.ireturn, 1) := by decide +kernel
theorem dX7_rankKey_0 : decode cX7_rankKey 0 = .ok (.aload_n 0, 1) := by decide +kernel
theorem dX7_rankKey_1 : decode cX7_rankKey 1 = .ok (.getfield 10, 3) := by decide +kernel
theorem dX7_rankKey_4 : decode cX7_rankKey 4 = .ok (.iload_n 2, 1) := by decide +kernel
theorem dX7_rankKey_5 : decode cX7_rankKey 5 = .ok (.invokevirtual 98, 3) := by decide +kernel
theorem dX7_rankKey_8 : decode cX7_rankKey 8 = .ok (.astore_n 3, 1) := by decide +kernel
theorem dX7_rankKey_9 : decode cX7_rankKey 9 = .ok (.aload_n 3, 1) := by decide +kernel
theorem dX7_rankKey_10 : decode cX7_rankKey 10 = .ok (.ifnonnull 5, 3) := by decide +kernel
theorem dX7_rankKey_13 : decode cX7_rankKey 13 = .ok (.iconst 0, 1) := by decide +kernel
theorem dX7_rankKey_14 : decode cX7_rankKey 14 = .ok (.ireturn, 1) := by decide +kernel
theorem dX7_rankKey_15 : decode cX7_rankKey 15 = .ok (.iload_n 1, 1) := by decide +kernel
theorem dX7_rankKey_16 : decode cX7_rankKey 16 = .ok (.ifCond .ne 8, 3) := by decide +kernel
theorem dX7_rankKey_19 : decode cX7_rankKey 19 = .ok (.aload_n 3, 1) := by decide +kernel
theorem dX7_rankKey_20 : decode cX7_rankKey 20 = .ok (.getfield 102, 3) := by decide +kernel
theorem dX7_rankKey_23 : decode cX7_rankKey 23 = .ok (.ireturn, 1) := by decide +kernel
theorem dX7_rankKey_24 : decode cX7_rankKey 24 = .ok (.iload_n 1, 1) := by decide +kernel
theorem dX7_rankKey_25 : decode cX7_rankKey 25 = .ok (.iconst 2, 1) := by decide +kernel
theorem dX7_rankKey_26 : decode cX7_rankKey 26 = .ok (.if_icmp .ne 8, 3) := by decide +kernel
theorem dX7_rankKey_29 : decode cX7_rankKey 29 = .ok (.aload_n 3, 1) := by decide +kernel
theorem dX7_rankKey_30 : decode cX7_rankKey 30 = .ok (.invokevirtual 121, 3) := by decide +kernel
theorem dX7_rankKey_33 : decode cX7_rankKey 33 = .ok (.ireturn, 1) := by decide +kernel
theorem dX7_rankKey_34 : decode cX7_rankKey 34 = .ok (.aload_n 3, 1) := by decide +kernel
theorem dX7_rankKey_35 : decode cX7_rankKey 35 = .ok (.invokevirtual 112, 3) := by decide +kernel
theorem dX7_rankKey_38 : decode cX7_rankKey 38 = .ok (.istore 4, 2) := by decide +kernel
theorem dX7_rankKey_40 : decode cX7_rankKey 40 = .ok (.iload 4, 2) := by decide +kernel
theorem dX7_rankKey_42 : decode cX7_rankKey 42 = .ok (.bipush (-4), 2) := by decide +kernel
theorem dX7_rankKey_44 : decode cX7_rankKey 44 = .ok (.if_icmp .ne 7, 3) := by decide +kernel
theorem dX7_rankKey_47 : decode cX7_rankKey 47 = .ok (.iconst 1, 1) := by decide +kernel
theorem dX7_rankKey_48 : decode cX7_rankKey 48 = .ok (.goto 6, 3) := by decide +kernel
theorem dX7_rankKey_51 : decode cX7_rankKey 51 = .ok (.iload 4, 2) := by decide +kernel
theorem dX7_rankKey_53 : decode cX7_rankKey 53 = .ok (.ineg, 1) := by decide +kernel
theorem dX7_rankKey_54 : decode cX7_rankKey 54 = .ok (.ireturn, 1) := by decide +kernel
theorem dX7_countAhead_0 : decode cX7_countAhead 0 = .ok (.iconst 0, 1) := by decide +kernel
theorem dX7_countAhead_1 : decode cX7_countAhead 1 = .ok (.istore_n 2, 1) := by decide +kernel
theorem dX7_countAhead_2 : decode cX7_countAhead 2 = .ok (.iconst 0, 1) := by decide +kernel
theorem dX7_countAhead_3 : decode cX7_countAhead 3 = .ok (.istore_n 3, 1) := by decide +kernel
theorem dX7_countAhead_4 : decode cX7_countAhead 4 = .ok (.iload_n 3, 1) := by decide +kernel
theorem dX7_countAhead_5 : decode cX7_countAhead 5 = .ok (.aload_n 0, 1) := by decide +kernel
theorem dX7_countAhead_6 : decode cX7_countAhead 6 = .ok (.getfield 10, 3) := by decide +kernel
theorem dX7_countAhead_9 : decode cX7_countAhead 9 = .ok (.getfield 172, 3) := by decide +kernel
theorem dX7_countAhead_12 : decode cX7_countAhead 12 = .ok (.if_icmp .ge 21, 3) := by decide +kernel
theorem dX7_countAhead_15 : decode cX7_countAhead 15 = .ok (.aload_n 0, 1) := by decide +kernel
theorem dX7_countAhead_16 : decode cX7_countAhead 16 = .ok (.iload_n 3, 1) := by decide +kernel
theorem dX7_countAhead_17 : decode cX7_countAhead 17 = .ok (.iload_n 1, 1) := by decide +kernel
theorem dX7_countAhead_18 : decode cX7_countAhead 18 = .ok (.invokevirtual 310, 3) := by decide +kernel
theorem dX7_countAhead_21 : decode cX7_countAhead 21 = .ok (.ifCond .eq 6, 3) := by decide +kernel
theorem dX7_countAhead_24 : decode cX7_countAhead 24 = .ok (.iinc 2 1, 3) := by decide +kernel
theorem dX7_countAhead_27 : decode cX7_countAhead 27 = .ok (.iinc 3 1, 3) := by decide +kernel
theorem dX7_countAhead_30 : decode cX7_countAhead 30 = .ok (.goto (-26), 3) := by decide +kernel
theorem dX7_countAhead_33 : decode cX7_countAhead 33 = .ok (.iload_n 2, 1) := by decide +kernel
theorem dX7_countAhead_34 : decode cX7_countAhead 34 = .ok (.ireturn, 1) := by decide +kernel
theorem dX7_isAhead_0 : decode cX7_isAhead 0 = .ok (.iload_n 1, 1) := by decide +kernel
theorem dX7_isAhead_1 : decode cX7_isAhead 1 = .ok (.ifCond .lt 25, 3) := by decide +kernel
theorem dX7_isAhead_4 : decode cX7_isAhead 4 = .ok (.iload_n 1, 1) := by decide +kernel
theorem dX7_isAhead_5 : decode cX7_isAhead 5 = .ok (.aload_n 0, 1) := by decide +kernel
theorem dX7_isAhead_6 : decode cX7_isAhead 6 = .ok (.getfield 57, 3) := by decide +kernel
theorem dX7_isAhead_9 : decode cX7_isAhead 9 = .ok (.arraylength, 1) := by decide +kernel
theorem dX7_isAhead_10 : decode cX7_isAhead 10 = .ok (.if_icmp .ge 16, 3) := by decide +kernel
theorem dX7_isAhead_13 : decode cX7_isAhead 13 = .ok (.iload_n 2, 1) := by decide +kernel
theorem dX7_isAhead_14 : decode cX7_isAhead 14 = .ok (.ifCond .lt 12, 3) := by decide +kernel
theorem dX7_isAhead_17 : decode cX7_isAhead 17 = .ok (.iload_n 2, 1) := by decide +kernel
theorem dX7_isAhead_18 : decode cX7_isAhead 18 = .ok (.aload_n 0, 1) := by decide +kernel
theorem dX7_isAhead_19 : decode cX7_isAhead 19 = .ok (.getfield 57, 3) := by decide +kernel
theorem dX7_isAhead_22 : decode cX7_isAhead 22 = .ok (.arraylength, 1) := by decide +kernel
theorem dX7_isAhead_23 : decode cX7_isAhead 23 = .ok (.if_icmp .lt 5, 3) := by decide +kernel
theorem dX7_isAhead_26 : decode cX7_isAhead 26 = .ok (.iconst 0, 1) := by decide +kernel
theorem dX7_isAhead_27 : decode cX7_isAhead 27 = .ok (.ireturn, 1) := by decide +kernel
theorem dX7_isAhead_28 : decode cX7_isAhead 28 = .ok (.aload_n 0, 1) := by decide +kernel
theorem dX7_isAhead_29 : decode cX7_isAhead 29 = .ok (.getfield 57, 3) := by decide +kernel
theorem dX7_isAhead_32 : decode cX7_isAhead 32 = .ok (.iload_n 1, 1) := by decide +kernel
theorem dX7_isAhead_33 : decode cX7_isAhead 33 = .ok (.iaload, 1) := by decide +kernel
theorem dX7_isAhead_34 : decode cX7_isAhead 34 = .ok (.aload_n 0, 1) := by decide +kernel
theorem dX7_isAhead_35 : decode cX7_isAhead 35 = .ok (.getfield 57, 3) := by decide +kernel
theorem dX7_isAhead_38 : decode cX7_isAhead 38 = .ok (.iload_n 2, 1) := by decide +kernel
theorem dX7_isAhead_39 : decode cX7_isAhead 39 = .ok (.iaload, 1) := by decide +kernel
theorem dX7_isAhead_40 : decode cX7_isAhead 40 = .ok (.if_icmp .lt 23, 3) := by decide +kernel
theorem dX7_isAhead_43 : decode cX7_isAhead 43 = .ok (.aload_n 0, 1) := by decide +kernel
theorem dX7_isAhead_44 : decode cX7_isAhead 44 = .ok (.getfield 57, 3) := by decide +kernel
theorem dX7_isAhead_47 : decode cX7_isAhead 47 = .ok (.iload_n 1, 1) := by decide +kernel
theorem dX7_isAhead_48 : decode cX7_isAhead 48 = .ok (.iaload, 1) := by decide +kernel
theorem dX7_isAhead_49 : decode cX7_isAhead 49 = .ok (.aload_n 0, 1) := by decide +kernel
theorem dX7_isAhead_50 : decode cX7_isAhead 50 = .ok (.getfield 57, 3) := by decide +kernel
theorem dX7_isAhead_53 : decode cX7_isAhead 53 = .ok (.iload_n 2, 1) := by decide +kernel
theorem dX7_isAhead_54 : decode cX7_isAhead 54 = .ok (.iaload, 1) := by decide +kernel
theorem dX7_isAhead_55 : decode cX7_isAhead 55 = .ok (.if_icmp .ne 12, 3) := by decide +kernel
theorem dX7_isAhead_58 : decode cX7_isAhead 58 = .ok (.iload_n 1, 1) := by decide +kernel
theorem dX7_isAhead_59 : decode cX7_isAhead 59 = .ok (.iload_n 2, 1) := by decide +kernel
theorem dX7_isAhead_60 : decode cX7_isAhead 60 = .ok (.if_icmp .ge 7, 3) := by decide +kernel
theorem dX7_isAhead_63 : decode cX7_isAhead 63 = .ok (.iconst 1, 1) := by decide +kernel
theorem dX7_isAhead_64 : decode cX7_isAhead 64 = .ok (.goto 4, 3) := by decide +kernel
theorem dX7_isAhead_67 : decode cX7_isAhead 67 = .ok (.iconst 0, 1) := by decide +kernel
theorem dX7_isAhead_68 : decode cX7_isAhead 68 = .ok (.ireturn, 1) := by decide +kernel
theorem dX7_isRowWell_0 : decode cX7_isRowWell 0 = .ok (.aload_n 1, 1) := by decide +kernel
theorem dX7_isRowWell_1 : decode cX7_isRowWell 1 = .ok (.invokevirtual 137, 3) := by decide +kernel
theorem dX7_isRowWell_4 : decode cX7_isRowWell 4 = .ok (.istore_n 2, 1) := by decide +kernel
theorem dX7_isRowWell_5 : decode cX7_isRowWell 5 = .ok (.iload_n 2, 1) := by decide +kernel
theorem dX7_isRowWell_6 : decode cX7_isRowWell 6 = .ok (.aload_n 1, 1) := by decide +kernel
theorem dX7_isRowWell_7 : decode cX7_isRowWell 7 = .ok (.invokevirtual 115, 3) := by decide +kernel
theorem dX7_isRowWell_10 : decode cX7_isRowWell 10 = .ok (.bipush (-4), 2) := by decide +kernel
theorem dX7_isRowWell_12 : decode cX7_isRowWell 12 = .ok (.if_icmp .ne 7, 3) := by decide +kernel
theorem dX7_isRowWell_15 : decode cX7_isRowWell 15 = .ok (.iconst 1, 1) := by decide +kernel
theorem dX7_isRowWell_16 : decode cX7_isRowWell 16 = .ok (.goto 4, 3) := by decide +kernel
theorem dX7_isRowWell_19 : decode cX7_isRowWell 19 = .ok (.iconst 0, 1) := by decide +kernel
theorem dX7_isRowWell_20 : decode cX7_isRowWell 20 = .ok (.if_icmp .eq 5, 3) := by decide +kernel
theorem dX7_isRowWell_23 : decode cX7_isRowWell 23 = .ok (.iconst 0, 1) := by decide +kernel
theorem dX7_isRowWell_24 : decode cX7_isRowWell 24 = .ok (.ireturn, 1) := by decide +kernel
theorem dX7_isRowWell_25 : decode cX7_isRowWell 25 = .ok (.iload_n 2, 1) := by decide +kernel
theorem dX7_isRowWell_26 : decode cX7_isRowWell 26 = .ok (.ifCond .ne 5, 3) := by decide +kernel
theorem dX7_isRowWell_29 : decode cX7_isRowWell 29 = .ok (.iconst 1, 1) := by decide +kernel
theorem dX7_isRowWell_30 : decode cX7_isRowWell 30 = .ok (.ireturn, 1) := by decide +kernel
theorem dX7_isRowWell_31 : decode cX7_isRowWell 31 = .ok (.aload_n 1, 1) := by decide +kernel
theorem dX7_isRowWell_32 : decode cX7_isRowWell 32 = .ok (.invokevirtual 313, 3) := by decide +kernel
theorem dX7_isRowWell_35 : decode cX7_isRowWell 35 = .ok (.ifCond .ne 5, 3) := by decide +kernel
theorem dX7_isRowWell_38 : decode cX7_isRowWell 38 = .ok (.iconst 0, 1) := by decide +kernel
theorem dX7_isRowWell_39 : decode cX7_isRowWell 39 = .ok (.ireturn, 1) := by decide +kernel
theorem dX7_isRowWell_40 : decode cX7_isRowWell 40 = .ok (.aload_n 0, 1) := by decide +kernel
theorem dX7_isRowWell_41 : decode cX7_isRowWell 41 = .ok (.aload_n 1, 1) := by decide +kernel
theorem dX7_isRowWell_42 : decode cX7_isRowWell 42 = .ok (.invokevirtual 158, 3) := by decide +kernel
theorem dX7_isRowWell_45 : decode cX7_isRowWell 45 = .ok (.ifCond .ne 5, 3) := by decide +kernel
theorem dX7_isRowWell_48 : decode cX7_isRowWell 48 = .ok (.iconst 1, 1) := by decide +kernel
theorem dX7_isRowWell_49 : decode cX7_isRowWell 49 = .ok (.ireturn, 1) := by decide +kernel
theorem dX7_isRowWell_50 : decode cX7_isRowWell 50 = .ok (.aload_n 1, 1) := by decide +kernel
theorem dX7_isRowWell_51 : decode cX7_isRowWell 51 = .ok (.iconst 0, 1) := by decide +kernel
theorem dX7_isRowWell_52 : decode cX7_isRowWell 52 = .ok (.invokevirtual 141, 3) := by decide +kernel
theorem dX7_isRowWell_55 : decode cX7_isRowWell 55 = .ok (.istore_n 3, 1) := by decide +kernel
theorem dX7_isRowWell_56 : decode cX7_isRowWell 56 = .ok (.aload_n 0, 1) := by decide +kernel
theorem dX7_isRowWell_57 : decode cX7_isRowWell 57 = .ok (.getfield 32, 3) := by decide +kernel
theorem dX7_isRowWell_60 : decode cX7_isRowWell 60 = .ok (.aload_n 0, 1) := by decide +kernel
theorem dX7_isRowWell_61 : decode cX7_isRowWell 61 = .ok (.getfield 10, 3) := by decide +kernel
theorem dX7_isRowWell_64 : decode cX7_isRowWell 64 = .ok (.getfield 144, 3) := by decide +kernel
theorem dX7_isRowWell_67 : decode cX7_isRowWell 67 = .ok (.iload_n 3, 1) := by decide +kernel
theorem dX7_isRowWell_68 : decode cX7_isRowWell 68 = .ok (.invokevirtual 162, 3) := by decide +kernel
theorem dX7_isRowWell_71 : decode cX7_isRowWell 71 = .ok (.aload_n 0, 1) := by decide +kernel
theorem dX7_isRowWell_72 : decode cX7_isRowWell 72 = .ok (.getfield 32, 3) := by decide +kernel
theorem dX7_isRowWell_75 : decode cX7_isRowWell 75 = .ok (.aload_n 0, 1) := by decide +kernel
theorem dX7_isRowWell_76 : decode cX7_isRowWell 76 = .ok (.getfield 10, 3) := by decide +kernel
theorem dX7_isRowWell_79 : decode cX7_isRowWell 79 = .ok (.getfield 144, 3) := by decide +kernel
theorem dX7_isRowWell_82 : decode cX7_isRowWell 82 = .ok (.iload_n 3, 1) := by decide +kernel
theorem dX7_isRowWell_83 : decode cX7_isRowWell 83 = .ok (.invokevirtual 165, 3) := by decide +kernel
theorem dX7_isRowWell_86 : decode cX7_isRowWell 86 = .ok (.if_icmp .ne 7, 3) := by decide +kernel
theorem dX7_isRowWell_89 : decode cX7_isRowWell 89 = .ok (.iconst 1, 1) := by decide +kernel
theorem dX7_isRowWell_90 : decode cX7_isRowWell 90 = .ok (.goto 4, 3) := by decide +kernel
theorem dX7_isRowWell_93 : decode cX7_isRowWell 93 = .ok (.iconst 0, 1) := by decide +kernel
theorem dX7_isRowWell_94 : decode cX7_isRowWell 94 = .ok (.ireturn, 1) := by decide +kernel
theorem dX7_powerOfTen_0 : decode cX7_powerOfTen 0 = .ok (.iconst 1, 1) := by decide +kernel
theorem dX7_powerOfTen_1 : decode cX7_powerOfTen 1 = .ok (.istore_n 1, 1) := by decide +kernel
theorem dX7_powerOfTen_2 : decode cX7_powerOfTen 2 = .ok (.iconst 0, 1) := by decide +kernel
theorem dX7_powerOfTen_3 : decode cX7_powerOfTen 3 = .ok (.istore_n 2, 1) := by decide +kernel
theorem dX7_powerOfTen_4 : decode cX7_powerOfTen 4 = .ok (.iload_n 2, 1) := by decide +kernel
theorem dX7_powerOfTen_5 : decode cX7_powerOfTen 5 = .ok (.iload_n 0, 1) := by decide +kernel
theorem dX7_powerOfTen_6 : decode cX7_powerOfTen 6 = .ok (.if_icmp .ge 20, 3) := by decide +kernel
theorem dX7_powerOfTen_9 : decode cX7_powerOfTen 9 = .ok (.iload_n 2, 1) := by decide +kernel
theorem dX7_powerOfTen_10 : decode cX7_powerOfTen 10 = .ok (.bipush 8, 2) := by decide +kernel
theorem dX7_powerOfTen_12 : decode cX7_powerOfTen 12 = .ok (.if_icmp .ge 14, 3) := by decide +kernel
theorem dX7_powerOfTen_15 : decode cX7_powerOfTen 15 = .ok (.iload_n 1, 1) := by decide +kernel
theorem dX7_powerOfTen_16 : decode cX7_powerOfTen 16 = .ok (.bipush 10, 2) := by decide +kernel
theorem dX7_powerOfTen_18 : decode cX7_powerOfTen 18 = .ok (.imul, 1) := by decide +kernel
theorem dX7_powerOfTen_19 : decode cX7_powerOfTen 19 = .ok (.istore_n 1, 1) := by decide +kernel
theorem dX7_powerOfTen_20 : decode cX7_powerOfTen 20 = .ok (.iinc 2 1, 3) := by decide +kernel
theorem dX7_powerOfTen_23 : decode cX7_powerOfTen 23 = .ok (.goto (-19), 3) := by decide +kernel
theorem dX7_powerOfTen_26 : decode cX7_powerOfTen 26 = .ok (.iload_n 1, 1) := by decide +kernel
theorem dX7_powerOfTen_27 : decode cX7_powerOfTen 27 = .ok (.ireturn, 1) := by decide +kernel
theorem dX7_bitsOf_0 : decode cX7_bitsOf 0 = .ok (.fload_n 0, 1) := by decide +kernel
theorem dX7_bitsOf_1 : decode cX7_bitsOf 1 = .ok (.fconst 0, 1) := by decide +kernel
theorem dX7_bitsOf_2 : decode cX7_bitsOf 2 = .ok (.fcmp .l, 1) := by decide +kernel
theorem dX7_bitsOf_3 : decode cX7_bitsOf 3 = .ok (.ifCond .gt 5, 3) := by decide +kernel
theorem dX7_bitsOf_6 : decode cX7_bitsOf 6 = .ok (.iconst 0, 1) := by decide +kernel
theorem dX7_bitsOf_7 : decode cX7_bitsOf 7 = .ok (.ireturn, 1) := by decide +kernel
theorem dX7_bitsOf_8 : decode cX7_bitsOf 8 = .ok (.fload_n 0, 1) := by decide +kernel
theorem dX7_bitsOf_9 : decode cX7_bitsOf 9 = .ok (.fstore_n 1, 1) := by decide +kernel
theorem dX7_bitsOf_10 : decode cX7_bitsOf 10 = .ok (.bipush 127, 2) := by decide +kernel
theorem dX7_bitsOf_12 : decode cX7_bitsOf 12 = .ok (.istore_n 2, 1) := by decide +kernel
theorem dX7_bitsOf_13 : decode cX7_bitsOf 13 = .ok (.iconst 0, 1) := by decide +kernel
theorem dX7_bitsOf_14 : decode cX7_bitsOf 14 = .ok (.istore_n 3, 1) := by decide +kernel
theorem dX7_bitsOf_15 : decode cX7_bitsOf 15 = .ok (.iload_n 3, 1) := by decide +kernel
theorem dX7_bitsOf_16 : decode cX7_bitsOf 16 = .ok (.bipush 127, 2) := by decide +kernel
theorem dX7_bitsOf_18 : decode cX7_bitsOf 18 = .ok (.if_icmp .ge 22, 3) := by decide +kernel
theorem dX7_bitsOf_21 : decode cX7_bitsOf 21 = .ok (.fload_n 1, 1) := by decide +kernel
theorem dX7_bitsOf_22 : decode cX7_bitsOf 22 = .ok (.fconst 2, 1) := by decide +kernel
theorem dX7_bitsOf_23 : decode cX7_bitsOf 23 = .ok (.fcmp .l, 1) := by decide +kernel
theorem dX7_bitsOf_24 : decode cX7_bitsOf 24 = .ok (.ifCond .lt 16, 3) := by decide +kernel
theorem dX7_bitsOf_27 : decode cX7_bitsOf 27 = .ok (.fload_n 1, 1) := by decide +kernel
theorem dX7_bitsOf_28 : decode cX7_bitsOf 28 = .ok (.fconst 2, 1) := by decide +kernel
theorem dX7_bitsOf_29 : decode cX7_bitsOf 29 = .ok (.fdiv, 1) := by decide +kernel
theorem dX7_bitsOf_30 : decode cX7_bitsOf 30 = .ok (.fstore_n 1, 1) := by decide +kernel
theorem dX7_bitsOf_31 : decode cX7_bitsOf 31 = .ok (.iinc 2 1, 3) := by decide +kernel
theorem dX7_bitsOf_34 : decode cX7_bitsOf 34 = .ok (.iinc 3 1, 3) := by decide +kernel
theorem dX7_bitsOf_37 : decode cX7_bitsOf 37 = .ok (.goto (-22), 3) := by decide +kernel
theorem dX7_bitsOf_40 : decode cX7_bitsOf 40 = .ok (.iconst 0, 1) := by decide +kernel
theorem dX7_bitsOf_41 : decode cX7_bitsOf 41 = .ok (.istore_n 3, 1) := by decide +kernel
theorem dX7_bitsOf_42 : decode cX7_bitsOf 42 = .ok (.iload_n 3, 1) := by decide +kernel
theorem dX7_bitsOf_43 : decode cX7_bitsOf 43 = .ok (.bipush 126, 2) := by decide +kernel
theorem dX7_bitsOf_45 : decode cX7_bitsOf 45 = .ok (.if_icmp .ge 22, 3) := by decide +kernel
theorem dX7_bitsOf_48 : decode cX7_bitsOf 48 = .ok (.fload_n 1, 1) := by decide +kernel
theorem dX7_bitsOf_49 : decode cX7_bitsOf 49 = .ok (.fconst 1, 1) := by decide +kernel
theorem dX7_bitsOf_50 : decode cX7_bitsOf 50 = .ok (.fcmp .g, 1) := by decide +kernel
theorem dX7_bitsOf_51 : decode cX7_bitsOf 51 = .ok (.ifCond .ge 16, 3) := by decide +kernel
theorem dX7_bitsOf_54 : decode cX7_bitsOf 54 = .ok (.fload_n 1, 1) := by decide +kernel
theorem dX7_bitsOf_55 : decode cX7_bitsOf 55 = .ok (.fconst 2, 1) := by decide +kernel
theorem dX7_bitsOf_56 : decode cX7_bitsOf 56 = .ok (.fmul, 1) := by decide +kernel
theorem dX7_bitsOf_57 : decode cX7_bitsOf 57 = .ok (.fstore_n 1, 1) := by decide +kernel
theorem dX7_bitsOf_58 : decode cX7_bitsOf 58 = .ok (.iinc 2 (-1), 3) := by decide +kernel
theorem dX7_bitsOf_61 : decode cX7_bitsOf 61 = .ok (.iinc 3 1, 3) := by decide +kernel
theorem dX7_bitsOf_64 : decode cX7_bitsOf 64 = .ok (.goto (-22), 3) := by decide +kernel
theorem dX7_bitsOf_67 : decode cX7_bitsOf 67 = .ok (.iload_n 2, 1) := by decide +kernel
theorem dX7_bitsOf_68 : decode cX7_bitsOf 68 = .ok (.bipush 23, 2) := by decide +kernel
theorem dX7_bitsOf_70 : decode cX7_bitsOf 70 = .ok (.ishl, 1) := by decide +kernel
theorem dX7_bitsOf_71 : decode cX7_bitsOf 71 = .ok (.fload_n 1, 1) := by decide +kernel
theorem dX7_bitsOf_72 : decode cX7_bitsOf 72 = .ok (.fconst 1, 1) := by decide +kernel
theorem dX7_bitsOf_73 : decode cX7_bitsOf 73 = .ok (.fsub, 1) := by decide +kernel
theorem dX7_bitsOf_74 : decode cX7_bitsOf 74 = .ok (.ldc_w 316, 3) := by decide +kernel
theorem dX7_bitsOf_77 : decode cX7_bitsOf 77 = .ok (.fmul, 1) := by decide +kernel
theorem dX7_bitsOf_78 : decode cX7_bitsOf 78 = .ok (.f2i, 1) := by decide +kernel
theorem dX7_bitsOf_79 : decode cX7_bitsOf 79 = .ok (.ior, 1) := by decide +kernel
theorem dX7_bitsOf_80 : decode cX7_bitsOf 80 = .ok (.ireturn, 1) := by decide +kernel
end
section
theorem dX8_init_0 : decode cX8_init 0 = .ok (.aload_n 0, 1) := by decide +kernel
theorem dX8_init_1 : decode cX8_init 1 = .ok (.invokespecial 3, 3) := by decide +kernel
theorem dX8_init_4 : decode cX8_init 4 = .ok (.aload_n 0, 1) := by decide +kernel
theorem dX8_init_5 : decode cX8_init 5 = .ok (.bipush 63, 2) := by decide +kernel
theorem dX8_init_7 : decode cX8_init 7 = .ok (.newarray .int, 2) := by decide +kernel
theorem dX8_init_9 : decode cX8_init 9 = .ok (.putfield 9, 3) := by decide +kernel
theorem dX8_init_12 : decode cX8_init 12 = .ok (.aload_n 0, 1) := by decide +kernel
theorem dX8_init_13 : decode cX8_init 13 = .ok (.bipush 63, 2) := by decide +kernel
theorem dX8_init_15 : decode cX8_init 15 = .ok (.newarray .int, 2) := by decide +kernel
theorem dX8_init_17 : decode cX8_init 17 = .ok (.putfield 13, 3) := by decide +kernel
theorem dX8_init_20 : decode cX8_init 20 = .ok (.aload_n 0, 1) := by decide +kernel
theorem dX8_init_21 : decode cX8_init 21 = .ok (.bipush 63, 2) := by decide +kernel
theorem dX8_init_23 : decode cX8_init 23 = .ok (.newarray .int, 2) := by decide +kernel
theorem dX8_init_25 : decode cX8_init 25 = .ok (.putfield 16, 3) := by decide +kernel
theorem dX8_init_28 : decode cX8_init 28 = .ok (.aload_n 0, 1) := by decide +kernel
theorem dX8_init_29 : decode cX8_init 29 = .ok (.bipush 8, 2) := by decide +kernel
theorem dX8_init_31 : decode cX8_init 31 = .ok (.bipush 63, 2) := by decide +kernel
theorem dX8_init_33 : decode cX8_init 33 = .ok (.multianewarray 19 2, 4) := by decide +kernel
theorem dX8_init_37 : decode cX8_init 37 = .ok (.putfield 21, 3) := by decide +kernel
theorem dX8_init_40 : decode cX8_init 40 = .ok (.aload_n 0, 1) := by decide +kernel
theorem dX8_init_41 : decode cX8_init 41 = .ok (.iconst (-1), 1) := by decide +kernel
theorem dX8_init_42 : decode cX8_init 42 = .ok (.putfield 24, 3) := by decide +kernel
theorem dX8_init_45 : decode cX8_init 45 = .ok (.aload_n 0, 1) := by decide +kernel
theorem dX8_init_46 : decode cX8_init 46 = .ok (.sipush 512, 3) := by decide +kernel
theorem dX8_init_49 : decode cX8_init 49 = .ok (.newarray .int, 2) := by decide +kernel
theorem dX8_init_51 : decode cX8_init 51 = .ok (.putfield 28, 3) := by decide +kernel
theorem dX8_init_54 : decode cX8_init 54 = .ok (.aload_n 0, 1) := by decide +kernel
theorem dX8_init_55 : decode cX8_init 55 = .ok (.sipush 512, 3) := by decide +kernel
theorem dX8_init_58 : decode cX8_init 58 = .ok (.newarray .int, 2) := by decide +kernel
theorem dX8_init_60 : decode cX8_init 60 = .ok (.putfield 31, 3) := by decide +kernel
theorem dX8_init_63 : decode cX8_init 63 = .ok (.aload_n 0, 1) := by decide +kernel
theorem dX8_init_64 : decode cX8_init 64 = .ok (.sipush 512, 3) := by decide +kernel
theorem dX8_init_67 : decode cX8_init 67 = .ok (.newarray .int, 2) := by decide +kernel
theorem dX8_init_69 : decode cX8_init 69 = .ok (.putfield 34, 3) := by decide +kernel
theorem dX8_init_72 : decode cX8_init 72 = .ok (.aload_n 0, 1) := by decide +kernel
theorem dX8_init_73 : decode cX8_init 73 = .ok (.sipush 512, 3) := by decide +kernel
theorem dX8_init_76 : decode cX8_init 76 = .ok (.newarray .int, 2) := by decide +kernel
theorem dX8_init_78 : decode cX8_init 78 = .ok (.putfield 37, 3) := by decide +kernel
theorem dX8_init_81 : decode cX8_init 81 = .ok (.aload_n 0, 1) := by decide +kernel
theorem dX8_init_82 : decode cX8_init 82 = .ok (.sipush 600, 3) := by decide +kernel
theorem dX8_init_85 : decode cX8_init 85 = .ok (.newarray .char, 2) := by decide +kernel
theorem dX8_init_87 : decode cX8_init 87 = .ok (.putfield 40, 3) := by decide +kernel
theorem dX8_init_90 : decode cX8_init 90 = .ok (.aload_n 0, 1) := by decide +kernel
theorem dX8_init_91 : decode cX8_init 91 = .ok (.bipush 70, 2) := by decide +kernel
theorem dX8_init_93 : decode cX8_init 93 = .ok (.newarray .int, 2) := by decide +kernel
theorem dX8_init_95 : decode cX8_init 95 = .ok (.putfield 44, 3) := by decide +kernel
theorem dX8_init_98 : decode cX8_init 98 = .ok (.return_, 1) := by decide +kernel
theorem dX8_isBetween_0 : decode cX8_isBetween 0 = .ok (.iload_n 0, 1) := by decide +kernel
theorem dX8_isBetween_1 : decode cX8_isBetween 1 = .ok (.iload_n 1, 1) := by decide +kernel
theorem dX8_isBetween_2 : decode cX8_isBetween 2 = .ok (.if_icmp .lt 12, 3) := by decide +kernel
theorem dX8_isBetween_5 : decode cX8_isBetween 5 = .ok (.iload_n 0, 1) := by decide +kernel
theorem dX8_isBetween_6 : decode cX8_isBetween 6 = .ok (.iload_n 2, 1) := by decide +kernel
theorem dX8_isBetween_7 : decode cX8_isBetween 7 = .ok (.if_icmp .gt 7, 3) := by decide +kernel
theorem dX8_isBetween_10 : decode cX8_isBetween 10 = .ok (.iconst 1, 1) := by decide +kernel
theorem dX8_isBetween_11 : decode cX8_isBetween 11 = .ok (.goto 4, 3) := by decide +kernel
theorem dX8_isBetween_14 : decode cX8_isBetween 14 = .ok (.iconst 0, 1) := by decide +kernel
theorem dX8_isBetween_15 : decode cX8_isBetween 15 = .ok (.ireturn, 1) := by decide +kernel
theorem dX8_copyRow_0 : decode cX8_copyRow 0 = .ok (.iconst 0, 1) := by decide +kernel
theorem dX8_copyRow_1 : decode cX8_copyRow 1 = .ok (.istore_n 2, 1) := by decide +kernel
theorem dX8_copyRow_2 : decode cX8_copyRow 2 = .ok (.iload_n 2, 1) := by decide +kernel
theorem dX8_copyRow_3 : decode cX8_copyRow 3 = .ok (.bipush 63, 2) := by decide +kernel
theorem dX8_copyRow_5 : decode cX8_copyRow 5 = .ok (.if_icmp .ge 15, 3) := by decide +kernel
theorem dX8_copyRow_8 : decode cX8_copyRow 8 = .ok (.aload_n 1, 1) := by decide +kernel
theorem dX8_copyRow_9 : decode cX8_copyRow 9 = .ok (.iload_n 2, 1) := by decide +kernel
theorem dX8_copyRow_10 : decode cX8_copyRow 10 = .ok (.aload_n 0, 1) := by decide +kernel
theorem dX8_copyRow_11 : decode cX8_copyRow 11 = .ok (.iload_n 2, 1) := by decide +kernel
theorem dX8_copyRow_12 : decode cX8_copyRow 12 = .ok (.iaload, 1) := by decide +kernel
theorem dX8_copyRow_13 : decode cX8_copyRow 13 = .ok (.iastore, 1) := by decide +kernel
theorem dX8_copyRow_14 : decode cX8_copyRow 14 = .ok (.iinc 2 1, 3) := by decide +kernel
theorem dX8_copyRow_17 : decode cX8_copyRow 17 = .ok (.goto (-15), 3) := by decide +kernel
theorem dX8_copyRow_20 : decode cX8_copyRow 20 = .ok (.return_, 1) := by decide +kernel
theorem dX8_refuse_0 : decode cX8_refuse 0 = .ok (.iload_n 1, 1) := by decide +kernel
theorem dX8_refuse_1 : decode cX8_refuse 1 = .ok (.ifCond .eq 32, 3) := by decide +kernel
theorem dX8_refuse_4 : decode cX8_refuse 4 = .ok (.aload_n 0, 1) := by decide +kernel
theorem dX8_refuse_5 : decode cX8_refuse 5 = .ok (.iload_n 2, 1) := by decide +kernel
theorem dX8_refuse_6 : decode cX8_refuse 6 = .ok (.putfield 47, 3) := by decide +kernel
theorem dX8_refuse_9 : decode cX8_refuse 9 = .ok (.aload_n 0, 1) := by decide +kernel
theorem dX8_refuse_10 : decode cX8_refuse 10 = .ok (.iload_n 3, 1) := by decide +kernel
theorem dX8_refuse_11 : decode cX8_refuse 11 = .ok (.putfield 50, 3) := by decide +kernel
theorem dX8_refuse_14 : decode cX8_refuse 14 = .ok (.aload_n 0, 1) := by decide +kernel
theorem dX8_refuse_15 : decode cX8_refuse 15 = .ok (.aload_n 0, 1) := by decide +kernel
theorem dX8_refuse_16 : decode cX8_refuse 16 = .ok (.getfield 53, 3) := by decide +kernel
theorem dX8_refuse_19 : decode cX8_refuse 19 = .ok (.ifCond .eq 10, 3) := by decide +kernel
theorem dX8_refuse_22 : decode cX8_refuse 22 = .ok (.aload_n 0, 1) := by decide +kernel
theorem dX8_refuse_23 : decode cX8_refuse 23 = .ok (.getfield 57, 3) := by decide +kernel
theorem dX8_refuse_26 : decode cX8_refuse 26 = .ok (.goto 4, 3) := by decide +kernel
theorem dX8_refuse_29 : decode cX8_refuse 29 = .ok (.iconst (-1), 1) := by decide +kernel
theorem dX8_refuse_30 : decode cX8_refuse 30 = .ok (.putfield 24, 3) := by decide +kernel
theorem dX8_refuse_33 : decode cX8_refuse 33 = .ok (.iload_n 1, 1) := by decide +kernel
theorem dX8_refuse_34 : decode cX8_refuse 34 = .ok (.ireturn, 1) := by decide +kernel
theorem dX8_remember_0 : decode cX8_remember 0 = .ok (.aload_n 0, 1) := by decide +kernel
theorem dX8_remember_1 : decode cX8_remember 1 = .ok (.getfield 60, 3) := by decide +kernel
theorem dX8_remember_4 : decode cX8_remember 4 = .ok (.bipush 8, 2) := by decide +kernel
theorem dX8_remember_6 : decode cX8_remember 6 = .ok (.if_icmp .ne 46, 3) := by decide +kernel
theorem dX8_remember_9 : decode cX8_remember 9 = .ok (.aload_n 0, 1) := by decide +kernel
theorem dX8_remember_10 : decode cX8_remember 10 = .ok (.dup, 1) := by decide +kernel
theorem dX8_remember_11 : decode cX8_remember 11 = .ok (.getfield 60, 3) := by decide +kernel
theorem dX8_remember_14 : decode cX8_remember 14 = .ok (.iconst 1, 1) := by decide +kernel
theorem dX8_remember_15 : decode cX8_remember 15 = .ok (.isub, 1) := by decide +kernel
theorem dX8_remember_16 : decode cX8_remember 16 = .ok (.putfield 60, 3) := by decide +kernel
theorem dX8_remember_19 : decode cX8_remember 19 = .ok (.iconst 0, 1) := by decide +kernel
theorem dX8_remember_20 : decode cX8_remember 20 = .ok (.istore_n 2, 1) := by decide +kernel
theorem dX8_remember_21 : decode cX8_remember 21 = .ok (.iload_n 2, 1) := by decide +kernel
theorem dX8_remember_22 : decode cX8_remember 22 = .ok (.aload_n 0, 1) := by decide +kernel
theorem dX8_remember_23 : decode cX8_remember 23 = .ok (.getfield 60, 3) := by decide +kernel
theorem dX8_remember_26 : decode cX8_remember 26 = .ok (.if_icmp .ge 26, 3) := by decide +kernel
theorem dX8_remember_29 : decode cX8_remember 29 = .ok (.aload_n 0, 1) := by decide +kernel
theorem dX8_remember_30 : decode cX8_remember 30 = .ok (.getfield 21, 3) := by decide +kernel
theorem dX8_remember_33 : decode cX8_remember 33 = .ok (.iload_n 2, 1) := by decide +kernel
theorem dX8_remember_34 : decode cX8_remember 34 = .ok (.iconst 1, 1) := by decide +kernel
theorem dX8_remember_35 : decode cX8_remember 35 = .ok (.iadd, 1) := by decide +kernel
theorem dX8_remember_36 : decode cX8_remember 36 = .ok (.aaload, 1) := by decide +kernel
theorem dX8_remember_37 : decode cX8_remember 37 = .ok (.aload_n 0, 1) := by decide +kernel
theorem dX8_remember_38 : decode cX8_remember 38 = .ok (.getfield 21, 3) := by decide +kernel
theorem dX8_remember_41 : decode cX8_remember 41 = .ok (.iload_n 2, 1) := by decide +kernel
theorem dX8_remember_42 : decode cX8_remember 42 = .ok (.aaload, 1) := by decide +kernel
theorem dX8_remember_43 : decode cX8_remember 43 = .ok (.invokestatic 63, 3) := by decide +kernel
theorem dX8_remember_46 : decode cX8_remember 46 = .ok (.iinc 2 1, 3) := by decide +kernel
theorem dX8_remember_49 : decode cX8_remember 49 = .ok (.goto (-28), 3) := by decide +kernel
theorem dX8_remember_52 : decode cX8_remember 52 = .ok (.aload_n 1, 1) := by decide +kernel
theorem dX8_remember_53 : decode cX8_remember 53 = .ok (.aload_n 0, 1) := by decide +kernel
theorem dX8_remember_54 : decode cX8_remember 54 = .ok (.getfield 21, 3) := by decide +kernel
theorem dX8_remember_57 : decode cX8_remember 57 = .ok (.aload_n 0, 1) := by decide +kernel
theorem dX8_remember_58 : decode cX8_remember 58 = .ok (.getfield 60, 3) := by decide +kernel
theorem dX8_remember_61 : decode cX8_remember 61 = .ok (.aaload, 1) := by decide +kernel
theorem dX8_remember_62 : decode cX8_remember 62 = .ok (.invokestatic 63, 3) := by decide +kernel
theorem dX8_remember_65 : decode cX8_remember 65 = .ok (.aload_n 0, 1) := by decide +kernel
theorem dX8_remember_66 : decode cX8_remember 66 = .ok (.dup, 1) := by decide +kernel
theorem dX8_remember_67 : decode cX8_remember 67 = .ok (.getfield 60, 3) := by decide +kernel
theorem dX8_remember_70 : decode cX8_remember 70 = .ok (.iconst 1, 1) := by decide +kernel
theorem dX8_remember_71 : decode cX8_remember 71 = .ok (.iadd, 1) := by decide +kernel
theorem dX8_remember_72 : decode cX8_remember 72 = .ok (.putfield 60, 3) := by decide +kernel
theorem dX8_remember_75 : decode cX8_remember 75 = .ok (.return_, 1) := by decide +kernel
theorem dX8_change_0 : decode cX8_change 0 = .ok (.aload_n 0, 1) := by decide +kernel
theorem dX8_change_1 : decode cX8_change 1 = .ok (.getfield 53, 3) := by decide +kernel
theorem dX8_change_4 : decode cX8_change 4 = .ok (.ifCond .ne 11, 3) := by decide +kernel
theorem dX8_change_7 : decode cX8_change 7 = .ok (.aload_n 0, 1) := by decide +kernel
theorem dX8_change_8 : decode cX8_change 8 = .ok (.aload_n 0, 1) := by decide +kernel
theorem dX8_change_9 : decode cX8_change 9 = .ok (.getfield 9, 3) := by decide +kernel
theorem dX8_change_12 : decode cX8_change 12 = .ok (.invokevirtual 67, 3) := by decide +kernel
theorem dX8_change_15 : decode cX8_change 15 = .ok (.return_, 1) := by decide +kernel
theorem dX8_isRow_0 : decode cX8_isRow 0 = .ok (.iload_n 1, 1) := by decide +kernel
theorem dX8_isRow_1 : decode cX8_isRow 1 = .ok (.iconst 0, 1) := by decide +kernel
theorem dX8_isRow_2 : decode cX8_isRow 2 = .ok (.aload_n 0, 1) := by decide +kernel
theorem dX8_isRow_3 : decode cX8_isRow 3 = .ok (.getfield 9, 3) := by decide +kernel
theorem dX8_isRow_6 : decode cX8_isRow 6 = .ok (.iconst 0, 1) := by decide +kernel
theorem dX8_isRow_7 : decode cX8_isRow 7 = .ok (.iaload, 1) := by decide +kernel
theorem dX8_isRow_8 : decode cX8_isRow 8 = .ok (.iconst 1, 1) := by decide +kernel
theorem dX8_isRow_9 : decode cX8_isRow 9 = .ok (.isub, 1) := by decide +kernel
theorem dX8_isRow_10 : decode cX8_isRow 10 = .ok (.invokestatic 71, 3) := by decide +kernel
theorem dX8_isRow_13 : decode cX8_isRow 13 = .ok (.ireturn, 1) := by decide +kernel
theorem dX8_lengthOf_0 : decode cX8_lengthOf 0 = .ok (.aload_n 0, 1) := by decide +kernel
theorem dX8_lengthOf_1 : decode cX8_lengthOf 1 = .ok (.getfield 9, 3) := by decide +kernel
theorem dX8_lengthOf_4 : decode cX8_lengthOf 4 = .ok (.bipush 9, 2) := by decide +kernel
theorem dX8_lengthOf_6 : decode cX8_lengthOf 6 = .ok (.bipush 9, 2) := by decide +kernel
theorem dX8_lengthOf_8 : decode cX8_lengthOf 8 = .ok (.iload_n 1, 1) := by decide +kernel
theorem dX8_lengthOf_9 : decode cX8_lengthOf 9 = .ok (.imul, 1) := by decide +kernel
theorem dX8_lengthOf_10 : decode cX8_lengthOf 10 = .ok (.iadd, 1) := by decide +kernel
theorem dX8_lengthOf_11 : decode cX8_lengthOf 11 = .ok (.iaload, 1) := by decide +kernel
theorem dX8_lengthOf_12 : decode cX8_lengthOf 12 = .ok (.ireturn, 1) := by decide +kernel
theorem dX8_isBeat_0 : decode cX8_isBeat 0 = .ok (.iload_n 2, 1) := by decide +kernel
theorem dX8_isBeat_1 : decode cX8_isBeat 1 = .ok (.iconst 0, 1) := by decide +kernel
theorem dX8_isBeat_2 : decode cX8_isBeat 2 = .ok (.aload_n 0, 1) := by decide +kernel
theorem dX8_isBeat_3 : decode cX8_isBeat 3 = .ok (.iload_n 1, 1) := by decide +kernel
theorem dX8_isBeat_4 : decode cX8_isBeat 4 = .ok (.invokevirtual 75, 3) := by decide +kernel
theorem dX8_isBeat_7 : decode cX8_isBeat 7 = .ok (.iconst 1, 1) := by decide +kernel
theorem dX8_isBeat_8 : decode cX8_isBeat 8 = .ok (.isub, 1) := by decide +kernel
theorem dX8_isBeat_9 : decode cX8_isBeat 9 = .ok (.invokestatic 71, 3) := by decide +kernel
theorem dX8_isBeat_12 : decode cX8_isBeat 12 = .ok (.ireturn, 1) := by decide +kernel
theorem dX8_thrown_0 : decode cX8_thrown 0 = .ok (.aload_n 0, 1) := by decide +kernel
theorem dX8_thrown_1 : decode cX8_thrown 1 = .ok (.getfield 9, 3) := by decide +kernel
theorem dX8_thrown_4 : decode cX8_thrown 4 = .ok (.bipush 9, 2) := by decide +kernel
theorem dX8_thrown_6 : decode cX8_thrown 6 = .ok (.bipush 9, 2) := by decide +kernel
theorem dX8_thrown_8 : decode cX8_thrown 8 = .ok (.iload_n 1, 1) := by decide +kernel
theorem dX8_thrown_9 : decode cX8_thrown 9 = .ok (.imul, 1) := by decide +kernel
theorem dX8_thrown_10 : decode cX8_thrown 10 = .ok (.iadd, 1) := by decide +kernel
theorem dX8_thrown_11 : decode cX8_thrown 11 = .ok (.iconst 1, 1) := by decide +kernel
theorem dX8_thrown_12 : decode cX8_thrown 12 = .ok (.iadd, 1) := by decide +kernel
theorem dX8_thrown_13 : decode cX8_thrown 13 = .ok (.iload_n 2, 1) := by decide +kernel
theorem dX8_thrown_14 : decode cX8_thrown 14 = .ok (.iadd, 1) := by decide +kernel
theorem dX8_thrown_15 : decode cX8_thrown 15 = .ok (.iaload, 1) := by decide +kernel
theorem dX8_thrown_16 : decode cX8_thrown 16 = .ok (.ireturn, 1) := by decide +kernel
theorem dX8_putThrow_0 : decode cX8_putThrow 0 = .ok (.aload_n 0, 1) := by decide +kernel
theorem dX8_putThrow_1 : decode cX8_putThrow 1 = .ok (.getfield 9, 3) := by decide +kernel
theorem dX8_putThrow_4 : decode cX8_putThrow 4 = .ok (.bipush 9, 2) := by decide +kernel
theorem dX8_putThrow_6 : decode cX8_putThrow 6 = .ok (.bipush 9, 2) := by decide +kernel
theorem dX8_putThrow_8 : decode cX8_putThrow 8 = .ok (.iload_n 1, 1) := by decide +kernel
theorem dX8_putThrow_9 : decode cX8_putThrow 9 = .ok (.imul, 1) := by decide +kernel
theorem dX8_putThrow_10 : decode cX8_putThrow 10 = .ok (.iadd, 1) := by decide +kernel
theorem dX8_putThrow_11 : decode cX8_putThrow 11 = .ok (.iconst 1, 1) := by decide +kernel
theorem dX8_putThrow_12 : decode cX8_putThrow 12 = .ok (.iadd, 1) := by decide +kernel
theorem dX8_putThrow_13 : decode cX8_putThrow 13 = .ok (.iload_n 2, 1) := by decide +kernel
theorem dX8_putThrow_14 : decode cX8_putThrow 14 = .ok (.iadd, 1) := by decide +kernel
theorem dX8_putThrow_15 : decode cX8_putThrow 15 = .ok (.iload_n 3, 1) := by decide +kernel
theorem dX8_putThrow_16 : decode cX8_putThrow 16 = .ok (.iastore, 1) := by decide +kernel
theorem dX8_putThrow_17 : decode cX8_putThrow 17 = .ok (.return_, 1) := by decide +kernel
theorem dX8_sumOf_0 : decode cX8_sumOf 0 = .ok (.iconst 0, 1) := by decide +kernel
theorem dX8_sumOf_1 : decode cX8_sumOf 1 = .ok (.istore_n 2, 1) := by decide +kernel
theorem dX8_sumOf_2 : decode cX8_sumOf 2 = .ok (.iconst 0, 1) := by decide +kernel
theorem dX8_sumOf_3 : decode cX8_sumOf 3 = .ok (.istore_n 3, 1) := by decide +kernel
theorem dX8_sumOf_4 : decode cX8_sumOf 4 = .ok (.iload_n 3, 1) := by decide +kernel
theorem dX8_sumOf_5 : decode cX8_sumOf 5 = .ok (.aload_n 0, 1) := by decide +kernel
theorem dX8_sumOf_6 : decode cX8_sumOf 6 = .ok (.iload_n 1, 1) := by decide +kernel
theorem dX8_sumOf_7 : decode cX8_sumOf 7 = .ok (.invokevirtual 75, 3) := by decide +kernel
theorem dX8_sumOf_10 : decode cX8_sumOf 10 = .ok (.if_icmp .ge 18, 3) := by decide +kernel
theorem dX8_sumOf_13 : decode cX8_sumOf 13 = .ok (.iload_n 2, 1) := by decide +kernel
theorem dX8_sumOf_14 : decode cX8_sumOf 14 = .ok (.aload_n 0, 1) := by decide +kernel
theorem dX8_sumOf_15 : decode cX8_sumOf 15 = .ok (.iload_n 1, 1) := by decide +kernel
theorem dX8_sumOf_16 : decode cX8_sumOf 16 = .ok (.iload_n 3, 1) := by decide +kernel
theorem dX8_sumOf_17 : decode cX8_sumOf 17 = .ok (.invokevirtual 79, 3) := by decide +kernel
theorem dX8_sumOf_20 : decode cX8_sumOf 20 = .ok (.iadd, 1) := by decide +kernel
theorem dX8_sumOf_21 : decode cX8_sumOf 21 = .ok (.istore_n 2, 1) := by decide +kernel
theorem dX8_sumOf_22 : decode cX8_sumOf 22 = .ok (.iinc 3 1, 3) := by decide +kernel
theorem dX8_sumOf_25 : decode cX8_sumOf 25 = .ok (.goto (-21), 3) := by decide +kernel
theorem dX8_sumOf_28 : decode cX8_sumOf 28 = .ok (.iload_n 2, 1) := by decide +kernel
theorem dX8_sumOf_29 : decode cX8_sumOf 29 = .ok (.ireturn, 1) := by decide +kernel
theorem dX8_clashOf_0 : decode cX8_clashOf 0 = .ok (.aload_n 0, 1) := by decide +kernel
theorem dX8_clashOf_1 : decode cX8_clashOf 1 = .ok (.iload_n 1, 1) := by decide +kernel
theorem dX8_clashOf_2 : decode cX8_clashOf 2 = .ok (.invokevirtual 75, 3) := by decide +kernel
theorem dX8_clashOf_5 : decode cX8_clashOf 5 = .ok (.istore_n 2, 1) := by decide +kernel
theorem dX8_clashOf_6 : decode cX8_clashOf 6 = .ok (.iconst 0, 1) := by decide +kernel
theorem dX8_clashOf_7 : decode cX8_clashOf 7 = .ok (.istore_n 3, 1) := by decide +kernel
theorem dX8_clashOf_8 : decode cX8_clashOf 8 = .ok (.iload_n 3, 1) := by decide +kernel
theorem dX8_clashOf_9 : decode cX8_clashOf 9 = .ok (.iload_n 2, 1) := by decide +kernel
theorem dX8_clashOf_10 : decode cX8_clashOf 10 = .ok (.if_icmp .ge 53, 3) := by decide +kernel
theorem dX8_clashOf_13 : decode cX8_clashOf 13 = .ok (.iload_n 3, 1) := by decide +kernel
theorem dX8_clashOf_14 : decode cX8_clashOf 14 = .ok (.iconst 1, 1) := by decide +kernel
theorem dX8_clashOf_15 : decode cX8_clashOf 15 = .ok (.iadd, 1) := by decide +kernel
theorem dX8_clashOf_16 : decode cX8_clashOf 16 = .ok (.istore 4, 2) := by decide +kernel
theorem dX8_clashOf_18 : decode cX8_clashOf 18 = .ok (.iload 4, 2) := by decide +kernel
theorem dX8_clashOf_20 : decode cX8_clashOf 20 = .ok (.iload_n 2, 1) := by decide +kernel
theorem dX8_clashOf_21 : decode cX8_clashOf 21 = .ok (.if_icmp .ge 36, 3) := by decide +kernel
theorem dX8_clashOf_24 : decode cX8_clashOf 24 = .ok (.iload_n 3, 1) := by decide +kernel
theorem dX8_clashOf_25 : decode cX8_clashOf 25 = .ok (.aload_n 0, 1) := by decide +kernel
theorem dX8_clashOf_26 : decode cX8_clashOf 26 = .ok (.iload_n 1, 1) := by decide +kernel
theorem dX8_clashOf_27 : decode cX8_clashOf 27 = .ok (.iload_n 3, 1) := by decide +kernel
theorem dX8_clashOf_28 : decode cX8_clashOf 28 = .ok (.invokevirtual 79, 3) := by decide +kernel
theorem dX8_clashOf_31 : decode cX8_clashOf 31 = .ok (.iadd, 1) := by decide +kernel
theorem dX8_clashOf_32 : decode cX8_clashOf 32 = .ok (.iload_n 2, 1) := by decide +kernel
theorem dX8_clashOf_33 : decode cX8_clashOf 33 = .ok (.irem, 1) := by decide +kernel
theorem dX8_clashOf_34 : decode cX8_clashOf 34 = .ok (.iload 4, 2) := by decide +kernel
theorem dX8_clashOf_36 : decode cX8_clashOf 36 = .ok (.aload_n 0, 1) := by decide +kernel
theorem dX8_clashOf_37 : decode cX8_clashOf 37 = .ok (.iload_n 1, 1) := by decide +kernel
theorem dX8_clashOf_38 : decode cX8_clashOf 38 = .ok (.iload 4, 2) := by decide +kernel
theorem dX8_clashOf_40 : decode cX8_clashOf 40 = .ok (.invokevirtual 79, 3) := by decide +kernel
theorem dX8_clashOf_43 : decode cX8_clashOf 43 = .ok (.iadd, 1) := by decide +kernel
theorem dX8_clashOf_44 : decode cX8_clashOf 44 = .ok (.iload_n 2, 1) := by decide +kernel
theorem dX8_clashOf_45 : decode cX8_clashOf 45 = .ok (.irem, 1) := by decide +kernel
theorem dX8_clashOf_46 : decode cX8_clashOf 46 = .ok (.if_icmp .ne 5, 3) := by decide +kernel
theorem dX8_clashOf_49 : decode cX8_clashOf 49 = .ok (.iload_n 3, 1) := by decide +kernel
theorem dX8_clashOf_50 : decode cX8_clashOf 50 = .ok (.ireturn, 1) := by decide +kernel
theorem dX8_clashOf_51 : decode cX8_clashOf 51 = .ok (.iinc 4 1, 3) := by decide +kernel
theorem dX8_clashOf_54 : decode cX8_clashOf 54 = .ok (.goto (-36), 3) := by decide +kernel
theorem dX8_clashOf_57 : decode cX8_clashOf 57 = .ok (.iinc 3 1, 3) := by decide +kernel
theorem dX8_clashOf_60 : decode cX8_clashOf 60 = .ok (.goto (-52), 3) := by decide +kernel
theorem dX8_clashOf_63 : decode cX8_clashOf 63 = .ok (.iconst (-1), 1) := by decide +kernel
theorem dX8_clashOf_64 : decode cX8_clashOf 64 = .ok (.ireturn, 1) := by decide +kernel
theorem dX8_ballsOf_0 : decode cX8_ballsOf 0 = .ok (.aload_n 0, 1) := by decide +kernel
theorem dX8_ballsOf_1 : decode cX8_ballsOf 1 = .ok (.iload_n 1, 1) := by decide +kernel
theorem dX8_ballsOf_2 : decode cX8_ballsOf 2 = .ok (.invokevirtual 83, 3) := by decide +kernel
theorem dX8_ballsOf_5 : decode cX8_ballsOf 5 = .ok (.ifCond .lt 7, 3) := by decide +kernel
theorem dX8_ballsOf_8 : decode cX8_ballsOf 8 = .ok (.iconst (-1), 1) := by decide +kernel
theorem dX8_ballsOf_9 : decode cX8_ballsOf 9 = .ok (.goto 14, 3) := by decide +kernel
theorem dX8_ballsOf_12 : decode cX8_ballsOf 12 = .ok (.aload_n 0, 1) := by decide +kernel
theorem dX8_ballsOf_13 : decode cX8_ballsOf 13 = .ok (.iload_n 1, 1) := by decide +kernel
theorem dX8_ballsOf_14 : decode cX8_ballsOf 14 = .ok (.invokevirtual 86, 3) := by decide +kernel
theorem dX8_ballsOf_17 : decode cX8_ballsOf 17 = .ok (.aload_n 0, 1) := by decide +kernel
theorem dX8_ballsOf_18 : decode cX8_ballsOf 18 = .ok (.iload_n 1, 1) := by decide +kernel
theorem dX8_ballsOf_19 : decode cX8_ballsOf 19 = .ok (.invokevirtual 75, 3) := by decide +kernel
theorem dX8_ballsOf_22 : decode cX8_ballsOf 22 = .ok (.idiv, 1) := by decide +kernel
theorem dX8_ballsOf_23 : decode cX8_ballsOf 23 = .ok (.ireturn, 1) := by decide +kernel
theorem dX8_stateAt_0 : decode cX8_stateAt 0 = .ok (.aload_n 0, 1) := by decide +kernel
theorem dX8_stateAt_1 : decode cX8_stateAt 1 = .ok (.iload_n 1, 1) := by decide +kernel
theorem dX8_stateAt_2 : decode cX8_stateAt 2 = .ok (.invokevirtual 75, 3) := by decide +kernel
theorem dX8_stateAt_5 : decode cX8_stateAt 5 = .ok (.istore_n 3, 1) := by decide +kernel
theorem dX8_stateAt_6 : decode cX8_stateAt 6 = .ok (.iconst 0, 1) := by decide +kernel
theorem dX8_stateAt_7 : decode cX8_stateAt 7 = .ok (.istore 4, 2) := by decide +kernel
theorem dX8_stateAt_9 : decode cX8_stateAt 9 = .ok (.iconst 1, 1) := by decide +kernel
theorem dX8_stateAt_10 : decode cX8_stateAt 10 = .ok (.istore 5, 2) := by decide +kernel
theorem dX8_stateAt_12 : decode cX8_stateAt 12 = .ok (.iload 5, 2) := by decide +kernel
theorem dX8_stateAt_14 : decode cX8_stateAt 14 = .ok (.bipush 9, 2) := by decide +kernel
theorem dX8_stateAt_16 : decode cX8_stateAt 16 = .ok (.if_icmp .gt 48, 3) := by decide +kernel
theorem dX8_stateAt_19 : decode cX8_stateAt 19 = .ok (.aload_n 0, 1) := by decide +kernel
theorem dX8_stateAt_20 : decode cX8_stateAt 20 = .ok (.iload_n 1, 1) := by decide +kernel
theorem dX8_stateAt_21 : decode cX8_stateAt 21 = .ok (.iload_n 2, 1) := by decide +kernel
theorem dX8_stateAt_22 : decode cX8_stateAt 22 = .ok (.bipush 16, 2) := by decide +kernel
theorem dX8_stateAt_24 : decode cX8_stateAt 24 = .ok (.iload_n 3, 1) := by decide +kernel
theorem dX8_stateAt_25 : decode cX8_stateAt 25 = .ok (.imul, 1) := by decide +kernel
theorem dX8_stateAt_26 : decode cX8_stateAt 26 = .ok (.iadd, 1) := by decide +kernel
theorem dX8_stateAt_27 : decode cX8_stateAt 27 = .ok (.iload 5, 2) := by decide +kernel
theorem dX8_stateAt_29 : decode cX8_stateAt 29 = .ok (.isub, 1) := by decide +kernel
theorem dX8_stateAt_30 : decode cX8_stateAt 30 = .ok (.iload_n 3, 1) := by decide +kernel
theorem dX8_stateAt_31 : decode cX8_stateAt 31 = .ok (.irem, 1) := by decide +kernel
theorem dX8_stateAt_32 : decode cX8_stateAt 32 = .ok (.invokevirtual 79, 3) := by decide +kernel
theorem dX8_stateAt_35 : decode cX8_stateAt 35 = .ok (.iload 5, 2) := by decide +kernel
theorem dX8_stateAt_37 : decode cX8_stateAt 37 = .ok (.isub, 1) := by decide +kernel
theorem dX8_stateAt_38 : decode cX8_stateAt 38 = .ok (.istore 6, 2) := by decide +kernel
theorem dX8_stateAt_40 : decode cX8_stateAt 40 = .ok (.iload 4, 2) := by decide +kernel
theorem dX8_stateAt_42 : decode cX8_stateAt 42 = .ok (.iload 6, 2) := by decide +kernel
theorem dX8_stateAt_44 : decode cX8_stateAt 44 = .ok (.ifCond .lt 10, 3) := by decide +kernel
theorem dX8_stateAt_47 : decode cX8_stateAt 47 = .ok (.iconst 1, 1) := by decide +kernel
theorem dX8_stateAt_48 : decode cX8_stateAt 48 = .ok (.iload 6, 2) := by decide +kernel
theorem dX8_stateAt_50 : decode cX8_stateAt 50 = .ok (.ishl, 1) := by decide +kernel
theorem dX8_stateAt_51 : decode cX8_stateAt 51 = .ok (.goto 4, 3) := by decide +kernel
theorem dX8_stateAt_54 : decode cX8_stateAt 54 = .ok (.iconst 0, 1) := by decide +kernel
theorem dX8_stateAt_55 : decode cX8_stateAt 55 = .ok (.ior, 1) := by decide +kernel
theorem dX8_stateAt_56 : decode cX8_stateAt 56 = .ok (.istore 4, 2) := by decide +kernel
theorem dX8_stateAt_58 : decode cX8_stateAt 58 = .ok (.iinc 5 1, 3) := by decide +kernel
theorem dX8_stateAt_61 : decode cX8_stateAt 61 = .ok (.goto (-49), 3) := by decide +kernel
theorem dX8_stateAt_64 : decode cX8_stateAt 64 = .ok (.iload 4, 2) := by decide +kernel
theorem dX8_stateAt_66 : decode cX8_stateAt 66 = .ok (.ireturn, 1) := by decide +kernel
theorem dX8_can_0 : decode cX8_can 0 = .ok (.iload_n 1, 1) := by decide +kernel
theorem dX8_can_1 : decode cX8_can 1 = .ok (.ifCond .ne 15, 3) := by decide +kernel
theorem dX8_can_4 : decode cX8_can 4 = .ok (.iload_n 0, 1) := by decide +kernel
theorem dX8_can_5 : decode cX8_can 5 = .ok (.iconst 1, 1) := by decide +kernel
theorem dX8_can_6 : decode cX8_can 6 = .ok (.iand, 1) := by decide +kernel
theorem dX8_can_7 : decode cX8_can 7 = .ok (.ifCond .ne 7, 3) := by decide +kernel
theorem dX8_can_10 : decode cX8_can 10 = .ok (.iconst 1, 1) := by decide +kernel
theorem dX8_can_11 : decode cX8_can 11 = .ok (.goto 4, 3) := by decide +kernel
theorem dX8_can_14 : decode cX8_can 14 = .ok (.iconst 0, 1) := by decide +kernel
theorem dX8_can_15 : decode cX8_can 15 = .ok (.ireturn, 1) := by decide +kernel
theorem dX8_can_16 : decode cX8_can 16 = .ok (.iload_n 0, 1) := by decide +kernel
theorem dX8_can_17 : decode cX8_can 17 = .ok (.iconst 1, 1) := by decide +kernel
theorem dX8_can_18 : decode cX8_can 18 = .ok (.iand, 1) := by decide +kernel
theorem dX8_can_19 : decode cX8_can 19 = .ok (.iconst 1, 1) := by decide +kernel
theorem dX8_can_20 : decode cX8_can 20 = .ok (.if_icmp .ne 15, 3) := by decide +kernel
theorem dX8_can_23 : decode cX8_can 23 = .ok (.iload_n 0, 1) := by decide +kernel
theorem dX8_can_24 : decode cX8_can 24 = .ok (.iload_n 1, 1) := by decide +kernel
theorem dX8_can_25 : decode cX8_can 25 = .ok (.ishr, 1) := by decide +kernel
theorem dX8_can_26 : decode cX8_can 26 = .ok (.iconst 1, 1) := by decide +kernel
theorem dX8_can_27 : decode cX8_can 27 = .ok (.iand, 1) := by decide +kernel
theorem dX8_can_28 : decode cX8_can 28 = .ok (.ifCond .ne 7, 3) := by decide +kernel
theorem dX8_can_31 : decode cX8_can 31 = .ok (.iconst 1, 1) := by decide +kernel
theorem dX8_can_32 : decode cX8_can 32 = .ok (.goto 4, 3) := by decide +kernel
theorem dX8_can_35 : decode cX8_can 35 = .ok (.iconst 0, 1) := by decide +kernel
theorem dX8_can_36 : decode cX8_can 36 = .ok (.ireturn, 1) := by decide +kernel
theorem dX8_behind_0 : decode cX8_behind 0 = .ok (.iload_n 0, 1) := by decide +kernel
theorem dX8_behind_1 : decode cX8_behind 1 = .ok (.iconst 1, 1) := by decide +kernel
theorem dX8_behind_2 : decode cX8_behind 2 = .ok (.ishr, 1) := by decide +kernel
theorem dX8_behind_3 : decode cX8_behind 3 = .ok (.iload_n 1, 1) := by decide +kernel
theorem dX8_behind_4 : decode cX8_behind 4 = .ok (.ifCond .ne 7, 3) := by decide +kernel
theorem dX8_behind_7 : decode cX8_behind 7 = .ok (.iconst 0, 1) := by decide +kernel
theorem dX8_behind_8 : decode cX8_behind 8 = .ok (.goto 8, 3) := by decide +kernel
theorem dX8_behind_11 : decode cX8_behind 11 = .ok (.iconst 1, 1) := by decide +kernel
theorem dX8_behind_12 : decode cX8_behind 12 = .ok (.iload_n 1, 1) := by decide +kernel
theorem dX8_behind_13 : decode cX8_behind 13 = .ok (.iconst 1, 1) := by decide +kernel
theorem dX8_behind_14 : decode cX8_behind 14 = .ok (.isub, 1) := by decide +kernel
theorem dX8_behind_15 : decode cX8_behind 15 = .ok (.ishl, 1) := by decide +kernel
theorem dX8_behind_16 : decode cX8_behind 16 = .ok (.ior, 1) := by decide +kernel
theorem dX8_behind_17 : decode cX8_behind 17 = .ok (.ireturn, 1) := by decide +kernel
theorem dX8_findJoin_0 : decode cX8_findJoin 0 = .ok (.iconst 0, 1) := by decide +kernel
theorem dX8_findJoin_1 : decode cX8_findJoin 1 = .ok (.istore_n 3, 1) := by decide +kernel
theorem dX8_findJoin_2 : decode cX8_findJoin 2 = .ok (.iload_n 3, 1) := by decide +kernel
theorem dX8_findJoin_3 : decode cX8_findJoin 3 = .ok (.sipush 512, 3) := by decide +kernel
theorem dX8_findJoin_6 : decode cX8_findJoin 6 = .ok (.if_icmp .ge 16, 3) := by decide +kernel
theorem dX8_findJoin_9 : decode cX8_findJoin 9 = .ok (.aload_n 0, 1) := by decide +kernel
theorem dX8_findJoin_10 : decode cX8_findJoin 10 = .ok (.getfield 34, 3) := by decide +kernel
theorem dX8_findJoin_13 : decode cX8_findJoin 13 = .ok (.iload_n 3, 1) := by decide +kernel
theorem dX8_findJoin_14 : decode cX8_findJoin 14 = .ok (.iconst (-1), 1) := by decide +kernel
theorem dX8_findJoin_15 : decode cX8_findJoin 15 = .ok (.iastore, 1) := by decide +kernel
theorem dX8_findJoin_16 : decode cX8_findJoin 16 = .ok (.iinc 3 1, 3) := by decide +kernel
theorem dX8_findJoin_19 : decode cX8_findJoin 19 = .ok (.goto (-17), 3) := by decide +kernel
theorem dX8_findJoin_22 : decode cX8_findJoin 22 = .ok (.aload_n 0, 1) := by decide +kernel
theorem dX8_findJoin_23 : decode cX8_findJoin 23 = .ok (.getfield 28, 3) := by decide +kernel
theorem dX8_findJoin_26 : decode cX8_findJoin 26 = .ok (.iconst 0, 1) := by decide +kernel
theorem dX8_findJoin_27 : decode cX8_findJoin 27 = .ok (.iload_n 1, 1) := by decide +kernel
theorem dX8_findJoin_28 : decode cX8_findJoin 28 = .ok (.iastore, 1) := by decide +kernel
theorem dX8_findJoin_29 : decode cX8_findJoin 29 = .ok (.aload_n 0, 1) := by decide +kernel
theorem dX8_findJoin_30 : decode cX8_findJoin 30 = .ok (.getfield 34, 3) := by decide +kernel
theorem dX8_findJoin_33 : decode cX8_findJoin 33 = .ok (.iload_n 1, 1) := by decide +kernel
theorem dX8_findJoin_34 : decode cX8_findJoin 34 = .ok (.bipush 10, 2) := by decide +kernel
theorem dX8_findJoin_36 : decode cX8_findJoin 36 = .ok (.iastore, 1) := by decide +kernel
theorem dX8_findJoin_37 : decode cX8_findJoin 37 = .ok (.iconst 1, 1) := by decide +kernel
theorem dX8_findJoin_38 : decode cX8_findJoin 38 = .ok (.istore_n 3, 1) := by decide +kernel
theorem dX8_findJoin_39 : decode cX8_findJoin 39 = .ok (.iconst 0, 1) := by decide +kernel
theorem dX8_findJoin_40 : decode cX8_findJoin 40 = .ok (.istore 4, 2) := by decide +kernel
theorem dX8_findJoin_42 : decode cX8_findJoin 42 = .ok (.iload 4, 2) := by decide +kernel
theorem dX8_findJoin_44 : decode cX8_findJoin 44 = .ok (.iload_n 3, 1) := by decide +kernel
theorem dX8_findJoin_45 : decode cX8_findJoin 45 = .ok (.if_icmp .ge 107, 3) := by decide +kernel
theorem dX8_findJoin_48 : decode cX8_findJoin 48 = .ok (.aload_n 0, 1) := by decide +kernel
theorem dX8_findJoin_49 : decode cX8_findJoin 49 = .ok (.getfield 34, 3) := by decide +kernel
theorem dX8_findJoin_52 : decode cX8_findJoin 52 = .ok (.iload_n 2, 1) := by decide +kernel
theorem dX8_findJoin_53 : decode cX8_findJoin 53 = .ok (.iaload, 1) := by decide +kernel
theorem dX8_findJoin_54 : decode cX8_findJoin 54 = .ok (.ifCond .ge 98, 3) := by decide +kernel
theorem dX8_findJoin_57 : decode cX8_findJoin 57 = .ok (.iconst 0, 1) := by decide +kernel
theorem dX8_findJoin_58 : decode cX8_findJoin 58 = .ok (.istore 5, 2) := by decide +kernel
theorem dX8_findJoin_60 : decode cX8_findJoin 60 = .ok (.iload 5, 2) := by decide +kernel
theorem dX8_findJoin_62 : decode cX8_findJoin 62 = .ok (.bipush 9, 2) := by decide +kernel
theorem dX8_findJoin_64 : decode cX8_findJoin 64 = .ok (.if_icmp .gt 82, 3) := by decide +kernel
theorem dX8_findJoin_67 : decode cX8_findJoin 67 = .ok (.aload_n 0, 1) := by decide +kernel
theorem dX8_findJoin_68 : decode cX8_findJoin 68 = .ok (.getfield 28, 3) := by decide +kernel
theorem dX8_findJoin_71 : decode cX8_findJoin 71 = .ok (.iload 4, 2) := by decide +kernel
theorem dX8_findJoin_73 : decode cX8_findJoin 73 = .ok (.iaload, 1) := by decide +kernel
theorem dX8_findJoin_74 : decode cX8_findJoin 74 = .ok (.iload 5, 2) := by decide +kernel
theorem dX8_findJoin_76 : decode cX8_findJoin 76 = .ok (.invokestatic 89, 3) := by decide +kernel
theorem dX8_findJoin_79 : decode cX8_findJoin 79 = .ok (.istore 6, 2) := by decide +kernel
theorem dX8_findJoin_81 : decode cX8_findJoin 81 = .ok (.aload_n 0, 1) := by decide +kernel
theorem dX8_findJoin_82 : decode cX8_findJoin 82 = .ok (.getfield 28, 3) := by decide +kernel
theorem dX8_findJoin_85 : decode cX8_findJoin 85 = .ok (.iload 4, 2) := by decide +kernel
theorem dX8_findJoin_87 : decode cX8_findJoin 87 = .ok (.iaload, 1) := by decide +kernel
theorem dX8_findJoin_88 : decode cX8_findJoin 88 = .ok (.iload 5, 2) := by decide +kernel
theorem dX8_findJoin_90 : decode cX8_findJoin 90 = .ok (.invokestatic 92, 3) := by decide +kernel
theorem dX8_findJoin_93 : decode cX8_findJoin 93 = .ok (.ifCond .eq 47, 3) := by decide +kernel
theorem dX8_findJoin_96 : decode cX8_findJoin 96 = .ok (.aload_n 0, 1) := by decide +kernel
theorem dX8_findJoin_97 : decode cX8_findJoin 97 = .ok (.getfield 34, 3) := by decide +kernel
theorem dX8_findJoin_100 : decode cX8_findJoin 100 = .ok (.iload 6, 2) := by decide +kernel
theorem dX8_findJoin_102 : decode cX8_findJoin 102 = .ok (.iaload, 1) := by decide +kernel
theorem dX8_findJoin_103 : decode cX8_findJoin 103 = .ok (.ifCond .ge 37, 3) := by decide +kernel
theorem dX8_findJoin_106 : decode cX8_findJoin 106 = .ok (.aload_n 0, 1) := by decide +kernel
theorem dX8_findJoin_107 : decode cX8_findJoin 107 = .ok (.getfield 34, 3) := by decide +kernel
theorem dX8_findJoin_110 : decode cX8_findJoin 110 = .ok (.iload 6, 2) := by decide +kernel
theorem dX8_findJoin_112 : decode cX8_findJoin 112 = .ok (.iload 5, 2) := by decide +kernel
theorem dX8_findJoin_114 : decode cX8_findJoin 114 = .ok (.iastore, 1) := by decide +kernel
theorem dX8_findJoin_115 : decode cX8_findJoin 115 = .ok (.aload_n 0, 1) := by decide +kernel
theorem dX8_findJoin_116 : decode cX8_findJoin 116 = .ok (.getfield 31, 3) := by decide +kernel
theorem dX8_findJoin_119 : decode cX8_findJoin 119 = .ok (.iload 6, 2) := by decide +kernel
theorem dX8_findJoin_121 : decode cX8_findJoin 121 = .ok (.aload_n 0, 1) := by decide +kernel
theorem dX8_findJoin_122 : decode cX8_findJoin 122 = .ok (.getfield 28, 3) := by decide +kernel
theorem dX8_findJoin_125 : decode cX8_findJoin 125 = .ok (.iload 4, 2) := by decide +kernel
theorem dX8_findJoin_127 : decode cX8_findJoin 127 = .ok (.iaload, 1) := by decide +kernel
theorem dX8_findJoin_128 : decode cX8_findJoin 128 = .ok (.iastore, 1) := by decide +kernel
theorem dX8_findJoin_129 : decode cX8_findJoin 129 = .ok (.aload_n 0, 1) := by decide +kernel
theorem dX8_findJoin_130 : decode cX8_findJoin 130 = .ok (.getfield 28, 3) := by decide +kernel
theorem dX8_findJoin_133 : decode cX8_findJoin 133 = .ok (.iload_n 3, 1) := by decide +kernel
theorem dX8_findJoin_134 : decode cX8_findJoin 134 = .ok (.iload 6, 2) := by decide +kernel
theorem dX8_findJoin_136 : decode cX8_findJoin 136 = .ok (.iastore, 1) := by decide +kernel
theorem dX8_findJoin_137 : decode cX8_findJoin 137 = .ok (.iinc 3 1, 3) := by decide +kernel
theorem dX8_findJoin_140 : decode cX8_findJoin 140 = .ok (.iinc 5 1, 3) := by decide +kernel
theorem dX8_findJoin_143 : decode cX8_findJoin 143 = .ok (.goto (-83), 3) := by decide +kernel
theorem dX8_findJoin_146 : decode cX8_findJoin 146 = .ok (.iinc 4 1, 3) := by decide +kernel
theorem dX8_findJoin_149 : decode cX8_findJoin 149 = .ok (.goto (-107), 3) := by decide +kernel
theorem dX8_findJoin_152 : decode cX8_findJoin 152 = .ok (.aload_n 0, 1) := by decide +kernel
theorem dX8_findJoin_153 : decode cX8_findJoin 153 = .ok (.getfield 34, 3) := by decide +kernel
theorem dX8_findJoin_156 : decode cX8_findJoin 156 = .ok (.iload_n 2, 1) := by decide +kernel
theorem dX8_findJoin_157 : decode cX8_findJoin 157 = .ok (.iaload, 1) := by decide +kernel
theorem dX8_findJoin_158 : decode cX8_findJoin 158 = .ok (.ifCond .ge 5, 3) := by decide +kernel
theorem dX8_findJoin_161 : decode cX8_findJoin 161 = .ok (.iconst 0, 1) := by decide +kernel
theorem dX8_findJoin_162 : decode cX8_findJoin 162 = .ok (.ireturn, 1) := by decide +kernel
theorem dX8_findJoin_163 : decode cX8_findJoin 163 = .ok (.aload_n 0, 1) := by decide +kernel
theorem dX8_findJoin_164 : decode cX8_findJoin 164 = .ok (.iload_n 2, 1) := by decide +kernel
theorem dX8_findJoin_165 : decode cX8_findJoin 165 = .ok (.invokevirtual 96, 3) := by decide +kernel
theorem dX8_findJoin_168 : decode cX8_findJoin 168 = .ok (.iconst 1, 1) := by decide +kernel
theorem dX8_findJoin_169 : decode cX8_findJoin 169 = .ok (.ireturn, 1) := by decide +kernel
theorem dX8_takeJoin_0 : decode cX8_takeJoin 0 = .ok (.aload_n 0, 1) := by decide +kernel
theorem dX8_takeJoin_1 : decode cX8_takeJoin 1 = .ok (.iconst 0, 1) := by decide +kernel
theorem dX8_takeJoin_2 : decode cX8_takeJoin 2 = .ok (.putfield 100, 3) := by decide +kernel
theorem dX8_takeJoin_5 : decode cX8_takeJoin 5 = .ok (.iload_n 1, 1) := by decide +kernel
theorem dX8_takeJoin_6 : decode cX8_takeJoin 6 = .ok (.istore_n 2, 1) := by decide +kernel
theorem dX8_takeJoin_7 : decode cX8_takeJoin 7 = .ok (.aload_n 0, 1) := by decide +kernel
theorem dX8_takeJoin_8 : decode cX8_takeJoin 8 = .ok (.getfield 34, 3) := by decide +kernel
theorem dX8_takeJoin_11 : decode cX8_takeJoin 11 = .ok (.iload_n 2, 1) := by decide +kernel
theorem dX8_takeJoin_12 : decode cX8_takeJoin 12 = .ok (.iaload, 1) := by decide +kernel
theorem dX8_takeJoin_13 : decode cX8_takeJoin 13 = .ok (.bipush 9, 2) := by decide +kernel
theorem dX8_takeJoin_15 : decode cX8_takeJoin 15 = .ok (.if_icmp .gt 23, 3) := by decide +kernel
theorem dX8_takeJoin_18 : decode cX8_takeJoin 18 = .ok (.aload_n 0, 1) := by decide +kernel
theorem dX8_takeJoin_19 : decode cX8_takeJoin 19 = .ok (.dup, 1) := by decide +kernel
theorem dX8_takeJoin_20 : decode cX8_takeJoin 20 = .ok (.getfield 100, 3) := by decide +kernel
theorem dX8_takeJoin_23 : decode cX8_takeJoin 23 = .ok (.iconst 1, 1) := by decide +kernel
theorem dX8_takeJoin_24 : decode cX8_takeJoin 24 = .ok (.iadd, 1) := by decide +kernel
theorem dX8_takeJoin_25 : decode cX8_takeJoin 25 = .ok (.putfield 100, 3) := by decide +kernel
theorem dX8_takeJoin_28 : decode cX8_takeJoin 28 = .ok (.aload_n 0, 1) := by decide +kernel
theorem dX8_takeJoin_29 : decode cX8_takeJoin 29 = .ok (.getfield 31, 3) := by decide +kernel
theorem dX8_takeJoin_32 : decode cX8_takeJoin 32 = .ok (.iload_n 2, 1) := by decide +kernel
theorem dX8_takeJoin_33 : decode cX8_takeJoin 33 = .ok (.iaload, 1) := by decide +kernel
theorem dX8_takeJoin_34 : decode cX8_takeJoin 34 = .ok (.istore_n 2, 1) := by decide +kernel
theorem dX8_takeJoin_35 : decode cX8_takeJoin 35 = .ok (.goto (-28), 3) := by decide +kernel
theorem dX8_takeJoin_38 : decode cX8_takeJoin 38 = .ok (.aload_n 0, 1) := by decide +kernel
theorem dX8_takeJoin_39 : decode cX8_takeJoin 39 = .ok (.getfield 100, 3) := by decide +kernel
theorem dX8_takeJoin_42 : decode cX8_takeJoin 42 = .ok (.istore_n 2, 1) := by decide +kernel
theorem dX8_takeJoin_43 : decode cX8_takeJoin 43 = .ok (.iload_n 1, 1) := by decide +kernel
theorem dX8_takeJoin_44 : decode cX8_takeJoin 44 = .ok (.istore_n 3, 1) := by decide +kernel
theorem dX8_takeJoin_45 : decode cX8_takeJoin 45 = .ok (.aload_n 0, 1) := by decide +kernel
theorem dX8_takeJoin_46 : decode cX8_takeJoin 46 = .ok (.getfield 34, 3) := by decide +kernel
theorem dX8_takeJoin_49 : decode cX8_takeJoin 49 = .ok (.iload_n 3, 1) := by decide +kernel
theorem dX8_takeJoin_50 : decode cX8_takeJoin 50 = .ok (.iaload, 1) := by decide +kernel
theorem dX8_takeJoin_51 : decode cX8_takeJoin 51 = .ok (.bipush 9, 2) := by decide +kernel
theorem dX8_takeJoin_53 : decode cX8_takeJoin 53 = .ok (.if_icmp .gt 28, 3) := by decide +kernel
theorem dX8_takeJoin_56 : decode cX8_takeJoin 56 = .ok (.iinc 2 (-1), 3) := by decide +kernel
theorem dX8_takeJoin_59 : decode cX8_takeJoin 59 = .ok (.aload_n 0, 1) := by decide +kernel
theorem dX8_takeJoin_60 : decode cX8_takeJoin 60 = .ok (.getfield 37, 3) := by decide +kernel
theorem dX8_takeJoin_63 : decode cX8_takeJoin 63 = .ok (.iload_n 2, 1) := by decide +kernel
theorem dX8_takeJoin_64 : decode cX8_takeJoin 64 = .ok (.aload_n 0, 1) := by decide +kernel
theorem dX8_takeJoin_65 : decode cX8_takeJoin 65 = .ok (.getfield 34, 3) := by decide +kernel
theorem dX8_takeJoin_68 : decode cX8_takeJoin 68 = .ok (.iload_n 3, 1) := by decide +kernel
theorem dX8_takeJoin_69 : decode cX8_takeJoin 69 = .ok (.iaload, 1) := by decide +kernel
theorem dX8_takeJoin_70 : decode cX8_takeJoin 70 = .ok (.iastore, 1) := by decide +kernel
theorem dX8_takeJoin_71 : decode cX8_takeJoin 71 = .ok (.aload_n 0, 1) := by decide +kernel
theorem dX8_takeJoin_72 : decode cX8_takeJoin 72 = .ok (.getfield 31, 3) := by decide +kernel
theorem dX8_takeJoin_75 : decode cX8_takeJoin 75 = .ok (.iload_n 3, 1) := by decide +kernel
theorem dX8_takeJoin_76 : decode cX8_takeJoin 76 = .ok (.iaload, 1) := by decide +kernel
theorem dX8_takeJoin_77 : decode cX8_takeJoin 77 = .ok (.istore_n 3, 1) := by decide +kernel
theorem dX8_takeJoin_78 : decode cX8_takeJoin 78 = .ok (.goto (-33), 3) := by decide +kernel
theorem dX8_takeJoin_81 : decode cX8_takeJoin 81 = .ok (.return_, 1) := by decide +kernel
theorem dX8_findJoinTo_0 : decode cX8_findJoinTo 0 = .ok (.aload_n 0, 1) := by decide +kernel
theorem dX8_findJoinTo_1 : decode cX8_findJoinTo 1 = .ok (.iload_n 1, 1) := by decide +kernel
theorem dX8_findJoinTo_2 : decode cX8_findJoinTo 2 = .ok (.invokevirtual 103, 3) := by decide +kernel
theorem dX8_findJoinTo_5 : decode cX8_findJoinTo 5 = .ok (.aload_n 0, 1) := by decide +kernel
theorem dX8_findJoinTo_6 : decode cX8_findJoinTo 6 = .ok (.getfield 9, 3) := by decide +kernel
theorem dX8_findJoinTo_9 : decode cX8_findJoinTo 9 = .ok (.iconst 2, 1) := by decide +kernel
theorem dX8_findJoinTo_10 : decode cX8_findJoinTo 10 = .ok (.iaload, 1) := by decide +kernel
theorem dX8_findJoinTo_11 : decode cX8_findJoinTo 11 = .ok (.if_icmp .ne 26, 3) := by decide +kernel
theorem dX8_findJoinTo_14 : decode cX8_findJoinTo 14 = .ok (.aload_n 0, 1) := by decide +kernel
theorem dX8_findJoinTo_15 : decode cX8_findJoinTo 15 = .ok (.aload_n 0, 1) := by decide +kernel
theorem dX8_findJoinTo_16 : decode cX8_findJoinTo 16 = .ok (.getfield 9, 3) := by decide +kernel
theorem dX8_findJoinTo_19 : decode cX8_findJoinTo 19 = .ok (.iconst 1, 1) := by decide +kernel
theorem dX8_findJoinTo_20 : decode cX8_findJoinTo 20 = .ok (.iaload, 1) := by decide +kernel
theorem dX8_findJoinTo_21 : decode cX8_findJoinTo 21 = .ok (.aload_n 0, 1) := by decide +kernel
theorem dX8_findJoinTo_22 : decode cX8_findJoinTo 22 = .ok (.iload_n 1, 1) := by decide +kernel
theorem dX8_findJoinTo_23 : decode cX8_findJoinTo 23 = .ok (.iconst 0, 1) := by decide +kernel
theorem dX8_findJoinTo_24 : decode cX8_findJoinTo 24 = .ok (.invokevirtual 106, 3) := by decide +kernel
theorem dX8_findJoinTo_27 : decode cX8_findJoinTo 27 = .ok (.invokevirtual 109, 3) := by decide +kernel
theorem dX8_findJoinTo_30 : decode cX8_findJoinTo 30 = .ok (.ifCond .eq 7, 3) := by decide +kernel
theorem dX8_findJoinTo_33 : decode cX8_findJoinTo 33 = .ok (.iconst 1, 1) := by decide +kernel
theorem dX8_findJoinTo_34 : decode cX8_findJoinTo 34 = .ok (.goto 4, 3) := by decide +kernel
theorem dX8_findJoinTo_37 : decode cX8_findJoinTo 37 = .ok (.iconst 0, 1) := by decide +kernel
theorem dX8_findJoinTo_38 : decode cX8_findJoinTo 38 = .ok (.ireturn, 1) := by decide +kernel
theorem dX8_row_0 : decode cX8_row 0 = .ok (.iload_n 2, 1) := by decide +kernel
theorem dX8_row_1 : decode cX8_row 1 = .ok (.iconst 1, 1) := by decide +kernel
theorem dX8_row_2 : decode cX8_row 2 = .ok (.bipush 8, 2) := by decide +kernel
theorem dX8_row_4 : decode cX8_row 4 = .ok (.invokestatic 71, 3) := by decide +kernel
theorem dX8_row_7 : decode cX8_row 7 = .ok (.ifCond .eq 7, 3) := by decide +kernel
theorem dX8_row_10 : decode cX8_row 10 = .ok (.iload_n 1, 1) := by decide +kernel
theorem dX8_row_11 : decode cX8_row 11 = .ok (.ifCond .ge 6, 3) := by decide +kernel
theorem dX8_row_14 : decode cX8_row 14 = .ok (.bipush (-2), 2) := by decide +kernel
theorem dX8_row_16 : decode cX8_row 16 = .ok (.ireturn, 1) := by decide +kernel
theorem dX8_row_17 : decode cX8_row 17 = .ok (.iload_n 1, 1) := by decide +kernel
theorem dX8_row_18 : decode cX8_row 18 = .ok (.istore_n 3, 1) := by decide +kernel
theorem dX8_row_19 : decode cX8_row 19 = .ok (.iconst 0, 1) := by decide +kernel
theorem dX8_row_20 : decode cX8_row 20 = .ok (.istore 4, 2) := by decide +kernel
theorem dX8_row_22 : decode cX8_row 22 = .ok (.iload 4, 2) := by decide +kernel
theorem dX8_row_24 : decode cX8_row 24 = .ok (.iload_n 2, 1) := by decide +kernel
theorem dX8_row_25 : decode cX8_row 25 = .ok (.if_icmp .ge 14, 3) := by decide +kernel
theorem dX8_row_28 : decode cX8_row 28 = .ok (.iload_n 3, 1) := by decide +kernel
theorem dX8_row_29 : decode cX8_row 29 = .ok (.bipush 10, 2) := by decide +kernel
theorem dX8_row_31 : decode cX8_row 31 = .ok (.idiv, 1) := by decide +kernel
theorem dX8_row_32 : decode cX8_row 32 = .ok (.istore_n 3, 1) := by decide +kernel
theorem dX8_row_33 : decode cX8_row 33 = .ok (.iinc 4 1, 3) := by decide +kernel
theorem dX8_row_36 : decode cX8_row 36 = .ok (.goto (-14), 3) := by decide +kernel
theorem dX8_row_39 : decode cX8_row 39 = .ok (.iload_n 3, 1) := by decide +kernel
theorem dX8_row_40 : decode cX8_row 40 = .ok (.ifCond .le 6, 3) := by decide +kernel
theorem dX8_row_43 : decode cX8_row 43 = .ok (.bipush (-2), 2) := by decide +kernel
theorem dX8_row_45 : decode cX8_row 45 = .ok (.ireturn, 1) := by decide +kernel
theorem dX8_row_46 : decode cX8_row 46 = .ok (.aload_n 0, 1) := by decide +kernel
theorem dX8_row_47 : decode cX8_row 47 = .ok (.aload_n 0, 1) := by decide +kernel
theorem dX8_row_48 : decode cX8_row 48 = .ok (.getfield 9, 3) := by decide +kernel
theorem dX8_row_51 : decode cX8_row 51 = .ok (.iconst 0, 1) := by decide +kernel
theorem dX8_row_52 : decode cX8_row 52 = .ok (.iaload, 1) := by decide +kernel
theorem dX8_row_53 : decode cX8_row 53 = .ok (.bipush 6, 2) := by decide +kernel
theorem dX8_row_55 : decode cX8_row 55 = .ok (.if_icmp .ne 7, 3) := by decide +kernel
theorem dX8_row_58 : decode cX8_row 58 = .ok (.iconst 1, 1) := by decide +kernel
theorem dX8_row_59 : decode cX8_row 59 = .ok (.goto 4, 3) := by decide +kernel
theorem dX8_row_62 : decode cX8_row 62 = .ok (.iconst 0, 1) := by decide +kernel
theorem dX8_row_63 : decode cX8_row 63 = .ok (.iconst 1, 1) := by decide +kernel
theorem dX8_row_64 : decode cX8_row 64 = .ok (.bipush 6, 2) := by decide +kernel
theorem dX8_row_66 : decode cX8_row 66 = .ok (.invokevirtual 112, 3) := by decide +kernel
theorem dX8_row_69 : decode cX8_row 69 = .ok (.ifCond .eq 6, 3) := by decide +kernel
theorem dX8_row_72 : decode cX8_row 72 = .ok (.bipush (-3), 2) := by decide +kernel
theorem dX8_row_74 : decode cX8_row 74 = .ok (.ireturn, 1) := by decide +kernel
theorem dX8_row_75 : decode cX8_row 75 = .ok (.aload_n 0, 1) := by decide +kernel
theorem dX8_row_76 : decode cX8_row 76 = .ok (.invokevirtual 116, 3) := by decide +kernel
theorem dX8_row_79 : decode cX8_row 79 = .ok (.aload_n 0, 1) := by decide +kernel
theorem dX8_row_80 : decode cX8_row 80 = .ok (.getfield 9, 3) := by decide +kernel
theorem dX8_row_83 : decode cX8_row 83 = .ok (.iconst 0, 1) := by decide +kernel
theorem dX8_row_84 : decode cX8_row 84 = .ok (.iaload, 1) := by decide +kernel
theorem dX8_row_85 : decode cX8_row 85 = .ok (.istore 4, 2) := by decide +kernel
theorem dX8_row_87 : decode cX8_row 87 = .ok (.aload_n 0, 1) := by decide +kernel
theorem dX8_row_88 : decode cX8_row 88 = .ok (.getfield 9, 3) := by decide +kernel
theorem dX8_row_91 : decode cX8_row 91 = .ok (.iconst 0, 1) := by decide +kernel
theorem dX8_row_92 : decode cX8_row 92 = .ok (.dup2, 1) := by decide +kernel
theorem dX8_row_93 : decode cX8_row 93 = .ok (.iaload, 1) := by decide +kernel
theorem dX8_row_94 : decode cX8_row 94 = .ok (.iconst 1, 1) := by decide +kernel
theorem dX8_row_95 : decode cX8_row 95 = .ok (.iadd, 1) := by decide +kernel
theorem dX8_row_96 : decode cX8_row 96 = .ok (.iastore, 1) := by decide +kernel
theorem dX8_row_97 : decode cX8_row 97 = .ok (.aload_n 0, 1) := by decide +kernel
theorem dX8_row_98 : decode cX8_row 98 = .ok (.getfield 9, 3) := by decide +kernel
theorem dX8_row_101 : decode cX8_row 101 = .ok (.bipush 9, 2) := by decide +kernel
theorem dX8_row_103 : decode cX8_row 103 = .ok (.bipush 9, 2) := by decide +kernel
theorem dX8_row_105 : decode cX8_row 105 = .ok (.iload 4, 2) := by decide +kernel
theorem dX8_row_107 : decode cX8_row 107 = .ok (.imul, 1) := by decide +kernel
theorem dX8_row_108 : decode cX8_row 108 = .ok (.iadd, 1) := by decide +kernel
theorem dX8_row_109 : decode cX8_row 109 = .ok (.iload_n 2, 1) := by decide +kernel
theorem dX8_row_110 : decode cX8_row 110 = .ok (.iastore, 1) := by decide +kernel
theorem dX8_row_111 : decode cX8_row 111 = .ok (.iload_n 1, 1) := by decide +kernel
theorem dX8_row_112 : decode cX8_row 112 = .ok (.istore_n 3, 1) := by decide +kernel
theorem dX8_row_113 : decode cX8_row 113 = .ok (.bipush 7, 2) := by decide +kernel
theorem dX8_row_115 : decode cX8_row 115 = .ok (.istore 5, 2) := by decide +kernel
theorem dX8_row_117 : decode cX8_row 117 = .ok (.iload 5, 2) := by decide +kernel
theorem dX8_row_119 : decode cX8_row 119 = .ok (.ifCond .lt 46, 3) := by decide +kernel
theorem dX8_row_122 : decode cX8_row 122 = .ok (.aload_n 0, 1) := by decide +kernel
theorem dX8_row_123 : decode cX8_row 123 = .ok (.iload 4, 2) := by decide +kernel
theorem dX8_row_125 : decode cX8_row 125 = .ok (.iload 5, 2) := by decide +kernel
theorem dX8_row_127 : decode cX8_row 127 = .ok (.iload 5, 2) := by decide +kernel
theorem dX8_row_129 : decode cX8_row 129 = .ok (.iload_n 2, 1) := by decide +kernel
theorem dX8_row_130 : decode cX8_row 130 = .ok (.if_icmp .ge 10, 3) := by decide +kernel
theorem dX8_row_133 : decode cX8_row 133 = .ok (.iload_n 3, 1) := by decide +kernel
theorem dX8_row_134 : decode cX8_row 134 = .ok (.bipush 10, 2) := by decide +kernel
theorem dX8_row_136 : decode cX8_row 136 = .ok (.irem, 1) := by decide +kernel
theorem dX8_row_137 : decode cX8_row 137 = .ok (.goto 4, 3) := by decide +kernel
theorem dX8_row_140 : decode cX8_row 140 = .ok (.iconst 0, 1) := by decide +kernel
theorem dX8_row_141 : decode cX8_row 141 = .ok (.invokevirtual 119, 3) := by decide +kernel
theorem dX8_row_144 : decode cX8_row 144 = .ok (.iload_n 3, 1) := by decide +kernel
theorem dX8_row_145 : decode cX8_row 145 = .ok (.iload 5, 2) := by decide +kernel
theorem dX8_row_147 : decode cX8_row 147 = .ok (.iload_n 2, 1) := by decide +kernel
theorem dX8_row_148 : decode cX8_row 148 = .ok (.if_icmp .ge 8, 3) := by decide +kernel
theorem dX8_row_151 : decode cX8_row 151 = .ok (.bipush 10, 2) := by decide +kernel
theorem dX8_row_153 : decode cX8_row 153 = .ok (.goto 4, 3) := by decide +kernel
theorem dX8_row_156 : decode cX8_row 156 = .ok (.iconst 1, 1) := by decide +kernel
theorem dX8_row_157 : decode cX8_row 157 = .ok (.idiv, 1) := by decide +kernel
theorem dX8_row_158 : decode cX8_row 158 = .ok (.istore_n 3, 1) := by decide +kernel
theorem dX8_row_159 : decode cX8_row 159 = .ok (.iinc 5 (-1), 3) := by decide +kernel
theorem dX8_row_162 : decode cX8_row 162 = .ok (.goto (-45), 3) := by decide +kernel
theorem dX8_row_165 : decode cX8_row 165 = .ok (.iload 4, 2) := by decide +kernel
theorem dX8_row_167 : decode cX8_row 167 = .ok (.ireturn, 1) := by decide +kernel
theorem dX8_drop_0 : decode cX8_drop 0 = .ok (.aload_n 0, 1) := by decide +kernel
theorem dX8_drop_1 : decode cX8_drop 1 = .ok (.iload_n 1, 1) := by decide +kernel
theorem dX8_drop_2 : decode cX8_drop 2 = .ok (.invokevirtual 123, 3) := by decide +kernel
theorem dX8_drop_5 : decode cX8_drop 5 = .ok (.ifCond .ne 5, 3) := by decide +kernel
theorem dX8_drop_8 : decode cX8_drop 8 = .ok (.iconst (-1), 1) := by decide +kernel
theorem dX8_drop_9 : decode cX8_drop 9 = .ok (.ireturn, 1) := by decide +kernel
theorem dX8_drop_10 : decode cX8_drop 10 = .ok (.aload_n 0, 1) := by decide +kernel
theorem dX8_drop_11 : decode cX8_drop 11 = .ok (.invokevirtual 116, 3) := by decide +kernel
theorem dX8_drop_14 : decode cX8_drop 14 = .ok (.aload_n 0, 1) := by decide +kernel
theorem dX8_drop_15 : decode cX8_drop 15 = .ok (.getfield 9, 3) := by decide +kernel
theorem dX8_drop_18 : decode cX8_drop 18 = .ok (.iconst 0, 1) := by decide +kernel
theorem dX8_drop_19 : decode cX8_drop 19 = .ok (.dup2, 1) := by decide +kernel
theorem dX8_drop_20 : decode cX8_drop 20 = .ok (.iaload, 1) := by decide +kernel
theorem dX8_drop_21 : decode cX8_drop 21 = .ok (.iconst 1, 1) := by decide +kernel
theorem dX8_drop_22 : decode cX8_drop 22 = .ok (.isub, 1) := by decide +kernel
theorem dX8_drop_23 : decode cX8_drop 23 = .ok (.iastore, 1) := by decide +kernel
theorem dX8_drop_24 : decode cX8_drop 24 = .ok (.bipush 9, 2) := by decide +kernel
theorem dX8_drop_26 : decode cX8_drop 26 = .ok (.bipush 9, 2) := by decide +kernel
theorem dX8_drop_28 : decode cX8_drop 28 = .ok (.iload_n 1, 1) := by decide +kernel
theorem dX8_drop_29 : decode cX8_drop 29 = .ok (.imul, 1) := by decide +kernel
theorem dX8_drop_30 : decode cX8_drop 30 = .ok (.iadd, 1) := by decide +kernel
theorem dX8_drop_31 : decode cX8_drop 31 = .ok (.istore_n 2, 1) := by decide +kernel
theorem dX8_drop_32 : decode cX8_drop 32 = .ok (.iload_n 2, 1) := by decide +kernel
theorem dX8_drop_33 : decode cX8_drop 33 = .ok (.bipush 9, 2) := by decide +kernel
theorem dX8_drop_35 : decode cX8_drop 35 = .ok (.bipush 9, 2) := by decide +kernel
theorem dX8_drop_37 : decode cX8_drop 37 = .ok (.aload_n 0, 1) := by decide +kernel
theorem dX8_drop_38 : decode cX8_drop 38 = .ok (.getfield 9, 3) := by decide +kernel
theorem dX8_drop_41 : decode cX8_drop 41 = .ok (.iconst 0, 1) := by decide +kernel
theorem dX8_drop_42 : decode cX8_drop 42 = .ok (.iaload, 1) := by decide +kernel
theorem dX8_drop_43 : decode cX8_drop 43 = .ok (.imul, 1) := by decide +kernel
theorem dX8_drop_44 : decode cX8_drop 44 = .ok (.iadd, 1) := by decide +kernel
theorem dX8_drop_45 : decode cX8_drop 45 = .ok (.if_icmp .ge 24, 3) := by decide +kernel
theorem dX8_drop_48 : decode cX8_drop 48 = .ok (.aload_n 0, 1) := by decide +kernel
theorem dX8_drop_49 : decode cX8_drop 49 = .ok (.getfield 9, 3) := by decide +kernel
theorem dX8_drop_52 : decode cX8_drop 52 = .ok (.iload_n 2, 1) := by decide +kernel
theorem dX8_drop_53 : decode cX8_drop 53 = .ok (.aload_n 0, 1) := by decide +kernel
theorem dX8_drop_54 : decode cX8_drop 54 = .ok (.getfield 9, 3) := by decide +kernel
theorem dX8_drop_57 : decode cX8_drop 57 = .ok (.iload_n 2, 1) := by decide +kernel
theorem dX8_drop_58 : decode cX8_drop 58 = .ok (.bipush 9, 2) := by decide +kernel
theorem dX8_drop_60 : decode cX8_drop 60 = .ok (.iadd, 1) := by decide +kernel
theorem dX8_drop_61 : decode cX8_drop 61 = .ok (.iaload, 1) := by decide +kernel
theorem dX8_drop_62 : decode cX8_drop 62 = .ok (.iastore, 1) := by decide +kernel
theorem dX8_drop_63 : decode cX8_drop 63 = .ok (.iinc 2 1, 3) := by decide +kernel
theorem dX8_drop_66 : decode cX8_drop 66 = .ok (.goto (-34), 3) := by decide +kernel
theorem dX8_drop_69 : decode cX8_drop 69 = .ok (.aload_n 0, 1) := by decide +kernel
theorem dX8_drop_70 : decode cX8_drop 70 = .ok (.getfield 9, 3) := by decide +kernel
theorem dX8_drop_73 : decode cX8_drop 73 = .ok (.iconst 0, 1) := by decide +kernel
theorem dX8_drop_74 : decode cX8_drop 74 = .ok (.iaload, 1) := by decide +kernel
theorem dX8_drop_75 : decode cX8_drop 75 = .ok (.ireturn, 1) := by decide +kernel
theorem dX8_turn_0 : decode cX8_turn 0 = .ok (.aload_n 0, 1) := by decide +kernel
theorem dX8_turn_1 : decode cX8_turn 1 = .ok (.iload_n 1, 1) := by decide +kernel
theorem dX8_turn_2 : decode cX8_turn 2 = .ok (.invokevirtual 123, 3) := by decide +kernel
theorem dX8_turn_5 : decode cX8_turn 5 = .ok (.ifCond .ne 5, 3) := by decide +kernel
theorem dX8_turn_8 : decode cX8_turn 8 = .ok (.iconst (-1), 1) := by decide +kernel
theorem dX8_turn_9 : decode cX8_turn 9 = .ok (.ireturn, 1) := by decide +kernel
theorem dX8_turn_10 : decode cX8_turn 10 = .ok (.aload_n 0, 1) := by decide +kernel
theorem dX8_turn_11 : decode cX8_turn 11 = .ok (.invokevirtual 116, 3) := by decide +kernel
theorem dX8_turn_14 : decode cX8_turn 14 = .ok (.aload_n 0, 1) := by decide +kernel
theorem dX8_turn_15 : decode cX8_turn 15 = .ok (.iload_n 1, 1) := by decide +kernel
theorem dX8_turn_16 : decode cX8_turn 16 = .ok (.iconst 0, 1) := by decide +kernel
theorem dX8_turn_17 : decode cX8_turn 17 = .ok (.invokevirtual 79, 3) := by decide +kernel
theorem dX8_turn_20 : decode cX8_turn 20 = .ok (.istore_n 2, 1) := by decide +kernel
theorem dX8_turn_21 : decode cX8_turn 21 = .ok (.aload_n 0, 1) := by decide +kernel
theorem dX8_turn_22 : decode cX8_turn 22 = .ok (.iload_n 1, 1) := by decide +kernel
theorem dX8_turn_23 : decode cX8_turn 23 = .ok (.invokevirtual 75, 3) := by decide +kernel
theorem dX8_turn_26 : decode cX8_turn 26 = .ok (.iconst 1, 1) := by decide +kernel
theorem dX8_turn_27 : decode cX8_turn 27 = .ok (.isub, 1) := by decide +kernel
theorem dX8_turn_28 : decode cX8_turn 28 = .ok (.istore_n 3, 1) := by decide +kernel
theorem dX8_turn_29 : decode cX8_turn 29 = .ok (.iconst 0, 1) := by decide +kernel
theorem dX8_turn_30 : decode cX8_turn 30 = .ok (.istore 4, 2) := by decide +kernel
theorem dX8_turn_32 : decode cX8_turn 32 = .ok (.iload 4, 2) := by decide +kernel
theorem dX8_turn_34 : decode cX8_turn 34 = .ok (.iload_n 3, 1) := by decide +kernel
theorem dX8_turn_35 : decode cX8_turn 35 = .ok (.if_icmp .ge 25, 3) := by decide +kernel
theorem dX8_turn_38 : decode cX8_turn 38 = .ok (.aload_n 0, 1) := by decide +kernel
theorem dX8_turn_39 : decode cX8_turn 39 = .ok (.iload_n 1, 1) := by decide +kernel
theorem dX8_turn_40 : decode cX8_turn 40 = .ok (.iload 4, 2) := by decide +kernel
theorem dX8_turn_42 : decode cX8_turn 42 = .ok (.aload_n 0, 1) := by decide +kernel
theorem dX8_turn_43 : decode cX8_turn 43 = .ok (.iload_n 1, 1) := by decide +kernel
theorem dX8_turn_44 : decode cX8_turn 44 = .ok (.iload 4, 2) := by decide +kernel
theorem dX8_turn_46 : decode cX8_turn 46 = .ok (.iconst 1, 1) := by decide +kernel
theorem dX8_turn_47 : decode cX8_turn 47 = .ok (.iadd, 1) := by decide +kernel
theorem dX8_turn_48 : decode cX8_turn 48 = .ok (.invokevirtual 79, 3) := by decide +kernel
theorem dX8_turn_51 : decode cX8_turn 51 = .ok (.invokevirtual 119, 3) := by decide +kernel
theorem dX8_turn_54 : decode cX8_turn 54 = .ok (.iinc 4 1, 3) := by decide +kernel
theorem dX8_turn_57 : decode cX8_turn 57 = .ok (.goto (-25), 3) := by decide +kernel
theorem dX8_turn_60 : decode cX8_turn 60 = .ok (.aload_n 0, 1) := by decide +kernel
theorem dX8_turn_61 : decode cX8_turn 61 = .ok (.iload_n 1, 1) := by decide +kernel
theorem dX8_turn_62 : decode cX8_turn 62 = .ok (.iload_n 3, 1) := by decide +kernel
theorem dX8_turn_63 : decode cX8_turn 63 = .ok (.iload_n 2, 1) := by decide +kernel
theorem dX8_turn_64 : decode cX8_turn 64 = .ok (.invokevirtual 119, 3) := by decide +kernel
theorem dX8_turn_67 : decode cX8_turn 67 = .ok (.aload_n 0, 1) := by decide +kernel
theorem dX8_turn_68 : decode cX8_turn 68 = .ok (.iload_n 1, 1) := by decide +kernel
theorem dX8_turn_69 : decode cX8_turn 69 = .ok (.iconst 0, 1) := by decide +kernel
theorem dX8_turn_70 : decode cX8_turn 70 = .ok (.invokevirtual 79, 3) := by decide +kernel
theorem dX8_turn_73 : decode cX8_turn 73 = .ok (.ireturn, 1) := by decide +kernel
theorem dX8_swap_0 : decode cX8_swap 0 = .ok (.aload_n 0, 1) := by decide +kernel
theorem dX8_swap_1 : decode cX8_swap 1 = .ok (.iload_n 1, 1) := by decide +kernel
theorem dX8_swap_2 : decode cX8_swap 2 = .ok (.invokevirtual 123, 3) := by decide +kernel
theorem dX8_swap_5 : decode cX8_swap 5 = .ok (.ifCond .eq 21, 3) := by decide +kernel
theorem dX8_swap_8 : decode cX8_swap 8 = .ok (.aload_n 0, 1) := by decide +kernel
theorem dX8_swap_9 : decode cX8_swap 9 = .ok (.iload_n 1, 1) := by decide +kernel
theorem dX8_swap_10 : decode cX8_swap 10 = .ok (.iload_n 2, 1) := by decide +kernel
theorem dX8_swap_11 : decode cX8_swap 11 = .ok (.invokevirtual 127, 3) := by decide +kernel
theorem dX8_swap_14 : decode cX8_swap 14 = .ok (.ifCond .eq 12, 3) := by decide +kernel
theorem dX8_swap_17 : decode cX8_swap 17 = .ok (.aload_n 0, 1) := by decide +kernel
theorem dX8_swap_18 : decode cX8_swap 18 = .ok (.iload_n 1, 1) := by decide +kernel
theorem dX8_swap_19 : decode cX8_swap 19 = .ok (.iload_n 3, 1) := by decide +kernel
theorem dX8_swap_20 : decode cX8_swap 20 = .ok (.invokevirtual 127, 3) := by decide +kernel
theorem dX8_swap_23 : decode cX8_swap 23 = .ok (.ifCond .ne 5, 3) := by decide +kernel
theorem dX8_swap_26 : decode cX8_swap 26 = .ok (.iconst (-1), 1) := by decide +kernel
theorem dX8_swap_27 : decode cX8_swap 27 = .ok (.ireturn, 1) := by decide +kernel
theorem dX8_swap_28 : decode cX8_swap 28 = .ok (.aload_n 0, 1) := by decide +kernel
theorem dX8_swap_29 : decode cX8_swap 29 = .ok (.iload_n 1, 1) := by decide +kernel
theorem dX8_swap_30 : decode cX8_swap 30 = .ok (.iload_n 3, 1) := by decide +kernel
theorem dX8_swap_31 : decode cX8_swap 31 = .ok (.invokevirtual 79, 3) := by decide +kernel
theorem dX8_swap_34 : decode cX8_swap 34 = .ok (.iload_n 3, 1) := by decide +kernel
theorem dX8_swap_35 : decode cX8_swap 35 = .ok (.iadd, 1) := by decide +kernel
theorem dX8_swap_36 : decode cX8_swap 36 = .ok (.iload_n 2, 1) := by decide +kernel
theorem dX8_swap_37 : decode cX8_swap 37 = .ok (.isub, 1) := by decide +kernel
theorem dX8_swap_38 : decode cX8_swap 38 = .ok (.istore 4, 2) := by decide +kernel
theorem dX8_swap_40 : decode cX8_swap 40 = .ok (.aload_n 0, 1) := by decide +kernel
theorem dX8_swap_41 : decode cX8_swap 41 = .ok (.iload_n 1, 1) := by decide +kernel
theorem dX8_swap_42 : decode cX8_swap 42 = .ok (.iload_n 2, 1) := by decide +kernel
theorem dX8_swap_43 : decode cX8_swap 43 = .ok (.invokevirtual 79, 3) := by decide +kernel
theorem dX8_swap_46 : decode cX8_swap 46 = .ok (.iload_n 3, 1) := by decide +kernel
theorem dX8_swap_47 : decode cX8_swap 47 = .ok (.isub, 1) := by decide +kernel
theorem dX8_swap_48 : decode cX8_swap 48 = .ok (.iload_n 2, 1) := by decide +kernel
theorem dX8_swap_49 : decode cX8_swap 49 = .ok (.iadd, 1) := by decide +kernel
theorem dX8_swap_50 : decode cX8_swap 50 = .ok (.istore 5, 2) := by decide +kernel
theorem dX8_swap_52 : decode cX8_swap 52 = .ok (.aload_n 0, 1) := by decide +kernel
theorem dX8_swap_53 : decode cX8_swap 53 = .ok (.iload_n 2, 1) := by decide +kernel
theorem dX8_swap_54 : decode cX8_swap 54 = .ok (.iload_n 3, 1) := by decide +kernel
theorem dX8_swap_55 : decode cX8_swap 55 = .ok (.if_icmp .lt 7, 3) := by decide +kernel
theorem dX8_swap_58 : decode cX8_swap 58 = .ok (.iconst 1, 1) := by decide +kernel
theorem dX8_swap_59 : decode cX8_swap 59 = .ok (.goto 4, 3) := by decide +kernel
theorem dX8_swap_62 : decode cX8_swap 62 = .ok (.iconst 0, 1) := by decide +kernel
theorem dX8_swap_63 : decode cX8_swap 63 = .ok (.bipush 7, 2) := by decide +kernel
theorem dX8_swap_65 : decode cX8_swap 65 = .ok (.iload_n 2, 1) := by decide +kernel
theorem dX8_swap_66 : decode cX8_swap 66 = .ok (.invokevirtual 112, 3) := by decide +kernel
theorem dX8_swap_69 : decode cX8_swap 69 = .ok (.ifCond .ne 40, 3) := by decide +kernel
theorem dX8_swap_72 : decode cX8_swap 72 = .ok (.aload_n 0, 1) := by decide +kernel
theorem dX8_swap_73 : decode cX8_swap 73 = .ok (.iload 4, 2) := by decide +kernel
theorem dX8_swap_75 : decode cX8_swap 75 = .ok (.bipush 9, 2) := by decide +kernel
theorem dX8_swap_77 : decode cX8_swap 77 = .ok (.if_icmp .gt 8, 3) := by decide +kernel
theorem dX8_swap_80 : decode cX8_swap 80 = .ok (.iload 5, 2) := by decide +kernel
theorem dX8_swap_82 : decode cX8_swap 82 = .ok (.ifCond .ge 7, 3) := by decide +kernel
theorem dX8_swap_85 : decode cX8_swap 85 = .ok (.iconst 1, 1) := by decide +kernel
theorem dX8_swap_86 : decode cX8_swap 86 = .ok (.goto 4, 3) := by decide +kernel
theorem dX8_swap_89 : decode cX8_swap 89 = .ok (.iconst 0, 1) := by decide +kernel
theorem dX8_swap_90 : decode cX8_swap 90 = .ok (.iconst 2, 1) := by decide +kernel
theorem dX8_swap_91 : decode cX8_swap 91 = .ok (.iload 4, 2) := by decide +kernel
theorem dX8_swap_93 : decode cX8_swap 93 = .ok (.bipush 9, 2) := by decide +kernel
theorem dX8_swap_95 : decode cX8_swap 95 = .ok (.if_icmp .le 7, 3) := by decide +kernel
theorem dX8_swap_98 : decode cX8_swap 98 = .ok (.iload_n 2, 1) := by decide +kernel
theorem dX8_swap_99 : decode cX8_swap 99 = .ok (.goto 4, 3) := by decide +kernel
theorem dX8_swap_102 : decode cX8_swap 102 = .ok (.iload_n 3, 1) := by decide +kernel
theorem dX8_swap_103 : decode cX8_swap 103 = .ok (.invokevirtual 112, 3) := by decide +kernel
theorem dX8_swap_106 : decode cX8_swap 106 = .ok (.ifCond .eq 6, 3) := by decide +kernel
theorem dX8_swap_109 : decode cX8_swap 109 = .ok (.bipush (-3), 2) := by decide +kernel
theorem dX8_swap_111 : decode cX8_swap 111 = .ok (.ireturn, 1) := by decide +kernel
theorem dX8_swap_112 : decode cX8_swap 112 = .ok (.aload_n 0, 1) := by decide +kernel
theorem dX8_swap_113 : decode cX8_swap 113 = .ok (.invokevirtual 116, 3) := by decide +kernel
theorem dX8_swap_116 : decode cX8_swap 116 = .ok (.aload_n 0, 1) := by decide +kernel
theorem dX8_swap_117 : decode cX8_swap 117 = .ok (.iload_n 1, 1) := by decide +kernel
theorem dX8_swap_118 : decode cX8_swap 118 = .ok (.iload_n 2, 1) := by decide +kernel
theorem dX8_swap_119 : decode cX8_swap 119 = .ok (.iload 4, 2) := by decide +kernel
theorem dX8_swap_121 : decode cX8_swap 121 = .ok (.invokevirtual 119, 3) := by decide +kernel
theorem dX8_swap_124 : decode cX8_swap 124 = .ok (.aload_n 0, 1) := by decide +kernel
theorem dX8_swap_125 : decode cX8_swap 125 = .ok (.iload_n 1, 1) := by decide +kernel
theorem dX8_swap_126 : decode cX8_swap 126 = .ok (.iload_n 3, 1) := by decide +kernel
theorem dX8_swap_127 : decode cX8_swap 127 = .ok (.iload 5, 2) := by decide +kernel
theorem dX8_swap_129 : decode cX8_swap 129 = .ok (.invokevirtual 119, 3) := by decide +kernel
theorem dX8_swap_132 : decode cX8_swap 132 = .ok (.iload 4, 2) := by decide +kernel
theorem dX8_swap_134 : decode cX8_swap 134 = .ok (.ireturn, 1) := by decide +kernel
theorem dX8_orNothing_0 : decode cX8_orNothing 0 = .ok (.iload_n 0, 1) := by decide +kernel
theorem dX8_orNothing_1 : decode cX8_orNothing 1 = .ok (.ifCond .ge 8, 3) := by decide +kernel
theorem dX8_orNothing_4 : decode cX8_orNothing 4 = .ok (.bipush (-4), 2) := by decide +kernel
theorem dX8_orNothing_6 : decode cX8_orNothing 6 = .ok (.goto 4, 3) := by decide +kernel
theorem dX8_orNothing_9 : decode cX8_orNothing 9 = .ok (.iload_n 0, 1) := by decide +kernel
theorem dX8_orNothing_10 : decode cX8_orNothing 10 = .ok (.ireturn, 1) := by decide +kernel
theorem dX8_lift_0 : decode cX8_lift 0 = .ok (.aload_n 0, 1) := by decide +kernel
theorem dX8_lift_1 : decode cX8_lift 1 = .ok (.iload_n 1, 1) := by decide +kernel
theorem dX8_lift_2 : decode cX8_lift 2 = .ok (.invokevirtual 123, 3) := by decide +kernel
theorem dX8_lift_5 : decode cX8_lift 5 = .ok (.ifCond .ne 5, 3) := by decide +kernel
theorem dX8_lift_8 : decode cX8_lift 8 = .ok (.iconst (-1), 1) := by decide +kernel
theorem dX8_lift_9 : decode cX8_lift 9 = .ok (.ireturn, 1) := by decide +kernel
theorem dX8_lift_10 : decode cX8_lift 10 = .ok (.iconst 0, 1) := by decide +kernel
theorem dX8_lift_11 : decode cX8_lift 11 = .ok (.istore_n 2, 1) := by decide +kernel
theorem dX8_lift_12 : decode cX8_lift 12 = .ok (.iload_n 2, 1) := by decide +kernel
theorem dX8_lift_13 : decode cX8_lift 13 = .ok (.aload_n 0, 1) := by decide +kernel
theorem dX8_lift_14 : decode cX8_lift 14 = .ok (.iload_n 1, 1) := by decide +kernel
theorem dX8_lift_15 : decode cX8_lift 15 = .ok (.invokevirtual 75, 3) := by decide +kernel
theorem dX8_lift_18 : decode cX8_lift 18 = .ok (.if_icmp .ge 37, 3) := by decide +kernel
theorem dX8_lift_21 : decode cX8_lift 21 = .ok (.aload_n 0, 1) := by decide +kernel
theorem dX8_lift_22 : decode cX8_lift 22 = .ok (.aload_n 0, 1) := by decide +kernel
theorem dX8_lift_23 : decode cX8_lift 23 = .ok (.iload_n 1, 1) := by decide +kernel
theorem dX8_lift_24 : decode cX8_lift 24 = .ok (.iload_n 2, 1) := by decide +kernel
theorem dX8_lift_25 : decode cX8_lift 25 = .ok (.invokevirtual 79, 3) := by decide +kernel
theorem dX8_lift_28 : decode cX8_lift 28 = .ok (.bipush 9, 2) := by decide +kernel
theorem dX8_lift_30 : decode cX8_lift 30 = .ok (.if_icmp .ne 7, 3) := by decide +kernel
theorem dX8_lift_33 : decode cX8_lift 33 = .ok (.iconst 1, 1) := by decide +kernel
theorem dX8_lift_34 : decode cX8_lift 34 = .ok (.goto 4, 3) := by decide +kernel
theorem dX8_lift_37 : decode cX8_lift 37 = .ok (.iconst 0, 1) := by decide +kernel
theorem dX8_lift_38 : decode cX8_lift 38 = .ok (.iconst 2, 1) := by decide +kernel
theorem dX8_lift_39 : decode cX8_lift 39 = .ok (.iload_n 2, 1) := by decide +kernel
theorem dX8_lift_40 : decode cX8_lift 40 = .ok (.invokevirtual 112, 3) := by decide +kernel
theorem dX8_lift_43 : decode cX8_lift 43 = .ok (.ifCond .eq 6, 3) := by decide +kernel
theorem dX8_lift_46 : decode cX8_lift 46 = .ok (.bipush (-3), 2) := by decide +kernel
theorem dX8_lift_48 : decode cX8_lift 48 = .ok (.ireturn, 1) := by decide +kernel
theorem dX8_lift_49 : decode cX8_lift 49 = .ok (.iinc 2 1, 3) := by decide +kernel
theorem dX8_lift_52 : decode cX8_lift 52 = .ok (.goto (-40), 3) := by decide +kernel
theorem dX8_lift_55 : decode cX8_lift 55 = .ok (.aload_n 0, 1) := by decide +kernel
theorem dX8_lift_56 : decode cX8_lift 56 = .ok (.invokevirtual 116, 3) := by decide +kernel
theorem dX8_lift_59 : decode cX8_lift 59 = .ok (.iconst 0, 1) := by decide +kernel
theorem dX8_lift_60 : decode cX8_lift 60 = .ok (.istore_n 2, 1) := by decide +kernel
theorem dX8_lift_61 : decode cX8_lift 61 = .ok (.iload_n 2, 1) := by decide +kernel
theorem dX8_lift_62 : decode cX8_lift 62 = .ok (.aload_n 0, 1) := by decide +kernel
theorem dX8_lift_63 : decode cX8_lift 63 = .ok (.iload_n 1, 1) := by decide +kernel
theorem dX8_lift_64 : decode cX8_lift 64 = .ok (.invokevirtual 75, 3) := by decide +kernel
theorem dX8_lift_67 : decode cX8_lift 67 = .ok (.if_icmp .ge 23, 3) := by decide +kernel
theorem dX8_lift_70 : decode cX8_lift 70 = .ok (.aload_n 0, 1) := by decide +kernel
theorem dX8_lift_71 : decode cX8_lift 71 = .ok (.iload_n 1, 1) := by decide +kernel
theorem dX8_lift_72 : decode cX8_lift 72 = .ok (.iload_n 2, 1) := by decide +kernel
theorem dX8_lift_73 : decode cX8_lift 73 = .ok (.aload_n 0, 1) := by decide +kernel
theorem dX8_lift_74 : decode cX8_lift 74 = .ok (.iload_n 1, 1) := by decide +kernel
theorem dX8_lift_75 : decode cX8_lift 75 = .ok (.iload_n 2, 1) := by decide +kernel
theorem dX8_lift_76 : decode cX8_lift 76 = .ok (.invokevirtual 79, 3) := by decide +kernel
theorem dX8_lift_79 : decode cX8_lift 79 = .ok (.iconst 1, 1) := by decide +kernel
theorem dX8_lift_80 : decode cX8_lift 80 = .ok (.iadd, 1) := by decide +kernel
theorem dX8_lift_81 : decode cX8_lift 81 = .ok (.invokevirtual 119, 3) := by decide +kernel
theorem dX8_lift_84 : decode cX8_lift 84 = .ok (.iinc 2 1, 3) := by decide +kernel
theorem dX8_lift_87 : decode cX8_lift 87 = .ok (.goto (-26), 3) := by decide +kernel
theorem dX8_lift_90 : decode cX8_lift 90 = .ok (.aload_n 0, 1) := by decide +kernel
theorem dX8_lift_91 : decode cX8_lift 91 = .ok (.iload_n 1, 1) := by decide +kernel
theorem dX8_lift_92 : decode cX8_lift 92 = .ok (.invokevirtual 103, 3) := by decide +kernel
theorem dX8_lift_95 : decode cX8_lift 95 = .ok (.invokestatic 130, 3) := by decide +kernel
theorem dX8_lift_98 : decode cX8_lift 98 = .ok (.ireturn, 1) := by decide +kernel
theorem dX8_begin_0 : decode cX8_begin 0 = .ok (.iload_n 1, 1) := by decide +kernel
theorem dX8_begin_1 : decode cX8_begin 1 = .ok (.iconst 1, 1) := by decide +kernel
theorem dX8_begin_2 : decode cX8_begin 2 = .ok (.bipush 8, 2) := by decide +kernel
theorem dX8_begin_4 : decode cX8_begin 4 = .ok (.invokestatic 71, 3) := by decide +kernel
theorem dX8_begin_7 : decode cX8_begin 7 = .ok (.ifCond .ne 6, 3) := by decide +kernel
theorem dX8_begin_10 : decode cX8_begin 10 = .ok (.bipush (-2), 2) := by decide +kernel
theorem dX8_begin_12 : decode cX8_begin 12 = .ok (.ireturn, 1) := by decide +kernel
theorem dX8_begin_13 : decode cX8_begin 13 = .ok (.aload_n 0, 1) := by decide +kernel
theorem dX8_begin_14 : decode cX8_begin 14 = .ok (.invokevirtual 116, 3) := by decide +kernel
theorem dX8_begin_17 : decode cX8_begin 17 = .ok (.aload_n 0, 1) := by decide +kernel
theorem dX8_begin_18 : decode cX8_begin 18 = .ok (.getfield 9, 3) := by decide +kernel
theorem dX8_begin_21 : decode cX8_begin 21 = .ok (.iconst 1, 1) := by decide +kernel
theorem dX8_begin_22 : decode cX8_begin 22 = .ok (.iconst 1, 1) := by decide +kernel
theorem dX8_begin_23 : decode cX8_begin 23 = .ok (.iload_n 1, 1) := by decide +kernel
theorem dX8_begin_24 : decode cX8_begin 24 = .ok (.ishl, 1) := by decide +kernel
theorem dX8_begin_25 : decode cX8_begin 25 = .ok (.iconst 1, 1) := by decide +kernel
theorem dX8_begin_26 : decode cX8_begin 26 = .ok (.isub, 1) := by decide +kernel
theorem dX8_begin_27 : decode cX8_begin 27 = .ok (.iastore, 1) := by decide +kernel
theorem dX8_begin_28 : decode cX8_begin 28 = .ok (.aload_n 0, 1) := by decide +kernel
theorem dX8_begin_29 : decode cX8_begin 29 = .ok (.getfield 9, 3) := by decide +kernel
theorem dX8_begin_32 : decode cX8_begin 32 = .ok (.iconst 2, 1) := by decide +kernel
theorem dX8_begin_33 : decode cX8_begin 33 = .ok (.iload_n 1, 1) := by decide +kernel
theorem dX8_begin_34 : decode cX8_begin 34 = .ok (.iastore, 1) := by decide +kernel
theorem dX8_begin_35 : decode cX8_begin 35 = .ok (.aload_n 0, 1) := by decide +kernel
theorem dX8_begin_36 : decode cX8_begin 36 = .ok (.getfield 9, 3) := by decide +kernel
theorem dX8_begin_39 : decode cX8_begin 39 = .ok (.iconst 3, 1) := by decide +kernel
theorem dX8_begin_40 : decode cX8_begin 40 = .ok (.iconst 0, 1) := by decide +kernel
theorem dX8_begin_41 : decode cX8_begin 41 = .ok (.iastore, 1) := by decide +kernel
theorem dX8_begin_42 : decode cX8_begin 42 = .ok (.aload_n 0, 1) := by decide +kernel
theorem dX8_begin_43 : decode cX8_begin 43 = .ok (.getfield 9, 3) := by decide +kernel
theorem dX8_begin_46 : decode cX8_begin 46 = .ok (.bipush 8, 2) := by decide +kernel
theorem dX8_begin_48 : decode cX8_begin 48 = .ok (.dup2, 1) := by decide +kernel
theorem dX8_begin_49 : decode cX8_begin 49 = .ok (.iaload, 1) := by decide +kernel
theorem dX8_begin_50 : decode cX8_begin 50 = .ok (.iconst 1, 1) := by decide +kernel
theorem dX8_begin_51 : decode cX8_begin 51 = .ok (.iadd, 1) := by decide +kernel
theorem dX8_begin_52 : decode cX8_begin 52 = .ok (.iastore, 1) := by decide +kernel
theorem dX8_begin_53 : decode cX8_begin 53 = .ok (.aload_n 0, 1) := by decide +kernel
theorem dX8_begin_54 : decode cX8_begin 54 = .ok (.getfield 9, 3) := by decide +kernel
theorem dX8_begin_57 : decode cX8_begin 57 = .ok (.iconst 1, 1) := by decide +kernel
theorem dX8_begin_58 : decode cX8_begin 58 = .ok (.iaload, 1) := by decide +kernel
theorem dX8_begin_59 : decode cX8_begin 59 = .ok (.ireturn, 1) := by decide +kernel
theorem dX8_makeThrow_0 : decode cX8_makeThrow 0 = .ok (.aload_n 0, 1) := by decide +kernel
theorem dX8_makeThrow_1 : decode cX8_makeThrow 1 = .ok (.getfield 9, 3) := by decide +kernel
theorem dX8_makeThrow_4 : decode cX8_makeThrow 4 = .ok (.iconst 1, 1) := by decide +kernel
theorem dX8_makeThrow_5 : decode cX8_makeThrow 5 = .ok (.aload_n 0, 1) := by decide +kernel
theorem dX8_makeThrow_6 : decode cX8_makeThrow 6 = .ok (.getfield 9, 3) := by decide +kernel
theorem dX8_makeThrow_9 : decode cX8_makeThrow 9 = .ok (.iconst 1, 1) := by decide +kernel
theorem dX8_makeThrow_10 : decode cX8_makeThrow 10 = .ok (.iaload, 1) := by decide +kernel
theorem dX8_makeThrow_11 : decode cX8_makeThrow 11 = .ok (.iload_n 1, 1) := by decide +kernel
theorem dX8_makeThrow_12 : decode cX8_makeThrow 12 = .ok (.invokestatic 89, 3) := by decide +kernel
theorem dX8_makeThrow_15 : decode cX8_makeThrow 15 = .ok (.iastore, 1) := by decide +kernel
theorem dX8_makeThrow_16 : decode cX8_makeThrow 16 = .ok (.aload_n 0, 1) := by decide +kernel
theorem dX8_makeThrow_17 : decode cX8_makeThrow 17 = .ok (.getfield 9, 3) := by decide +kernel
theorem dX8_makeThrow_20 : decode cX8_makeThrow 20 = .ok (.iconst 3, 1) := by decide +kernel
theorem dX8_makeThrow_21 : decode cX8_makeThrow 21 = .ok (.dup2, 1) := by decide +kernel
theorem dX8_makeThrow_22 : decode cX8_makeThrow 22 = .ok (.iaload, 1) := by decide +kernel
theorem dX8_makeThrow_23 : decode cX8_makeThrow 23 = .ok (.iconst 1, 1) := by decide +kernel
theorem dX8_makeThrow_24 : decode cX8_makeThrow 24 = .ok (.iadd, 1) := by decide +kernel
theorem dX8_makeThrow_25 : decode cX8_makeThrow 25 = .ok (.iastore, 1) := by decide +kernel
theorem dX8_makeThrow_26 : decode cX8_makeThrow 26 = .ok (.aload_n 0, 1) := by decide +kernel
theorem dX8_makeThrow_27 : decode cX8_makeThrow 27 = .ok (.getfield 9, 3) := by decide +kernel
theorem dX8_makeThrow_30 : decode cX8_makeThrow 30 = .ok (.iconst 4, 1) := by decide +kernel
theorem dX8_makeThrow_31 : decode cX8_makeThrow 31 = .ok (.dup2, 1) := by decide +kernel
theorem dX8_makeThrow_32 : decode cX8_makeThrow 32 = .ok (.iaload, 1) := by decide +kernel
theorem dX8_makeThrow_33 : decode cX8_makeThrow 33 = .ok (.iconst 1, 1) := by decide +kernel
theorem dX8_makeThrow_34 : decode cX8_makeThrow 34 = .ok (.iadd, 1) := by decide +kernel
theorem dX8_makeThrow_35 : decode cX8_makeThrow 35 = .ok (.iastore, 1) := by decide +kernel
theorem dX8_makeThrow_36 : decode cX8_makeThrow 36 = .ok (.aload_n 0, 1) := by decide +kernel
theorem dX8_makeThrow_37 : decode cX8_makeThrow 37 = .ok (.getfield 9, 3) := by decide +kernel
theorem dX8_makeThrow_40 : decode cX8_makeThrow 40 = .ok (.iconst 5, 1) := by decide +kernel
theorem dX8_makeThrow_41 : decode cX8_makeThrow 41 = .ok (.dup2, 1) := by decide +kernel
theorem dX8_makeThrow_42 : decode cX8_makeThrow 42 = .ok (.iaload, 1) := by decide +kernel
theorem dX8_makeThrow_43 : decode cX8_makeThrow 43 = .ok (.iload_n 1, 1) := by decide +kernel
theorem dX8_makeThrow_44 : decode cX8_makeThrow 44 = .ok (.ifCond .le 7, 3) := by decide +kernel
theorem dX8_makeThrow_47 : decode cX8_makeThrow 47 = .ok (.iconst 1, 1) := by decide +kernel
theorem dX8_makeThrow_48 : decode cX8_makeThrow 48 = .ok (.goto 4, 3) := by decide +kernel
theorem dX8_makeThrow_51 : decode cX8_makeThrow 51 = .ok (.iconst 0, 1) := by decide +kernel
theorem dX8_makeThrow_52 : decode cX8_makeThrow 52 = .ok (.iadd, 1) := by decide +kernel
theorem dX8_makeThrow_53 : decode cX8_makeThrow 53 = .ok (.iastore, 1) := by decide +kernel
theorem dX8_makeThrow_54 : decode cX8_makeThrow 54 = .ok (.aload_n 0, 1) := by decide +kernel
theorem dX8_makeThrow_55 : decode cX8_makeThrow 55 = .ok (.getfield 9, 3) := by decide +kernel
theorem dX8_makeThrow_58 : decode cX8_makeThrow 58 = .ok (.bipush 6, 2) := by decide +kernel
theorem dX8_makeThrow_60 : decode cX8_makeThrow 60 = .ok (.iload_n 1, 1) := by decide +kernel
theorem dX8_makeThrow_61 : decode cX8_makeThrow 61 = .ok (.aload_n 0, 1) := by decide +kernel
theorem dX8_makeThrow_62 : decode cX8_makeThrow 62 = .ok (.getfield 9, 3) := by decide +kernel
theorem dX8_makeThrow_65 : decode cX8_makeThrow 65 = .ok (.bipush 6, 2) := by decide +kernel
theorem dX8_makeThrow_67 : decode cX8_makeThrow 67 = .ok (.iaload, 1) := by decide +kernel
theorem dX8_makeThrow_68 : decode cX8_makeThrow 68 = .ok (.if_icmp .le 7, 3) := by decide +kernel
theorem dX8_makeThrow_71 : decode cX8_makeThrow 71 = .ok (.iload_n 1, 1) := by decide +kernel
theorem dX8_makeThrow_72 : decode cX8_makeThrow 72 = .ok (.goto 10, 3) := by decide +kernel
theorem dX8_makeThrow_75 : decode cX8_makeThrow 75 = .ok (.aload_n 0, 1) := by decide +kernel
theorem dX8_makeThrow_76 : decode cX8_makeThrow 76 = .ok (.getfield 9, 3) := by decide +kernel
theorem dX8_makeThrow_79 : decode cX8_makeThrow 79 = .ok (.bipush 6, 2) := by decide +kernel
theorem dX8_makeThrow_81 : decode cX8_makeThrow 81 = .ok (.iaload, 1) := by decide +kernel
theorem dX8_makeThrow_82 : decode cX8_makeThrow 82 = .ok (.iastore, 1) := by decide +kernel
theorem dX8_makeThrow_83 : decode cX8_makeThrow 83 = .ok (.return_, 1) := by decide +kernel
theorem dX8_toss_0 : decode cX8_toss 0 = .ok (.iload_n 1, 1) := by decide +kernel
theorem dX8_toss_1 : decode cX8_toss 1 = .ok (.iconst 0, 1) := by decide +kernel
theorem dX8_toss_2 : decode cX8_toss 2 = .ok (.bipush 9, 2) := by decide +kernel
theorem dX8_toss_4 : decode cX8_toss 4 = .ok (.invokestatic 71, 3) := by decide +kernel
theorem dX8_toss_7 : decode cX8_toss 7 = .ok (.ifCond .ne 6, 3) := by decide +kernel
theorem dX8_toss_10 : decode cX8_toss 10 = .ok (.bipush (-2), 2) := by decide +kernel
theorem dX8_toss_12 : decode cX8_toss 12 = .ok (.ireturn, 1) := by decide +kernel
theorem dX8_toss_13 : decode cX8_toss 13 = .ok (.aload_n 0, 1) := by decide +kernel
theorem dX8_toss_14 : decode cX8_toss 14 = .ok (.aload_n 0, 1) := by decide +kernel
theorem dX8_toss_15 : decode cX8_toss 15 = .ok (.getfield 9, 3) := by decide +kernel
theorem dX8_toss_18 : decode cX8_toss 18 = .ok (.iconst 2, 1) := by decide +kernel
theorem dX8_toss_19 : decode cX8_toss 19 = .ok (.iaload, 1) := by decide +kernel
theorem dX8_toss_20 : decode cX8_toss 20 = .ok (.ifCond .ne 7, 3) := by decide +kernel
theorem dX8_toss_23 : decode cX8_toss 23 = .ok (.iconst 1, 1) := by decide +kernel
theorem dX8_toss_24 : decode cX8_toss 24 = .ok (.goto 4, 3) := by decide +kernel
theorem dX8_toss_27 : decode cX8_toss 27 = .ok (.iconst 0, 1) := by decide +kernel
theorem dX8_toss_28 : decode cX8_toss 28 = .ok (.bipush 6, 2) := by decide +kernel
theorem dX8_toss_30 : decode cX8_toss 30 = .ok (.aload_n 0, 1) := by decide +kernel
theorem dX8_toss_31 : decode cX8_toss 31 = .ok (.getfield 9, 3) := by decide +kernel
theorem dX8_toss_34 : decode cX8_toss 34 = .ok (.iconst 3, 1) := by decide +kernel
theorem dX8_toss_35 : decode cX8_toss 35 = .ok (.iaload, 1) := by decide +kernel
theorem dX8_toss_36 : decode cX8_toss 36 = .ok (.invokevirtual 112, 3) := by decide +kernel
theorem dX8_toss_39 : decode cX8_toss 39 = .ok (.ifCond .ne 35, 3) := by decide +kernel
theorem dX8_toss_42 : decode cX8_toss 42 = .ok (.aload_n 0, 1) := by decide +kernel
theorem dX8_toss_43 : decode cX8_toss 43 = .ok (.aload_n 0, 1) := by decide +kernel
theorem dX8_toss_44 : decode cX8_toss 44 = .ok (.getfield 9, 3) := by decide +kernel
theorem dX8_toss_47 : decode cX8_toss 47 = .ok (.iconst 1, 1) := by decide +kernel
theorem dX8_toss_48 : decode cX8_toss 48 = .ok (.iaload, 1) := by decide +kernel
theorem dX8_toss_49 : decode cX8_toss 49 = .ok (.iload_n 1, 1) := by decide +kernel
theorem dX8_toss_50 : decode cX8_toss 50 = .ok (.invokestatic 92, 3) := by decide +kernel
theorem dX8_toss_53 : decode cX8_toss 53 = .ok (.ifCond .ne 7, 3) := by decide +kernel
theorem dX8_toss_56 : decode cX8_toss 56 = .ok (.iconst 1, 1) := by decide +kernel
theorem dX8_toss_57 : decode cX8_toss 57 = .ok (.goto 4, 3) := by decide +kernel
theorem dX8_toss_60 : decode cX8_toss 60 = .ok (.iconst 0, 1) := by decide +kernel
theorem dX8_toss_61 : decode cX8_toss 61 = .ok (.iconst 4, 1) := by decide +kernel
theorem dX8_toss_62 : decode cX8_toss 62 = .ok (.aload_n 0, 1) := by decide +kernel
theorem dX8_toss_63 : decode cX8_toss 63 = .ok (.getfield 9, 3) := by decide +kernel
theorem dX8_toss_66 : decode cX8_toss 66 = .ok (.iconst 1, 1) := by decide +kernel
theorem dX8_toss_67 : decode cX8_toss 67 = .ok (.iaload, 1) := by decide +kernel
theorem dX8_toss_68 : decode cX8_toss 68 = .ok (.invokevirtual 112, 3) := by decide +kernel
theorem dX8_toss_71 : decode cX8_toss 71 = .ok (.ifCond .eq 6, 3) := by decide +kernel
theorem dX8_toss_74 : decode cX8_toss 74 = .ok (.bipush (-3), 2) := by decide +kernel
theorem dX8_toss_76 : decode cX8_toss 76 = .ok (.ireturn, 1) := by decide +kernel
theorem dX8_toss_77 : decode cX8_toss 77 = .ok (.aload_n 0, 1) := by decide +kernel
theorem dX8_toss_78 : decode cX8_toss 78 = .ok (.invokevirtual 116, 3) := by decide +kernel
theorem dX8_toss_81 : decode cX8_toss 81 = .ok (.aload_n 0, 1) := by decide +kernel
theorem dX8_toss_82 : decode cX8_toss 82 = .ok (.iload_n 1, 1) := by decide +kernel
theorem dX8_toss_83 : decode cX8_toss 83 = .ok (.invokevirtual 133, 3) := by decide +kernel
theorem dX8_toss_86 : decode cX8_toss 86 = .ok (.aload_n 0, 1) := by decide +kernel
theorem dX8_toss_87 : decode cX8_toss 87 = .ok (.getfield 9, 3) := by decide +kernel
theorem dX8_toss_90 : decode cX8_toss 90 = .ok (.iconst 3, 1) := by decide +kernel
theorem dX8_toss_91 : decode cX8_toss 91 = .ok (.iaload, 1) := by decide +kernel
theorem dX8_toss_92 : decode cX8_toss 92 = .ok (.iconst 1, 1) := by decide +kernel
theorem dX8_toss_93 : decode cX8_toss 93 = .ok (.iadd, 1) := by decide +kernel
theorem dX8_toss_94 : decode cX8_toss 94 = .ok (.iconst 2, 1) := by decide +kernel
theorem dX8_toss_95 : decode cX8_toss 95 = .ok (.irem, 1) := by decide +kernel
theorem dX8_toss_96 : decode cX8_toss 96 = .ok (.ireturn, 1) := by decide +kernel
theorem dX8_isNotFor_0 : decode cX8_isNotFor 0 = .ok (.aload_n 0, 1) := by decide +kernel
theorem dX8_isNotFor_1 : decode cX8_isNotFor 1 = .ok (.aload_n 0, 1) := by decide +kernel
theorem dX8_isNotFor_2 : decode cX8_isNotFor 2 = .ok (.getfield 9, 3) := by decide +kernel
theorem dX8_isNotFor_5 : decode cX8_isNotFor 5 = .ok (.iconst 2, 1) := by decide +kernel
theorem dX8_isNotFor_6 : decode cX8_isNotFor 6 = .ok (.iaload, 1) := by decide +kernel
theorem dX8_isNotFor_7 : decode cX8_isNotFor 7 = .ok (.ifCond .ne 7, 3) := by decide +kernel
theorem dX8_isNotFor_10 : decode cX8_isNotFor 10 = .ok (.iconst 1, 1) := by decide +kernel
theorem dX8_isNotFor_11 : decode cX8_isNotFor 11 = .ok (.goto 4, 3) := by decide +kernel
theorem dX8_isNotFor_14 : decode cX8_isNotFor 14 = .ok (.iconst 0, 1) := by decide +kernel
theorem dX8_isNotFor_15 : decode cX8_isNotFor 15 = .ok (.bipush 6, 2) := by decide +kernel
theorem dX8_isNotFor_17 : decode cX8_isNotFor 17 = .ok (.aload_n 0, 1) := by decide +kernel
theorem dX8_isNotFor_18 : decode cX8_isNotFor 18 = .ok (.getfield 9, 3) := by decide +kernel
theorem dX8_isNotFor_21 : decode cX8_isNotFor 21 = .ok (.iconst 3, 1) := by decide +kernel
theorem dX8_isNotFor_22 : decode cX8_isNotFor 22 = .ok (.iaload, 1) := by decide +kernel
theorem dX8_isNotFor_23 : decode cX8_isNotFor 23 = .ok (.invokevirtual 112, 3) := by decide +kernel
theorem dX8_isNotFor_26 : decode cX8_isNotFor 26 = .ok (.ifCond .ne 61, 3) := by decide +kernel
theorem dX8_isNotFor_29 : decode cX8_isNotFor 29 = .ok (.aload_n 0, 1) := by decide +kernel
theorem dX8_isNotFor_30 : decode cX8_isNotFor 30 = .ok (.aload_n 0, 1) := by decide +kernel
theorem dX8_isNotFor_31 : decode cX8_isNotFor 31 = .ok (.iload_n 1, 1) := by decide +kernel
theorem dX8_isNotFor_32 : decode cX8_isNotFor 32 = .ok (.invokevirtual 83, 3) := by decide +kernel
theorem dX8_isNotFor_35 : decode cX8_isNotFor 35 = .ok (.ifCond .lt 7, 3) := by decide +kernel
theorem dX8_isNotFor_38 : decode cX8_isNotFor 38 = .ok (.iconst 1, 1) := by decide +kernel
theorem dX8_isNotFor_39 : decode cX8_isNotFor 39 = .ok (.goto 4, 3) := by decide +kernel
theorem dX8_isNotFor_42 : decode cX8_isNotFor 42 = .ok (.iconst 0, 1) := by decide +kernel
theorem dX8_isNotFor_43 : decode cX8_isNotFor 43 = .ok (.iconst 3, 1) := by decide +kernel
theorem dX8_isNotFor_44 : decode cX8_isNotFor 44 = .ok (.aload_n 0, 1) := by decide +kernel
theorem dX8_isNotFor_45 : decode cX8_isNotFor 45 = .ok (.iload_n 1, 1) := by decide +kernel
theorem dX8_isNotFor_46 : decode cX8_isNotFor 46 = .ok (.invokevirtual 83, 3) := by decide +kernel
theorem dX8_isNotFor_49 : decode cX8_isNotFor 49 = .ok (.invokevirtual 112, 3) := by decide +kernel
theorem dX8_isNotFor_52 : decode cX8_isNotFor 52 = .ok (.ifCond .ne 35, 3) := by decide +kernel
theorem dX8_isNotFor_55 : decode cX8_isNotFor 55 = .ok (.aload_n 0, 1) := by decide +kernel
theorem dX8_isNotFor_56 : decode cX8_isNotFor 56 = .ok (.aload_n 0, 1) := by decide +kernel
theorem dX8_isNotFor_57 : decode cX8_isNotFor 57 = .ok (.iload_n 1, 1) := by decide +kernel
theorem dX8_isNotFor_58 : decode cX8_isNotFor 58 = .ok (.invokevirtual 103, 3) := by decide +kernel
theorem dX8_isNotFor_61 : decode cX8_isNotFor 61 = .ok (.aload_n 0, 1) := by decide +kernel
theorem dX8_isNotFor_62 : decode cX8_isNotFor 62 = .ok (.getfield 9, 3) := by decide +kernel
theorem dX8_isNotFor_65 : decode cX8_isNotFor 65 = .ok (.iconst 2, 1) := by decide +kernel
theorem dX8_isNotFor_66 : decode cX8_isNotFor 66 = .ok (.iaload, 1) := by decide +kernel
theorem dX8_isNotFor_67 : decode cX8_isNotFor 67 = .ok (.if_icmp .eq 7, 3) := by decide +kernel
theorem dX8_isNotFor_70 : decode cX8_isNotFor 70 = .ok (.iconst 1, 1) := by decide +kernel
theorem dX8_isNotFor_71 : decode cX8_isNotFor 71 = .ok (.goto 4, 3) := by decide +kernel
theorem dX8_isNotFor_74 : decode cX8_isNotFor 74 = .ok (.iconst 0, 1) := by decide +kernel
theorem dX8_isNotFor_75 : decode cX8_isNotFor 75 = .ok (.iconst 5, 1) := by decide +kernel
theorem dX8_isNotFor_76 : decode cX8_isNotFor 76 = .ok (.aload_n 0, 1) := by decide +kernel
theorem dX8_isNotFor_77 : decode cX8_isNotFor 77 = .ok (.iload_n 1, 1) := by decide +kernel
theorem dX8_isNotFor_78 : decode cX8_isNotFor 78 = .ok (.invokevirtual 103, 3) := by decide +kernel
theorem dX8_isNotFor_81 : decode cX8_isNotFor 81 = .ok (.invokevirtual 112, 3) := by decide +kernel
theorem dX8_isNotFor_84 : decode cX8_isNotFor 84 = .ok (.ifCond .eq 7, 3) := by decide +kernel
theorem dX8_isNotFor_87 : decode cX8_isNotFor 87 = .ok (.iconst 1, 1) := by decide +kernel
theorem dX8_isNotFor_88 : decode cX8_isNotFor 88 = .ok (.goto 4, 3) := by decide +kernel
theorem dX8_isNotFor_91 : decode cX8_isNotFor 91 = .ok (.iconst 0, 1) := by decide +kernel
theorem dX8_isNotFor_92 : decode cX8_isNotFor 92 = .ok (.ireturn, 1) := by decide +kernel
theorem dX8_join_0 : decode cX8_join 0 = .ok (.aload_n 0, 1) := by decide +kernel
theorem dX8_join_1 : decode cX8_join 1 = .ok (.iload_n 1, 1) := by decide +kernel
theorem dX8_join_2 : decode cX8_join 2 = .ok (.invokevirtual 123, 3) := by decide +kernel
theorem dX8_join_5 : decode cX8_join 5 = .ok (.ifCond .ne 5, 3) := by decide +kernel
theorem dX8_join_8 : decode cX8_join 8 = .ok (.iconst (-1), 1) := by decide +kernel
theorem dX8_join_9 : decode cX8_join 9 = .ok (.ireturn, 1) := by decide +kernel
theorem dX8_join_10 : decode cX8_join 10 = .ok (.aload_n 0, 1) := by decide +kernel
theorem dX8_join_11 : decode cX8_join 11 = .ok (.iload_n 1, 1) := by decide +kernel
theorem dX8_join_12 : decode cX8_join 12 = .ok (.invokevirtual 136, 3) := by decide +kernel
theorem dX8_join_15 : decode cX8_join 15 = .ok (.ifCond .eq 6, 3) := by decide +kernel
theorem dX8_join_18 : decode cX8_join 18 = .ok (.bipush (-3), 2) := by decide +kernel
theorem dX8_join_20 : decode cX8_join 20 = .ok (.ireturn, 1) := by decide +kernel
theorem dX8_join_21 : decode cX8_join 21 = .ok (.aload_n 0, 1) := by decide +kernel
theorem dX8_join_22 : decode cX8_join 22 = .ok (.invokevirtual 116, 3) := by decide +kernel
theorem dX8_join_25 : decode cX8_join 25 = .ok (.aload_n 0, 1) := by decide +kernel
theorem dX8_join_26 : decode cX8_join 26 = .ok (.iload_n 1, 1) := by decide +kernel
theorem dX8_join_27 : decode cX8_join 27 = .ok (.invokevirtual 139, 3) := by decide +kernel
theorem dX8_join_30 : decode cX8_join 30 = .ok (.pop, 1) := by decide +kernel
theorem dX8_join_31 : decode cX8_join 31 = .ok (.iconst 0, 1) := by decide +kernel
theorem dX8_join_32 : decode cX8_join 32 = .ok (.istore_n 2, 1) := by decide +kernel
theorem dX8_join_33 : decode cX8_join 33 = .ok (.iload_n 2, 1) := by decide +kernel
theorem dX8_join_34 : decode cX8_join 34 = .ok (.aload_n 0, 1) := by decide +kernel
theorem dX8_join_35 : decode cX8_join 35 = .ok (.getfield 100, 3) := by decide +kernel
theorem dX8_join_38 : decode cX8_join 38 = .ok (.if_icmp .ge 19, 3) := by decide +kernel
theorem dX8_join_41 : decode cX8_join 41 = .ok (.aload_n 0, 1) := by decide +kernel
theorem dX8_join_42 : decode cX8_join 42 = .ok (.aload_n 0, 1) := by decide +kernel
theorem dX8_join_43 : decode cX8_join 43 = .ok (.getfield 37, 3) := by decide +kernel
theorem dX8_join_46 : decode cX8_join 46 = .ok (.iload_n 2, 1) := by decide +kernel
theorem dX8_join_47 : decode cX8_join 47 = .ok (.iaload, 1) := by decide +kernel
theorem dX8_join_48 : decode cX8_join 48 = .ok (.invokevirtual 133, 3) := by decide +kernel
theorem dX8_join_51 : decode cX8_join 51 = .ok (.iinc 2 1, 3) := by decide +kernel
theorem dX8_join_54 : decode cX8_join 54 = .ok (.goto (-21), 3) := by decide +kernel
theorem dX8_join_57 : decode cX8_join 57 = .ok (.aload_n 0, 1) := by decide +kernel
theorem dX8_join_58 : decode cX8_join 58 = .ok (.getfield 9, 3) := by decide +kernel
theorem dX8_join_61 : decode cX8_join 61 = .ok (.bipush 7, 2) := by decide +kernel
theorem dX8_join_63 : decode cX8_join 63 = .ok (.dup2, 1) := by decide +kernel
theorem dX8_join_64 : decode cX8_join 64 = .ok (.iaload, 1) := by decide +kernel
theorem dX8_join_65 : decode cX8_join 65 = .ok (.iconst 1, 1) := by decide +kernel
theorem dX8_join_66 : decode cX8_join 66 = .ok (.iadd, 1) := by decide +kernel
theorem dX8_join_67 : decode cX8_join 67 = .ok (.iastore, 1) := by decide +kernel
theorem dX8_join_68 : decode cX8_join 68 = .ok (.aload_n 0, 1) := by decide +kernel
theorem dX8_join_69 : decode cX8_join 69 = .ok (.getfield 100, 3) := by decide +kernel
theorem dX8_join_72 : decode cX8_join 72 = .ok (.ireturn, 1) := by decide +kernel
theorem dX8_once_0 : decode cX8_once 0 = .ok (.aload_n 0, 1) := by decide +kernel
theorem dX8_once_1 : decode cX8_once 1 = .ok (.iload_n 1, 1) := by decide +kernel
theorem dX8_once_2 : decode cX8_once 2 = .ok (.invokevirtual 123, 3) := by decide +kernel
theorem dX8_once_5 : decode cX8_once 5 = .ok (.ifCond .ne 5, 3) := by decide +kernel
theorem dX8_once_8 : decode cX8_once 8 = .ok (.iconst (-1), 1) := by decide +kernel
theorem dX8_once_9 : decode cX8_once 9 = .ok (.ireturn, 1) := by decide +kernel
theorem dX8_once_10 : decode cX8_once 10 = .ok (.aload_n 0, 1) := by decide +kernel
theorem dX8_once_11 : decode cX8_once 11 = .ok (.iload_n 1, 1) := by decide +kernel
theorem dX8_once_12 : decode cX8_once 12 = .ok (.invokevirtual 136, 3) := by decide +kernel
theorem dX8_once_15 : decode cX8_once 15 = .ok (.ifCond .ne 37, 3) := by decide +kernel
theorem dX8_once_18 : decode cX8_once 18 = .ok (.aload_n 0, 1) := by decide +kernel
theorem dX8_once_19 : decode cX8_once 19 = .ok (.aload_n 0, 1) := by decide +kernel
theorem dX8_once_20 : decode cX8_once 20 = .ok (.getfield 9, 3) := by decide +kernel
theorem dX8_once_23 : decode cX8_once 23 = .ok (.iconst 1, 1) := by decide +kernel
theorem dX8_once_24 : decode cX8_once 24 = .ok (.iaload, 1) := by decide +kernel
theorem dX8_once_25 : decode cX8_once 25 = .ok (.aload_n 0, 1) := by decide +kernel
theorem dX8_once_26 : decode cX8_once 26 = .ok (.iload_n 1, 1) := by decide +kernel
theorem dX8_once_27 : decode cX8_once 27 = .ok (.iconst 0, 1) := by decide +kernel
theorem dX8_once_28 : decode cX8_once 28 = .ok (.invokevirtual 106, 3) := by decide +kernel
theorem dX8_once_31 : decode cX8_once 31 = .ok (.if_icmp .eq 7, 3) := by decide +kernel
theorem dX8_once_34 : decode cX8_once 34 = .ok (.iconst 1, 1) := by decide +kernel
theorem dX8_once_35 : decode cX8_once 35 = .ok (.goto 4, 3) := by decide +kernel
theorem dX8_once_38 : decode cX8_once 38 = .ok (.iconst 0, 1) := by decide +kernel
theorem dX8_once_39 : decode cX8_once 39 = .ok (.iconst 4, 1) := by decide +kernel
theorem dX8_once_40 : decode cX8_once 40 = .ok (.aload_n 0, 1) := by decide +kernel
theorem dX8_once_41 : decode cX8_once 41 = .ok (.getfield 9, 3) := by decide +kernel
theorem dX8_once_44 : decode cX8_once 44 = .ok (.iconst 1, 1) := by decide +kernel
theorem dX8_once_45 : decode cX8_once 45 = .ok (.iaload, 1) := by decide +kernel
theorem dX8_once_46 : decode cX8_once 46 = .ok (.invokevirtual 112, 3) := by decide +kernel
theorem dX8_once_49 : decode cX8_once 49 = .ok (.ifCond .eq 6, 3) := by decide +kernel
theorem dX8_once_52 : decode cX8_once 52 = .ok (.bipush (-3), 2) := by decide +kernel
theorem dX8_once_54 : decode cX8_once 54 = .ok (.ireturn, 1) := by decide +kernel
theorem dX8_once_55 : decode cX8_once 55 = .ok (.aload_n 0, 1) := by decide +kernel
theorem dX8_once_56 : decode cX8_once 56 = .ok (.invokevirtual 116, 3) := by decide +kernel
theorem dX8_once_59 : decode cX8_once 59 = .ok (.iconst 0, 1) := by decide +kernel
theorem dX8_once_60 : decode cX8_once 60 = .ok (.istore_n 2, 1) := by decide +kernel
theorem dX8_once_61 : decode cX8_once 61 = .ok (.iload_n 2, 1) := by decide +kernel
theorem dX8_once_62 : decode cX8_once 62 = .ok (.aload_n 0, 1) := by decide +kernel
theorem dX8_once_63 : decode cX8_once 63 = .ok (.iload_n 1, 1) := by decide +kernel
theorem dX8_once_64 : decode cX8_once 64 = .ok (.invokevirtual 75, 3) := by decide +kernel
theorem dX8_once_67 : decode cX8_once 67 = .ok (.if_icmp .ge 19, 3) := by decide +kernel
theorem dX8_once_70 : decode cX8_once 70 = .ok (.aload_n 0, 1) := by decide +kernel
theorem dX8_once_71 : decode cX8_once 71 = .ok (.aload_n 0, 1) := by decide +kernel
theorem dX8_once_72 : decode cX8_once 72 = .ok (.iload_n 1, 1) := by decide +kernel
theorem dX8_once_73 : decode cX8_once 73 = .ok (.iload_n 2, 1) := by decide +kernel
theorem dX8_once_74 : decode cX8_once 74 = .ok (.invokevirtual 79, 3) := by decide +kernel
theorem dX8_once_77 : decode cX8_once 77 = .ok (.invokevirtual 133, 3) := by decide +kernel
theorem dX8_once_80 : decode cX8_once 80 = .ok (.iinc 2 1, 3) := by decide +kernel
theorem dX8_once_83 : decode cX8_once 83 = .ok (.goto (-22), 3) := by decide +kernel
theorem dX8_once_86 : decode cX8_once 86 = .ok (.aload_n 0, 1) := by decide +kernel
theorem dX8_once_87 : decode cX8_once 87 = .ok (.iload_n 1, 1) := by decide +kernel
theorem dX8_once_88 : decode cX8_once 88 = .ok (.invokevirtual 75, 3) := by decide +kernel
theorem dX8_once_91 : decode cX8_once 91 = .ok (.ireturn, 1) := by decide +kernel
theorem dX8_repeatsBy_0 : decode cX8_repeatsBy 0 = .ok (.aload_n 0, 1) := by decide +kernel
theorem dX8_repeatsBy_1 : decode cX8_repeatsBy 1 = .ok (.iload_n 1, 1) := by decide +kernel
theorem dX8_repeatsBy_2 : decode cX8_repeatsBy 2 = .ok (.invokevirtual 75, 3) := by decide +kernel
theorem dX8_repeatsBy_5 : decode cX8_repeatsBy 5 = .ok (.istore_n 3, 1) := by decide +kernel
theorem dX8_repeatsBy_6 : decode cX8_repeatsBy 6 = .ok (.iload_n 3, 1) := by decide +kernel
theorem dX8_repeatsBy_7 : decode cX8_repeatsBy 7 = .ok (.iload_n 2, 1) := by decide +kernel
theorem dX8_repeatsBy_8 : decode cX8_repeatsBy 8 = .ok (.irem, 1) := by decide +kernel
theorem dX8_repeatsBy_9 : decode cX8_repeatsBy 9 = .ok (.ifCond .ne 7, 3) := by decide +kernel
theorem dX8_repeatsBy_12 : decode cX8_repeatsBy 12 = .ok (.iconst 1, 1) := by decide +kernel
theorem dX8_repeatsBy_13 : decode cX8_repeatsBy 13 = .ok (.goto 4, 3) := by decide +kernel
theorem dX8_repeatsBy_16 : decode cX8_repeatsBy 16 = .ok (.iconst 0, 1) := by decide +kernel
theorem dX8_repeatsBy_17 : decode cX8_repeatsBy 17 = .ok (.istore 4, 2) := by decide +kernel
theorem dX8_repeatsBy_19 : decode cX8_repeatsBy 19 = .ok (.iconst 0, 1) := by decide +kernel
theorem dX8_repeatsBy_20 : decode cX8_repeatsBy 20 = .ok (.istore 5, 2) := by decide +kernel
theorem dX8_repeatsBy_22 : decode cX8_repeatsBy 22 = .ok (.iload 5, 2) := by decide +kernel
theorem dX8_repeatsBy_24 : decode cX8_repeatsBy 24 = .ok (.iload_n 3, 1) := by decide +kernel
theorem dX8_repeatsBy_25 : decode cX8_repeatsBy 25 = .ok (.if_icmp .ge 40, 3) := by decide +kernel
theorem dX8_repeatsBy_28 : decode cX8_repeatsBy 28 = .ok (.iload 4, 2) := by decide +kernel
theorem dX8_repeatsBy_30 : decode cX8_repeatsBy 30 = .ok (.aload_n 0, 1) := by decide +kernel
theorem dX8_repeatsBy_31 : decode cX8_repeatsBy 31 = .ok (.iload_n 1, 1) := by decide +kernel
theorem dX8_repeatsBy_32 : decode cX8_repeatsBy 32 = .ok (.iload 5, 2) := by decide +kernel
theorem dX8_repeatsBy_34 : decode cX8_repeatsBy 34 = .ok (.invokevirtual 79, 3) := by decide +kernel
theorem dX8_repeatsBy_37 : decode cX8_repeatsBy 37 = .ok (.aload_n 0, 1) := by decide +kernel
theorem dX8_repeatsBy_38 : decode cX8_repeatsBy 38 = .ok (.iload_n 1, 1) := by decide +kernel
theorem dX8_repeatsBy_39 : decode cX8_repeatsBy 39 = .ok (.iload 5, 2) := by decide +kernel
theorem dX8_repeatsBy_41 : decode cX8_repeatsBy 41 = .ok (.iload_n 2, 1) := by decide +kernel
theorem dX8_repeatsBy_42 : decode cX8_repeatsBy 42 = .ok (.iadd, 1) := by decide +kernel
theorem dX8_repeatsBy_43 : decode cX8_repeatsBy 43 = .ok (.iload_n 3, 1) := by decide +kernel
theorem dX8_repeatsBy_44 : decode cX8_repeatsBy 44 = .ok (.irem, 1) := by decide +kernel
theorem dX8_repeatsBy_45 : decode cX8_repeatsBy 45 = .ok (.invokevirtual 79, 3) := by decide +kernel
theorem dX8_repeatsBy_48 : decode cX8_repeatsBy 48 = .ok (.if_icmp .ne 7, 3) := by decide +kernel
theorem dX8_repeatsBy_51 : decode cX8_repeatsBy 51 = .ok (.iconst 1, 1) := by decide +kernel
theorem dX8_repeatsBy_52 : decode cX8_repeatsBy 52 = .ok (.goto 4, 3) := by decide +kernel
theorem dX8_repeatsBy_55 : decode cX8_repeatsBy 55 = .ok (.iconst 0, 1) := by decide +kernel
theorem dX8_repeatsBy_56 : decode cX8_repeatsBy 56 = .ok (.iand, 1) := by decide +kernel
theorem dX8_repeatsBy_57 : decode cX8_repeatsBy 57 = .ok (.istore 4, 2) := by decide +kernel
theorem dX8_repeatsBy_59 : decode cX8_repeatsBy 59 = .ok (.iinc 5 1, 3) := by decide +kernel
theorem dX8_repeatsBy_62 : decode cX8_repeatsBy 62 = .ok (.goto (-40), 3) := by decide +kernel
theorem dX8_repeatsBy_65 : decode cX8_repeatsBy 65 = .ok (.iload 4, 2) := by decide +kernel
theorem dX8_repeatsBy_67 : decode cX8_repeatsBy 67 = .ok (.ireturn, 1) := by decide +kernel
theorem dX8_periodOf_0 : decode cX8_periodOf 0 = .ok (.iconst 1, 1) := by decide +kernel
theorem dX8_periodOf_1 : decode cX8_periodOf 1 = .ok (.istore_n 2, 1) := by decide +kernel
theorem dX8_periodOf_2 : decode cX8_periodOf 2 = .ok (.aload_n 0, 1) := by decide +kernel
theorem dX8_periodOf_3 : decode cX8_periodOf 3 = .ok (.iload_n 1, 1) := by decide +kernel
theorem dX8_periodOf_4 : decode cX8_periodOf 4 = .ok (.iload_n 2, 1) := by decide +kernel
theorem dX8_periodOf_5 : decode cX8_periodOf 5 = .ok (.invokevirtual 142, 3) := by decide +kernel
theorem dX8_periodOf_8 : decode cX8_periodOf 8 = .ok (.ifCond .ne 9, 3) := by decide +kernel
theorem dX8_periodOf_11 : decode cX8_periodOf 11 = .ok (.iinc 2 1, 3) := by decide +kernel
theorem dX8_periodOf_14 : decode cX8_periodOf 14 = .ok (.goto (-12), 3) := by decide +kernel
theorem dX8_periodOf_17 : decode cX8_periodOf 17 = .ok (.iload_n 2, 1) := by decide +kernel
theorem dX8_periodOf_18 : decode cX8_periodOf 18 = .ok (.ireturn, 1) := by decide +kernel
theorem dX8_greatestOf_0 : decode cX8_greatestOf 0 = .ok (.iconst 0, 1) := by decide +kernel
theorem dX8_greatestOf_1 : decode cX8_greatestOf 1 = .ok (.istore_n 2, 1) := by decide +kernel
theorem dX8_greatestOf_2 : decode cX8_greatestOf 2 = .ok (.iconst 0, 1) := by decide +kernel
theorem dX8_greatestOf_3 : decode cX8_greatestOf 3 = .ok (.istore_n 3, 1) := by decide +kernel
theorem dX8_greatestOf_4 : decode cX8_greatestOf 4 = .ok (.iload_n 3, 1) := by decide +kernel
theorem dX8_greatestOf_5 : decode cX8_greatestOf 5 = .ok (.aload_n 0, 1) := by decide +kernel
theorem dX8_greatestOf_6 : decode cX8_greatestOf 6 = .ok (.iload_n 1, 1) := by decide +kernel
theorem dX8_greatestOf_7 : decode cX8_greatestOf 7 = .ok (.invokevirtual 75, 3) := by decide +kernel
theorem dX8_greatestOf_10 : decode cX8_greatestOf 10 = .ok (.if_icmp .ge 30, 3) := by decide +kernel
theorem dX8_greatestOf_13 : decode cX8_greatestOf 13 = .ok (.aload_n 0, 1) := by decide +kernel
theorem dX8_greatestOf_14 : decode cX8_greatestOf 14 = .ok (.iload_n 1, 1) := by decide +kernel
theorem dX8_greatestOf_15 : decode cX8_greatestOf 15 = .ok (.iload_n 3, 1) := by decide +kernel
theorem dX8_greatestOf_16 : decode cX8_greatestOf 16 = .ok (.invokevirtual 79, 3) := by decide +kernel
theorem dX8_greatestOf_19 : decode cX8_greatestOf 19 = .ok (.iload_n 2, 1) := by decide +kernel
theorem dX8_greatestOf_20 : decode cX8_greatestOf 20 = .ok (.if_icmp .le 12, 3) := by decide +kernel
theorem dX8_greatestOf_23 : decode cX8_greatestOf 23 = .ok (.aload_n 0, 1) := by decide +kernel
theorem dX8_greatestOf_24 : decode cX8_greatestOf 24 = .ok (.iload_n 1, 1) := by decide +kernel
theorem dX8_greatestOf_25 : decode cX8_greatestOf 25 = .ok (.iload_n 3, 1) := by decide +kernel
theorem dX8_greatestOf_26 : decode cX8_greatestOf 26 = .ok (.invokevirtual 79, 3) := by decide +kernel
theorem dX8_greatestOf_29 : decode cX8_greatestOf 29 = .ok (.goto 4, 3) := by decide +kernel
theorem dX8_greatestOf_32 : decode cX8_greatestOf 32 = .ok (.iload_n 2, 1) := by decide +kernel
theorem dX8_greatestOf_33 : decode cX8_greatestOf 33 = .ok (.istore_n 2, 1) := by decide +kernel
theorem dX8_greatestOf_34 : decode cX8_greatestOf 34 = .ok (.iinc 3 1, 3) := by decide +kernel
theorem dX8_greatestOf_37 : decode cX8_greatestOf 37 = .ok (.goto (-33), 3) := by decide +kernel
theorem dX8_greatestOf_40 : decode cX8_greatestOf 40 = .ok (.iload_n 2, 1) := by decide +kernel
theorem dX8_greatestOf_41 : decode cX8_greatestOf 41 = .ok (.ireturn, 1) := by decide +kernel
theorem dX8_oddOf_0 : decode cX8_oddOf 0 = .ok (.iconst 0, 1) := by decide +kernel
theorem dX8_oddOf_1 : decode cX8_oddOf 1 = .ok (.istore_n 2, 1) := by decide +kernel
theorem dX8_oddOf_2 : decode cX8_oddOf 2 = .ok (.iconst 0, 1) := by decide +kernel
theorem dX8_oddOf_3 : decode cX8_oddOf 3 = .ok (.istore_n 3, 1) := by decide +kernel
theorem dX8_oddOf_4 : decode cX8_oddOf 4 = .ok (.iload_n 3, 1) := by decide +kernel
theorem dX8_oddOf_5 : decode cX8_oddOf 5 = .ok (.aload_n 0, 1) := by decide +kernel
theorem dX8_oddOf_6 : decode cX8_oddOf 6 = .ok (.iload_n 1, 1) := by decide +kernel
theorem dX8_oddOf_7 : decode cX8_oddOf 7 = .ok (.invokevirtual 75, 3) := by decide +kernel
theorem dX8_oddOf_10 : decode cX8_oddOf 10 = .ok (.if_icmp .ge 20, 3) := by decide +kernel
theorem dX8_oddOf_13 : decode cX8_oddOf 13 = .ok (.iload_n 2, 1) := by decide +kernel
theorem dX8_oddOf_14 : decode cX8_oddOf 14 = .ok (.aload_n 0, 1) := by decide +kernel
theorem dX8_oddOf_15 : decode cX8_oddOf 15 = .ok (.iload_n 1, 1) := by decide +kernel
theorem dX8_oddOf_16 : decode cX8_oddOf 16 = .ok (.iload_n 3, 1) := by decide +kernel
theorem dX8_oddOf_17 : decode cX8_oddOf 17 = .ok (.invokevirtual 79, 3) := by decide +kernel
theorem dX8_oddOf_20 : decode cX8_oddOf 20 = .ok (.iconst 2, 1) := by decide +kernel
theorem dX8_oddOf_21 : decode cX8_oddOf 21 = .ok (.irem, 1) := by decide +kernel
theorem dX8_oddOf_22 : decode cX8_oddOf 22 = .ok (.iadd, 1) := by decide +kernel
theorem dX8_oddOf_23 : decode cX8_oddOf 23 = .ok (.istore_n 2, 1) := by decide +kernel
theorem dX8_oddOf_24 : decode cX8_oddOf 24 = .ok (.iinc 3 1, 3) := by decide +kernel
theorem dX8_oddOf_27 : decode cX8_oddOf 27 = .ok (.goto (-23), 3) := by decide +kernel
theorem dX8_oddOf_30 : decode cX8_oddOf 30 = .ok (.iload_n 2, 1) := by decide +kernel
theorem dX8_oddOf_31 : decode cX8_oddOf 31 = .ok (.ireturn, 1) := by decide +kernel
theorem dX8_isPrime_0 : decode cX8_isPrime 0 = .ok (.aload_n 0, 1) := by decide +kernel
theorem dX8_isPrime_1 : decode cX8_isPrime 1 = .ok (.iload_n 1, 1) := by decide +kernel
theorem dX8_isPrime_2 : decode cX8_isPrime 2 = .ok (.invokevirtual 83, 3) := by decide +kernel
theorem dX8_isPrime_5 : decode cX8_isPrime 5 = .ok (.ifCond .lt 6, 3) := by decide +kernel
theorem dX8_isPrime_8 : decode cX8_isPrime 8 = .ok (.bipush (-4), 2) := by decide +kernel
theorem dX8_isPrime_10 : decode cX8_isPrime 10 = .ok (.ireturn, 1) := by decide +kernel
theorem dX8_isPrime_11 : decode cX8_isPrime 11 = .ok (.aload_n 0, 1) := by decide +kernel
theorem dX8_isPrime_12 : decode cX8_isPrime 12 = .ok (.iload_n 1, 1) := by decide +kernel
theorem dX8_isPrime_13 : decode cX8_isPrime 13 = .ok (.invokevirtual 145, 3) := by decide +kernel
theorem dX8_isPrime_16 : decode cX8_isPrime 16 = .ok (.istore_n 2, 1) := by decide +kernel
theorem dX8_isPrime_17 : decode cX8_isPrime 17 = .ok (.iconst 0, 1) := by decide +kernel
theorem dX8_isPrime_18 : decode cX8_isPrime 18 = .ok (.istore_n 3, 1) := by decide +kernel
theorem dX8_isPrime_19 : decode cX8_isPrime 19 = .ok (.iload_n 3, 1) := by decide +kernel
theorem dX8_isPrime_20 : decode cX8_isPrime 20 = .ok (.iload_n 2, 1) := by decide +kernel
theorem dX8_isPrime_21 : decode cX8_isPrime 21 = .ok (.if_icmp .ge 44, 3) := by decide +kernel
theorem dX8_isPrime_24 : decode cX8_isPrime 24 = .ok (.iload_n 3, 1) := by decide +kernel
theorem dX8_isPrime_25 : decode cX8_isPrime 25 = .ok (.iconst 1, 1) := by decide +kernel
theorem dX8_isPrime_26 : decode cX8_isPrime 26 = .ok (.iadd, 1) := by decide +kernel
theorem dX8_isPrime_27 : decode cX8_isPrime 27 = .ok (.istore 4, 2) := by decide +kernel
theorem dX8_isPrime_29 : decode cX8_isPrime 29 = .ok (.iload 4, 2) := by decide +kernel
theorem dX8_isPrime_31 : decode cX8_isPrime 31 = .ok (.iload_n 2, 1) := by decide +kernel
theorem dX8_isPrime_32 : decode cX8_isPrime 32 = .ok (.if_icmp .ge 27, 3) := by decide +kernel
theorem dX8_isPrime_35 : decode cX8_isPrime 35 = .ok (.aload_n 0, 1) := by decide +kernel
theorem dX8_isPrime_36 : decode cX8_isPrime 36 = .ok (.iload_n 1, 1) := by decide +kernel
theorem dX8_isPrime_37 : decode cX8_isPrime 37 = .ok (.iload_n 3, 1) := by decide +kernel
theorem dX8_isPrime_38 : decode cX8_isPrime 38 = .ok (.invokevirtual 106, 3) := by decide +kernel
theorem dX8_isPrime_41 : decode cX8_isPrime 41 = .ok (.aload_n 0, 1) := by decide +kernel
theorem dX8_isPrime_42 : decode cX8_isPrime 42 = .ok (.iload_n 1, 1) := by decide +kernel
theorem dX8_isPrime_43 : decode cX8_isPrime 43 = .ok (.iload 4, 2) := by decide +kernel
theorem dX8_isPrime_45 : decode cX8_isPrime 45 = .ok (.invokevirtual 106, 3) := by decide +kernel
theorem dX8_isPrime_48 : decode cX8_isPrime 48 = .ok (.if_icmp .ne 5, 3) := by decide +kernel
theorem dX8_isPrime_51 : decode cX8_isPrime 51 = .ok (.iconst 0, 1) := by decide +kernel
theorem dX8_isPrime_52 : decode cX8_isPrime 52 = .ok (.ireturn, 1) := by decide +kernel
theorem dX8_isPrime_53 : decode cX8_isPrime 53 = .ok (.iinc 4 1, 3) := by decide +kernel
theorem dX8_isPrime_56 : decode cX8_isPrime 56 = .ok (.goto (-27), 3) := by decide +kernel
theorem dX8_isPrime_59 : decode cX8_isPrime 59 = .ok (.iinc 3 1, 3) := by decide +kernel
theorem dX8_isPrime_62 : decode cX8_isPrime 62 = .ok (.goto (-43), 3) := by decide +kernel
theorem dX8_isPrime_65 : decode cX8_isPrime 65 = .ok (.iconst 1, 1) := by decide +kernel
theorem dX8_isPrime_66 : decode cX8_isPrime 66 = .ok (.ireturn, 1) := by decide +kernel
theorem dX8_rowOf_0 : decode cX8_rowOf 0 = .ok (.aload_n 0, 1) := by decide +kernel
theorem dX8_rowOf_1 : decode cX8_rowOf 1 = .ok (.iload_n 1, 1) := by decide +kernel
theorem dX8_rowOf_2 : decode cX8_rowOf 2 = .ok (.invokevirtual 123, 3) := by decide +kernel
theorem dX8_rowOf_5 : decode cX8_rowOf 5 = .ok (.ifCond .ne 5, 3) := by decide +kernel
theorem dX8_rowOf_8 : decode cX8_rowOf 8 = .ok (.iconst (-1), 1) := by decide +kernel
theorem dX8_rowOf_9 : decode cX8_rowOf 9 = .ok (.ireturn, 1) := by decide +kernel
theorem dX8_rowOf_10 : decode cX8_rowOf 10 = .ok (.iload_n 2, 1) := by decide +kernel
theorem dX8_rowOf_11 : decode cX8_rowOf 11 = .ok (.tableswitch 99 0 7 #[45, 51, 57, 66, 75, 81, 87, 93], 45) := by decide +kernel
theorem dX8_rowOf_56 : decode cX8_rowOf 56 = .ok (.aload_n 0, 1) := by decide +kernel
theorem dX8_rowOf_57 : decode cX8_rowOf 57 = .ok (.iload_n 1, 1) := by decide +kernel
theorem dX8_rowOf_58 : decode cX8_rowOf 58 = .ok (.invokevirtual 75, 3) := by decide +kernel
theorem dX8_rowOf_61 : decode cX8_rowOf 61 = .ok (.ireturn, 1) := by decide +kernel
theorem dX8_rowOf_62 : decode cX8_rowOf 62 = .ok (.aload_n 0, 1) := by decide +kernel
theorem dX8_rowOf_63 : decode cX8_rowOf 63 = .ok (.iload_n 1, 1) := by decide +kernel
theorem dX8_rowOf_64 : decode cX8_rowOf 64 = .ok (.invokevirtual 86, 3) := by decide +kernel
theorem dX8_rowOf_67 : decode cX8_rowOf 67 = .ok (.ireturn, 1) := by decide +kernel
theorem dX8_rowOf_68 : decode cX8_rowOf 68 = .ok (.aload_n 0, 1) := by decide +kernel
theorem dX8_rowOf_69 : decode cX8_rowOf 69 = .ok (.iload_n 1, 1) := by decide +kernel
theorem dX8_rowOf_70 : decode cX8_rowOf 70 = .ok (.invokevirtual 103, 3) := by decide +kernel
theorem dX8_rowOf_73 : decode cX8_rowOf 73 = .ok (.invokestatic 130, 3) := by decide +kernel
theorem dX8_rowOf_76 : decode cX8_rowOf 76 = .ok (.ireturn, 1) := by decide +kernel
theorem dX8_rowOf_77 : decode cX8_rowOf 77 = .ok (.aload_n 0, 1) := by decide +kernel
theorem dX8_rowOf_78 : decode cX8_rowOf 78 = .ok (.iload_n 1, 1) := by decide +kernel
theorem dX8_rowOf_79 : decode cX8_rowOf 79 = .ok (.invokevirtual 83, 3) := by decide +kernel
theorem dX8_rowOf_82 : decode cX8_rowOf 82 = .ok (.invokestatic 130, 3) := by decide +kernel
theorem dX8_rowOf_85 : decode cX8_rowOf 85 = .ok (.ireturn, 1) := by decide +kernel
theorem dX8_rowOf_86 : decode cX8_rowOf 86 = .ok (.aload_n 0, 1) := by decide +kernel
theorem dX8_rowOf_87 : decode cX8_rowOf 87 = .ok (.iload_n 1, 1) := by decide +kernel
theorem dX8_rowOf_88 : decode cX8_rowOf 88 = .ok (.invokevirtual 145, 3) := by decide +kernel
theorem dX8_rowOf_91 : decode cX8_rowOf 91 = .ok (.ireturn, 1) := by decide +kernel
theorem dX8_rowOf_92 : decode cX8_rowOf 92 = .ok (.aload_n 0, 1) := by decide +kernel
theorem dX8_rowOf_93 : decode cX8_rowOf 93 = .ok (.iload_n 1, 1) := by decide +kernel
theorem dX8_rowOf_94 : decode cX8_rowOf 94 = .ok (.invokevirtual 148, 3) := by decide +kernel
theorem dX8_rowOf_97 : decode cX8_rowOf 97 = .ok (.ireturn, 1) := by decide +kernel
theorem dX8_rowOf_98 : decode cX8_rowOf 98 = .ok (.aload_n 0, 1) := by decide +kernel
theorem dX8_rowOf_99 : decode cX8_rowOf 99 = .ok (.iload_n 1, 1) := by decide +kernel
theorem dX8_rowOf_100 : decode cX8_rowOf 100 = .ok (.invokevirtual 151, 3) := by decide +kernel
theorem dX8_rowOf_103 : decode cX8_rowOf 103 = .ok (.ireturn, 1) := by decide +kernel
theorem dX8_rowOf_104 : decode cX8_rowOf 104 = .ok (.aload_n 0, 1) := by decide +kernel
theorem dX8_rowOf_105 : decode cX8_rowOf 105 = .ok (.iload_n 1, 1) := by decide +kernel
theorem dX8_rowOf_106 : decode cX8_rowOf 106 = .ok (.invokevirtual 154, 3) := by decide +kernel
theorem dX8_rowOf_109 : decode cX8_rowOf 109 = .ok (.ireturn, 1) := by decide +kernel
theorem dX8_rowOf_110 : decode cX8_rowOf 110 = .ok (.bipush (-2), 2) := by decide +kernel
theorem dX8_rowOf_112 : decode cX8_rowOf 112 = .ok (.ireturn, 1) := by decide +kernel
theorem dX8_throwAt_0 : decode cX8_throwAt 0 = .ok (.aload_n 0, 1) := by decide +kernel
theorem dX8_throwAt_1 : decode cX8_throwAt 1 = .ok (.iload_n 1, 1) := by decide +kernel
theorem dX8_throwAt_2 : decode cX8_throwAt 2 = .ok (.invokevirtual 123, 3) := by decide +kernel
theorem dX8_throwAt_5 : decode cX8_throwAt 5 = .ok (.ifCond .eq 21, 3) := by decide +kernel
theorem dX8_throwAt_8 : decode cX8_throwAt 8 = .ok (.aload_n 0, 1) := by decide +kernel
theorem dX8_throwAt_9 : decode cX8_throwAt 9 = .ok (.iload_n 1, 1) := by decide +kernel
theorem dX8_throwAt_10 : decode cX8_throwAt 10 = .ok (.iload_n 2, 1) := by decide +kernel
theorem dX8_throwAt_11 : decode cX8_throwAt 11 = .ok (.invokevirtual 127, 3) := by decide +kernel
theorem dX8_throwAt_14 : decode cX8_throwAt 14 = .ok (.ifCond .eq 12, 3) := by decide +kernel
theorem dX8_throwAt_17 : decode cX8_throwAt 17 = .ok (.aload_n 0, 1) := by decide +kernel
theorem dX8_throwAt_18 : decode cX8_throwAt 18 = .ok (.iload_n 1, 1) := by decide +kernel
theorem dX8_throwAt_19 : decode cX8_throwAt 19 = .ok (.iload_n 2, 1) := by decide +kernel
theorem dX8_throwAt_20 : decode cX8_throwAt 20 = .ok (.invokevirtual 79, 3) := by decide +kernel
theorem dX8_throwAt_23 : decode cX8_throwAt 23 = .ok (.goto 4, 3) := by decide +kernel
theorem dX8_throwAt_26 : decode cX8_throwAt 26 = .ok (.iconst (-1), 1) := by decide +kernel
theorem dX8_throwAt_27 : decode cX8_throwAt 27 = .ok (.ireturn, 1) := by decide +kernel
theorem dX8_isClean_0 : decode cX8_isClean 0 = .ok (.aload_n 0, 1) := by decide +kernel
theorem dX8_isClean_1 : decode cX8_isClean 1 = .ok (.iload_n 1, 1) := by decide +kernel
theorem dX8_isClean_2 : decode cX8_isClean 2 = .ok (.invokevirtual 123, 3) := by decide +kernel
theorem dX8_isClean_5 : decode cX8_isClean 5 = .ok (.ifCond .ne 7, 3) := by decide +kernel
theorem dX8_isClean_8 : decode cX8_isClean 8 = .ok (.iconst (-1), 1) := by decide +kernel
theorem dX8_isClean_9 : decode cX8_isClean 9 = .ok (.goto 16, 3) := by decide +kernel
theorem dX8_isClean_12 : decode cX8_isClean 12 = .ok (.aload_n 0, 1) := by decide +kernel
theorem dX8_isClean_13 : decode cX8_isClean 13 = .ok (.iload_n 1, 1) := by decide +kernel
theorem dX8_isClean_14 : decode cX8_isClean 14 = .ok (.invokevirtual 83, 3) := by decide +kernel
theorem dX8_isClean_17 : decode cX8_isClean 17 = .ok (.ifCond .ge 7, 3) := by decide +kernel
theorem dX8_isClean_20 : decode cX8_isClean 20 = .ok (.iconst 1, 1) := by decide +kernel
theorem dX8_isClean_21 : decode cX8_isClean 21 = .ok (.goto 4, 3) := by decide +kernel
theorem dX8_isClean_24 : decode cX8_isClean 24 = .ok (.iconst 0, 1) := by decide +kernel
theorem dX8_isClean_25 : decode cX8_isClean 25 = .ok (.ireturn, 1) := by decide +kernel
theorem dX8_isCleanAgain_0 : decode cX8_isCleanAgain 0 = .ok (.aload_n 0, 1) := by decide +kernel
theorem dX8_isCleanAgain_1 : decode cX8_isCleanAgain 1 = .ok (.iload_n 1, 1) := by decide +kernel
theorem dX8_isCleanAgain_2 : decode cX8_isCleanAgain 2 = .ok (.invokevirtual 157, 3) := by decide +kernel
theorem dX8_isCleanAgain_5 : decode cX8_isCleanAgain 5 = .ok (.ireturn, 1) := by decide +kernel
theorem dX8_stateOf_0 : decode cX8_stateOf 0 = .ok (.aload_n 0, 1) := by decide +kernel
theorem dX8_stateOf_1 : decode cX8_stateOf 1 = .ok (.iload_n 1, 1) := by decide +kernel
theorem dX8_stateOf_2 : decode cX8_stateOf 2 = .ok (.invokevirtual 123, 3) := by decide +kernel
theorem dX8_stateOf_5 : decode cX8_stateOf 5 = .ok (.ifCond .eq 12, 3) := by decide +kernel
theorem dX8_stateOf_8 : decode cX8_stateOf 8 = .ok (.aload_n 0, 1) := by decide +kernel
theorem dX8_stateOf_9 : decode cX8_stateOf 9 = .ok (.iload_n 1, 1) := by decide +kernel
theorem dX8_stateOf_10 : decode cX8_stateOf 10 = .ok (.iload_n 2, 1) := by decide +kernel
theorem dX8_stateOf_11 : decode cX8_stateOf 11 = .ok (.invokevirtual 127, 3) := by decide +kernel
theorem dX8_stateOf_14 : decode cX8_stateOf 14 = .ok (.ifCond .ne 7, 3) := by decide +kernel
theorem dX8_stateOf_17 : decode cX8_stateOf 17 = .ok (.iconst (-1), 1) := by decide +kernel
theorem dX8_stateOf_18 : decode cX8_stateOf 18 = .ok (.goto 22, 3) := by decide +kernel
theorem dX8_stateOf_21 : decode cX8_stateOf 21 = .ok (.aload_n 0, 1) := by decide +kernel
theorem dX8_stateOf_22 : decode cX8_stateOf 22 = .ok (.iload_n 1, 1) := by decide +kernel
theorem dX8_stateOf_23 : decode cX8_stateOf 23 = .ok (.invokevirtual 83, 3) := by decide +kernel
theorem dX8_stateOf_26 : decode cX8_stateOf 26 = .ok (.ifCond .lt 8, 3) := by decide +kernel
theorem dX8_stateOf_29 : decode cX8_stateOf 29 = .ok (.bipush (-4), 2) := by decide +kernel
theorem dX8_stateOf_31 : decode cX8_stateOf 31 = .ok (.goto 9, 3) := by decide +kernel
theorem dX8_stateOf_34 : decode cX8_stateOf 34 = .ok (.aload_n 0, 1) := by decide +kernel
theorem dX8_stateOf_35 : decode cX8_stateOf 35 = .ok (.iload_n 1, 1) := by decide +kernel
theorem dX8_stateOf_36 : decode cX8_stateOf 36 = .ok (.iload_n 2, 1) := by decide +kernel
theorem dX8_stateOf_37 : decode cX8_stateOf 37 = .ok (.invokevirtual 106, 3) := by decide +kernel
theorem dX8_stateOf_40 : decode cX8_stateOf 40 = .ok (.ireturn, 1) := by decide +kernel
theorem dX8_throwsNow_0 : decode cX8_throwsNow 0 = .ok (.iconst 0, 1) := by decide +kernel
theorem dX8_throwsNow_1 : decode cX8_throwsNow 1 = .ok (.istore_n 1, 1) := by decide +kernel
theorem dX8_throwsNow_2 : decode cX8_throwsNow 2 = .ok (.iconst 0, 1) := by decide +kernel
theorem dX8_throwsNow_3 : decode cX8_throwsNow 3 = .ok (.istore_n 2, 1) := by decide +kernel
theorem dX8_throwsNow_4 : decode cX8_throwsNow 4 = .ok (.iload_n 2, 1) := by decide +kernel
theorem dX8_throwsNow_5 : decode cX8_throwsNow 5 = .ok (.bipush 9, 2) := by decide +kernel
theorem dX8_throwsNow_7 : decode cX8_throwsNow 7 = .ok (.if_icmp .gt 30, 3) := by decide +kernel
theorem dX8_throwsNow_10 : decode cX8_throwsNow 10 = .ok (.iload_n 1, 1) := by decide +kernel
theorem dX8_throwsNow_11 : decode cX8_throwsNow 11 = .ok (.aload_n 0, 1) := by decide +kernel
theorem dX8_throwsNow_12 : decode cX8_throwsNow 12 = .ok (.getfield 9, 3) := by decide +kernel
theorem dX8_throwsNow_15 : decode cX8_throwsNow 15 = .ok (.iconst 1, 1) := by decide +kernel
theorem dX8_throwsNow_16 : decode cX8_throwsNow 16 = .ok (.iaload, 1) := by decide +kernel
theorem dX8_throwsNow_17 : decode cX8_throwsNow 17 = .ok (.iload_n 2, 1) := by decide +kernel
theorem dX8_throwsNow_18 : decode cX8_throwsNow 18 = .ok (.invokestatic 92, 3) := by decide +kernel
theorem dX8_throwsNow_21 : decode cX8_throwsNow 21 = .ok (.ifCond .eq 7, 3) := by decide +kernel
theorem dX8_throwsNow_24 : decode cX8_throwsNow 24 = .ok (.iconst 1, 1) := by decide +kernel
theorem dX8_throwsNow_25 : decode cX8_throwsNow 25 = .ok (.goto 4, 3) := by decide +kernel
theorem dX8_throwsNow_28 : decode cX8_throwsNow 28 = .ok (.iconst 0, 1) := by decide +kernel
theorem dX8_throwsNow_29 : decode cX8_throwsNow 29 = .ok (.iadd, 1) := by decide +kernel
theorem dX8_throwsNow_30 : decode cX8_throwsNow 30 = .ok (.istore_n 1, 1) := by decide +kernel
theorem dX8_throwsNow_31 : decode cX8_throwsNow 31 = .ok (.iinc 2 1, 3) := by decide +kernel
theorem dX8_throwsNow_34 : decode cX8_throwsNow 34 = .ok (.goto (-30), 3) := by decide +kernel
theorem dX8_throwsNow_37 : decode cX8_throwsNow 37 = .ok (.iload_n 1, 1) := by decide +kernel
theorem dX8_throwsNow_38 : decode cX8_throwsNow 38 = .ok (.ireturn, 1) := by decide +kernel
theorem dX8_juggler_0 : decode cX8_juggler 0 = .ok (.iload_n 1, 1) := by decide +kernel
theorem dX8_juggler_1 : decode cX8_juggler 1 = .ok (.tableswitch 71 0 5 #[39, 39, 39, 48, 57, 66], 39) := by decide +kernel
theorem dX8_juggler_40 : decode cX8_juggler 40 = .ok (.aload_n 0, 1) := by decide +kernel
theorem dX8_juggler_41 : decode cX8_juggler 41 = .ok (.getfield 9, 3) := by decide +kernel
theorem dX8_juggler_44 : decode cX8_juggler 44 = .ok (.iconst 1, 1) := by decide +kernel
theorem dX8_juggler_45 : decode cX8_juggler 45 = .ok (.iload_n 1, 1) := by decide +kernel
theorem dX8_juggler_46 : decode cX8_juggler 46 = .ok (.iadd, 1) := by decide +kernel
theorem dX8_juggler_47 : decode cX8_juggler 47 = .ok (.iaload, 1) := by decide +kernel
theorem dX8_juggler_48 : decode cX8_juggler 48 = .ok (.ireturn, 1) := by decide +kernel
theorem dX8_juggler_49 : decode cX8_juggler 49 = .ok (.aload_n 0, 1) := by decide +kernel
theorem dX8_juggler_50 : decode cX8_juggler 50 = .ok (.getfield 9, 3) := by decide +kernel
theorem dX8_juggler_53 : decode cX8_juggler 53 = .ok (.iconst 3, 1) := by decide +kernel
theorem dX8_juggler_54 : decode cX8_juggler 54 = .ok (.iaload, 1) := by decide +kernel
theorem dX8_juggler_55 : decode cX8_juggler 55 = .ok (.iconst 2, 1) := by decide +kernel
theorem dX8_juggler_56 : decode cX8_juggler 56 = .ok (.irem, 1) := by decide +kernel
theorem dX8_juggler_57 : decode cX8_juggler 57 = .ok (.ireturn, 1) := by decide +kernel
theorem dX8_juggler_58 : decode cX8_juggler 58 = .ok (.aload_n 0, 1) := by decide +kernel
theorem dX8_juggler_59 : decode cX8_juggler 59 = .ok (.getfield 9, 3) := by decide +kernel
theorem dX8_juggler_62 : decode cX8_juggler 62 = .ok (.iconst 1, 1) := by decide +kernel
theorem dX8_juggler_63 : decode cX8_juggler 63 = .ok (.iaload, 1) := by decide +kernel
theorem dX8_juggler_64 : decode cX8_juggler 64 = .ok (.iconst 1, 1) := by decide +kernel
theorem dX8_juggler_65 : decode cX8_juggler 65 = .ok (.iand, 1) := by decide +kernel
theorem dX8_juggler_66 : decode cX8_juggler 66 = .ok (.ireturn, 1) := by decide +kernel
theorem dX8_juggler_67 : decode cX8_juggler 67 = .ok (.aload_n 0, 1) := by decide +kernel
theorem dX8_juggler_68 : decode cX8_juggler 68 = .ok (.invokevirtual 160, 3) := by decide +kernel
theorem dX8_juggler_71 : decode cX8_juggler 71 = .ok (.ireturn, 1) := by decide +kernel
theorem dX8_juggler_72 : decode cX8_juggler 72 = .ok (.bipush (-2), 2) := by decide +kernel
theorem dX8_juggler_74 : decode cX8_juggler 74 = .ok (.ireturn, 1) := by decide +kernel
theorem dX8_could_0 : decode cX8_could 0 = .ok (.iload_n 1, 1) := by decide +kernel
theorem dX8_could_1 : decode cX8_could 1 = .ok (.istore_n 2, 1) := by decide +kernel
theorem dX8_could_2 : decode cX8_could 2 = .ok (.iconst 0, 1) := by decide +kernel
theorem dX8_could_3 : decode cX8_could 3 = .ok (.istore_n 3, 1) := by decide +kernel
theorem dX8_could_4 : decode cX8_could 4 = .ok (.iload_n 3, 1) := by decide +kernel
theorem dX8_could_5 : decode cX8_could 5 = .ok (.bipush 9, 2) := by decide +kernel
theorem dX8_could_7 : decode cX8_could 7 = .ok (.if_icmp .gt 45, 3) := by decide +kernel
theorem dX8_could_10 : decode cX8_could 10 = .ok (.aload_n 0, 1) := by decide +kernel
theorem dX8_could_11 : decode cX8_could 11 = .ok (.getfield 9, 3) := by decide +kernel
theorem dX8_could_14 : decode cX8_could 14 = .ok (.iconst 1, 1) := by decide +kernel
theorem dX8_could_15 : decode cX8_could 15 = .ok (.iaload, 1) := by decide +kernel
theorem dX8_could_16 : decode cX8_could 16 = .ok (.iload_n 3, 1) := by decide +kernel
theorem dX8_could_17 : decode cX8_could 17 = .ok (.invokestatic 92, 3) := by decide +kernel
theorem dX8_could_20 : decode cX8_could 20 = .ok (.istore 4, 2) := by decide +kernel
theorem dX8_could_22 : decode cX8_could 22 = .ok (.iload 4, 2) := by decide +kernel
theorem dX8_could_24 : decode cX8_could 24 = .ok (.ifCond .eq 9, 3) := by decide +kernel
theorem dX8_could_27 : decode cX8_could 27 = .ok (.iload_n 2, 1) := by decide +kernel
theorem dX8_could_28 : decode cX8_could 28 = .ok (.ifCond .ne 5, 3) := by decide +kernel
theorem dX8_could_31 : decode cX8_could 31 = .ok (.iload_n 3, 1) := by decide +kernel
theorem dX8_could_32 : decode cX8_could 32 = .ok (.ireturn, 1) := by decide +kernel
theorem dX8_could_33 : decode cX8_could 33 = .ok (.iload_n 2, 1) := by decide +kernel
theorem dX8_could_34 : decode cX8_could 34 = .ok (.iload 4, 2) := by decide +kernel
theorem dX8_could_36 : decode cX8_could 36 = .ok (.ifCond .eq 7, 3) := by decide +kernel
theorem dX8_could_39 : decode cX8_could 39 = .ok (.iconst 1, 1) := by decide +kernel
theorem dX8_could_40 : decode cX8_could 40 = .ok (.goto 4, 3) := by decide +kernel
theorem dX8_could_43 : decode cX8_could 43 = .ok (.iconst 0, 1) := by decide +kernel
theorem dX8_could_44 : decode cX8_could 44 = .ok (.isub, 1) := by decide +kernel
theorem dX8_could_45 : decode cX8_could 45 = .ok (.istore_n 2, 1) := by decide +kernel
theorem dX8_could_46 : decode cX8_could 46 = .ok (.iinc 3 1, 3) := by decide +kernel
theorem dX8_could_49 : decode cX8_could 49 = .ok (.goto (-45), 3) := by decide +kernel
theorem dX8_could_52 : decode cX8_could 52 = .ok (.iconst (-1), 1) := by decide +kernel
theorem dX8_could_53 : decode cX8_could 53 = .ok (.ireturn, 1) := by decide +kernel
theorem dX8_joinTo_0 : decode cX8_joinTo 0 = .ok (.aload_n 0, 1) := by decide +kernel
theorem dX8_joinTo_1 : decode cX8_joinTo 1 = .ok (.iload_n 1, 1) := by decide +kernel
theorem dX8_joinTo_2 : decode cX8_joinTo 2 = .ok (.invokevirtual 123, 3) := by decide +kernel
theorem dX8_joinTo_5 : decode cX8_joinTo 5 = .ok (.ifCond .ne 7, 3) := by decide +kernel
theorem dX8_joinTo_8 : decode cX8_joinTo 8 = .ok (.iconst (-1), 1) := by decide +kernel
theorem dX8_joinTo_9 : decode cX8_joinTo 9 = .ok (.goto 20, 3) := by decide +kernel
theorem dX8_joinTo_12 : decode cX8_joinTo 12 = .ok (.aload_n 0, 1) := by decide +kernel
theorem dX8_joinTo_13 : decode cX8_joinTo 13 = .ok (.iload_n 1, 1) := by decide +kernel
theorem dX8_joinTo_14 : decode cX8_joinTo 14 = .ok (.invokevirtual 139, 3) := by decide +kernel
theorem dX8_joinTo_17 : decode cX8_joinTo 17 = .ok (.ifCond .eq 10, 3) := by decide +kernel
theorem dX8_joinTo_20 : decode cX8_joinTo 20 = .ok (.aload_n 0, 1) := by decide +kernel
theorem dX8_joinTo_21 : decode cX8_joinTo 21 = .ok (.getfield 100, 3) := by decide +kernel
theorem dX8_joinTo_24 : decode cX8_joinTo 24 = .ok (.goto 5, 3) := by decide +kernel
theorem dX8_joinTo_27 : decode cX8_joinTo 27 = .ok (.bipush (-4), 2) := by decide +kernel
theorem dX8_joinTo_29 : decode cX8_joinTo 29 = .ok (.ireturn, 1) := by decide +kernel
theorem dX8_joinAgain_0 : decode cX8_joinAgain 0 = .ok (.aload_n 0, 1) := by decide +kernel
theorem dX8_joinAgain_1 : decode cX8_joinAgain 1 = .ok (.iload_n 1, 1) := by decide +kernel
theorem dX8_joinAgain_2 : decode cX8_joinAgain 2 = .ok (.invokevirtual 164, 3) := by decide +kernel
theorem dX8_joinAgain_5 : decode cX8_joinAgain 5 = .ok (.ireturn, 1) := by decide +kernel
theorem dX8_joinThrow_0 : decode cX8_joinThrow 0 = .ok (.aload_n 0, 1) := by decide +kernel
theorem dX8_joinThrow_1 : decode cX8_joinThrow 1 = .ok (.iload_n 1, 1) := by decide +kernel
theorem dX8_joinThrow_2 : decode cX8_joinThrow 2 = .ok (.invokevirtual 123, 3) := by decide +kernel
theorem dX8_joinThrow_5 : decode cX8_joinThrow 5 = .ok (.ifCond .ne 5, 3) := by decide +kernel
theorem dX8_joinThrow_8 : decode cX8_joinThrow 8 = .ok (.iconst (-1), 1) := by decide +kernel
theorem dX8_joinThrow_9 : decode cX8_joinThrow 9 = .ok (.ireturn, 1) := by decide +kernel
theorem dX8_joinThrow_10 : decode cX8_joinThrow 10 = .ok (.aload_n 0, 1) := by decide +kernel
theorem dX8_joinThrow_11 : decode cX8_joinThrow 11 = .ok (.iload_n 1, 1) := by decide +kernel
theorem dX8_joinThrow_12 : decode cX8_joinThrow 12 = .ok (.invokevirtual 139, 3) := by decide +kernel
theorem dX8_joinThrow_15 : decode cX8_joinThrow 15 = .ok (.ifCond .ne 8, 3) := by decide +kernel
theorem dX8_joinThrow_18 : decode cX8_joinThrow 18 = .ok (.bipush (-4), 2) := by decide +kernel
theorem dX8_joinThrow_20 : decode cX8_joinThrow 20 = .ok (.goto 27, 3) := by decide +kernel
theorem dX8_joinThrow_23 : decode cX8_joinThrow 23 = .ok (.iload_n 2, 1) := by decide +kernel
theorem dX8_joinThrow_24 : decode cX8_joinThrow 24 = .ok (.iconst 0, 1) := by decide +kernel
theorem dX8_joinThrow_25 : decode cX8_joinThrow 25 = .ok (.aload_n 0, 1) := by decide +kernel
theorem dX8_joinThrow_26 : decode cX8_joinThrow 26 = .ok (.getfield 100, 3) := by decide +kernel
theorem dX8_joinThrow_29 : decode cX8_joinThrow 29 = .ok (.iconst 1, 1) := by decide +kernel
theorem dX8_joinThrow_30 : decode cX8_joinThrow 30 = .ok (.isub, 1) := by decide +kernel
theorem dX8_joinThrow_31 : decode cX8_joinThrow 31 = .ok (.invokestatic 71, 3) := by decide +kernel
theorem dX8_joinThrow_34 : decode cX8_joinThrow 34 = .ok (.ifCond .eq 12, 3) := by decide +kernel
theorem dX8_joinThrow_37 : decode cX8_joinThrow 37 = .ok (.aload_n 0, 1) := by decide +kernel
theorem dX8_joinThrow_38 : decode cX8_joinThrow 38 = .ok (.getfield 37, 3) := by decide +kernel
theorem dX8_joinThrow_41 : decode cX8_joinThrow 41 = .ok (.iload_n 2, 1) := by decide +kernel
theorem dX8_joinThrow_42 : decode cX8_joinThrow 42 = .ok (.iaload, 1) := by decide +kernel
theorem dX8_joinThrow_43 : decode cX8_joinThrow 43 = .ok (.goto 4, 3) := by decide +kernel
theorem dX8_joinThrow_46 : decode cX8_joinThrow 46 = .ok (.iconst (-1), 1) := by decide +kernel
theorem dX8_joinThrow_47 : decode cX8_joinThrow 47 = .ok (.ireturn, 1) := by decide +kernel
theorem dX8_between_0 : decode cX8_between 0 = .ok (.aload_n 0, 1) := by decide +kernel
theorem dX8_between_1 : decode cX8_between 1 = .ok (.iload_n 1, 1) := by decide +kernel
theorem dX8_between_2 : decode cX8_between 2 = .ok (.invokevirtual 123, 3) := by decide +kernel
theorem dX8_between_5 : decode cX8_between 5 = .ok (.ifCond .eq 11, 3) := by decide +kernel
theorem dX8_between_8 : decode cX8_between 8 = .ok (.aload_n 0, 1) := by decide +kernel
theorem dX8_between_9 : decode cX8_between 9 = .ok (.iload_n 2, 1) := by decide +kernel
theorem dX8_between_10 : decode cX8_between 10 = .ok (.invokevirtual 123, 3) := by decide +kernel
theorem dX8_between_13 : decode cX8_between 13 = .ok (.ifCond .ne 5, 3) := by decide +kernel
theorem dX8_between_16 : decode cX8_between 16 = .ok (.iconst (-1), 1) := by decide +kernel
theorem dX8_between_17 : decode cX8_between 17 = .ok (.ireturn, 1) := by decide +kernel
theorem dX8_between_18 : decode cX8_between 18 = .ok (.aload_n 0, 1) := by decide +kernel
theorem dX8_between_19 : decode cX8_between 19 = .ok (.iload_n 1, 1) := by decide +kernel
theorem dX8_between_20 : decode cX8_between 20 = .ok (.invokevirtual 103, 3) := by decide +kernel
theorem dX8_between_23 : decode cX8_between 23 = .ok (.ifCond .lt 39, 3) := by decide +kernel
theorem dX8_between_26 : decode cX8_between 26 = .ok (.aload_n 0, 1) := by decide +kernel
theorem dX8_between_27 : decode cX8_between 27 = .ok (.iload_n 1, 1) := by decide +kernel
theorem dX8_between_28 : decode cX8_between 28 = .ok (.invokevirtual 103, 3) := by decide +kernel
theorem dX8_between_31 : decode cX8_between 31 = .ok (.aload_n 0, 1) := by decide +kernel
theorem dX8_between_32 : decode cX8_between 32 = .ok (.iload_n 2, 1) := by decide +kernel
theorem dX8_between_33 : decode cX8_between 33 = .ok (.invokevirtual 103, 3) := by decide +kernel
theorem dX8_between_36 : decode cX8_between 36 = .ok (.if_icmp .ne 26, 3) := by decide +kernel
theorem dX8_between_39 : decode cX8_between 39 = .ok (.aload_n 0, 1) := by decide +kernel
theorem dX8_between_40 : decode cX8_between 40 = .ok (.aload_n 0, 1) := by decide +kernel
theorem dX8_between_41 : decode cX8_between 41 = .ok (.iload_n 1, 1) := by decide +kernel
theorem dX8_between_42 : decode cX8_between 42 = .ok (.iconst 0, 1) := by decide +kernel
theorem dX8_between_43 : decode cX8_between 43 = .ok (.invokevirtual 106, 3) := by decide +kernel
theorem dX8_between_46 : decode cX8_between 46 = .ok (.aload_n 0, 1) := by decide +kernel
theorem dX8_between_47 : decode cX8_between 47 = .ok (.iload_n 2, 1) := by decide +kernel
theorem dX8_between_48 : decode cX8_between 48 = .ok (.iconst 0, 1) := by decide +kernel
theorem dX8_between_49 : decode cX8_between 49 = .ok (.invokevirtual 106, 3) := by decide +kernel
theorem dX8_between_52 : decode cX8_between 52 = .ok (.invokevirtual 109, 3) := by decide +kernel
theorem dX8_between_55 : decode cX8_between 55 = .ok (.ifCond .eq 7, 3) := by decide +kernel
theorem dX8_between_58 : decode cX8_between 58 = .ok (.iconst 1, 1) := by decide +kernel
theorem dX8_between_59 : decode cX8_between 59 = .ok (.goto 4, 3) := by decide +kernel
theorem dX8_between_62 : decode cX8_between 62 = .ok (.iconst 0, 1) := by decide +kernel
theorem dX8_between_63 : decode cX8_between 63 = .ok (.istore_n 3, 1) := by decide +kernel
theorem dX8_between_64 : decode cX8_between 64 = .ok (.iload_n 3, 1) := by decide +kernel
theorem dX8_between_65 : decode cX8_between 65 = .ok (.ifCond .eq 10, 3) := by decide +kernel
theorem dX8_between_68 : decode cX8_between 68 = .ok (.aload_n 0, 1) := by decide +kernel
theorem dX8_between_69 : decode cX8_between 69 = .ok (.getfield 100, 3) := by decide +kernel
theorem dX8_between_72 : decode cX8_between 72 = .ok (.goto 5, 3) := by decide +kernel
theorem dX8_between_75 : decode cX8_between 75 = .ok (.bipush (-4), 2) := by decide +kernel
theorem dX8_between_77 : decode cX8_between 77 = .ok (.ireturn, 1) := by decide +kernel
theorem dX8_worth_0 : decode cX8_worth 0 = .ok (.iload_n 1, 1) := by decide +kernel
theorem dX8_worth_1 : decode cX8_worth 1 = .ok (.ifCond .ne 12, 3) := by decide +kernel
theorem dX8_worth_4 : decode cX8_worth 4 = .ok (.aload_n 0, 1) := by decide +kernel
theorem dX8_worth_5 : decode cX8_worth 5 = .ok (.iload_n 2, 1) := by decide +kernel
theorem dX8_worth_6 : decode cX8_worth 6 = .ok (.invokevirtual 75, 3) := by decide +kernel
theorem dX8_worth_9 : decode cX8_worth 9 = .ok (.ineg, 1) := by decide +kernel
theorem dX8_worth_10 : decode cX8_worth 10 = .ok (.goto 22, 3) := by decide +kernel
theorem dX8_worth_13 : decode cX8_worth 13 = .ok (.iload_n 1, 1) := by decide +kernel
theorem dX8_worth_14 : decode cX8_worth 14 = .ok (.iconst 1, 1) := by decide +kernel
theorem dX8_worth_15 : decode cX8_worth 15 = .ok (.if_icmp .ne 11, 3) := by decide +kernel
theorem dX8_worth_18 : decode cX8_worth 18 = .ok (.aload_n 0, 1) := by decide +kernel
theorem dX8_worth_19 : decode cX8_worth 19 = .ok (.iload_n 2, 1) := by decide +kernel
theorem dX8_worth_20 : decode cX8_worth 20 = .ok (.invokevirtual 103, 3) := by decide +kernel
theorem dX8_worth_23 : decode cX8_worth 23 = .ok (.goto 9, 3) := by decide +kernel
theorem dX8_worth_26 : decode cX8_worth 26 = .ok (.aload_n 0, 1) := by decide +kernel
theorem dX8_worth_27 : decode cX8_worth 27 = .ok (.iload_n 2, 1) := by decide +kernel
theorem dX8_worth_28 : decode cX8_worth 28 = .ok (.invokevirtual 148, 3) := by decide +kernel
theorem dX8_worth_31 : decode cX8_worth 31 = .ok (.ineg, 1) := by decide +kernel
theorem dX8_worth_32 : decode cX8_worth 32 = .ok (.ireturn, 1) := by decide +kernel
theorem dX8_ranked_0 : decode cX8_ranked 0 = .ok (.iload_n 1, 1) := by decide +kernel
theorem dX8_ranked_1 : decode cX8_ranked 1 = .ok (.iconst 0, 1) := by decide +kernel
theorem dX8_ranked_2 : decode cX8_ranked 2 = .ok (.iconst 2, 1) := by decide +kernel
theorem dX8_ranked_3 : decode cX8_ranked 3 = .ok (.invokestatic 71, 3) := by decide +kernel
theorem dX8_ranked_6 : decode cX8_ranked 6 = .ok (.ifCond .ne 6, 3) := by decide +kernel
theorem dX8_ranked_9 : decode cX8_ranked 9 = .ok (.bipush (-2), 2) := by decide +kernel
theorem dX8_ranked_11 : decode cX8_ranked 11 = .ok (.ireturn, 1) := by decide +kernel
theorem dX8_ranked_12 : decode cX8_ranked 12 = .ok (.iconst 0, 1) := by decide +kernel
theorem dX8_ranked_13 : decode cX8_ranked 13 = .ok (.istore_n 3, 1) := by decide +kernel
theorem dX8_ranked_14 : decode cX8_ranked 14 = .ok (.iload_n 3, 1) := by decide +kernel
theorem dX8_ranked_15 : decode cX8_ranked 15 = .ok (.aload_n 0, 1) := by decide +kernel
theorem dX8_ranked_16 : decode cX8_ranked 16 = .ok (.getfield 9, 3) := by decide +kernel
theorem dX8_ranked_19 : decode cX8_ranked 19 = .ok (.iconst 0, 1) := by decide +kernel
theorem dX8_ranked_20 : decode cX8_ranked 20 = .ok (.iaload, 1) := by decide +kernel
theorem dX8_ranked_21 : decode cX8_ranked 21 = .ok (.if_icmp .ge 82, 3) := by decide +kernel
theorem dX8_ranked_24 : decode cX8_ranked 24 = .ok (.iconst 0, 1) := by decide +kernel
theorem dX8_ranked_25 : decode cX8_ranked 25 = .ok (.istore 4, 2) := by decide +kernel
theorem dX8_ranked_27 : decode cX8_ranked 27 = .ok (.iconst 0, 1) := by decide +kernel
theorem dX8_ranked_28 : decode cX8_ranked 28 = .ok (.istore 5, 2) := by decide +kernel
theorem dX8_ranked_30 : decode cX8_ranked 30 = .ok (.iload 5, 2) := by decide +kernel
theorem dX8_ranked_32 : decode cX8_ranked 32 = .ok (.aload_n 0, 1) := by decide +kernel
theorem dX8_ranked_33 : decode cX8_ranked 33 = .ok (.getfield 9, 3) := by decide +kernel
theorem dX8_ranked_36 : decode cX8_ranked 36 = .ok (.iconst 0, 1) := by decide +kernel
theorem dX8_ranked_37 : decode cX8_ranked 37 = .ok (.iaload, 1) := by decide +kernel
theorem dX8_ranked_38 : decode cX8_ranked 38 = .ok (.if_icmp .ge 51, 3) := by decide +kernel
theorem dX8_ranked_41 : decode cX8_ranked 41 = .ok (.aload_n 0, 1) := by decide +kernel
theorem dX8_ranked_42 : decode cX8_ranked 42 = .ok (.iload_n 1, 1) := by decide +kernel
theorem dX8_ranked_43 : decode cX8_ranked 43 = .ok (.iload 5, 2) := by decide +kernel
theorem dX8_ranked_45 : decode cX8_ranked 45 = .ok (.invokevirtual 167, 3) := by decide +kernel
theorem dX8_ranked_48 : decode cX8_ranked 48 = .ok (.aload_n 0, 1) := by decide +kernel
theorem dX8_ranked_49 : decode cX8_ranked 49 = .ok (.iload_n 1, 1) := by decide +kernel
theorem dX8_ranked_50 : decode cX8_ranked 50 = .ok (.iload_n 3, 1) := by decide +kernel
theorem dX8_ranked_51 : decode cX8_ranked 51 = .ok (.invokevirtual 167, 3) := by decide +kernel
theorem dX8_ranked_54 : decode cX8_ranked 54 = .ok (.isub, 1) := by decide +kernel
theorem dX8_ranked_55 : decode cX8_ranked 55 = .ok (.istore 6, 2) := by decide +kernel
theorem dX8_ranked_57 : decode cX8_ranked 57 = .ok (.iload 4, 2) := by decide +kernel
theorem dX8_ranked_59 : decode cX8_ranked 59 = .ok (.iload 6, 2) := by decide +kernel
theorem dX8_ranked_61 : decode cX8_ranked 61 = .ok (.ifCond .gt 14, 3) := by decide +kernel
theorem dX8_ranked_64 : decode cX8_ranked 64 = .ok (.iload 6, 2) := by decide +kernel
theorem dX8_ranked_66 : decode cX8_ranked 66 = .ok (.ifCond .ne 13, 3) := by decide +kernel
theorem dX8_ranked_69 : decode cX8_ranked 69 = .ok (.iload 5, 2) := by decide +kernel
theorem dX8_ranked_71 : decode cX8_ranked 71 = .ok (.iload_n 3, 1) := by decide +kernel
theorem dX8_ranked_72 : decode cX8_ranked 72 = .ok (.if_icmp .ge 7, 3) := by decide +kernel
theorem dX8_ranked_75 : decode cX8_ranked 75 = .ok (.iconst 1, 1) := by decide +kernel
theorem dX8_ranked_76 : decode cX8_ranked 76 = .ok (.goto 4, 3) := by decide +kernel
theorem dX8_ranked_79 : decode cX8_ranked 79 = .ok (.iconst 0, 1) := by decide +kernel
theorem dX8_ranked_80 : decode cX8_ranked 80 = .ok (.iadd, 1) := by decide +kernel
theorem dX8_ranked_81 : decode cX8_ranked 81 = .ok (.istore 4, 2) := by decide +kernel
theorem dX8_ranked_83 : decode cX8_ranked 83 = .ok (.iinc 5 1, 3) := by decide +kernel
theorem dX8_ranked_86 : decode cX8_ranked 86 = .ok (.goto (-56), 3) := by decide +kernel
theorem dX8_ranked_89 : decode cX8_ranked 89 = .ok (.iload 4, 2) := by decide +kernel
theorem dX8_ranked_91 : decode cX8_ranked 91 = .ok (.iload_n 2, 1) := by decide +kernel
theorem dX8_ranked_92 : decode cX8_ranked 92 = .ok (.if_icmp .ne 5, 3) := by decide +kernel
theorem dX8_ranked_95 : decode cX8_ranked 95 = .ok (.iload_n 3, 1) := by decide +kernel
theorem dX8_ranked_96 : decode cX8_ranked 96 = .ok (.ireturn, 1) := by decide +kernel
theorem dX8_ranked_97 : decode cX8_ranked 97 = .ok (.iinc 3 1, 3) := by decide +kernel
theorem dX8_ranked_100 : decode cX8_ranked 100 = .ok (.goto (-86), 3) := by decide +kernel
theorem dX8_ranked_103 : decode cX8_ranked 103 = .ok (.iconst (-1), 1) := by decide +kernel
theorem dX8_ranked_104 : decode cX8_ranked 104 = .ok (.ireturn, 1) := by decide +kernel
theorem dX8_write_0 : decode cX8_write 0 = .ok (.aload_n 0, 1) := by decide +kernel
theorem dX8_write_1 : decode cX8_write 1 = .ok (.getfield 40, 3) := by decide +kernel
theorem dX8_write_4 : decode cX8_write 4 = .ok (.aload_n 0, 1) := by decide +kernel
theorem dX8_write_5 : decode cX8_write 5 = .ok (.getfield 170, 3) := by decide +kernel
theorem dX8_write_8 : decode cX8_write 8 = .ok (.iload_n 1, 1) := by decide +kernel
theorem dX8_write_9 : decode cX8_write 9 = .ok (.i2c, 1) := by decide +kernel
theorem dX8_write_10 : decode cX8_write 10 = .ok (.castore, 1) := by decide +kernel
theorem dX8_write_11 : decode cX8_write 11 = .ok (.aload_n 0, 1) := by decide +kernel
theorem dX8_write_12 : decode cX8_write 12 = .ok (.dup, 1) := by decide +kernel
theorem dX8_write_13 : decode cX8_write 13 = .ok (.getfield 170, 3) := by decide +kernel
theorem dX8_write_16 : decode cX8_write 16 = .ok (.iconst 1, 1) := by decide +kernel
theorem dX8_write_17 : decode cX8_write 17 = .ok (.iadd, 1) := by decide +kernel
theorem dX8_write_18 : decode cX8_write 18 = .ok (.putfield 170, 3) := by decide +kernel
theorem dX8_write_21 : decode cX8_write 21 = .ok (.return_, 1) := by decide +kernel
theorem dX8_tellRow_0 : decode cX8_tellRow 0 = .ok (.aload_n 0, 1) := by decide +kernel
theorem dX8_tellRow_1 : decode cX8_tellRow 1 = .ok (.iload_n 1, 1) := by decide +kernel
theorem dX8_tellRow_2 : decode cX8_tellRow 2 = .ok (.invokevirtual 123, 3) := by decide +kernel
theorem dX8_tellRow_5 : decode cX8_tellRow 5 = .ok (.ifCond .ne 5, 3) := by decide +kernel
theorem dX8_tellRow_8 : decode cX8_tellRow 8 = .ok (.iconst (-1), 1) := by decide +kernel
theorem dX8_tellRow_9 : decode cX8_tellRow 9 = .ok (.ireturn, 1) := by decide +kernel
theorem dX8_tellRow_10 : decode cX8_tellRow 10 = .ok (.aload_n 0, 1) := by decide +kernel
theorem dX8_tellRow_11 : decode cX8_tellRow 11 = .ok (.iconst 0, 1) := by decide +kernel
theorem dX8_tellRow_12 : decode cX8_tellRow 12 = .ok (.putfield 170, 3) := by decide +kernel
theorem dX8_tellRow_15 : decode cX8_tellRow 15 = .ok (.iconst 0, 1) := by decide +kernel
theorem dX8_tellRow_16 : decode cX8_tellRow 16 = .ok (.istore_n 2, 1) := by decide +kernel
theorem dX8_tellRow_17 : decode cX8_tellRow 17 = .ok (.iload_n 2, 1) := by decide +kernel
theorem dX8_tellRow_18 : decode cX8_tellRow 18 = .ok (.aload_n 0, 1) := by decide +kernel
theorem dX8_tellRow_19 : decode cX8_tellRow 19 = .ok (.iload_n 1, 1) := by decide +kernel
theorem dX8_tellRow_20 : decode cX8_tellRow 20 = .ok (.invokevirtual 75, 3) := by decide +kernel
theorem dX8_tellRow_23 : decode cX8_tellRow 23 = .ok (.if_icmp .ge 22, 3) := by decide +kernel
theorem dX8_tellRow_26 : decode cX8_tellRow 26 = .ok (.aload_n 0, 1) := by decide +kernel
theorem dX8_tellRow_27 : decode cX8_tellRow 27 = .ok (.bipush 48, 2) := by decide +kernel
theorem dX8_tellRow_29 : decode cX8_tellRow 29 = .ok (.aload_n 0, 1) := by decide +kernel
theorem dX8_tellRow_30 : decode cX8_tellRow 30 = .ok (.iload_n 1, 1) := by decide +kernel
theorem dX8_tellRow_31 : decode cX8_tellRow 31 = .ok (.iload_n 2, 1) := by decide +kernel
theorem dX8_tellRow_32 : decode cX8_tellRow 32 = .ok (.invokevirtual 79, 3) := by decide +kernel
theorem dX8_tellRow_35 : decode cX8_tellRow 35 = .ok (.iadd, 1) := by decide +kernel
theorem dX8_tellRow_36 : decode cX8_tellRow 36 = .ok (.invokevirtual 173, 3) := by decide +kernel
theorem dX8_tellRow_39 : decode cX8_tellRow 39 = .ok (.iinc 2 1, 3) := by decide +kernel
theorem dX8_tellRow_42 : decode cX8_tellRow 42 = .ok (.goto (-25), 3) := by decide +kernel
theorem dX8_tellRow_45 : decode cX8_tellRow 45 = .ok (.aload_n 0, 1) := by decide +kernel
theorem dX8_tellRow_46 : decode cX8_tellRow 46 = .ok (.iload_n 1, 1) := by decide +kernel
theorem dX8_tellRow_47 : decode cX8_tellRow 47 = .ok (.invokevirtual 83, 3) := by decide +kernel
theorem dX8_tellRow_50 : decode cX8_tellRow 50 = .ok (.ifCond .ge 7, 3) := by decide +kernel
theorem dX8_tellRow_53 : decode cX8_tellRow 53 = .ok (.iconst 1, 1) := by decide +kernel
theorem dX8_tellRow_54 : decode cX8_tellRow 54 = .ok (.goto 4, 3) := by decide +kernel
theorem dX8_tellRow_57 : decode cX8_tellRow 57 = .ok (.iconst 0, 1) := by decide +kernel
theorem dX8_tellRow_58 : decode cX8_tellRow 58 = .ok (.istore_n 2, 1) := by decide +kernel
theorem dX8_tellRow_59 : decode cX8_tellRow 59 = .ok (.aload_n 0, 1) := by decide +kernel
theorem dX8_tellRow_60 : decode cX8_tellRow 60 = .ok (.iload_n 2, 1) := by decide +kernel
theorem dX8_tellRow_61 : decode cX8_tellRow 61 = .ok (.ifCond .eq 8, 3) := by decide +kernel
theorem dX8_tellRow_64 : decode cX8_tellRow 64 = .ok (.bipush 61, 2) := by decide +kernel
theorem dX8_tellRow_66 : decode cX8_tellRow 66 = .ok (.goto 5, 3) := by decide +kernel
theorem dX8_tellRow_69 : decode cX8_tellRow 69 = .ok (.bipush 33, 2) := by decide +kernel
theorem dX8_tellRow_71 : decode cX8_tellRow 71 = .ok (.invokevirtual 173, 3) := by decide +kernel
theorem dX8_tellRow_74 : decode cX8_tellRow 74 = .ok (.aload_n 0, 1) := by decide +kernel
theorem dX8_tellRow_75 : decode cX8_tellRow 75 = .ok (.bipush 48, 2) := by decide +kernel
theorem dX8_tellRow_77 : decode cX8_tellRow 77 = .ok (.iload_n 2, 1) := by decide +kernel
theorem dX8_tellRow_78 : decode cX8_tellRow 78 = .ok (.ifCond .eq 11, 3) := by decide +kernel
theorem dX8_tellRow_81 : decode cX8_tellRow 81 = .ok (.aload_n 0, 1) := by decide +kernel
theorem dX8_tellRow_82 : decode cX8_tellRow 82 = .ok (.iload_n 1, 1) := by decide +kernel
theorem dX8_tellRow_83 : decode cX8_tellRow 83 = .ok (.invokevirtual 103, 3) := by decide +kernel
theorem dX8_tellRow_86 : decode cX8_tellRow 86 = .ok (.goto 8, 3) := by decide +kernel
theorem dX8_tellRow_89 : decode cX8_tellRow 89 = .ok (.aload_n 0, 1) := by decide +kernel
theorem dX8_tellRow_90 : decode cX8_tellRow 90 = .ok (.iload_n 1, 1) := by decide +kernel
theorem dX8_tellRow_91 : decode cX8_tellRow 91 = .ok (.invokevirtual 83, 3) := by decide +kernel
theorem dX8_tellRow_94 : decode cX8_tellRow 94 = .ok (.iadd, 1) := by decide +kernel
theorem dX8_tellRow_95 : decode cX8_tellRow 95 = .ok (.invokevirtual 173, 3) := by decide +kernel
theorem dX8_tellRow_98 : decode cX8_tellRow 98 = .ok (.aload_n 0, 1) := by decide +kernel
theorem dX8_tellRow_99 : decode cX8_tellRow 99 = .ok (.getfield 170, 3) := by decide +kernel
theorem dX8_tellRow_102 : decode cX8_tellRow 102 = .ok (.ireturn, 1) := by decide +kernel
theorem dX8_tellState_0 : decode cX8_tellState 0 = .ok (.aload_n 0, 1) := by decide +kernel
theorem dX8_tellState_1 : decode cX8_tellState 1 = .ok (.iconst 0, 1) := by decide +kernel
theorem dX8_tellState_2 : decode cX8_tellState 2 = .ok (.putfield 170, 3) := by decide +kernel
theorem dX8_tellState_5 : decode cX8_tellState 5 = .ok (.aload_n 0, 1) := by decide +kernel
theorem dX8_tellState_6 : decode cX8_tellState 6 = .ok (.getfield 9, 3) := by decide +kernel
theorem dX8_tellState_9 : decode cX8_tellState 9 = .ok (.iconst 1, 1) := by decide +kernel
theorem dX8_tellState_10 : decode cX8_tellState 10 = .ok (.iaload, 1) := by decide +kernel
theorem dX8_tellState_11 : decode cX8_tellState 11 = .ok (.istore_n 1, 1) := by decide +kernel
theorem dX8_tellState_12 : decode cX8_tellState 12 = .ok (.iload_n 1, 1) := by decide +kernel
theorem dX8_tellState_13 : decode cX8_tellState 13 = .ok (.ifCond .gt 10, 3) := by decide +kernel
theorem dX8_tellState_16 : decode cX8_tellState 16 = .ok (.aload_n 0, 1) := by decide +kernel
theorem dX8_tellState_17 : decode cX8_tellState 17 = .ok (.getfield 170, 3) := by decide +kernel
theorem dX8_tellState_20 : decode cX8_tellState 20 = .ok (.ifCond .ne 28, 3) := by decide +kernel
theorem dX8_tellState_23 : decode cX8_tellState 23 = .ok (.aload_n 0, 1) := by decide +kernel
theorem dX8_tellState_24 : decode cX8_tellState 24 = .ok (.iload_n 1, 1) := by decide +kernel
theorem dX8_tellState_25 : decode cX8_tellState 25 = .ok (.iconst 1, 1) := by decide +kernel
theorem dX8_tellState_26 : decode cX8_tellState 26 = .ok (.iand, 1) := by decide +kernel
theorem dX8_tellState_27 : decode cX8_tellState 27 = .ok (.iconst 1, 1) := by decide +kernel
theorem dX8_tellState_28 : decode cX8_tellState 28 = .ok (.if_icmp .ne 8, 3) := by decide +kernel
theorem dX8_tellState_31 : decode cX8_tellState 31 = .ok (.bipush 120, 2) := by decide +kernel
theorem dX8_tellState_33 : decode cX8_tellState 33 = .ok (.goto 5, 3) := by decide +kernel
theorem dX8_tellState_36 : decode cX8_tellState 36 = .ok (.bipush 45, 2) := by decide +kernel
theorem dX8_tellState_38 : decode cX8_tellState 38 = .ok (.invokevirtual 173, 3) := by decide +kernel
theorem dX8_tellState_41 : decode cX8_tellState 41 = .ok (.iload_n 1, 1) := by decide +kernel
theorem dX8_tellState_42 : decode cX8_tellState 42 = .ok (.iconst 1, 1) := by decide +kernel
theorem dX8_tellState_43 : decode cX8_tellState 43 = .ok (.ishr, 1) := by decide +kernel
theorem dX8_tellState_44 : decode cX8_tellState 44 = .ok (.istore_n 1, 1) := by decide +kernel
theorem dX8_tellState_45 : decode cX8_tellState 45 = .ok (.goto (-33), 3) := by decide +kernel
theorem dX8_tellState_48 : decode cX8_tellState 48 = .ok (.aload_n 0, 1) := by decide +kernel
theorem dX8_tellState_49 : decode cX8_tellState 49 = .ok (.getfield 170, 3) := by decide +kernel
theorem dX8_tellState_52 : decode cX8_tellState 52 = .ok (.ireturn, 1) := by decide +kernel
theorem dX8_tellJoin_0 : decode cX8_tellJoin 0 = .ok (.aload_n 0, 1) := by decide +kernel
theorem dX8_tellJoin_1 : decode cX8_tellJoin 1 = .ok (.iload_n 1, 1) := by decide +kernel
theorem dX8_tellJoin_2 : decode cX8_tellJoin 2 = .ok (.invokevirtual 123, 3) := by decide +kernel
theorem dX8_tellJoin_5 : decode cX8_tellJoin 5 = .ok (.ifCond .ne 5, 3) := by decide +kernel
theorem dX8_tellJoin_8 : decode cX8_tellJoin 8 = .ok (.iconst (-1), 1) := by decide +kernel
theorem dX8_tellJoin_9 : decode cX8_tellJoin 9 = .ok (.ireturn, 1) := by decide +kernel
theorem dX8_tellJoin_10 : decode cX8_tellJoin 10 = .ok (.aload_n 0, 1) := by decide +kernel
theorem dX8_tellJoin_11 : decode cX8_tellJoin 11 = .ok (.iload_n 1, 1) := by decide +kernel
theorem dX8_tellJoin_12 : decode cX8_tellJoin 12 = .ok (.invokevirtual 139, 3) := by decide +kernel
theorem dX8_tellJoin_15 : decode cX8_tellJoin 15 = .ok (.ifCond .ne 6, 3) := by decide +kernel
theorem dX8_tellJoin_18 : decode cX8_tellJoin 18 = .ok (.bipush (-4), 2) := by decide +kernel
theorem dX8_tellJoin_20 : decode cX8_tellJoin 20 = .ok (.ireturn, 1) := by decide +kernel
theorem dX8_tellJoin_21 : decode cX8_tellJoin 21 = .ok (.aload_n 0, 1) := by decide +kernel
theorem dX8_tellJoin_22 : decode cX8_tellJoin 22 = .ok (.iconst 0, 1) := by decide +kernel
theorem dX8_tellJoin_23 : decode cX8_tellJoin 23 = .ok (.putfield 170, 3) := by decide +kernel
theorem dX8_tellJoin_26 : decode cX8_tellJoin 26 = .ok (.iconst 0, 1) := by decide +kernel
theorem dX8_tellJoin_27 : decode cX8_tellJoin 27 = .ok (.istore_n 2, 1) := by decide +kernel
theorem dX8_tellJoin_28 : decode cX8_tellJoin 28 = .ok (.iload_n 2, 1) := by decide +kernel
theorem dX8_tellJoin_29 : decode cX8_tellJoin 29 = .ok (.aload_n 0, 1) := by decide +kernel
theorem dX8_tellJoin_30 : decode cX8_tellJoin 30 = .ok (.getfield 100, 3) := by decide +kernel
theorem dX8_tellJoin_33 : decode cX8_tellJoin 33 = .ok (.if_icmp .ge 22, 3) := by decide +kernel
theorem dX8_tellJoin_36 : decode cX8_tellJoin 36 = .ok (.aload_n 0, 1) := by decide +kernel
theorem dX8_tellJoin_37 : decode cX8_tellJoin 37 = .ok (.bipush 48, 2) := by decide +kernel
theorem dX8_tellJoin_39 : decode cX8_tellJoin 39 = .ok (.aload_n 0, 1) := by decide +kernel
theorem dX8_tellJoin_40 : decode cX8_tellJoin 40 = .ok (.getfield 37, 3) := by decide +kernel
theorem dX8_tellJoin_43 : decode cX8_tellJoin 43 = .ok (.iload_n 2, 1) := by decide +kernel
theorem dX8_tellJoin_44 : decode cX8_tellJoin 44 = .ok (.iaload, 1) := by decide +kernel
theorem dX8_tellJoin_45 : decode cX8_tellJoin 45 = .ok (.iadd, 1) := by decide +kernel
theorem dX8_tellJoin_46 : decode cX8_tellJoin 46 = .ok (.invokevirtual 173, 3) := by decide +kernel
theorem dX8_tellJoin_49 : decode cX8_tellJoin 49 = .ok (.iinc 2 1, 3) := by decide +kernel
theorem dX8_tellJoin_52 : decode cX8_tellJoin 52 = .ok (.goto (-24), 3) := by decide +kernel
theorem dX8_tellJoin_55 : decode cX8_tellJoin 55 = .ok (.aload_n 0, 1) := by decide +kernel
theorem dX8_tellJoin_56 : decode cX8_tellJoin 56 = .ok (.getfield 170, 3) := by decide +kernel
theorem dX8_tellJoin_59 : decode cX8_tellJoin 59 = .ok (.ireturn, 1) := by decide +kernel
theorem dX8_sign_0 : decode cX8_sign 0 = .ok (.iload_n 1, 1) := by decide +kernel
theorem dX8_sign_1 : decode cX8_sign 1 = .ok (.iconst 0, 1) := by decide +kernel
theorem dX8_sign_2 : decode cX8_sign 2 = .ok (.aload_n 0, 1) := by decide +kernel
theorem dX8_sign_3 : decode cX8_sign 3 = .ok (.getfield 170, 3) := by decide +kernel
theorem dX8_sign_6 : decode cX8_sign 6 = .ok (.iconst 1, 1) := by decide +kernel
theorem dX8_sign_7 : decode cX8_sign 7 = .ok (.isub, 1) := by decide +kernel
theorem dX8_sign_8 : decode cX8_sign 8 = .ok (.invokestatic 71, 3) := by decide +kernel
theorem dX8_sign_11 : decode cX8_sign 11 = .ok (.ifCond .eq 12, 3) := by decide +kernel
theorem dX8_sign_14 : decode cX8_sign 14 = .ok (.aload_n 0, 1) := by decide +kernel
theorem dX8_sign_15 : decode cX8_sign 15 = .ok (.getfield 40, 3) := by decide +kernel
theorem dX8_sign_18 : decode cX8_sign 18 = .ok (.iload_n 1, 1) := by decide +kernel
theorem dX8_sign_19 : decode cX8_sign 19 = .ok (.caload, 1) := by decide +kernel
theorem dX8_sign_20 : decode cX8_sign 20 = .ok (.goto 4, 3) := by decide +kernel
theorem dX8_sign_23 : decode cX8_sign 23 = .ok (.iconst (-1), 1) := by decide +kernel
theorem dX8_sign_24 : decode cX8_sign 24 = .ok (.ireturn, 1) := by decide +kernel
theorem dX8_append_0 : decode cX8_append 0 = .ok (.iload_n 1, 1) := by decide +kernel
theorem dX8_append_1 : decode cX8_append 1 = .ok (.bipush 32, 2) := by decide +kernel
theorem dX8_append_3 : decode cX8_append 3 = .ok (.bipush 126, 2) := by decide +kernel
theorem dX8_append_5 : decode cX8_append 5 = .ok (.invokestatic 71, 3) := by decide +kernel
theorem dX8_append_8 : decode cX8_append 8 = .ok (.ifCond .eq 12, 3) := by decide +kernel
theorem dX8_append_11 : decode cX8_append 11 = .ok (.aload_n 0, 1) := by decide +kernel
theorem dX8_append_12 : decode cX8_append 12 = .ok (.getfield 176, 3) := by decide +kernel
theorem dX8_append_15 : decode cX8_append 15 = .ok (.bipush 70, 2) := by decide +kernel
theorem dX8_append_17 : decode cX8_append 17 = .ok (.if_icmp .ne 6, 3) := by decide +kernel
theorem dX8_append_20 : decode cX8_append 20 = .ok (.bipush (-2), 2) := by decide +kernel
theorem dX8_append_22 : decode cX8_append 22 = .ok (.ireturn, 1) := by decide +kernel
theorem dX8_append_23 : decode cX8_append 23 = .ok (.aload_n 0, 1) := by decide +kernel
theorem dX8_append_24 : decode cX8_append 24 = .ok (.getfield 44, 3) := by decide +kernel
theorem dX8_append_27 : decode cX8_append 27 = .ok (.aload_n 0, 1) := by decide +kernel
theorem dX8_append_28 : decode cX8_append 28 = .ok (.getfield 176, 3) := by decide +kernel
theorem dX8_append_31 : decode cX8_append 31 = .ok (.iload_n 1, 1) := by decide +kernel
theorem dX8_append_32 : decode cX8_append 32 = .ok (.iastore, 1) := by decide +kernel
theorem dX8_append_33 : decode cX8_append 33 = .ok (.aload_n 0, 1) := by decide +kernel
theorem dX8_append_34 : decode cX8_append 34 = .ok (.dup, 1) := by decide +kernel
theorem dX8_append_35 : decode cX8_append 35 = .ok (.getfield 176, 3) := by decide +kernel
theorem dX8_append_38 : decode cX8_append 38 = .ok (.iconst 1, 1) := by decide +kernel
theorem dX8_append_39 : decode cX8_append 39 = .ok (.iadd, 1) := by decide +kernel
theorem dX8_append_40 : decode cX8_append 40 = .ok (.putfield 176, 3) := by decide +kernel
theorem dX8_append_43 : decode cX8_append 43 = .ok (.aload_n 0, 1) := by decide +kernel
theorem dX8_append_44 : decode cX8_append 44 = .ok (.getfield 176, 3) := by decide +kernel
theorem dX8_append_47 : decode cX8_append 47 = .ok (.ireturn, 1) := by decide +kernel
theorem dX8_sees_0 : decode cX8_sees 0 = .ok (.aload_n 0, 1) := by decide +kernel
theorem dX8_sees_1 : decode cX8_sees 1 = .ok (.getfield 179, 3) := by decide +kernel
theorem dX8_sees_4 : decode cX8_sees 4 = .ok (.ifCond .ne 35, 3) := by decide +kernel
theorem dX8_sees_7 : decode cX8_sees 7 = .ok (.aload_n 0, 1) := by decide +kernel
theorem dX8_sees_8 : decode cX8_sees 8 = .ok (.getfield 182, 3) := by decide +kernel
theorem dX8_sees_11 : decode cX8_sees 11 = .ok (.aload_n 0, 1) := by decide +kernel
theorem dX8_sees_12 : decode cX8_sees 12 = .ok (.getfield 176, 3) := by decide +kernel
theorem dX8_sees_15 : decode cX8_sees 15 = .ok (.if_icmp .ge 24, 3) := by decide +kernel
theorem dX8_sees_18 : decode cX8_sees 18 = .ok (.aload_n 0, 1) := by decide +kernel
theorem dX8_sees_19 : decode cX8_sees 19 = .ok (.getfield 44, 3) := by decide +kernel
theorem dX8_sees_22 : decode cX8_sees 22 = .ok (.aload_n 0, 1) := by decide +kernel
theorem dX8_sees_23 : decode cX8_sees 23 = .ok (.getfield 182, 3) := by decide +kernel
theorem dX8_sees_26 : decode cX8_sees 26 = .ok (.iaload, 1) := by decide +kernel
theorem dX8_sees_27 : decode cX8_sees 27 = .ok (.iload_n 1, 1) := by decide +kernel
theorem dX8_sees_28 : decode cX8_sees 28 = .ok (.iload_n 2, 1) := by decide +kernel
theorem dX8_sees_29 : decode cX8_sees 29 = .ok (.invokestatic 71, 3) := by decide +kernel
theorem dX8_sees_32 : decode cX8_sees 32 = .ok (.ifCond .eq 7, 3) := by decide +kernel
theorem dX8_sees_35 : decode cX8_sees 35 = .ok (.iconst 1, 1) := by decide +kernel
theorem dX8_sees_36 : decode cX8_sees 36 = .ok (.goto 4, 3) := by decide +kernel
theorem dX8_sees_39 : decode cX8_sees 39 = .ok (.iconst 0, 1) := by decide +kernel
theorem dX8_sees_40 : decode cX8_sees 40 = .ok (.ireturn, 1) := by decide +kernel
theorem dX8_readDigit_0 : decode cX8_readDigit 0 = .ok (.aload_n 0, 1) := by decide +kernel
theorem dX8_readDigit_1 : decode cX8_readDigit 1 = .ok (.dup, 1) := by decide +kernel
theorem dX8_readDigit_2 : decode cX8_readDigit 2 = .ok (.getfield 179, 3) := by decide +kernel
theorem dX8_readDigit_5 : decode cX8_readDigit 5 = .ok (.aload_n 0, 1) := by decide +kernel
theorem dX8_readDigit_6 : decode cX8_readDigit 6 = .ok (.bipush 48, 2) := by decide +kernel
theorem dX8_readDigit_8 : decode cX8_readDigit 8 = .ok (.bipush 57, 2) := by decide +kernel
theorem dX8_readDigit_10 : decode cX8_readDigit 10 = .ok (.invokevirtual 185, 3) := by decide +kernel
theorem dX8_readDigit_13 : decode cX8_readDigit 13 = .ok (.ifCond .ne 7, 3) := by decide +kernel
theorem dX8_readDigit_16 : decode cX8_readDigit 16 = .ok (.iconst 1, 1) := by decide +kernel
theorem dX8_readDigit_17 : decode cX8_readDigit 17 = .ok (.goto 4, 3) := by decide +kernel
theorem dX8_readDigit_20 : decode cX8_readDigit 20 = .ok (.iconst 0, 1) := by decide +kernel
theorem dX8_readDigit_21 : decode cX8_readDigit 21 = .ok (.ior, 1) := by decide +kernel
theorem dX8_readDigit_22 : decode cX8_readDigit 22 = .ok (.putfield 179, 3) := by decide +kernel
theorem dX8_readDigit_25 : decode cX8_readDigit 25 = .ok (.aload_n 0, 1) := by decide +kernel
theorem dX8_readDigit_26 : decode cX8_readDigit 26 = .ok (.getfield 179, 3) := by decide +kernel
theorem dX8_readDigit_29 : decode cX8_readDigit 29 = .ok (.ifCond .eq 7, 3) := by decide +kernel
theorem dX8_readDigit_32 : decode cX8_readDigit 32 = .ok (.iconst 0, 1) := by decide +kernel
theorem dX8_readDigit_33 : decode cX8_readDigit 33 = .ok (.goto 15, 3) := by decide +kernel
theorem dX8_readDigit_36 : decode cX8_readDigit 36 = .ok (.aload_n 0, 1) := by decide +kernel
theorem dX8_readDigit_37 : decode cX8_readDigit 37 = .ok (.getfield 44, 3) := by decide +kernel
theorem dX8_readDigit_40 : decode cX8_readDigit 40 = .ok (.aload_n 0, 1) := by decide +kernel
theorem dX8_readDigit_41 : decode cX8_readDigit 41 = .ok (.getfield 182, 3) := by decide +kernel
theorem dX8_readDigit_44 : decode cX8_readDigit 44 = .ok (.iaload, 1) := by decide +kernel
theorem dX8_readDigit_45 : decode cX8_readDigit 45 = .ok (.bipush 48, 2) := by decide +kernel
theorem dX8_readDigit_47 : decode cX8_readDigit 47 = .ok (.isub, 1) := by decide +kernel
theorem dX8_readDigit_48 : decode cX8_readDigit 48 = .ok (.istore_n 1, 1) := by decide +kernel
theorem dX8_readDigit_49 : decode cX8_readDigit 49 = .ok (.aload_n 0, 1) := by decide +kernel
theorem dX8_readDigit_50 : decode cX8_readDigit 50 = .ok (.dup, 1) := by decide +kernel
theorem dX8_readDigit_51 : decode cX8_readDigit 51 = .ok (.getfield 182, 3) := by decide +kernel
theorem dX8_readDigit_54 : decode cX8_readDigit 54 = .ok (.aload_n 0, 1) := by decide +kernel
theorem dX8_readDigit_55 : decode cX8_readDigit 55 = .ok (.getfield 179, 3) := by decide +kernel
theorem dX8_readDigit_58 : decode cX8_readDigit 58 = .ok (.ifCond .eq 7, 3) := by decide +kernel
theorem dX8_readDigit_61 : decode cX8_readDigit 61 = .ok (.iconst 0, 1) := by decide +kernel
theorem dX8_readDigit_62 : decode cX8_readDigit 62 = .ok (.goto 4, 3) := by decide +kernel
theorem dX8_readDigit_65 : decode cX8_readDigit 65 = .ok (.iconst 1, 1) := by decide +kernel
theorem dX8_readDigit_66 : decode cX8_readDigit 66 = .ok (.iadd, 1) := by decide +kernel
theorem dX8_readDigit_67 : decode cX8_readDigit 67 = .ok (.putfield 182, 3) := by decide +kernel
theorem dX8_readDigit_70 : decode cX8_readDigit 70 = .ok (.iload_n 1, 1) := by decide +kernel
theorem dX8_readDigit_71 : decode cX8_readDigit 71 = .ok (.ireturn, 1) := by decide +kernel
theorem dX8_readRow_0 : decode cX8_readRow 0 = .ok (.aload_n 0, 1) := by decide +kernel
theorem dX8_readRow_1 : decode cX8_readRow 1 = .ok (.iconst 0, 1) := by decide +kernel
theorem dX8_readRow_2 : decode cX8_readRow 2 = .ok (.putfield 188, 3) := by decide +kernel
theorem dX8_readRow_5 : decode cX8_readRow 5 = .ok (.aload_n 0, 1) := by decide +kernel
theorem dX8_readRow_6 : decode cX8_readRow 6 = .ok (.iconst 0, 1) := by decide +kernel
theorem dX8_readRow_7 : decode cX8_readRow 7 = .ok (.putfield 191, 3) := by decide +kernel
theorem dX8_readRow_10 : decode cX8_readRow 10 = .ok (.aload_n 0, 1) := by decide +kernel
theorem dX8_readRow_11 : decode cX8_readRow 11 = .ok (.getfield 191, 3) := by decide +kernel
theorem dX8_readRow_14 : decode cX8_readRow 14 = .ok (.bipush 8, 2) := by decide +kernel
theorem dX8_readRow_16 : decode cX8_readRow 16 = .ok (.if_icmp .ge 43, 3) := by decide +kernel
theorem dX8_readRow_19 : decode cX8_readRow 19 = .ok (.aload_n 0, 1) := by decide +kernel
theorem dX8_readRow_20 : decode cX8_readRow 20 = .ok (.bipush 48, 2) := by decide +kernel
theorem dX8_readRow_22 : decode cX8_readRow 22 = .ok (.bipush 57, 2) := by decide +kernel
theorem dX8_readRow_24 : decode cX8_readRow 24 = .ok (.invokevirtual 185, 3) := by decide +kernel
theorem dX8_readRow_27 : decode cX8_readRow 27 = .ok (.ifCond .eq 32, 3) := by decide +kernel
theorem dX8_readRow_30 : decode cX8_readRow 30 = .ok (.aload_n 0, 1) := by decide +kernel
theorem dX8_readRow_31 : decode cX8_readRow 31 = .ok (.bipush 10, 2) := by decide +kernel
theorem dX8_readRow_33 : decode cX8_readRow 33 = .ok (.aload_n 0, 1) := by decide +kernel
theorem dX8_readRow_34 : decode cX8_readRow 34 = .ok (.getfield 188, 3) := by decide +kernel
theorem dX8_readRow_37 : decode cX8_readRow 37 = .ok (.imul, 1) := by decide +kernel
theorem dX8_readRow_38 : decode cX8_readRow 38 = .ok (.aload_n 0, 1) := by decide +kernel
theorem dX8_readRow_39 : decode cX8_readRow 39 = .ok (.invokevirtual 194, 3) := by decide +kernel
theorem dX8_readRow_42 : decode cX8_readRow 42 = .ok (.iadd, 1) := by decide +kernel
theorem dX8_readRow_43 : decode cX8_readRow 43 = .ok (.putfield 188, 3) := by decide +kernel
theorem dX8_readRow_46 : decode cX8_readRow 46 = .ok (.aload_n 0, 1) := by decide +kernel
theorem dX8_readRow_47 : decode cX8_readRow 47 = .ok (.dup, 1) := by decide +kernel
theorem dX8_readRow_48 : decode cX8_readRow 48 = .ok (.getfield 191, 3) := by decide +kernel
theorem dX8_readRow_51 : decode cX8_readRow 51 = .ok (.iconst 1, 1) := by decide +kernel
theorem dX8_readRow_52 : decode cX8_readRow 52 = .ok (.iadd, 1) := by decide +kernel
theorem dX8_readRow_53 : decode cX8_readRow 53 = .ok (.putfield 191, 3) := by decide +kernel
theorem dX8_readRow_56 : decode cX8_readRow 56 = .ok (.goto (-46), 3) := by decide +kernel
theorem dX8_readRow_59 : decode cX8_readRow 59 = .ok (.return_, 1) := by decide +kernel
theorem dX8_readCommand_0 : decode cX8_readCommand 0 = .ok (.aload_n 0, 1) := by decide +kernel
theorem dX8_readCommand_1 : decode cX8_readCommand 1 = .ok (.aload_n 0, 1) := by decide +kernel
theorem dX8_readCommand_2 : decode cX8_readCommand 2 = .ok (.getfield 179, 3) := by decide +kernel
theorem dX8_readCommand_5 : decode cX8_readCommand 5 = .ok (.ifCond .ne 26, 3) := by decide +kernel
theorem dX8_readCommand_8 : decode cX8_readCommand 8 = .ok (.aload_n 0, 1) := by decide +kernel
theorem dX8_readCommand_9 : decode cX8_readCommand 9 = .ok (.getfield 182, 3) := by decide +kernel
theorem dX8_readCommand_12 : decode cX8_readCommand 12 = .ok (.aload_n 0, 1) := by decide +kernel
theorem dX8_readCommand_13 : decode cX8_readCommand 13 = .ok (.getfield 176, 3) := by decide +kernel
theorem dX8_readCommand_16 : decode cX8_readCommand 16 = .ok (.if_icmp .ge 15, 3) := by decide +kernel
theorem dX8_readCommand_19 : decode cX8_readCommand 19 = .ok (.aload_n 0, 1) := by decide +kernel
theorem dX8_readCommand_20 : decode cX8_readCommand 20 = .ok (.getfield 44, 3) := by decide +kernel
theorem dX8_readCommand_23 : decode cX8_readCommand 23 = .ok (.aload_n 0, 1) := by decide +kernel
theorem dX8_readCommand_24 : decode cX8_readCommand 24 = .ok (.getfield 182, 3) := by decide +kernel
theorem dX8_readCommand_27 : decode cX8_readCommand 27 = .ok (.iaload, 1) := by decide +kernel
theorem dX8_readCommand_28 : decode cX8_readCommand 28 = .ok (.goto 5, 3) := by decide +kernel
theorem dX8_readCommand_31 : decode cX8_readCommand 31 = .ok (.bipush 32, 2) := by decide +kernel
theorem dX8_readCommand_33 : decode cX8_readCommand 33 = .ok (.putfield 197, 3) := by decide +kernel
theorem dX8_readCommand_36 : decode cX8_readCommand 36 = .ok (.aload_n 0, 1) := by decide +kernel
theorem dX8_readCommand_37 : decode cX8_readCommand 37 = .ok (.bipush 48, 2) := by decide +kernel
theorem dX8_readCommand_39 : decode cX8_readCommand 39 = .ok (.bipush 57, 2) := by decide +kernel
theorem dX8_readCommand_41 : decode cX8_readCommand 41 = .ok (.invokevirtual 185, 3) := by decide +kernel
theorem dX8_readCommand_44 : decode cX8_readCommand 44 = .ok (.ifCond .eq 14, 3) := by decide +kernel
theorem dX8_readCommand_47 : decode cX8_readCommand 47 = .ok (.aload_n 0, 1) := by decide +kernel
theorem dX8_readCommand_48 : decode cX8_readCommand 48 = .ok (.bipush 48, 2) := by decide +kernel
theorem dX8_readCommand_50 : decode cX8_readCommand 50 = .ok (.putfield 197, 3) := by decide +kernel
theorem dX8_readCommand_53 : decode cX8_readCommand 53 = .ok (.aload_n 0, 1) := by decide +kernel
theorem dX8_readCommand_54 : decode cX8_readCommand 54 = .ok (.invokevirtual 200, 3) := by decide +kernel
theorem dX8_readCommand_57 : decode cX8_readCommand 57 = .ok (.return_, 1) := by decide +kernel
theorem dX8_readCommand_58 : decode cX8_readCommand 58 = .ok (.aload_n 0, 1) := by decide +kernel
theorem dX8_readCommand_59 : decode cX8_readCommand 59 = .ok (.dup, 1) := by decide +kernel
theorem dX8_readCommand_60 : decode cX8_readCommand 60 = .ok (.getfield 179, 3) := by decide +kernel
theorem dX8_readCommand_63 : decode cX8_readCommand 63 = .ok (.ldc 203, 2) := by decide +kernel
theorem dX8_readCommand_65 : decode cX8_readCommand 65 = .ok (.aload_n 0, 1) := by decide +kernel
theorem dX8_readCommand_66 : decode cX8_readCommand 66 = .ok (.getfield 197, 3) := by decide +kernel
theorem dX8_readCommand_69 : decode cX8_readCommand 69 = .ok (.i2c, 1) := by decide +kernel
theorem dX8_readCommand_70 : decode cX8_readCommand 70 = .ok (.invokevirtual 205, 3) := by decide +kernel
theorem dX8_readCommand_73 : decode cX8_readCommand 73 = .ok (.ifCond .ge 7, 3) := by decide +kernel
theorem dX8_readCommand_76 : decode cX8_readCommand 76 = .ok (.iconst 1, 1) := by decide +kernel
theorem dX8_readCommand_77 : decode cX8_readCommand 77 = .ok (.goto 4, 3) := by decide +kernel
theorem dX8_readCommand_80 : decode cX8_readCommand 80 = .ok (.iconst 0, 1) := by decide +kernel
theorem dX8_readCommand_81 : decode cX8_readCommand 81 = .ok (.ior, 1) := by decide +kernel
theorem dX8_readCommand_82 : decode cX8_readCommand 82 = .ok (.putfield 179, 3) := by decide +kernel
theorem dX8_readCommand_85 : decode cX8_readCommand 85 = .ok (.aload_n 0, 1) := by decide +kernel
theorem dX8_readCommand_86 : decode cX8_readCommand 86 = .ok (.dup, 1) := by decide +kernel
theorem dX8_readCommand_87 : decode cX8_readCommand 87 = .ok (.getfield 182, 3) := by decide +kernel
theorem dX8_readCommand_90 : decode cX8_readCommand 90 = .ok (.aload_n 0, 1) := by decide +kernel
theorem dX8_readCommand_91 : decode cX8_readCommand 91 = .ok (.getfield 179, 3) := by decide +kernel
theorem dX8_readCommand_94 : decode cX8_readCommand 94 = .ok (.ifCond .eq 7, 3) := by decide +kernel
theorem dX8_readCommand_97 : decode cX8_readCommand 97 = .ok (.iconst 0, 1) := by decide +kernel
theorem dX8_readCommand_98 : decode cX8_readCommand 98 = .ok (.goto 4, 3) := by decide +kernel
theorem dX8_readCommand_101 : decode cX8_readCommand 101 = .ok (.iconst 1, 1) := by decide +kernel
theorem dX8_readCommand_102 : decode cX8_readCommand 102 = .ok (.iadd, 1) := by decide +kernel
theorem dX8_readCommand_103 : decode cX8_readCommand 103 = .ok (.putfield 182, 3) := by decide +kernel
theorem dX8_readCommand_106 : decode cX8_readCommand 106 = .ok (.aload_n 0, 1) := by decide +kernel
theorem dX8_readCommand_107 : decode cX8_readCommand 107 = .ok (.aload_n 0, 1) := by decide +kernel
theorem dX8_readCommand_108 : decode cX8_readCommand 108 = .ok (.invokevirtual 194, 3) := by decide +kernel
theorem dX8_readCommand_111 : decode cX8_readCommand 111 = .ok (.putfield 188, 3) := by decide +kernel
theorem dX8_readCommand_114 : decode cX8_readCommand 114 = .ok (.aload_n 0, 1) := by decide +kernel
theorem dX8_readCommand_115 : decode cX8_readCommand 115 = .ok (.getfield 197, 3) := by decide +kernel
theorem dX8_readCommand_118 : decode cX8_readCommand 118 = .ok (.bipush 115, 2) := by decide +kernel
theorem dX8_readCommand_120 : decode cX8_readCommand 120 = .ok (.if_icmp .ne 19, 3) := by decide +kernel
theorem dX8_readCommand_123 : decode cX8_readCommand 123 = .ok (.aload_n 0, 1) := by decide +kernel
theorem dX8_readCommand_124 : decode cX8_readCommand 124 = .ok (.aload_n 0, 1) := by decide +kernel
theorem dX8_readCommand_125 : decode cX8_readCommand 125 = .ok (.invokevirtual 194, 3) := by decide +kernel
theorem dX8_readCommand_128 : decode cX8_readCommand 128 = .ok (.putfield 191, 3) := by decide +kernel
theorem dX8_readCommand_131 : decode cX8_readCommand 131 = .ok (.aload_n 0, 1) := by decide +kernel
theorem dX8_readCommand_132 : decode cX8_readCommand 132 = .ok (.aload_n 0, 1) := by decide +kernel
theorem dX8_readCommand_133 : decode cX8_readCommand 133 = .ok (.invokevirtual 194, 3) := by decide +kernel
theorem dX8_readCommand_136 : decode cX8_readCommand 136 = .ok (.putfield 210, 3) := by decide +kernel
theorem dX8_readCommand_139 : decode cX8_readCommand 139 = .ok (.return_, 1) := by decide +kernel
theorem dX8_countCommands_0 : decode cX8_countCommands 0 = .ok (.aload_n 0, 1) := by decide +kernel
theorem dX8_countCommands_1 : decode cX8_countCommands 1 = .ok (.iconst 0, 1) := by decide +kernel
theorem dX8_countCommands_2 : decode cX8_countCommands 2 = .ok (.putfield 182, 3) := by decide +kernel
theorem dX8_countCommands_5 : decode cX8_countCommands 5 = .ok (.aload_n 0, 1) := by decide +kernel
theorem dX8_countCommands_6 : decode cX8_countCommands 6 = .ok (.iconst 0, 1) := by decide +kernel
theorem dX8_countCommands_7 : decode cX8_countCommands 7 = .ok (.putfield 179, 3) := by decide +kernel
theorem dX8_countCommands_10 : decode cX8_countCommands 10 = .ok (.iconst 1, 1) := by decide +kernel
theorem dX8_countCommands_11 : decode cX8_countCommands 11 = .ok (.istore_n 1, 1) := by decide +kernel
theorem dX8_countCommands_12 : decode cX8_countCommands 12 = .ok (.aload_n 0, 1) := by decide +kernel
theorem dX8_countCommands_13 : decode cX8_countCommands 13 = .ok (.invokevirtual 213, 3) := by decide +kernel
theorem dX8_countCommands_16 : decode cX8_countCommands 16 = .ok (.aload_n 0, 1) := by decide +kernel
theorem dX8_countCommands_17 : decode cX8_countCommands 17 = .ok (.getfield 179, 3) := by decide +kernel
theorem dX8_countCommands_20 : decode cX8_countCommands 20 = .ok (.ifCond .ne 65, 3) := by decide +kernel
theorem dX8_countCommands_23 : decode cX8_countCommands 23 = .ok (.aload_n 0, 1) := by decide +kernel
theorem dX8_countCommands_24 : decode cX8_countCommands 24 = .ok (.getfield 182, 3) := by decide +kernel
theorem dX8_countCommands_27 : decode cX8_countCommands 27 = .ok (.aload_n 0, 1) := by decide +kernel
theorem dX8_countCommands_28 : decode cX8_countCommands 28 = .ok (.getfield 176, 3) := by decide +kernel
theorem dX8_countCommands_31 : decode cX8_countCommands 31 = .ok (.if_icmp .ge 54, 3) := by decide +kernel
theorem dX8_countCommands_34 : decode cX8_countCommands 34 = .ok (.aload_n 0, 1) := by decide +kernel
theorem dX8_countCommands_35 : decode cX8_countCommands 35 = .ok (.aload_n 0, 1) := by decide +kernel
theorem dX8_countCommands_36 : decode cX8_countCommands 36 = .ok (.bipush 59, 2) := by decide +kernel
theorem dX8_countCommands_38 : decode cX8_countCommands 38 = .ok (.bipush 59, 2) := by decide +kernel
theorem dX8_countCommands_40 : decode cX8_countCommands 40 = .ok (.invokevirtual 185, 3) := by decide +kernel
theorem dX8_countCommands_43 : decode cX8_countCommands 43 = .ok (.ifCond .ne 7, 3) := by decide +kernel
theorem dX8_countCommands_46 : decode cX8_countCommands 46 = .ok (.iconst 1, 1) := by decide +kernel
theorem dX8_countCommands_47 : decode cX8_countCommands 47 = .ok (.goto 4, 3) := by decide +kernel
theorem dX8_countCommands_50 : decode cX8_countCommands 50 = .ok (.iconst 0, 1) := by decide +kernel
theorem dX8_countCommands_51 : decode cX8_countCommands 51 = .ok (.putfield 179, 3) := by decide +kernel
theorem dX8_countCommands_54 : decode cX8_countCommands 54 = .ok (.aload_n 0, 1) := by decide +kernel
theorem dX8_countCommands_55 : decode cX8_countCommands 55 = .ok (.dup, 1) := by decide +kernel
theorem dX8_countCommands_56 : decode cX8_countCommands 56 = .ok (.getfield 182, 3) := by decide +kernel
theorem dX8_countCommands_59 : decode cX8_countCommands 59 = .ok (.aload_n 0, 1) := by decide +kernel
theorem dX8_countCommands_60 : decode cX8_countCommands 60 = .ok (.getfield 179, 3) := by decide +kernel
theorem dX8_countCommands_63 : decode cX8_countCommands 63 = .ok (.ifCond .eq 7, 3) := by decide +kernel
theorem dX8_countCommands_66 : decode cX8_countCommands 66 = .ok (.iconst 0, 1) := by decide +kernel
theorem dX8_countCommands_67 : decode cX8_countCommands 67 = .ok (.goto 4, 3) := by decide +kernel
theorem dX8_countCommands_70 : decode cX8_countCommands 70 = .ok (.iconst 1, 1) := by decide +kernel
theorem dX8_countCommands_71 : decode cX8_countCommands 71 = .ok (.iadd, 1) := by decide +kernel
theorem dX8_countCommands_72 : decode cX8_countCommands 72 = .ok (.putfield 182, 3) := by decide +kernel
theorem dX8_countCommands_75 : decode cX8_countCommands 75 = .ok (.aload_n 0, 1) := by decide +kernel
theorem dX8_countCommands_76 : decode cX8_countCommands 76 = .ok (.invokevirtual 213, 3) := by decide +kernel
theorem dX8_countCommands_79 : decode cX8_countCommands 79 = .ok (.iinc 1 1, 3) := by decide +kernel
theorem dX8_countCommands_82 : decode cX8_countCommands 82 = .ok (.goto (-66), 3) := by decide +kernel
theorem dX8_countCommands_85 : decode cX8_countCommands 85 = .ok (.iload_n 1, 1) := by decide +kernel
theorem dX8_countCommands_86 : decode cX8_countCommands 86 = .ok (.ireturn, 1) := by decide +kernel
theorem dX8_carryOut_0 : decode cX8_carryOut 0 = .ok (.aload_n 0, 1) := by decide +kernel
theorem dX8_carryOut_1 : decode cX8_carryOut 1 = .ok (.getfield 197, 3) := by decide +kernel
theorem dX8_carryOut_4 : decode cX8_carryOut 4 = .ok (.lookupswitch 172 #[(48, 76), (98, 145), (99, 163), (106, 154), (108, 124), (115, 107), (116, 98), (120, 89)], 76) := by decide +kernel
theorem dX8_carryOut_80 : decode cX8_carryOut 80 = .ok (.aload_n 0, 1) := by decide +kernel
theorem dX8_carryOut_81 : decode cX8_carryOut 81 = .ok (.aload_n 0, 1) := by decide +kernel
theorem dX8_carryOut_82 : decode cX8_carryOut 82 = .ok (.getfield 188, 3) := by decide +kernel
theorem dX8_carryOut_85 : decode cX8_carryOut 85 = .ok (.aload_n 0, 1) := by decide +kernel
theorem dX8_carryOut_86 : decode cX8_carryOut 86 = .ok (.getfield 191, 3) := by decide +kernel
theorem dX8_carryOut_89 : decode cX8_carryOut 89 = .ok (.invokevirtual 216, 3) := by decide +kernel
theorem dX8_carryOut_92 : decode cX8_carryOut 92 = .ok (.ireturn, 1) := by decide +kernel
theorem dX8_carryOut_93 : decode cX8_carryOut 93 = .ok (.aload_n 0, 1) := by decide +kernel
theorem dX8_carryOut_94 : decode cX8_carryOut 94 = .ok (.aload_n 0, 1) := by decide +kernel
theorem dX8_carryOut_95 : decode cX8_carryOut 95 = .ok (.getfield 188, 3) := by decide +kernel
theorem dX8_carryOut_98 : decode cX8_carryOut 98 = .ok (.invokevirtual 219, 3) := by decide +kernel
theorem dX8_carryOut_101 : decode cX8_carryOut 101 = .ok (.ireturn, 1) := by decide +kernel
theorem dX8_carryOut_102 : decode cX8_carryOut 102 = .ok (.aload_n 0, 1) := by decide +kernel
theorem dX8_carryOut_103 : decode cX8_carryOut 103 = .ok (.aload_n 0, 1) := by decide +kernel
theorem dX8_carryOut_104 : decode cX8_carryOut 104 = .ok (.getfield 188, 3) := by decide +kernel
theorem dX8_carryOut_107 : decode cX8_carryOut 107 = .ok (.invokevirtual 222, 3) := by decide +kernel
theorem dX8_carryOut_110 : decode cX8_carryOut 110 = .ok (.ireturn, 1) := by decide +kernel
theorem dX8_carryOut_111 : decode cX8_carryOut 111 = .ok (.aload_n 0, 1) := by decide +kernel
theorem dX8_carryOut_112 : decode cX8_carryOut 112 = .ok (.aload_n 0, 1) := by decide +kernel
theorem dX8_carryOut_113 : decode cX8_carryOut 113 = .ok (.getfield 188, 3) := by decide +kernel
theorem dX8_carryOut_116 : decode cX8_carryOut 116 = .ok (.aload_n 0, 1) := by decide +kernel
theorem dX8_carryOut_117 : decode cX8_carryOut 117 = .ok (.getfield 191, 3) := by decide +kernel
theorem dX8_carryOut_120 : decode cX8_carryOut 120 = .ok (.aload_n 0, 1) := by decide +kernel
theorem dX8_carryOut_121 : decode cX8_carryOut 121 = .ok (.getfield 210, 3) := by decide +kernel
theorem dX8_carryOut_124 : decode cX8_carryOut 124 = .ok (.invokevirtual 225, 3) := by decide +kernel
theorem dX8_carryOut_127 : decode cX8_carryOut 127 = .ok (.ireturn, 1) := by decide +kernel
theorem dX8_carryOut_128 : decode cX8_carryOut 128 = .ok (.aload_n 0, 1) := by decide +kernel
theorem dX8_carryOut_129 : decode cX8_carryOut 129 = .ok (.aload_n 0, 1) := by decide +kernel
theorem dX8_carryOut_130 : decode cX8_carryOut 130 = .ok (.getfield 188, 3) := by decide +kernel
theorem dX8_carryOut_133 : decode cX8_carryOut 133 = .ok (.invokevirtual 229, 3) := by decide +kernel
theorem dX8_carryOut_136 : decode cX8_carryOut 136 = .ok (.istore_n 1, 1) := by decide +kernel
theorem dX8_carryOut_137 : decode cX8_carryOut 137 = .ok (.iload_n 1, 1) := by decide +kernel
theorem dX8_carryOut_138 : decode cX8_carryOut 138 = .ok (.bipush (-4), 2) := by decide +kernel
theorem dX8_carryOut_140 : decode cX8_carryOut 140 = .ok (.if_icmp .ne 7, 3) := by decide +kernel
theorem dX8_carryOut_143 : decode cX8_carryOut 143 = .ok (.iconst 0, 1) := by decide +kernel
theorem dX8_carryOut_144 : decode cX8_carryOut 144 = .ok (.goto 4, 3) := by decide +kernel
theorem dX8_carryOut_147 : decode cX8_carryOut 147 = .ok (.iload_n 1, 1) := by decide +kernel
theorem dX8_carryOut_148 : decode cX8_carryOut 148 = .ok (.ireturn, 1) := by decide +kernel
theorem dX8_carryOut_149 : decode cX8_carryOut 149 = .ok (.aload_n 0, 1) := by decide +kernel
theorem dX8_carryOut_150 : decode cX8_carryOut 150 = .ok (.aload_n 0, 1) := by decide +kernel
theorem dX8_carryOut_151 : decode cX8_carryOut 151 = .ok (.getfield 188, 3) := by decide +kernel
theorem dX8_carryOut_154 : decode cX8_carryOut 154 = .ok (.invokevirtual 232, 3) := by decide +kernel
theorem dX8_carryOut_157 : decode cX8_carryOut 157 = .ok (.ireturn, 1) := by decide +kernel
theorem dX8_carryOut_158 : decode cX8_carryOut 158 = .ok (.aload_n 0, 1) := by decide +kernel
theorem dX8_carryOut_159 : decode cX8_carryOut 159 = .ok (.aload_n 0, 1) := by decide +kernel
theorem dX8_carryOut_160 : decode cX8_carryOut 160 = .ok (.getfield 188, 3) := by decide +kernel
theorem dX8_carryOut_163 : decode cX8_carryOut 163 = .ok (.invokevirtual 235, 3) := by decide +kernel
theorem dX8_carryOut_166 : decode cX8_carryOut 166 = .ok (.ireturn, 1) := by decide +kernel
theorem dX8_carryOut_167 : decode cX8_carryOut 167 = .ok (.aload_n 0, 1) := by decide +kernel
theorem dX8_carryOut_168 : decode cX8_carryOut 168 = .ok (.aload_n 0, 1) := by decide +kernel
theorem dX8_carryOut_169 : decode cX8_carryOut 169 = .ok (.getfield 188, 3) := by decide +kernel
theorem dX8_carryOut_172 : decode cX8_carryOut 172 = .ok (.invokevirtual 238, 3) := by decide +kernel
theorem dX8_carryOut_175 : decode cX8_carryOut 175 = .ok (.ireturn, 1) := by decide +kernel
theorem dX8_carryOut_176 : decode cX8_carryOut 176 = .ok (.aload_n 0, 1) := by decide +kernel
theorem dX8_carryOut_177 : decode cX8_carryOut 177 = .ok (.aload_n 0, 1) := by decide +kernel
theorem dX8_carryOut_178 : decode cX8_carryOut 178 = .ok (.getfield 188, 3) := by decide +kernel
theorem dX8_carryOut_181 : decode cX8_carryOut 181 = .ok (.invokevirtual 240, 3) := by decide +kernel
theorem dX8_carryOut_184 : decode cX8_carryOut 184 = .ok (.ireturn, 1) := by decide +kernel
theorem dX8_read_0 : decode cX8_read 0 = .ok (.aload_n 0, 1) := by decide +kernel
theorem dX8_read_1 : decode cX8_read 1 = .ok (.invokevirtual 243, 3) := by decide +kernel
theorem dX8_read_4 : decode cX8_read 4 = .ok (.istore_n 1, 1) := by decide +kernel
theorem dX8_read_5 : decode cX8_read 5 = .ok (.aload_n 0, 1) := by decide +kernel
theorem dX8_read_6 : decode cX8_read 6 = .ok (.getfield 179, 3) := by decide +kernel
theorem dX8_read_9 : decode cX8_read 9 = .ok (.ifCond .eq 16, 3) := by decide +kernel
theorem dX8_read_12 : decode cX8_read 12 = .ok (.aload_n 0, 1) := by decide +kernel
theorem dX8_read_13 : decode cX8_read 13 = .ok (.iconst 0, 1) := by decide +kernel
theorem dX8_read_14 : decode cX8_read 14 = .ok (.putfield 176, 3) := by decide +kernel
theorem dX8_read_17 : decode cX8_read 17 = .ok (.bipush (-100), 2) := by decide +kernel
theorem dX8_read_19 : decode cX8_read 19 = .ok (.aload_n 0, 1) := by decide +kernel
theorem dX8_read_20 : decode cX8_read 20 = .ok (.getfield 182, 3) := by decide +kernel
theorem dX8_read_23 : decode cX8_read 23 = .ok (.isub, 1) := by decide +kernel
theorem dX8_read_24 : decode cX8_read 24 = .ok (.ireturn, 1) := by decide +kernel
theorem dX8_read_25 : decode cX8_read 25 = .ok (.aload_n 0, 1) := by decide +kernel
theorem dX8_read_26 : decode cX8_read 26 = .ok (.getfield 9, 3) := by decide +kernel
theorem dX8_read_29 : decode cX8_read 29 = .ok (.aload_n 0, 1) := by decide +kernel
theorem dX8_read_30 : decode cX8_read 30 = .ok (.getfield 16, 3) := by decide +kernel
theorem dX8_read_33 : decode cX8_read 33 = .ok (.invokestatic 63, 3) := by decide +kernel
theorem dX8_read_36 : decode cX8_read 36 = .ok (.aload_n 0, 1) := by decide +kernel
theorem dX8_read_37 : decode cX8_read 37 = .ok (.iconst 1, 1) := by decide +kernel
theorem dX8_read_38 : decode cX8_read 38 = .ok (.putfield 53, 3) := by decide +kernel
theorem dX8_read_41 : decode cX8_read 41 = .ok (.iconst 0, 1) := by decide +kernel
theorem dX8_read_42 : decode cX8_read 42 = .ok (.istore_n 2, 1) := by decide +kernel
theorem dX8_read_43 : decode cX8_read 43 = .ok (.aload_n 0, 1) := by decide +kernel
theorem dX8_read_44 : decode cX8_read 44 = .ok (.iconst 0, 1) := by decide +kernel
theorem dX8_read_45 : decode cX8_read 45 = .ok (.putfield 182, 3) := by decide +kernel
theorem dX8_read_48 : decode cX8_read 48 = .ok (.iconst 0, 1) := by decide +kernel
theorem dX8_read_49 : decode cX8_read 49 = .ok (.istore_n 3, 1) := by decide +kernel
theorem dX8_read_50 : decode cX8_read 50 = .ok (.iload_n 3, 1) := by decide +kernel
theorem dX8_read_51 : decode cX8_read 51 = .ok (.iload_n 1, 1) := by decide +kernel
theorem dX8_read_52 : decode cX8_read 52 = .ok (.if_icmp .ge 37, 3) := by decide +kernel
theorem dX8_read_55 : decode cX8_read 55 = .ok (.iload_n 2, 1) := by decide +kernel
theorem dX8_read_56 : decode cX8_read 56 = .ok (.ifCond .lt 33, 3) := by decide +kernel
theorem dX8_read_59 : decode cX8_read 59 = .ok (.aload_n 0, 1) := by decide +kernel
theorem dX8_read_60 : decode cX8_read 60 = .ok (.iload_n 3, 1) := by decide +kernel
theorem dX8_read_61 : decode cX8_read 61 = .ok (.putfield 57, 3) := by decide +kernel
theorem dX8_read_64 : decode cX8_read 64 = .ok (.aload_n 0, 1) := by decide +kernel
theorem dX8_read_65 : decode cX8_read 65 = .ok (.invokevirtual 213, 3) := by decide +kernel
theorem dX8_read_68 : decode cX8_read 68 = .ok (.aload_n 0, 1) := by decide +kernel
theorem dX8_read_69 : decode cX8_read 69 = .ok (.dup, 1) := by decide +kernel
theorem dX8_read_70 : decode cX8_read 70 = .ok (.getfield 182, 3) := by decide +kernel
theorem dX8_read_73 : decode cX8_read 73 = .ok (.iconst 1, 1) := by decide +kernel
theorem dX8_read_74 : decode cX8_read 74 = .ok (.iadd, 1) := by decide +kernel
theorem dX8_read_75 : decode cX8_read 75 = .ok (.putfield 182, 3) := by decide +kernel
theorem dX8_read_78 : decode cX8_read 78 = .ok (.aload_n 0, 1) := by decide +kernel
theorem dX8_read_79 : decode cX8_read 79 = .ok (.invokevirtual 246, 3) := by decide +kernel
theorem dX8_read_82 : decode cX8_read 82 = .ok (.istore_n 2, 1) := by decide +kernel
theorem dX8_read_83 : decode cX8_read 83 = .ok (.iinc 3 1, 3) := by decide +kernel
theorem dX8_read_86 : decode cX8_read 86 = .ok (.goto (-36), 3) := by decide +kernel
theorem dX8_read_89 : decode cX8_read 89 = .ok (.aload_n 0, 1) := by decide +kernel
theorem dX8_read_90 : decode cX8_read 90 = .ok (.iconst 0, 1) := by decide +kernel
theorem dX8_read_91 : decode cX8_read 91 = .ok (.putfield 53, 3) := by decide +kernel
theorem dX8_read_94 : decode cX8_read 94 = .ok (.aload_n 0, 1) := by decide +kernel
theorem dX8_read_95 : decode cX8_read 95 = .ok (.iconst 0, 1) := by decide +kernel
theorem dX8_read_96 : decode cX8_read 96 = .ok (.putfield 176, 3) := by decide +kernel
theorem dX8_read_99 : decode cX8_read 99 = .ok (.iload_n 2, 1) := by decide +kernel
theorem dX8_read_100 : decode cX8_read 100 = .ok (.ifCond .ge 28, 3) := by decide +kernel
theorem dX8_read_103 : decode cX8_read 103 = .ok (.aload_n 0, 1) := by decide +kernel
theorem dX8_read_104 : decode cX8_read 104 = .ok (.getfield 16, 3) := by decide +kernel
theorem dX8_read_107 : decode cX8_read 107 = .ok (.aload_n 0, 1) := by decide +kernel
theorem dX8_read_108 : decode cX8_read 108 = .ok (.getfield 9, 3) := by decide +kernel
theorem dX8_read_111 : decode cX8_read 111 = .ok (.invokestatic 63, 3) := by decide +kernel
theorem dX8_read_114 : decode cX8_read 114 = .ok (.iload_n 2, 1) := by decide +kernel
theorem dX8_read_115 : decode cX8_read 115 = .ok (.bipush (-3), 2) := by decide +kernel
theorem dX8_read_117 : decode cX8_read 117 = .ok (.if_icmp .ne 8, 3) := by decide +kernel
theorem dX8_read_120 : decode cX8_read 120 = .ok (.bipush (-3), 2) := by decide +kernel
theorem dX8_read_122 : decode cX8_read 122 = .ok (.goto 5, 3) := by decide +kernel
theorem dX8_read_125 : decode cX8_read 125 = .ok (.bipush (-2), 2) := by decide +kernel
theorem dX8_read_127 : decode cX8_read 127 = .ok (.ireturn, 1) := by decide +kernel
theorem dX8_read_128 : decode cX8_read 128 = .ok (.aload_n 0, 1) := by decide +kernel
theorem dX8_read_129 : decode cX8_read 129 = .ok (.aload_n 0, 1) := by decide +kernel
theorem dX8_read_130 : decode cX8_read 130 = .ok (.getfield 16, 3) := by decide +kernel
theorem dX8_read_133 : decode cX8_read 133 = .ok (.invokevirtual 67, 3) := by decide +kernel
theorem dX8_read_136 : decode cX8_read 136 = .ok (.iload_n 1, 1) := by decide +kernel
theorem dX8_read_137 : decode cX8_read 137 = .ok (.ireturn, 1) := by decide +kernel
theorem dX8_refusal_0 : decode cX8_refusal 0 = .ok (.iload_n 1, 1) := by decide +kernel
theorem dX8_refusal_1 : decode cX8_refusal 1 = .ok (.iconst 0, 1) := by decide +kernel
theorem dX8_refusal_2 : decode cX8_refusal 2 = .ok (.iconst 2, 1) := by decide +kernel
theorem dX8_refusal_3 : decode cX8_refusal 3 = .ok (.invokestatic 71, 3) := by decide +kernel
theorem dX8_refusal_6 : decode cX8_refusal 6 = .ok (.ifCond .ne 6, 3) := by decide +kernel
theorem dX8_refusal_9 : decode cX8_refusal 9 = .ok (.bipush (-2), 2) := by decide +kernel
theorem dX8_refusal_11 : decode cX8_refusal 11 = .ok (.ireturn, 1) := by decide +kernel
theorem dX8_refusal_12 : decode cX8_refusal 12 = .ok (.aload_n 0, 1) := by decide +kernel
theorem dX8_refusal_13 : decode cX8_refusal 13 = .ok (.getfield 47, 3) := by decide +kernel
theorem dX8_refusal_16 : decode cX8_refusal 16 = .ok (.ifCond .eq 15, 3) := by decide +kernel
theorem dX8_refusal_19 : decode cX8_refusal 19 = .ok (.iload_n 1, 1) := by decide +kernel
theorem dX8_refusal_20 : decode cX8_refusal 20 = .ok (.iconst 2, 1) := by decide +kernel
theorem dX8_refusal_21 : decode cX8_refusal 21 = .ok (.if_icmp .ne 13, 3) := by decide +kernel
theorem dX8_refusal_24 : decode cX8_refusal 24 = .ok (.aload_n 0, 1) := by decide +kernel
theorem dX8_refusal_25 : decode cX8_refusal 25 = .ok (.getfield 24, 3) := by decide +kernel
theorem dX8_refusal_28 : decode cX8_refusal 28 = .ok (.ifCond .ge 6, 3) := by decide +kernel
theorem dX8_refusal_31 : decode cX8_refusal 31 = .ok (.bipush (-4), 2) := by decide +kernel
theorem dX8_refusal_33 : decode cX8_refusal 33 = .ok (.ireturn, 1) := by decide +kernel
theorem dX8_refusal_34 : decode cX8_refusal 34 = .ok (.iload_n 1, 1) := by decide +kernel
theorem dX8_refusal_35 : decode cX8_refusal 35 = .ok (.ifCond .ne 10, 3) := by decide +kernel
theorem dX8_refusal_38 : decode cX8_refusal 38 = .ok (.aload_n 0, 1) := by decide +kernel
theorem dX8_refusal_39 : decode cX8_refusal 39 = .ok (.getfield 47, 3) := by decide +kernel
theorem dX8_refusal_42 : decode cX8_refusal 42 = .ok (.goto 19, 3) := by decide +kernel
theorem dX8_refusal_45 : decode cX8_refusal 45 = .ok (.iload_n 1, 1) := by decide +kernel
theorem dX8_refusal_46 : decode cX8_refusal 46 = .ok (.iconst 1, 1) := by decide +kernel
theorem dX8_refusal_47 : decode cX8_refusal 47 = .ok (.if_icmp .ne 10, 3) := by decide +kernel
theorem dX8_refusal_50 : decode cX8_refusal 50 = .ok (.aload_n 0, 1) := by decide +kernel
theorem dX8_refusal_51 : decode cX8_refusal 51 = .ok (.getfield 50, 3) := by decide +kernel
theorem dX8_refusal_54 : decode cX8_refusal 54 = .ok (.goto 7, 3) := by decide +kernel
theorem dX8_refusal_57 : decode cX8_refusal 57 = .ok (.aload_n 0, 1) := by decide +kernel
theorem dX8_refusal_58 : decode cX8_refusal 58 = .ok (.getfield 24, 3) := by decide +kernel
theorem dX8_refusal_61 : decode cX8_refusal 61 = .ok (.ireturn, 1) := by decide +kernel
theorem dX8_sumOver_0 : decode cX8_sumOver 0 = .ok (.iconst 0, 1) := by decide +kernel
theorem dX8_sumOver_1 : decode cX8_sumOver 1 = .ok (.istore_n 2, 1) := by decide +kernel
theorem dX8_sumOver_2 : decode cX8_sumOver 2 = .ok (.iconst 0, 1) := by decide +kernel
theorem dX8_sumOver_3 : decode cX8_sumOver 3 = .ok (.istore_n 3, 1) := by decide +kernel
theorem dX8_sumOver_4 : decode cX8_sumOver 4 = .ok (.iload_n 3, 1) := by decide +kernel
theorem dX8_sumOver_5 : decode cX8_sumOver 5 = .ok (.aload_n 0, 1) := by decide +kernel
theorem dX8_sumOver_6 : decode cX8_sumOver 6 = .ok (.getfield 9, 3) := by decide +kernel
theorem dX8_sumOver_9 : decode cX8_sumOver 9 = .ok (.iconst 0, 1) := by decide +kernel
theorem dX8_sumOver_10 : decode cX8_sumOver 10 = .ok (.iaload, 1) := by decide +kernel
theorem dX8_sumOver_11 : decode cX8_sumOver 11 = .ok (.if_icmp .ge 63, 3) := by decide +kernel
theorem dX8_sumOver_14 : decode cX8_sumOver 14 = .ok (.aload_n 0, 1) := by decide +kernel
theorem dX8_sumOver_15 : decode cX8_sumOver 15 = .ok (.iload_n 3, 1) := by decide +kernel
theorem dX8_sumOver_16 : decode cX8_sumOver 16 = .ok (.invokevirtual 83, 3) := by decide +kernel
theorem dX8_sumOver_19 : decode cX8_sumOver 19 = .ok (.ifCond .ge 7, 3) := by decide +kernel
theorem dX8_sumOver_22 : decode cX8_sumOver 22 = .ok (.iconst 1, 1) := by decide +kernel
theorem dX8_sumOver_23 : decode cX8_sumOver 23 = .ok (.goto 4, 3) := by decide +kernel
theorem dX8_sumOver_26 : decode cX8_sumOver 26 = .ok (.iconst 0, 1) := by decide +kernel
theorem dX8_sumOver_27 : decode cX8_sumOver 27 = .ok (.istore 4, 2) := by decide +kernel
theorem dX8_sumOver_29 : decode cX8_sumOver 29 = .ok (.iload_n 2, 1) := by decide +kernel
theorem dX8_sumOver_30 : decode cX8_sumOver 30 = .ok (.iload_n 1, 1) := by decide +kernel
theorem dX8_sumOver_31 : decode cX8_sumOver 31 = .ok (.iconst 2, 1) := by decide +kernel
theorem dX8_sumOver_32 : decode cX8_sumOver 32 = .ok (.if_icmp .ne 11, 3) := by decide +kernel
theorem dX8_sumOver_35 : decode cX8_sumOver 35 = .ok (.aload_n 0, 1) := by decide +kernel
theorem dX8_sumOver_36 : decode cX8_sumOver 36 = .ok (.iload_n 3, 1) := by decide +kernel
theorem dX8_sumOver_37 : decode cX8_sumOver 37 = .ok (.invokevirtual 75, 3) := by decide +kernel
theorem dX8_sumOver_40 : decode cX8_sumOver 40 = .ok (.goto 26, 3) := by decide +kernel
theorem dX8_sumOver_43 : decode cX8_sumOver 43 = .ok (.iload 4, 2) := by decide +kernel
theorem dX8_sumOver_45 : decode cX8_sumOver 45 = .ok (.ifCond .ne 7, 3) := by decide +kernel
theorem dX8_sumOver_48 : decode cX8_sumOver 48 = .ok (.iconst 0, 1) := by decide +kernel
theorem dX8_sumOver_49 : decode cX8_sumOver 49 = .ok (.goto 17, 3) := by decide +kernel
theorem dX8_sumOver_52 : decode cX8_sumOver 52 = .ok (.iload_n 1, 1) := by decide +kernel
theorem dX8_sumOver_53 : decode cX8_sumOver 53 = .ok (.iconst 1, 1) := by decide +kernel
theorem dX8_sumOver_54 : decode cX8_sumOver 54 = .ok (.if_icmp .ne 7, 3) := by decide +kernel
theorem dX8_sumOver_57 : decode cX8_sumOver 57 = .ok (.iconst 1, 1) := by decide +kernel
theorem dX8_sumOver_58 : decode cX8_sumOver 58 = .ok (.goto 8, 3) := by decide +kernel
theorem dX8_sumOver_61 : decode cX8_sumOver 61 = .ok (.aload_n 0, 1) := by decide +kernel
theorem dX8_sumOver_62 : decode cX8_sumOver 62 = .ok (.iload_n 3, 1) := by decide +kernel
theorem dX8_sumOver_63 : decode cX8_sumOver 63 = .ok (.invokevirtual 103, 3) := by decide +kernel
theorem dX8_sumOver_66 : decode cX8_sumOver 66 = .ok (.iadd, 1) := by decide +kernel
theorem dX8_sumOver_67 : decode cX8_sumOver 67 = .ok (.istore_n 2, 1) := by decide +kernel
theorem dX8_sumOver_68 : decode cX8_sumOver 68 = .ok (.iinc 3 1, 3) := by decide +kernel
theorem dX8_sumOver_71 : decode cX8_sumOver 71 = .ok (.goto (-67), 3) := by decide +kernel
theorem dX8_sumOver_74 : decode cX8_sumOver 74 = .ok (.iload_n 2, 1) := by decide +kernel
theorem dX8_sumOver_75 : decode cX8_sumOver 75 = .ok (.ireturn, 1) := by decide +kernel
theorem dX8_account_0 : decode cX8_account 0 = .ok (.iload_n 1, 1) := by decide +kernel
theorem dX8_account_1 : decode cX8_account 1 = .ok (.tableswitch 93 0 10 #[59, 66, 66, 66, 72, 72, 72, 72, 72, 83, 88], 59) := by decide +kernel
theorem dX8_account_60 : decode cX8_account 60 = .ok (.aload_n 0, 1) := by decide +kernel
theorem dX8_account_61 : decode cX8_account 61 = .ok (.getfield 9, 3) := by decide +kernel
theorem dX8_account_64 : decode cX8_account 64 = .ok (.iconst 0, 1) := by decide +kernel
theorem dX8_account_65 : decode cX8_account 65 = .ok (.iaload, 1) := by decide +kernel
theorem dX8_account_66 : decode cX8_account 66 = .ok (.ireturn, 1) := by decide +kernel
theorem dX8_account_67 : decode cX8_account 67 = .ok (.aload_n 0, 1) := by decide +kernel
theorem dX8_account_68 : decode cX8_account 68 = .ok (.iload_n 1, 1) := by decide +kernel
theorem dX8_account_69 : decode cX8_account 69 = .ok (.invokevirtual 249, 3) := by decide +kernel
theorem dX8_account_72 : decode cX8_account 72 = .ok (.ireturn, 1) := by decide +kernel
theorem dX8_account_73 : decode cX8_account 73 = .ok (.aload_n 0, 1) := by decide +kernel
theorem dX8_account_74 : decode cX8_account 74 = .ok (.getfield 9, 3) := by decide +kernel
theorem dX8_account_77 : decode cX8_account 77 = .ok (.iconst 4, 1) := by decide +kernel
theorem dX8_account_78 : decode cX8_account 78 = .ok (.iload_n 1, 1) := by decide +kernel
theorem dX8_account_79 : decode cX8_account 79 = .ok (.iadd, 1) := by decide +kernel
theorem dX8_account_80 : decode cX8_account 80 = .ok (.iconst 4, 1) := by decide +kernel
theorem dX8_account_81 : decode cX8_account 81 = .ok (.isub, 1) := by decide +kernel
theorem dX8_account_82 : decode cX8_account 82 = .ok (.iaload, 1) := by decide +kernel
theorem dX8_account_83 : decode cX8_account 83 = .ok (.ireturn, 1) := by decide +kernel
theorem dX8_account_84 : decode cX8_account 84 = .ok (.aload_n 0, 1) := by decide +kernel
theorem dX8_account_85 : decode cX8_account 85 = .ok (.getfield 176, 3) := by decide +kernel
theorem dX8_account_88 : decode cX8_account 88 = .ok (.ireturn, 1) := by decide +kernel
theorem dX8_account_89 : decode cX8_account 89 = .ok (.aload_n 0, 1) := by decide +kernel
theorem dX8_account_90 : decode cX8_account 90 = .ok (.getfield 60, 3) := by decide +kernel
theorem dX8_account_93 : decode cX8_account 93 = .ok (.ireturn, 1) := by decide +kernel
theorem dX8_account_94 : decode cX8_account 94 = .ok (.bipush (-2), 2) := by decide +kernel
theorem dX8_account_96 : decode cX8_account 96 = .ok (.ireturn, 1) := by decide +kernel
theorem dX8_isWell_0 : decode cX8_isWell 0 = .ok (.iconst 1, 1) := by decide +kernel
theorem dX8_isWell_1 : decode cX8_isWell 1 = .ok (.ireturn, 1) := by decide +kernel
theorem dX8_mean_0 : decode cX8_mean 0 = .ok (.iconst 0, 1) := by decide +kernel
theorem dX8_mean_1 : decode cX8_mean 1 = .ok (.istore_n 1, 1) := by decide +kernel
theorem dX8_mean_2 : decode cX8_mean 2 = .ok (.iconst 0, 1) := by decide +kernel
theorem dX8_mean_3 : decode cX8_mean 3 = .ok (.istore_n 2, 1) := by decide +kernel
theorem dX8_mean_4 : decode cX8_mean 4 = .ok (.iload_n 2, 1) := by decide +kernel
theorem dX8_mean_5 : decode cX8_mean 5 = .ok (.aload_n 0, 1) := by decide +kernel
theorem dX8_mean_6 : decode cX8_mean 6 = .ok (.getfield 9, 3) := by decide +kernel
theorem dX8_mean_9 : decode cX8_mean 9 = .ok (.iconst 0, 1) := by decide +kernel
theorem dX8_mean_10 : decode cX8_mean 10 = .ok (.iaload, 1) := by decide +kernel
theorem dX8_mean_11 : decode cX8_mean 11 = .ok (.if_icmp .ge 17, 3) := by decide +kernel
theorem dX8_mean_14 : decode cX8_mean 14 = .ok (.iload_n 1, 1) := by decide +kernel
theorem dX8_mean_15 : decode cX8_mean 15 = .ok (.aload_n 0, 1) := by decide +kernel
theorem dX8_mean_16 : decode cX8_mean 16 = .ok (.iload_n 2, 1) := by decide +kernel
theorem dX8_mean_17 : decode cX8_mean 17 = .ok (.invokevirtual 86, 3) := by decide +kernel
theorem dX8_mean_20 : decode cX8_mean 20 = .ok (.iadd, 1) := by decide +kernel
theorem dX8_mean_21 : decode cX8_mean 21 = .ok (.istore_n 1, 1) := by decide +kernel
theorem dX8_mean_22 : decode cX8_mean 22 = .ok (.iinc 2 1, 3) := by decide +kernel
theorem dX8_mean_25 : decode cX8_mean 25 = .ok (.goto (-21), 3) := by decide +kernel
theorem dX8_mean_28 : decode cX8_mean 28 = .ok (.aload_n 0, 1) := by decide +kernel
theorem dX8_mean_29 : decode cX8_mean 29 = .ok (.getfield 9, 3) := by decide +kernel
theorem dX8_mean_32 : decode cX8_mean 32 = .ok (.iconst 0, 1) := by decide +kernel
theorem dX8_mean_33 : decode cX8_mean 33 = .ok (.iaload, 1) := by decide +kernel
theorem dX8_mean_34 : decode cX8_mean 34 = .ok (.ifCond .ne 8, 3) := by decide +kernel
theorem dX8_mean_37 : decode cX8_mean 37 = .ok (.bipush (-4), 2) := by decide +kernel
theorem dX8_mean_39 : decode cX8_mean 39 = .ok (.goto 15, 3) := by decide +kernel
theorem dX8_mean_42 : decode cX8_mean 42 = .ok (.iload_n 1, 1) := by decide +kernel
theorem dX8_mean_43 : decode cX8_mean 43 = .ok (.i2f, 1) := by decide +kernel
theorem dX8_mean_44 : decode cX8_mean 44 = .ok (.aload_n 0, 1) := by decide +kernel
theorem dX8_mean_45 : decode cX8_mean 45 = .ok (.iconst 2, 1) := by decide +kernel
theorem dX8_mean_46 : decode cX8_mean 46 = .ok (.invokevirtual 249, 3) := by decide +kernel
theorem dX8_mean_49 : decode cX8_mean 49 = .ok (.i2f, 1) := by decide +kernel
theorem dX8_mean_50 : decode cX8_mean 50 = .ok (.fdiv, 1) := by decide +kernel
theorem dX8_mean_51 : decode cX8_mean 51 = .ok (.invokestatic 252, 3) := by decide +kernel
theorem dX8_mean_54 : decode cX8_mean 54 = .ok (.ireturn, 1) := by decide +kernel
theorem dX8_undo_0 : decode cX8_undo 0 = .ok (.aload_n 0, 1) := by decide +kernel
theorem dX8_undo_1 : decode cX8_undo 1 = .ok (.getfield 60, 3) := by decide +kernel
theorem dX8_undo_4 : decode cX8_undo 4 = .ok (.ifCond .ne 6, 3) := by decide +kernel
theorem dX8_undo_7 : decode cX8_undo 7 = .ok (.bipush (-4), 2) := by decide +kernel
theorem dX8_undo_9 : decode cX8_undo 9 = .ok (.ireturn, 1) := by decide +kernel
theorem dX8_undo_10 : decode cX8_undo 10 = .ok (.aload_n 0, 1) := by decide +kernel
theorem dX8_undo_11 : decode cX8_undo 11 = .ok (.dup, 1) := by decide +kernel
theorem dX8_undo_12 : decode cX8_undo 12 = .ok (.getfield 60, 3) := by decide +kernel
theorem dX8_undo_15 : decode cX8_undo 15 = .ok (.iconst 1, 1) := by decide +kernel
theorem dX8_undo_16 : decode cX8_undo 16 = .ok (.isub, 1) := by decide +kernel
theorem dX8_undo_17 : decode cX8_undo 17 = .ok (.putfield 60, 3) := by decide +kernel
theorem dX8_undo_20 : decode cX8_undo 20 = .ok (.aload_n 0, 1) := by decide +kernel
theorem dX8_undo_21 : decode cX8_undo 21 = .ok (.getfield 21, 3) := by decide +kernel
theorem dX8_undo_24 : decode cX8_undo 24 = .ok (.aload_n 0, 1) := by decide +kernel
theorem dX8_undo_25 : decode cX8_undo 25 = .ok (.getfield 60, 3) := by decide +kernel
theorem dX8_undo_28 : decode cX8_undo 28 = .ok (.aaload, 1) := by decide +kernel
theorem dX8_undo_29 : decode cX8_undo 29 = .ok (.aload_n 0, 1) := by decide +kernel
theorem dX8_undo_30 : decode cX8_undo 30 = .ok (.getfield 9, 3) := by decide +kernel
theorem dX8_undo_33 : decode cX8_undo 33 = .ok (.invokestatic 63, 3) := by decide +kernel
theorem dX8_undo_36 : decode cX8_undo 36 = .ok (.aload_n 0, 1) := by decide +kernel
theorem dX8_undo_37 : decode cX8_undo 37 = .ok (.getfield 60, 3) := by decide +kernel
theorem dX8_undo_40 : decode cX8_undo 40 = .ok (.ireturn, 1) := by decide +kernel
theorem dX8_save_0 : decode cX8_save 0 = .ok (.aload_n 0, 1) := by decide +kernel
theorem dX8_save_1 : decode cX8_save 1 = .ok (.iconst 1, 1) := by decide +kernel
theorem dX8_save_2 : decode cX8_save 2 = .ok (.putfield 258, 3) := by decide +kernel
theorem dX8_save_5 : decode cX8_save 5 = .ok (.aload_n 0, 1) := by decide +kernel
theorem dX8_save_6 : decode cX8_save 6 = .ok (.getfield 9, 3) := by decide +kernel
theorem dX8_save_9 : decode cX8_save 9 = .ok (.aload_n 0, 1) := by decide +kernel
theorem dX8_save_10 : decode cX8_save 10 = .ok (.getfield 13, 3) := by decide +kernel
theorem dX8_save_13 : decode cX8_save 13 = .ok (.invokestatic 63, 3) := by decide +kernel
theorem dX8_save_16 : decode cX8_save 16 = .ok (.aload_n 0, 1) := by decide +kernel
theorem dX8_save_17 : decode cX8_save 17 = .ok (.getfield 9, 3) := by decide +kernel
theorem dX8_save_20 : decode cX8_save 20 = .ok (.iconst 0, 1) := by decide +kernel
theorem dX8_save_21 : decode cX8_save 21 = .ok (.iaload, 1) := by decide +kernel
theorem dX8_save_22 : decode cX8_save 22 = .ok (.ireturn, 1) := by decide +kernel
theorem dX8_restore_0 : decode cX8_restore 0 = .ok (.aload_n 0, 1) := by decide +kernel
theorem dX8_restore_1 : decode cX8_restore 1 = .ok (.getfield 258, 3) := by decide +kernel
theorem dX8_restore_4 : decode cX8_restore 4 = .ok (.ifCond .ne 6, 3) := by decide +kernel
theorem dX8_restore_7 : decode cX8_restore 7 = .ok (.bipush (-4), 2) := by decide +kernel
theorem dX8_restore_9 : decode cX8_restore 9 = .ok (.ireturn, 1) := by decide +kernel
theorem dX8_restore_10 : decode cX8_restore 10 = .ok (.aload_n 0, 1) := by decide +kernel
theorem dX8_restore_11 : decode cX8_restore 11 = .ok (.getfield 13, 3) := by decide +kernel
theorem dX8_restore_14 : decode cX8_restore 14 = .ok (.aload_n 0, 1) := by decide +kernel
theorem dX8_restore_15 : decode cX8_restore 15 = .ok (.getfield 9, 3) := by decide +kernel
theorem dX8_restore_18 : decode cX8_restore 18 = .ok (.invokestatic 63, 3) := by decide +kernel
theorem dX8_restore_21 : decode cX8_restore 21 = .ok (.aload_n 0, 1) := by decide +kernel
theorem dX8_restore_22 : decode cX8_restore 22 = .ok (.iconst 0, 1) := by decide +kernel
theorem dX8_restore_23 : decode cX8_restore 23 = .ok (.putfield 60, 3) := by decide +kernel
theorem dX8_restore_26 : decode cX8_restore 26 = .ok (.aload_n 0, 1) := by decide +kernel
theorem dX8_restore_27 : decode cX8_restore 27 = .ok (.getfield 9, 3) := by decide +kernel
theorem dX8_restore_30 : decode cX8_restore 30 = .ok (.iconst 0, 1) := by decide +kernel
theorem dX8_restore_31 : decode cX8_restore 31 = .ok (.iaload, 1) := by decide +kernel
theorem dX8_restore_32 : decode cX8_restore 32 = .ok (.ireturn, 1) := by decide +kernel
end
section
theorem dL_law_0 : decode cL_law 0 = .ok (.new 7, 3) := by decide +kernel
theorem dL_law_3 : decode cL_law 3 = .ok (.dup, 1) := by decide +kernel
theorem dL_law_4 : decode cL_law 4 = .ok (.invokespecial 9, 3) := by decide +kernel
theorem dL_law_7 : decode cL_law 7 = .ok (.astore_n 1, 1) := by decide +kernel
theorem dL_law_8 : decode cL_law 8 = .ok (.new 10, 3) := by decide +kernel
theorem dL_law_11 : decode cL_law 11 = .ok (.dup, 1) := by decide +kernel
theorem dL_law_12 : decode cL_law 12 = .ok (.invokespecial 12, 3) := by decide +kernel
theorem dL_law_15 : decode cL_law 15 = .ok (.astore_n 2, 1) := by decide +kernel
theorem dL_law_16 : decode cL_law 16 = .ok (.iconst 0, 1) := by decide +kernel
theorem dL_law_17 : decode cL_law 17 = .ok (.istore_n 3, 1) := by decide +kernel
theorem dL_law_18 : decode cL_law 18 = .ok (.iload_n 3, 1) := by decide +kernel
theorem dL_law_19 : decode cL_law 19 = .ok (.aload_n 0, 1) := by decide +kernel
theorem dL_law_20 : decode cL_law 20 = .ok (.arraylength, 1) := by decide +kernel
theorem dL_law_21 : decode cL_law 21 = .ok (.iconst 4, 1) := by decide +kernel
theorem dL_law_22 : decode cL_law 22 = .ok (.isub, 1) := by decide +kernel
theorem dL_law_23 : decode cL_law 23 = .ok (.if_icmp .gt 969, 3) := by decide +kernel
theorem dL_law_26 : decode cL_law 26 = .ok (.aload_n 0, 1) := by decide +kernel
theorem dL_law_27 : decode cL_law 27 = .ok (.iload_n 3, 1) := by decide +kernel
theorem dL_law_28 : decode cL_law 28 = .ok (.iaload, 1) := by decide +kernel
theorem dL_law_29 : decode cL_law 29 = .ok (.bipush 63, 2) := by decide +kernel
theorem dL_law_31 : decode cL_law 31 = .ok (.iand, 1) := by decide +kernel
theorem dL_law_32 : decode cL_law 32 = .ok (.tableswitch 954 0 33 #[152, 185, 208, 231, 274, 297, 320, 343, 366, 389, 422, 455, 478, 501, 534, 557, 580, 603, 626, 659, 692, 725, 748, 761, 784, 807, 830, 843, 866, 889, 902, 915, 928, 941], 152) := by decide +kernel
theorem dL_law_184 : decode cL_law 184 = .ok (.aload_n 1, 1) := by decide +kernel
theorem dL_law_185 : decode cL_law 185 = .ok (.aload_n 0, 1) := by decide +kernel
theorem dL_law_186 : decode cL_law 186 = .ok (.iload_n 3, 1) := by decide +kernel
theorem dL_law_187 : decode cL_law 187 = .ok (.iconst 1, 1) := by decide +kernel
theorem dL_law_188 : decode cL_law 188 = .ok (.iadd, 1) := by decide +kernel
theorem dL_law_189 : decode cL_law 189 = .ok (.iaload, 1) := by decide +kernel
theorem dL_law_190 : decode cL_law 190 = .ok (.aload_n 0, 1) := by decide +kernel
theorem dL_law_191 : decode cL_law 191 = .ok (.iload_n 3, 1) := by decide +kernel
theorem dL_law_192 : decode cL_law 192 = .ok (.iconst 2, 1) := by decide +kernel
theorem dL_law_193 : decode cL_law 193 = .ok (.iadd, 1) := by decide +kernel
theorem dL_law_194 : decode cL_law 194 = .ok (.iaload, 1) := by decide +kernel
theorem dL_law_195 : decode cL_law 195 = .ok (.invokevirtual 13, 3) := by decide +kernel
theorem dL_law_198 : decode cL_law 198 = .ok (.aload_n 2, 1) := by decide +kernel
theorem dL_law_199 : decode cL_law 199 = .ok (.aload_n 0, 1) := by decide +kernel
theorem dL_law_200 : decode cL_law 200 = .ok (.iload_n 3, 1) := by decide +kernel
theorem dL_law_201 : decode cL_law 201 = .ok (.iconst 1, 1) := by decide +kernel
theorem dL_law_202 : decode cL_law 202 = .ok (.iadd, 1) := by decide +kernel
theorem dL_law_203 : decode cL_law 203 = .ok (.iaload, 1) := by decide +kernel
theorem dL_law_204 : decode cL_law 204 = .ok (.aload_n 0, 1) := by decide +kernel
theorem dL_law_205 : decode cL_law 205 = .ok (.iload_n 3, 1) := by decide +kernel
theorem dL_law_206 : decode cL_law 206 = .ok (.iconst 2, 1) := by decide +kernel
theorem dL_law_207 : decode cL_law 207 = .ok (.iadd, 1) := by decide +kernel
theorem dL_law_208 : decode cL_law 208 = .ok (.iaload, 1) := by decide +kernel
theorem dL_law_209 : decode cL_law 209 = .ok (.invokevirtual 17, 3) := by decide +kernel
theorem dL_law_212 : decode cL_law 212 = .ok (.if_icmp .eq 774, 3) := by decide +kernel
theorem dL_law_215 : decode cL_law 215 = .ok (.iconst 0, 1) := by decide +kernel
theorem dL_law_216 : decode cL_law 216 = .ok (.ireturn, 1) := by decide +kernel
theorem dL_law_217 : decode cL_law 217 = .ok (.aload_n 1, 1) := by decide +kernel
theorem dL_law_218 : decode cL_law 218 = .ok (.aload_n 0, 1) := by decide +kernel
theorem dL_law_219 : decode cL_law 219 = .ok (.iload_n 3, 1) := by decide +kernel
theorem dL_law_220 : decode cL_law 220 = .ok (.iconst 1, 1) := by decide +kernel
theorem dL_law_221 : decode cL_law 221 = .ok (.iadd, 1) := by decide +kernel
theorem dL_law_222 : decode cL_law 222 = .ok (.iaload, 1) := by decide +kernel
theorem dL_law_223 : decode cL_law 223 = .ok (.invokevirtual 18, 3) := by decide +kernel
theorem dL_law_226 : decode cL_law 226 = .ok (.aload_n 2, 1) := by decide +kernel
theorem dL_law_227 : decode cL_law 227 = .ok (.aload_n 0, 1) := by decide +kernel
theorem dL_law_228 : decode cL_law 228 = .ok (.iload_n 3, 1) := by decide +kernel
theorem dL_law_229 : decode cL_law 229 = .ok (.iconst 1, 1) := by decide +kernel
theorem dL_law_230 : decode cL_law 230 = .ok (.iadd, 1) := by decide +kernel
theorem dL_law_231 : decode cL_law 231 = .ok (.iaload, 1) := by decide +kernel
theorem dL_law_232 : decode cL_law 232 = .ok (.invokevirtual 22, 3) := by decide +kernel
theorem dL_law_235 : decode cL_law 235 = .ok (.if_icmp .eq 751, 3) := by decide +kernel
theorem dL_law_238 : decode cL_law 238 = .ok (.iconst 0, 1) := by decide +kernel
theorem dL_law_239 : decode cL_law 239 = .ok (.ireturn, 1) := by decide +kernel
theorem dL_law_240 : decode cL_law 240 = .ok (.aload_n 1, 1) := by decide +kernel
theorem dL_law_241 : decode cL_law 241 = .ok (.aload_n 0, 1) := by decide +kernel
theorem dL_law_242 : decode cL_law 242 = .ok (.iload_n 3, 1) := by decide +kernel
theorem dL_law_243 : decode cL_law 243 = .ok (.iconst 1, 1) := by decide +kernel
theorem dL_law_244 : decode cL_law 244 = .ok (.iadd, 1) := by decide +kernel
theorem dL_law_245 : decode cL_law 245 = .ok (.iaload, 1) := by decide +kernel
theorem dL_law_246 : decode cL_law 246 = .ok (.invokevirtual 23, 3) := by decide +kernel
theorem dL_law_249 : decode cL_law 249 = .ok (.aload_n 2, 1) := by decide +kernel
theorem dL_law_250 : decode cL_law 250 = .ok (.aload_n 0, 1) := by decide +kernel
theorem dL_law_251 : decode cL_law 251 = .ok (.iload_n 3, 1) := by decide +kernel
theorem dL_law_252 : decode cL_law 252 = .ok (.iconst 1, 1) := by decide +kernel
theorem dL_law_253 : decode cL_law 253 = .ok (.iadd, 1) := by decide +kernel
theorem dL_law_254 : decode cL_law 254 = .ok (.iaload, 1) := by decide +kernel
theorem dL_law_255 : decode cL_law 255 = .ok (.invokevirtual 26, 3) := by decide +kernel
theorem dL_law_258 : decode cL_law 258 = .ok (.if_icmp .eq 728, 3) := by decide +kernel
theorem dL_law_261 : decode cL_law 261 = .ok (.iconst 0, 1) := by decide +kernel
theorem dL_law_262 : decode cL_law 262 = .ok (.ireturn, 1) := by decide +kernel
theorem dL_law_263 : decode cL_law 263 = .ok (.aload_n 1, 1) := by decide +kernel
theorem dL_law_264 : decode cL_law 264 = .ok (.aload_n 0, 1) := by decide +kernel
theorem dL_law_265 : decode cL_law 265 = .ok (.iload_n 3, 1) := by decide +kernel
theorem dL_law_266 : decode cL_law 266 = .ok (.iconst 1, 1) := by decide +kernel
theorem dL_law_267 : decode cL_law 267 = .ok (.iadd, 1) := by decide +kernel
theorem dL_law_268 : decode cL_law 268 = .ok (.iaload, 1) := by decide +kernel
theorem dL_law_269 : decode cL_law 269 = .ok (.aload_n 0, 1) := by decide +kernel
theorem dL_law_270 : decode cL_law 270 = .ok (.iload_n 3, 1) := by decide +kernel
theorem dL_law_271 : decode cL_law 271 = .ok (.iconst 2, 1) := by decide +kernel
theorem dL_law_272 : decode cL_law 272 = .ok (.iadd, 1) := by decide +kernel
theorem dL_law_273 : decode cL_law 273 = .ok (.iaload, 1) := by decide +kernel
theorem dL_law_274 : decode cL_law 274 = .ok (.aload_n 0, 1) := by decide +kernel
theorem dL_law_275 : decode cL_law 275 = .ok (.iload_n 3, 1) := by decide +kernel
theorem dL_law_276 : decode cL_law 276 = .ok (.iconst 3, 1) := by decide +kernel
theorem dL_law_277 : decode cL_law 277 = .ok (.iadd, 1) := by decide +kernel
theorem dL_law_278 : decode cL_law 278 = .ok (.iaload, 1) := by decide +kernel
theorem dL_law_279 : decode cL_law 279 = .ok (.invokevirtual 27, 3) := by decide +kernel
theorem dL_law_282 : decode cL_law 282 = .ok (.aload_n 2, 1) := by decide +kernel
theorem dL_law_283 : decode cL_law 283 = .ok (.aload_n 0, 1) := by decide +kernel
theorem dL_law_284 : decode cL_law 284 = .ok (.iload_n 3, 1) := by decide +kernel
theorem dL_law_285 : decode cL_law 285 = .ok (.iconst 1, 1) := by decide +kernel
theorem dL_law_286 : decode cL_law 286 = .ok (.iadd, 1) := by decide +kernel
theorem dL_law_287 : decode cL_law 287 = .ok (.iaload, 1) := by decide +kernel
theorem dL_law_288 : decode cL_law 288 = .ok (.aload_n 0, 1) := by decide +kernel
theorem dL_law_289 : decode cL_law 289 = .ok (.iload_n 3, 1) := by decide +kernel
theorem dL_law_290 : decode cL_law 290 = .ok (.iconst 2, 1) := by decide +kernel
theorem dL_law_291 : decode cL_law 291 = .ok (.iadd, 1) := by decide +kernel
theorem dL_law_292 : decode cL_law 292 = .ok (.iaload, 1) := by decide +kernel
theorem dL_law_293 : decode cL_law 293 = .ok (.aload_n 0, 1) := by decide +kernel
theorem dL_law_294 : decode cL_law 294 = .ok (.iload_n 3, 1) := by decide +kernel
theorem dL_law_295 : decode cL_law 295 = .ok (.iconst 3, 1) := by decide +kernel
theorem dL_law_296 : decode cL_law 296 = .ok (.iadd, 1) := by decide +kernel
theorem dL_law_297 : decode cL_law 297 = .ok (.iaload, 1) := by decide +kernel
theorem dL_law_298 : decode cL_law 298 = .ok (.invokevirtual 31, 3) := by decide +kernel
theorem dL_law_301 : decode cL_law 301 = .ok (.if_icmp .eq 685, 3) := by decide +kernel
theorem dL_law_304 : decode cL_law 304 = .ok (.iconst 0, 1) := by decide +kernel
theorem dL_law_305 : decode cL_law 305 = .ok (.ireturn, 1) := by decide +kernel
theorem dL_law_306 : decode cL_law 306 = .ok (.aload_n 1, 1) := by decide +kernel
theorem dL_law_307 : decode cL_law 307 = .ok (.aload_n 0, 1) := by decide +kernel
theorem dL_law_308 : decode cL_law 308 = .ok (.iload_n 3, 1) := by decide +kernel
theorem dL_law_309 : decode cL_law 309 = .ok (.iconst 1, 1) := by decide +kernel
theorem dL_law_310 : decode cL_law 310 = .ok (.iadd, 1) := by decide +kernel
theorem dL_law_311 : decode cL_law 311 = .ok (.iaload, 1) := by decide +kernel
theorem dL_law_312 : decode cL_law 312 = .ok (.invokevirtual 32, 3) := by decide +kernel
theorem dL_law_315 : decode cL_law 315 = .ok (.aload_n 2, 1) := by decide +kernel
theorem dL_law_316 : decode cL_law 316 = .ok (.aload_n 0, 1) := by decide +kernel
theorem dL_law_317 : decode cL_law 317 = .ok (.iload_n 3, 1) := by decide +kernel
theorem dL_law_318 : decode cL_law 318 = .ok (.iconst 1, 1) := by decide +kernel
theorem dL_law_319 : decode cL_law 319 = .ok (.iadd, 1) := by decide +kernel
theorem dL_law_320 : decode cL_law 320 = .ok (.iaload, 1) := by decide +kernel
theorem dL_law_321 : decode cL_law 321 = .ok (.invokevirtual 35, 3) := by decide +kernel
theorem dL_law_324 : decode cL_law 324 = .ok (.if_icmp .eq 662, 3) := by decide +kernel
theorem dL_law_327 : decode cL_law 327 = .ok (.iconst 0, 1) := by decide +kernel
theorem dL_law_328 : decode cL_law 328 = .ok (.ireturn, 1) := by decide +kernel
theorem dL_law_329 : decode cL_law 329 = .ok (.aload_n 1, 1) := by decide +kernel
theorem dL_law_330 : decode cL_law 330 = .ok (.aload_n 0, 1) := by decide +kernel
theorem dL_law_331 : decode cL_law 331 = .ok (.iload_n 3, 1) := by decide +kernel
theorem dL_law_332 : decode cL_law 332 = .ok (.iconst 1, 1) := by decide +kernel
theorem dL_law_333 : decode cL_law 333 = .ok (.iadd, 1) := by decide +kernel
theorem dL_law_334 : decode cL_law 334 = .ok (.iaload, 1) := by decide +kernel
theorem dL_law_335 : decode cL_law 335 = .ok (.invokevirtual 36, 3) := by decide +kernel
theorem dL_law_338 : decode cL_law 338 = .ok (.aload_n 2, 1) := by decide +kernel
theorem dL_law_339 : decode cL_law 339 = .ok (.aload_n 0, 1) := by decide +kernel
theorem dL_law_340 : decode cL_law 340 = .ok (.iload_n 3, 1) := by decide +kernel
theorem dL_law_341 : decode cL_law 341 = .ok (.iconst 1, 1) := by decide +kernel
theorem dL_law_342 : decode cL_law 342 = .ok (.iadd, 1) := by decide +kernel
theorem dL_law_343 : decode cL_law 343 = .ok (.iaload, 1) := by decide +kernel
theorem dL_law_344 : decode cL_law 344 = .ok (.invokevirtual 39, 3) := by decide +kernel
theorem dL_law_347 : decode cL_law 347 = .ok (.if_icmp .eq 639, 3) := by decide +kernel
theorem dL_law_350 : decode cL_law 350 = .ok (.iconst 0, 1) := by decide +kernel
theorem dL_law_351 : decode cL_law 351 = .ok (.ireturn, 1) := by decide +kernel
theorem dL_law_352 : decode cL_law 352 = .ok (.aload_n 1, 1) := by decide +kernel
theorem dL_law_353 : decode cL_law 353 = .ok (.aload_n 0, 1) := by decide +kernel
theorem dL_law_354 : decode cL_law 354 = .ok (.iload_n 3, 1) := by decide +kernel
theorem dL_law_355 : decode cL_law 355 = .ok (.iconst 1, 1) := by decide +kernel
theorem dL_law_356 : decode cL_law 356 = .ok (.iadd, 1) := by decide +kernel
theorem dL_law_357 : decode cL_law 357 = .ok (.iaload, 1) := by decide +kernel
theorem dL_law_358 : decode cL_law 358 = .ok (.invokevirtual 40, 3) := by decide +kernel
theorem dL_law_361 : decode cL_law 361 = .ok (.aload_n 2, 1) := by decide +kernel
theorem dL_law_362 : decode cL_law 362 = .ok (.aload_n 0, 1) := by decide +kernel
theorem dL_law_363 : decode cL_law 363 = .ok (.iload_n 3, 1) := by decide +kernel
theorem dL_law_364 : decode cL_law 364 = .ok (.iconst 1, 1) := by decide +kernel
theorem dL_law_365 : decode cL_law 365 = .ok (.iadd, 1) := by decide +kernel
theorem dL_law_366 : decode cL_law 366 = .ok (.iaload, 1) := by decide +kernel
theorem dL_law_367 : decode cL_law 367 = .ok (.invokevirtual 43, 3) := by decide +kernel
theorem dL_law_370 : decode cL_law 370 = .ok (.if_icmp .eq 616, 3) := by decide +kernel
theorem dL_law_373 : decode cL_law 373 = .ok (.iconst 0, 1) := by decide +kernel
theorem dL_law_374 : decode cL_law 374 = .ok (.ireturn, 1) := by decide +kernel
theorem dL_law_375 : decode cL_law 375 = .ok (.aload_n 1, 1) := by decide +kernel
theorem dL_law_376 : decode cL_law 376 = .ok (.aload_n 0, 1) := by decide +kernel
theorem dL_law_377 : decode cL_law 377 = .ok (.iload_n 3, 1) := by decide +kernel
theorem dL_law_378 : decode cL_law 378 = .ok (.iconst 1, 1) := by decide +kernel
theorem dL_law_379 : decode cL_law 379 = .ok (.iadd, 1) := by decide +kernel
theorem dL_law_380 : decode cL_law 380 = .ok (.iaload, 1) := by decide +kernel
theorem dL_law_381 : decode cL_law 381 = .ok (.invokevirtual 44, 3) := by decide +kernel
theorem dL_law_384 : decode cL_law 384 = .ok (.aload_n 2, 1) := by decide +kernel
theorem dL_law_385 : decode cL_law 385 = .ok (.aload_n 0, 1) := by decide +kernel
theorem dL_law_386 : decode cL_law 386 = .ok (.iload_n 3, 1) := by decide +kernel
theorem dL_law_387 : decode cL_law 387 = .ok (.iconst 1, 1) := by decide +kernel
theorem dL_law_388 : decode cL_law 388 = .ok (.iadd, 1) := by decide +kernel
theorem dL_law_389 : decode cL_law 389 = .ok (.iaload, 1) := by decide +kernel
theorem dL_law_390 : decode cL_law 390 = .ok (.invokevirtual 47, 3) := by decide +kernel
theorem dL_law_393 : decode cL_law 393 = .ok (.if_icmp .eq 593, 3) := by decide +kernel
theorem dL_law_396 : decode cL_law 396 = .ok (.iconst 0, 1) := by decide +kernel
theorem dL_law_397 : decode cL_law 397 = .ok (.ireturn, 1) := by decide +kernel
theorem dL_law_398 : decode cL_law 398 = .ok (.aload_n 1, 1) := by decide +kernel
theorem dL_law_399 : decode cL_law 399 = .ok (.aload_n 0, 1) := by decide +kernel
theorem dL_law_400 : decode cL_law 400 = .ok (.iload_n 3, 1) := by decide +kernel
theorem dL_law_401 : decode cL_law 401 = .ok (.iconst 1, 1) := by decide +kernel
theorem dL_law_402 : decode cL_law 402 = .ok (.iadd, 1) := by decide +kernel
theorem dL_law_403 : decode cL_law 403 = .ok (.iaload, 1) := by decide +kernel
theorem dL_law_404 : decode cL_law 404 = .ok (.invokevirtual 48, 3) := by decide +kernel
theorem dL_law_407 : decode cL_law 407 = .ok (.aload_n 2, 1) := by decide +kernel
theorem dL_law_408 : decode cL_law 408 = .ok (.aload_n 0, 1) := by decide +kernel
theorem dL_law_409 : decode cL_law 409 = .ok (.iload_n 3, 1) := by decide +kernel
theorem dL_law_410 : decode cL_law 410 = .ok (.iconst 1, 1) := by decide +kernel
theorem dL_law_411 : decode cL_law 411 = .ok (.iadd, 1) := by decide +kernel
theorem dL_law_412 : decode cL_law 412 = .ok (.iaload, 1) := by decide +kernel
theorem dL_law_413 : decode cL_law 413 = .ok (.invokevirtual 51, 3) := by decide +kernel
theorem dL_law_416 : decode cL_law 416 = .ok (.if_icmp .eq 570, 3) := by decide +kernel
theorem dL_law_419 : decode cL_law 419 = .ok (.iconst 0, 1) := by decide +kernel
theorem dL_law_420 : decode cL_law 420 = .ok (.ireturn, 1) := by decide +kernel
theorem dL_law_421 : decode cL_law 421 = .ok (.aload_n 1, 1) := by decide +kernel
theorem dL_law_422 : decode cL_law 422 = .ok (.aload_n 0, 1) := by decide +kernel
theorem dL_law_423 : decode cL_law 423 = .ok (.iload_n 3, 1) := by decide +kernel
theorem dL_law_424 : decode cL_law 424 = .ok (.iconst 1, 1) := by decide +kernel
theorem dL_law_425 : decode cL_law 425 = .ok (.iadd, 1) := by decide +kernel
theorem dL_law_426 : decode cL_law 426 = .ok (.iaload, 1) := by decide +kernel
theorem dL_law_427 : decode cL_law 427 = .ok (.aload_n 0, 1) := by decide +kernel
theorem dL_law_428 : decode cL_law 428 = .ok (.iload_n 3, 1) := by decide +kernel
theorem dL_law_429 : decode cL_law 429 = .ok (.iconst 2, 1) := by decide +kernel
theorem dL_law_430 : decode cL_law 430 = .ok (.iadd, 1) := by decide +kernel
theorem dL_law_431 : decode cL_law 431 = .ok (.iaload, 1) := by decide +kernel
theorem dL_law_432 : decode cL_law 432 = .ok (.invokevirtual 52, 3) := by decide +kernel
theorem dL_law_435 : decode cL_law 435 = .ok (.aload_n 2, 1) := by decide +kernel
theorem dL_law_436 : decode cL_law 436 = .ok (.aload_n 0, 1) := by decide +kernel
theorem dL_law_437 : decode cL_law 437 = .ok (.iload_n 3, 1) := by decide +kernel
theorem dL_law_438 : decode cL_law 438 = .ok (.iconst 1, 1) := by decide +kernel
theorem dL_law_439 : decode cL_law 439 = .ok (.iadd, 1) := by decide +kernel
theorem dL_law_440 : decode cL_law 440 = .ok (.iaload, 1) := by decide +kernel
theorem dL_law_441 : decode cL_law 441 = .ok (.aload_n 0, 1) := by decide +kernel
theorem dL_law_442 : decode cL_law 442 = .ok (.iload_n 3, 1) := by decide +kernel
theorem dL_law_443 : decode cL_law 443 = .ok (.iconst 2, 1) := by decide +kernel
theorem dL_law_444 : decode cL_law 444 = .ok (.iadd, 1) := by decide +kernel
theorem dL_law_445 : decode cL_law 445 = .ok (.iaload, 1) := by decide +kernel
theorem dL_law_446 : decode cL_law 446 = .ok (.invokevirtual 55, 3) := by decide +kernel
theorem dL_law_449 : decode cL_law 449 = .ok (.if_icmp .eq 537, 3) := by decide +kernel
theorem dL_law_452 : decode cL_law 452 = .ok (.iconst 0, 1) := by decide +kernel
theorem dL_law_453 : decode cL_law 453 = .ok (.ireturn, 1) := by decide +kernel
theorem dL_law_454 : decode cL_law 454 = .ok (.aload_n 1, 1) := by decide +kernel
theorem dL_law_455 : decode cL_law 455 = .ok (.aload_n 0, 1) := by decide +kernel
theorem dL_law_456 : decode cL_law 456 = .ok (.iload_n 3, 1) := by decide +kernel
theorem dL_law_457 : decode cL_law 457 = .ok (.iconst 1, 1) := by decide +kernel
theorem dL_law_458 : decode cL_law 458 = .ok (.iadd, 1) := by decide +kernel
theorem dL_law_459 : decode cL_law 459 = .ok (.iaload, 1) := by decide +kernel
theorem dL_law_460 : decode cL_law 460 = .ok (.aload_n 0, 1) := by decide +kernel
theorem dL_law_461 : decode cL_law 461 = .ok (.iload_n 3, 1) := by decide +kernel
theorem dL_law_462 : decode cL_law 462 = .ok (.iconst 2, 1) := by decide +kernel
theorem dL_law_463 : decode cL_law 463 = .ok (.iadd, 1) := by decide +kernel
theorem dL_law_464 : decode cL_law 464 = .ok (.iaload, 1) := by decide +kernel
theorem dL_law_465 : decode cL_law 465 = .ok (.invokevirtual 56, 3) := by decide +kernel
theorem dL_law_468 : decode cL_law 468 = .ok (.aload_n 2, 1) := by decide +kernel
theorem dL_law_469 : decode cL_law 469 = .ok (.aload_n 0, 1) := by decide +kernel
theorem dL_law_470 : decode cL_law 470 = .ok (.iload_n 3, 1) := by decide +kernel
theorem dL_law_471 : decode cL_law 471 = .ok (.iconst 1, 1) := by decide +kernel
theorem dL_law_472 : decode cL_law 472 = .ok (.iadd, 1) := by decide +kernel
theorem dL_law_473 : decode cL_law 473 = .ok (.iaload, 1) := by decide +kernel
theorem dL_law_474 : decode cL_law 474 = .ok (.aload_n 0, 1) := by decide +kernel
theorem dL_law_475 : decode cL_law 475 = .ok (.iload_n 3, 1) := by decide +kernel
theorem dL_law_476 : decode cL_law 476 = .ok (.iconst 2, 1) := by decide +kernel
theorem dL_law_477 : decode cL_law 477 = .ok (.iadd, 1) := by decide +kernel
theorem dL_law_478 : decode cL_law 478 = .ok (.iaload, 1) := by decide +kernel
theorem dL_law_479 : decode cL_law 479 = .ok (.invokevirtual 59, 3) := by decide +kernel
theorem dL_law_482 : decode cL_law 482 = .ok (.if_icmp .eq 504, 3) := by decide +kernel
theorem dL_law_485 : decode cL_law 485 = .ok (.iconst 0, 1) := by decide +kernel
theorem dL_law_486 : decode cL_law 486 = .ok (.ireturn, 1) := by decide +kernel
theorem dL_law_487 : decode cL_law 487 = .ok (.aload_n 1, 1) := by decide +kernel
theorem dL_law_488 : decode cL_law 488 = .ok (.aload_n 0, 1) := by decide +kernel
theorem dL_law_489 : decode cL_law 489 = .ok (.iload_n 3, 1) := by decide +kernel
theorem dL_law_490 : decode cL_law 490 = .ok (.iconst 1, 1) := by decide +kernel
theorem dL_law_491 : decode cL_law 491 = .ok (.iadd, 1) := by decide +kernel
theorem dL_law_492 : decode cL_law 492 = .ok (.iaload, 1) := by decide +kernel
theorem dL_law_493 : decode cL_law 493 = .ok (.invokevirtual 60, 3) := by decide +kernel
theorem dL_law_496 : decode cL_law 496 = .ok (.aload_n 2, 1) := by decide +kernel
theorem dL_law_497 : decode cL_law 497 = .ok (.aload_n 0, 1) := by decide +kernel
theorem dL_law_498 : decode cL_law 498 = .ok (.iload_n 3, 1) := by decide +kernel
theorem dL_law_499 : decode cL_law 499 = .ok (.iconst 1, 1) := by decide +kernel
theorem dL_law_500 : decode cL_law 500 = .ok (.iadd, 1) := by decide +kernel
theorem dL_law_501 : decode cL_law 501 = .ok (.iaload, 1) := by decide +kernel
theorem dL_law_502 : decode cL_law 502 = .ok (.invokevirtual 63, 3) := by decide +kernel
theorem dL_law_505 : decode cL_law 505 = .ok (.if_icmp .eq 481, 3) := by decide +kernel
theorem dL_law_508 : decode cL_law 508 = .ok (.iconst 0, 1) := by decide +kernel
theorem dL_law_509 : decode cL_law 509 = .ok (.ireturn, 1) := by decide +kernel
theorem dL_law_510 : decode cL_law 510 = .ok (.aload_n 1, 1) := by decide +kernel
theorem dL_law_511 : decode cL_law 511 = .ok (.aload_n 0, 1) := by decide +kernel
theorem dL_law_512 : decode cL_law 512 = .ok (.iload_n 3, 1) := by decide +kernel
theorem dL_law_513 : decode cL_law 513 = .ok (.iconst 1, 1) := by decide +kernel
theorem dL_law_514 : decode cL_law 514 = .ok (.iadd, 1) := by decide +kernel
theorem dL_law_515 : decode cL_law 515 = .ok (.iaload, 1) := by decide +kernel
theorem dL_law_516 : decode cL_law 516 = .ok (.invokevirtual 64, 3) := by decide +kernel
theorem dL_law_519 : decode cL_law 519 = .ok (.aload_n 2, 1) := by decide +kernel
theorem dL_law_520 : decode cL_law 520 = .ok (.aload_n 0, 1) := by decide +kernel
theorem dL_law_521 : decode cL_law 521 = .ok (.iload_n 3, 1) := by decide +kernel
theorem dL_law_522 : decode cL_law 522 = .ok (.iconst 1, 1) := by decide +kernel
theorem dL_law_523 : decode cL_law 523 = .ok (.iadd, 1) := by decide +kernel
theorem dL_law_524 : decode cL_law 524 = .ok (.iaload, 1) := by decide +kernel
theorem dL_law_525 : decode cL_law 525 = .ok (.invokevirtual 67, 3) := by decide +kernel
theorem dL_law_528 : decode cL_law 528 = .ok (.if_icmp .eq 458, 3) := by decide +kernel
theorem dL_law_531 : decode cL_law 531 = .ok (.iconst 0, 1) := by decide +kernel
theorem dL_law_532 : decode cL_law 532 = .ok (.ireturn, 1) := by decide +kernel
theorem dL_law_533 : decode cL_law 533 = .ok (.aload_n 1, 1) := by decide +kernel
theorem dL_law_534 : decode cL_law 534 = .ok (.aload_n 0, 1) := by decide +kernel
theorem dL_law_535 : decode cL_law 535 = .ok (.iload_n 3, 1) := by decide +kernel
theorem dL_law_536 : decode cL_law 536 = .ok (.iconst 1, 1) := by decide +kernel
theorem dL_law_537 : decode cL_law 537 = .ok (.iadd, 1) := by decide +kernel
theorem dL_law_538 : decode cL_law 538 = .ok (.iaload, 1) := by decide +kernel
theorem dL_law_539 : decode cL_law 539 = .ok (.aload_n 0, 1) := by decide +kernel
theorem dL_law_540 : decode cL_law 540 = .ok (.iload_n 3, 1) := by decide +kernel
theorem dL_law_541 : decode cL_law 541 = .ok (.iconst 2, 1) := by decide +kernel
theorem dL_law_542 : decode cL_law 542 = .ok (.iadd, 1) := by decide +kernel
theorem dL_law_543 : decode cL_law 543 = .ok (.iaload, 1) := by decide +kernel
theorem dL_law_544 : decode cL_law 544 = .ok (.invokevirtual 68, 3) := by decide +kernel
theorem dL_law_547 : decode cL_law 547 = .ok (.aload_n 2, 1) := by decide +kernel
theorem dL_law_548 : decode cL_law 548 = .ok (.aload_n 0, 1) := by decide +kernel
theorem dL_law_549 : decode cL_law 549 = .ok (.iload_n 3, 1) := by decide +kernel
theorem dL_law_550 : decode cL_law 550 = .ok (.iconst 1, 1) := by decide +kernel
theorem dL_law_551 : decode cL_law 551 = .ok (.iadd, 1) := by decide +kernel
theorem dL_law_552 : decode cL_law 552 = .ok (.iaload, 1) := by decide +kernel
theorem dL_law_553 : decode cL_law 553 = .ok (.aload_n 0, 1) := by decide +kernel
theorem dL_law_554 : decode cL_law 554 = .ok (.iload_n 3, 1) := by decide +kernel
theorem dL_law_555 : decode cL_law 555 = .ok (.iconst 2, 1) := by decide +kernel
theorem dL_law_556 : decode cL_law 556 = .ok (.iadd, 1) := by decide +kernel
theorem dL_law_557 : decode cL_law 557 = .ok (.iaload, 1) := by decide +kernel
theorem dL_law_558 : decode cL_law 558 = .ok (.invokevirtual 71, 3) := by decide +kernel
theorem dL_law_561 : decode cL_law 561 = .ok (.if_icmp .eq 425, 3) := by decide +kernel
theorem dL_law_564 : decode cL_law 564 = .ok (.iconst 0, 1) := by decide +kernel
theorem dL_law_565 : decode cL_law 565 = .ok (.ireturn, 1) := by decide +kernel
theorem dL_law_566 : decode cL_law 566 = .ok (.aload_n 1, 1) := by decide +kernel
theorem dL_law_567 : decode cL_law 567 = .ok (.aload_n 0, 1) := by decide +kernel
theorem dL_law_568 : decode cL_law 568 = .ok (.iload_n 3, 1) := by decide +kernel
theorem dL_law_569 : decode cL_law 569 = .ok (.iconst 1, 1) := by decide +kernel
theorem dL_law_570 : decode cL_law 570 = .ok (.iadd, 1) := by decide +kernel
theorem dL_law_571 : decode cL_law 571 = .ok (.iaload, 1) := by decide +kernel
theorem dL_law_572 : decode cL_law 572 = .ok (.invokevirtual 72, 3) := by decide +kernel
theorem dL_law_575 : decode cL_law 575 = .ok (.aload_n 2, 1) := by decide +kernel
theorem dL_law_576 : decode cL_law 576 = .ok (.aload_n 0, 1) := by decide +kernel
theorem dL_law_577 : decode cL_law 577 = .ok (.iload_n 3, 1) := by decide +kernel
theorem dL_law_578 : decode cL_law 578 = .ok (.iconst 1, 1) := by decide +kernel
theorem dL_law_579 : decode cL_law 579 = .ok (.iadd, 1) := by decide +kernel
theorem dL_law_580 : decode cL_law 580 = .ok (.iaload, 1) := by decide +kernel
theorem dL_law_581 : decode cL_law 581 = .ok (.invokevirtual 75, 3) := by decide +kernel
theorem dL_law_584 : decode cL_law 584 = .ok (.if_icmp .eq 402, 3) := by decide +kernel
theorem dL_law_587 : decode cL_law 587 = .ok (.iconst 0, 1) := by decide +kernel
theorem dL_law_588 : decode cL_law 588 = .ok (.ireturn, 1) := by decide +kernel
theorem dL_law_589 : decode cL_law 589 = .ok (.aload_n 1, 1) := by decide +kernel
theorem dL_law_590 : decode cL_law 590 = .ok (.aload_n 0, 1) := by decide +kernel
theorem dL_law_591 : decode cL_law 591 = .ok (.iload_n 3, 1) := by decide +kernel
theorem dL_law_592 : decode cL_law 592 = .ok (.iconst 1, 1) := by decide +kernel
theorem dL_law_593 : decode cL_law 593 = .ok (.iadd, 1) := by decide +kernel
theorem dL_law_594 : decode cL_law 594 = .ok (.iaload, 1) := by decide +kernel
theorem dL_law_595 : decode cL_law 595 = .ok (.invokevirtual 76, 3) := by decide +kernel
theorem dL_law_598 : decode cL_law 598 = .ok (.aload_n 2, 1) := by decide +kernel
theorem dL_law_599 : decode cL_law 599 = .ok (.aload_n 0, 1) := by decide +kernel
theorem dL_law_600 : decode cL_law 600 = .ok (.iload_n 3, 1) := by decide +kernel
theorem dL_law_601 : decode cL_law 601 = .ok (.iconst 1, 1) := by decide +kernel
theorem dL_law_602 : decode cL_law 602 = .ok (.iadd, 1) := by decide +kernel
theorem dL_law_603 : decode cL_law 603 = .ok (.iaload, 1) := by decide +kernel
theorem dL_law_604 : decode cL_law 604 = .ok (.invokevirtual 79, 3) := by decide +kernel
theorem dL_law_607 : decode cL_law 607 = .ok (.if_icmp .eq 379, 3) := by decide +kernel
theorem dL_law_610 : decode cL_law 610 = .ok (.iconst 0, 1) := by decide +kernel
theorem dL_law_611 : decode cL_law 611 = .ok (.ireturn, 1) := by decide +kernel
theorem dL_law_612 : decode cL_law 612 = .ok (.aload_n 1, 1) := by decide +kernel
theorem dL_law_613 : decode cL_law 613 = .ok (.aload_n 0, 1) := by decide +kernel
theorem dL_law_614 : decode cL_law 614 = .ok (.iload_n 3, 1) := by decide +kernel
theorem dL_law_615 : decode cL_law 615 = .ok (.iconst 1, 1) := by decide +kernel
theorem dL_law_616 : decode cL_law 616 = .ok (.iadd, 1) := by decide +kernel
theorem dL_law_617 : decode cL_law 617 = .ok (.iaload, 1) := by decide +kernel
theorem dL_law_618 : decode cL_law 618 = .ok (.invokevirtual 80, 3) := by decide +kernel
theorem dL_law_621 : decode cL_law 621 = .ok (.aload_n 2, 1) := by decide +kernel
theorem dL_law_622 : decode cL_law 622 = .ok (.aload_n 0, 1) := by decide +kernel
theorem dL_law_623 : decode cL_law 623 = .ok (.iload_n 3, 1) := by decide +kernel
theorem dL_law_624 : decode cL_law 624 = .ok (.iconst 1, 1) := by decide +kernel
theorem dL_law_625 : decode cL_law 625 = .ok (.iadd, 1) := by decide +kernel
theorem dL_law_626 : decode cL_law 626 = .ok (.iaload, 1) := by decide +kernel
theorem dL_law_627 : decode cL_law 627 = .ok (.invokevirtual 83, 3) := by decide +kernel
theorem dL_law_630 : decode cL_law 630 = .ok (.if_icmp .eq 356, 3) := by decide +kernel
theorem dL_law_633 : decode cL_law 633 = .ok (.iconst 0, 1) := by decide +kernel
theorem dL_law_634 : decode cL_law 634 = .ok (.ireturn, 1) := by decide +kernel
theorem dL_law_635 : decode cL_law 635 = .ok (.aload_n 1, 1) := by decide +kernel
theorem dL_law_636 : decode cL_law 636 = .ok (.aload_n 0, 1) := by decide +kernel
theorem dL_law_637 : decode cL_law 637 = .ok (.iload_n 3, 1) := by decide +kernel
theorem dL_law_638 : decode cL_law 638 = .ok (.iconst 1, 1) := by decide +kernel
theorem dL_law_639 : decode cL_law 639 = .ok (.iadd, 1) := by decide +kernel
theorem dL_law_640 : decode cL_law 640 = .ok (.iaload, 1) := by decide +kernel
theorem dL_law_641 : decode cL_law 641 = .ok (.invokevirtual 84, 3) := by decide +kernel
theorem dL_law_644 : decode cL_law 644 = .ok (.aload_n 2, 1) := by decide +kernel
theorem dL_law_645 : decode cL_law 645 = .ok (.aload_n 0, 1) := by decide +kernel
theorem dL_law_646 : decode cL_law 646 = .ok (.iload_n 3, 1) := by decide +kernel
theorem dL_law_647 : decode cL_law 647 = .ok (.iconst 1, 1) := by decide +kernel
theorem dL_law_648 : decode cL_law 648 = .ok (.iadd, 1) := by decide +kernel
theorem dL_law_649 : decode cL_law 649 = .ok (.iaload, 1) := by decide +kernel
theorem dL_law_650 : decode cL_law 650 = .ok (.invokevirtual 87, 3) := by decide +kernel
theorem dL_law_653 : decode cL_law 653 = .ok (.if_icmp .eq 333, 3) := by decide +kernel
theorem dL_law_656 : decode cL_law 656 = .ok (.iconst 0, 1) := by decide +kernel
theorem dL_law_657 : decode cL_law 657 = .ok (.ireturn, 1) := by decide +kernel
theorem dL_law_658 : decode cL_law 658 = .ok (.aload_n 1, 1) := by decide +kernel
theorem dL_law_659 : decode cL_law 659 = .ok (.aload_n 0, 1) := by decide +kernel
theorem dL_law_660 : decode cL_law 660 = .ok (.iload_n 3, 1) := by decide +kernel
theorem dL_law_661 : decode cL_law 661 = .ok (.iconst 1, 1) := by decide +kernel
theorem dL_law_662 : decode cL_law 662 = .ok (.iadd, 1) := by decide +kernel
theorem dL_law_663 : decode cL_law 663 = .ok (.iaload, 1) := by decide +kernel
theorem dL_law_664 : decode cL_law 664 = .ok (.aload_n 0, 1) := by decide +kernel
theorem dL_law_665 : decode cL_law 665 = .ok (.iload_n 3, 1) := by decide +kernel
theorem dL_law_666 : decode cL_law 666 = .ok (.iconst 2, 1) := by decide +kernel
theorem dL_law_667 : decode cL_law 667 = .ok (.iadd, 1) := by decide +kernel
theorem dL_law_668 : decode cL_law 668 = .ok (.iaload, 1) := by decide +kernel
theorem dL_law_669 : decode cL_law 669 = .ok (.invokevirtual 88, 3) := by decide +kernel
theorem dL_law_672 : decode cL_law 672 = .ok (.aload_n 2, 1) := by decide +kernel
theorem dL_law_673 : decode cL_law 673 = .ok (.aload_n 0, 1) := by decide +kernel
theorem dL_law_674 : decode cL_law 674 = .ok (.iload_n 3, 1) := by decide +kernel
theorem dL_law_675 : decode cL_law 675 = .ok (.iconst 1, 1) := by decide +kernel
theorem dL_law_676 : decode cL_law 676 = .ok (.iadd, 1) := by decide +kernel
theorem dL_law_677 : decode cL_law 677 = .ok (.iaload, 1) := by decide +kernel
theorem dL_law_678 : decode cL_law 678 = .ok (.aload_n 0, 1) := by decide +kernel
theorem dL_law_679 : decode cL_law 679 = .ok (.iload_n 3, 1) := by decide +kernel
theorem dL_law_680 : decode cL_law 680 = .ok (.iconst 2, 1) := by decide +kernel
theorem dL_law_681 : decode cL_law 681 = .ok (.iadd, 1) := by decide +kernel
theorem dL_law_682 : decode cL_law 682 = .ok (.iaload, 1) := by decide +kernel
theorem dL_law_683 : decode cL_law 683 = .ok (.invokevirtual 91, 3) := by decide +kernel
theorem dL_law_686 : decode cL_law 686 = .ok (.if_icmp .eq 300, 3) := by decide +kernel
theorem dL_law_689 : decode cL_law 689 = .ok (.iconst 0, 1) := by decide +kernel
theorem dL_law_690 : decode cL_law 690 = .ok (.ireturn, 1) := by decide +kernel
theorem dL_law_691 : decode cL_law 691 = .ok (.aload_n 1, 1) := by decide +kernel
theorem dL_law_692 : decode cL_law 692 = .ok (.aload_n 0, 1) := by decide +kernel
theorem dL_law_693 : decode cL_law 693 = .ok (.iload_n 3, 1) := by decide +kernel
theorem dL_law_694 : decode cL_law 694 = .ok (.iconst 1, 1) := by decide +kernel
theorem dL_law_695 : decode cL_law 695 = .ok (.iadd, 1) := by decide +kernel
theorem dL_law_696 : decode cL_law 696 = .ok (.iaload, 1) := by decide +kernel
theorem dL_law_697 : decode cL_law 697 = .ok (.aload_n 0, 1) := by decide +kernel
theorem dL_law_698 : decode cL_law 698 = .ok (.iload_n 3, 1) := by decide +kernel
theorem dL_law_699 : decode cL_law 699 = .ok (.iconst 2, 1) := by decide +kernel
theorem dL_law_700 : decode cL_law 700 = .ok (.iadd, 1) := by decide +kernel
theorem dL_law_701 : decode cL_law 701 = .ok (.iaload, 1) := by decide +kernel
theorem dL_law_702 : decode cL_law 702 = .ok (.invokevirtual 92, 3) := by decide +kernel
theorem dL_law_705 : decode cL_law 705 = .ok (.aload_n 2, 1) := by decide +kernel
theorem dL_law_706 : decode cL_law 706 = .ok (.aload_n 0, 1) := by decide +kernel
theorem dL_law_707 : decode cL_law 707 = .ok (.iload_n 3, 1) := by decide +kernel
theorem dL_law_708 : decode cL_law 708 = .ok (.iconst 1, 1) := by decide +kernel
theorem dL_law_709 : decode cL_law 709 = .ok (.iadd, 1) := by decide +kernel
theorem dL_law_710 : decode cL_law 710 = .ok (.iaload, 1) := by decide +kernel
theorem dL_law_711 : decode cL_law 711 = .ok (.aload_n 0, 1) := by decide +kernel
theorem dL_law_712 : decode cL_law 712 = .ok (.iload_n 3, 1) := by decide +kernel
theorem dL_law_713 : decode cL_law 713 = .ok (.iconst 2, 1) := by decide +kernel
theorem dL_law_714 : decode cL_law 714 = .ok (.iadd, 1) := by decide +kernel
theorem dL_law_715 : decode cL_law 715 = .ok (.iaload, 1) := by decide +kernel
theorem dL_law_716 : decode cL_law 716 = .ok (.invokevirtual 95, 3) := by decide +kernel
theorem dL_law_719 : decode cL_law 719 = .ok (.if_icmp .eq 267, 3) := by decide +kernel
theorem dL_law_722 : decode cL_law 722 = .ok (.iconst 0, 1) := by decide +kernel
theorem dL_law_723 : decode cL_law 723 = .ok (.ireturn, 1) := by decide +kernel
theorem dL_law_724 : decode cL_law 724 = .ok (.aload_n 1, 1) := by decide +kernel
theorem dL_law_725 : decode cL_law 725 = .ok (.aload_n 0, 1) := by decide +kernel
theorem dL_law_726 : decode cL_law 726 = .ok (.iload_n 3, 1) := by decide +kernel
theorem dL_law_727 : decode cL_law 727 = .ok (.iconst 1, 1) := by decide +kernel
theorem dL_law_728 : decode cL_law 728 = .ok (.iadd, 1) := by decide +kernel
theorem dL_law_729 : decode cL_law 729 = .ok (.iaload, 1) := by decide +kernel
theorem dL_law_730 : decode cL_law 730 = .ok (.aload_n 0, 1) := by decide +kernel
theorem dL_law_731 : decode cL_law 731 = .ok (.iload_n 3, 1) := by decide +kernel
theorem dL_law_732 : decode cL_law 732 = .ok (.iconst 2, 1) := by decide +kernel
theorem dL_law_733 : decode cL_law 733 = .ok (.iadd, 1) := by decide +kernel
theorem dL_law_734 : decode cL_law 734 = .ok (.iaload, 1) := by decide +kernel
theorem dL_law_735 : decode cL_law 735 = .ok (.invokevirtual 96, 3) := by decide +kernel
theorem dL_law_738 : decode cL_law 738 = .ok (.aload_n 2, 1) := by decide +kernel
theorem dL_law_739 : decode cL_law 739 = .ok (.aload_n 0, 1) := by decide +kernel
theorem dL_law_740 : decode cL_law 740 = .ok (.iload_n 3, 1) := by decide +kernel
theorem dL_law_741 : decode cL_law 741 = .ok (.iconst 1, 1) := by decide +kernel
theorem dL_law_742 : decode cL_law 742 = .ok (.iadd, 1) := by decide +kernel
theorem dL_law_743 : decode cL_law 743 = .ok (.iaload, 1) := by decide +kernel
theorem dL_law_744 : decode cL_law 744 = .ok (.aload_n 0, 1) := by decide +kernel
theorem dL_law_745 : decode cL_law 745 = .ok (.iload_n 3, 1) := by decide +kernel
theorem dL_law_746 : decode cL_law 746 = .ok (.iconst 2, 1) := by decide +kernel
theorem dL_law_747 : decode cL_law 747 = .ok (.iadd, 1) := by decide +kernel
theorem dL_law_748 : decode cL_law 748 = .ok (.iaload, 1) := by decide +kernel
theorem dL_law_749 : decode cL_law 749 = .ok (.invokevirtual 99, 3) := by decide +kernel
theorem dL_law_752 : decode cL_law 752 = .ok (.if_icmp .eq 234, 3) := by decide +kernel
theorem dL_law_755 : decode cL_law 755 = .ok (.iconst 0, 1) := by decide +kernel
theorem dL_law_756 : decode cL_law 756 = .ok (.ireturn, 1) := by decide +kernel
theorem dL_law_757 : decode cL_law 757 = .ok (.aload_n 1, 1) := by decide +kernel
theorem dL_law_758 : decode cL_law 758 = .ok (.aload_n 0, 1) := by decide +kernel
theorem dL_law_759 : decode cL_law 759 = .ok (.iload_n 3, 1) := by decide +kernel
theorem dL_law_760 : decode cL_law 760 = .ok (.iconst 1, 1) := by decide +kernel
theorem dL_law_761 : decode cL_law 761 = .ok (.iadd, 1) := by decide +kernel
theorem dL_law_762 : decode cL_law 762 = .ok (.iaload, 1) := by decide +kernel
theorem dL_law_763 : decode cL_law 763 = .ok (.invokevirtual 100, 3) := by decide +kernel
theorem dL_law_766 : decode cL_law 766 = .ok (.aload_n 2, 1) := by decide +kernel
theorem dL_law_767 : decode cL_law 767 = .ok (.aload_n 0, 1) := by decide +kernel
theorem dL_law_768 : decode cL_law 768 = .ok (.iload_n 3, 1) := by decide +kernel
theorem dL_law_769 : decode cL_law 769 = .ok (.iconst 1, 1) := by decide +kernel
theorem dL_law_770 : decode cL_law 770 = .ok (.iadd, 1) := by decide +kernel
theorem dL_law_771 : decode cL_law 771 = .ok (.iaload, 1) := by decide +kernel
theorem dL_law_772 : decode cL_law 772 = .ok (.invokevirtual 103, 3) := by decide +kernel
theorem dL_law_775 : decode cL_law 775 = .ok (.if_icmp .eq 211, 3) := by decide +kernel
theorem dL_law_778 : decode cL_law 778 = .ok (.iconst 0, 1) := by decide +kernel
theorem dL_law_779 : decode cL_law 779 = .ok (.ireturn, 1) := by decide +kernel
theorem dL_law_780 : decode cL_law 780 = .ok (.aload_n 1, 1) := by decide +kernel
theorem dL_law_781 : decode cL_law 781 = .ok (.invokevirtual 104, 3) := by decide +kernel
theorem dL_law_784 : decode cL_law 784 = .ok (.aload_n 2, 1) := by decide +kernel
theorem dL_law_785 : decode cL_law 785 = .ok (.invokevirtual 108, 3) := by decide +kernel
theorem dL_law_788 : decode cL_law 788 = .ok (.if_icmp .eq 198, 3) := by decide +kernel
theorem dL_law_791 : decode cL_law 791 = .ok (.iconst 0, 1) := by decide +kernel
theorem dL_law_792 : decode cL_law 792 = .ok (.ireturn, 1) := by decide +kernel
theorem dL_law_793 : decode cL_law 793 = .ok (.aload_n 1, 1) := by decide +kernel
theorem dL_law_794 : decode cL_law 794 = .ok (.aload_n 0, 1) := by decide +kernel
theorem dL_law_795 : decode cL_law 795 = .ok (.iload_n 3, 1) := by decide +kernel
theorem dL_law_796 : decode cL_law 796 = .ok (.iconst 1, 1) := by decide +kernel
theorem dL_law_797 : decode cL_law 797 = .ok (.iadd, 1) := by decide +kernel
theorem dL_law_798 : decode cL_law 798 = .ok (.iaload, 1) := by decide +kernel
theorem dL_law_799 : decode cL_law 799 = .ok (.invokevirtual 109, 3) := by decide +kernel
theorem dL_law_802 : decode cL_law 802 = .ok (.aload_n 2, 1) := by decide +kernel
theorem dL_law_803 : decode cL_law 803 = .ok (.aload_n 0, 1) := by decide +kernel
theorem dL_law_804 : decode cL_law 804 = .ok (.iload_n 3, 1) := by decide +kernel
theorem dL_law_805 : decode cL_law 805 = .ok (.iconst 1, 1) := by decide +kernel
theorem dL_law_806 : decode cL_law 806 = .ok (.iadd, 1) := by decide +kernel
theorem dL_law_807 : decode cL_law 807 = .ok (.iaload, 1) := by decide +kernel
theorem dL_law_808 : decode cL_law 808 = .ok (.invokevirtual 112, 3) := by decide +kernel
theorem dL_law_811 : decode cL_law 811 = .ok (.if_icmp .eq 175, 3) := by decide +kernel
theorem dL_law_814 : decode cL_law 814 = .ok (.iconst 0, 1) := by decide +kernel
theorem dL_law_815 : decode cL_law 815 = .ok (.ireturn, 1) := by decide +kernel
theorem dL_law_816 : decode cL_law 816 = .ok (.aload_n 1, 1) := by decide +kernel
theorem dL_law_817 : decode cL_law 817 = .ok (.aload_n 0, 1) := by decide +kernel
theorem dL_law_818 : decode cL_law 818 = .ok (.iload_n 3, 1) := by decide +kernel
theorem dL_law_819 : decode cL_law 819 = .ok (.iconst 1, 1) := by decide +kernel
theorem dL_law_820 : decode cL_law 820 = .ok (.iadd, 1) := by decide +kernel
theorem dL_law_821 : decode cL_law 821 = .ok (.iaload, 1) := by decide +kernel
theorem dL_law_822 : decode cL_law 822 = .ok (.invokevirtual 113, 3) := by decide +kernel
theorem dL_law_825 : decode cL_law 825 = .ok (.aload_n 2, 1) := by decide +kernel
theorem dL_law_826 : decode cL_law 826 = .ok (.aload_n 0, 1) := by decide +kernel
theorem dL_law_827 : decode cL_law 827 = .ok (.iload_n 3, 1) := by decide +kernel
theorem dL_law_828 : decode cL_law 828 = .ok (.iconst 1, 1) := by decide +kernel
theorem dL_law_829 : decode cL_law 829 = .ok (.iadd, 1) := by decide +kernel
theorem dL_law_830 : decode cL_law 830 = .ok (.iaload, 1) := by decide +kernel
theorem dL_law_831 : decode cL_law 831 = .ok (.invokevirtual 116, 3) := by decide +kernel
theorem dL_law_834 : decode cL_law 834 = .ok (.if_icmp .eq 152, 3) := by decide +kernel
theorem dL_law_837 : decode cL_law 837 = .ok (.iconst 0, 1) := by decide +kernel
theorem dL_law_838 : decode cL_law 838 = .ok (.ireturn, 1) := by decide +kernel
theorem dL_law_839 : decode cL_law 839 = .ok (.aload_n 1, 1) := by decide +kernel
theorem dL_law_840 : decode cL_law 840 = .ok (.aload_n 0, 1) := by decide +kernel
theorem dL_law_841 : decode cL_law 841 = .ok (.iload_n 3, 1) := by decide +kernel
theorem dL_law_842 : decode cL_law 842 = .ok (.iconst 1, 1) := by decide +kernel
theorem dL_law_843 : decode cL_law 843 = .ok (.iadd, 1) := by decide +kernel
theorem dL_law_844 : decode cL_law 844 = .ok (.iaload, 1) := by decide +kernel
theorem dL_law_845 : decode cL_law 845 = .ok (.invokevirtual 117, 3) := by decide +kernel
theorem dL_law_848 : decode cL_law 848 = .ok (.aload_n 2, 1) := by decide +kernel
theorem dL_law_849 : decode cL_law 849 = .ok (.aload_n 0, 1) := by decide +kernel
theorem dL_law_850 : decode cL_law 850 = .ok (.iload_n 3, 1) := by decide +kernel
theorem dL_law_851 : decode cL_law 851 = .ok (.iconst 1, 1) := by decide +kernel
theorem dL_law_852 : decode cL_law 852 = .ok (.iadd, 1) := by decide +kernel
theorem dL_law_853 : decode cL_law 853 = .ok (.iaload, 1) := by decide +kernel
theorem dL_law_854 : decode cL_law 854 = .ok (.invokevirtual 120, 3) := by decide +kernel
theorem dL_law_857 : decode cL_law 857 = .ok (.if_icmp .eq 129, 3) := by decide +kernel
theorem dL_law_860 : decode cL_law 860 = .ok (.iconst 0, 1) := by decide +kernel
theorem dL_law_861 : decode cL_law 861 = .ok (.ireturn, 1) := by decide +kernel
theorem dL_law_862 : decode cL_law 862 = .ok (.aload_n 1, 1) := by decide +kernel
theorem dL_law_863 : decode cL_law 863 = .ok (.invokevirtual 121, 3) := by decide +kernel
theorem dL_law_866 : decode cL_law 866 = .ok (.aload_n 2, 1) := by decide +kernel
theorem dL_law_867 : decode cL_law 867 = .ok (.invokevirtual 124, 3) := by decide +kernel
theorem dL_law_870 : decode cL_law 870 = .ok (.if_icmp .eq 116, 3) := by decide +kernel
theorem dL_law_873 : decode cL_law 873 = .ok (.iconst 0, 1) := by decide +kernel
theorem dL_law_874 : decode cL_law 874 = .ok (.ireturn, 1) := by decide +kernel
theorem dL_law_875 : decode cL_law 875 = .ok (.aload_n 1, 1) := by decide +kernel
theorem dL_law_876 : decode cL_law 876 = .ok (.aload_n 0, 1) := by decide +kernel
theorem dL_law_877 : decode cL_law 877 = .ok (.iload_n 3, 1) := by decide +kernel
theorem dL_law_878 : decode cL_law 878 = .ok (.iconst 1, 1) := by decide +kernel
theorem dL_law_879 : decode cL_law 879 = .ok (.iadd, 1) := by decide +kernel
theorem dL_law_880 : decode cL_law 880 = .ok (.iaload, 1) := by decide +kernel
theorem dL_law_881 : decode cL_law 881 = .ok (.invokevirtual 125, 3) := by decide +kernel
theorem dL_law_884 : decode cL_law 884 = .ok (.aload_n 2, 1) := by decide +kernel
theorem dL_law_885 : decode cL_law 885 = .ok (.aload_n 0, 1) := by decide +kernel
theorem dL_law_886 : decode cL_law 886 = .ok (.iload_n 3, 1) := by decide +kernel
theorem dL_law_887 : decode cL_law 887 = .ok (.iconst 1, 1) := by decide +kernel
theorem dL_law_888 : decode cL_law 888 = .ok (.iadd, 1) := by decide +kernel
theorem dL_law_889 : decode cL_law 889 = .ok (.iaload, 1) := by decide +kernel
theorem dL_law_890 : decode cL_law 890 = .ok (.invokevirtual 128, 3) := by decide +kernel
theorem dL_law_893 : decode cL_law 893 = .ok (.if_icmp .eq 93, 3) := by decide +kernel
theorem dL_law_896 : decode cL_law 896 = .ok (.iconst 0, 1) := by decide +kernel
theorem dL_law_897 : decode cL_law 897 = .ok (.ireturn, 1) := by decide +kernel
theorem dL_law_898 : decode cL_law 898 = .ok (.aload_n 1, 1) := by decide +kernel
theorem dL_law_899 : decode cL_law 899 = .ok (.aload_n 0, 1) := by decide +kernel
theorem dL_law_900 : decode cL_law 900 = .ok (.iload_n 3, 1) := by decide +kernel
theorem dL_law_901 : decode cL_law 901 = .ok (.iconst 1, 1) := by decide +kernel
theorem dL_law_902 : decode cL_law 902 = .ok (.iadd, 1) := by decide +kernel
theorem dL_law_903 : decode cL_law 903 = .ok (.iaload, 1) := by decide +kernel
theorem dL_law_904 : decode cL_law 904 = .ok (.invokevirtual 129, 3) := by decide +kernel
theorem dL_law_907 : decode cL_law 907 = .ok (.aload_n 2, 1) := by decide +kernel
theorem dL_law_908 : decode cL_law 908 = .ok (.aload_n 0, 1) := by decide +kernel
theorem dL_law_909 : decode cL_law 909 = .ok (.iload_n 3, 1) := by decide +kernel
theorem dL_law_910 : decode cL_law 910 = .ok (.iconst 1, 1) := by decide +kernel
theorem dL_law_911 : decode cL_law 911 = .ok (.iadd, 1) := by decide +kernel
theorem dL_law_912 : decode cL_law 912 = .ok (.iaload, 1) := by decide +kernel
theorem dL_law_913 : decode cL_law 913 = .ok (.invokevirtual 132, 3) := by decide +kernel
theorem dL_law_916 : decode cL_law 916 = .ok (.if_icmp .eq 70, 3) := by decide +kernel
theorem dL_law_919 : decode cL_law 919 = .ok (.iconst 0, 1) := by decide +kernel
theorem dL_law_920 : decode cL_law 920 = .ok (.ireturn, 1) := by decide +kernel
theorem dL_law_921 : decode cL_law 921 = .ok (.aload_n 1, 1) := by decide +kernel
theorem dL_law_922 : decode cL_law 922 = .ok (.invokevirtual 133, 3) := by decide +kernel
theorem dL_law_925 : decode cL_law 925 = .ok (.aload_n 2, 1) := by decide +kernel
theorem dL_law_926 : decode cL_law 926 = .ok (.invokevirtual 136, 3) := by decide +kernel
theorem dL_law_929 : decode cL_law 929 = .ok (.if_icmp .eq 57, 3) := by decide +kernel
theorem dL_law_932 : decode cL_law 932 = .ok (.iconst 0, 1) := by decide +kernel
theorem dL_law_933 : decode cL_law 933 = .ok (.ireturn, 1) := by decide +kernel
theorem dL_law_934 : decode cL_law 934 = .ok (.aload_n 1, 1) := by decide +kernel
theorem dL_law_935 : decode cL_law 935 = .ok (.invokevirtual 137, 3) := by decide +kernel
theorem dL_law_938 : decode cL_law 938 = .ok (.aload_n 2, 1) := by decide +kernel
theorem dL_law_939 : decode cL_law 939 = .ok (.invokevirtual 140, 3) := by decide +kernel
theorem dL_law_942 : decode cL_law 942 = .ok (.if_icmp .eq 44, 3) := by decide +kernel
theorem dL_law_945 : decode cL_law 945 = .ok (.iconst 0, 1) := by decide +kernel
theorem dL_law_946 : decode cL_law 946 = .ok (.ireturn, 1) := by decide +kernel
theorem dL_law_947 : decode cL_law 947 = .ok (.aload_n 1, 1) := by decide +kernel
theorem dL_law_948 : decode cL_law 948 = .ok (.invokevirtual 141, 3) := by decide +kernel
theorem dL_law_951 : decode cL_law 951 = .ok (.aload_n 2, 1) := by decide +kernel
theorem dL_law_952 : decode cL_law 952 = .ok (.invokevirtual 144, 3) := by decide +kernel
theorem dL_law_955 : decode cL_law 955 = .ok (.if_icmp .eq 31, 3) := by decide +kernel
theorem dL_law_958 : decode cL_law 958 = .ok (.iconst 0, 1) := by decide +kernel
theorem dL_law_959 : decode cL_law 959 = .ok (.ireturn, 1) := by decide +kernel
theorem dL_law_960 : decode cL_law 960 = .ok (.aload_n 1, 1) := by decide +kernel
theorem dL_law_961 : decode cL_law 961 = .ok (.invokevirtual 145, 3) := by decide +kernel
theorem dL_law_964 : decode cL_law 964 = .ok (.aload_n 2, 1) := by decide +kernel
theorem dL_law_965 : decode cL_law 965 = .ok (.invokevirtual 148, 3) := by decide +kernel
theorem dL_law_968 : decode cL_law 968 = .ok (.if_icmp .eq 18, 3) := by decide +kernel
theorem dL_law_971 : decode cL_law 971 = .ok (.iconst 0, 1) := by decide +kernel
theorem dL_law_972 : decode cL_law 972 = .ok (.ireturn, 1) := by decide +kernel
theorem dL_law_973 : decode cL_law 973 = .ok (.aload_n 1, 1) := by decide +kernel
theorem dL_law_974 : decode cL_law 974 = .ok (.invokevirtual 149, 3) := by decide +kernel
theorem dL_law_977 : decode cL_law 977 = .ok (.aload_n 2, 1) := by decide +kernel
theorem dL_law_978 : decode cL_law 978 = .ok (.invokevirtual 152, 3) := by decide +kernel
theorem dL_law_981 : decode cL_law 981 = .ok (.if_icmp .eq 5, 3) := by decide +kernel
theorem dL_law_984 : decode cL_law 984 = .ok (.iconst 0, 1) := by decide +kernel
theorem dL_law_985 : decode cL_law 985 = .ok (.ireturn, 1) := by decide +kernel
theorem dL_law_986 : decode cL_law 986 = .ok (.iinc 3 4, 3) := by decide +kernel
theorem dL_law_989 : decode cL_law 989 = .ok (.goto (-971), 3) := by decide +kernel
theorem dL_law_992 : decode cL_law 992 = .ok (.iconst 1, 1) := by decide +kernel
theorem dL_law_993 : decode cL_law 993 = .ok (.ireturn, 1) := by decide +kernel
end
section
/-! THE CORE: a walk over a world of numbered cells. The world is a function w : Nat → va_E (what the cell g.1 + i holds) and how many cells it has; V: from here the method comes to its end. -/
/-- the base address, the classes' numbers and slots, the array classes, the constant text's two addresses, the script -/
abbrev GG : Type := Nat × va_G × (Nat → ClassId) × (Nat × Nat) × (Nat × Nat × (Nat → Int32))
abbrev MI : Type := MethodName × ByteArray × Nat × Option FieldType
abbrev HW : Type := Nat → va_E
abbrev LO : Type := List (Option Value)
abbrev rf (g : GG) (i : Nat) : Value := .ref (g.1 + i)
abbrev eI (g : GG) (n : Nat) (f : Nat → Int32) : va_E := .inl (g.2.2.1 0, n, .inl f)
abbrev eC (g : GG) (n : Nat) (f : Nat → Int32) : va_E := .inl (g.2.2.1 1, n, .inl f)
abbrev eR (g : GG) (n : Nat) (f : Nat → Option Nat) : va_E := .inl (g.2.2.1 2, n, .inr (.inr (.inr (.inr f))))
abbrev eS (g : GG) (n : Nat) (f : Nat → Option Nat) : va_E := .inl (g.2.2.1 3, n, .inr (.inr (.inr (.inr f))))
abbrev eA (g : GG) (n : Nat) (f : Nat → Option Nat) : va_E := .inl (g.2.2.1 4, n, .inr (.inr (.inr (.inr f))))
abbrev eO (ci : Nat) (fs : List Value) : va_E := .inr (ci, fs)
def tysG (g : GG) : List (ClassId × FieldType) := [(g.2.2.1 0, .int), (g.2.2.1 1, .char), (g.2.2.1 2, .object "JugglingRows$Row"), (g.2.2.1 3, .object "JugglingRows$Stand"), (g.2.2.1 4, .array .int)]
def vA (g : GG) : Nat → Prop := fun q => g.1 ≤ q
def wl (g : GG) (w : HW) (n : Nat) : va_W := (List.range n).map fun i => (g.1 + i, w i)
def Wd (g : GG) (w : HW) (n : Nat) (H : Heap) : Prop := va_P g.2.1 vwCl (wl g w n) H
/-- the constant text's facts -/
def Sx (g : GG) (U : State) (H : Heap) : Prop := vk_S 1 [8] [[120, 116, 115, 108, 98, 106, 99, 114]] (fun _ => g.2.2.2.1.1) (fun _ => g.2.2.2.1.2) (vA g) U H ∧ va_Z "java/lang/String" "COMPACT_STRINGS" "Z" (.int 1) (vA g) U H
def Kt (g : GG) (U : State) (H : Heap) : Prop := va_K g.2.1 vwCl (tysG g) U ∧ Sx g U H ∧ vk_R "JugglingRowsModel" 203 "xtslbjcr" g.2.2.2.1.1 U ∧ va_X g.2.2.2.2.1 g.2.2.2.2.2.1 g.2.2.2.2.2.2 U H ∧ g.2.2.2.2.1 < H.size ∧ ¬ vA g g.2.2.2.2.1
theorem Kt.kept {g : GG} {U : State} {H H1 : Heap} (h : Kt g U H) (hz : H.size ≤ H1.size) (hq : ∀ a : Nat, a < H.size → ¬ vA g a → H1[a]? = H[a]?) : Kt g U H1 := by
  obtain ⟨h1, ⟨h2, h2'⟩, h3, h4, h5, h6⟩ := h
  exact ⟨h1, ⟨h2.kept hq, h2'.kept hq⟩, h3, h4.kept (hq _ h5 h6), Nat.lt_of_lt_of_le h5 hz, h6⟩
theorem Kt.warm {g : GG} {s U : State} {H : Heap} (hW : s.WarmedH U.vm) (h : Kt g s H) : Kt g U H := by
  obtain ⟨h1, ⟨h2, h2'⟩, h3, h4, h5, h6⟩ := h
  exact ⟨va_K.moved hW.alike h1, ⟨h2.moved hW.alike, h2'.moved hW.alike⟩, h3.warm hW, h4.moved hW.alike, h5, h6⟩
theorem Kt.vmeq {g : GG} {s U : State} {H : Heap} (hv : U.vm = s.vm) (h : Kt g s H) : Kt g U H := by
  obtain ⟨h1, ⟨h2, h2'⟩, h3, h4, h5, h6⟩ := h
  have hA : s.vm.Alike U.vm := by rw [hv]; exact Vm.Alike.refl s.vm
  exact ⟨va_K.moved hA h1, ⟨h2.moved hA, h2'.moved hA⟩, h3.same hv, h4.moved hA, h5, h6⟩
/-! worlds as lists -/
theorem wl_get {g : GG} {w : HW} {n i : Nat} (h : i < n) : (wl g w n)[i]? = some (g.1 + i, w i) := by
  unfold wl
  rw [List.getElem?_map, List.getElem?_range h]
  rfl
theorem wl_inv {g : GG} {w : HW} {n k : Nat} {q : Nat × va_E} (h : (wl g w n)[k]? = some q) : k < n ∧ q = (g.1 + k, w k) := by
  have hk : k < n := by
    have := (List.getElem?_eq_some_iff.mp h).1
    unfold wl at this
    rwa [List.length_map, List.length_range] at this
  rw [wl_get hk] at h
  exact ⟨hk, (Option.some.inj h).symm⟩
theorem wl_set {g : GG} {w : HW} {n i : Nat} (e : va_E) (h : i < n) : (wl g w n).set i (g.1 + i, e) = wl g (va_up w i e) n := by
  apply List.ext_getElem?
  intro k
  by_cases hk : k < n
  · rw [wl_get hk]
    by_cases hi : k = i
    · subst hi
      rw [List.getElem?_set_self (by unfold wl; rw [List.length_map, List.length_range]; exact hk)]
      simp [va_up]
    · rw [List.getElem?_set_ne (Ne.symm hi), wl_get hk]
      simp [va_up, hi]
  · rw [List.getElem?_eq_none (by rw [List.length_set]; unfold wl; rw [List.length_map, List.length_range]; omega), List.getElem?_eq_none (by unfold wl; rw [List.length_map, List.length_range]; omega)]
theorem wl_push {g : GG} {w : HW} {n : Nat} (e : va_E) : wl g w n ++ [(g.1 + n, e)] = wl g (va_up w n e) (n + 1) := by
  apply List.ext_getElem?
  intro k
  have hl : (wl g w n).length = n := by unfold wl; rw [List.length_map, List.length_range]
  by_cases hk : k < n
  · rw [wl_get (by omega), List.getElem?_append_left (by omega), wl_get hk]
    simp [va_up, Nat.ne_of_lt hk]
  · rw [List.getElem?_append_right (by omega), hl]
    by_cases h : k = n
    · subst h
      rw [wl_get (by omega), Nat.sub_self]
      simp [va_up]
    · rw [List.getElem?_eq_none (by simp; omega), List.getElem?_eq_none (by unfold wl; rw [List.length_map, List.length_range]; omega)]
theorem wl_D {g : GG} {w : HW} {n : Nat} : va_D (vA g) (wl g w n) := by
  refine ⟨fun i j p q hi hj h => ?_, fun k q hk => ?_⟩
  · obtain ⟨-, rfl⟩ := wl_inv hi
    obtain ⟨-, rfl⟩ := wl_inv hj
    simp only at h
    omega
  · obtain ⟨-, rfl⟩ := wl_inv hk
    show g.1 ≤ g.1 + k
    omega
theorem Wd.sz {g : GG} {w : HW} {n : Nat} {H : Heap} (h : Wd g w n H) (hb : g.1 ≤ H.size) : g.1 + n ≤ H.size := by
  cases n with
  | zero => exact hb
  | succ n => exact (h n _ (wl_get (Nat.lt_succ_self n))).lt
theorem up_eq {w : HW} {i : Nat} {e : va_E} : va_up w i e i = e := if_pos rfl
theorem up_ne {w : HW} {i j : Nat} {e : va_E} (h : j ≠ i) : va_up w i e j = w j := if_neg h
/-! locals -/
def lvp (ls : LO) : List (Nat × Value) := (List.range ls.length).filterMap fun i => (ls[i]?.join).map fun v => (i, v)
theorem lvp_mem {ls : LO} {i : Nat} {v : Value} : (i, v) ∈ lvp ls ↔ ls[i]? = some (some v) := by
  unfold lvp
  rw [List.mem_filterMap]
  constructor
  · rintro ⟨j, -, hj⟩
    obtain ⟨u, hu, he⟩ := Option.map_eq_some_iff.mp hj
    cases he
    cases hh : ls[i]? with
    | none => rw [hh] at hu; cases hu
    | some o =>
      rw [hh] at hu
      exact congrArg some hu
  · intro h
    exact ⟨i, List.mem_range.mpr (List.getElem?_eq_some_iff.mp h).1, by rw [h]; rfl⟩
def Lv (la : Array Slot) (nL : Nat) (ls : LO) : Prop := ls.length = nL ∧ lv_has la nL (lvp ls) ∧ ∀ (i : Nat) (v : Value), ls[i]? = some (some v) → v.category = 1
theorem Lv.at' {la : Array Slot} {nL i : Nat} {ls : LO} {v : Value} (h : Lv la nL ls) (hi : ls[i]? = some (some v)) : la[i]? = some (.val v) := h.2.1.2.2 (i, v) (lvp_mem.mpr hi)
theorem Lv.put {la' : Array Slot} {nL i : Nat} {ls ls' : LO} {v : Value} {la : Array Slot} (h : Lv la nL ls) (hn : i < nL) (hc : v.category = 1) (he : ls.set i (some v) = ls') (h2 : lv_has la' nL ((i, v) :: (lvp ls).filter (fun q => !(q.1 == i) && !(q.1 + 1 == i && q.2.category == 2)))) : Lv la' nL ls' := by
  subst he
  refine ⟨by rw [List.length_set]; exact h.1, ⟨h2.1, h2.2.1, fun q hq => ?_⟩, fun j u hj => ?_⟩
  · obtain ⟨j, u⟩ := q
    have hj := lvp_mem.mp hq
    by_cases hji : j = i
    · subst hji
      rw [List.getElem?_set_self (by rw [h.1]; exact hn)] at hj
      cases hj
      exact h2.2.2 _ List.mem_cons_self
    · rw [List.getElem?_set_ne (Ne.symm hji)] at hj
      refine h2.2.2 (j, u) (List.mem_cons_of_mem _ (List.mem_filter.mpr ⟨lvp_mem.mpr hj, ?_⟩))
      have hcu := h.2.2 j u hj
      simp [hji, hcu]
  · by_cases hji : j = i
    · subst hji
      rw [List.getElem?_set_self (by rw [h.1]; exact hn)] at hj
      cases hj
      exact hc
    · rw [List.getElem?_set_ne (Ne.symm hji)] at hj
      exact h.2.2 j u hj
theorem Lv.weak {la : Array Slot} {nL : Nat} {ls ls' : LO} (h : Lv la nL ls) (hl : ls'.length = ls.length) (hs : ∀ (i : Nat) (v : Value), ls'[i]? = some (some v) → ls[i]? = some (some v)) : Lv la nL ls' :=
  ⟨hl.trans h.1, ⟨h.2.1.1, h.2.1.2.1, fun q hq => h.2.1.2.2 q (by obtain ⟨j, u⟩ := q; exact lvp_mem.mpr (hs j u (lvp_mem.mp hq)))⟩, fun i v hi => h.2.2 i v (hs i v hi)⟩
/-! contracts and walks -/
def rmd (d mc ms : Nat) : Room := { frames := d, cells := mc, slots := ms, locals := 36 * d }
abbrev QQ : Type := Option Value → HW → Nat → Prop
abbrev FinT : Type := List Frame → Array Value → State → State → Prop
def QcM (g : GG) (Q : QQ) : Array Value → State → Outcome → State → Prop := fun _ st o t => (∃ (v : Option Value) (w' : HW) (n' : Nat), o = .returned v ∧ Q v w' n' ∧ Wd g w' n' t.heap) ∧ va_F (vA g) st t
def FinM (g : GG) (Q : QQ) (mc ms : Nat) : FinT := fun below args s => MQ below (QcM g Q) args s mc ms (vA g)
def wsM (M : MI) : List Cond := .code M.1 M.2.1 M.2.2.1 M.2.2.2 :: wsL_law
/-- the contract: from the world w of n cells, with these arguments, the method ends, and Q holds of its answer and the world behind it -/
def Ct (g : GG) (l : Launch) (M : MI) (d : Nat) (av : List Value) (w : HW) (n : Nat) (Q : QQ) (mc ms : Nat) : Prop :=
  Met l M.1 (wsM M) (rmd d mc ms) (va_Pc av (fun U => Wd g w n U.heap ∧ Kt g U U.heap ∧ U.heap.size = g.1 + n)) (QcM g Q) mc ms (vA g)
def Cx (g : GG) (M : MI) (p : Program) (s : State) (m : MethodId) (args : Array Value) (meth : Method) (c : Code) : Prop :=
  p.tables.exec = Jvm.exec ∧ c.code = M.2.1 ∧ meth.sig.returnType = M.2.2.2 ∧ meth.locks = false ∧ c.maxLocals = M.2.2.1 ∧ s.vm.findClass M.1.cls = some m.cls ∧ (∀ w ∈ wsL_law, w.before args s = true) ∧ Kt g s s.heap ∧ g.1 ≤ s.heap.size ∧ (M.1.name = "<init>" → meth.name = "<init>")
def V (g : GG) (l : Launch) (M : MI) (R : Room) (Fin : FinT) (pc : Nat) (ls : LO) (st : List Value) (w : HW) (n : Nat) (cs sl : Nat) : Prop :=
  ∀ (p : Program) (e : Env) (s : State) (m : MethodId) (args : Array Value) (below : List Frame) (meth : Method) (c : Code) (H : Heap) (locs : List Loc) (la : Array Slot),
    Cx g M p s m args meth c → Lv la M.2.2.1 ls → Wd g w n H → va_S (vA g) s.heap H locs → g.1 + n = s.heap.size + cs →
    W p l e R s m args below meth c H locs cs sl (Fin below args s) (F0 m pc la st)
/-- the heap is no larger than its count says -/
theorem W_sz {p : Program} {l : Launch} {e : Env} {R : Room} {s : State} {m : MethodId} {args : Array Value} {below : List Frame} {meth : Method} {c : Code} {H : Heap} {locs : List Loc} {cells slots : Nat} {Q : State → Prop} {g : JFrame}
    (k : H.size ≤ s.heap.size + cells → W p l e R s m args below meth c H locs cells slots Q g) : W p l e R s m args below meth c H locs cells slots Q g := by
  intro T hT X
  have h1 := X.same.2.2.1
  have h2 : (T.setVm s.vm).heap.size = H.size := by rw [← hT]; rfl
  exact k (by rw [← h2]; exact h1) T hT X
theorem ws_good : wsL_law.all goodWord = true := by decide +kernel
theorem Ct.of {g : GG} {l : Launch} {M : MI} {d : Nat} {av : List Value} {w : HW} {n : Nat} {Q : QQ} {mc ms : Nat} (hy : plainName M.1.cls = true) (hav : (lg_sl av).length ≤ M.2.2.1) (hcat : ∀ v ∈ av, v.category = 1) {ls : LO} (hls : ls.length = M.2.2.1) (hl : ∀ (i : Nat) (v : Value), ls[i]? = some (some v) → av[i]? = some v)
    (k : V g l M (rmd d mc ms) (FinM g Q mc ms) 0 ls [] w n 0 0) : Ct g l M d av w n Q mc ms := by
  refine Met.ofW (cc := M.2.1) (maxL := M.2.2.1) (ret := M.2.2.2) hy rfl ?_
  intro p e s m args below meth c s₁ B hml hv
  obtain ⟨rfl, hP, hK, hz⟩ := hv
  have hts := atoms_spec (ws := wsM M) B.pre
  have hl0 := lv_entry av (n := M.2.2.1) hav
  rw [lg_entry_eq]
  refine k p e s m _ below meth c s.heap [] _ ⟨B.exec, B.bytes, B.returns, B.notSynchronized, hml, findClass_of_methodNamed B.named, fun w hw => hts w (List.mem_cons_of_mem _ hw), hK, by omega, fun hn => by rw [← hn]; exact (name_of_methodNamed B.named B.method).1⟩ ?_ hP va_S.rf (by omega)
  refine ⟨hls, ⟨hl0.1, hl0.2.1, fun q hq => ?_⟩, fun i v hi => hcat v (List.mem_of_getElem? (hl i v hi))⟩
  obtain ⟨i, v⟩ := q
  have hi := hl i v (lvp_mem.mp hq)
  refine hl0.2.2 (i, v) ?_
  have key : ∀ (vs : List Value) (j i : Nat) (v : Value), (∀ v ∈ vs, v.category = 1) → vs[i]? = some v → (j + i, v) ∈ lv_args j vs := by
    intro vs
    induction vs with
    | nil => intro j i v _ h; simp at h
    | cons u vs ih =>
      intro j i v hc h
      have hu := hc u List.mem_cons_self
      unfold lv_args
      rw [if_neg (by rw [hu]; decide)]
      cases i with
      | zero =>
        simp at h
        rw [h]
        exact List.mem_cons_self
      | succ i =>
        have := ih (j + 1) i v (fun v hv => hc v (List.mem_cons_of_mem _ hv)) (by simpa using h)
        rw [show j + (i + 1) = j + 1 + i by omega]
        exact List.mem_cons_of_mem _ this
  have := key av 0 i v hcat hi
  rwa [Nat.zero_add] at this
end
section
/-! THE RULES: one instruction each, over V. q is the next instruction's place. -/
section RU
variable {g : GG} {l : Launch} {M : MI} {R : Room} {FN : FinT} {pc q : Nat} {ls ls' : LO} {st : List Value} {w : HW} {n cs sl : Nat}
theorem V_iconst {v0 : Int} {v : Int32} (d : decode M.2.1 pc = .ok (.iconst v0, 1)) (hq : pc + 1 = q) (hv : Int32.ofInt v0 = v) (k : V g l M R FN q ls (.int v :: st) w n cs sl) : V g l M R FN pc ls st w n cs sl := by
  subst hq
  intro p e s m args below meth c H locs la hC hL hP hS hn
  obtain ⟨hx, hb, hr, hlk, hml, hown, hts, hK, hb0, hin⟩ := id hC
  refine lv_iconst hx hb d hv ?_
  exact k p e s m args below meth c H locs la hC hL hP hS hn
theorem V_bipush {v0 : Int} {v : Int32} (d : decode M.2.1 pc = .ok (.bipush v0, 2)) (hq : pc + 2 = q) (hv : (Int8.ofInt v0).toInt32 = v) (k : V g l M R FN q ls (.int v :: st) w n cs sl) : V g l M R FN pc ls st w n cs sl := by
  subst hq
  intro p e s m args below meth c H locs la hC hL hP hS hn
  obtain ⟨hx, hb, hr, hlk, hml, hown, hts, hK, hb0, hin⟩ := id hC
  refine lv_bipush hx hb d hv ?_
  exact k p e s m args below meth c H locs la hC hL hP hS hn
theorem V_sipush {v0 : Int} {v : Int32} (d : decode M.2.1 pc = .ok (.sipush v0, 3)) (hq : pc + 3 = q) (hv : (Int16.ofInt v0).toInt32 = v) (k : V g l M R FN q ls (.int v :: st) w n cs sl) : V g l M R FN pc ls st w n cs sl := by
  subst hq
  intro p e s m args below meth c H locs la hC hL hP hS hn
  obtain ⟨hx, hb, hr, hlk, hml, hown, hts, hK, hb0, hin⟩ := id hC
  refine lv_sipush hx hb d hv ?_
  exact k p e s m args below meth c H locs la hC hL hP hS hn
theorem V_null (d : decode M.2.1 pc = .ok (.aconst_null, 1)) (hq : pc + 1 = q) (k : V g l M R FN q ls (.null :: st) w n cs sl) : V g l M R FN pc ls st w n cs sl := by
  subst hq
  intro p e s m args below meth c H locs la hC hL hP hS hn
  obtain ⟨hx, hb, hr, hlk, hml, hown, hts, hK, hb0, hin⟩ := id hC
  refine lv_null hx hb d ?_
  exact k p e s m args below meth c H locs la hC hL hP hS hn
theorem V_iload_n {i : Fin 4} {x : Int32} (d : decode M.2.1 pc = .ok (.iload_n i, 1)) (hq : pc + 1 = q) (hl : ls[(i : Nat)]? = some (some (.int x))) (k : V g l M R FN q ls (.int x :: st) w n cs sl) : V g l M R FN pc ls st w n cs sl := by
  subst hq
  intro p e s m args below meth c H locs la hC hL hP hS hn
  obtain ⟨hx, hb, hr, hlk, hml, hown, hts, hK, hb0, hin⟩ := id hC
  refine lv_iload_n hx hb d rfl (hL.at' hl) ?_
  exact k p e s m args below meth c H locs la hC hL hP hS hn
theorem V_iload {i : Nat} {x : Int32} (d : decode M.2.1 pc = .ok (.iload i, 2)) (hq : pc + 2 = q) (hl : ls[i]? = some (some (.int x))) (k : V g l M R FN q ls (.int x :: st) w n cs sl) : V g l M R FN pc ls st w n cs sl := by
  subst hq
  intro p e s m args below meth c H locs la hC hL hP hS hn
  obtain ⟨hx, hb, hr, hlk, hml, hown, hts, hK, hb0, hin⟩ := id hC
  refine lv_iload hx hb d (hL.at' hl) ?_
  exact k p e s m args below meth c H locs la hC hL hP hS hn
theorem V_fload_n {i : Fin 4} {x : UInt32} (d : decode M.2.1 pc = .ok (.fload_n i, 1)) (hq : pc + 1 = q) (hl : ls[(i : Nat)]? = some (some (.float x))) (k : V g l M R FN q ls (.float x :: st) w n cs sl) : V g l M R FN pc ls st w n cs sl := by
  subst hq
  intro p e s m args below meth c H locs la hC hL hP hS hn
  obtain ⟨hx, hb, hr, hlk, hml, hown, hts, hK, hb0, hin⟩ := id hC
  refine lv_fload_n hx hb d rfl (hL.at' hl) ?_
  exact k p e s m args below meth c H locs la hC hL hP hS hn
theorem V_fload {i : Nat} {x : UInt32} (d : decode M.2.1 pc = .ok (.fload i, 2)) (hq : pc + 2 = q) (hl : ls[i]? = some (some (.float x))) (k : V g l M R FN q ls (.float x :: st) w n cs sl) : V g l M R FN pc ls st w n cs sl := by
  subst hq
  intro p e s m args below meth c H locs la hC hL hP hS hn
  obtain ⟨hx, hb, hr, hlk, hml, hown, hts, hK, hb0, hin⟩ := id hC
  refine lv_fload hx hb d (hL.at' hl) ?_
  exact k p e s m args below meth c H locs la hC hL hP hS hn
theorem V_aload_n {i : Fin 4} {v : Value} (d : decode M.2.1 pc = .ok (.aload_n i, 1)) (hq : pc + 1 = q) (hl : ls[(i : Nat)]? = some (some v)) (hv : v.isRef = true) (k : V g l M R FN q ls (v :: st) w n cs sl) : V g l M R FN pc ls st w n cs sl := by
  subst hq
  intro p e s m args below meth c H locs la hC hL hP hS hn
  obtain ⟨hx, hb, hr, hlk, hml, hown, hts, hK, hb0, hin⟩ := id hC
  cases v with
  | null => refine lv_aload_nN hx hb d rfl (hL.at' hl) ?_; exact k p e s m args below meth c H locs la hC hL hP hS hn
  | ref a => refine lv_aload_n hx hb d rfl (hL.at' hl) ?_; exact k p e s m args below meth c H locs la hC hL hP hS hn
  | _ => cases hv
theorem V_aload {i : Nat} {v : Value} (d : decode M.2.1 pc = .ok (.aload i, 2)) (hq : pc + 2 = q) (hl : ls[i]? = some (some v)) (hv : v.isRef = true) (k : V g l M R FN q ls (v :: st) w n cs sl) : V g l M R FN pc ls st w n cs sl := by
  subst hq
  intro p e s m args below meth c H locs la hC hL hP hS hn
  obtain ⟨hx, hb, hr, hlk, hml, hown, hts, hK, hb0, hin⟩ := id hC
  cases v with
  | null => refine lv_aloadN hx hb d (hL.at' hl) ?_; exact k p e s m args below meth c H locs la hC hL hP hS hn
  | ref a => refine lv_aload hx hb d (hL.at' hl) ?_; exact k p e s m args below meth c H locs la hC hL hP hS hn
  | _ => cases hv
theorem V_istore_n {i : Fin 4} {x : Int32} (d : decode M.2.1 pc = .ok (.istore_n i, 1)) (hq : pc + 1 = q) (hi : (i : Nat) < M.2.2.1) (he : ls.set (i : Nat) (some (.int x)) = ls') (k : V g l M R FN q ls' st w n cs sl) : V g l M R FN pc ls (.int x :: st) w n cs sl := by
  subst hq
  intro p e s m args below meth c H locs la hC hL hP hS hn
  obtain ⟨hx, hb, hr, hlk, hml, hown, hts, hK, hb0, hin⟩ := id hC
  refine lv_istore_n hx hb d rfl hL.2.1 hi rfl fun la' h2 => ?_
  exact k p e s m args below meth c H locs la' hC (hL.put hi rfl he h2) hP hS hn
theorem V_istore {i : Nat} {x : Int32} (d : decode M.2.1 pc = .ok (.istore i, 2)) (hq : pc + 2 = q) (hi : i < M.2.2.1) (he : ls.set i (some (.int x)) = ls') (k : V g l M R FN q ls' st w n cs sl) : V g l M R FN pc ls (.int x :: st) w n cs sl := by
  subst hq
  intro p e s m args below meth c H locs la hC hL hP hS hn
  obtain ⟨hx, hb, hr, hlk, hml, hown, hts, hK, hb0, hin⟩ := id hC
  refine lv_istore hx hb d hL.2.1 hi rfl fun la' h2 => ?_
  exact k p e s m args below meth c H locs la' hC (hL.put hi rfl he h2) hP hS hn
theorem V_fstore_n {i : Fin 4} {x : UInt32} (d : decode M.2.1 pc = .ok (.fstore_n i, 1)) (hq : pc + 1 = q) (hi : (i : Nat) < M.2.2.1) (he : ls.set (i : Nat) (some (.float x)) = ls') (k : V g l M R FN q ls' st w n cs sl) : V g l M R FN pc ls (.float x :: st) w n cs sl := by
  subst hq
  intro p e s m args below meth c H locs la hC hL hP hS hn
  obtain ⟨hx, hb, hr, hlk, hml, hown, hts, hK, hb0, hin⟩ := id hC
  refine lv_fstore_n hx hb d rfl hL.2.1 hi rfl fun la' h2 => ?_
  exact k p e s m args below meth c H locs la' hC (hL.put hi rfl he h2) hP hS hn
theorem V_fstore {i : Nat} {x : UInt32} (d : decode M.2.1 pc = .ok (.fstore i, 2)) (hq : pc + 2 = q) (hi : i < M.2.2.1) (he : ls.set i (some (.float x)) = ls') (k : V g l M R FN q ls' st w n cs sl) : V g l M R FN pc ls (.float x :: st) w n cs sl := by
  subst hq
  intro p e s m args below meth c H locs la hC hL hP hS hn
  obtain ⟨hx, hb, hr, hlk, hml, hown, hts, hK, hb0, hin⟩ := id hC
  refine lv_fstore hx hb d hL.2.1 hi rfl fun la' h2 => ?_
  exact k p e s m args below meth c H locs la' hC (hL.put hi rfl he h2) hP hS hn
theorem V_astore_n {i : Fin 4} {v : Value} (d : decode M.2.1 pc = .ok (.astore_n i, 1)) (hq : pc + 1 = q) (hi : (i : Nat) < M.2.2.1) (hv : v.isRef = true) (he : ls.set (i : Nat) (some v) = ls') (k : V g l M R FN q ls' st w n cs sl) : V g l M R FN pc ls (v :: st) w n cs sl := by
  subst hq
  intro p e s m args below meth c H locs la hC hL hP hS hn
  obtain ⟨hx, hb, hr, hlk, hml, hown, hts, hK, hb0, hin⟩ := id hC
  cases v with
  | null => refine lv_astore_nN hx hb d rfl hL.2.1 hi rfl fun la' h2 => ?_; exact k p e s m args below meth c H locs la' hC (hL.put hi rfl he h2) hP hS hn
  | ref a => refine lv_astore_n hx hb d rfl hL.2.1 hi rfl fun la' h2 => ?_; exact k p e s m args below meth c H locs la' hC (hL.put hi rfl he h2) hP hS hn
  | _ => cases hv
theorem V_astore {i : Nat} {v : Value} (d : decode M.2.1 pc = .ok (.astore i, 2)) (hq : pc + 2 = q) (hi : i < M.2.2.1) (hv : v.isRef = true) (he : ls.set i (some v) = ls') (k : V g l M R FN q ls' st w n cs sl) : V g l M R FN pc ls (v :: st) w n cs sl := by
  subst hq
  intro p e s m args below meth c H locs la hC hL hP hS hn
  obtain ⟨hx, hb, hr, hlk, hml, hown, hts, hK, hb0, hin⟩ := id hC
  cases v with
  | null => refine lv_astoreN hx hb d hL.2.1 hi rfl fun la' h2 => ?_; exact k p e s m args below meth c H locs la' hC (hL.put hi rfl he h2) hP hS hn
  | ref a => refine lv_astore hx hb d hL.2.1 hi rfl fun la' h2 => ?_; exact k p e s m args below meth c H locs la' hC (hL.put hi rfl he h2) hP hS hn
  | _ => cases hv
theorem V_iinc {i : Nat} {z : Int} {x v : Int32} (d : decode M.2.1 pc = .ok (.iinc i z, 3)) (hq : pc + 3 = q) (hi : i < M.2.2.1) (hl : ls[i]? = some (some (.int x))) (hv : x + Int32.ofInt z = v) (he : ls.set i (some (.int v)) = ls') (k : V g l M R FN q ls' st w n cs sl) : V g l M R FN pc ls st w n cs sl := by
  subst hq
  intro p e s m args below meth c H locs la hC hL hP hS hn
  obtain ⟨hx, hb, hr, hlk, hml, hown, hts, hK, hb0, hin⟩ := id hC
  obtain ⟨k0, hk0⟩ := List.getElem?_of_mem (lvp_mem.mpr hl)
  refine lv_iinc hx hb d hL.2.1 hk0 hv hi rfl fun la' h2 => ?_
  exact k p e s m args below meth c H locs la' hC (hL.put hi rfl he h2) hP hS hn
theorem V_iadd {x y z : Int32} (d : decode M.2.1 pc = .ok (.iadd, 1)) (hq : pc + 1 = q) (hz : x + y = z) (k : V g l M R FN q ls (.int z :: st) w n cs sl) : V g l M R FN pc ls (.int y :: .int x :: st) w n cs sl := by
  subst hq; subst hz
  intro p e s m args below meth c H locs la hC hL hP hS hn
  obtain ⟨hx, hb, hr, hlk, hml, hown, hts, hK, hb0, hin⟩ := id hC
  refine lv_iadd hx hb d ?_
  exact k p e s m args below meth c H locs la hC hL hP hS hn
theorem V_isub {x y z : Int32} (d : decode M.2.1 pc = .ok (.isub, 1)) (hq : pc + 1 = q) (hz : x - y = z) (k : V g l M R FN q ls (.int z :: st) w n cs sl) : V g l M R FN pc ls (.int y :: .int x :: st) w n cs sl := by
  subst hq; subst hz
  intro p e s m args below meth c H locs la hC hL hP hS hn
  obtain ⟨hx, hb, hr, hlk, hml, hown, hts, hK, hb0, hin⟩ := id hC
  refine lv_isub hx hb d ?_
  exact k p e s m args below meth c H locs la hC hL hP hS hn
theorem V_imul {x y z : Int32} (d : decode M.2.1 pc = .ok (.imul, 1)) (hq : pc + 1 = q) (hz : x * y = z) (k : V g l M R FN q ls (.int z :: st) w n cs sl) : V g l M R FN pc ls (.int y :: .int x :: st) w n cs sl := by
  subst hq; subst hz
  intro p e s m args below meth c H locs la hC hL hP hS hn
  obtain ⟨hx, hb, hr, hlk, hml, hown, hts, hK, hb0, hin⟩ := id hC
  refine lv_imul hx hb d ?_
  exact k p e s m args below meth c H locs la hC hL hP hS hn
theorem V_iand {x y z : Int32} (d : decode M.2.1 pc = .ok (.iand, 1)) (hq : pc + 1 = q) (hz : x &&& y = z) (k : V g l M R FN q ls (.int z :: st) w n cs sl) : V g l M R FN pc ls (.int y :: .int x :: st) w n cs sl := by
  subst hq; subst hz
  intro p e s m args below meth c H locs la hC hL hP hS hn
  obtain ⟨hx, hb, hr, hlk, hml, hown, hts, hK, hb0, hin⟩ := id hC
  refine lv_iand hx hb d ?_
  exact k p e s m args below meth c H locs la hC hL hP hS hn
theorem V_ior {x y z : Int32} (d : decode M.2.1 pc = .ok (.ior, 1)) (hq : pc + 1 = q) (hz : x ||| y = z) (k : V g l M R FN q ls (.int z :: st) w n cs sl) : V g l M R FN pc ls (.int y :: .int x :: st) w n cs sl := by
  subst hq; subst hz
  intro p e s m args below meth c H locs la hC hL hP hS hn
  obtain ⟨hx, hb, hr, hlk, hml, hown, hts, hK, hb0, hin⟩ := id hC
  refine lv_ior hx hb d ?_
  exact k p e s m args below meth c H locs la hC hL hP hS hn
theorem V_ishl {x y z : Int32} (d : decode M.2.1 pc = .ok (.ishl, 1)) (hq : pc + 1 = q) (hz : x <<< (y &&& 31) = z) (k : V g l M R FN q ls (.int z :: st) w n cs sl) : V g l M R FN pc ls (.int y :: .int x :: st) w n cs sl := by
  subst hq; subst hz
  intro p e s m args below meth c H locs la hC hL hP hS hn
  obtain ⟨hx, hb, hr, hlk, hml, hown, hts, hK, hb0, hin⟩ := id hC
  refine lv_ishl hx hb d ?_
  exact k p e s m args below meth c H locs la hC hL hP hS hn
theorem V_ishr {x y z : Int32} (d : decode M.2.1 pc = .ok (.ishr, 1)) (hq : pc + 1 = q) (hz : x >>> (y &&& 31) = z) (k : V g l M R FN q ls (.int z :: st) w n cs sl) : V g l M R FN pc ls (.int y :: .int x :: st) w n cs sl := by
  subst hq; subst hz
  intro p e s m args below meth c H locs la hC hL hP hS hn
  obtain ⟨hx, hb, hr, hlk, hml, hown, hts, hK, hb0, hin⟩ := id hC
  refine lv_ishr hx hb d ?_
  exact k p e s m args below meth c H locs la hC hL hP hS hn
theorem V_iushr {x y z : Int32} (d : decode M.2.1 pc = .ok (.iushr, 1)) (hq : pc + 1 = q) (hz : (x.toUInt32 >>> (y.toUInt32 &&& Int32.toUInt32 31)).toInt32 = z) (k : V g l M R FN q ls (.int z :: st) w n cs sl) : V g l M R FN pc ls (.int y :: .int x :: st) w n cs sl := by
  subst hq
  intro p e s m args below meth c H locs la hC hL hP hS hn
  obtain ⟨hx, hb, hr, hlk, hml, hown, hts, hK, hb0, hin⟩ := id hC
  refine lv_iushr hx hb d hz ?_
  exact k p e s m args below meth c H locs la hC hL hP hS hn
theorem V_idiv {x y z : Int32} (d : decode M.2.1 pc = .ok (.idiv, 1)) (hq : pc + 1 = q) (hne : ¬ y = 0) (hz : x / y = z) (k : V g l M R FN q ls (.int z :: st) w n cs sl) : V g l M R FN pc ls (.int y :: .int x :: st) w n cs sl := by
  subst hq; subst hz
  intro p e s m args below meth c H locs la hC hL hP hS hn
  obtain ⟨hx, hb, hr, hlk, hml, hown, hts, hK, hb0, hin⟩ := id hC
  refine lv_idiv hx hb d hne ?_
  exact k p e s m args below meth c H locs la hC hL hP hS hn
theorem V_irem {x y z : Int32} (d : decode M.2.1 pc = .ok (.irem, 1)) (hq : pc + 1 = q) (hne : ¬ y = 0) (hz : x - x / y * y = z) (k : V g l M R FN q ls (.int z :: st) w n cs sl) : V g l M R FN pc ls (.int y :: .int x :: st) w n cs sl := by
  subst hq; subst hz
  intro p e s m args below meth c H locs la hC hL hP hS hn
  obtain ⟨hx, hb, hr, hlk, hml, hown, hts, hK, hb0, hin⟩ := id hC
  refine lv_irem hx hb d hne ?_
  exact k p e s m args below meth c H locs la hC hL hP hS hn
theorem V_ineg {x z : Int32} (d : decode M.2.1 pc = .ok (.ineg, 1)) (hq : pc + 1 = q) (hz : -x = z) (k : V g l M R FN q ls (.int z :: st) w n cs sl) : V g l M R FN pc ls (.int x :: st) w n cs sl := by
  subst hq; subst hz
  intro p e s m args below meth c H locs la hC hL hP hS hn
  obtain ⟨hx, hb, hr, hlk, hml, hown, hts, hK, hb0, hin⟩ := id hC
  refine lv_ineg hx hb d ?_
  exact k p e s m args below meth c H locs la hC hL hP hS hn
theorem V_i2c {x z : Int32} (d : decode M.2.1 pc = .ok (.i2c, 1)) (hq : pc + 1 = q) (hz : (x.toUInt32 % 65536).toInt32 = z) (k : V g l M R FN q ls (.int z :: st) w n cs sl) : V g l M R FN pc ls (.int x :: st) w n cs sl := by
  subst hq
  intro p e s m args below meth c H locs la hC hL hP hS hn
  obtain ⟨hx, hb, hr, hlk, hml, hown, hts, hK, hb0, hin⟩ := id hC
  refine lv_i2c hx hb d hz ?_
  exact k p e s m args below meth c H locs la hC hL hP hS hn
theorem V_i2b {x z : Int32} (d : decode M.2.1 pc = .ok (.i2b, 1)) (hq : pc + 1 = q) (hz : x.toInt8.toInt32 = z) (k : V g l M R FN q ls (.int z :: st) w n cs sl) : V g l M R FN pc ls (.int x :: st) w n cs sl := by
  subst hq
  intro p e s m args below meth c H locs la hC hL hP hS hn
  obtain ⟨hx, hb, hr, hlk, hml, hown, hts, hK, hb0, hin⟩ := id hC
  refine lv_i2b hx hb d hz ?_
  exact k p e s m args below meth c H locs la hC hL hP hS hn
theorem V_top {v v' : Value} (h : v = v') (k : V g l M R FN pc ls (v' :: st) w n cs sl) : V g l M R FN pc ls (v :: st) w n cs sl := by rw [h]; exact k
theorem V_topi {x x' : Int32} (h : x = x') (k : V g l M R FN pc ls (.int x' :: st) w n cs sl) : V g l M R FN pc ls (.int x :: st) w n cs sl := by rw [h]; exact k
theorem V_wd {w' : HW} (h : w = w') (k : V g l M R FN pc ls st w' n cs sl) : V g l M R FN pc ls st w n cs sl := by rw [h]; exact k
theorem V_weak {ls2 : LO} (hl : ls2.length = ls.length) (hs : ∀ (i : Nat) (v : Value), ls2[i]? = some (some v) → ls[i]? = some (some v)) (k : V g l M R FN pc ls2 st w n cs sl) : V g l M R FN pc ls st w n cs sl :=
  fun p e s m args below meth c H locs la hC hL hP hS hn => k p e s m args below meth c H locs la hC (hL.weak hl hs) hP hS hn
theorem V_dup {v : Value} (d : decode M.2.1 pc = .ok (.dup, 1)) (hq : pc + 1 = q) (hv : v.category = 1) (k : V g l M R FN q ls (v :: v :: st) w n cs sl) : V g l M R FN pc ls (v :: st) w n cs sl := by
  subst hq
  intro p e s m args below meth c H locs la hC hL hP hS hn
  obtain ⟨hx, hb, hr, hlk, hml, hown, hts, hK, hb0, hin⟩ := id hC
  refine lv_dup hx hb d hv ?_
  exact k p e s m args below meth c H locs la hC hL hP hS hn
theorem V_dup2 {v u : Value} (d : decode M.2.1 pc = .ok (.dup2, 1)) (hq : pc + 1 = q) (hv : v.category = 1) (hu : u.category = 1) (k : V g l M R FN q ls (v :: u :: v :: u :: st) w n cs sl) : V g l M R FN pc ls (v :: u :: st) w n cs sl := by
  subst hq
  intro p e s m args below meth c H locs la hC hL hP hS hn
  obtain ⟨hx, hb, hr, hlk, hml, hown, hts, hK, hb0, hin⟩ := id hC
  refine lv_dup2_11 hx hb d hv hu ?_
  exact k p e s m args below meth c H locs la hC hL hP hS hn
theorem V_dupx1 {v u : Value} (d : decode M.2.1 pc = .ok (.dup_x1, 1)) (hq : pc + 1 = q) (hv : v.category = 1) (hu : u.category = 1) (k : V g l M R FN q ls (v :: u :: v :: st) w n cs sl) : V g l M R FN pc ls (v :: u :: st) w n cs sl := by
  subst hq
  intro p e s m args below meth c H locs la hC hL hP hS hn
  obtain ⟨hx, hb, hr, hlk, hml, hown, hts, hK, hb0, hin⟩ := id hC
  refine lv_dup_x1 hx hb d hv hu ?_
  exact k p e s m args below meth c H locs la hC hL hP hS hn
theorem V_pop {v : Value} (d : decode M.2.1 pc = .ok (.pop, 1)) (hq : pc + 1 = q) (hv : v.category = 1) (k : V g l M R FN q ls st w n cs sl) : V g l M R FN pc ls (v :: st) w n cs sl := by
  subst hq
  intro p e s m args below meth c H locs la hC hL hP hS hn
  obtain ⟨hx, hb, hr, hlk, hml, hown, hts, hK, hb0, hin⟩ := id hC
  refine lv_pop hx hb d hv ?_
  exact k p e s m args below meth c H locs la hC hL hP hS hn
theorem V_if_eq {x : Int32} {off : Int} {tgt : Nat} (d : decode M.2.1 pc = .ok (.ifCond .eq off, 3)) (ht : (pc : Int) + off = (tgt : Int)) (hq : pc + 3 = q) (kt : x = 0 → V g l M R FN tgt ls st w n cs sl) (kf : ¬ (x = 0) → V g l M R FN q ls st w n cs sl) : V g l M R FN pc ls (.int x :: st) w n cs sl := by
  subst hq
  intro p e s m args below meth c H locs la hC hL hP hS hn
  obtain ⟨hx, hb, hr, hlk, hml, hown, hts, hK, hb0, hin⟩ := id hC
  refine lv_if_eq hx hb d ht (fun h => ?_) (fun h => ?_)
  · exact kt h p e s m args below meth c H locs la hC hL hP hS hn
  · exact kf h p e s m args below meth c H locs la hC hL hP hS hn
theorem V_if_ne {x : Int32} {off : Int} {tgt : Nat} (d : decode M.2.1 pc = .ok (.ifCond .ne off, 3)) (ht : (pc : Int) + off = (tgt : Int)) (hq : pc + 3 = q) (kt : ¬ x = 0 → V g l M R FN tgt ls st w n cs sl) (kf : x = 0 → V g l M R FN q ls st w n cs sl) : V g l M R FN pc ls (.int x :: st) w n cs sl := by
  subst hq
  intro p e s m args below meth c H locs la hC hL hP hS hn
  obtain ⟨hx, hb, hr, hlk, hml, hown, hts, hK, hb0, hin⟩ := id hC
  refine lv_if_ne hx hb d ht (fun h => ?_) (fun h => ?_)
  · exact kt h p e s m args below meth c H locs la hC hL hP hS hn
  · exact kf h p e s m args below meth c H locs la hC hL hP hS hn
theorem V_if_lt {x : Int32} {off : Int} {tgt : Nat} (d : decode M.2.1 pc = .ok (.ifCond .lt off, 3)) (ht : (pc : Int) + off = (tgt : Int)) (hq : pc + 3 = q) (kt : x < 0 → V g l M R FN tgt ls st w n cs sl) (kf : ¬ (x < 0) → V g l M R FN q ls st w n cs sl) : V g l M R FN pc ls (.int x :: st) w n cs sl := by
  subst hq
  intro p e s m args below meth c H locs la hC hL hP hS hn
  obtain ⟨hx, hb, hr, hlk, hml, hown, hts, hK, hb0, hin⟩ := id hC
  refine lv_if_lt hx hb d ht (fun h => ?_) (fun h => ?_)
  · exact kt h p e s m args below meth c H locs la hC hL hP hS hn
  · exact kf h p e s m args below meth c H locs la hC hL hP hS hn
theorem V_if_ge {x : Int32} {off : Int} {tgt : Nat} (d : decode M.2.1 pc = .ok (.ifCond .ge off, 3)) (ht : (pc : Int) + off = (tgt : Int)) (hq : pc + 3 = q) (kt : 0 ≤ x → V g l M R FN tgt ls st w n cs sl) (kf : ¬ (0 ≤ x) → V g l M R FN q ls st w n cs sl) : V g l M R FN pc ls (.int x :: st) w n cs sl := by
  subst hq
  intro p e s m args below meth c H locs la hC hL hP hS hn
  obtain ⟨hx, hb, hr, hlk, hml, hown, hts, hK, hb0, hin⟩ := id hC
  refine lv_if_ge hx hb d ht (fun h => ?_) (fun h => ?_)
  · exact kt h p e s m args below meth c H locs la hC hL hP hS hn
  · exact kf h p e s m args below meth c H locs la hC hL hP hS hn
theorem V_if_gt {x : Int32} {off : Int} {tgt : Nat} (d : decode M.2.1 pc = .ok (.ifCond .gt off, 3)) (ht : (pc : Int) + off = (tgt : Int)) (hq : pc + 3 = q) (kt : 0 < x → V g l M R FN tgt ls st w n cs sl) (kf : ¬ (0 < x) → V g l M R FN q ls st w n cs sl) : V g l M R FN pc ls (.int x :: st) w n cs sl := by
  subst hq
  intro p e s m args below meth c H locs la hC hL hP hS hn
  obtain ⟨hx, hb, hr, hlk, hml, hown, hts, hK, hb0, hin⟩ := id hC
  refine lv_if_gt hx hb d ht (fun h => ?_) (fun h => ?_)
  · exact kt h p e s m args below meth c H locs la hC hL hP hS hn
  · exact kf h p e s m args below meth c H locs la hC hL hP hS hn
theorem V_if_le {x : Int32} {off : Int} {tgt : Nat} (d : decode M.2.1 pc = .ok (.ifCond .le off, 3)) (ht : (pc : Int) + off = (tgt : Int)) (hq : pc + 3 = q) (kt : x ≤ 0 → V g l M R FN tgt ls st w n cs sl) (kf : ¬ (x ≤ 0) → V g l M R FN q ls st w n cs sl) : V g l M R FN pc ls (.int x :: st) w n cs sl := by
  subst hq
  intro p e s m args below meth c H locs la hC hL hP hS hn
  obtain ⟨hx, hb, hr, hlk, hml, hown, hts, hK, hb0, hin⟩ := id hC
  refine lv_if_le hx hb d ht (fun h => ?_) (fun h => ?_)
  · exact kt h p e s m args below meth c H locs la hC hL hP hS hn
  · exact kf h p e s m args below meth c H locs la hC hL hP hS hn
theorem V_icmp_eq {x y : Int32} {off : Int} {tgt : Nat} (d : decode M.2.1 pc = .ok (.if_icmp .eq off, 3)) (ht : (pc : Int) + off = (tgt : Int)) (hq : pc + 3 = q) (kt : x = y → V g l M R FN tgt ls st w n cs sl) (kf : ¬ (x = y) → V g l M R FN q ls st w n cs sl) : V g l M R FN pc ls (.int y :: .int x :: st) w n cs sl := by
  subst hq
  intro p e s m args below meth c H locs la hC hL hP hS hn
  obtain ⟨hx, hb, hr, hlk, hml, hown, hts, hK, hb0, hin⟩ := id hC
  refine lv_icmp_eq hx hb d ht (fun h => ?_) (fun h => ?_)
  · exact kt h p e s m args below meth c H locs la hC hL hP hS hn
  · exact kf h p e s m args below meth c H locs la hC hL hP hS hn
theorem V_icmp_ne {x y : Int32} {off : Int} {tgt : Nat} (d : decode M.2.1 pc = .ok (.if_icmp .ne off, 3)) (ht : (pc : Int) + off = (tgt : Int)) (hq : pc + 3 = q) (kt : ¬ x = y → V g l M R FN tgt ls st w n cs sl) (kf : x = y → V g l M R FN q ls st w n cs sl) : V g l M R FN pc ls (.int y :: .int x :: st) w n cs sl := by
  subst hq
  intro p e s m args below meth c H locs la hC hL hP hS hn
  obtain ⟨hx, hb, hr, hlk, hml, hown, hts, hK, hb0, hin⟩ := id hC
  refine lv_icmp_ne hx hb d ht (fun h => ?_) (fun h => ?_)
  · exact kt h p e s m args below meth c H locs la hC hL hP hS hn
  · exact kf h p e s m args below meth c H locs la hC hL hP hS hn
theorem V_icmp_lt {x y : Int32} {off : Int} {tgt : Nat} (d : decode M.2.1 pc = .ok (.if_icmp .lt off, 3)) (ht : (pc : Int) + off = (tgt : Int)) (hq : pc + 3 = q) (kt : x < y → V g l M R FN tgt ls st w n cs sl) (kf : ¬ (x < y) → V g l M R FN q ls st w n cs sl) : V g l M R FN pc ls (.int y :: .int x :: st) w n cs sl := by
  subst hq
  intro p e s m args below meth c H locs la hC hL hP hS hn
  obtain ⟨hx, hb, hr, hlk, hml, hown, hts, hK, hb0, hin⟩ := id hC
  refine lv_icmp_lt hx hb d ht (fun h => ?_) (fun h => ?_)
  · exact kt h p e s m args below meth c H locs la hC hL hP hS hn
  · exact kf h p e s m args below meth c H locs la hC hL hP hS hn
theorem V_icmp_ge {x y : Int32} {off : Int} {tgt : Nat} (d : decode M.2.1 pc = .ok (.if_icmp .ge off, 3)) (ht : (pc : Int) + off = (tgt : Int)) (hq : pc + 3 = q) (kt : y ≤ x → V g l M R FN tgt ls st w n cs sl) (kf : ¬ (y ≤ x) → V g l M R FN q ls st w n cs sl) : V g l M R FN pc ls (.int y :: .int x :: st) w n cs sl := by
  subst hq
  intro p e s m args below meth c H locs la hC hL hP hS hn
  obtain ⟨hx, hb, hr, hlk, hml, hown, hts, hK, hb0, hin⟩ := id hC
  refine lv_icmp_ge hx hb d ht (fun h => ?_) (fun h => ?_)
  · exact kt h p e s m args below meth c H locs la hC hL hP hS hn
  · exact kf h p e s m args below meth c H locs la hC hL hP hS hn
theorem V_icmp_gt {x y : Int32} {off : Int} {tgt : Nat} (d : decode M.2.1 pc = .ok (.if_icmp .gt off, 3)) (ht : (pc : Int) + off = (tgt : Int)) (hq : pc + 3 = q) (kt : y < x → V g l M R FN tgt ls st w n cs sl) (kf : ¬ (y < x) → V g l M R FN q ls st w n cs sl) : V g l M R FN pc ls (.int y :: .int x :: st) w n cs sl := by
  subst hq
  intro p e s m args below meth c H locs la hC hL hP hS hn
  obtain ⟨hx, hb, hr, hlk, hml, hown, hts, hK, hb0, hin⟩ := id hC
  refine lv_icmp_gt hx hb d ht (fun h => ?_) (fun h => ?_)
  · exact kt h p e s m args below meth c H locs la hC hL hP hS hn
  · exact kf h p e s m args below meth c H locs la hC hL hP hS hn
theorem V_icmp_le {x y : Int32} {off : Int} {tgt : Nat} (d : decode M.2.1 pc = .ok (.if_icmp .le off, 3)) (ht : (pc : Int) + off = (tgt : Int)) (hq : pc + 3 = q) (kt : x ≤ y → V g l M R FN tgt ls st w n cs sl) (kf : ¬ (x ≤ y) → V g l M R FN q ls st w n cs sl) : V g l M R FN pc ls (.int y :: .int x :: st) w n cs sl := by
  subst hq
  intro p e s m args below meth c H locs la hC hL hP hS hn
  obtain ⟨hx, hb, hr, hlk, hml, hown, hts, hK, hb0, hin⟩ := id hC
  refine lv_icmp_le hx hb d ht (fun h => ?_) (fun h => ?_)
  · exact kt h p e s m args below meth c H locs la hC hL hP hS hn
  · exact kf h p e s m args below meth c H locs la hC hL hP hS hn
theorem V_goto {off : Int} {tgt : Nat} (d : decode M.2.1 pc = .ok (.goto off, 3)) (ht : (pc : Int) + off = (tgt : Int)) (k : V g l M R FN tgt ls st w n cs sl) : V g l M R FN pc ls st w n cs sl := by
  intro p e s m args below meth c H locs la hC hL hP hS hn
  obtain ⟨hx, hb, hr, hlk, hml, hown, hts, hK, hb0, hin⟩ := id hC
  refine lv_goto hx hb d ht ?_
  exact k p e s m args below meth c H locs la hC hL hP hS hn
theorem V_ifnull {a : Nat} {off : Int} (d : decode M.2.1 pc = .ok (.ifnull off, 3)) (hq : pc + 3 = q) (k : V g l M R FN q ls st w n cs sl) : V g l M R FN pc ls (.ref a :: st) w n cs sl := by
  subst hq
  intro p e s m args below meth c H locs la hC hL hP hS hn
  obtain ⟨hx, hb, hr, hlk, hml, hown, hts, hK, hb0, hin⟩ := id hC
  refine lv_ifnull hx hb d ?_
  exact k p e s m args below meth c H locs la hC hL hP hS hn
theorem V_ifnullN {off : Int} {tgt : Nat} (d : decode M.2.1 pc = .ok (.ifnull off, 3)) (ht : (pc : Int) + off = (tgt : Int)) (k : V g l M R FN tgt ls st w n cs sl) : V g l M R FN pc ls (.null :: st) w n cs sl := by
  intro p e s m args below meth c H locs la hC hL hP hS hn
  obtain ⟨hx, hb, hr, hlk, hml, hown, hts, hK, hb0, hin⟩ := id hC
  refine lv_ifnullN hx hb d ht ?_
  exact k p e s m args below meth c H locs la hC hL hP hS hn
theorem V_ifnonnull {a : Nat} {off : Int} {tgt : Nat} (d : decode M.2.1 pc = .ok (.ifnonnull off, 3)) (ht : (pc : Int) + off = (tgt : Int)) (k : V g l M R FN tgt ls st w n cs sl) : V g l M R FN pc ls (.ref a :: st) w n cs sl := by
  intro p e s m args below meth c H locs la hC hL hP hS hn
  obtain ⟨hx, hb, hr, hlk, hml, hown, hts, hK, hb0, hin⟩ := id hC
  refine lv_ifnonnull hx hb d ht ?_
  exact k p e s m args below meth c H locs la hC hL hP hS hn
theorem V_ifnonnullN {off : Int} (d : decode M.2.1 pc = .ok (.ifnonnull off, 3)) (hq : pc + 3 = q) (k : V g l M R FN q ls st w n cs sl) : V g l M R FN pc ls (.null :: st) w n cs sl := by
  subst hq
  intro p e s m args below meth c H locs la hC hL hP hS hn
  obtain ⟨hx, hb, hr, hlk, hml, hown, hts, hK, hb0, hin⟩ := id hC
  refine lv_ifnonnullN hx hb d ?_
  exact k p e s m args below meth c H locs la hC hL hP hS hn
theorem V_tabIn {dflt lo hi : Int} {offs : Array Int} {len : Nat} {x : Int32} {off : Int} {tgt : Nat} (d : decode M.2.1 pc = .ok (.tableswitch dflt lo hi offs, len)) (h1 : ¬ x.toInt < lo) (h2 : ¬ hi < x.toInt) (ho : offs[(x.toInt - lo).toNat]? = some off) (ht : (pc : Int) + off = (tgt : Int)) (k : V g l M R FN tgt ls st w n cs sl) : V g l M R FN pc ls (.int x :: st) w n cs sl := by
  intro p e s m args below meth c H locs la hC hL hP hS hn
  obtain ⟨hx, hb, hr, hlk, hml, hown, hts, hK, hb0, hin⟩ := id hC
  refine lv_tableIn hx hb d h1 h2 ho ht ?_
  exact k p e s m args below meth c H locs la hC hL hP hS hn
theorem V_tabOut {dflt lo hi : Int} {offs : Array Int} {len : Nat} {x : Int32} {tgt : Nat} (d : decode M.2.1 pc = .ok (.tableswitch dflt lo hi offs, len)) (h : x.toInt < lo ∨ hi < x.toInt) (ht : (pc : Int) + dflt = (tgt : Int)) (k : V g l M R FN tgt ls st w n cs sl) : V g l M R FN pc ls (.int x :: st) w n cs sl := by
  intro p e s m args below meth c H locs la hC hL hP hS hn
  obtain ⟨hx, hb, hr, hlk, hml, hown, hts, hK, hb0, hin⟩ := id hC
  refine lv_tableOut hx hb d h ht ?_
  exact k p e s m args below meth c H locs la hC hL hP hS hn
theorem V_look {dflt : Int} {ps : Array (Int × Int)} {len : Nat} {x : Int32} {off : Int} {tgt : Nat} (d : decode M.2.1 pc = .ok (.lookupswitch dflt ps, len)) (hp : (ps.toList.zip (ps.toList.drop 1)).all (fun (a, next) => a.1 < next.1) = true) (ho : Op.lookupswitch.offset ps.toList dflt x.toInt = off) (ht : (pc : Int) + off = (tgt : Int)) (k : V g l M R FN tgt ls st w n cs sl) : V g l M R FN pc ls (.int x :: st) w n cs sl := by
  intro p e s m args below meth c H locs la hC hL hP hS hn
  obtain ⟨hx, hb, hr, hlk, hml, hown, hts, hK, hb0, hin⟩ := id hC
  refine lv_lookup hx hb d hp ho ht ?_
  exact k p e s m args below meth c H locs la hC hL hP hS hn
theorem V_fconst0 (d : decode M.2.1 pc = .ok (.fconst 0, 1)) (hq : pc + 1 = q) (k : V g l M R FN q ls (.float FP.fconst0 :: st) w n cs sl) : V g l M R FN pc ls st w n cs sl := by
  subst hq
  intro p e s m args below meth c H locs la hC hL hP hS hn
  obtain ⟨hx, hb, hr, hlk, hml, hown, hts, hK, hb0, hin⟩ := id hC
  refine lv_fconst0 hx hb d ?_
  exact k p e s m args below meth c H locs la hC hL hP hS hn
theorem V_fconst1 (d : decode M.2.1 pc = .ok (.fconst 1, 1)) (hq : pc + 1 = q) (k : V g l M R FN q ls (.float FP.fconst1 :: st) w n cs sl) : V g l M R FN pc ls st w n cs sl := by
  subst hq
  intro p e s m args below meth c H locs la hC hL hP hS hn
  obtain ⟨hx, hb, hr, hlk, hml, hown, hts, hK, hb0, hin⟩ := id hC
  refine lv_fconst1 hx hb d ?_
  exact k p e s m args below meth c H locs la hC hL hP hS hn
theorem V_fconst2 (d : decode M.2.1 pc = .ok (.fconst 2, 1)) (hq : pc + 1 = q) (k : V g l M R FN q ls (.float FP.fconst2 :: st) w n cs sl) : V g l M R FN pc ls st w n cs sl := by
  subst hq
  intro p e s m args below meth c H locs la hC hL hP hS hn
  obtain ⟨hx, hb, hr, hlk, hml, hown, hts, hK, hb0, hin⟩ := id hC
  refine lv_fconst2 hx hb d ?_
  exact k p e s m args below meth c H locs la hC hL hP hS hn
theorem V_fdiv {x y z : UInt32} (d : decode M.2.1 pc = .ok (.fdiv, 1)) (hq : pc + 1 = q) (hz : FP.fdiv x y = z) (hne : vf_n32 z) (k : V g l M R FN q ls (.float z :: st) w n cs sl) : V g l M R FN pc ls (.float y :: .float x :: st) w n cs sl := by
  subst hq; subst hz
  intro p e s m args below meth c H locs la hC hL hP hS hn
  obtain ⟨hx, hb, hr, hlk, hml, hown, hts, hK, hb0, hin⟩ := id hC
  refine lv_fdiv hx hb d hne ?_
  exact k p e s m args below meth c H locs la hC hL hP hS hn
theorem V_fmul {x y z : UInt32} (d : decode M.2.1 pc = .ok (.fmul, 1)) (hq : pc + 1 = q) (hz : FP.fmul x y = z) (hne : vf_n32 z) (k : V g l M R FN q ls (.float z :: st) w n cs sl) : V g l M R FN pc ls (.float y :: .float x :: st) w n cs sl := by
  subst hq; subst hz
  intro p e s m args below meth c H locs la hC hL hP hS hn
  obtain ⟨hx, hb, hr, hlk, hml, hown, hts, hK, hb0, hin⟩ := id hC
  refine lv_fmul hx hb d hne ?_
  exact k p e s m args below meth c H locs la hC hL hP hS hn
theorem V_fsub {x y z : UInt32} (d : decode M.2.1 pc = .ok (.fsub, 1)) (hq : pc + 1 = q) (hz : FP.fsub x y = z) (hne : vf_n32 z) (k : V g l M R FN q ls (.float z :: st) w n cs sl) : V g l M R FN pc ls (.float y :: .float x :: st) w n cs sl := by
  subst hq; subst hz
  intro p e s m args below meth c H locs la hC hL hP hS hn
  obtain ⟨hx, hb, hr, hlk, hml, hown, hts, hK, hb0, hin⟩ := id hC
  refine lv_fsub hx hb d hne ?_
  exact k p e s m args below meth c H locs la hC hL hP hS hn
theorem V_fcmp {x y : UInt32} {op : CmpOp} {z : Int32} (d : decode M.2.1 pc = .ok (.fcmp op, 1)) (hq : pc + 1 = q) (hz : Op.cmpValue (FP.fcmp x y) op = z) (k : V g l M R FN q ls (.int z :: st) w n cs sl) : V g l M R FN pc ls (.float y :: .float x :: st) w n cs sl := by
  subst hq; subst hz
  intro p e s m args below meth c H locs la hC hL hP hS hn
  obtain ⟨hx, hb, hr, hlk, hml, hown, hts, hK, hb0, hin⟩ := id hC
  refine lv_fcmp hx hb d ?_
  exact k p e s m args below meth c H locs la hC hL hP hS hn
theorem V_i2f {x : Int32} {z : UInt32} (d : decode M.2.1 pc = .ok (.i2f, 1)) (hq : pc + 1 = q) (hz : FP.i2f x = z) (k : V g l M R FN q ls (.float z :: st) w n cs sl) : V g l M R FN pc ls (.int x :: st) w n cs sl := by
  subst hq; subst hz
  intro p e s m args below meth c H locs la hC hL hP hS hn
  obtain ⟨hx, hb, hr, hlk, hml, hown, hts, hK, hb0, hin⟩ := id hC
  refine lv_i2f hx hb d ?_
  exact k p e s m args below meth c H locs la hC hL hP hS hn
theorem V_f2i {x : UInt32} {z : Int32} (d : decode M.2.1 pc = .ok (.f2i, 1)) (hq : pc + 1 = q) (hz : FP.f2i x = z) (k : V g l M R FN q ls (.int z :: st) w n cs sl) : V g l M R FN pc ls (.float x :: st) w n cs sl := by
  subst hq; subst hz
  intro p e s m args below meth c H locs la hC hL hP hS hn
  obtain ⟨hx, hb, hr, hlk, hml, hown, hts, hK, hb0, hin⟩ := id hC
  refine lv_f2i hx hb d ?_
  exact k p e s m args below meth c H locs la hC hL hP hS hn
theorem V_ldc {index : Nat} {v : Int32} (d : decode M.2.1 pc = .ok (.ldc index, 2)) (hq : pc + 2 = q) (hc : Jvm.Cond.constant M.1.cls index v ∈ wsL_law) (k : V g l M R FN q ls (.int v :: st) w n cs sl) : V g l M R FN pc ls st w n cs sl := by
  subst hq
  intro p e s m args below meth c H locs la hC hL hP hS hn
  obtain ⟨hx, hb, hr, hlk, hml, hown, hts, hK, hb0, hin⟩ := id hC
  refine lv_ldc hx hb hown (hts _ hc) d ?_
  exact k p e s m args below meth c H locs la hC hL hP hS hn
theorem V_ldcw {index : Nat} {v : Int32} (d : decode M.2.1 pc = .ok (.ldc_w index, 3)) (hq : pc + 3 = q) (hc : Jvm.Cond.constant M.1.cls index v ∈ wsL_law) (k : V g l M R FN q ls (.int v :: st) w n cs sl) : V g l M R FN pc ls st w n cs sl := by
  subst hq
  intro p e s m args below meth c H locs la hC hL hP hS hn
  obtain ⟨hx, hb, hr, hlk, hml, hown, hts, hK, hb0, hin⟩ := id hC
  refine lv_ldcw hx hb hown (hts _ hc) d ?_
  exact k p e s m args below meth c H locs la hC hL hP hS hn
end RU
end
section
/-! THE RULES of the heap, calls and ends -/
section RH
variable {g : GG} {l : Launch} {M : MI} {R : Room} {FN : FinT} {pc q : Nat} {ls ls' : LO} {st : List Value} {w : HW} {n cs sl : Nat}
theorem V_getf {ref C : String} {T : u_T} {N ci index i : Nat} {fs : List Value} {v : Value} (d : decode M.2.1 pc = .ok (.getfield index, 3)) (hq : pc + 3 = q) (hin0 : ∀ w ∈ u_ws C T N, w ∈ wsL_law) (hc : vwCl[ci]? = some (C, T, N)) (k0 : Nat) (hk0 : k0 < N) (hl : Jvm.Cond.fieldLink M.1.cls index ref (T k0).2.1 (T k0).2.2.1 ∈ wsL_law) (href : (T k0).1 = ref) (he : w i = eO ci fs) (hi : i < n) (hv : fs[k0]? = some v) (k : V g l M R FN q ls (v :: st) w n cs sl) : V g l M R FN pc ls (rf g i :: st) w n cs sl := by
  subst hq
  intro p e s m args below meth c H locs la hC hL hP hS hn
  obtain ⟨hx, hb, hr, hlk, hml, hown, hts, hK, hb0, hin⟩ := id hC
  refine va_get (D := g.2.1) (ci := ci) (v := v) (C := C) (T := T) (N := N) hx hb hts hin0 hown hK.1 hP i (fs := fs) (by rw [wl_get hi, he]) hc k0 hk0 (hts _ hl) (fun x hx9 => by rw [← href]; exact hx9) hv d ?_
  exact k p e s m args below meth c H locs la hC hL hP hS hn
theorem V_putf {ref C : String} {T : u_T} {N ci index i : Nat} {fs fs' : List Value} {v : Value} {ty : FieldType} (d : decode M.2.1 pc = .ok (.putfield index, 3)) (hq : pc + 3 = q) (hin0 : ∀ w ∈ u_ws C T N, w ∈ wsL_law) (ty0 : Nat → FieldType) (hty : ∀ k, k < N → parseFieldDescriptor (T k).2.2.1 = some (ty0 k)) (hnm : ∀ a, a < N → ∀ b, b < N → a ≠ b → (T a).2.1 ≠ (T b).2.1) (hc : vwCl[ci]? = some (C, T, N)) (k0 : Nat) (hk0 : k0 < N) (hl : Jvm.Cond.fieldLink M.1.cls index ref (T k0).2.1 (T k0).2.2.1 ∈ wsL_law) (href : (T k0).1 = ref) (hfin : (T k0).2.2.2 = false) (hd : parseFieldDescriptor (T k0).2.2.1 = some ty) (hnr : narrow ty v = v) (hfit : fits ty v = true) (he : w i = eO ci fs) (hi : i < n) (hlen : k0 < fs.length) (hfs : fs.set k0 v = fs') (k : V g l M R FN q ls st (va_up w i (eO ci fs')) n cs sl) : V g l M R FN pc ls (v :: rf g i :: st) w n cs sl := by
  subst hq; subst hfs
  intro p e s m args below meth c H locs la hC hL hP hS hn
  obtain ⟨hx, hb, hr, hlk, hml, hown, hts, hK, hb0, hin⟩ := id hC
  refine va_put (D := g.2.1) (ci := ci) (v := v) (ty := ty) (C := C) (T := T) (N := N) hx hb hts hin0 ty0 hty hnm hown hK.1 hP wl_D hS i (fs := fs) (by rw [wl_get hi, he]) hc k0 hk0 (hts _ hl) (fun x hx9 => by rw [← href]; exact hx9) hfin hd hnr hfit hlen d (fun H1 locs1 hP1 hD1 hS1 => ?_)
  rw [wl_set _ hi] at hP1
  exact k p e s m args below meth c H1 locs1 la hC hL hP1 hS1 hn
theorem V_putF {ref C : String} {T : u_T} {N ci index i : Nat} {fs fs' : List Value} {v : Value} {ty : FieldType} (d : decode M.2.1 pc = .ok (.putfield index, 3)) (hq : pc + 3 = q) (hin0 : ∀ w ∈ u_ws C T N, w ∈ wsL_law) (ty0 : Nat → FieldType) (hty : ∀ k, k < N → parseFieldDescriptor (T k).2.2.1 = some (ty0 k)) (hnm : ∀ a, a < N → ∀ b, b < N → a ≠ b → (T a).2.1 ≠ (T b).2.1) (hc : vwCl[ci]? = some (C, T, N)) (k0 : Nat) (hk0 : k0 < N) (hl : Jvm.Cond.fieldLink M.1.cls index ref (T k0).2.1 (T k0).2.2.1 ∈ wsL_law) (href : (T k0).1 = ref) (hfin : (T k0).2.2.2 = true) (hin2 : M.1.name = "<init>") (hdecl : (T k0).1 = M.1.cls) (hd : parseFieldDescriptor (T k0).2.2.1 = some ty) (hnr : narrow ty v = v) (hfit : fits ty v = true) (he : w i = eO ci fs) (hi : i < n) (hlen : k0 < fs.length) (hfs : fs.set k0 v = fs') (k : V g l M R FN q ls st (va_up w i (eO ci fs')) n cs sl) : V g l M R FN pc ls (v :: rf g i :: st) w n cs sl := by
  subst hq; subst hfs
  intro p e s m args below meth c H locs la hC hL hP hS hn
  obtain ⟨hx, hb, hr, hlk, hml, hown, hts, hK, hb0, hin⟩ := id hC
  refine va_putF (D := g.2.1) (ci := ci) (v := v) (ty := ty) (C := C) (T := T) (N := N) hx hb hts hin0 ty0 hty hnm hown hK.1 hP wl_D hS i (fs := fs) (by rw [wl_get hi, he]) hc k0 hk0 (hts _ hl) (fun x hx9 => by rw [← href]; exact hx9) hfin (hin hin2) hdecl hd hnr hfit hlen d (fun H1 locs1 hP1 hD1 hS1 => ?_)
  rw [wl_set _ hi] at hP1
  exact k p e s m args below meth c H1 locs1 la hC hL hP1 hS1 hn
theorem V_iald {i N : Nat} {f : Nat → Int32} {j x : Int32} (d : decode M.2.1 pc = .ok (.iaload, 1)) (hq : pc + 1 = q) (he : w i = eI g N f) (hi : i < n) (hj : vp_in j N) (hv : f j.toNatClampNeg = x) (k : V g l M R FN q ls (.int x :: st) w n cs sl) : V g l M R FN pc ls (.int j :: rf g i :: st) w n cs sl := by
  subst hq; subst hv
  intro p e s m args below meth c H locs la hC hL hP hS hn
  obtain ⟨hx, hb, hr, hlk, hml, hown, hts, hK, hb0, hin⟩ := id hC
  refine va_iald hx hb hK.1 hP i 0 (cA := g.2.2.1 0) (n := N) (f := f) (by rw [wl_get hi, he]) rfl hj d ?_
  exact k p e s m args below meth c H locs la hC hL hP hS hn
theorem V_ialdN {i N a : Nat} {f : Nat → Int32} {j x : Int32} (d : decode M.2.1 pc = .ok (.iaload, 1)) (hq : pc + 1 = q) (he : w i = eI g N f) (hi : i < n) (hN : N < 2 ^ 31) (ha : a < N) (hj : j = nI a) (hv : f a = x) (k : V g l M R FN q ls (.int x :: st) w n cs sl) : V g l M R FN pc ls (.int j :: rf g i :: st) w n cs sl := by
  subst hj
  exact V_iald d hq he hi (vp_in_nI ha hN) (by rw [nI_clamp (by omega)]; exact hv) k
theorem V_cald {i N : Nat} {f : Nat → Int32} {j x : Int32} (d : decode M.2.1 pc = .ok (.caload, 1)) (hq : pc + 1 = q) (he : w i = eC g N f) (hi : i < n) (hj : vp_in j N) (hv : f j.toNatClampNeg = x) (k : V g l M R FN q ls (.int x :: st) w n cs sl) : V g l M R FN pc ls (.int j :: rf g i :: st) w n cs sl := by
  subst hq; subst hv
  intro p e s m args below meth c H locs la hC hL hP hS hn
  obtain ⟨hx, hb, hr, hlk, hml, hown, hts, hK, hb0, hin⟩ := id hC
  refine va_cald hx hb hK.1 hP i 1 (cA := g.2.2.1 1) (n := N) (f := f) (by rw [wl_get hi, he]) rfl hj d ?_
  exact k p e s m args below meth c H locs la hC hL hP hS hn
theorem V_caldN {i N a : Nat} {f : Nat → Int32} {j x : Int32} (d : decode M.2.1 pc = .ok (.caload, 1)) (hq : pc + 1 = q) (he : w i = eC g N f) (hi : i < n) (hN : N < 2 ^ 31) (ha : a < N) (hj : j = nI a) (hv : f a = x) (k : V g l M R FN q ls (.int x :: st) w n cs sl) : V g l M R FN pc ls (.int j :: rf g i :: st) w n cs sl := by
  subst hj
  exact V_cald d hq he hi (vp_in_nI ha hN) (by rw [nI_clamp (by omega)]; exact hv) k
theorem V_iast {i N : Nat} {f f' : Nat → Int32} {j x : Int32} (d : decode M.2.1 pc = .ok (.iastore, 1)) (hq : pc + 1 = q) (he : w i = eI g N f) (hi : i < n) (hj : vp_in j N) (hf : upd f j.toNatClampNeg x = f') (k : V g l M R FN q ls st (va_up w i (eI g N f')) n cs sl) : V g l M R FN pc ls (.int x :: .int j :: rf g i :: st) w n cs sl := by
  subst hq; subst hf
  intro p e s m args below meth c H locs la hC hL hP hS hn
  obtain ⟨hx, hb, hr, hlk, hml, hown, hts, hK, hb0, hin⟩ := id hC
  refine va_iast hx hb hK.1 hP wl_D hS i 0 (cA := g.2.2.1 0) (n := N) (f := f) (by rw [wl_get hi, he]) rfl hj d (fun H1 locs1 hP1 hD1 hS1 => ?_)
  rw [wl_set _ hi] at hP1
  exact k p e s m args below meth c H1 locs1 la hC hL hP1 hS1 hn
theorem V_iastN {i N a : Nat} {f f' : Nat → Int32} {j x : Int32} (d : decode M.2.1 pc = .ok (.iastore, 1)) (hq : pc + 1 = q) (he : w i = eI g N f) (hi : i < n) (hN : N < 2 ^ 31) (ha : a < N) (hj : j = nI a) (hf : upd f a x = f') (k : V g l M R FN q ls st (va_up w i (eI g N f')) n cs sl) : V g l M R FN pc ls (.int x :: .int j :: rf g i :: st) w n cs sl := by
  subst hj
  exact V_iast d hq he hi (vp_in_nI ha hN) (by rw [nI_clamp (by omega)]; exact hf) k
theorem V_castN {i N a : Nat} {f f' : Nat → Int32} {j x : Int32} (d : decode M.2.1 pc = .ok (.castore, 1)) (hq : pc + 1 = q) (he : w i = eC g N f) (hi : i < n) (hN : N < 2 ^ 31) (ha : a < N) (hj : j = nI a) (hnr : vp_nar .char x = x) (hf : upd f a x = f') (k : V g l M R FN q ls st (va_up w i (eC g N f')) n cs sl) : V g l M R FN pc ls (.int x :: .int j :: rf g i :: st) w n cs sl := by
  subst hj; subst hq; subst hf
  intro p e s m args below meth c H locs la hC hL hP hS hn
  obtain ⟨hx, hb, hr, hlk, hml, hown, hts, hK, hb0, hin⟩ := id hC
  refine va_cast hx hb hK.1 hP wl_D hS i 1 (cA := g.2.2.1 1) (n := N) (f := f) (by rw [wl_get hi, he]) rfl (vp_in_nI ha hN) d (fun H1 locs1 hP1 hD1 hS1 => ?_)
  rw [wl_set _ hi, nI_clamp (by omega), hnr] at hP1
  exact k p e s m args below meth c H1 locs1 la hC hL hP1 hS1 hn
theorem V_aaldR {i N a : Nat} {f : Nat → Option Nat} {j : Int32} {v : Value} (d : decode M.2.1 pc = .ok (.aaload, 1)) (hq : pc + 1 = q) (he : w i = eR g N f) (hi : i < n) (hN : N < 2 ^ 31) (ha : a < N) (hj : j = nI a) (hv : va_rf (f a) = v) (k : V g l M R FN q ls (v :: st) w n cs sl) : V g l M R FN pc ls (.int j :: rf g i :: st) w n cs sl := by
  subst hj; subst hq; subst hv
  intro p e s m args below meth c H locs la hC hL hP hS hn
  obtain ⟨hx, hb, hr, hlk, hml, hown, hts, hK, hb0, hin⟩ := id hC
  refine va_aldq hx hb hK.1 hP i 2 (cA := g.2.2.1 2) (C := "JugglingRows$Row") (n := N) (f := f) (by rw [wl_get hi, he]) rfl (vp_in_nI ha hN) d ?_
  rw [nI_clamp (by omega)]
  exact k p e s m args below meth c H locs la hC hL hP hS hn
theorem V_aaldS {i N a : Nat} {f : Nat → Option Nat} {j : Int32} {v : Value} (d : decode M.2.1 pc = .ok (.aaload, 1)) (hq : pc + 1 = q) (he : w i = eS g N f) (hi : i < n) (hN : N < 2 ^ 31) (ha : a < N) (hj : j = nI a) (hv : va_rf (f a) = v) (k : V g l M R FN q ls (v :: st) w n cs sl) : V g l M R FN pc ls (.int j :: rf g i :: st) w n cs sl := by
  subst hj; subst hq; subst hv
  intro p e s m args below meth c H locs la hC hL hP hS hn
  obtain ⟨hx, hb, hr, hlk, hml, hown, hts, hK, hb0, hin⟩ := id hC
  refine va_aldq hx hb hK.1 hP i 3 (cA := g.2.2.1 3) (C := "JugglingRows$Stand") (n := N) (f := f) (by rw [wl_get hi, he]) rfl (vp_in_nI ha hN) d ?_
  rw [nI_clamp (by omega)]
  exact k p e s m args below meth c H locs la hC hL hP hS hn
theorem V_aaldA {i N a : Nat} {f : Nat → Option Nat} {j : Int32} {v : Value} (d : decode M.2.1 pc = .ok (.aaload, 1)) (hq : pc + 1 = q) (he : w i = eA g N f) (hi : i < n) (hN : N < 2 ^ 31) (ha : a < N) (hj : j = nI a) (hv : va_rf (f a) = v) (k : V g l M R FN q ls (v :: st) w n cs sl) : V g l M R FN pc ls (.int j :: rf g i :: st) w n cs sl := by
  subst hj; subst hq; subst hv
  intro p e s m args below meth c H locs la hC hL hP hS hn
  obtain ⟨hx, hb, hr, hlk, hml, hown, hts, hK, hb0, hin⟩ := id hC
  have hw : (wl g w n)[i]? = some (g.1 + i, .inl (g.2.2.1 4, N, .inr (.inr (.inr (.inr f))))) := by rw [wl_get hi, he]
  have hclp : (nI a).toNatClampNeg = a := nI_clamp (by omega)
  refine W.aald (v := va_rf (f a)) (ty := .array .int) hx hb (hP i _ hw) ((hK.1.2 4 _ rfl).1 N (fun j => va_rf (f j))) rfl (fun q => by cases q) (by show ¬ (_ < 0 ∨ (arrV _ _ _).slots.size ≤ _); rw [arrV_size]; exact vp_in_nI ha hN) (by show (arrV _ _ _).slots[_]? = _; rw [hclp, arrV_read _ _ ha]) rfl rfl d ?_
  exact k p e s m args below meth c H locs la hC hL hP hS hn
theorem V_aastR {i N a b : Nat} {f f' : Nat → Option Nat} {j : Int32} {fs : List Value} (d : decode M.2.1 pc = .ok (.aastore, 1)) (hq : pc + 1 = q) (he : w i = eR g N f) (hi : i < n) (hN : N < 2 ^ 31) (ha : a < N) (hj : j = nI a) (hb2 : w b = eO 4 fs) (hbn : b < n) (hf : va_up f a (some (g.1 + b)) = f') (k : V g l M R FN q ls st (va_up w i (eR g N f')) n cs sl) : V g l M R FN pc ls (rf g b :: .int j :: rf g i :: st) w n cs sl := by
  subst hj; subst hq; subst hf
  intro p e s m args below meth c H locs la hC hL hP hS hn
  obtain ⟨hx, hb, hr, hlk, hml, hown, hts, hK, hb0, hin⟩ := id hC
  refine va_astq (r := (RX4, TX4, 2)) hx hb hK.1 hP wl_D hS i 2 b 4 (cA := g.2.2.1 2) (n := N) (f := f) (vs := fs) (by rw [wl_get hi, he]) rfl (by rw [wl_get hbn, hb2]) rfl (vp_in_nI ha hN) d (fun H1 locs1 hP1 hD1 hS1 => ?_)
  rw [wl_set _ hi, nI_clamp (by omega)] at hP1
  exact k p e s m args below meth c H1 locs1 la hC hL hP1 hS1 hn
theorem V_aastS {i N a b : Nat} {f f' : Nat → Option Nat} {j : Int32} {fs : List Value} (d : decode M.2.1 pc = .ok (.aastore, 1)) (hq : pc + 1 = q) (he : w i = eS g N f) (hi : i < n) (hN : N < 2 ^ 31) (ha : a < N) (hj : j = nI a) (hb2 : w b = eO 5 fs) (hbn : b < n) (hf : va_up f a (some (g.1 + b)) = f') (k : V g l M R FN q ls st (va_up w i (eS g N f')) n cs sl) : V g l M R FN pc ls (rf g b :: .int j :: rf g i :: st) w n cs sl := by
  subst hj; subst hq; subst hf
  intro p e s m args below meth c H locs la hC hL hP hS hn
  obtain ⟨hx, hb, hr, hlk, hml, hown, hts, hK, hb0, hin⟩ := id hC
  refine va_astq (r := (RX5, TX5, 9)) hx hb hK.1 hP wl_D hS i 3 b 5 (cA := g.2.2.1 3) (n := N) (f := f) (vs := fs) (by rw [wl_get hi, he]) rfl (by rw [wl_get hbn, hb2]) rfl (vp_in_nI ha hN) d (fun H1 locs1 hP1 hD1 hS1 => ?_)
  rw [wl_set _ hi, nI_clamp (by omega)] at hP1
  exact k p e s m args below meth c H1 locs1 la hC hL hP1 hS1 hn
theorem V_alen {i : Nat} {cA : ClassId} {x : vp_A} {t0 : Nat} {ty : FieldType} {v : Int32} (d : decode M.2.1 pc = .ok (.arraylength, 1)) (hq : pc + 1 = q) (he : w i = .inl (cA, x)) (hi : i < n) (ht : (tysG g)[t0]? = some (cA, ty)) (hv : nI x.1 = v) (k : V g l M R FN q ls (.int v :: st) w n cs sl) : V g l M R FN pc ls (rf g i :: st) w n cs sl := by
  subst hq
  intro p e s m args below meth c H locs la hC hL hP hS hn
  obtain ⟨hx, hb, hr, hlk, hml, hown, hts, hK, hb0, hin⟩ := id hC
  refine va_alen hx hb hK.1 hP i t0 (cA := cA) (x := x) (by rw [wl_get hi, he]) ht hv d ?_
  exact k p e s m args below meth c H locs la hC hL hP hS hn
theorem V_alenI {i N : Nat} {f : Nat → Int32} (d : decode M.2.1 pc = .ok (.arraylength, 1)) (hq : pc + 1 = q) (he : w i = eI g N f) (hi : i < n) (k : V g l M R FN q ls (.int (nI N) :: st) w n cs sl) : V g l M R FN pc ls (rf g i :: st) w n cs sl := V_alen (t0 := 0) d hq he hi rfl rfl k
theorem V_alenC {i N : Nat} {f : Nat → Int32} (d : decode M.2.1 pc = .ok (.arraylength, 1)) (hq : pc + 1 = q) (he : w i = eC g N f) (hi : i < n) (k : V g l M R FN q ls (.int (nI N) :: st) w n cs sl) : V g l M R FN pc ls (rf g i :: st) w n cs sl := V_alen (t0 := 1) d hq he hi rfl rfl k
theorem V_alenR {i N : Nat} {f : Nat → Option Nat} (d : decode M.2.1 pc = .ok (.arraylength, 1)) (hq : pc + 1 = q) (he : w i = eR g N f) (hi : i < n) (k : V g l M R FN q ls (.int (nI N) :: st) w n cs sl) : V g l M R FN pc ls (rf g i :: st) w n cs sl := V_alen (t0 := 2) d hq he hi rfl rfl k
theorem V_alenS {i N : Nat} {f : Nat → Option Nat} (d : decode M.2.1 pc = .ok (.arraylength, 1)) (hq : pc + 1 = q) (he : w i = eS g N f) (hi : i < n) (k : V g l M R FN q ls (.int (nI N) :: st) w n cs sl) : V g l M R FN pc ls (rf g i :: st) w n cs sl := V_alen (t0 := 3) d hq he hi rfl rfl k
theorem V_alenA {i N : Nat} {f : Nat → Option Nat} (d : decode M.2.1 pc = .ok (.arraylength, 1)) (hq : pc + 1 = q) (he : w i = eA g N f) (hi : i < n) (k : V g l M R FN q ls (.int (nI N) :: st) w n cs sl) : V g l M R FN pc ls (rf g i :: st) w n cs sl := V_alen (t0 := 4) d hq he hi rfl rfl k
theorem V_sld {j x : Int32} (d : decode M.2.1 pc = .ok (.iaload, 1)) (hq : pc + 1 = q) (hj : vp_in j g.2.2.2.2.2.1) (hv : g.2.2.2.2.2.2 j.toNatClampNeg = x) (k : V g l M R FN q ls (.int x :: st) w n cs sl) : V g l M R FN pc ls (.int j :: .ref g.2.2.2.2.1 :: st) w n cs sl := by
  subst hq; subst hv
  intro p e s m args below meth c H locs la hC hL hP hS hn
  obtain ⟨hx, hb, hr, hlk, hml, hown, hts, hK, hb0, hin⟩ := id hC
  obtain ⟨hK1, -, -, hX, hbl, hbA⟩ := hK
  refine va_sld hx hb hX hbl hbA hS hj d ?_
  exact k p e s m args below meth c H locs la hC hL hP hS hn
theorem V_slen (d : decode M.2.1 pc = .ok (.arraylength, 1)) (hq : pc + 1 = q) (k : V g l M R FN q ls (.int (nI g.2.2.2.2.2.1) :: st) w n cs sl) : V g l M R FN pc ls (.ref g.2.2.2.2.1 :: st) w n cs sl := by
  subst hq
  intro p e s m args below meth c H locs la hC hL hP hS hn
  obtain ⟨hx, hb, hr, hlk, hml, hown, hts, hK, hb0, hin⟩ := id hC
  obtain ⟨hK1, -, -, hX, hbl, hbA⟩ := hK
  refine va_slen hx hb hX hbl hbA hS d ?_
  exact k p e s m args below meth c H locs la hC hL hP hS hn
theorem V_ldcS (d : decode M.2.1 pc = .ok (.ldc 203, 2)) (hq : pc + 2 = q) (hM : M.1.cls = "JugglingRowsModel") (k : V g l M R FN q ls (.ref g.2.2.2.1.1 :: st) w n cs sl) : V g l M R FN pc ls st w n cs sl := by
  subst hq
  intro p e s m args below meth c H locs la hC hL hP hS hn
  obtain ⟨hx, hb, hr, hlk, hml, hown, hts, hK, hb0, hin⟩ := id hC
  refine va_ldcS hx hb (by rw [← hM]; exact hown) hK.2.2.1 d ?_
  exact k p e s m args below meth c H locs la hC hL hP hS hn
theorem V_getS {index : Nat} {nm ds : String} {v : Value} (hf : ∀ U H, Sx g U H → va_OF "java/lang/String" nm ds v g.2.2.2.1.1 (vA g) U H) (d : decode M.2.1 pc = .ok (.getfield index, 3)) (hq : pc + 3 = q) (hl : Jvm.Cond.fieldLink M.1.cls index "java/lang/String" nm ds ∈ wsL_law) (k : V g l M R FN q ls (v :: st) w n cs sl) : V g l M R FN pc ls (.ref g.2.2.2.1.1 :: st) w n cs sl := by
  subst hq
  intro p e s m args below meth c H locs la hC hL hP hS hn
  obtain ⟨hx, hb, hr, hlk, hml, hown, hts, hK, hb0, hin⟩ := id hC
  obtain ⟨cf, kf, fi, f, cell, h1, h2, h3, h4, h5, h6⟩ := (hf _ _ hK.2.1).kept hS.2.1
  refine W.getf hx hb hown (hts _ hl) h1 h2 h3 h4 (v := v) h5 rfl rfl d ?_
  exact k p e s m args below meth c H locs la hC hL hP hS hn
theorem V_getSt {index : Nat} (d : decode M.2.1 pc = .ok (.getstatic index, 3)) (hq : pc + 3 = q) (hl : Jvm.Cond.fieldLink M.1.cls index "java/lang/String" "COMPACT_STRINGS" "Z" ∈ wsL_law) (k : V g l M R FN q ls (.int 1 :: st) w n cs sl) : V g l M R FN pc ls st w n cs sl := by
  subst hq
  intro p e s m args below meth c H locs la hC hL hP hS hn
  obtain ⟨hx, hb, hr, hlk, hml, hown, hts, hK, hb0, hin⟩ := id hC
  refine va_gets hx hb hK.2.1.2 hS hown (hts _ hl) (fun x h => h) d ?_
  exact k p e s m args below meth c H locs la hC hL hP hS hn
theorem V_bald {j x : Int32} (d : decode M.2.1 pc = .ok (.baload, 1)) (hq : pc + 1 = q) (hj : vp_in j 8) (hv : ([120, 116, 115, 108, 98, 106, 99, 114] : List Int32).getD j.toNatClampNeg 0 = x) (k : V g l M R FN q ls (.int x :: st) w n cs sl) : V g l M R FN pc ls (.int j :: .ref g.2.2.2.1.2 :: st) w n cs sl := by
  subst hq
  intro p e s m args below meth c H locs la hC hL hP hS hn
  obtain ⟨hx, hb, hr, hlk, hml, hown, hts, hK, hb0, hin⟩ := id hC
  refine va_tb hx hb (hK.2.1.1.1 0 (by decide)).2.2.2 hS hj (v := .int x) (by rw [← hv]; rfl) d ?_
  exact k p e s m args below meth c H locs la hC hL hP hS hn
theorem V_blen (d : decode M.2.1 pc = .ok (.arraylength, 1)) (hq : pc + 1 = q) (k : V g l M R FN q ls (.int 8 :: st) w n cs sl) : V g l M R FN pc ls (.ref g.2.2.2.1.2 :: st) w n cs sl := by
  subst hq
  intro p e s m args below meth c H locs la hC hL hP hS hn
  obtain ⟨hx, hb, hr, hlk, hml, hown, hts, hK, hb0, hin⟩ := id hC
  refine va_tlen hx hb (hK.2.1.1.1 0 (by decide)).2.2.2 hS (v := 8) rfl d ?_
  exact k p e s m args below meth c H locs la hC hL hP hS hn
theorem V_new {C : String} {T : u_T} {N ci index : Nat} {fs : List Value} (d : decode M.2.1 pc = .ok (.new index, 3)) (hq : pc + 3 = q) (hin0 : ∀ w ∈ u_ws C T N, w ∈ wsL_law) (ty : Nat → FieldType) (hty : ∀ k, k < N → parseFieldDescriptor (T k).2.2.1 = some (ty k)) (hcl : Jvm.Cond.classLink M.1.cls index C ∈ wsL_law) (hinst : Jvm.Cond.instantiable C N ∈ wsL_law) (hini : Jvm.Cond.initialized C ∈ wsL_law) (hc : vwCl[ci]? = some (C, T, N)) (hfs : ∀ j, j < N → defaultValue (ty j) = vp_V fs j) (hcells : cs + 1 ≤ R.cells) (hslots : sl + N ≤ R.slots) (k : V g l M R FN q ls (rf g n :: st) (va_up w n (eO ci fs)) (n + 1) (cs + 1) (sl + N)) : V g l M R FN pc ls st w n cs sl := by
  subst hq
  intro p e s m args below meth c H locs la hC hL hP hS hn
  obtain ⟨hx, hb, hr, hlk, hml, hown, hts, hK, hb0, hin⟩ := id hC
  refine W_sz fun hsz => ?_
  have hH : H.size = g.1 + n := Nat.le_antisymm (by omega) (hP.sz (Nat.le_trans hb0 hS.1))
  have hKn := hK.1.1 ci _ hc
  refine W.newcK hx hb hown (hts _ hcl) (hts _ hinst) (hts _ hini) rfl d hcells hslots hKn.2.1 hH fun H1 kC hkC e1 z1 o1 => ?_
  have hk : ∀ (k : Nat) (x : Nat × va_E), (wl g w n)[k]? = some x → H1[x.1]? = H[x.1]? := fun k x hx => o1 x.1 (by rw [← hH]; exact (hP k x hx).lt)
  refine k p e s m args below meth c H1 locs la hC hL ?_ ⟨Nat.le_trans hS.1 (by omega), fun x h1 h2 => (o1 x (by rw [← hH]; exact Nat.lt_of_lt_of_le h1 hS.1)).trans (hS.2.1 x h1 h2), hS.2.2⟩ (by omega)
  show va_P _ _ _ _
  rw [← wl_push]
  refine (hP.kept hk).app (fun k x hx => ?_)
  have hz : k < 1 := (List.getElem?_eq_some_iff.mp hx).1
  rw [show k = 0 by omega] at hx
  cases hx
  exact ⟨_, hc, (u_born ty hts hin0 hKn hkC e1 hty).to hfs⟩
theorem V_newI {j : Int32} {N : Nat} (d : decode M.2.1 pc = .ok (.newarray .int, 2)) (hq : pc + 2 = q) (harr : Jvm.Cond.arrayClass .int ∈ wsL_law) (hj : j = nI N) (hN : N ≤ 1000) (hcells : cs + 1 ≤ R.cells) (hslots : sl + N ≤ R.slots) (k : V g l M R FN q ls (rf g n :: st) (va_up w n (eI g N (fun _ => 0))) (n + 1) (cs + 1) (sl + N)) : V g l M R FN pc ls (.int j :: st) w n cs sl := by
  subst hq; subst hj
  intro p e s m args below meth c H locs la hC hL hP hS hn
  obtain ⟨hx, hb, hr, hlk, hml, hown, hts, hK, hb0, hin⟩ := id hC
  refine W_sz fun hsz => ?_
  have hH : H.size = g.1 + n := Nat.le_antisymm (by omega) (hP.sz (Nat.le_trans hb0 hS.1))
  have hclp : (nI N).toNatClampNeg = N := nI_clamp (by omega)
  refine va_newaK hx hb (atype := .int) (hts _ harr) rfl d rfl (nI_pos (by omega)) hclp (by show N * _ ≤ _; simp [componentBytes, newarray.typeOf]; omega) hcells hslots hH fun H1 cA e1 z1 o1 hAr hNm => ?_
  have hcA : cA = g.2.2.1 0 := Option.some.inj (hNm.symm.trans (hK.1.2 0 _ rfl).2)
  subst hcA
  have hk : ∀ (k : Nat) (x : Nat × va_E), (wl g w n)[k]? = some x → H1[x.1]? = H[x.1]? := fun k x hx => o1 x.1 (by rw [← hH]; exact (hP k x hx).lt)
  refine k p e s m args below meth c H1 locs la hC hL ?_ ⟨Nat.le_trans hS.1 (by omega), fun x h1 h2 => (o1 x (by rw [← hH]; exact Nat.lt_of_lt_of_le h1 hS.1)).trans (hS.2.1 x h1 h2), hS.2.2⟩ (by omega)
  show va_P _ _ _ _
  rw [← wl_push]
  refine (hP.kept hk).app (fun k x hx => ?_)
  have hz : k < 1 := (List.getElem?_eq_some_iff.mp hx).1
  rw [show k = 0 by omega] at hx
  cases hx
  exact e1
theorem V_newC {j : Int32} {N : Nat} (d : decode M.2.1 pc = .ok (.newarray .char, 2)) (hq : pc + 2 = q) (harr : Jvm.Cond.arrayClass .char ∈ wsL_law) (hj : j = nI N) (hN : N ≤ 1000) (hcells : cs + 1 ≤ R.cells) (hslots : sl + N ≤ R.slots) (k : V g l M R FN q ls (rf g n :: st) (va_up w n (eC g N (fun _ => 0))) (n + 1) (cs + 1) (sl + N)) : V g l M R FN pc ls (.int j :: st) w n cs sl := by
  subst hq; subst hj
  intro p e s m args below meth c H locs la hC hL hP hS hn
  obtain ⟨hx, hb, hr, hlk, hml, hown, hts, hK, hb0, hin⟩ := id hC
  refine W_sz fun hsz => ?_
  have hH : H.size = g.1 + n := Nat.le_antisymm (by omega) (hP.sz (Nat.le_trans hb0 hS.1))
  have hclp : (nI N).toNatClampNeg = N := nI_clamp (by omega)
  refine va_newaK hx hb (atype := .char) (hts _ harr) rfl d rfl (nI_pos (by omega)) hclp (by show N * _ ≤ _; simp [componentBytes, newarray.typeOf]; omega) hcells hslots hH fun H1 cA e1 z1 o1 hAr hNm => ?_
  have hcA : cA = g.2.2.1 1 := Option.some.inj (hNm.symm.trans (hK.1.2 1 _ rfl).2)
  subst hcA
  have hk : ∀ (k : Nat) (x : Nat × va_E), (wl g w n)[k]? = some x → H1[x.1]? = H[x.1]? := fun k x hx => o1 x.1 (by rw [← hH]; exact (hP k x hx).lt)
  refine k p e s m args below meth c H1 locs la hC hL ?_ ⟨Nat.le_trans hS.1 (by omega), fun x h1 h2 => (o1 x (by rw [← hH]; exact Nat.lt_of_lt_of_le h1 hS.1)).trans (hS.2.1 x h1 h2), hS.2.2⟩ (by omega)
  show va_P _ _ _ _
  rw [← wl_push]
  refine (hP.kept hk).app (fun k x hx => ?_)
  have hz : k < 1 := (List.getElem?_eq_some_iff.mp hx).1
  rw [show k = 0 by omega] at hx
  cases hx
  exact e1
theorem V_newR {index : Nat} {j : Int32} {N : Nat} (d : decode M.2.1 pc = .ok (.anewarray index, 3)) (hq : pc + 3 = q) (hcl : Jvm.Cond.classLink M.1.cls index "JugglingRows$Row" ∈ wsL_law) (hov : Jvm.Cond.arrayOver (.object "JugglingRows$Row") ∈ wsL_law) (hj : j = nI N) (hN : N ≤ 1000) (hcells : cs + 1 ≤ R.cells) (hslots : sl + N ≤ R.slots) (k : V g l M R FN q ls (rf g n :: st) (va_up w n (eR g N (fun _ => none))) (n + 1) (cs + 1) (sl + N)) : V g l M R FN pc ls (.int j :: st) w n cs sl := by
  subst hq; subst hj
  intro p e s m args below meth c H locs la hC hL hP hS hn
  obtain ⟨hx, hb, hr, hlk, hml, hown, hts, hK, hb0, hin⟩ := id hC
  refine W_sz fun hsz => ?_
  have hH : H.size = g.1 + n := Nat.le_antisymm (by omega) (hP.sz (Nat.le_trans hb0 hS.1))
  have hclp : (nI N).toNatClampNeg = N := nI_clamp (by omega)
  refine W.anew hx hb hown (hts _ hcl) (hts _ hov) rfl d rfl (nI_pos (by omega)) (by rw [hclp]; omega) hcells (by rw [hclp]; exact hslots) fun cA kA comp f1 f2 f3 f4 => ?_
  obtain ⟨kA', comp', -, -, -, hNm⟩ := (hK.1.2 2 _ rfl).2
  have hcA : cA = g.2.2.1 2 := Option.some.inj (f1.symm.trans hNm)
  subst hcA
  rw [hclp]
  generalize hH1 : H.push ({ cls := g.2.2.1 2, slots := Array.replicate N .null, vm := .none } : Cell) = H1
  have z1 : H1.size = H.size + 1 := by rw [← hH1, Array.size_push]
  have e1 : H1[H.size]? = some (arrV (g.2.2.1 2) N (fun _ => .null)) := by rw [← hH1, Array.getElem?_push_size, ← arrV_new]
  have o1 : ∀ q : Nat, q < H.size → H1[q]? = H[q]? := fun q hq => by rw [← hH1, Array.getElem?_push, if_neg (Nat.ne_of_lt hq)]
  have hk : ∀ (k : Nat) (x : Nat × va_E), (wl g w n)[k]? = some x → H1[x.1]? = H[x.1]? := fun k x hx => o1 x.1 (hP k x hx).lt
  have hgo := k p e s m args below meth c H1 locs la hC hL (by
    show va_P _ _ _ _
    rw [← wl_push]
    refine (hP.kept hk).app (fun k x hx => ?_)
    have hz : k < 1 := (List.getElem?_eq_some_iff.mp hx).1
    rw [show k = 0 by omega] at hx
    cases hx
    show H1[g.1 + n]? = some (vp_cell _ _)
    rw [vp_cell_q, ← hH]
    exact e1) ⟨Nat.le_trans hS.1 (by omega), fun x h1 h2 => (o1 x (Nat.lt_of_lt_of_le h1 hS.1)).trans (hS.2.1 x h1 h2), hS.2.2⟩ (by omega)
  show W _ _ _ _ _ _ _ _ _ _ _ _ _ _ _ (F0 m (pc + 3) la (.ref H.size :: st))
  rw [hH]
  exact hgo
theorem V_newS {index : Nat} {j : Int32} {N : Nat} (d : decode M.2.1 pc = .ok (.anewarray index, 3)) (hq : pc + 3 = q) (hcl : Jvm.Cond.classLink M.1.cls index "JugglingRows$Stand" ∈ wsL_law) (hov : Jvm.Cond.arrayOver (.object "JugglingRows$Stand") ∈ wsL_law) (hj : j = nI N) (hN : N ≤ 1000) (hcells : cs + 1 ≤ R.cells) (hslots : sl + N ≤ R.slots) (k : V g l M R FN q ls (rf g n :: st) (va_up w n (eS g N (fun _ => none))) (n + 1) (cs + 1) (sl + N)) : V g l M R FN pc ls (.int j :: st) w n cs sl := by
  subst hq; subst hj
  intro p e s m args below meth c H locs la hC hL hP hS hn
  obtain ⟨hx, hb, hr, hlk, hml, hown, hts, hK, hb0, hin⟩ := id hC
  refine W_sz fun hsz => ?_
  have hH : H.size = g.1 + n := Nat.le_antisymm (by omega) (hP.sz (Nat.le_trans hb0 hS.1))
  have hclp : (nI N).toNatClampNeg = N := nI_clamp (by omega)
  refine W.anew hx hb hown (hts _ hcl) (hts _ hov) rfl d rfl (nI_pos (by omega)) (by rw [hclp]; omega) hcells (by rw [hclp]; exact hslots) fun cA kA comp f1 f2 f3 f4 => ?_
  obtain ⟨kA', comp', -, -, -, hNm⟩ := (hK.1.2 3 _ rfl).2
  have hcA : cA = g.2.2.1 3 := Option.some.inj (f1.symm.trans hNm)
  subst hcA
  rw [hclp]
  generalize hH1 : H.push ({ cls := g.2.2.1 3, slots := Array.replicate N .null, vm := .none } : Cell) = H1
  have z1 : H1.size = H.size + 1 := by rw [← hH1, Array.size_push]
  have e1 : H1[H.size]? = some (arrV (g.2.2.1 3) N (fun _ => .null)) := by rw [← hH1, Array.getElem?_push_size, ← arrV_new]
  have o1 : ∀ q : Nat, q < H.size → H1[q]? = H[q]? := fun q hq => by rw [← hH1, Array.getElem?_push, if_neg (Nat.ne_of_lt hq)]
  have hk : ∀ (k : Nat) (x : Nat × va_E), (wl g w n)[k]? = some x → H1[x.1]? = H[x.1]? := fun k x hx => o1 x.1 (hP k x hx).lt
  have hgo := k p e s m args below meth c H1 locs la hC hL (by
    show va_P _ _ _ _
    rw [← wl_push]
    refine (hP.kept hk).app (fun k x hx => ?_)
    have hz : k < 1 := (List.getElem?_eq_some_iff.mp hx).1
    rw [show k = 0 by omega] at hx
    cases hx
    show H1[g.1 + n]? = some (vp_cell _ _)
    rw [vp_cell_q, ← hH]
    exact e1) ⟨Nat.le_trans hS.1 (by omega), fun x h1 h2 => (o1 x (Nat.lt_of_lt_of_le h1 hS.1)).trans (hS.2.1 x h1 h2), hS.2.2⟩ (by omega)
  show W _ _ _ _ _ _ _ _ _ _ _ _ _ _ _ (F0 m (pc + 3) la (.ref H.size :: st))
  rw [hH]
  exact hgo
theorem V_iret {x : Int32} {Q : QQ} {mc ms : Nat} (d : decode M.2.1 pc = .ok (.ireturn, 1)) (hty : M.2.2.2 = some .int) (hc : cs ≤ mc) (hs : sl ≤ ms) (hq : Q (some (.int x)) w n) : V g l M R (FinM g Q mc ms) pc ls [.int x] w n cs sl := by
  intro p e s m args below meth c H locs la hC hL hP hS hn
  obtain ⟨hx, hb, hr, hlk, hml, hown, hts, hK, hb0, hin⟩ := id hC
  refine W.widen hc hs ?_
  exact W.iret (v := x) hx hb (hr.trans hty) (fun t ht hW => ⟨⟨_, w, n, rfl, hq, by rw [ht]; exact hP⟩, hS.F ht⟩) hS.2.2 d hlk
theorem V_zret {x : Int32} {Q : QQ} {mc ms : Nat} {ty : FieldType} (d : decode M.2.1 pc = .ok (.ireturn, 1)) (hty : M.2.2.2 = some ty) (hnr : narrow ty (.int x) = .int x) (hc : cs ≤ mc) (hs : sl ≤ ms) (hq : Q (some (.int x)) w n) : V g l M R (FinM g Q mc ms) pc ls [.int x] w n cs sl := by
  intro p e s m args below meth c H locs la hC hL hP hS hn
  obtain ⟨hx, hb, hr, hlk, hml, hown, hts, hK, hb0, hin⟩ := id hC
  refine W.widen hc hs ?_
  exact W.zret (v := x) hx hb (hr.trans hty) hnr (fun t ht hW => ⟨⟨_, w, n, rfl, hq, by rw [ht]; exact hP⟩, hS.F ht⟩) hS.2.2 d hlk
theorem V_vret {Q : QQ} {mc ms : Nat} (d : decode M.2.1 pc = .ok (.return_, 1)) (hty : M.2.2.2 = none) (hc : cs ≤ mc) (hs : sl ≤ ms) (hq : Q none w n) : V g l M R (FinM g Q mc ms) pc ls [] w n cs sl := by
  intro p e s m args below meth c H locs la hC hL hP hS hn
  obtain ⟨hx, hb, hr, hlk, hml, hown, hts, hK, hb0, hin⟩ := id hC
  refine W.widen hc hs ?_
  exact W.vret hx hb (hr.trans hty) (fun t ht hW => ⟨⟨_, w, n, rfl, hq, by rw [ht]; exact hP⟩, hS.F ht⟩) hS.2.2 d hlk
theorem V_aret {v : Value} {C : String} {Q : QQ} {mc ms : Nat} (d : decode M.2.1 pc = .ok (.areturn, 1)) (hty : M.2.2.2 = some (.object C)) (hv : v = .null ∨ ∃ a, v = .ref a) (hc : cs ≤ mc) (hs : sl ≤ ms) (hq : Q (some v) w n) : V g l M R (FinM g Q mc ms) pc ls [v] w n cs sl := by
  intro p e s m args below meth c H locs la hC hL hP hS hn
  obtain ⟨hx, hb, hr, hlk, hml, hown, hts, hK, hb0, hin⟩ := id hC
  refine W.widen hc hs ?_
  exact W.aret (v := v) (rt := .object C) hx hb (hr.trans hty) (Or.inl ⟨_, rfl⟩) hv (fun t ht hW => ⟨⟨_, w, n, rfl, hq, by rw [ht]; exact hP⟩, hS.F ht⟩) hS.2.2 d hlk
theorem W_back {p : Program} {e : Env} {s : State} {m : MethodId} {args : Array Value} {below : List Frame} {meth : Method} {c : Code} {H : Heap} {locs : List Loc} {cells slots mc ms : Nat} {Qf : State → Prop} {la : Array Slot} {st0 rest : List Value} {a : Array Value} {Q : QQ}
    (hr : va_Run p l e R s m args below meth c H locs cells slots mc ms (F0 m pc la st0) rest (QcM g Q a) (vA g)) (hS : va_S (vA g) s.heap H locs)
    (kk : ∀ (v : Option Value) (w' : HW) (n' : Nat) (H1 : Heap) (locs1 : List Loc), Q v w' n' → Wd g w' n' H1 → va_S (vA g) s.heap H1 locs1 → H.size ≤ H1.size → W p l e R s m args below meth c H1 locs1 (cells + mc) (slots + ms) Qf (F0 m (pc + 3) la (v.toList ++ rest))) : W p l e R s m args below meth c H locs cells slots Qf (F0 m pc la st0) := by
  intro T hT X
  obtain ⟨v, st₀, t, T', L, h0, X', hL, e1, e2, ⟨⟨v', w', n', hv, hQ, hW⟩, hz, hk⟩, st⟩ := hr T hT X
  cases hv
  rw [h0] at hz hk
  obtain ⟨t2, a1, b1⟩ := kk v w' n' T'.heap (locs ++ L) hQ (by rw [e1]; exact hW)
    ⟨Nat.le_trans hS.1 (by rw [e1]; exact hz), fun q h1 h2 => by rw [e1, hk q (Nat.lt_of_lt_of_le h1 hS.1) h2]; exact hS.2.1 q h1 h2, fun q hq => by
      rcases List.mem_append.mp hq with h | h
      · exact hS.2.2 q h
      · exact hL q h⟩ (by rw [e1]; exact hz) T' rfl X'
  exact ⟨t2, st t2 a1, b1⟩
theorem good_mem {w0 : Cond} (h : w0 ∈ wsL_law) : ((w0.onTables && w0.keeps) = true ∨ ∃ ty, w0 = .arrayClass ty) := good_of_word (List.all_eq_true.mp ws_good w0 h)
theorem good_ws {M' : MI} (hcode : Jvm.Cond.code M'.1 M'.2.1 M'.2.2.1 M'.2.2.2 ∈ wsL_law) : GoodIn wsL_law (wsM M') := by
  intro w0 hw
  rcases List.mem_cons.mp hw with h | h
  · rw [h]
    exact ⟨hcode, good_mem hcode⟩
  · exact ⟨h, good_mem h⟩
theorem preB {av : List Value} {W0 : HW} {N0 : Nat} : FrameBlind (va_Pc av (fun U => Wd g W0 N0 U.heap ∧ Kt g U U.heap ∧ U.heap.size = g.1 + N0)) := fun a U gf mk hq => ⟨hq.1, hq.2.1, Kt.vmeq (s := U) rfl hq.2.2.1, hq.2.2.2⟩
theorem preU {s U : State} {H : Heap} {locs : List Loc} {av : List Value} (hP : Wd g w n H) (hK : Kt g s s.heap) (hS : va_S (vA g) s.heap H locs) (hz : H.size = g.1 + n) (hU : U.heap = H) (hW : s.WarmedH U.vm) : va_Pc av (fun U => Wd g w n U.heap ∧ Kt g U U.heap ∧ U.heap.size = g.1 + n) av.toArray U :=
  ⟨rfl, by rw [hU]; exact hP, by rw [hU]; exact (hK.warm hW).kept hS.1 hS.2.1, by rw [hU]; exact hz⟩
theorem V_callV {index d' i mc ms : Nat} {M' : MI} {C : String} {T : u_T} {N ci : Nat} {fs : List Value} {as : List Value} {Q : QQ} (d : decode M.2.1 pc = .ok (.invokevirtual index, 3)) (hq : pc + 3 = q) {st0 : List Value} (hst : st0 = as.reverse ++ rf g i :: st) (hCt : Ct g l M' d' (rf g i :: as) w n Q mc ms) (hm : Jvm.Cond.methodLink M.1.cls index M'.1 ∈ wsL_law) (hcode : Jvm.Cond.code M'.1 M'.2.1 M'.2.2.1 M'.2.2.2 ∈ wsL_law) (hini : Jvm.Cond.initialized M'.1.cls ∈ wsL_law) (hnt : M'.1.cls ≠ "java/lang/invoke/MethodHandle" ∧ M'.1.cls ≠ "java/lang/invoke/VarHandle" ∧ (parseMethodDescriptor M'.1.desc).map (fun d => d.parameters.length) = some as.length) (hR : d' + 1 ≤ R.frames ∧ 8 + (M'.2.2.1 + 11) + 36 * d' ≤ R.locals) (him : Jvm.Cond.instanceMethod M'.1 ∈ wsL_law) (hse : Jvm.Cond.selects M'.1.cls M'.1 M'.1 ∈ wsL_law) (he : w i = eO ci fs) (hi : i < n) (hcls : vwCl[ci]? = some (M'.1.cls, T, N)) (hcat : (st.map fun v => v.category).sum ≤ 8) (hcl : cs + mc ≤ R.cells) (hsl : sl + ms ≤ R.slots)
    (k : ∀ (v : Option Value) (w' : HW) (n' : Nat), Q v w' n' → V g l M R FN q ls (v.toList ++ st) w' n' (cs + (n' - n)) (sl + ms)) (hmc : ∀ (v : Option Value) (w' : HW) (n' : Nat), Q v w' n' → n' = n + mc) : V g l M R FN pc ls st0 w n cs sl := by
  subst hq; subst hst
  intro p e s m args below meth c H locs la hC hL hP hS hn
  obtain ⟨hx, hb, hr, hlk, hml, hown, hts, hK, hb0, hin⟩ := id hC
  refine W_sz fun hsz => ?_
  have hH : H.size = g.1 + n := Nat.le_antisymm (by omega) (hP.sz (Nat.le_trans hb0 hS.1))
  have cw : CallW R s args M.1.cls M'.1.cls index M'.1 M'.2.1 M'.2.2.1 M'.2.2.2 (wsM M') (rmd d' mc ms) mc ms as.length := ⟨callB_of as.length hts (good_ws hcode) rfl rfl rfl (hts _ hini) (hts _ hm) hnt hR, hts _ him, hts _ hse⟩
  have hrun := va_runV (e := e) (below := below) (meth := meth) (locs := locs) (cells := cs) (slots := sl) (As := as) (rest := st) (g := F0 m pc la (as.reverse ++ .ref (g.1 + i) :: st)) ⟨hx, hb, hml, hown, hts⟩ hCt cw ⟨preB, va_recv hK.1 hP hcls (q0 := i) (fs := fs) (by rw [wl_get hi, he]), fun U hU hW => preU hP hK hS hH hU hW⟩ rfl rfl hL.2.1.1 rfl (lv_room hcat) d ⟨hcl, hsl⟩
  refine W_back hrun hS fun v w' n' H1 locs1 hQ hP1 hS1 hz1 => ?_
  have hn' := hmc v w' n' hQ
  have hgo := k v w' n' hQ p e s m args below meth c H1 locs1 la hC hL hP1 hS1 (by omega)
  rw [show n' - n = mc by omega] at hgo
  exact hgo
theorem V_callS {index d' mc ms : Nat} {M' : MI} {as : List Value} {Q : QQ} (d : decode M.2.1 pc = .ok (.invokestatic index, 3)) (hq : pc + 3 = q) {st0 : List Value} (hst : st0 = as.reverse ++ st) (hCt : Ct g l M' d' as w n Q mc ms) (hm : Jvm.Cond.methodLink M.1.cls index M'.1 ∈ wsL_law) (hcode : Jvm.Cond.code M'.1 M'.2.1 M'.2.2.1 M'.2.2.2 ∈ wsL_law) (hini : Jvm.Cond.initialized M'.1.cls ∈ wsL_law) (hnt : M'.1.cls ≠ "java/lang/invoke/MethodHandle" ∧ M'.1.cls ≠ "java/lang/invoke/VarHandle" ∧ (parseMethodDescriptor M'.1.desc).map (fun d => d.parameters.length) = some as.length) (hR : d' + 1 ≤ R.frames ∧ 8 + (M'.2.2.1 + 11) + 36 * d' ≤ R.locals) (hstat : Jvm.Cond.static M'.1 ∈ wsL_law) (hcat : (st.map fun v => v.category).sum ≤ 8) (hcl : cs + mc ≤ R.cells) (hsl : sl + ms ≤ R.slots)
    (k : ∀ (v : Option Value) (w' : HW) (n' : Nat), Q v w' n' → V g l M R FN q ls (v.toList ++ st) w' n' (cs + (n' - n)) (sl + ms)) (hmc : ∀ (v : Option Value) (w' : HW) (n' : Nat), Q v w' n' → n' = n + mc) : V g l M R FN pc ls st0 w n cs sl := by
  subst hq; subst hst
  intro p e s m args below meth c H locs la hC hL hP hS hn
  obtain ⟨hx, hb, hr, hlk, hml, hown, hts, hK, hb0, hin⟩ := id hC
  refine W_sz fun hsz => ?_
  have hH : H.size = g.1 + n := Nat.le_antisymm (by omega) (hP.sz (Nat.le_trans hb0 hS.1))
  have hrun := va_runS (e := e) (below := below) (meth := meth) (locs := locs) (cells := cs) (slots := sl) (As := as) (rest := st) (g := F0 m pc la (as.reverse ++ st)) ⟨hx, hb, hml, hown, hts⟩ hCt ⟨callB_of as.length hts (good_ws hcode) rfl rfl rfl (hts _ hini) (hts _ hm) hnt hR, hts _ hstat⟩ ⟨preB, fun U hU hW => preU hP hK hS hH hU hW⟩ rfl rfl hL.2.1.1 rfl (lv_room hcat) d ⟨hcl, hsl⟩
  refine W_back hrun hS fun v w' n' H1 locs1 hQ hP1 hS1 hz1 => ?_
  have hn' := hmc v w' n' hQ
  have hgo := k v w' n' hQ p e s m args below meth c H1 locs1 la hC hL hP1 hS1 (by omega)
  rw [show n' - n = mc by omega] at hgo
  exact hgo
theorem V_callI {index d' i mc ms : Nat} {M' : MI} {as : List Value} {Q : QQ} (hret : M'.2.2.2 = none) (d : decode M.2.1 pc = .ok (.invokespecial index, 3)) (hq : pc + 3 = q) {st0 : List Value} (hst : st0 = as.reverse ++ rf g i :: st) (hCt : Ct g l M' d' (rf g i :: as) w n Q mc ms) (hm : Jvm.Cond.methodLink M.1.cls index M'.1 ∈ wsL_law) (hcode : Jvm.Cond.code M'.1 M'.2.1 M'.2.2.1 M'.2.2.2 ∈ wsL_law) (hini : Jvm.Cond.initialized M'.1.cls ∈ wsL_law) (hnt : M'.1.cls ≠ "java/lang/invoke/MethodHandle" ∧ M'.1.cls ≠ "java/lang/invoke/VarHandle" ∧ (parseMethodDescriptor M'.1.desc).map (fun d => d.parameters.length) = some as.length) (hR : d' + 1 ≤ R.frames ∧ 8 + (M'.2.2.1 + 11) + 36 * d' ≤ R.locals) (him : Jvm.Cond.instanceMethod M'.1 ∈ wsL_law) (hnm : M'.1.name = "<init>") (hcat : (st.map fun v => v.category).sum ≤ 8) (hcl : cs + mc ≤ R.cells) (hsl : sl + ms ≤ R.slots)
    (k : ∀ (v : Option Value) (w' : HW) (n' : Nat), Q v w' n' → V g l M R FN q ls (v.toList ++ st) w' n' (cs + (n' - n)) (sl + ms)) (hmc : ∀ (v : Option Value) (w' : HW) (n' : Nat), Q v w' n' → n' = n + mc) : V g l M R FN pc ls st0 w n cs sl := by
  subst hq; subst hst
  intro p e s m args below meth c H locs la hC hL hP hS hn
  obtain ⟨hx, hb, hr, hlk, hml, hown, hts, hK, hb0, hin⟩ := id hC
  refine W_sz fun hsz => ?_
  have hH : H.size = g.1 + n := Nat.le_antisymm (by omega) (hP.sz (Nat.le_trans hb0 hS.1))
  have cb := callB_of as.length (R := R) (rm := rmd d' mc ms) (mc := mc) (ms := ms) (own := M.1.cls) (index := index) hts (good_ws (M' := M') hcode) rfl rfl rfl (hts _ hini) (hts _ hm) hnt hR
  rw [hret] at cb
  have hrun := va_runI (e := e) (below := below) (meth := meth) (locs := locs) (cells := cs) (slots := sl) (As := as) (rest := st) (g := F0 m pc la (as.reverse ++ .ref (g.1 + i) :: st)) ⟨hx, hb, hml, hown, hts⟩ hCt ⟨cb, hnm, hts _ him⟩ ⟨preB, fun U hU hW => preU hP hK hS hH hU hW⟩ rfl rfl hL.2.1.1 rfl (lv_room hcat) d ⟨hcl, hsl⟩
  refine W_back hrun hS fun v w' n' H1 locs1 hQ hP1 hS1 hz1 => ?_
  have hn' := hmc v w' n' hQ
  have hgo := k v w' n' hQ p e s m args below meth c H1 locs1 la hC hL hP1 hS1 (by omega)
  rw [show n' - n = mc by omega] at hgo
  exact hgo
theorem V_objInit {index i : Nat} (d : decode M.2.1 pc = .ok (.invokespecial index, 3)) (hq : pc + 3 = q) (hm : Jvm.Cond.methodLink M.1.cls index objectInit ∈ wsL_law) (him : Jvm.Cond.instanceMethod objectInit ∈ wsL_law) (hcode : Jvm.Cond.code objectInit ⟨#[0xb1]⟩ 1 none ∈ wsL_law) (hf : 1 ≤ R.frames) (hlo : (st.map fun v => v.category).sum + 12 ≤ R.locals) (k : V g l M R FN q ls st w n cs sl) : V g l M R FN pc ls (rf g i :: st) w n cs sl := by
  subst hq
  intro p e s m args below meth c H locs la hC hL hP hS hn
  obtain ⟨hx, hb, hr, hlk, hml, hown, hts, hK, hb0, hin⟩ := id hC
  refine W.objInit hx hb hown (hts _ hm) (hts _ him) (hts _ hcode) rfl (by rw [hml]; exact hL.2.1.1) rfl d hf (by show 2 * 0 + _ + 12 ≤ _; omega) ?_
  exact k p e s m args below meth c H locs la hC hL hP hS hn
theorem V_copy {index i1 i2 N1 N2 : Nat} {f f2 f' : Nat → Int32} {a b z : Int32} (d : decode M.2.1 pc = .ok (.invokestatic index, 3)) (hq : pc + 3 = q) (hm : Jvm.Cond.methodLink M.1.cls index arraycopyName ∈ wsL_law) (hnat : Jvm.Cond.native arraycopyName ∈ wsL_law) (hstat : Jvm.Cond.static arraycopyName ∈ wsL_law) (hini : Jvm.Cond.initialized "java/lang/System" ∈ wsL_law) (he1 : w i1 = eI g N1 f) (hi1 : i1 < n) (he2 : w i2 = eI g N2 f2) (hi2 : i2 < n) (h1 : ¬ a < 0) (h2 : ¬ b < 0) (h3 : ¬ z < 0) (h4 : a.toNatClampNeg + z.toNatClampNeg ≤ N1) (h5 : b.toNatClampNeg + z.toNatClampNeg ≤ N2) (hf : 1 ≤ R.frames) (hlo : (st.map fun v => v.category).sum + (nativeFrameWords "java/lang/System" "arraycopy" 5 + 11) ≤ R.locals) (hf' : va_cpy f f2 a.toNatClampNeg b.toNatClampNeg z.toNatClampNeg = f') (k : V g l M R FN q ls st (va_up w i2 (eI g N2 f')) n cs sl) : V g l M R FN pc ls (.int z :: .int b :: rf g i2 :: .int a :: rf g i1 :: st) w n cs sl := by
  subst hq; subst hf'
  intro p e s m args below meth c H locs la hC hL hP hS hn
  obtain ⟨hx, hb, hr, hlk, hml, hown, hts, hK, hb0, hin⟩ := id hC
  refine va_copyi hx hb (by rw [hml]; exact hL.2.1.1.symm) hown (hts _ hm) (hts _ hnat) (hts _ hstat) (hts _ hini) hK.1 hP wl_D hS i1 i2 0 0 (c0 := g.2.2.1 0) (c1 := g.2.2.1 0) (n0 := N1) (n1 := N2) (f := f) (g := f2) (ty := .int) (by rw [wl_get hi1, he1]) (by rw [wl_get hi2, he2]) rfl rfl rfl h1 h2 h3 h4 h5 (fun i hi => rfl) hf hlo d (fun H1 locs1 hP1 hD1 hS1 => ?_)
  rw [wl_set _ hi2] at hP1
  exact k p e s m args below meth c H1 locs1 la hC hL hP1 hS1 hn
theorem V_mmax {index : Nat} {x y z : Int32} (d : decode M.2.1 pc = .ok (.invokestatic index, 3)) (hq : pc + 3 = q) (hm : Jvm.Cond.methodLink M.1.cls index Lib.Math.max.name ∈ wsL_law) (hstat : Jvm.Cond.static Lib.Math.max.name ∈ wsL_law) (hini : Jvm.Cond.initialized "java/lang/Math" ∈ wsL_law) (hcode : Jvm.Cond.code Lib.Math.max.name Lib.Math.max.code 2 (some .int) ∈ wsL_law) (hf : 1 ≤ R.frames) (hlo : (st.map fun v => v.category).sum + 13 ≤ R.locals) (hc : cs ≤ R.cells) (hs : sl ≤ R.slots) (hz : (if x < y then y else x) = z) (k : V g l M R FN q ls (.int z :: st) w n cs sl) : V g l M R FN pc ls (.int y :: .int x :: st) w n cs sl := by
  subst hq; subst hz
  intro p e s m args below meth c H locs la hC hL hP hS hn
  obtain ⟨hx, hb, hr, hlk, hml, hown, hts, hK, hb0, hin⟩ := id hC
  refine va_mmax hx hb (by rw [hml]; exact hL.2.1.1.symm) hown (hts _ hm) (hts _ hstat) (hts _ hini) (hts _ hcode) hf hlo hc hs d ?_
  exact k p e s m args below meth c H locs la hC hL hP hS hn
theorem V_mmin {index : Nat} {x y z : Int32} (d : decode M.2.1 pc = .ok (.invokestatic index, 3)) (hq : pc + 3 = q) (hm : Jvm.Cond.methodLink M.1.cls index Lib.Math.min.name ∈ wsL_law) (hstat : Jvm.Cond.static Lib.Math.min.name ∈ wsL_law) (hini : Jvm.Cond.initialized "java/lang/Math" ∈ wsL_law) (hcode : Jvm.Cond.code Lib.Math.min.name Lib.Math.min.code 2 (some .int) ∈ wsL_law) (hf : 1 ≤ R.frames) (hlo : (st.map fun v => v.category).sum + 13 ≤ R.locals) (hc : cs ≤ R.cells) (hs : sl ≤ R.slots) (hz : (if y < x then y else x) = z) (k : V g l M R FN q ls (.int z :: st) w n cs sl) : V g l M R FN pc ls (.int y :: .int x :: st) w n cs sl := by
  subst hq; subst hz
  intro p e s m args below meth c H locs la hC hL hP hS hn
  obtain ⟨hx, hb, hr, hlk, hml, hown, hts, hK, hb0, hin⟩ := id hC
  refine va_mmin hx hb (by rw [hml]; exact hL.2.1.1.symm) hown (hts _ hm) (hts _ hstat) (hts _ hini) (hts _ hcode) hf hlo hc hs d ?_
  exact k p e s m args below meth c H locs la hC hL hP hS hn
theorem V_ldcfw {p : Program} {e : Env} {s : State} {m : MethodId} {args : Array Value} {below : List Frame} {meth : Method} {c : Code} {locs : List Loc} {cells slots : Nat} {T : State} (X : Stand p l e R s m args below meth c T locs cells slots) (hexec : p.tables.exec = Jvm.exec) {own : String} {index : Nat} {b : UInt32} (hown : s.vm.findClass own = some m.cls)
    (hconst : (Cond.constantFloat own index b).before args s = true) {gf : JFrame} (hg : gf.method = m) (hdg : decode c.code gf.pc = .ok (.ldc_w index, 3)) :
    ∀ target, Steps p.tables e below (T.setTop { gf with pc := gf.pc + 3, stack := .float b :: gf.stack }) target → Steps p.tables e below (T.setTop gf) target := by
  obtain ⟨k, cf, hk, hcf, hcp⟩ := Cond.constantFloat_spec hown hconst
  obtain ⟨k', hk', he⟩ := X.warmed.alike.2.2 _ _ hk
  intro target hrest
  subst hg
  jvm_step X.here [hexec, hdg, ldc_w.wp_float (s := T) (f := gf) X.here.top hk' (by rw [he]; exact hcf) hcp]
  exact hrest
theorem V_raw {index : Nat} {b : UInt32} (d : decode M.2.1 pc = .ok (.invokestatic index, 3)) (hq : pc + 3 = q) (hm : Jvm.Cond.methodLink M.1.cls index ⟨"java/lang/Float", "floatToRawIntBits", "(F)I"⟩ ∈ wsL_law) (hnat : Jvm.Cond.native ⟨"java/lang/Float", "floatToRawIntBits", "(F)I"⟩ ∈ wsL_law) (hstat : Jvm.Cond.static ⟨"java/lang/Float", "floatToRawIntBits", "(F)I"⟩ ∈ wsL_law) (hini : Jvm.Cond.initialized "java/lang/Float" ∈ wsL_law) (hf : 1 ≤ R.frames) (hlo : (st.map fun v => v.category).sum + 15 ≤ R.locals) (k : V g l M R FN q ls (.int b.toInt32 :: st) w n cs sl) : V g l M R FN pc ls (.float b :: st) w n cs sl := by
  subst hq
  intro p e s m args below meth c H locs la hC hL hP hS hn
  obtain ⟨hx, hb, hr, hlk, hml, hown, hts, hK, hb0, hin⟩ := id hC
  refine vn_f2i hx hb (by rw [hml]; exact hL.2.1.1.symm) hown (hts _ hm) (hts _ hnat) (hts _ hstat) (hts _ hini) hf hlo d ?_
  exact k p e s m args below meth c H locs la hC hL hP hS hn
theorem V_ldcf {index : Nat} {v : UInt32} (d : decode M.2.1 pc = .ok (.ldc_w index, 3)) (hq : pc + 3 = q) (hc : Jvm.Cond.constantFloat M.1.cls index v ∈ wsL_law) (k : V g l M R FN q ls (.float v :: st) w n cs sl) : V g l M R FN pc ls st w n cs sl := by
  subst hq
  intro p e s m args below meth c H locs la hC hL hP hS hn
  obtain ⟨hx, hb, hr, hlk, hml, hown, hts, hK, hb0, hin⟩ := id hC
  intro T hT X
  obtain ⟨t, a, b⟩ := k p e s m args below meth c H locs la hC hL hP hS hn T hT X
  exact ⟨t, V_ldcfw X hx hown (hts _ hc) rfl (by rw [hb]; exact d) t a, b⟩
end RH
end
