section
-- ===== PART A: goes FIRST, ahead of the names: the tables' words, and 'selects' of the private methods out of them =====
/-- a private method of a class that the tables say can be made, by its rows of tables_1 -/
def lw_okq (q : MethodName × Nat) : Prop := (q.1.cls ≠ "java/lang/invoke/MethodHandle" ∧ q.1.cls ≠ "java/lang/invoke/VarHandle") ∧ Cond.instantiable q.1.cls q.2 ∈ tables_1 ∧ Cond.privateMethod q.1 ∈ tables_1 ∧ Cond.instanceMethod q.1 ∈ tables_1
theorem lw_p0 : lw_okq (⟨"PellMills$Roots", "findUnit", "(I)V"⟩, 5) := ⟨⟨by decide +kernel, by decide +kernel⟩, List.mem_of_getElem? (i := 29) (by decide +kernel), List.mem_of_getElem? (i := 96) (by decide +kernel), List.mem_of_getElem? (i := 97) (by decide +kernel)⟩
theorem lw_p1 : lw_okq (⟨"PellMills$Roots", "findGreatestPower", "(ILPellMills$Power;)V"⟩, 5) := ⟨⟨by decide +kernel, by decide +kernel⟩, List.mem_of_getElem? (i := 29) (by decide +kernel), List.mem_of_getElem? (i := 108) (by decide +kernel), List.mem_of_getElem? (i := 109) (by decide +kernel)⟩
theorem lw_p2 : lw_okq (⟨"PellMills", "countUpTo", "(J)I"⟩, 10) := ⟨⟨by decide +kernel, by decide +kernel⟩, List.mem_of_getElem? (i := 21) (by decide +kernel), List.mem_of_getElem? (i := 306) (by decide +kernel), List.mem_of_getElem? (i := 307) (by decide +kernel)⟩
theorem lw_p3 : lw_okq (⟨"PellMills", "countPowersUpTo", "(IJ)I"⟩, 10) := ⟨⟨by decide +kernel, by decide +kernel⟩, List.mem_of_getElem? (i := 21) (by decide +kernel), List.mem_of_getElem? (i := 318) (by decide +kernel), List.mem_of_getElem? (i := 319) (by decide +kernel)⟩
theorem lw_p4 : lw_okq (⟨"PellMills", "change", "(CI)V"⟩, 10) := ⟨⟨by decide +kernel, by decide +kernel⟩, List.mem_of_getElem? (i := 21) (by decide +kernel), List.mem_of_getElem? (i := 373) (by decide +kernel), List.mem_of_getElem? (i := 374) (by decide +kernel)⟩
theorem lw_p5 : lw_okq (⟨"java/lang/Throwable", "fillInStackTrace", "(I)Ljava/lang/Throwable;"⟩, 6) := ⟨⟨by decide +kernel, by decide +kernel⟩, List.mem_of_getElem? (i := 434) (by decide +kernel), List.mem_of_getElem? (i := 432) (by decide +kernel), List.mem_of_getElem? (i := 433) (by decide +kernel)⟩
theorem lw_p6 : lw_okq (⟨"PellMills$History", "moveOldestToEnd", "()V"⟩, 2) := ⟨⟨by decide +kernel, by decide +kernel⟩, List.mem_of_getElem? (i := 218) (by decide +kernel), List.mem_of_getElem? (i := 484) (by decide +kernel), List.mem_of_getElem? (i := 485) (by decide +kernel)⟩
theorem lw_p7 : lw_okq (⟨"PellMills$State", "setHeight", "(II)V"⟩, 4) := ⟨⟨by decide +kernel, by decide +kernel⟩, List.mem_of_getElem? (i := 194) (by decide +kernel), List.mem_of_getElem? (i := 493) (by decide +kernel), List.mem_of_getElem? (i := 494) (by decide +kernel)⟩
theorem lw_p8 : lw_okq (⟨"PellMills", "powerOfLaid", "(I)LPellMills$Power;"⟩, 10) := ⟨⟨by decide +kernel, by decide +kernel⟩, List.mem_of_getElem? (i := 21) (by decide +kernel), List.mem_of_getElem? (i := 512) (by decide +kernel), List.mem_of_getElem? (i := 513) (by decide +kernel)⟩
theorem lw_p9 : lw_okq (⟨"PellMills", "requireRoot", "(I)V"⟩, 10) := ⟨⟨by decide +kernel, by decide +kernel⟩, List.mem_of_getElem? (i := 21) (by decide +kernel), List.mem_of_getElem? (i := 543) (by decide +kernel), List.mem_of_getElem? (i := 544) (by decide +kernel)⟩
theorem lw_p10 : lw_okq (⟨"PellMills", "requireLaid", "(I)V"⟩, 10) := ⟨⟨by decide +kernel, by decide +kernel⟩, List.mem_of_getElem? (i := 21) (by decide +kernel), List.mem_of_getElem? (i := 634) (by decide +kernel), List.mem_of_getElem? (i := 635) (by decide +kernel)⟩
theorem lw_p11 : lw_okq (⟨"PellMills", "solutionByQueue", "(I)LPellMills$Power;"⟩, 10) := ⟨⟨by decide +kernel, by decide +kernel⟩, List.mem_of_getElem? (i := 21) (by decide +kernel), List.mem_of_getElem? (i := 686) (by decide +kernel), List.mem_of_getElem? (i := 687) (by decide +kernel)⟩
theorem lw_p12 : lw_okq (⟨"PellMills$Queue", "passFirst", "()V"⟩, 3) := ⟨⟨by decide +kernel, by decide +kernel⟩, List.mem_of_getElem? (i := 152) (by decide +kernel), List.mem_of_getElem? (i := 702) (by decide +kernel), List.mem_of_getElem? (i := 703) (by decide +kernel)⟩
theorem lw_p13 : lw_okq (⟨"PellMills$Queue", "firstIndex", "()I"⟩, 3) := ⟨⟨by decide +kernel, by decide +kernel⟩, List.mem_of_getElem? (i := 152) (by decide +kernel), List.mem_of_getElem? (i := 706) (by decide +kernel), List.mem_of_getElem? (i := 707) (by decide +kernel)⟩
theorem lw_p14 : lw_okq (⟨"PellMills$PowerSet", "addPowers", "(I)V"⟩, 4) := ⟨⟨by decide +kernel, by decide +kernel⟩, List.mem_of_getElem? (i := 171) (by decide +kernel), List.mem_of_getElem? (i := 731) (by decide +kernel), List.mem_of_getElem? (i := 732) (by decide +kernel)⟩
theorem lw_p15 : lw_okq (⟨"PellMills$PowerSet", "add", "(J)V"⟩, 4) := ⟨⟨by decide +kernel, by decide +kernel⟩, List.mem_of_getElem? (i := 171) (by decide +kernel), List.mem_of_getElem? (i := 738) (by decide +kernel), List.mem_of_getElem? (i := 739) (by decide +kernel)⟩
def lw_privs_1 : List (MethodName × Nat) := [(⟨"PellMills$Roots", "findUnit", "(I)V"⟩, 5), (⟨"PellMills$Roots", "findGreatestPower", "(ILPellMills$Power;)V"⟩, 5), (⟨"PellMills", "countUpTo", "(J)I"⟩, 10), (⟨"PellMills", "countPowersUpTo", "(IJ)I"⟩, 10), (⟨"PellMills", "change", "(CI)V"⟩, 10), (⟨"java/lang/Throwable", "fillInStackTrace", "(I)Ljava/lang/Throwable;"⟩, 6), (⟨"PellMills$History", "moveOldestToEnd", "()V"⟩, 2), (⟨"PellMills$State", "setHeight", "(II)V"⟩, 4), (⟨"PellMills", "powerOfLaid", "(I)LPellMills$Power;"⟩, 10), (⟨"PellMills", "requireRoot", "(I)V"⟩, 10), (⟨"PellMills", "requireLaid", "(I)V"⟩, 10), (⟨"PellMills", "solutionByQueue", "(I)LPellMills$Power;"⟩, 10), (⟨"PellMills$Queue", "passFirst", "()V"⟩, 3), (⟨"PellMills$Queue", "firstIndex", "()I"⟩, 3), (⟨"PellMills$PowerSet", "addPowers", "(I)V"⟩, 4), (⟨"PellMills$PowerSet", "add", "(J)V"⟩, 4)]
theorem lw_r1 : ∀ q ∈ lw_privs_1, lw_okq q := List.forall_mem_cons.mpr ⟨lw_p0, List.forall_mem_cons.mpr ⟨lw_p1, List.forall_mem_cons.mpr ⟨lw_p2, List.forall_mem_cons.mpr ⟨lw_p3, List.forall_mem_cons.mpr ⟨lw_p4, List.forall_mem_cons.mpr ⟨lw_p5, List.forall_mem_cons.mpr ⟨lw_p6, List.forall_mem_cons.mpr ⟨lw_p7, List.forall_mem_cons.mpr ⟨lw_p8, List.forall_mem_cons.mpr ⟨lw_p9, List.forall_mem_cons.mpr ⟨lw_p10, List.forall_mem_cons.mpr ⟨lw_p11, List.forall_mem_cons.mpr ⟨lw_p12, List.forall_mem_cons.mpr ⟨lw_p13, List.forall_mem_cons.mpr ⟨lw_p14, List.forall_mem_cons.mpr ⟨lw_p15, fun _ h => absurd h List.not_mem_nil⟩⟩⟩⟩⟩⟩⟩⟩⟩⟩⟩⟩⟩⟩⟩⟩
theorem lw_p16 : lw_okq (⟨"PellMills", "requireFault", "()V"⟩, 10) := ⟨⟨by decide +kernel, by decide +kernel⟩, List.mem_of_getElem? (i := 21) (by decide +kernel), List.mem_of_getElem? (i := 801) (by decide +kernel), List.mem_of_getElem? (i := 802) (by decide +kernel)⟩
theorem lw_p17 : lw_okq (⟨"PellMills$Text", "readOrder", "(LPellMills$State;)V"⟩, 6) := ⟨⟨by decide +kernel, by decide +kernel⟩, List.mem_of_getElem? (i := 235) (by decide +kernel), List.mem_of_getElem? (i := 810) (by decide +kernel), List.mem_of_getElem? (i := 811) (by decide +kernel)⟩
theorem lw_p18 : lw_okq (⟨"PellMills$Text", "isDigit", "(I)Z"⟩, 6) := ⟨⟨by decide +kernel, by decide +kernel⟩, List.mem_of_getElem? (i := 235) (by decide +kernel), List.mem_of_getElem? (i := 814) (by decide +kernel), List.mem_of_getElem? (i := 815) (by decide +kernel)⟩
theorem lw_p19 : lw_okq (⟨"PellMills$Text", "characterAt", "(I)C"⟩, 6) := ⟨⟨by decide +kernel, by decide +kernel⟩, List.mem_of_getElem? (i := 235) (by decide +kernel), List.mem_of_getElem? (i := 818) (by decide +kernel), List.mem_of_getElem? (i := 819) (by decide +kernel)⟩
theorem lw_p20 : lw_okq (⟨"PellMills$Text", "breaksOffAt", "(I)I"⟩, 6) := ⟨⟨by decide +kernel, by decide +kernel⟩, List.mem_of_getElem? (i := 235) (by decide +kernel), List.mem_of_getElem? (i := 822) (by decide +kernel), List.mem_of_getElem? (i := 823) (by decide +kernel)⟩
theorem lw_p21 : lw_okq (⟨"PellMills$Text", "numberAt", "(II)I"⟩, 6) := ⟨⟨by decide +kernel, by decide +kernel⟩, List.mem_of_getElem? (i := 235) (by decide +kernel), List.mem_of_getElem? (i := 829) (by decide +kernel), List.mem_of_getElem? (i := 830) (by decide +kernel)⟩
theorem lw_p22 : lw_okq (⟨"PellMillsModel", "begins", "()V"⟩, 30) := ⟨⟨by decide +kernel, by decide +kernel⟩, List.mem_of_getElem? (i := 858) (by decide +kernel), List.mem_of_getElem? (i := 963) (by decide +kernel), List.mem_of_getElem? (i := 964) (by decide +kernel)⟩
theorem lw_p23 : lw_okq (⟨"PellMillsModel", "goLay", "(I)I"⟩, 30) := ⟨⟨by decide +kernel, by decide +kernel⟩, List.mem_of_getElem? (i := 858) (by decide +kernel), List.mem_of_getElem? (i := 970) (by decide +kernel), List.mem_of_getElem? (i := 971) (by decide +kernel)⟩
theorem lw_p24 : lw_okq (⟨"PellMillsModel", "reason", "(I)I"⟩, 30) := ⟨⟨by decide +kernel, by decide +kernel⟩, List.mem_of_getElem? (i := 858) (by decide +kernel), List.mem_of_getElem? (i := 980) (by decide +kernel), List.mem_of_getElem? (i := 981) (by decide +kernel)⟩
theorem lw_p25 : lw_okq (⟨"PellMillsModel", "stand", "(I)I"⟩, 30) := ⟨⟨by decide +kernel, by decide +kernel⟩, List.mem_of_getElem? (i := 858) (by decide +kernel), List.mem_of_getElem? (i := 990) (by decide +kernel), List.mem_of_getElem? (i := 991) (by decide +kernel)⟩
theorem lw_p26 : lw_okq (⟨"PellMillsModel", "many", "()I"⟩, 30) := ⟨⟨by decide +kernel, by decide +kernel⟩, List.mem_of_getElem? (i := 858) (by decide +kernel), List.mem_of_getElem? (i := 994) (by decide +kernel), List.mem_of_getElem? (i := 995) (by decide +kernel)⟩
theorem lw_p27 : lw_okq (⟨"PellMillsModel", "puts", "(II)V"⟩, 30) := ⟨⟨by decide +kernel, by decide +kernel⟩, List.mem_of_getElem? (i := 858) (by decide +kernel), List.mem_of_getElem? (i := 998) (by decide +kernel), List.mem_of_getElem? (i := 999) (by decide +kernel)⟩
theorem lw_p28 : lw_okq (⟨"PellMillsModel", "ends", "(I)I"⟩, 30) := ⟨⟨by decide +kernel, by decide +kernel⟩, List.mem_of_getElem? (i := 858) (by decide +kernel), List.mem_of_getElem? (i := 1002) (by decide +kernel), List.mem_of_getElem? (i := 1003) (by decide +kernel)⟩
theorem lw_p29 : lw_okq (⟨"PellMillsModel", "fails", "(I)I"⟩, 30) := ⟨⟨by decide +kernel, by decide +kernel⟩, List.mem_of_getElem? (i := 858) (by decide +kernel), List.mem_of_getElem? (i := 1006) (by decide +kernel), List.mem_of_getElem? (i := 1007) (by decide +kernel)⟩
theorem lw_p30 : lw_okq (⟨"PellMillsModel", "records", "()V"⟩, 30) := ⟨⟨by decide +kernel, by decide +kernel⟩, List.mem_of_getElem? (i := 858) (by decide +kernel), List.mem_of_getElem? (i := 1010) (by decide +kernel), List.mem_of_getElem? (i := 1011) (by decide +kernel)⟩
theorem lw_p31 : lw_okq (⟨"PellMillsModel", "goTake", "(I)I"⟩, 30) := ⟨⟨by decide +kernel, by decide +kernel⟩, List.mem_of_getElem? (i := 858) (by decide +kernel), List.mem_of_getElem? (i := 1018) (by decide +kernel), List.mem_of_getElem? (i := 1019) (by decide +kernel)⟩
def lw_privs_2 : List (MethodName × Nat) := [(⟨"PellMills", "requireFault", "()V"⟩, 10), (⟨"PellMills$Text", "readOrder", "(LPellMills$State;)V"⟩, 6), (⟨"PellMills$Text", "isDigit", "(I)Z"⟩, 6), (⟨"PellMills$Text", "characterAt", "(I)C"⟩, 6), (⟨"PellMills$Text", "breaksOffAt", "(I)I"⟩, 6), (⟨"PellMills$Text", "numberAt", "(II)I"⟩, 6), (⟨"PellMillsModel", "begins", "()V"⟩, 30), (⟨"PellMillsModel", "goLay", "(I)I"⟩, 30), (⟨"PellMillsModel", "reason", "(I)I"⟩, 30), (⟨"PellMillsModel", "stand", "(I)I"⟩, 30), (⟨"PellMillsModel", "many", "()I"⟩, 30), (⟨"PellMillsModel", "puts", "(II)V"⟩, 30), (⟨"PellMillsModel", "ends", "(I)I"⟩, 30), (⟨"PellMillsModel", "fails", "(I)I"⟩, 30), (⟨"PellMillsModel", "records", "()V"⟩, 30), (⟨"PellMillsModel", "goTake", "(I)I"⟩, 30)]
theorem lw_r2 : ∀ q ∈ lw_privs_2, lw_okq q := List.forall_mem_cons.mpr ⟨lw_p16, List.forall_mem_cons.mpr ⟨lw_p17, List.forall_mem_cons.mpr ⟨lw_p18, List.forall_mem_cons.mpr ⟨lw_p19, List.forall_mem_cons.mpr ⟨lw_p20, List.forall_mem_cons.mpr ⟨lw_p21, List.forall_mem_cons.mpr ⟨lw_p22, List.forall_mem_cons.mpr ⟨lw_p23, List.forall_mem_cons.mpr ⟨lw_p24, List.forall_mem_cons.mpr ⟨lw_p25, List.forall_mem_cons.mpr ⟨lw_p26, List.forall_mem_cons.mpr ⟨lw_p27, List.forall_mem_cons.mpr ⟨lw_p28, List.forall_mem_cons.mpr ⟨lw_p29, List.forall_mem_cons.mpr ⟨lw_p30, List.forall_mem_cons.mpr ⟨lw_p31, fun _ h => absurd h List.not_mem_nil⟩⟩⟩⟩⟩⟩⟩⟩⟩⟩⟩⟩⟩⟩⟩⟩
theorem lw_p32 : lw_okq (⟨"PellMillsModel", "goMill", "(I)I"⟩, 30) := ⟨⟨by decide +kernel, by decide +kernel⟩, List.mem_of_getElem? (i := 858) (by decide +kernel), List.mem_of_getElem? (i := 1026) (by decide +kernel), List.mem_of_getElem? (i := 1027) (by decide +kernel)⟩
theorem lw_p33 : lw_okq (⟨"PellMillsModel", "reaches", "(II)V"⟩, 30) := ⟨⟨by decide +kernel, by decide +kernel⟩, List.mem_of_getElem? (i := 858) (by decide +kernel), List.mem_of_getElem? (i := 1030) (by decide +kernel), List.mem_of_getElem? (i := 1031) (by decide +kernel)⟩
theorem lw_p34 : lw_okq (⟨"PellMillsModel", "beginsPowers", "(I)V"⟩, 30) := ⟨⟨by decide +kernel, by decide +kernel⟩, List.mem_of_getElem? (i := 858) (by decide +kernel), List.mem_of_getElem? (i := 1034) (by decide +kernel), List.mem_of_getElem? (i := 1035) (by decide +kernel)⟩
theorem lw_p35 : lw_okq (⟨"PellMillsModel", "period", "(I)I"⟩, 30) := ⟨⟨by decide +kernel, by decide +kernel⟩, List.mem_of_getElem? (i := 858) (by decide +kernel), List.mem_of_getElem? (i := 1038) (by decide +kernel), List.mem_of_getElem? (i := 1039) (by decide +kernel)⟩
theorem lw_p36 : lw_okq (⟨"PellMillsModel", "beginsTerms", "(I)V"⟩, 30) := ⟨⟨by decide +kernel, by decide +kernel⟩, List.mem_of_getElem? (i := 858) (by decide +kernel), List.mem_of_getElem? (i := 1042) (by decide +kernel), List.mem_of_getElem? (i := 1043) (by decide +kernel)⟩
theorem lw_p37 : lw_okq (⟨"PellMillsModel", "nextTerm", "(I)V"⟩, 30) := ⟨⟨by decide +kernel, by decide +kernel⟩, List.mem_of_getElem? (i := 858) (by decide +kernel), List.mem_of_getElem? (i := 1046) (by decide +kernel), List.mem_of_getElem? (i := 1047) (by decide +kernel)⟩
theorem lw_p38 : lw_okq (⟨"PellMillsModel", "adds", "()V"⟩, 30) := ⟨⟨by decide +kernel, by decide +kernel⟩, List.mem_of_getElem? (i := 858) (by decide +kernel), List.mem_of_getElem? (i := 1050) (by decide +kernel), List.mem_of_getElem? (i := 1051) (by decide +kernel)⟩
theorem lw_p39 : lw_okq (⟨"PellMillsModel", "grows", "(I)Z"⟩, 30) := ⟨⟨by decide +kernel, by decide +kernel⟩, List.mem_of_getElem? (i := 858) (by decide +kernel), List.mem_of_getElem? (i := 1054) (by decide +kernel), List.mem_of_getElem? (i := 1055) (by decide +kernel)⟩
theorem lw_p40 : lw_okq (⟨"PellMillsModel", "goBackward", "(I)I"⟩, 30) := ⟨⟨by decide +kernel, by decide +kernel⟩, List.mem_of_getElem? (i := 858) (by decide +kernel), List.mem_of_getElem? (i := 1063) (by decide +kernel), List.mem_of_getElem? (i := 1064) (by decide +kernel)⟩
theorem lw_p41 : lw_okq (⟨"PellMillsModel", "asks", "(Z)Z"⟩, 30) := ⟨⟨by decide +kernel, by decide +kernel⟩, List.mem_of_getElem? (i := 858) (by decide +kernel), List.mem_of_getElem? (i := 1083) (by decide +kernel), List.mem_of_getElem? (i := 1084) (by decide +kernel)⟩
theorem lw_p42 : lw_okq (⟨"PellMillsModel", "asksRoot", "(IZ)Z"⟩, 30) := ⟨⟨by decide +kernel, by decide +kernel⟩, List.mem_of_getElem? (i := 858) (by decide +kernel), List.mem_of_getElem? (i := 1091) (by decide +kernel), List.mem_of_getElem? (i := 1092) (by decide +kernel)⟩
theorem lw_p43 : lw_okq (⟨"PellMillsModel", "least", "(I)I"⟩, 30) := ⟨⟨by decide +kernel, by decide +kernel⟩, List.mem_of_getElem? (i := 858) (by decide +kernel), List.mem_of_getElem? (i := 1111) (by decide +kernel), List.mem_of_getElem? (i := 1112) (by decide +kernel)⟩
theorem lw_p44 : lw_okq (⟨"PellMillsModel", "asksStone", "(I)Z"⟩, 30) := ⟨⟨by decide +kernel, by decide +kernel⟩, List.mem_of_getElem? (i := 858) (by decide +kernel), List.mem_of_getElem? (i := 1136) (by decide +kernel), List.mem_of_getElem? (i := 1137) (by decide +kernel)⟩
theorem lw_p45 : lw_okq (⟨"PellMillsModel", "sign", "(I)I"⟩, 30) := ⟨⟨by decide +kernel, by decide +kernel⟩, List.mem_of_getElem? (i := 858) (by decide +kernel), List.mem_of_getElem? (i := 1152) (by decide +kernel), List.mem_of_getElem? (i := 1153) (by decide +kernel)⟩
theorem lw_p46 : lw_okq (⟨"PellMillsModel", "countTo", "(J)I"⟩, 30) := ⟨⟨by decide +kernel, by decide +kernel⟩, List.mem_of_getElem? (i := 858) (by decide +kernel), List.mem_of_getElem? (i := 1168) (by decide +kernel), List.mem_of_getElem? (i := 1169) (by decide +kernel)⟩
theorem lw_p47 : lw_okq (⟨"PellMillsModel", "beginsSolutions", "()V"⟩, 30) := ⟨⟨by decide +kernel, by decide +kernel⟩, List.mem_of_getElem? (i := 858) (by decide +kernel), List.mem_of_getElem? (i := 1172) (by decide +kernel), List.mem_of_getElem? (i := 1173) (by decide +kernel)⟩
def lw_privs_3 : List (MethodName × Nat) := [(⟨"PellMillsModel", "goMill", "(I)I"⟩, 30), (⟨"PellMillsModel", "reaches", "(II)V"⟩, 30), (⟨"PellMillsModel", "beginsPowers", "(I)V"⟩, 30), (⟨"PellMillsModel", "period", "(I)I"⟩, 30), (⟨"PellMillsModel", "beginsTerms", "(I)V"⟩, 30), (⟨"PellMillsModel", "nextTerm", "(I)V"⟩, 30), (⟨"PellMillsModel", "adds", "()V"⟩, 30), (⟨"PellMillsModel", "grows", "(I)Z"⟩, 30), (⟨"PellMillsModel", "goBackward", "(I)I"⟩, 30), (⟨"PellMillsModel", "asks", "(Z)Z"⟩, 30), (⟨"PellMillsModel", "asksRoot", "(IZ)Z"⟩, 30), (⟨"PellMillsModel", "least", "(I)I"⟩, 30), (⟨"PellMillsModel", "asksStone", "(I)Z"⟩, 30), (⟨"PellMillsModel", "sign", "(I)I"⟩, 30), (⟨"PellMillsModel", "countTo", "(J)I"⟩, 30), (⟨"PellMillsModel", "beginsSolutions", "()V"⟩, 30)]
theorem lw_r3 : ∀ q ∈ lw_privs_3, lw_okq q := List.forall_mem_cons.mpr ⟨lw_p32, List.forall_mem_cons.mpr ⟨lw_p33, List.forall_mem_cons.mpr ⟨lw_p34, List.forall_mem_cons.mpr ⟨lw_p35, List.forall_mem_cons.mpr ⟨lw_p36, List.forall_mem_cons.mpr ⟨lw_p37, List.forall_mem_cons.mpr ⟨lw_p38, List.forall_mem_cons.mpr ⟨lw_p39, List.forall_mem_cons.mpr ⟨lw_p40, List.forall_mem_cons.mpr ⟨lw_p41, List.forall_mem_cons.mpr ⟨lw_p42, List.forall_mem_cons.mpr ⟨lw_p43, List.forall_mem_cons.mpr ⟨lw_p44, List.forall_mem_cons.mpr ⟨lw_p45, List.forall_mem_cons.mpr ⟨lw_p46, List.forall_mem_cons.mpr ⟨lw_p47, fun _ h => absurd h List.not_mem_nil⟩⟩⟩⟩⟩⟩⟩⟩⟩⟩⟩⟩⟩⟩⟩⟩
theorem lw_p48 : lw_okq (⟨"PellMillsModel", "goesOn", "(I)V"⟩, 30) := ⟨⟨by decide +kernel, by decide +kernel⟩, List.mem_of_getElem? (i := 858) (by decide +kernel), List.mem_of_getElem? (i := 1176) (by decide +kernel), List.mem_of_getElem? (i := 1177) (by decide +kernel)⟩
theorem lw_p49 : lw_okq (⟨"PellMillsModel", "leastNext", "()I"⟩, 30) := ⟨⟨by decide +kernel, by decide +kernel⟩, List.mem_of_getElem? (i := 858) (by decide +kernel), List.mem_of_getElem? (i := 1180) (by decide +kernel), List.mem_of_getElem? (i := 1181) (by decide +kernel)⟩
theorem lw_p50 : lw_okq (⟨"PellMillsModel", "solutionX", "(I)J"⟩, 30) := ⟨⟨by decide +kernel, by decide +kernel⟩, List.mem_of_getElem? (i := 858) (by decide +kernel), List.mem_of_getElem? (i := 1188) (by decide +kernel), List.mem_of_getElem? (i := 1189) (by decide +kernel)⟩
theorem lw_p51 : lw_okq (⟨"PellMillsModel", "solution", "(I)I"⟩, 30) := ⟨⟨by decide +kernel, by decide +kernel⟩, List.mem_of_getElem? (i := 858) (by decide +kernel), List.mem_of_getElem? (i := 1192) (by decide +kernel), List.mem_of_getElem? (i := 1193) (by decide +kernel)⟩
theorem lw_p52 : lw_okq (⟨"PellMillsModel", "faultTold", "(I)I"⟩, 30) := ⟨⟨by decide +kernel, by decide +kernel⟩, List.mem_of_getElem? (i := 858) (by decide +kernel), List.mem_of_getElem? (i := 1232) (by decide +kernel), List.mem_of_getElem? (i := 1233) (by decide +kernel)⟩
theorem lw_p53 : lw_okq (⟨"PellMillsModel", "doesAll", "()I"⟩, 30) := ⟨⟨by decide +kernel, by decide +kernel⟩, List.mem_of_getElem? (i := 858) (by decide +kernel), List.mem_of_getElem? (i := 1236) (by decide +kernel), List.mem_of_getElem? (i := 1237) (by decide +kernel)⟩
theorem lw_p54 : lw_okq (⟨"PellMillsModel", "takesOrder", "()V"⟩, 30) := ⟨⟨by decide +kernel, by decide +kernel⟩, List.mem_of_getElem? (i := 858) (by decide +kernel), List.mem_of_getElem? (i := 1240) (by decide +kernel), List.mem_of_getElem? (i := 1241) (by decide +kernel)⟩
theorem lw_p55 : lw_okq (⟨"PellMillsModel", "here", "()I"⟩, 30) := ⟨⟨by decide +kernel, by decide +kernel⟩, List.mem_of_getElem? (i := 858) (by decide +kernel), List.mem_of_getElem? (i := 1244) (by decide +kernel), List.mem_of_getElem? (i := 1245) (by decide +kernel)⟩
theorem lw_p56 : lw_okq (⟨"PellMillsModel", "takes", "(Z)V"⟩, 30) := ⟨⟨by decide +kernel, by decide +kernel⟩, List.mem_of_getElem? (i := 858) (by decide +kernel), List.mem_of_getElem? (i := 1248) (by decide +kernel), List.mem_of_getElem? (i := 1249) (by decide +kernel)⟩
theorem lw_p57 : lw_okq (⟨"PellMillsModel", "takesNumber", "()I"⟩, 30) := ⟨⟨by decide +kernel, by decide +kernel⟩, List.mem_of_getElem? (i := 858) (by decide +kernel), List.mem_of_getElem? (i := 1252) (by decide +kernel), List.mem_of_getElem? (i := 1253) (by decide +kernel)⟩
theorem lw_p58 : lw_okq (⟨"PellMillsModel", "doesOrder", "()I"⟩, 30) := ⟨⟨by decide +kernel, by decide +kernel⟩, List.mem_of_getElem? (i := 858) (by decide +kernel), List.mem_of_getElem? (i := 1256) (by decide +kernel), List.mem_of_getElem? (i := 1257) (by decide +kernel)⟩
def lw_privs_4 : List (MethodName × Nat) := [(⟨"PellMillsModel", "goesOn", "(I)V"⟩, 30), (⟨"PellMillsModel", "leastNext", "()I"⟩, 30), (⟨"PellMillsModel", "solutionX", "(I)J"⟩, 30), (⟨"PellMillsModel", "solution", "(I)I"⟩, 30), (⟨"PellMillsModel", "faultTold", "(I)I"⟩, 30), (⟨"PellMillsModel", "doesAll", "()I"⟩, 30), (⟨"PellMillsModel", "takesOrder", "()V"⟩, 30), (⟨"PellMillsModel", "here", "()I"⟩, 30), (⟨"PellMillsModel", "takes", "(Z)V"⟩, 30), (⟨"PellMillsModel", "takesNumber", "()I"⟩, 30), (⟨"PellMillsModel", "doesOrder", "()I"⟩, 30)]
theorem lw_r4 : ∀ q ∈ lw_privs_4, lw_okq q := List.forall_mem_cons.mpr ⟨lw_p48, List.forall_mem_cons.mpr ⟨lw_p49, List.forall_mem_cons.mpr ⟨lw_p50, List.forall_mem_cons.mpr ⟨lw_p51, List.forall_mem_cons.mpr ⟨lw_p52, List.forall_mem_cons.mpr ⟨lw_p53, List.forall_mem_cons.mpr ⟨lw_p54, List.forall_mem_cons.mpr ⟨lw_p55, List.forall_mem_cons.mpr ⟨lw_p56, List.forall_mem_cons.mpr ⟨lw_p57, List.forall_mem_cons.mpr ⟨lw_p58, fun _ h => absurd h List.not_mem_nil⟩⟩⟩⟩⟩⟩⟩⟩⟩⟩⟩
def lw_privs : List (MethodName × Nat) := lw_privs_1 ++ (lw_privs_2 ++ (lw_privs_3 ++ (lw_privs_4)))
def lw_tbl : List Cond := k2_sels lw_privs ++ tables_1
theorem lw_privs_ok : ∀ q ∈ lw_privs, lw_okq q := by
  show ∀ q ∈ lw_privs_1 ++ (lw_privs_2 ++ (lw_privs_3 ++ (lw_privs_4))), lw_okq q
  exact List.forall_mem_append.mpr ⟨lw_r1, List.forall_mem_append.mpr ⟨lw_r2, List.forall_mem_append.mpr ⟨lw_r3, lw_r4⟩⟩⟩
/-- the streams that the claim lets the run draw from -/
abbrev lw_cs : List Choice := [Jvm.Choice.named "NaN.bits"]
theorem lw_bits : nanBits ∈ lw_cs := by first | decide | exact List.mem_cons_self | simp [lw_cs, nanBits]
end
section
/-! ===== BEGIN words of one list among another's, by their places ===== -/
theorem goodIn_r {big : List Cond} (ws : List Cond) (ps : List Nat) (hp : ws = ps.filterMap (fun i => big[i]?)) (h : ws.all goodWord = true) : GoodIn big ws := by
  intro w hw
  have h1 := List.all_eq_true.mp h w hw
  rw [hp] at hw
  obtain ⟨i, -, hi⟩ := List.mem_filterMap.mp hw
  have hm : w ∈ big := by first | exact List.mem_of_getElem? hi | exact List.getElem?_mem hi
  exact ⟨hm, good_of_word h1⟩
theorem goodIn_app {big a b : List Cond} (ha : GoodIn big a) (hb : GoodIn big b) : GoodIn big (a ++ b) := fun w h => (List.mem_append.mp h).elim (ha w) (hb w)
theorem goodIn_ca {big a b : List Cond} {c : Cond} (ha : GoodIn big (c :: a)) (hb : GoodIn big b) : GoodIn big (c :: (a ++ b)) := fun w h => (List.mem_cons.mp h).elim (fun e => ha w (List.mem_cons.mpr (Or.inl e))) (fun h => (List.mem_append.mp h).elim (fun h => ha w (List.mem_cons.mpr (Or.inr h))) (hb w))
theorem goodIn_sub {big ws : List Cond} (hm : ∀ w ∈ ws, w ∈ big) (h : ws.all goodWord = true) : GoodIn big ws := fun w hw => ⟨hm w hw, good_of_word (List.all_eq_true.mp h w hw)⟩
/-! ===== END ===== -/

/-! ===== BEGIN exceptions that leave a method, and their catching by the caller (launches without stack traces) ===== -/
section VXA
/-! The laws vx_back, vx_callV, vx_callS, vx_callSW, vx_throw0, vx_throwS follow proofs of the library, with one case more: JvmDerived/Free/Laws.lean (Back.of_free), Shelf42/LK1.lean (callV, callS), Shelf/KitTraced.lean (throwNew0V, throwNewS). -/
/-- where a method has thrown q: the class by its name, the cell, what was written, the world -/
def vx_T (XC : String → State → State → Prop) (st : State) (q : Addr) (t : State) (mc ms : Nat) (free : Addr → Prop) : Prop :=
  ∃ (E : String) (ce : Cell) (L : List Loc), XC E st t ∧ t.heap[q]? = some ce ∧ ce.vm = .none ∧ st.vm.findClass E = some ce.cls ∧ st.WarmedH t.vm ∧ st.sameButNew ({ t with vm := st.vm } : State) L mc ms ∧ ∀ z ∈ L, free z.base
def vx_Q (Qc : Array Value → State → Outcome → State → Prop) (XC : String → State → State → Prop) (mc ms : Nat) (free : Addr → Prop) : Array Value → State → Outcome → State → Prop := fun a st o t =>
  (Qc a st o t ∧ ∃ L, FrameEnd st o t L mc ms ∧ ∀ q ∈ L, free q.base) ∨ ∃ q, o = .threw q ∧ vx_T XC st q t mc ms free
/-- a callee that returns or throws -/
def vx_Met (l : Launch) (y : MethodName) (ws : List Cond) (rm : Room) (Pc : Array Value → State → Prop) (Qc : Array Value → State → Outcome → State → Prop) (XC : String → State → State → Prop) (mc ms : Nat) (free : Addr → Prop) : Prop :=
  MetFree l y (headSpec ws rm) Pc (fun _ _ _ _ _ => True) (vx_Q Qc XC mc ms free)
def vx_Post (XC : String → State → State → Prop) (mc ms : Nat) (free : Addr → Prop) : Pt → Array Value → Addr → Pt → Prop := fun A a q B =>
  ∃ (g : JFrame) (mk : MethodId) (t : State) (L : List Loc) (E : String) (ce : Cell), B.U.heap = t.heap ∧ B.U.vm = t.vm ∧ XC E (A.U.calling g mk a) t ∧ t.heap[q]? = some ce ∧ ce.vm = .none ∧ A.U.vm.findClass E = some ce.cls ∧ B.locs = A.locs ++ L ∧ (∀ z ∈ L, free z.base) ∧ B.cells = A.cells + mc ∧ B.slots = A.slots + ms
def vx_Back (l : Launch) (R : Room) (p : Program) (e : Env) (below : List Frame) (s : State) (sargs : Array Value) (y : MethodName) (len W9 : Nat)
    (Pre : Pt → Array Value → Prop) (Post : Pt → Array Value → Option Value → Pt → Prop) (PostX : Pt → Array Value → Addr → Pt → Prop) : Prop :=
  ∀ (m : MethodId) (meth : Method) (c : Code) (A : Pt) (g : JFrame) (ig : Instr) (mk : MethodId) (a : Array Value),
    Stand p l e R s m sargs below meth c A.U A.locs A.cells A.slots → g.method = m → g.locals.size = c.maxLocals → decode c.code g.pc = .ok (ig, len) →
    2 * g.monitorRoom + (g.stack.map fun v => v.category).sum ≤ W9 → A.U.methodNamed? y = some mk → Pre A a →
    (∃ (v : Option Value) (B : Pt), Stand p l e R s m sargs below meth c B.U B.locs B.cells B.slots ∧ Post A a v B ∧
      Steps p.tables e below (doInvoke e (A.U.setTop g) [] mk a).1 (B.U.setTop { g with pc := g.pc + len, stack := v.toList ++ g.stack })) ∨
    (∃ (q : Addr) (B : Pt), Stand p l e R s m sargs below meth c B.U B.locs B.cells B.slots ∧ PostX A a q B ∧
      Steps p.tables e below (doInvoke e (A.U.setTop g) [] mk a).1 ((B.U.setTop g).pushFrame (.throwing q)))
section Payer
variable {l : Launch} {R : Room} {p : Program} {e : Env} {below : List Frame} {s : State} {sargs : Array Value} {y : MethodName} {len W9 : Nat}
theorem vx_back {ws : List Cond} {rm : Room} {Pc : Array Value → State → Prop} {Qc : Array Value → State → Outcome → State → Prop} {XC : String → State → State → Prop} {mc ms : Nat} {free : Addr → Prop} {bytes : ByteArray} {maxL : Nat} {ret : Option FieldType}
    (hM : vx_Met l y ws rm Pc Qc XC mc ms free) (hblind : FrameBlind Pc) (hrc : rm.cells = mc) (hrs : rm.slots = ms)
    (hframes : rm.frames + 1 ≤ R.frames) (hlocals : W9 + (maxL + 11) + rm.locals ≤ R.locals)
    (hws : ∀ w ∈ ws, ∀ a' U, s.WarmedH U.vm → w.before a' U = true) (hcode : Cond.code y bytes maxL ret ∈ ws) (hinit : ∀ a' U, s.WarmedH U.vm → (Cond.initialized y.cls).before a' U = true) :
    vx_Back l R p e below s sargs y len W9 (PreOf R mc ms Pc) (PostOf Qc mc ms free) (vx_Post XC mc ms free) := by
  intro m meth c A g ig mk a X hg hsize hdg hW hn hp
  have h1 : (headSpec ws rm).pre.before a A.U = true := atoms_intro fun w hw => hws w hw _ _ X.warmed
  have h2 : (Cond.code y bytes maxL ret).before a A.U = true := hws _ hcode _ _ X.warmed
  have h3 : (Cond.initialized y.cls).before a A.U = true := hinit _ _ X.warmed
  have h4 : A.cells + (headSpec ws rm).room.cells ≤ R.cells := by rw [show (headSpec ws rm).room.cells = mc from hrc]; exact hp.1
  have h5 : A.slots + (headSpec ws rm).room.slots ≤ R.slots := by rw [show (headSpec ws rm).room.slots = ms from hrs]; exact hp.2.1
  have hPc : Pc a (A.U.calling g mk a) := hblind _ _ _ _ hp.2.2
  obtain ⟨U, Ls, c0, s0⟩ := A
  dsimp only [Pt.U, Pt.locs, Pt.cells, Pt.slots] at h1 h2 h3 h4 h5 X hn hPc ⊢
  obtain ⟨methY, cY, hmY, hcY, -, hlY, -, -, -, -⟩ := Cond.code_spec hn h2
  obtain ⟨kY, hkY, -⟩ := className_of_methodNamed hn
  have hinitY : kY.init = .initialized := Cond.initialized_spec (findClass_of_methodNamed hn) hkY h3
  have h : At U g.method c below := by rw [hg]; exact X.here
  have hlocals9 : W9 + (maxL + 11) + (headSpec ws rm).room.locals ≤ R.locals := hlocals
  have happ : (headSpec ws rm).appliesLoose y e.platform (U.calling g mk a) = true :=
    Spec.appliesLoose_calling (g := g) h hdg hn hkY hinitY
      (X.room_calling (g := g) (R' := (headSpec ws rm).room) hsize hmY hcY hframes (by rw [hlY]; omega) h4 h5) h1
  obtain ⟨mid, hmid⟩ := h.above
  have hfr : (U.setTop g).frames = (.java g :: mid) ++ below := by rw [State.frames_setTop' g h.top, hmid]; rfl
  obtain ⟨o, s₂, hsteps, -, hend, hq⟩ := Steps.callFree hM p X.admits X.cas X.clock (acts := []) hfr happ hPc trivial
  have hq' : vx_Q Qc XC mc ms free a (U.calling g mk a) o s₂ := hq
  rw [State.frames_setTop' g h.top] at hend
  obtain ⟨g₀, hg0⟩ := Option.isSome_iff_exists.mp h.top
  obtain ⟨r, hr⟩ := State.topJava?_eq_some.mp hg0
  have hr' : (({ U with heap := s₂.heap, slotsUsed := s₂.slotsUsed } : State).setVm s₂.vm).frames = .java g₀ :: r := hr
  rcases hq' with ⟨hqc, L, hfe, hL⟩ | ⟨q, rfl, E, ce, L, hx, hce, hcv, hcl, hW₂, hsm, hL⟩
  · obtain ⟨⟨v, rfl⟩, hW₂, e2, q2, q3, q4, q5, q6⟩ := id hfe
    have e3 : s₂ = ({ (U.calling g mk a).setFrames s₂.frames with heap := s₂.heap, slotsUsed := s₂.slotsUsed } : State).setVm s₂.vm := by
      have : s₂ = ({ s₂ with vm := (U.calling g mk a).vm } : State).setVm s₂.vm := rfl
      rw [e2] at this
      exact this
    obtain ⟨c₂, i₂, len₂, hc₂, hd₂, hf₂⟩ := hend
    have hW' : U.WarmedH s₂.vm := hW₂
    have hcc : c₂ = c := by
      have h1 : s₂.code? g.method = U.code? g.method := by
        rw [State.code?_eq, State.code?_eq, hW'.alike.method?]
      exact Option.some.inj (hc₂.symm.trans (h1.trans h.code))
    subst hcc
    have hlen : len₂ = len := by rw [hdg] at hd₂; cases hd₂; rfl
    subst hlen
    have hs₂ : s₂ = (({ U with heap := s₂.heap, slotsUsed := s₂.slotsUsed } : State).setVm s₂.vm).setTop { g with pc := g.pc + len₂, stack := v.toList ++ g.stack } := by
      refine e3.trans ?_
      rw [hf₂, State.calling_eq h.top, State.setFrames_setFrames, State.setTop_of_frames _ hr', hr]
      rfl
    have hsame : U.sameButNew ({ U with heap := s₂.heap, slotsUsed := s₂.slotsUsed } : State) L mc ms := by
      refine ⟨?_, q2, q3, q4, q5, q6⟩
      obtain ⟨t, ht, -⟩ := State.frames_cons hr
      show ({ U with heap := s₂.heap, slotsUsed := s₂.slotsUsed } : State) = { U.setFrames U.frames with heap := s₂.heap, slotsUsed := s₂.slotsUsed }
      rw [State.setFrames_self ht]
    subst hg
    refine Or.inl ⟨v, ⟨(({ U with heap := s₂.heap, slotsUsed := s₂.slotsUsed } : State).setVm s₂.vm), Ls ++ L, c0 + mc, s0 + ms⟩,
      ⟨X.admits, X.cas, X.clock, X.frames, X.room, X.hears, X.method, X.code, (X.here.setHeapUsed s₂.heap s₂.slotsUsed).setVm hW'.alike, X.tail, State.WarmedH.trans X.warmed hW', X.limits, X.bytes, X.same.trans (hsame.setVm s.vm)⟩,
      ⟨g, mk, s₂, L, rfl, rfl, hqc, rfl, hL, rfl, rfl⟩, ?_⟩
    show Steps p.tables e below _ ((({ U with heap := s₂.heap, slotsUsed := s₂.slotsUsed } : State).setVm s₂.vm).setTop { g with pc := g.pc + len₂, stack := v.toList ++ g.stack })
    rw [← hs₂]
    exact hsteps
  · obtain ⟨e2, q2, q3, q4, q5, q6⟩ := id hsm
    have e3 : s₂ = ({ (U.calling g mk a).setFrames s₂.frames with heap := s₂.heap, slotsUsed := s₂.slotsUsed } : State).setVm s₂.vm := by
      have : s₂ = ({ s₂ with vm := (U.calling g mk a).vm } : State).setVm s₂.vm := rfl
      rw [e2] at this
      exact this
    have hf₂ : s₂.frames = .throwing q :: .java g :: U.frames.tail := hend
    have hW' : U.WarmedH s₂.vm := hW₂
    have hs₂ : s₂ = ((({ U with heap := s₂.heap, slotsUsed := s₂.slotsUsed } : State).setVm s₂.vm).setTop g).pushFrame (.throwing q) := by
      refine e3.trans ?_
      rw [hf₂, State.calling_eq h.top, State.setFrames_setFrames, State.pushFrame, State.frames_setTop _ hr', State.setTop_of_frames _ hr', State.setFrames_setFrames, hr]
      rfl
    have hsame : U.sameButNew ({ U with heap := s₂.heap, slotsUsed := s₂.slotsUsed } : State) L mc ms := by
      refine ⟨?_, q2, q3, q4, q5, q6⟩
      obtain ⟨t, ht, -⟩ := State.frames_cons hr
      show ({ U with heap := s₂.heap, slotsUsed := s₂.slotsUsed } : State) = { U.setFrames U.frames with heap := s₂.heap, slotsUsed := s₂.slotsUsed }
      rw [State.setFrames_self ht]
    subst hg
    refine Or.inr ⟨q, ⟨(({ U with heap := s₂.heap, slotsUsed := s₂.slotsUsed } : State).setVm s₂.vm), Ls ++ L, c0 + mc, s0 + ms⟩,
      ⟨X.admits, X.cas, X.clock, X.frames, X.room, X.hears, X.method, X.code, (X.here.setHeapUsed s₂.heap s₂.slotsUsed).setVm hW'.alike, X.tail, State.WarmedH.trans X.warmed hW', X.limits, X.bytes, X.same.trans (hsame.setVm s.vm)⟩,
      ⟨g, mk, s₂, L, E, ce, rfl, rfl, hx, hce, hcv, hcl, rfl, hL, rfl, rfl⟩, ?_⟩
    show Steps p.tables e below _ (((({ U with heap := s₂.heap, slotsUsed := s₂.slotsUsed } : State).setVm s₂.vm).setTop g).pushFrame (.throwing q))
    rw [← hs₂]
    exact hsteps
end Payer
section Calls
variable {p : Program} {l : Launch} {e : Env} {R : Room} {s : State} {m : MethodId} {args : Array Value} {below : List Frame} {meth : Method} {c : Code} {T : State} {locs : List Loc} {cells slots : Nat}
theorem vx_callV (X : Stand p l e R s m args below meth c T locs cells slots) (hexec : p.tables.exec = Jvm.exec) {own C : String} {index : Nat} {y : MethodName} {bytes : ByteArray} {maxL : Nat} {ret : Option FieldType}
    (hown : s.vm.findClass own = some m.cls) (hlink : (Cond.methodLink own index y).before args s = true) (hinst : (Cond.instanceMethod y).before args s = true) (hsel : (Cond.selects C y y).before args s = true)
    (hcode : (Cond.code y bytes maxL ret).before args s = true) (hy : y.cls ≠ "java/lang/invoke/MethodHandle" ∧ y.cls ≠ "java/lang/invoke/VarHandle")
    {W9 : Nat} {Pre : Pt → Array Value → Prop} {Post : Pt → Array Value → Option Value → Pt → Prop} {PostX : Pt → Array Value → Addr → Pt → Prop} (hK : vx_Back l R p e below s args y 3 W9 Pre Post PostX)
    {b : Addr} {cellB : Cell} (hcell : T.heap[b]? = some cellB) (hobj : cellB.vm.isStatics = false) (hcls : s.vm.findClass C = some cellB.cls)
    {g : JFrame} (hg : g.method = m) (hsize : g.locals.size = c.maxLocals) {argsL rest : List Value} (hlen : ∀ sig, parseMethodDescriptor y.desc = some sig → argsL.length = sig.parameters.length)
    (hstack : g.stack = argsL.reverse ++ .ref b :: rest) (hW : 2 * g.monitorRoom + (rest.map fun v => v.category).sum ≤ W9) (hdg : decode c.code g.pc = .ok (.invokevirtual index, 3))
    (hpre : ∀ vm₁, s.WarmedH vm₁ → Pre ⟨T.setVm vm₁, locs, cells, slots⟩ (Value.ref b :: argsL).toArray) :
    (∃ (v : Option Value) (vm₁ : Vm) (B : Pt), s.WarmedH vm₁ ∧ Stand p l e R s m args below meth c B.U B.locs B.cells B.slots ∧ Post ⟨T.setVm vm₁, locs, cells, slots⟩ (Value.ref b :: argsL).toArray v B ∧
      ∀ target, Steps p.tables e below (B.U.setTop { g with pc := g.pc + 3, stack := v.toList ++ rest }) target → Steps p.tables e below (T.setTop g) target) ∨
    (∃ (q : Addr) (vm₁ : Vm) (B : Pt), s.WarmedH vm₁ ∧ Stand p l e R s m args below meth c B.U B.locs B.cells B.slots ∧ PostX ⟨T.setVm vm₁, locs, cells, slots⟩ (Value.ref b :: argsL).toArray q B ∧
      Steps p.tables e below (T.setTop g) ((B.U.setTop { g with stack := rest }).pushFrame (.throwing q))) := by
  obtain ⟨mk, methM, hnamed, hmethM, hstM, habM⟩ := Cond.instanceMethod_spec hinst
  obtain ⟨methM', cM, hmethM', -, -, -, -, -, -, hsigM⟩ := Cond.code_spec hnamed hcode
  cases hmethM.symm.trans hmethM'
  obtain ⟨c2, r2, m2, q1, q2, q3, q4, kP, hkP, hkPi⟩ := Cond.selects_spec hsel
  cases hcls.symm.trans q1
  cases (State.methodFound?_of_named hnamed hy).symm.trans q2
  cases hnamed.symm.trans q3
  have hselP : selectMethod e.platform s.vm cellB.cls mk = .method mk := by rw [Launch.admits_selectMethod X.admits]; exact q4
  obtain ⟨vm₁, X₁, hstep₁⟩ := X.invokevirtual hexec hown hlink hnamed hmethM hstM hkP hkPi hy (a := b) (cell := cellB) hcell
    (fun z h => by rw [h] at hobj; cases hobj) hselP hmethM habM hkP hkPi (g := g) hg (argsL := argsL) (rest := rest) (hlen _ hsigM) hstack hdg
  rcases hK m meth c ⟨T.setVm vm₁, locs, cells, slots⟩ { g with stack := rest } (.invokevirtual index) mk (Value.ref b :: argsL).toArray X₁ hg hsize hdg hW (X₁.named hnamed) (hpre vm₁ X₁.warmed) with ⟨v, B, X', hpost, hsteps⟩ | ⟨q, B, X', hpost, hsteps⟩
  · exact Or.inl ⟨v, vm₁, B, X₁.warmed, X', hpost, fun target h => hstep₁ _ fun acts => by rw [doInvoke_state]; exact hsteps.trans h⟩
  · exact Or.inr ⟨q, vm₁, B, X₁.warmed, X', hpost, hstep₁ _ fun acts => by rw [doInvoke_state]; exact hsteps⟩
theorem vx_callS (X : Stand p l e R s m args below meth c T locs cells slots) (hexec : p.tables.exec = Jvm.exec) {own : String} {index : Nat} {y : MethodName} {bytes : ByteArray} {maxL : Nat} {ret : Option FieldType}
    (hown : s.vm.findClass own = some m.cls) (hlink : (Cond.methodLink own index y).before args s = true) (hstat : (Cond.static y).before args s = true) (hinit : (Cond.initialized y.cls).before args s = true)
    (hcode : (Cond.code y bytes maxL ret).before args s = true) (hy : y.cls ≠ "java/lang/invoke/MethodHandle" ∧ y.cls ≠ "java/lang/invoke/VarHandle")
    {W9 : Nat} {Pre : Pt → Array Value → Prop} {Post : Pt → Array Value → Option Value → Pt → Prop} {PostX : Pt → Array Value → Addr → Pt → Prop} (hK : vx_Back l R p e below s args y 3 W9 Pre Post PostX)
    {g : JFrame} (hg : g.method = m) (hsize : g.locals.size = c.maxLocals) {argsL rest : List Value} (hlen : ∀ sig, parseMethodDescriptor y.desc = some sig → argsL.length = sig.parameters.length)
    (hstack : g.stack = argsL.reverse ++ rest) (hW : 2 * g.monitorRoom + (rest.map fun v => v.category).sum ≤ W9) (hdg : decode c.code g.pc = .ok (.invokestatic index, 3))
    (hpre : ∀ vm₁, s.WarmedH vm₁ → Pre ⟨T.setVm vm₁, locs, cells, slots⟩ argsL.toArray) :
    (∃ (v : Option Value) (vm₁ : Vm) (B : Pt), s.WarmedH vm₁ ∧ Stand p l e R s m args below meth c B.U B.locs B.cells B.slots ∧ Post ⟨T.setVm vm₁, locs, cells, slots⟩ argsL.toArray v B ∧
      ∀ target, Steps p.tables e below (B.U.setTop { g with pc := g.pc + 3, stack := v.toList ++ rest }) target → Steps p.tables e below (T.setTop g) target) ∨
    (∃ (q : Addr) (vm₁ : Vm) (B : Pt), s.WarmedH vm₁ ∧ Stand p l e R s m args below meth c B.U B.locs B.cells B.slots ∧ PostX ⟨T.setVm vm₁, locs, cells, slots⟩ argsL.toArray q B ∧
      Steps p.tables e below (T.setTop g) ((B.U.setTop { g with stack := rest }).pushFrame (.throwing q))) := by
  obtain ⟨mk, hnamed⟩ := Cond.code_named hcode
  obtain ⟨methM, cM, hmethM, -, -, -, -, -, -, hsigM⟩ := Cond.code_spec hnamed hcode
  have hstatic : methM.isStatic = true := Cond.static_spec hnamed hmethM hstat
  obtain ⟨kP, hkP, -⟩ := className_of_methodNamed hnamed
  have hinitP : kP.init = .initialized := Cond.initialized_spec (findClass_of_methodNamed hnamed) hkP hinit
  obtain ⟨vm₁, X₁, hstep₁⟩ := X.invokestatic hexec hown hlink hnamed hmethM hstatic hkP hinitP hy (g := g) hg (argsL := argsL) (rest := rest) (hlen _ hsigM) hstack hdg
  rcases hK m meth c ⟨T.setVm vm₁, locs, cells, slots⟩ { g with stack := rest } (.invokestatic index) mk argsL.toArray X₁ hg hsize hdg hW (X₁.named hnamed) (hpre vm₁ X₁.warmed) with ⟨v, B, X', hpost, hsteps⟩ | ⟨q, B, X', hpost, hsteps⟩
  · exact Or.inl ⟨v, vm₁, B, X₁.warmed, X', hpost, fun target h => hstep₁ _ fun acts => by rw [doInvoke_state]; exact hsteps.trans h⟩
  · exact Or.inr ⟨q, vm₁, B, X₁.warmed, X', hpost, hstep₁ _ fun acts => by rw [doInvoke_state]; exact hsteps⟩
end Calls
theorem vx_cls {s : State} {T : State} {vm₁ : Vm} {E : String} {k : ClassId} (hW : s.WarmedH vm₁) (h : (T.setVm vm₁).vm.findClass E = some k) : s.vm.findClass E = some k := by
  have h1 : vm₁.findClass E = some k := h
  rw [hW.alike.findClass] at h1
  exact h1
/-- the method's frame g, with q thrown over it -/
def vx_W (p : Program) (l : Launch) (e : Env) (R : Room) (s : State) (m : MethodId) (args : Array Value) (below : List Frame) (meth : Method) (c : Code) (H : Heap) (locs : List Loc) (cells slots : Nat) (Q : State → Prop) (g : JFrame) (q : Addr) : Prop :=
  ∀ T : State, T.heap = H → Stand p l e R s m args below meth c T locs cells slots → ∃ t, Steps p.tables e below ((T.setTop g).pushFrame (.throwing q)) t ∧ Q t
def vx_Run (p : Program) (l : Launch) (e : Env) (R : Room) (s : State) (m : MethodId) (args : Array Value) (below : List Frame) (meth : Method) (c : Code) (H : Heap) (locs : List Loc) (cells slots mc ms : Nat) (g : JFrame) (rest : List Value) (Qa : State → Outcome → State → Prop) (XC : String → State → State → Prop) (free : Addr → Prop) : Prop :=
  ∀ T : State, T.heap = H → Stand p l e R s m args below meth c T locs cells slots →
    (∃ (v : Option Value) (st₀ t T' : State) (L : List Loc), st₀.heap = H ∧ Stand p l e R s m args below meth c T' (locs ++ L) (cells + mc) (slots + ms) ∧ (∀ q ∈ L, free q.base) ∧ T'.heap = t.heap ∧ T'.vm = t.vm ∧ Qa st₀ (.returned v) t ∧
      Goes p e below T g T' { g with pc := g.pc + 3, stack := v.toList ++ rest }) ∨
    (∃ (q : Addr) (st₀ t T' : State) (L : List Loc) (E : String) (ce : Cell), st₀.heap = H ∧ Stand p l e R s m args below meth c T' (locs ++ L) (cells + mc) (slots + ms) ∧ (∀ z ∈ L, free z.base) ∧ T'.heap = t.heap ∧ T'.vm = t.vm ∧ XC E st₀ t ∧ t.heap[q]? = some ce ∧ ce.vm = .none ∧ s.vm.findClass E = some ce.cls ∧
      Steps p.tables e below (T.setTop g) ((T'.setTop { g with stack := rest }).pushFrame (.throwing q)))
def vx_X {S : Type} (px : S → Prop) (B : String → S → State → Prop) (A : Nat → Prop) : String → State → State → Prop := fun E st t => ∃ u : S, px u ∧ B E u t ∧ va_F A st t
section Runs
variable {p : Program} {l : Launch} {e : Env} {R : Room} {s : State} {m : MethodId} {args : Array Value} {below : List Frame} {meth : Method} {c : Code} {H : Heap} {locs : List Loc} {cells slots : Nat}
variable {y : MethodName} {bytes cc : ByteArray} {maxL nL mc ms n index : Nat} {ret : Option FieldType} {ws : List Cond} {rm : Room} {Pc : Array Value → State → Prop} {Qc : Array Value → State → Outcome → State → Prop} {XC : String → State → State → Prop} {free : Addr → Prop} {Ts : List Cond} {own C : String} {b : Addr} {As rest : List Value} {g : JFrame}
theorem vx_callBack (cb : CallB R s args own index y bytes maxL ret ws rm mc ms n) (hM : vx_Met l y ws rm Pc Qc XC mc ms free) (hbl : FrameBlind Pc) : vx_Back l R p e below s args y 3 8 (PreOf R mc ms Pc) (PostOf Qc mc ms free) (vx_Post XC mc ms free) := by
  obtain ⟨hrc, hrs, hfr, hlo, hws, hcw, -, hini, -⟩ := cb
  exact vx_back (bytes := bytes) (maxL := maxL) (ret := ret) hM hbl hrc hrs hfr hlo hws hcw (fun a' U hW => word_at hW (Or.inl (by first | rfl | simp [Cond.onTables, Cond.keeps, Cond.steady])) hini)
theorem vx_runV (S : CallFix p m c cc nL s args Ts own) (hM : vx_Met l y ws rm Pc Qc XC mc ms free) (cw : CallW R s args own C index y bytes maxL ret ws rm mc ms n) (hp : PreV s H C b Pc As)
    (hg : g.method = m) (hn : As.length = n) (hsize : g.locals.size = nL) (hstack : g.stack = As.reverse ++ .ref b :: rest) (hW : 2 * g.monitorRoom + (rest.map fun v => v.category).sum ≤ 8) (hdg : decode cc g.pc = .ok (.invokevirtual index, 3)) (hf : cells + mc ≤ R.cells ∧ slots + ms ≤ R.slots) :
    vx_Run p l e R s m args below meth c H locs cells slots mc ms g rest (Qc (Value.ref b :: As).toArray) XC free := by
  have hK : vx_Back l R p e below s args y 3 8 (PreOf R mc ms Pc) (PostOf Qc mc ms free) (vx_Post XC mc ms free) := vx_callBack cw.1 hM hp.1
  obtain ⟨⟨-, -, -, -, -, -, hcode, -, hy, hlen, hl⟩, hin, hse⟩ := cw
  obtain ⟨hx, hb, hml, ho, -⟩ := S
  obtain ⟨-, ⟨cellB, hcB, hoB, hclB⟩, hPc⟩ := hp
  intro T hT X
  rcases vx_callV X hx (C := C) (bytes := bytes) (maxL := maxL) (ret := ret) ho hl hin hse hcode hy hK (by rw [hT]; exact hcB) hoB hclB hg (hsize.trans hml.symm) (argsL := As) (rest := rest) (fun sig h => hn.trans (hlen sig h)) hstack hW (by rw [hb]; exact hdg)
    (fun vm₁ hW₁ => ⟨hf.1, hf.2, hPc (T.setVm vm₁) hT hW₁⟩) with ⟨v, vm₁, ⟨U', l2, c2, s2⟩, hW₁, X', ⟨g', mk, t, L, e1, e2, hq, h1, hL, h2, h3⟩, st⟩ | ⟨q, vm₁, ⟨U', l2, c2, s2⟩, hW₁, X', ⟨g', mk, t, L, E, ce, e1, e2, hq, hce, hcv, hcl, h1, hL, h2, h3⟩, st⟩
  · dsimp only [Pt.U, Pt.locs, Pt.cells, Pt.slots] at X' e1 e2 h1 h2 h3 st
    subst h1; subst h2; subst h3
    exact Or.inl ⟨v, (T.setVm vm₁).calling g' mk (Value.ref b :: As).toArray, t, U', L, hT, X', hL, e1, e2, hq, st⟩
  · dsimp only [Pt.U, Pt.locs, Pt.cells, Pt.slots] at X' e1 e2 h1 h2 h3 st hcl
    subst h1; subst h2; subst h3
    exact Or.inr ⟨q, (T.setVm vm₁).calling g' mk (Value.ref b :: As).toArray, t, U', L, E, ce, hT, X', hL, e1, e2, hq, hce, hcv, vx_cls hW₁ hcl, st⟩
theorem vx_runS (S : CallFix p m c cc nL s args Ts own) (hM : vx_Met l y ws rm Pc Qc XC mc ms free) (cw : CallB R s args own index y bytes maxL ret ws rm mc ms n ∧ (Cond.static y).before args s = true) (hp : PreS s H Pc As)
    (hg : g.method = m) (hn : As.length = n) (hsize : g.locals.size = nL) (hstack : g.stack = As.reverse ++ rest) (hW : 2 * g.monitorRoom + (rest.map fun v => v.category).sum ≤ 8) (hdg : decode cc g.pc = .ok (.invokestatic index, 3)) (hf : cells + mc ≤ R.cells ∧ slots + ms ≤ R.slots) :
    vx_Run p l e R s m args below meth c H locs cells slots mc ms g rest (Qc As.toArray) XC free := by
  have hK : vx_Back l R p e below s args y 3 8 (PreOf R mc ms Pc) (PostOf Qc mc ms free) (vx_Post XC mc ms free) := vx_callBack cw.1 hM hp.1
  obtain ⟨⟨-, -, -, -, -, -, hcode, hini, hy, hlen, hl⟩, hstt⟩ := cw
  obtain ⟨hx, hb, hml, ho, -⟩ := S
  intro T hT X
  rcases vx_callS X hx (bytes := bytes) (maxL := maxL) (ret := ret) ho hl hstt hini hcode hy hK hg (hsize.trans hml.symm) (argsL := As) (rest := rest) (fun sig h => hn.trans (hlen sig h)) hstack hW (by rw [hb]; exact hdg)
    (fun vm₁ hW₁ => ⟨hf.1, hf.2, hp.2 (T.setVm vm₁) hT hW₁⟩) with ⟨v, vm₁, ⟨U', l2, c2, s2⟩, hW₁, X', ⟨g', mk, t, L, e1, e2, hq, h1, hL, h2, h3⟩, st⟩ | ⟨q, vm₁, ⟨U', l2, c2, s2⟩, hW₁, X', ⟨g', mk, t, L, E, ce, e1, e2, hq, hce, hcv, hcl, h1, hL, h2, h3⟩, st⟩
  · dsimp only [Pt.U, Pt.locs, Pt.cells, Pt.slots] at X' e1 e2 h1 h2 h3 st
    subst h1; subst h2; subst h3
    exact Or.inl ⟨v, (T.setVm vm₁).calling g' mk As.toArray, t, U', L, hT, X', hL, e1, e2, hq, st⟩
  · dsimp only [Pt.U, Pt.locs, Pt.cells, Pt.slots] at X' e1 e2 h1 h2 h3 st hcl
    subst h1; subst h2; subst h3
    exact Or.inr ⟨q, (T.setVm vm₁).calling g' mk As.toArray, t, U', L, E, ce, hT, X', hL, e1, e2, hq, hce, hcv, vx_cls hW₁ hcl, st⟩
end Runs
section Rows
variable {p : Program} {l : Launch} {e : Env} {R : Room} {s : State} {m : MethodId} {args : Array Value} {below : List Frame} {meth : Method} {c : Code} {H : Heap} {locs : List Loc} {cells slots : Nat} {Q : State → Prop}
variable {mc ms : Nat} {free : Addr → Prop} {A0 A1 : Nat → Prop} {H0 : Heap} {a : Array Value} {pc : Nat} {ls : Array Slot} {st0 rest : List Value}
theorem vx_keep {st₀ t T' : State} {L : List Loc} (h0 : st₀.heap = H) (e1 : T'.heap = t.heap) (hS : va_S A0 H0 H locs) (hA : ∀ q, q < H.size → A1 q → A0 q) (hf : ∀ q, free q → A0 q) (hL : ∀ q ∈ L, free q.base) (hF : va_F A1 st₀ t) :
    H.size ≤ T'.heap.size ∧ (∀ q : Nat, q < H.size → ¬ A1 q → T'.heap[q]? = H[q]?) ∧ va_S A0 H0 T'.heap (locs ++ L) := by
  obtain ⟨hz, hk⟩ := hF
  rw [h0] at hz hk
  exact ⟨by rw [e1]; exact hz, fun q h1 h2 => by rw [e1]; exact hk q h1 h2,
    ⟨Nat.le_trans hS.1 (by rw [e1]; exact hz), fun q h1 h2 => by rw [e1, hk q (Nat.lt_of_lt_of_le h1 hS.1) (fun z => h2 (hA q (Nat.lt_of_lt_of_le h1 hS.1) z))]; exact hS.2.1 q h1 h2, fun q hq => by
      rcases List.mem_append.mp hq with h | h
      · exact hS.2.2 q h
      · exact hf _ (hL q h)⟩⟩
theorem vx_calli {S SX : Type} {post : Int32 → S → Prop} {px : SX → Prop} {B : S → State → Prop} {BX : String → SX → State → Prop} {AX : Nat → Prop} (hr : vx_Run p l e R s m args below meth c H locs cells slots mc ms (F0 m pc ls st0) rest (va_Qi post B A1 a) (vx_X px BX AX) free) (hS : va_S A0 H0 H locs) (hA : ∀ q, q < H.size → A1 q → A0 q) (hf : ∀ q, free q → A0 q) (hAX : ∀ q, q < H.size → AX q → A0 q)
    (kx : ∀ (E : String) (ce : Cell) (q9 : Addr) (u : SX) (t : State) (H1 : Heap) (locs1 : List Loc), t.heap = H1 → s.vm.Alike t.vm → px u → BX E u t → H.size ≤ H1.size → (∀ q : Nat, q < H.size → ¬ AX q → H1[q]? = H[q]?) → va_S A0 H0 H1 locs1 → H1[q9]? = some ce → ce.vm = .none → s.vm.findClass E = some ce.cls → vx_W p l e R s m args below meth c H1 locs1 (cells + mc) (slots + ms) Q (F0 m pc ls rest) q9)
    (kk : ∀ (r : Int32) (u : S) (t : State) (H1 : Heap) (locs1 : List Loc), t.heap = H1 → s.vm.Alike t.vm → post r u → B u t → H.size ≤ H1.size → (∀ q : Nat, q < H.size → ¬ A1 q → H1[q]? = H[q]?) → va_S A0 H0 H1 locs1 → W p l e R s m args below meth c H1 locs1 (cells + mc) (slots + ms) Q (F0 m (pc + 3) ls (.int r :: rest))) : W p l e R s m args below meth c H locs cells slots Q (F0 m pc ls st0) := by
  intro T hT X
  rcases hr T hT X with ⟨v, st₀, t, T', L, h0, X', hL, e1, e2, ⟨⟨r, u, hv, hp, hb⟩, hF⟩, st⟩ | ⟨q, st₀, t, T', L, E, ce, h0, X', hL, e1, e2, ⟨u, hp, hb, hF⟩, hce, hcv, hcl, st⟩
  · cases hv
    obtain ⟨k1, k2, k3⟩ := vx_keep h0 e1 hS hA hf hL hF
    obtain ⟨t2, a1, b1⟩ := kk r u t T'.heap (locs ++ L) e1.symm (by rw [← e2]; exact X'.warmed.alike) hp hb k1 k2 k3 T' rfl X'
    exact ⟨t2, st t2 a1, b1⟩
  · obtain ⟨k1, k2, k3⟩ := vx_keep h0 e1 hS hAX hf hL hF
    obtain ⟨t2, a1, b1⟩ := kx E ce q u t T'.heap (locs ++ L) e1.symm (by rw [← e2]; exact X'.warmed.alike) hp hb k1 k2 k3 (by rw [e1]; exact hce) hcv hcl T' rfl X'
    exact ⟨t2, st.trans a1, b1⟩
theorem vx_calll {S SX : Type} {post : Int64 → S → Prop} {px : SX → Prop} {B : S → State → Prop} {BX : String → SX → State → Prop} {AX : Nat → Prop} (hr : vx_Run p l e R s m args below meth c H locs cells slots mc ms (F0 m pc ls st0) rest (va_Ql post B A1 a) (vx_X px BX AX) free) (hS : va_S A0 H0 H locs) (hA : ∀ q, q < H.size → A1 q → A0 q) (hf : ∀ q, free q → A0 q) (hAX : ∀ q, q < H.size → AX q → A0 q)
    (kx : ∀ (E : String) (ce : Cell) (q9 : Addr) (u : SX) (t : State) (H1 : Heap) (locs1 : List Loc), t.heap = H1 → s.vm.Alike t.vm → px u → BX E u t → H.size ≤ H1.size → (∀ q : Nat, q < H.size → ¬ AX q → H1[q]? = H[q]?) → va_S A0 H0 H1 locs1 → H1[q9]? = some ce → ce.vm = .none → s.vm.findClass E = some ce.cls → vx_W p l e R s m args below meth c H1 locs1 (cells + mc) (slots + ms) Q (F0 m pc ls rest) q9)
    (kk : ∀ (r : Int64) (u : S) (t : State) (H1 : Heap) (locs1 : List Loc), t.heap = H1 → s.vm.Alike t.vm → post r u → B u t → H.size ≤ H1.size → (∀ q : Nat, q < H.size → ¬ A1 q → H1[q]? = H[q]?) → va_S A0 H0 H1 locs1 → W p l e R s m args below meth c H1 locs1 (cells + mc) (slots + ms) Q (F0 m (pc + 3) ls (.long r :: rest))) : W p l e R s m args below meth c H locs cells slots Q (F0 m pc ls st0) := by
  intro T hT X
  rcases hr T hT X with ⟨v, st₀, t, T', L, h0, X', hL, e1, e2, ⟨⟨r, u, hv, hp, hb⟩, hF⟩, st⟩ | ⟨q, st₀, t, T', L, E, ce, h0, X', hL, e1, e2, ⟨u, hp, hb, hF⟩, hce, hcv, hcl, st⟩
  · cases hv
    obtain ⟨k1, k2, k3⟩ := vx_keep h0 e1 hS hA hf hL hF
    obtain ⟨t2, a1, b1⟩ := kk r u t T'.heap (locs ++ L) e1.symm (by rw [← e2]; exact X'.warmed.alike) hp hb k1 k2 k3 T' rfl X'
    exact ⟨t2, st t2 a1, b1⟩
  · obtain ⟨k1, k2, k3⟩ := vx_keep h0 e1 hS hAX hf hL hF
    obtain ⟨t2, a1, b1⟩ := kx E ce q u t T'.heap (locs ++ L) e1.symm (by rw [← e2]; exact X'.warmed.alike) hp hb k1 k2 k3 (by rw [e1]; exact hce) hcv hcl T' rfl X'
    exact ⟨t2, st.trans a1, b1⟩
theorem vx_callf {S SX : Type} {post : UInt32 → S → Prop} {px : SX → Prop} {B : S → State → Prop} {BX : String → SX → State → Prop} {AX : Nat → Prop} (hr : vx_Run p l e R s m args below meth c H locs cells slots mc ms (F0 m pc ls st0) rest (va_Qf post B A1 a) (vx_X px BX AX) free) (hS : va_S A0 H0 H locs) (hA : ∀ q, q < H.size → A1 q → A0 q) (hf : ∀ q, free q → A0 q) (hAX : ∀ q, q < H.size → AX q → A0 q)
    (kx : ∀ (E : String) (ce : Cell) (q9 : Addr) (u : SX) (t : State) (H1 : Heap) (locs1 : List Loc), t.heap = H1 → s.vm.Alike t.vm → px u → BX E u t → H.size ≤ H1.size → (∀ q : Nat, q < H.size → ¬ AX q → H1[q]? = H[q]?) → va_S A0 H0 H1 locs1 → H1[q9]? = some ce → ce.vm = .none → s.vm.findClass E = some ce.cls → vx_W p l e R s m args below meth c H1 locs1 (cells + mc) (slots + ms) Q (F0 m pc ls rest) q9)
    (kk : ∀ (r : UInt32) (u : S) (t : State) (H1 : Heap) (locs1 : List Loc), t.heap = H1 → s.vm.Alike t.vm → post r u → B u t → H.size ≤ H1.size → (∀ q : Nat, q < H.size → ¬ A1 q → H1[q]? = H[q]?) → va_S A0 H0 H1 locs1 → W p l e R s m args below meth c H1 locs1 (cells + mc) (slots + ms) Q (F0 m (pc + 3) ls (.float r :: rest))) : W p l e R s m args below meth c H locs cells slots Q (F0 m pc ls st0) := by
  intro T hT X
  rcases hr T hT X with ⟨v, st₀, t, T', L, h0, X', hL, e1, e2, ⟨⟨r, u, hv, hp, hb⟩, hF⟩, st⟩ | ⟨q, st₀, t, T', L, E, ce, h0, X', hL, e1, e2, ⟨u, hp, hb, hF⟩, hce, hcv, hcl, st⟩
  · cases hv
    obtain ⟨k1, k2, k3⟩ := vx_keep h0 e1 hS hA hf hL hF
    obtain ⟨t2, a1, b1⟩ := kk r u t T'.heap (locs ++ L) e1.symm (by rw [← e2]; exact X'.warmed.alike) hp hb k1 k2 k3 T' rfl X'
    exact ⟨t2, st t2 a1, b1⟩
  · obtain ⟨k1, k2, k3⟩ := vx_keep h0 e1 hS hAX hf hL hF
    obtain ⟨t2, a1, b1⟩ := kx E ce q u t T'.heap (locs ++ L) e1.symm (by rw [← e2]; exact X'.warmed.alike) hp hb k1 k2 k3 (by rw [e1]; exact hce) hcv hcl T' rfl X'
    exact ⟨t2, st.trans a1, b1⟩
theorem vx_calld {S SX : Type} {post : UInt64 → S → Prop} {px : SX → Prop} {B : S → State → Prop} {BX : String → SX → State → Prop} {AX : Nat → Prop} (hr : vx_Run p l e R s m args below meth c H locs cells slots mc ms (F0 m pc ls st0) rest (va_Qd post B A1 a) (vx_X px BX AX) free) (hS : va_S A0 H0 H locs) (hA : ∀ q, q < H.size → A1 q → A0 q) (hf : ∀ q, free q → A0 q) (hAX : ∀ q, q < H.size → AX q → A0 q)
    (kx : ∀ (E : String) (ce : Cell) (q9 : Addr) (u : SX) (t : State) (H1 : Heap) (locs1 : List Loc), t.heap = H1 → s.vm.Alike t.vm → px u → BX E u t → H.size ≤ H1.size → (∀ q : Nat, q < H.size → ¬ AX q → H1[q]? = H[q]?) → va_S A0 H0 H1 locs1 → H1[q9]? = some ce → ce.vm = .none → s.vm.findClass E = some ce.cls → vx_W p l e R s m args below meth c H1 locs1 (cells + mc) (slots + ms) Q (F0 m pc ls rest) q9)
    (kk : ∀ (r : UInt64) (u : S) (t : State) (H1 : Heap) (locs1 : List Loc), t.heap = H1 → s.vm.Alike t.vm → post r u → B u t → H.size ≤ H1.size → (∀ q : Nat, q < H.size → ¬ A1 q → H1[q]? = H[q]?) → va_S A0 H0 H1 locs1 → W p l e R s m args below meth c H1 locs1 (cells + mc) (slots + ms) Q (F0 m (pc + 3) ls (.double r :: rest))) : W p l e R s m args below meth c H locs cells slots Q (F0 m pc ls st0) := by
  intro T hT X
  rcases hr T hT X with ⟨v, st₀, t, T', L, h0, X', hL, e1, e2, ⟨⟨r, u, hv, hp, hb⟩, hF⟩, st⟩ | ⟨q, st₀, t, T', L, E, ce, h0, X', hL, e1, e2, ⟨u, hp, hb, hF⟩, hce, hcv, hcl, st⟩
  · cases hv
    obtain ⟨k1, k2, k3⟩ := vx_keep h0 e1 hS hA hf hL hF
    obtain ⟨t2, a1, b1⟩ := kk r u t T'.heap (locs ++ L) e1.symm (by rw [← e2]; exact X'.warmed.alike) hp hb k1 k2 k3 T' rfl X'
    exact ⟨t2, st t2 a1, b1⟩
  · obtain ⟨k1, k2, k3⟩ := vx_keep h0 e1 hS hAX hf hL hF
    obtain ⟨t2, a1, b1⟩ := kx E ce q u t T'.heap (locs ++ L) e1.symm (by rw [← e2]; exact X'.warmed.alike) hp hb k1 k2 k3 (by rw [e1]; exact hce) hcv hcl T' rfl X'
    exact ⟨t2, st.trans a1, b1⟩
theorem vx_callv {S SX : Type} {post : S → Prop} {px : SX → Prop} {B : S → State → Prop} {BX : String → SX → State → Prop} {AX : Nat → Prop} (hr : vx_Run p l e R s m args below meth c H locs cells slots mc ms (F0 m pc ls st0) rest (va_Qv post B A1 a) (vx_X px BX AX) free) (hS : va_S A0 H0 H locs) (hA : ∀ q, q < H.size → A1 q → A0 q) (hf : ∀ q, free q → A0 q) (hAX : ∀ q, q < H.size → AX q → A0 q)
    (kx : ∀ (E : String) (ce : Cell) (q9 : Addr) (u : SX) (t : State) (H1 : Heap) (locs1 : List Loc), t.heap = H1 → s.vm.Alike t.vm → px u → BX E u t → H.size ≤ H1.size → (∀ q : Nat, q < H.size → ¬ AX q → H1[q]? = H[q]?) → va_S A0 H0 H1 locs1 → H1[q9]? = some ce → ce.vm = .none → s.vm.findClass E = some ce.cls → vx_W p l e R s m args below meth c H1 locs1 (cells + mc) (slots + ms) Q (F0 m pc ls rest) q9)
    (kk : ∀ (u : S) (t : State) (H1 : Heap) (locs1 : List Loc), t.heap = H1 → s.vm.Alike t.vm → post u → B u t → H.size ≤ H1.size → (∀ q : Nat, q < H.size → ¬ A1 q → H1[q]? = H[q]?) → va_S A0 H0 H1 locs1 → W p l e R s m args below meth c H1 locs1 (cells + mc) (slots + ms) Q (F0 m (pc + 3) ls (rest))) : W p l e R s m args below meth c H locs cells slots Q (F0 m pc ls st0) := by
  intro T hT X
  rcases hr T hT X with ⟨v, st₀, t, T', L, h0, X', hL, e1, e2, ⟨⟨u, hv, hp, hb⟩, hF⟩, st⟩ | ⟨q, st₀, t, T', L, E, ce, h0, X', hL, e1, e2, ⟨u, hp, hb, hF⟩, hce, hcv, hcl, st⟩
  · cases hv
    obtain ⟨k1, k2, k3⟩ := vx_keep h0 e1 hS hA hf hL hF
    obtain ⟨t2, a1, b1⟩ := kk u t T'.heap (locs ++ L) e1.symm (by rw [← e2]; exact X'.warmed.alike) hp hb k1 k2 k3 T' rfl X'
    exact ⟨t2, st t2 a1, b1⟩
  · obtain ⟨k1, k2, k3⟩ := vx_keep h0 e1 hS hAX hf hL hF
    obtain ⟨t2, a1, b1⟩ := kx E ce q u t T'.heap (locs ++ L) e1.symm (by rw [← e2]; exact X'.warmed.alike) hp hb k1 k2 k3 (by rw [e1]; exact hce) hcv hcl T' rfl X'
    exact ⟨t2, st.trans a1, b1⟩
/-- caught by the row x of this method's table; the rows ahead don't take it -/
theorem vx_catch {own name : String} {E : String} {ce : Cell} {q : Addr} (hown : s.vm.findClass own = some m.cls) (pre : List ExceptionTableEntry) (x : ExceptionTableEntry) (suf : List ExceptionTableEntry) (hsplit : c.exceptionTable.toList = pre ++ x :: suf)
    (hpass : ∀ z ∈ pre, covers z pc = false ∨ (z.catchType ≠ 0 ∧ ∃ nm : String, (Cond.classLink own z.catchType nm).before args s = true ∧ va_Nc E nm s)) (hx : covers x pc = true) (h0 : x.catchType ≠ 0)
    (hlink : (Cond.classLink own x.catchType name).before args s = true) (hcast : (Cond.castable E name).before args s = true) (hcell : H[q]? = some ce) (hv : ce.vm = .none) (hcl : s.vm.findClass E = some ce.cls)
    (kk : W p l e R s m args below meth c H locs cells slots Q (F0 m x.handlerPc ls [.ref q])) : vx_W p l e R s m args below meth c H locs cells slots Q (F0 m pc ls rest) q := by
  intro T hT X
  have hpl : e.platform.magicAccessors = ({} : Platform).magicAccessors := by rw [X.admits.platform]
  obtain ⟨c3, c4, hc3, hc4, hasg⟩ := Cond.castable_spec hcast
  cases Option.some.inj (hc3.symm.trans hcl)
  obtain ⟨c5, hc5, hcl5⟩ := Cond.classLink_spec hown hlink e.platform hpl
  cases Option.some.inj (hc4.symm.trans hc5)
  obtain ⟨vm', X', st⟩ := X.thenCaughtThrough q (g := F0 m pc ls rest) rfl (Steps.refl _) (by rw [hT]; exact hcell) (by rw [hv]; rfl) (by obtain ⟨k9, h9, -⟩ := Vm.findClass_spec hcl; exact ⟨k9, h9⟩) pre x suf hsplit
    (fun z hz => by
      rcases hpass z hz with h | ⟨hz0, nm, hl1, hn1⟩
      · exact Or.inl h
      · obtain ⟨c6, hc6, hcl6⟩ := Cond.classLink_spec hown hl1 e.platform hpl
        obtain ⟨a8, b8, h1, h2, h3⟩ := hn1
        cases Option.some.inj (h1.symm.trans hcl)
        cases Option.some.inj (h2.symm.trans hc6)
        exact Or.inr ⟨hz0, _, hcl6, h3⟩) hx (Or.inr ⟨h0, c4, hcl5, hasg⟩)
  obtain ⟨t, a1, b1⟩ := kk (T.setVm vm') hT X'
  exact ⟨t, st.trans a1, b1⟩
end Rows
section Ends
variable {p : Program} {l : Launch} {e : Env} {R : Room} {s : State} {m : MethodId} {args : Array Value} {below : List Frame} {meth : Method} {c : Code} {H : Heap} {locs : List Loc} {cells slots : Nat} {Q : State → Prop}
variable {mc ms : Nat} {free : Addr → Prop} {A0 A1 : Nat → Prop} {H0 : Heap} {a : Array Value} {ls : Array Slot} {st0 rest : List Value}
variable {Qc : Array Value → State → Outcome → State → Prop} {XC : String → State → State → Prop}
/-- what a body that may throw owes at its end -/
def vx_MQ (below : List Frame) (Qc : Array Value → State → Outcome → State → Prop) (XC : String → State → State → Prop) (a : Array Value) (s : State) (mc ms : Nat) (free : Addr → Prop) : State → Prop := fun t =>
  ∃ o, t.status = .running ∧ Ended t below o ∧ vx_Q Qc XC mc ms free a s o t
theorem vx_ret {g : JFrame} {mc ms : Nat} (k : W p l e R s m args below meth c H locs cells slots (MQ below Qc args s mc ms free) g) : W p l e R s m args below meth c H locs cells slots (vx_MQ below Qc XC args s mc ms free) g := by
  intro T hT X
  obtain ⟨t, a1, o, b1, b2, b3, b4⟩ := k T hT X
  exact ⟨t, a1, o, b1, b2, Or.inl ⟨b3, b4⟩⟩
/-- not caught here: it goes on to the caller -/
theorem vx_widen {g : JFrame} {q : Addr} {k n : Nat} (h1 : cells ≤ k) (h2 : slots ≤ n) (kk : vx_W p l e R s m args below meth c H locs k n Q g q) : vx_W p l e R s m args below meth c H locs cells slots Q g q := fun T hT X => kk T hT (stand_widen X h1 h2)
theorem vx_out {pc : Nat} {E : String} {ce : Cell} {q : Addr} {mc ms : Nat} (hout : ∀ x ∈ c.exceptionTable.toList, covers x pc = false) (hlocks : meth.locks = false) (hcell : H[q]? = some ce) (hv : ce.vm = .none) (hcl : s.vm.findClass E = some ce.cls)
    (hx : ∀ t : State, t.heap = H → s.vm.Alike t.vm → XC E s t) (hf : ∀ z ∈ locs, free z.base) (hc : cells ≤ mc) (hs : slots ≤ ms) :
    vx_W p l e R s m args below meth c H locs cells slots (vx_MQ below Qc XC args s mc ms free) (F0 m pc ls rest) q := by
  intro T hT X
  obtain ⟨st1, hrun, hend, hW, hsm⟩ := X.leaveThrown q (g := F0 m pc ls rest) rfl rfl rfl hout hlocks
  have hcell9 : (T.setFrames (.throwing q :: below)).heap[q]? = some ce := by
    show T.heap[q]? = some ce
    rw [hT]; exact hcell
  exact ⟨_, st1, .threw q, hrun, hend, Or.inr ⟨q, rfl, E, ce, locs, hx _ hT hW.alike, hcell9, hv, hcl, hW, hsm.mono hc hs, hf⟩⟩
theorem vx_frame {U : State} {k n : Nat} (h : s.sameButNew ({ U with vm := s.vm } : State) locs k n) : s.heap.size ≤ U.heap.size ∧ ∀ q : Nat, q < s.heap.size → (∀ z ∈ locs, z.base ≠ q) → U.heap[q]? = s.heap[q]? := by
  obtain ⟨-, h2, -, -, -, h6⟩ := h
  refine ⟨h2, fun q hq hz => ?_⟩
  obtain ⟨c9, e1, e2, e3, e4⟩ := h6 q _ (Array.getElem?_eq_getElem hq)
  have hs : c9.slots = (s.heap[q]).slots := Array.ext_getElem? fun i => e4 i fun hm => hz _ hm rfl
  have h9 : c9 = s.heap[q] := by
    rw [hs] at e2
    exact e2
  have e5 : U.heap[q]? = some c9 := e1
  rw [e5, h9, Array.getElem?_eq_getElem hq]
/-- the words of a throw but the four that speak of the heap -/
def vx_no (w : Cond) : Bool := decide (w ≠ .isRef (.static Bundle.tN "UNASSIGNED_STACK" Bundle.steD)) && decide (w ≠ .isRef (.static Bundle.tN "SUPPRESSED_SENTINEL" Bundle.listD)) && decide (w ≠ .laysStatic Bundle.tN "UNASSIGNED_STACK" Bundle.steD) && decide (w ≠ .laysStatic Bundle.tN "SUPPRESSED_SENTINEL" Bundle.listD)
def vx_at0 (own : String) (ic : Nat) (X : String) (names : List String) : List Cond := (Bundle.ownAtoms0 own ic X names).filter vx_no
def vx_atS (own : String) (ic : Nat) (X : String) (names : List String) : List Cond := (Bundle.ownAtoms own ic X names).filter vx_no
/-- a word that the tables alone decide, or a good one -/
def vx_ot (w : Cond) : Bool := w.onTables || goodWord w
theorem vx_ot_at {args a' : Array Value} {s U : State} {w : Cond} (hW : s.WarmedH U.vm) (hvm : s.vm = U.vm) (hg : vx_ot w = true) (h : w.before args s = true) : w.before a' U = true := by
  simp only [vx_ot, Bool.or_eq_true] at hg
  rcases hg with hg | hg
  · exact va_tabs hg hvm h
  · exact word_at hW (good_of_word hg) h
/-- a list's words: the good ones out of the method's own list, the others by premises of their own -/
theorem vx_hat {args : Array Value} {s : State} {L B : List Cond} (h1 : ∀ w ∈ L.filter goodWord, w.before args s = true) (h2 : ∀ w ∈ L.filter (fun w => !goodWord w), w ∈ B) (h3 : ∀ w ∈ B, w.before args s = true) : ∀ w ∈ L, w.before args s = true := by
  intro w hw
  by_cases g : goodWord w = true
  · exact h1 w (List.mem_filter.mpr ⟨hw, g⟩)
  · refine h3 w (h2 w (List.mem_filter.mpr ⟨hw, ?_⟩))
    show (!goodWord w) = true
    cases hgw : goodWord w
    · rfl
    · exact absurd hgw g
theorem vx_c {args : Array Value} {s : State} {w : Cond} {B : List Cond} (h : w.before args s = true) (t : ∀ w ∈ B, w.before args s = true) : ∀ w' ∈ w :: B, w'.before args s = true := fun w' h' => (List.mem_cons.mp h').elim (fun e => by rw [e]; exact h) (t w')
theorem vx_n {args : Array Value} {s : State} : ∀ w ∈ ([] : List Cond), w.before args s = true := fun _ h => nomatch h
theorem vx_own {args : Array Value} {s : State} {L : List Cond} (h1 : ∀ w ∈ L.filter vx_no, w.before args s = true)
    (hU : (Cond.isRef (.static Bundle.tN "UNASSIGNED_STACK" Bundle.steD)).before args s = true) (hN : (Cond.isRef (.static Bundle.tN "SUPPRESSED_SENTINEL" Bundle.listD)).before args s = true)
    (lU : (Cond.laysStatic Bundle.tN "UNASSIGNED_STACK" Bundle.steD).before args s = true) (lN : (Cond.laysStatic Bundle.tN "SUPPRESSED_SENTINEL" Bundle.listD).before args s = true) : ∀ w ∈ L, w.before args s = true := by
  intro w hw
  by_cases e1 : w = .isRef (.static Bundle.tN "UNASSIGNED_STACK" Bundle.steD)
  · rw [e1]; exact hU
  · by_cases e2 : w = .isRef (.static Bundle.tN "SUPPRESSED_SENTINEL" Bundle.listD)
    · rw [e2]; exact hN
    · by_cases e3 : w = .laysStatic Bundle.tN "UNASSIGNED_STACK" Bundle.steD
      · rw [e3]; exact lU
      · by_cases e4 : w = .laysStatic Bundle.tN "SUPPRESSED_SENTINEL" Bundle.listD
        · rw [e4]; exact lN
        · exact h1 w (List.mem_filter.mpr ⟨hw, by unfold vx_no; rw [decide_eq_true e1, decide_eq_true e2, decide_eq_true e3, decide_eq_true e4]; rfl⟩)
/-- where a static field lies, its class's statics cell in H -/
def vx_L (C n d : String) (A : Nat → Prop) (U : State) (H : Heap) : Prop := ∃ (c : ClassId) (k : Class) (i : Nat) (f : Field) (a : Nat) (cell : Cell), U.vm.findClass C = some c ∧ U.fieldFound? C n d = some (c, k, i, f) ∧ f.isStatic = true ∧ k.statics = some a ∧ H[a]? = some cell ∧ cell.vm.isStatics = true ∧ cell.cls = c ∧ f.slot < cell.slots.size ∧ k.staticTypes[f.slot]? = some f.type ∧ ¬ A a
theorem vx_L.moved {C n d : String} {A : Nat → Prop} {u U : State} {H : Heap} (hvm : u.vm.Alike U.vm) (h : vx_L C n d A u H) : vx_L C n d A U H := by
  obtain ⟨c, k, i, f, a, cell, h1, h2, h3, h4, h5, h6, h7, h8, h9, h10⟩ := h
  obtain ⟨k', hi', he⟩ := State.fieldFound?_setVm hvm h2
  exact ⟨c, k', i, f, a, cell, by rw [hvm.findClass]; exact h1, hi', h3, by rw [he]; exact h4, h5, h6, h7, h8, by rw [he]; exact h9, h10⟩
theorem vx_L.kept {C n d : String} {A : Nat → Prop} {U : State} {H H1 : Heap} (h : vx_L C n d A U H) (hq : ∀ a : Nat, a < H.size → ¬ A a → H1[a]? = H[a]?) : vx_L C n d A U H1 := by
  obtain ⟨c, k, i, f, a, cell, h1, h2, h3, h4, h5, h6, h7, h8, h9, h10⟩ := h
  exact ⟨c, k, i, f, a, cell, h1, h2, h3, h4, by rw [hq a (Array.getElem?_eq_some_iff.mp h5).1 h10]; exact h5, h6, h7, h8, h9, h10⟩
theorem vx_L.narrow {C n d : String} {A B : Nat → Prop} {U : State} {H : Heap} (h : vx_L C n d A U H) (hAB : ∀ q, B q → A q) : vx_L C n d B U H := by
  obtain ⟨c, k, i, f, a, cell, h1, h2, h3, h4, h5, h6, h7, h8, h9, h10⟩ := h
  exact ⟨c, k, i, f, a, cell, h1, h2, h3, h4, h5, h6, h7, h8, h9, fun z => h10 (hAB _ z)⟩
theorem vx_L.word {C n d : String} {A : Nat → Prop} {s : State} {args : Array Value} (h : vx_L C n d A s s.heap) : (Cond.laysStatic C n d).before args s = true := by
  obtain ⟨c, k, i, f, a, cell, h1, h2, h3, h4, h5, h6, h7, h8, h9, -⟩ := h
  show (Cond.laysStatic C n d).holds args s none s [] = true
  exact Cond.laysStatic_of h1 h2 h3 h4 h5 h6 h7 h8 h9
/-- .. and what it holds: null or some reference -/
def vx_Zq (C n d : String) (A : Nat → Prop) (U : State) (H : Heap) : Prop := va_Zq C n d A U H ∧ vx_L C n d A U H
theorem vx_Zq.moved {C n d : String} {A : Nat → Prop} {u U : State} {H : Heap} (hvm : u.vm.Alike U.vm) (h : vx_Zq C n d A u H) : vx_Zq C n d A U H := ⟨va_Zq.moved hvm h.1, vx_L.moved hvm h.2⟩
theorem vx_Zq.kept {C n d : String} {A : Nat → Prop} {U : State} {H H1 : Heap} (h : vx_Zq C n d A U H) (hq : ∀ a : Nat, a < H.size → ¬ A a → H1[a]? = H[a]?) : vx_Zq C n d A U H1 := ⟨va_Zq.kept h.1 hq, vx_L.kept h.2 hq⟩
theorem vx_Zq.narrow {C n d : String} {A B : Nat → Prop} {U : State} {H : Heap} (h : vx_Zq C n d A U H) (hAB : ∀ q, B q → A q) : vx_Zq C n d B U H := ⟨va_Zq.narrow h.1 hAB, vx_L.narrow h.2 hAB⟩
theorem vx_Zqof {args : Array Value} {s : State} {C n d : String} {A : Nat → Prop} (hl : (Cond.laysStatic C n d).before args s = true) (hini : (Cond.initialized C).before args s = true) (h : (Cond.isRef (.static C n d)).before args s = true) (hA : ∀ a : Nat, a < s.heap.size → ¬ A a) : vx_Zq C n d A s s.heap := by
  refine ⟨va_Zqof hl hini h hA, ?_⟩
  obtain ⟨c, k, i, f, a, cell, h1, h2, h3, h4, h5, h6, h7, h8, h9⟩ := Cond.laysStatic_spec hl
  exact ⟨c, k, i, f, a, cell, h1, h2, h3, h4, h5, h6, h7, h8, h9, hA a (Array.getElem?_eq_some_iff.mp h5).1⟩
theorem vx_isRef {C n d : String} {v : Value} {A : Nat → Prop} {s : State} {args : Array Value} (h : va_Z C n d v A s s.heap) (hv : v.isRef = true) : (Cond.isRef (.static C n d)).before args s = true := by
  obtain ⟨cf, kf, fi, f, a, cell, h1, h2, h3, h4, h5, h6, h7, -⟩ := h
  have he : (Term.static C n d).eval args s none [] s = some v := by
    simp [Term.eval, State.fieldNamed?, h1, h2, h4, h5, h6, h7]
  simp only [Cond.before, Cond.holds, Cond.value, he]
  cases v <;> simp_all [Value.isRef]
theorem vx_isRefq {C n d : String} {A : Nat → Prop} {s : State} {args : Array Value} (h : va_Zq C n d A s s.heap) : (Cond.isRef (.static C n d)).before args s = true := by
  rcases h with h | ⟨t, h⟩
  · exact vx_isRef h rfl
  · exact vx_isRef h rfl
/-- the same frame, seen from here: as if the method were called anew in this heap -/
theorem vx_rebase {T : State} (X : Stand p l e R s m args below meth c T locs cells slots) {R' : Room} (hf : R'.frames ≤ R.frames) (hl : R'.locals ≤ R.locals) (hc : cells + R'.cells ≤ R.cells) (hs : slots + R'.slots ≤ R.slots) :
    Stand p l e R' ((T.setVm s.vm).setFrames (.invoking m args :: below)) m args below meth c T [] 0 0 := by
  have htop : (T.setVm s.vm).topJava?.isSome := X.here.top
  have hF : ((T.setVm s.vm).setFrames (.invoking m args :: below)).frames = .invoking m args :: below := State.frames_setFrames _ (State.cur_lt_of_top htop)
  obtain ⟨g₀, hg0⟩ := Option.isSome_iff_exists.mp htop
  obtain ⟨r, hr⟩ := State.topJava?_eq_some.mp hg0
  have hl9 : e.platform.stackLimits (T.setVm s.vm).me = e.platform.stackLimits s.me := X.limits
  have hb9 : (T.setVm s.vm).me.stackBytes = s.me.stackBytes := X.bytes
  refine ⟨X.admits, X.cas, X.clock, hF, ?_, X.hears, X.method, X.code, X.here, X.tail, X.warmed, ?_, ?_, ?_⟩
  · have h := X.room
    have hU : ((T.setVm s.vm).setFrames (.invoking m args :: below)).localsInUse = s.localsInUse := by
      rw [State.localsInUse_invoking hF (meth := meth) (c := c) X.method X.code, State.localsInUse_invoking X.frames X.method X.code]
    simp only [State.hasRoom, Bool.and_eq_true, decide_eq_true_eq] at h ⊢
    obtain ⟨⟨⟨⟨h1, h2, h3, h4, h5, h6⟩, h7⟩, h8⟩, h9⟩ := h
    rw [X.frames, List.length_cons] at h2 h3
    have q1 := X.heapSize
    have q2 := X.used
    simp only [hF, hU, List.length_cons, State.stackLimits_setFrames, State.stackBytes_setFrames, hl9, hb9]
    refine ⟨⟨⟨⟨by omega, by omega, by omega, by omega, by omega, h6⟩, ?_⟩, ?_⟩, X.book⟩
    · show T.heap.size + R'.cells ≤ e.platform.maxCells
      omega
    · show T.slotsUsed + R'.slots ≤ e.platform.maxSlots
      omega
  · rw [State.stackLimits_setFrames]; rfl
  · rw [State.stackBytes_setFrames]; rfl
  · refine ⟨?_, Nat.le_refl _, Nat.le_refl _, ?_, ?_, fun a c9 h9 => ⟨c9, h9, rfl, rfl, fun _ _ => rfl⟩⟩
    · obtain ⟨t, ht, -⟩ := State.frames_cons hr
      show T.setVm s.vm = { ((T.setVm s.vm).setFrames (.invoking m args :: below)).setFrames (T.setVm s.vm).frames with heap := T.heap, slotsUsed := T.slotsUsed }
      rw [State.setFrames_setFrames, State.setFrames_self ht]
      rfl
    · show T.slotsUsed = T.slotsUsed + ((T.heap.toList.drop T.heap.size).map (·.slots.size)).sum
      rw [List.drop_eq_nil_of_le (Nat.le_of_eq Array.length_toList)]
      rfl
    · show ((T.heap.toList.drop T.heap.size).map (·.slots.size)).sum ≤ 0
      rw [List.drop_eq_nil_of_le (Nat.le_of_eq Array.length_toList)]
      exact Nat.le_refl _
/-- 'throw new E()': new; dup; invokespecial; athrow -/
theorem vx_throw0 {cc : ByteArray} {pc : Nat} (hexec : p.tables.exec = Jvm.exec) (hb : c.code = cc) (hl : l.stackTraces = false) {own cls : String} {names : List String} {ik ic mc ms : Nat} {A : Nat → Prop}
    (hown : s.vm.findClass own = some m.cls) (hcls : Bundle.fit cls = true) (hnames : ∀ n ∈ names, Bundle.fit n = true)
    (hk : (Cond.classLink own ik cls).before args s = true) (hini : (Cond.initialized cls).before args s = true) (hat : ∀ w ∈ vx_at0 own ic cls names, w.before args s = true)
    (hgood : ∀ w ∈ Cond.classLink own ik cls :: Cond.initialized cls :: vx_at0 own ic cls names, vx_ot w = true)
    (hU : vx_Zq Bundle.tN "UNASSIGNED_STACK" Bundle.steD A s s.heap) (hN : vx_Zq Bundle.tN "SUPPRESSED_SENTINEL" Bundle.listD A s s.heap) (hS : va_S A s.heap H locs) (hsize : ls.size = c.maxLocals)
    (d0 : decode cc pc = .ok (.new ik, 3)) (d3 : decode cc (pc + 3) = .ok (.dup, 1)) (d4 : decode cc (pc + 4) = .ok (.invokespecial ic, 3)) (d7 : decode cc (pc + 7) = .ok (.athrow, 1))
    (hout : ∀ x ∈ c.exceptionTable.toList, covers x (pc + 7) = false)
    (hRframes : names.length + 3 < R.frames) (hRlocals : (rest.map fun v => v.category).sum + (13 * (names.length + 1) + 42) ≤ R.locals) (hRcells : cells + 1 ≤ R.cells) (hRslots : slots + 6 ≤ R.slots) (hlocks : meth.locks = false)
    (hx : ∀ t : State, s.vm.Alike t.vm → H.size ≤ t.heap.size → (∀ q : Nat, q < H.size → t.heap[q]? = H[q]?) → XC cls s t)
    (hf : ∀ z ∈ locs, free z.base) (hc : cells + 1 ≤ mc) (hs : slots + 6 ≤ ms) :
    W p l e R s m args below meth c H locs cells slots (vx_MQ below Qc XC args s mc ms free) (F0 m pc ls rest) := by
  intro T hT X
  have htr : e.platform.stackTraces = false := (show e.platform.stackTraces = l.stackTraces by rw [X.admits.platform]).trans hl
  have Y := vx_rebase X (R' := { frames := R.frames, locals := R.locals, cells := 1, slots := 6 }) (Nat.le_refl _) (Nat.le_refl _) hRcells hRslots
  obtain ⟨s', hA⟩ : ∃ z, z = (T.setVm s.vm).setFrames (.invoking m args :: below) := ⟨_, rfl⟩
  rw [← hA] at Y
  have hvm : s'.vm = s.vm := by rw [hA]; rfl
  have hhp : s'.heap = H := by rw [hA]; exact hT
  have hW0 : s.WarmedH s'.vm := by rw [hvm]; exact State.WarmedH.refl s
  have hat' : ∀ w ∈ vx_at0 own ic cls names, w.before args s' = true := fun w hw => vx_ot_at hW0 hvm.symm (hgood w (List.mem_cons_of_mem _ (List.mem_cons_of_mem _ hw))) (hat w hw)
  have hk' : (Cond.classLink own ik cls).before args s' = true := vx_ot_at hW0 hvm.symm (hgood _ List.mem_cons_self) hk
  have hini' : (Cond.initialized cls).before args s' = true := vx_ot_at hW0 hvm.symm (hgood _ (List.mem_cons_of_mem _ List.mem_cons_self)) hini
  have hU' : vx_Zq Bundle.tN "UNASSIGNED_STACK" Bundle.steD A s' s'.heap := by rw [hhp]; exact vx_Zq.moved hW0.alike (hU.kept hS.2.1)
  have hN' : vx_Zq Bundle.tN "SUPPRESSED_SENTINEL" Bundle.listD A s' s'.heap := by rw [hhp]; exact vx_Zq.moved hW0.alike (hN.kept hS.2.1)
  have h : ∀ w ∈ Bundle.ownAtoms0 own ic cls names, w.before args s' = true := vx_own hat' (vx_isRefq hU'.1) (vx_isRefq hN'.1) hU'.2.word hN'.2.word
  have hown' : s'.vm.findClass own = some m.cls := by rw [hvm]; exact hown
  have hins : (Cond.instantiable cls 6).before args s' = true := h _ (by simp [Bundle.ownAtoms0])
  obtain ⟨vm₁, cX, kX, hfX, hkX, -, -, X₁, st1⟩ := Y.newCold hexec (own := own) (C := cls) (index := ik) (n := 6) hown' hk' hins hini'
    (g := F0 m pc ls rest) rfl (by rw [hb]; exact d0) (Nat.le_refl _) (Nat.le_refl _)
  generalize hT1 : (T.setVm vm₁).pushCell { cls := cX, slots := kX.instanceTypes.map defaultValue, vm := .none } = T1 at X₁ st1
  have hcat : (Value.ref T.heap.size).category = 1 := rfl
  have hcellA : T1.heap[T.heap.size]? = some (freshCell cX kX) := by rw [← hT1]; exact State.heap_pushCell_size _ _
  have d3' : decode c.code (pc + 3) = .ok (.dup, 1) := by rw [hb]; exact d3
  obtain ⟨U, hsteps, hrun, hend, hW, hsame, ce, hce, hO⟩ := X₁.ctorThrow0 hexec htr (own := own) (cls := cls) (names := names) (ic := ic) hown' hcls hnames h (fun x hx => nomatch hx) hfX hkX hcellA (by rw [hhp, hT]; exact Nat.le_refl _)
    (g := { method := m, pc := pc + 4, locals := ls, stack := .ref T.heap.size :: .ref T.heap.size :: rest, locked := none }) rfl hsize rfl rfl (rest := rest) rfl
    (by rw [hb]; exact d4) (by rw [hb]; exact d7) hout hRframes (by simp only [List.map_cons, List.sum_cons, hcat]; omega) hlocks
  obtain ⟨f1, f2⟩ := vx_frame hsame
  rw [hhp] at f1 f2
  have hWs : s.WarmedH U.vm := State.WarmedH.trans hW0 hW
  have hcl : s.vm.findClass cls = some ce.cls := by
    have h9 := hO.cls
    rw [hvm] at h9
    exact h9
  have hall : s.sameButNew ({ U with vm := s.vm } : State) locs mc ms := by
    subst hA
    obtain ⟨e1, e2⟩ := hsame
    rw [State.setFrames_setFrames] at e1
    have h2 : (T.setVm s.vm).sameButNew ({ U with vm := s.vm } : State) [] (0 + 1) (0 + 6) := ⟨e1, e2⟩
    have h3 := X.same.trans h2
    rw [List.append_nil] at h3
    exact h3.mono hc hs
  refine ⟨U, ?_, .threw T.heap.size, hrun, hend, Or.inr ⟨T.heap.size, rfl, cls, ce, locs, hx U hWs.alike f1 (fun q hq => f2 q hq (fun z hz => nomatch hz)), hce, hO.vm, hcl, hWs, hall, hf⟩⟩
  refine st1 _ ?_
  show Steps p.tables e below (T1.setTop { method := m, pc := pc + 3, locals := ls, stack := .ref T.heap.size :: rest, locked := none }) _
  jvm_step X₁.here [X₁.here.top, hexec, d3', Value.category]
  exact hsteps
/-- 'throw new E("text")': new; dup; ldc; invokespecial; athrow -/
theorem vx_throwS {cc : ByteArray} {pc : Nat} (hexec : p.tables.exec = Jvm.exec) (hb : c.code = cc) (hl : l.stackTraces = false) {own cls text : String} {names : List String} {ik is ic mc ms sa : Nat} {A : Nat → Prop}
    (hown : s.vm.findClass own = some m.cls) (hcls : Bundle.fit cls = true) (hnames : ∀ n ∈ names, Bundle.fit n = true)
    (hk : (Cond.classLink own ik cls).before args s = true) (hini : (Cond.initialized cls).before args s = true) (hstr : vk_R own is text sa s) (hat : ∀ w ∈ vx_atS own ic cls names, w.before args s = true)
    (hgood : ∀ w ∈ Cond.classLink own ik cls :: Cond.initialized cls :: vx_atS own ic cls names, vx_ot w = true)
    (hU : vx_Zq Bundle.tN "UNASSIGNED_STACK" Bundle.steD A s s.heap) (hN : vx_Zq Bundle.tN "SUPPRESSED_SENTINEL" Bundle.listD A s s.heap) (hS : va_S A s.heap H locs) (hsize : ls.size = c.maxLocals)
    (d0 : decode cc pc = .ok (.new ik, 3)) (d3 : decode cc (pc + 3) = .ok (.dup, 1)) (d4 : decode cc (pc + 4) = .ok (.ldc is, 2)) (d6 : decode cc (pc + 6) = .ok (.invokespecial ic, 3)) (d9 : decode cc (pc + 9) = .ok (.athrow, 1))
    (hout : ∀ x ∈ c.exceptionTable.toList, covers x (pc + 9) = false)
    (hRframes : names.length + 3 < R.frames) (hRlocals : (rest.map fun v => v.category).sum + (13 * (names.length + 1) + 43) ≤ R.locals) (hRcells : cells + 1 ≤ R.cells) (hRslots : slots + 6 ≤ R.slots) (hlocks : meth.locks = false)
    (hx : ∀ t : State, s.vm.Alike t.vm → H.size ≤ t.heap.size → (∀ q : Nat, q < H.size → t.heap[q]? = H[q]?) → XC cls s t)
    (hf : ∀ z ∈ locs, free z.base) (hc : cells + 1 ≤ mc) (hs : slots + 6 ≤ ms) :
    W p l e R s m args below meth c H locs cells slots (vx_MQ below Qc XC args s mc ms free) (F0 m pc ls rest) := by
  intro T hT X
  have htr : e.platform.stackTraces = false := (show e.platform.stackTraces = l.stackTraces by rw [X.admits.platform]).trans hl
  have Y := vx_rebase X (R' := { frames := R.frames, locals := R.locals, cells := 1, slots := 6 }) (Nat.le_refl _) (Nat.le_refl _) hRcells hRslots
  obtain ⟨s', hA⟩ : ∃ z, z = (T.setVm s.vm).setFrames (.invoking m args :: below) := ⟨_, rfl⟩
  rw [← hA] at Y
  have hvm : s'.vm = s.vm := by rw [hA]; rfl
  have hhp : s'.heap = H := by rw [hA]; exact hT
  have hW0 : s.WarmedH s'.vm := by rw [hvm]; exact State.WarmedH.refl s
  have hat' : ∀ w ∈ vx_atS own ic cls names, w.before args s' = true := fun w hw => vx_ot_at hW0 hvm.symm (hgood w (List.mem_cons_of_mem _ (List.mem_cons_of_mem _ hw))) (hat w hw)
  have hk' : (Cond.classLink own ik cls).before args s' = true := vx_ot_at hW0 hvm.symm (hgood _ List.mem_cons_self) hk
  have hini' : (Cond.initialized cls).before args s' = true := vx_ot_at hW0 hvm.symm (hgood _ (List.mem_cons_of_mem _ List.mem_cons_self)) hini
  have hU' : vx_Zq Bundle.tN "UNASSIGNED_STACK" Bundle.steD A s' s'.heap := by rw [hhp]; exact vx_Zq.moved hW0.alike (hU.kept hS.2.1)
  have hN' : vx_Zq Bundle.tN "SUPPRESSED_SENTINEL" Bundle.listD A s' s'.heap := by rw [hhp]; exact vx_Zq.moved hW0.alike (hN.kept hS.2.1)
  have h : ∀ w ∈ Bundle.ownAtoms own ic cls names, w.before args s' = true := vx_own hat' (vx_isRefq hU'.1) (vx_isRefq hN'.1) hU'.2.word hN'.2.word
  have hown' : s'.vm.findClass own = some m.cls := by rw [hvm]; exact hown
  have hins : (Cond.instantiable cls 6).before args s' = true := h _ (by simp [Bundle.ownAtoms])
  obtain ⟨vm₁, cX, kX, hfX, hkX, -, -, X₁, st1⟩ := Y.newCold hexec (own := own) (C := cls) (index := ik) (n := 6) hown' hk' hins hini'
    (g := F0 m pc ls rest) rfl (by rw [hb]; exact d0) (Nat.le_refl _) (Nat.le_refl _)
  generalize hT1 : (T.setVm vm₁).pushCell { cls := cX, slots := kX.instanceTypes.map defaultValue, vm := .none } = T1 at X₁ st1
  have hcat : (Value.ref T.heap.size).category = 1 := rfl
  have hcellA : T1.heap[T.heap.size]? = some (freshCell cX kX) := by rw [← hT1]; exact State.heap_pushCell_size _ _
  have d3' : decode c.code (pc + 3) = .ok (.dup, 1) := by rw [hb]; exact d3
  have d4' : decode c.code (pc + 4) = .ok (.ldc is, 2) := by rw [hb]; exact d4
  have hstr' : vk_R own is text sa s' := vk_R.warm hW0 hstr
  obtain ⟨U, hsteps, hrun, hend, hW, hsame, ce, hce, hO⟩ := X₁.ctorThrowS hexec htr (own := own) (cls := cls) (names := names) (ic := ic) hown' hcls hnames h (fun x hx => nomatch hx) hfX hkX hcellA (by rw [hhp, hT]; exact Nat.le_refl _) (msg := .ref sa) rfl
    (g := { method := m, pc := pc + 6, locals := ls, stack := .ref sa :: .ref T.heap.size :: .ref T.heap.size :: rest, locked := none }) rfl hsize rfl rfl (rest := rest) rfl
    (by rw [hb]; exact d6) (by rw [hb]; exact d9) hout hRframes (by simp only [List.map_cons, List.sum_cons, hcat]; omega) hlocks
  obtain ⟨f1, f2⟩ := vx_frame hsame
  rw [hhp] at f1 f2
  have hWs : s.WarmedH U.vm := State.WarmedH.trans hW0 hW
  have hcl : s.vm.findClass cls = some ce.cls := by
    have h9 := hO.cls
    rw [hvm] at h9
    exact h9
  have hall : s.sameButNew ({ U with vm := s.vm } : State) locs mc ms := by
    subst hA
    obtain ⟨e1, e2⟩ := hsame
    rw [State.setFrames_setFrames] at e1
    have h2 : (T.setVm s.vm).sameButNew ({ U with vm := s.vm } : State) [] (0 + 1) (0 + 6) := ⟨e1, e2⟩
    have h3 := X.same.trans h2
    rw [List.append_nil] at h3
    exact h3.mono hc hs
  refine ⟨U, ?_, .threw T.heap.size, hrun, hend, Or.inr ⟨T.heap.size, rfl, cls, ce, locs, hx U hWs.alike f1 (fun q hq => f2 q hq (fun z hz => nomatch hz)), hce, hO.vm, hcl, hWs, hall, hf⟩⟩
  refine st1 _ ?_
  show Steps p.tables e below (T1.setTop { method := m, pc := pc + 3, locals := ls, stack := .ref T.heap.size :: rest, locked := none }) _
  jvm_step X₁.here [X₁.here.top, hexec, d3', Value.category]
  exact X₁.ldcString hexec (own := own) (text := text) (index := is) (a := sa) hown' hstr'.1 hstr'.2
    (g := { method := m, pc := pc + 4, locals := ls, stack := .ref T.heap.size :: .ref T.heap.size :: rest, locked := none }) rfl d4' _ hsteps
/-- 'throw new E("text")', the text by a wide index -/
theorem vx_throwSW {cc : ByteArray} {pc : Nat} (hexec : p.tables.exec = Jvm.exec) (hb : c.code = cc) (hl : l.stackTraces = false) {own cls text : String} {names : List String} {ik is ic mc ms sa : Nat} {A : Nat → Prop}
    (hown : s.vm.findClass own = some m.cls) (hcls : Bundle.fit cls = true) (hnames : ∀ n ∈ names, Bundle.fit n = true)
    (hk : (Cond.classLink own ik cls).before args s = true) (hini : (Cond.initialized cls).before args s = true) (hstr : vk_R own is text sa s) (hat : ∀ w ∈ vx_atS own ic cls names, w.before args s = true)
    (hgood : ∀ w ∈ Cond.classLink own ik cls :: Cond.initialized cls :: vx_atS own ic cls names, vx_ot w = true)
    (hU : vx_Zq Bundle.tN "UNASSIGNED_STACK" Bundle.steD A s s.heap) (hN : vx_Zq Bundle.tN "SUPPRESSED_SENTINEL" Bundle.listD A s s.heap) (hS : va_S A s.heap H locs) (hsize : ls.size = c.maxLocals)
    (d0 : decode cc pc = .ok (.new ik, 3)) (d3 : decode cc (pc + 3) = .ok (.dup, 1)) (d4 : decode cc (pc + 4) = .ok (.ldc_w is, 3)) (d7 : decode cc (pc + 7) = .ok (.invokespecial ic, 3)) (d10 : decode cc (pc + 10) = .ok (.athrow, 1))
    (hout : ∀ x ∈ c.exceptionTable.toList, covers x (pc + 10) = false)
    (hRframes : names.length + 3 < R.frames) (hRlocals : (rest.map fun v => v.category).sum + (13 * (names.length + 1) + 43) ≤ R.locals) (hRcells : cells + 1 ≤ R.cells) (hRslots : slots + 6 ≤ R.slots) (hlocks : meth.locks = false)
    (hx : ∀ t : State, s.vm.Alike t.vm → H.size ≤ t.heap.size → (∀ q : Nat, q < H.size → t.heap[q]? = H[q]?) → XC cls s t)
    (hf : ∀ z ∈ locs, free z.base) (hc : cells + 1 ≤ mc) (hs : slots + 6 ≤ ms) :
    W p l e R s m args below meth c H locs cells slots (vx_MQ below Qc XC args s mc ms free) (F0 m pc ls rest) := by
  intro T hT X
  have htr : e.platform.stackTraces = false := (show e.platform.stackTraces = l.stackTraces by rw [X.admits.platform]).trans hl
  have Y := vx_rebase X (R' := { frames := R.frames, locals := R.locals, cells := 1, slots := 6 }) (Nat.le_refl _) (Nat.le_refl _) hRcells hRslots
  obtain ⟨s', hA⟩ : ∃ z, z = (T.setVm s.vm).setFrames (.invoking m args :: below) := ⟨_, rfl⟩
  rw [← hA] at Y
  have hvm : s'.vm = s.vm := by rw [hA]; rfl
  have hhp : s'.heap = H := by rw [hA]; exact hT
  have hW0 : s.WarmedH s'.vm := by rw [hvm]; exact State.WarmedH.refl s
  have hat' : ∀ w ∈ vx_atS own ic cls names, w.before args s' = true := fun w hw => vx_ot_at hW0 hvm.symm (hgood w (List.mem_cons_of_mem _ (List.mem_cons_of_mem _ hw))) (hat w hw)
  have hk' : (Cond.classLink own ik cls).before args s' = true := vx_ot_at hW0 hvm.symm (hgood _ List.mem_cons_self) hk
  have hini' : (Cond.initialized cls).before args s' = true := vx_ot_at hW0 hvm.symm (hgood _ (List.mem_cons_of_mem _ List.mem_cons_self)) hini
  have hU' : vx_Zq Bundle.tN "UNASSIGNED_STACK" Bundle.steD A s' s'.heap := by rw [hhp]; exact vx_Zq.moved hW0.alike (hU.kept hS.2.1)
  have hN' : vx_Zq Bundle.tN "SUPPRESSED_SENTINEL" Bundle.listD A s' s'.heap := by rw [hhp]; exact vx_Zq.moved hW0.alike (hN.kept hS.2.1)
  have h : ∀ w ∈ Bundle.ownAtoms own ic cls names, w.before args s' = true := vx_own hat' (vx_isRefq hU'.1) (vx_isRefq hN'.1) hU'.2.word hN'.2.word
  have hown' : s'.vm.findClass own = some m.cls := by rw [hvm]; exact hown
  have hins : (Cond.instantiable cls 6).before args s' = true := h _ (by simp [Bundle.ownAtoms])
  obtain ⟨vm₁, cX, kX, hfX, hkX, -, -, X₁, st1⟩ := Y.newCold hexec (own := own) (C := cls) (index := ik) (n := 6) hown' hk' hins hini'
    (g := F0 m pc ls rest) rfl (by rw [hb]; exact d0) (Nat.le_refl _) (Nat.le_refl _)
  generalize hT1 : (T.setVm vm₁).pushCell { cls := cX, slots := kX.instanceTypes.map defaultValue, vm := .none } = T1 at X₁ st1
  have hcat : (Value.ref T.heap.size).category = 1 := rfl
  have hcellA : T1.heap[T.heap.size]? = some (freshCell cX kX) := by rw [← hT1]; exact State.heap_pushCell_size _ _
  have d3' : decode c.code (pc + 3) = .ok (.dup, 1) := by rw [hb]; exact d3
  have d4' : decode c.code (pc + 4) = .ok (.ldc_w is, 3) := by rw [hb]; exact d4
  have hstr' : vk_R own is text sa s' := vk_R.warm hW0 hstr
  obtain ⟨U, hsteps, hrun, hend, hW, hsame, ce, hce, hO⟩ := X₁.ctorThrowS hexec htr (own := own) (cls := cls) (names := names) (ic := ic) hown' hcls hnames h (fun x hx => nomatch hx) hfX hkX hcellA (by rw [hhp, hT]; exact Nat.le_refl _) (msg := .ref sa) rfl
    (g := { method := m, pc := pc + 7, locals := ls, stack := .ref sa :: .ref T.heap.size :: .ref T.heap.size :: rest, locked := none }) rfl hsize rfl rfl (rest := rest) rfl
    (by rw [hb]; exact d7) (by rw [hb]; exact d10) hout hRframes (by simp only [List.map_cons, List.sum_cons, hcat]; omega) hlocks
  obtain ⟨f1, f2⟩ := vx_frame hsame
  rw [hhp] at f1 f2
  have hWs : s.WarmedH U.vm := State.WarmedH.trans hW0 hW
  have hcl : s.vm.findClass cls = some ce.cls := by
    have h9 := hO.cls
    rw [hvm] at h9
    exact h9
  have hall : s.sameButNew ({ U with vm := s.vm } : State) locs mc ms := by
    subst hA
    obtain ⟨e1, e2⟩ := hsame
    rw [State.setFrames_setFrames] at e1
    have h2 : (T.setVm s.vm).sameButNew ({ U with vm := s.vm } : State) [] (0 + 1) (0 + 6) := ⟨e1, e2⟩
    have h3 := X.same.trans h2
    rw [List.append_nil] at h3
    exact h3.mono hc hs
  refine ⟨U, ?_, .threw T.heap.size, hrun, hend, Or.inr ⟨T.heap.size, rfl, cls, ce, locs, hx U hWs.alike f1 (fun q hq => f2 q hq (fun z hz => nomatch hz)), hce, hO.vm, hcl, hWs, hall, hf⟩⟩
  refine st1 _ ?_
  show Steps p.tables e below (T1.setTop { method := m, pc := pc + 3, locals := ls, stack := .ref T.heap.size :: rest, locked := none }) _
  jvm_step X₁.here [X₁.here.top, hexec, d3', Value.category]
  exact X₁.ldcStringW hexec (own := own) (text := text) (index := is) (a := sa) hown' hstr'.1 hstr'.2
    (g := { method := m, pc := pc + 4, locals := ls, stack := .ref T.heap.size :: .ref T.heap.size :: rest, locked := none }) rfl d4' _ hsteps
end Ends
section Bodies
variable {l : Launch}
theorem vx_ofW {y : MethodName} {ws ws' : List Cond} {rm : Room} {Pc : Array Value → State → Prop} {Qc : Array Value → State → Outcome → State → Prop} {XC : String → State → State → Prop} {mc ms : Nat} {free : Addr → Prop} {cc : ByteArray} {maxL : Nat} {ret : Option FieldType}
    (hy : plainName y.cls = true) (hw : ws = Cond.code y cc maxL ret :: ws')
    (body : ∀ p e s m args below meth c s₁, BodyLoose p l y (headSpec ws rm) cc maxL ret e s m args below meth c s₁ → c.maxLocals = maxL → (∀ x ∈ c.exceptionTable.toList, False) → Pc args s →
      W p l e (headSpec ws rm).room s m args below meth c s.heap [] 0 0 (vx_MQ below Qc XC args s mc ms free) (entryFrame m args maxL)) : vx_Met l y ws rm Pc Qc XC mc ms free := by
  refine MetFree.of_bodyS (code := cc) (maxLocals := maxL) (ret := ret) hy ?_ ?_
  · intro args s m h hn
    obtain ⟨meth, c, h1, h2, h3, h4, h5, h6, -, -⟩ := Cond.code_spec hn (atoms_spec (ws := ws) h _ (by rw [hw]; exact List.mem_cons_self))
    exact ⟨meth, c, h1, h2, h3, h4, h5, h6⟩
  · intro p e s m args below meth c s₁ B hml hP _
    have hh0 : s₁.heap = s.heap := by rw [B.state]; rfl
    have ht : ∀ x ∈ c.exceptionTable.toList, False := by
      obtain ⟨meth9, c9, h1, h2, -, -, -, -, h7, -⟩ := Cond.code_spec B.named (atoms_spec (ws := ws) B.pre _ (by rw [hw]; exact List.mem_cons_self))
      cases Option.some.inj (h1.symm.trans B.method)
      cases Option.some.inj (h2.symm.trans (Stand.of_body B).code)
      intro x hx
      rw [Array.isEmpty_iff.mp h7] at hx
      cases hx
    obtain ⟨t, a1, o, b1, b2, b3⟩ := body p e s m args below meth c s₁ B hml ht hP s₁ hh0 (Stand.of_body B)
    exact ⟨t, o, a1, b1, b2, b3⟩
/-- the table of a body with handlers -/
theorem vx_table {p : Program} {x y : MethodName} {S : Spec} {cc bytes : ByteArray} {maxL maxL' : Nat} {ret ret' : Option FieldType} {e : Env} {s s₁ : State} {m : MethodId} {args : Array Value} {below : List Frame} {meth : Method} {c : Code} {hh : List (Nat × Nat × Nat × Nat)}
    (B : BodyLoose p l y S cc maxL ret e s m args below meth c s₁) (h : (Cond.codeWith y bytes maxL' ret' hh).before args s = true) : c.exceptionTable.toList = tableOf hh := by
  obtain ⟨m9, meth9, c9, hn9, h1, h2, -, -, h6, -⟩ := Cond.codeWith_spec h
  cases Option.some.inj (hn9.symm.trans B.named)
  cases Option.some.inj (h1.symm.trans B.method)
  cases Option.some.inj (h2.symm.trans (Stand.of_body B).code)
  rw [← h6, table_eq]
end Bodies
end VXA
/-! ===== END ===== -/
/-! ===== BEGIN a static call of a method with an exception table ===== -/
section VXS
variable {p : Program} {l : Launch} {e : Env} {R : Room} {s : State} {m : MethodId} {args : Array Value} {below : List Frame} {meth : Method} {c : Code} {T : State} {H : Heap} {locs : List Loc} {cells slots : Nat}
abbrev vx_CSW (R : Room) (s : State) (args : Array Value) (own : String) (index : Nat) (y : MethodName) (bytes : ByteArray) (maxL : Nat) (ret : Option FieldType) (hh : List (Nat × Nat × Nat × Nat)) (ws : List Cond) (rm : Room) (mc ms n : Nat) : Prop :=
  (rm.cells = mc ∧ rm.slots = ms ∧ rm.frames + 1 ≤ R.frames ∧ 8 + (maxL + 11) + rm.locals ≤ R.locals ∧ (∀ w ∈ ws, ∀ (a' : Array Value) (U : State), s.WarmedH U.vm → w.before a' U = true) ∧ Cond.codeWith y bytes maxL ret hh ∈ ws) ∧
  (Cond.codeWith y bytes maxL ret hh).before args s = true ∧ (Cond.initialized y.cls).before args s = true ∧ (y.cls ≠ "java/lang/invoke/MethodHandle" ∧ y.cls ≠ "java/lang/invoke/VarHandle") ∧
  (∀ sig, parseMethodDescriptor y.desc = some sig → n = sig.parameters.length) ∧ (Cond.methodLink own index y).before args s = true ∧ (Cond.static y).before args s = true
theorem vx_cwSW {own : String} {index maxL mc ms : Nat} {y : MethodName} {bytes : ByteArray} {ret : Option FieldType} {hh : List (Nat × Nat × Nat × Nat)} {Ts ws ws' : List Cond} {rm : Room} (n : Nat) (ht : ∀ w ∈ Ts, w.before args s = true) (hT : GoodIn Ts (va_wsS own index y ws)) (hw : ws = Cond.codeWith y bytes maxL ret hh :: ws') (hrc : rm.cells = mc) (hrs : rm.slots = ms)
    (hd : y.cls ≠ "java/lang/invoke/MethodHandle" ∧ y.cls ≠ "java/lang/invoke/VarHandle" ∧ (parseMethodDescriptor y.desc).map (fun d => d.parameters.length) = some n) (hR : rm.frames + 1 ≤ R.frames ∧ 8 + (maxL + 11) + rm.locals ≤ R.locals) :
    vx_CSW R s args own index y bytes maxL ret hh ws rm mc ms n := by
  have ok : ∀ w ∈ va_wsS own index y ws, w.before args s = true := fun w h => ht w (hT w h).1
  have hG : GoodIn Ts ws := fun w h => hT w (by unfold va_wsS; exact List.mem_append_right _ h)
  have hc : Cond.codeWith y bytes maxL ret hh ∈ ws := by rw [hw]; exact List.mem_cons_self
  refine ⟨⟨hrc, hrs, hR.1, hR.2, pay_in ht hG, hc⟩, ht _ (hG _ hc).1, ok _ (by simp [va_wsS]), ⟨hd.1, hd.2.1⟩, fun sig h => ?_, ok _ (by simp [va_wsS]), ok _ (by simp [va_wsS])⟩
  have h2 := hd.2.2
  rw [h] at h2
  exact (Option.some.inj h2).symm
theorem vx_callSW (X : Stand p l e R s m args below meth c T locs cells slots) (hexec : p.tables.exec = Jvm.exec) {own : String} {index : Nat} {y : MethodName} {bytes : ByteArray} {maxL : Nat} {ret : Option FieldType} {hh : List (Nat × Nat × Nat × Nat)}
    (hown : s.vm.findClass own = some m.cls) (hlink : (Cond.methodLink own index y).before args s = true) (hstat : (Cond.static y).before args s = true) (hinit : (Cond.initialized y.cls).before args s = true)
    (hcode : (Cond.codeWith y bytes maxL ret hh).before args s = true) (hy : y.cls ≠ "java/lang/invoke/MethodHandle" ∧ y.cls ≠ "java/lang/invoke/VarHandle")
    {W9 : Nat} {Pre : Pt → Array Value → Prop} {Post : Pt → Array Value → Option Value → Pt → Prop} (hK : Back l R p e below s args y 3 W9 Pre Post)
    {g : JFrame} (hg : g.method = m) (hsize : g.locals.size = c.maxLocals) {argsL rest : List Value} (hlen : ∀ sig, parseMethodDescriptor y.desc = some sig → argsL.length = sig.parameters.length)
    (hstack : g.stack = argsL.reverse ++ rest) (hW : 2 * g.monitorRoom + (rest.map fun v => v.category).sum ≤ W9) (hdg : decode c.code g.pc = .ok (.invokestatic index, 3))
    (hpre : ∀ vm₁, s.WarmedH vm₁ → Pre ⟨T.setVm vm₁, locs, cells, slots⟩ argsL.toArray) :
    ∃ (v : Option Value) (vm₁ : Vm) (B : Pt), s.WarmedH vm₁ ∧ Stand p l e R s m args below meth c B.U B.locs B.cells B.slots ∧ Post ⟨T.setVm vm₁, locs, cells, slots⟩ argsL.toArray v B ∧
      ∀ target, Steps p.tables e below (B.U.setTop { g with pc := g.pc + 3, stack := v.toList ++ rest }) target → Steps p.tables e below (T.setTop g) target := by
  obtain ⟨mk, methM, cM, hnamed, hmethM, -, -, -, -, -, -, hsigM⟩ := Cond.codeWith_spec hcode
  have hstatic : methM.isStatic = true := Cond.static_spec hnamed hmethM hstat
  obtain ⟨kP, hkP, -⟩ := className_of_methodNamed hnamed
  have hinitP : kP.init = .initialized := Cond.initialized_spec (findClass_of_methodNamed hnamed) hkP hinit
  obtain ⟨vm₁, X₁, hstep₁⟩ := X.invokestatic hexec hown hlink hnamed hmethM hstatic hkP hinitP hy (g := g) hg (argsL := argsL) (rest := rest) (hlen _ hsigM) hstack hdg
  obtain ⟨v, B, X', hpost, hsteps⟩ := hK m meth c ⟨T.setVm vm₁, locs, cells, slots⟩ { g with stack := rest } (.invokestatic index) mk argsL.toArray X₁ hg hsize hdg hW (X₁.named hnamed) (hpre vm₁ X₁.warmed)
  exact ⟨v, vm₁, B, X₁.warmed, X', hpost, fun target h => hstep₁ _ fun acts => by rw [doInvoke_state]; exact hsteps.trans h⟩
theorem vx_runSW {y : MethodName} {bytes cc : ByteArray} {maxL nL mc ms n index : Nat} {ret : Option FieldType} {hh : List (Nat × Nat × Nat × Nat)} {ws : List Cond} {rm : Room} {Pc : Array Value → State → Prop} {Qc : Array Value → State → Outcome → State → Prop} {free : Addr → Prop} {Ts : List Cond} {own : String} {As rest : List Value} {g : JFrame}
    (S : CallFix p m c cc nL s args Ts own) (hM : Met l y ws rm Pc Qc mc ms free) (cw : vx_CSW R s args own index y bytes maxL ret hh ws rm mc ms n) (hp : PreS s H Pc As)
    (hg : g.method = m) (hn : As.length = n) (hsize : g.locals.size = nL) (hstack : g.stack = As.reverse ++ rest) (hW : 2 * g.monitorRoom + (rest.map fun v => v.category).sum ≤ 8) (hdg : decode cc g.pc = .ok (.invokestatic index, 3)) (hf : cells + mc ≤ R.cells ∧ slots + ms ≤ R.slots) :
    va_Run p l e R s m args below meth c H locs cells slots mc ms g rest (Qc As.toArray) (free) := by
  obtain ⟨⟨hrc, hrs, hfr, hlo, hws, hcw⟩, hcode, hini, hy, hlen, hl, hstt⟩ := cw
  have hK : Back l R p e below s args y 3 8 (PreOf R mc ms Pc) (PostOf Qc mc ms free) := va_backW (hh := hh) (bytes := bytes) (maxL := maxL) (ret := ret) hM hp.1 hrc hrs hfr hlo hws hcw (fun a' U hW => word_at hW (Or.inl (by first | rfl | simp [Cond.onTables, Cond.keeps, Cond.steady])) hini)
  obtain ⟨hx, hb, hml, ho, -⟩ := S
  intro T hT X
  obtain ⟨v, vm₁, ⟨U', l2, c2, s2⟩, hW₁, X', ⟨g', mk, t, L, e1, e2, hq, h1, hL, h2, h3⟩, st⟩ := vx_callSW X hx (hh := hh) (bytes := bytes) (maxL := maxL) (ret := ret) ho hl hstt hini hcode hy hK hg (hsize.trans hml.symm) (argsL := As) (rest := rest) (fun sig h => hn.trans (hlen sig h)) hstack hW (by rw [hb]; exact hdg)
    (fun vm₁ hW₁ => ⟨hf.1, hf.2, hp.2 (T.setVm vm₁) hT hW₁⟩)
  dsimp only [Pt.U, Pt.locs, Pt.cells, Pt.slots] at X' e1 e2 h1 h2 h3 st
  subst h1; subst h2; subst h3
  exact ⟨v, (T.setVm vm₁).calling g' mk As.toArray, t, U', L, hT, X', hL, e1, e2, hq, st⟩
/-- not caught here, past rows that name other classes: it goes on to the caller -/
theorem vx_outP {p : Program} {l : Launch} {e : Env} {R : Room} {s : State} {m : MethodId} {args : Array Value} {below : List Frame} {meth : Method} {c : Code} {H : Heap} {locs : List Loc} {cells slots : Nat} {free : Addr → Prop} {ls : Array Slot} {rest : List Value} {Qc : Array Value → State → Outcome → State → Prop} {XC : String → State → State → Prop}
    {pc : Nat} {own E : String} {ce : Cell} {q : Addr} {mc ms : Nat} (hown : s.vm.findClass own = some m.cls) (hlocks : meth.locks = false)
    (hpass : ∀ z ∈ c.exceptionTable.toList, covers z pc = false ∨ (z.catchType ≠ 0 ∧ ∃ nm : String, (Cond.classLink own z.catchType nm).before args s = true ∧ va_Nc E nm s)) (hcell : H[q]? = some ce) (hv : ce.vm = .none) (hcl : s.vm.findClass E = some ce.cls)
    (hx : ∀ t : State, t.heap = H → s.vm.Alike t.vm → XC E s t) (hf : ∀ z ∈ locs, free z.base) (hc : cells ≤ mc) (hs : slots ≤ ms) :
    vx_W p l e R s m args below meth c H locs cells slots (vx_MQ below Qc XC args s mc ms free) (F0 m pc ls rest) q := by
  intro T hT X
  have hpl : e.platform.magicAccessors = ({} : Platform).magicAccessors := by rw [X.admits.platform]
  obtain ⟨vm', hW', X', st⟩ := X.outThrough hlocks q (g := F0 m pc ls rest) rfl rfl rfl (cell := ce) (by rw [hT]; exact hcell) (by rw [hv]; rfl)
    (by obtain ⟨k9, h9, -⟩ := Vm.findClass_spec hcl; exact ⟨k9, h9⟩) (fun z hz => by
      rcases hpass z hz with h | ⟨hz0, nm, hl1, hn1⟩
      · exact Or.inl h
      · obtain ⟨c6, hc6, hcl6⟩ := Cond.classLink_spec hown hl1 e.platform hpl
        obtain ⟨a8, b8, h1, h2, h3⟩ := hn1
        cases Option.some.inj (h1.symm.trans hcl)
        cases Option.some.inj (h2.symm.trans hc6)
        exact Or.inr ⟨hz0, _, hcl6, h3⟩)
  obtain ⟨g₀, hfr⟩ := X'.frames_eq
  have hcell9 : ((T.setVm vm').setFrames (.throwing q :: below)).heap[q]? = some ce := by
    show T.heap[q]? = some ce
    rw [hT]; exact hcell
  have hend : Ended ((T.setVm vm').setFrames (.throwing q :: below)) below (.threw q) := State.frames_setFrames _ (State.cur_lt_of_frames hfr)
  refine ⟨(T.setVm vm').setFrames (.throwing q :: below), ?_, .threw q, X'.here.running, hend, Or.inr ⟨q, rfl, E, ce, locs, hx _ hT (X'.ends _).1.alike, hcell9, hv, hcl, (X'.ends _).1, (X'.ends _).2.mono hc hs, hf⟩⟩
  rw [X.pushThrowing_eq]
  exact st
/-- a thing of a world lies in the heap -/
theorem vx_lt {D : va_G} {cl : List vw_C} {ws : va_W} {H1 : Heap} (h : va_P D cl ws H1) {k : Nat} {q : Nat × va_E} (hk : ws[k]? = some q) : q.1 < H1.size := (h k q hk).lt
end VXS
/-! ===== END ===== -/
/-! ===== BEGIN methods with a table of their own: called by a name, returning or throwing ===== -/
section VXH
/-! vx_backW, vx_callVX, vx_callSX, vx_callVW, vx_runVW, vx_runVX, vx_runSX, vx_ofWH follow the same proofs as their sisters above (Free/Laws.lean, Shelf42/LK1.lean); vx_outP calls Shelf42/NT130.lean (outThrough). -/
section
variable {l : Launch} {R : Room} {p : Program} {e : Env} {below : List Frame} {s : State} {sargs : Array Value} {y : MethodName} {len W9 : Nat}
theorem vx_backW {ws : List Cond} {rm : Room} {Pc : Array Value → State → Prop} {Qc : Array Value → State → Outcome → State → Prop} {XC : String → State → State → Prop} {mc ms : Nat} {free : Addr → Prop} {bytes : ByteArray} {maxL : Nat} {ret : Option FieldType} {hh : List (Nat × Nat × Nat × Nat)}
    (hM : vx_Met l y ws rm Pc Qc XC mc ms free) (hblind : FrameBlind Pc) (hrc : rm.cells = mc) (hrs : rm.slots = ms)
    (hframes : rm.frames + 1 ≤ R.frames) (hlocals : W9 + (maxL + 11) + rm.locals ≤ R.locals)
    (hws : ∀ w ∈ ws, ∀ a' U, s.WarmedH U.vm → w.before a' U = true) (hcode : Cond.codeWith y bytes maxL ret hh ∈ ws) (hinit : ∀ a' U, s.WarmedH U.vm → (Cond.initialized y.cls).before a' U = true) :
    vx_Back l R p e below s sargs y len W9 (PreOf R mc ms Pc) (PostOf Qc mc ms free) (vx_Post XC mc ms free) := by
  intro m meth c A g ig mk a X hg hsize hdg hW hn hp
  have h1 : (headSpec ws rm).pre.before a A.U = true := atoms_intro fun w hw => hws w hw _ _ X.warmed
  have h2 : (Cond.codeWith y bytes maxL ret hh).before a A.U = true := hws _ hcode _ _ X.warmed
  have h3 : (Cond.initialized y.cls).before a A.U = true := hinit _ _ X.warmed
  have h4 : A.cells + (headSpec ws rm).room.cells ≤ R.cells := by rw [show (headSpec ws rm).room.cells = mc from hrc]; exact hp.1
  have h5 : A.slots + (headSpec ws rm).room.slots ≤ R.slots := by rw [show (headSpec ws rm).room.slots = ms from hrs]; exact hp.2.1
  have hPc : Pc a (A.U.calling g mk a) := hblind _ _ _ _ hp.2.2
  obtain ⟨U, Ls, c0, s0⟩ := A
  dsimp only [Pt.U, Pt.locs, Pt.cells, Pt.slots] at h1 h2 h3 h4 h5 X hn hPc ⊢
  obtain ⟨m9, methY, cY, hn9, hmY, hcY, -, hlY, -⟩ := Cond.codeWith_spec h2
  cases Option.some.inj (hn9.symm.trans hn)
  obtain ⟨kY, hkY, -⟩ := className_of_methodNamed hn
  have hinitY : kY.init = .initialized := Cond.initialized_spec (findClass_of_methodNamed hn) hkY h3
  have h : At U g.method c below := by rw [hg]; exact X.here
  have hlocals9 : W9 + (maxL + 11) + (headSpec ws rm).room.locals ≤ R.locals := hlocals
  have happ : (headSpec ws rm).appliesLoose y e.platform (U.calling g mk a) = true :=
    Spec.appliesLoose_calling (g := g) h hdg hn hkY hinitY
      (X.room_calling (g := g) (R' := (headSpec ws rm).room) hsize hmY hcY hframes (by rw [hlY]; omega) h4 h5) h1
  obtain ⟨mid, hmid⟩ := h.above
  have hfr : (U.setTop g).frames = (.java g :: mid) ++ below := by rw [State.frames_setTop' g h.top, hmid]; rfl
  obtain ⟨o, s₂, hsteps, -, hend, hq⟩ := Steps.callFree hM p X.admits X.cas X.clock (acts := []) hfr happ hPc trivial
  have hq' : vx_Q Qc XC mc ms free a (U.calling g mk a) o s₂ := hq
  rw [State.frames_setTop' g h.top] at hend
  obtain ⟨g₀, hg0⟩ := Option.isSome_iff_exists.mp h.top
  obtain ⟨r, hr⟩ := State.topJava?_eq_some.mp hg0
  have hr' : (({ U with heap := s₂.heap, slotsUsed := s₂.slotsUsed } : State).setVm s₂.vm).frames = .java g₀ :: r := hr
  rcases hq' with ⟨hqc, L, hfe, hL⟩ | ⟨q, rfl, E, ce, L, hx, hce, hcv, hcl, hW₂, hsm, hL⟩
  · obtain ⟨⟨v, rfl⟩, hW₂, e2, q2, q3, q4, q5, q6⟩ := id hfe
    have e3 : s₂ = ({ (U.calling g mk a).setFrames s₂.frames with heap := s₂.heap, slotsUsed := s₂.slotsUsed } : State).setVm s₂.vm := by
      have : s₂ = ({ s₂ with vm := (U.calling g mk a).vm } : State).setVm s₂.vm := rfl
      rw [e2] at this
      exact this
    obtain ⟨c₂, i₂, len₂, hc₂, hd₂, hf₂⟩ := hend
    have hW' : U.WarmedH s₂.vm := hW₂
    have hcc : c₂ = c := by
      have h1 : s₂.code? g.method = U.code? g.method := by
        rw [State.code?_eq, State.code?_eq, hW'.alike.method?]
      exact Option.some.inj (hc₂.symm.trans (h1.trans h.code))
    subst hcc
    have hlen : len₂ = len := by rw [hdg] at hd₂; cases hd₂; rfl
    subst hlen
    have hs₂ : s₂ = (({ U with heap := s₂.heap, slotsUsed := s₂.slotsUsed } : State).setVm s₂.vm).setTop { g with pc := g.pc + len₂, stack := v.toList ++ g.stack } := by
      refine e3.trans ?_
      rw [hf₂, State.calling_eq h.top, State.setFrames_setFrames, State.setTop_of_frames _ hr', hr]
      rfl
    have hsame : U.sameButNew ({ U with heap := s₂.heap, slotsUsed := s₂.slotsUsed } : State) L mc ms := by
      refine ⟨?_, q2, q3, q4, q5, q6⟩
      obtain ⟨t, ht, -⟩ := State.frames_cons hr
      show ({ U with heap := s₂.heap, slotsUsed := s₂.slotsUsed } : State) = { U.setFrames U.frames with heap := s₂.heap, slotsUsed := s₂.slotsUsed }
      rw [State.setFrames_self ht]
    subst hg
    refine Or.inl ⟨v, ⟨(({ U with heap := s₂.heap, slotsUsed := s₂.slotsUsed } : State).setVm s₂.vm), Ls ++ L, c0 + mc, s0 + ms⟩,
      ⟨X.admits, X.cas, X.clock, X.frames, X.room, X.hears, X.method, X.code, (X.here.setHeapUsed s₂.heap s₂.slotsUsed).setVm hW'.alike, X.tail, State.WarmedH.trans X.warmed hW', X.limits, X.bytes, X.same.trans (hsame.setVm s.vm)⟩,
      ⟨g, mk, s₂, L, rfl, rfl, hqc, rfl, hL, rfl, rfl⟩, ?_⟩
    show Steps p.tables e below _ ((({ U with heap := s₂.heap, slotsUsed := s₂.slotsUsed } : State).setVm s₂.vm).setTop { g with pc := g.pc + len₂, stack := v.toList ++ g.stack })
    rw [← hs₂]
    exact hsteps
  · obtain ⟨e2, q2, q3, q4, q5, q6⟩ := id hsm
    have e3 : s₂ = ({ (U.calling g mk a).setFrames s₂.frames with heap := s₂.heap, slotsUsed := s₂.slotsUsed } : State).setVm s₂.vm := by
      have : s₂ = ({ s₂ with vm := (U.calling g mk a).vm } : State).setVm s₂.vm := rfl
      rw [e2] at this
      exact this
    have hf₂ : s₂.frames = .throwing q :: .java g :: U.frames.tail := hend
    have hW' : U.WarmedH s₂.vm := hW₂
    have hs₂ : s₂ = ((({ U with heap := s₂.heap, slotsUsed := s₂.slotsUsed } : State).setVm s₂.vm).setTop g).pushFrame (.throwing q) := by
      refine e3.trans ?_
      rw [hf₂, State.calling_eq h.top, State.setFrames_setFrames, State.pushFrame, State.frames_setTop _ hr', State.setTop_of_frames _ hr', State.setFrames_setFrames, hr]
      rfl
    have hsame : U.sameButNew ({ U with heap := s₂.heap, slotsUsed := s₂.slotsUsed } : State) L mc ms := by
      refine ⟨?_, q2, q3, q4, q5, q6⟩
      obtain ⟨t, ht, -⟩ := State.frames_cons hr
      show ({ U with heap := s₂.heap, slotsUsed := s₂.slotsUsed } : State) = { U.setFrames U.frames with heap := s₂.heap, slotsUsed := s₂.slotsUsed }
      rw [State.setFrames_self ht]
    subst hg
    refine Or.inr ⟨q, ⟨(({ U with heap := s₂.heap, slotsUsed := s₂.slotsUsed } : State).setVm s₂.vm), Ls ++ L, c0 + mc, s0 + ms⟩,
      ⟨X.admits, X.cas, X.clock, X.frames, X.room, X.hears, X.method, X.code, (X.here.setHeapUsed s₂.heap s₂.slotsUsed).setVm hW'.alike, X.tail, State.WarmedH.trans X.warmed hW', X.limits, X.bytes, X.same.trans (hsame.setVm s.vm)⟩,
      ⟨g, mk, s₂, L, E, ce, rfl, rfl, hx, hce, hcv, hcl, rfl, hL, rfl, rfl⟩, ?_⟩
    show Steps p.tables e below _ (((({ U with heap := s₂.heap, slotsUsed := s₂.slotsUsed } : State).setVm s₂.vm).setTop g).pushFrame (.throwing q))
    rw [← hs₂]
    exact hsteps
end
variable {p : Program} {l : Launch} {e : Env} {R : Room} {s : State} {m : MethodId} {args : Array Value} {below : List Frame} {meth : Method} {c : Code} {T : State} {H : Heap} {locs : List Loc} {cells slots : Nat}
theorem vx_callVX (X : Stand p l e R s m args below meth c T locs cells slots) (hexec : p.tables.exec = Jvm.exec) {own C : String} {index : Nat} {y : MethodName} {bytes : ByteArray} {maxL : Nat} {ret : Option FieldType} {hh : List (Nat × Nat × Nat × Nat)}
    (hown : s.vm.findClass own = some m.cls) (hlink : (Cond.methodLink own index y).before args s = true) (hinst : (Cond.instanceMethod y).before args s = true) (hsel : (Cond.selects C y y).before args s = true)
    (hcode : (Cond.codeWith y bytes maxL ret hh).before args s = true) (hy : y.cls ≠ "java/lang/invoke/MethodHandle" ∧ y.cls ≠ "java/lang/invoke/VarHandle")
    {W9 : Nat} {Pre : Pt → Array Value → Prop} {Post : Pt → Array Value → Option Value → Pt → Prop} {PostX : Pt → Array Value → Addr → Pt → Prop} (hK : vx_Back l R p e below s args y 3 W9 Pre Post PostX)
    {b : Addr} {cellB : Cell} (hcell : T.heap[b]? = some cellB) (hobj : cellB.vm.isStatics = false) (hcls : s.vm.findClass C = some cellB.cls)
    {g : JFrame} (hg : g.method = m) (hsize : g.locals.size = c.maxLocals) {argsL rest : List Value} (hlen : ∀ sig, parseMethodDescriptor y.desc = some sig → argsL.length = sig.parameters.length)
    (hstack : g.stack = argsL.reverse ++ .ref b :: rest) (hW : 2 * g.monitorRoom + (rest.map fun v => v.category).sum ≤ W9) (hdg : decode c.code g.pc = .ok (.invokevirtual index, 3))
    (hpre : ∀ vm₁, s.WarmedH vm₁ → Pre ⟨T.setVm vm₁, locs, cells, slots⟩ (Value.ref b :: argsL).toArray) :
    (∃ (v : Option Value) (vm₁ : Vm) (B : Pt), s.WarmedH vm₁ ∧ Stand p l e R s m args below meth c B.U B.locs B.cells B.slots ∧ Post ⟨T.setVm vm₁, locs, cells, slots⟩ (Value.ref b :: argsL).toArray v B ∧
      ∀ target, Steps p.tables e below (B.U.setTop { g with pc := g.pc + 3, stack := v.toList ++ rest }) target → Steps p.tables e below (T.setTop g) target) ∨
    (∃ (q : Addr) (vm₁ : Vm) (B : Pt), s.WarmedH vm₁ ∧ Stand p l e R s m args below meth c B.U B.locs B.cells B.slots ∧ PostX ⟨T.setVm vm₁, locs, cells, slots⟩ (Value.ref b :: argsL).toArray q B ∧
      Steps p.tables e below (T.setTop g) ((B.U.setTop { g with stack := rest }).pushFrame (.throwing q))) := by
  obtain ⟨mk, methM, hnamed, hmethM, hstM, habM⟩ := Cond.instanceMethod_spec hinst
  obtain ⟨m8, methM', cM, hn8, hmethM', -, -, -, -, -, -, hsigM⟩ := Cond.codeWith_spec hcode
  cases Option.some.inj (hn8.symm.trans hnamed)
  cases hmethM.symm.trans hmethM'
  obtain ⟨c2, r2, m2, q1, q2, q3, q4, kP, hkP, hkPi⟩ := Cond.selects_spec hsel
  cases hcls.symm.trans q1
  cases (State.methodFound?_of_named hnamed hy).symm.trans q2
  cases hnamed.symm.trans q3
  have hselP : selectMethod e.platform s.vm cellB.cls mk = .method mk := by rw [Launch.admits_selectMethod X.admits]; exact q4
  obtain ⟨vm₁, X₁, hstep₁⟩ := X.invokevirtual hexec hown hlink hnamed hmethM hstM hkP hkPi hy (a := b) (cell := cellB) hcell
    (fun z h => by rw [h] at hobj; cases hobj) hselP hmethM habM hkP hkPi (g := g) hg (argsL := argsL) (rest := rest) (hlen _ hsigM) hstack hdg
  rcases hK m meth c ⟨T.setVm vm₁, locs, cells, slots⟩ { g with stack := rest } (.invokevirtual index) mk (Value.ref b :: argsL).toArray X₁ hg hsize hdg hW (X₁.named hnamed) (hpre vm₁ X₁.warmed) with ⟨v, B, X', hpost, hsteps⟩ | ⟨q, B, X', hpost, hsteps⟩
  · exact Or.inl ⟨v, vm₁, B, X₁.warmed, X', hpost, fun target h => hstep₁ _ fun acts => by rw [doInvoke_state]; exact hsteps.trans h⟩
  · exact Or.inr ⟨q, vm₁, B, X₁.warmed, X', hpost, hstep₁ _ fun acts => by rw [doInvoke_state]; exact hsteps⟩
theorem vx_callSX (X : Stand p l e R s m args below meth c T locs cells slots) (hexec : p.tables.exec = Jvm.exec) {own : String} {index : Nat} {y : MethodName} {bytes : ByteArray} {maxL : Nat} {ret : Option FieldType} {hh : List (Nat × Nat × Nat × Nat)}
    (hown : s.vm.findClass own = some m.cls) (hlink : (Cond.methodLink own index y).before args s = true) (hstat : (Cond.static y).before args s = true) (hinit : (Cond.initialized y.cls).before args s = true)
    (hcode : (Cond.codeWith y bytes maxL ret hh).before args s = true) (hy : y.cls ≠ "java/lang/invoke/MethodHandle" ∧ y.cls ≠ "java/lang/invoke/VarHandle")
    {W9 : Nat} {Pre : Pt → Array Value → Prop} {Post : Pt → Array Value → Option Value → Pt → Prop} {PostX : Pt → Array Value → Addr → Pt → Prop} (hK : vx_Back l R p e below s args y 3 W9 Pre Post PostX)
    {g : JFrame} (hg : g.method = m) (hsize : g.locals.size = c.maxLocals) {argsL rest : List Value} (hlen : ∀ sig, parseMethodDescriptor y.desc = some sig → argsL.length = sig.parameters.length)
    (hstack : g.stack = argsL.reverse ++ rest) (hW : 2 * g.monitorRoom + (rest.map fun v => v.category).sum ≤ W9) (hdg : decode c.code g.pc = .ok (.invokestatic index, 3))
    (hpre : ∀ vm₁, s.WarmedH vm₁ → Pre ⟨T.setVm vm₁, locs, cells, slots⟩ argsL.toArray) :
    (∃ (v : Option Value) (vm₁ : Vm) (B : Pt), s.WarmedH vm₁ ∧ Stand p l e R s m args below meth c B.U B.locs B.cells B.slots ∧ Post ⟨T.setVm vm₁, locs, cells, slots⟩ argsL.toArray v B ∧
      ∀ target, Steps p.tables e below (B.U.setTop { g with pc := g.pc + 3, stack := v.toList ++ rest }) target → Steps p.tables e below (T.setTop g) target) ∨
    (∃ (q : Addr) (vm₁ : Vm) (B : Pt), s.WarmedH vm₁ ∧ Stand p l e R s m args below meth c B.U B.locs B.cells B.slots ∧ PostX ⟨T.setVm vm₁, locs, cells, slots⟩ argsL.toArray q B ∧
      Steps p.tables e below (T.setTop g) ((B.U.setTop { g with stack := rest }).pushFrame (.throwing q))) := by
  obtain ⟨mk, methM, cM, hnamed, hmethM, -, -, -, -, -, -, hsigM⟩ := Cond.codeWith_spec hcode
  have hstatic : methM.isStatic = true := Cond.static_spec hnamed hmethM hstat
  obtain ⟨kP, hkP, -⟩ := className_of_methodNamed hnamed
  have hinitP : kP.init = .initialized := Cond.initialized_spec (findClass_of_methodNamed hnamed) hkP hinit
  obtain ⟨vm₁, X₁, hstep₁⟩ := X.invokestatic hexec hown hlink hnamed hmethM hstatic hkP hinitP hy (g := g) hg (argsL := argsL) (rest := rest) (hlen _ hsigM) hstack hdg
  rcases hK m meth c ⟨T.setVm vm₁, locs, cells, slots⟩ { g with stack := rest } (.invokestatic index) mk argsL.toArray X₁ hg hsize hdg hW (X₁.named hnamed) (hpre vm₁ X₁.warmed) with ⟨v, B, X', hpost, hsteps⟩ | ⟨q, B, X', hpost, hsteps⟩
  · exact Or.inl ⟨v, vm₁, B, X₁.warmed, X', hpost, fun target h => hstep₁ _ fun acts => by rw [doInvoke_state]; exact hsteps.trans h⟩
  · exact Or.inr ⟨q, vm₁, B, X₁.warmed, X', hpost, hstep₁ _ fun acts => by rw [doInvoke_state]; exact hsteps⟩
theorem vx_callVW (X : Stand p l e R s m args below meth c T locs cells slots) (hexec : p.tables.exec = Jvm.exec) {own C : String} {index : Nat} {y : MethodName} {bytes : ByteArray} {maxL : Nat} {ret : Option FieldType} {hh : List (Nat × Nat × Nat × Nat)}
    (hown : s.vm.findClass own = some m.cls) (hlink : (Cond.methodLink own index y).before args s = true) (hinst : (Cond.instanceMethod y).before args s = true) (hsel : (Cond.selects C y y).before args s = true)
    (hcode : (Cond.codeWith y bytes maxL ret hh).before args s = true) (hy : y.cls ≠ "java/lang/invoke/MethodHandle" ∧ y.cls ≠ "java/lang/invoke/VarHandle")
    {W9 : Nat} {Pre : Pt → Array Value → Prop} {Post : Pt → Array Value → Option Value → Pt → Prop} (hK : Back l R p e below s args y 3 W9 Pre Post)
    {b : Addr} {cellB : Cell} (hcell : T.heap[b]? = some cellB) (hobj : cellB.vm.isStatics = false) (hcls : s.vm.findClass C = some cellB.cls)
    {g : JFrame} (hg : g.method = m) (hsize : g.locals.size = c.maxLocals) {argsL rest : List Value} (hlen : ∀ sig, parseMethodDescriptor y.desc = some sig → argsL.length = sig.parameters.length)
    (hstack : g.stack = argsL.reverse ++ .ref b :: rest) (hW : 2 * g.monitorRoom + (rest.map fun v => v.category).sum ≤ W9) (hdg : decode c.code g.pc = .ok (.invokevirtual index, 3))
    (hpre : ∀ vm₁, s.WarmedH vm₁ → Pre ⟨T.setVm vm₁, locs, cells, slots⟩ (Value.ref b :: argsL).toArray) :
    ∃ (v : Option Value) (vm₁ : Vm) (B : Pt), s.WarmedH vm₁ ∧ Stand p l e R s m args below meth c B.U B.locs B.cells B.slots ∧ Post ⟨T.setVm vm₁, locs, cells, slots⟩ (Value.ref b :: argsL).toArray v B ∧
      ∀ target, Steps p.tables e below (B.U.setTop { g with pc := g.pc + 3, stack := v.toList ++ rest }) target → Steps p.tables e below (T.setTop g) target := by
  obtain ⟨mk, methM, hnamed, hmethM, hstM, habM⟩ := Cond.instanceMethod_spec hinst
  obtain ⟨m8, methM', cM, hn8, hmethM', -, -, -, -, -, -, hsigM⟩ := Cond.codeWith_spec hcode
  cases Option.some.inj (hn8.symm.trans hnamed)
  cases hmethM.symm.trans hmethM'
  obtain ⟨c2, r2, m2, q1, q2, q3, q4, kP, hkP, hkPi⟩ := Cond.selects_spec hsel
  cases hcls.symm.trans q1
  cases (State.methodFound?_of_named hnamed hy).symm.trans q2
  cases hnamed.symm.trans q3
  have hselP : selectMethod e.platform s.vm cellB.cls mk = .method mk := by rw [Launch.admits_selectMethod X.admits]; exact q4
  obtain ⟨vm₁, X₁, hstep₁⟩ := X.invokevirtual hexec hown hlink hnamed hmethM hstM hkP hkPi hy (a := b) (cell := cellB) hcell
    (fun z h => by rw [h] at hobj; cases hobj) hselP hmethM habM hkP hkPi (g := g) hg (argsL := argsL) (rest := rest) (hlen _ hsigM) hstack hdg
  obtain ⟨v, B, X', hpost, hsteps⟩ := hK m meth c ⟨T.setVm vm₁, locs, cells, slots⟩ { g with stack := rest } (.invokevirtual index) mk (Value.ref b :: argsL).toArray X₁ hg hsize hdg hW (X₁.named hnamed) (hpre vm₁ X₁.warmed)
  exact ⟨v, vm₁, B, X₁.warmed, X', hpost, fun target h => hstep₁ _ fun acts => by rw [doInvoke_state]; exact hsteps.trans h⟩
abbrev vx_CVW (R : Room) (s : State) (args : Array Value) (own C : String) (index : Nat) (y : MethodName) (bytes : ByteArray) (maxL : Nat) (ret : Option FieldType) (hh : List (Nat × Nat × Nat × Nat)) (ws : List Cond) (rm : Room) (mc ms n : Nat) : Prop :=
  (rm.cells = mc ∧ rm.slots = ms ∧ rm.frames + 1 ≤ R.frames ∧ 8 + (maxL + 11) + rm.locals ≤ R.locals ∧ (∀ w ∈ ws, ∀ (a' : Array Value) (U : State), s.WarmedH U.vm → w.before a' U = true) ∧ Cond.codeWith y bytes maxL ret hh ∈ ws) ∧
  (Cond.codeWith y bytes maxL ret hh).before args s = true ∧ (Cond.initialized y.cls).before args s = true ∧ (y.cls ≠ "java/lang/invoke/MethodHandle" ∧ y.cls ≠ "java/lang/invoke/VarHandle") ∧
  (∀ sig, parseMethodDescriptor y.desc = some sig → n = sig.parameters.length) ∧ (Cond.methodLink own index y).before args s = true ∧ (Cond.instanceMethod y).before args s = true ∧ (Cond.selects C y y).before args s = true
theorem vx_cwVW {own C : String} {index maxL mc ms : Nat} {y : MethodName} {bytes : ByteArray} {ret : Option FieldType} {hh : List (Nat × Nat × Nat × Nat)} {Ts ws ws' : List Cond} {rm : Room} (n : Nat) (ht : ∀ w ∈ Ts, w.before args s = true) (hT : GoodIn Ts (wsV own index C y ws)) (hw : ws = Cond.codeWith y bytes maxL ret hh :: ws') (hrc : rm.cells = mc) (hrs : rm.slots = ms)
    (hd : y.cls = C ∧ y.cls ≠ "java/lang/invoke/MethodHandle" ∧ y.cls ≠ "java/lang/invoke/VarHandle" ∧ (parseMethodDescriptor y.desc).map (fun d => d.parameters.length) = some n) (hR : rm.frames + 1 ≤ R.frames ∧ 8 + (maxL + 11) + rm.locals ≤ R.locals) :
    vx_CVW R s args own C index y bytes maxL ret hh ws rm mc ms n := by
  obtain ⟨hC, hd⟩ := hd
  subst hC
  have ok : ∀ w ∈ wsV own index y.cls y ws, w.before args s = true := fun w h => ht w (hT w h).1
  have hG : GoodIn Ts ws := fun w h => hT w (by unfold wsV; exact List.mem_append_right _ h)
  have hc : Cond.codeWith y bytes maxL ret hh ∈ ws := by rw [hw]; exact List.mem_cons_self
  refine ⟨⟨hrc, hrs, hR.1, hR.2, pay_in ht hG, hc⟩, ht _ (hG _ hc).1, ok _ (by simp [wsV]), ⟨hd.1, hd.2.1⟩, fun sig h => ?_, ok _ (by simp [wsV]), ok _ (by simp [wsV]), ok _ (by simp [wsV])⟩
  have h2 := hd.2.2
  rw [h] at h2
  exact (Option.some.inj h2).symm
theorem vx_runVW {y : MethodName} {bytes cc : ByteArray} {maxL nL mc ms n index : Nat} {ret : Option FieldType} {hh : List (Nat × Nat × Nat × Nat)} {ws : List Cond} {rm : Room} {Pc : Array Value → State → Prop} {Qc : Array Value → State → Outcome → State → Prop} {free : Addr → Prop} {Ts : List Cond} {own C : String} {b : Addr} {As rest : List Value} {g : JFrame}
    (S : CallFix p m c cc nL s args Ts own) (hM : Met l y ws rm Pc Qc mc ms free) (cw : vx_CVW R s args own C index y bytes maxL ret hh ws rm mc ms n) (hp : PreV s H C b Pc As)
    (hg : g.method = m) (hn : As.length = n) (hsize : g.locals.size = nL) (hstack : g.stack = As.reverse ++ .ref b :: rest) (hW : 2 * g.monitorRoom + (rest.map fun v => v.category).sum ≤ 8) (hdg : decode cc g.pc = .ok (.invokevirtual index, 3)) (hf : cells + mc ≤ R.cells ∧ slots + ms ≤ R.slots) :
    va_Run p l e R s m args below meth c H locs cells slots mc ms g rest (Qc (Value.ref b :: As).toArray) free := by
  obtain ⟨⟨hrc, hrs, hfr, hlo, hws, hcw⟩, hcode, hini, hy, hlen, hl, hin, hse⟩ := cw
  have hK : Back l R p e below s args y 3 8 (PreOf R mc ms Pc) (PostOf Qc mc ms free) := va_backW (hh := hh) (bytes := bytes) (maxL := maxL) (ret := ret) hM hp.1 hrc hrs hfr hlo hws hcw (fun a' U hW => word_at hW (Or.inl (by first | rfl | simp [Cond.onTables, Cond.keeps, Cond.steady])) hini)
  obtain ⟨hx, hb, hml, ho, -⟩ := S
  obtain ⟨-, ⟨cellB, hcB, hoB, hclB⟩, hPc⟩ := hp
  intro T hT X
  obtain ⟨v, vm₁, ⟨U', l2, c2, s2⟩, hW₁, X', ⟨g', mk, t, L, e1, e2, hq, h1, hL, h2, h3⟩, st⟩ := vx_callVW X hx (C := C) (hh := hh) (bytes := bytes) (maxL := maxL) (ret := ret) ho hl hin hse hcode hy hK (by rw [hT]; exact hcB) hoB hclB hg (hsize.trans hml.symm) (argsL := As) (rest := rest) (fun sig h => hn.trans (hlen sig h)) hstack hW (by rw [hb]; exact hdg)
    (fun vm₁ hW₁ => ⟨hf.1, hf.2, hPc (T.setVm vm₁) hT hW₁⟩)
  dsimp only [Pt.U, Pt.locs, Pt.cells, Pt.slots] at X' e1 e2 h1 h2 h3 st
  subst h1; subst h2; subst h3
  exact ⟨v, (T.setVm vm₁).calling g' mk (Value.ref b :: As).toArray, t, U', L, hT, X', hL, e1, e2, hq, st⟩
section
variable {y : MethodName} {bytes cc : ByteArray} {maxL nL mc ms n index : Nat} {ret : Option FieldType} {ws : List Cond} {rm : Room} {Pc : Array Value → State → Prop} {Qc : Array Value → State → Outcome → State → Prop} {XC : String → State → State → Prop} {free : Addr → Prop} {Ts : List Cond} {own C : String} {b : Addr} {As rest : List Value} {g : JFrame}
theorem vx_runVX {hh : List (Nat × Nat × Nat × Nat)} (S : CallFix p m c cc nL s args Ts own) (hM : vx_Met l y ws rm Pc Qc XC mc ms free) (cw : vx_CVW R s args own C index y bytes maxL ret hh ws rm mc ms n) (hp : PreV s H C b Pc As)
    (hg : g.method = m) (hn : As.length = n) (hsize : g.locals.size = nL) (hstack : g.stack = As.reverse ++ .ref b :: rest) (hW : 2 * g.monitorRoom + (rest.map fun v => v.category).sum ≤ 8) (hdg : decode cc g.pc = .ok (.invokevirtual index, 3)) (hf : cells + mc ≤ R.cells ∧ slots + ms ≤ R.slots) :
    vx_Run p l e R s m args below meth c H locs cells slots mc ms g rest (Qc (Value.ref b :: As).toArray) XC free := by
  obtain ⟨⟨hrc, hrs, hfr, hlo, hws, hcw⟩, hcode, hini, hy, hlen, hl, hin, hse⟩ := cw
  have hK : vx_Back l R p e below s args y 3 8 (PreOf R mc ms Pc) (PostOf Qc mc ms free) (vx_Post XC mc ms free) := vx_backW (hh := hh) (bytes := bytes) (maxL := maxL) (ret := ret) hM hp.1 hrc hrs hfr hlo hws hcw (fun a' U hW => word_at hW (Or.inl (by first | rfl | simp [Cond.onTables, Cond.keeps, Cond.steady])) hini)
  obtain ⟨hx, hb, hml, ho, -⟩ := S
  obtain ⟨-, ⟨cellB, hcB, hoB, hclB⟩, hPc⟩ := hp
  intro T hT X
  rcases vx_callVX X hx (C := C) (hh := hh) (bytes := bytes) (maxL := maxL) (ret := ret) ho hl hin hse hcode hy hK (by rw [hT]; exact hcB) hoB hclB hg (hsize.trans hml.symm) (argsL := As) (rest := rest) (fun sig h => hn.trans (hlen sig h)) hstack hW (by rw [hb]; exact hdg)
    (fun vm₁ hW₁ => ⟨hf.1, hf.2, hPc (T.setVm vm₁) hT hW₁⟩) with ⟨v, vm₁, ⟨U', l2, c2, s2⟩, hW₁, X', ⟨g', mk, t, L, e1, e2, hq, h1, hL, h2, h3⟩, st⟩ | ⟨q, vm₁, ⟨U', l2, c2, s2⟩, hW₁, X', ⟨g', mk, t, L, E, ce, e1, e2, hq, hce, hcv, hcl, h1, hL, h2, h3⟩, st⟩
  · dsimp only [Pt.U, Pt.locs, Pt.cells, Pt.slots] at X' e1 e2 h1 h2 h3 st
    subst h1; subst h2; subst h3
    exact Or.inl ⟨v, (T.setVm vm₁).calling g' mk (Value.ref b :: As).toArray, t, U', L, hT, X', hL, e1, e2, hq, st⟩
  · dsimp only [Pt.U, Pt.locs, Pt.cells, Pt.slots] at X' e1 e2 h1 h2 h3 st hcl
    subst h1; subst h2; subst h3
    exact Or.inr ⟨q, (T.setVm vm₁).calling g' mk (Value.ref b :: As).toArray, t, U', L, E, ce, hT, X', hL, e1, e2, hq, hce, hcv, vx_cls hW₁ hcl, st⟩
theorem vx_runSX {hh : List (Nat × Nat × Nat × Nat)} (S : CallFix p m c cc nL s args Ts own) (hM : vx_Met l y ws rm Pc Qc XC mc ms free) (cw : vx_CSW R s args own index y bytes maxL ret hh ws rm mc ms n) (hp : PreS s H Pc As)
    (hg : g.method = m) (hn : As.length = n) (hsize : g.locals.size = nL) (hstack : g.stack = As.reverse ++ rest) (hW : 2 * g.monitorRoom + (rest.map fun v => v.category).sum ≤ 8) (hdg : decode cc g.pc = .ok (.invokestatic index, 3)) (hf : cells + mc ≤ R.cells ∧ slots + ms ≤ R.slots) :
    vx_Run p l e R s m args below meth c H locs cells slots mc ms g rest (Qc As.toArray) XC free := by
  obtain ⟨⟨hrc, hrs, hfr, hlo, hws, hcw⟩, hcode, hini, hy, hlen, hl, hstt⟩ := cw
  have hK : vx_Back l R p e below s args y 3 8 (PreOf R mc ms Pc) (PostOf Qc mc ms free) (vx_Post XC mc ms free) := vx_backW (hh := hh) (bytes := bytes) (maxL := maxL) (ret := ret) hM hp.1 hrc hrs hfr hlo hws hcw (fun a' U hW => word_at hW (Or.inl (by first | rfl | simp [Cond.onTables, Cond.keeps, Cond.steady])) hini)
  obtain ⟨hx, hb, hml, ho, -⟩ := S
  intro T hT X
  rcases vx_callSX X hx (hh := hh) (bytes := bytes) (maxL := maxL) (ret := ret) ho hl hstt hini hcode hy hK hg (hsize.trans hml.symm) (argsL := As) (rest := rest) (fun sig h => hn.trans (hlen sig h)) hstack hW (by rw [hb]; exact hdg)
    (fun vm₁ hW₁ => ⟨hf.1, hf.2, hp.2 (T.setVm vm₁) hT hW₁⟩) with ⟨v, vm₁, ⟨U', l2, c2, s2⟩, hW₁, X', ⟨g', mk, t, L, e1, e2, hq, h1, hL, h2, h3⟩, st⟩ | ⟨q, vm₁, ⟨U', l2, c2, s2⟩, hW₁, X', ⟨g', mk, t, L, E, ce, e1, e2, hq, hce, hcv, hcl, h1, hL, h2, h3⟩, st⟩
  · dsimp only [Pt.U, Pt.locs, Pt.cells, Pt.slots] at X' e1 e2 h1 h2 h3 st
    subst h1; subst h2; subst h3
    exact Or.inl ⟨v, (T.setVm vm₁).calling g' mk As.toArray, t, U', L, hT, X', hL, e1, e2, hq, st⟩
  · dsimp only [Pt.U, Pt.locs, Pt.cells, Pt.slots] at X' e1 e2 h1 h2 h3 st hcl
    subst h1; subst h2; subst h3
    exact Or.inr ⟨q, (T.setVm vm₁).calling g' mk As.toArray, t, U', L, E, ce, hT, X', hL, e1, e2, hq, hce, hcv, vx_cls hW₁ hcl, st⟩
end
end VXH
theorem vx_ofWH {l : Launch} {y : MethodName} {ws ws' : List Cond} {rm : Room} {Pc : Array Value → State → Prop} {Qc : Array Value → State → Outcome → State → Prop} {XC : String → State → State → Prop} {mc ms : Nat} {free : Addr → Prop} {cc : ByteArray} {maxL : Nat} {ret : Option FieldType} {hh : List (Nat × Nat × Nat × Nat)}
    (hy : plainName y.cls = true) (hw : ws = Cond.codeWith y cc maxL ret hh :: ws')
    (body : ∀ p e s m args below meth c s₁, BodyLoose p l y (headSpec ws rm) cc maxL ret e s m args below meth c s₁ → c.maxLocals = maxL → Pc args s →
      W p l e (headSpec ws rm).room s m args below meth c s.heap [] 0 0 (vx_MQ below Qc XC args s mc ms free) (entryFrame m args maxL)) : vx_Met l y ws rm Pc Qc XC mc ms free := by
  refine MetFree.of_bodyS (code := cc) (maxLocals := maxL) (ret := ret) hy ?_ ?_
  · intro args s m h hn
    obtain ⟨m9, meth, c, hn9, h1, h2, h3, h4, -, h5, h6, -⟩ := Cond.codeWith_spec (atoms_spec (ws := ws) h _ (by rw [hw]; exact List.mem_cons_self))
    cases hn.symm.trans hn9
    exact ⟨meth, c, h1, h2, h3, h4, h5, h6⟩
  · intro p e s m args below meth c s₁ B hml hP _
    have hh0 : s₁.heap = s.heap := by rw [B.state]; rfl
    obtain ⟨t, a1, o, b1, b2, b3⟩ := body p e s m args below meth c s₁ B hml hP s₁ hh0 (Stand.of_body B)
    exact ⟨t, o, a1, b1, b2, b3⟩
/-! ===== END ===== -/
end
section
def RX0 : String := "PellMills$History"
def TX0 : u_T := fun k => match k with
  | 0 => ("PellMills$History", "rows", "[LPellMills$State;", true)
  | _ => ("PellMills$History", "size", "I", false)
def tyX0 : Nat → FieldType := fun k => match k with
  | 0 => .array (.object "PellMills$State")
  | _ => .int
abbrev wsX00 : List Cond := u_ws RX0 TX0 2
theorem nmX0 : ∀ a, a < 2 → ∀ b, b < 2 → a ≠ b → (TX0 a).2.1 ≠ (TX0 b).2.1 := by decide +kernel
theorem tyX0_ok : ∀ k, k < 2 → parseFieldDescriptor (TX0 k).2.2.1 = some (tyX0 k) := by decide +kernel
abbrev cX0_init : ByteArray := prog_2_method_1_code
def yX0_init : MethodName := ⟨RX0, "<init>", "(LPellMills$Roots;)V"⟩
abbrev cX0_record : ByteArray := prog_2_method_2_code
def yX0_record : MethodName := ⟨RX0, "record", "(LPellMills$State;)V"⟩
abbrev cX0_restoreLatest : ByteArray := prog_2_method_3_code
def yX0_restoreLatest : MethodName := ⟨RX0, "restoreLatest", "(LPellMills$State;)Z"⟩
abbrev cX0_moveOldestToEnd : ByteArray := prog_2_method_4_code
def yX0_moveOldestToEnd : MethodName := ⟨RX0, "moveOldestToEnd", "()V"⟩
def RX1 : String := "PellMills$Power"
def TX1 : u_T := fun k => match k with
  | 0 => ("PellMills$Power", "unitX", "I", false)
  | 1 => ("PellMills$Power", "unitY", "I", false)
  | 2 => ("PellMills$Power", "number", "I", false)
  | 3 => ("PellMills$Power", "x", "J", false)
  | _ => ("PellMills$Power", "y", "J", false)
def tyX1 : Nat → FieldType := fun k => match k with
  | 0 => .int
  | 1 => .int
  | 2 => .int
  | 3 => .long
  | _ => .long
abbrev wsX10 : List Cond := u_ws RX1 TX1 5
theorem nmX1 : ∀ a, a < 5 → ∀ b, b < 5 → a ≠ b → (TX1 a).2.1 ≠ (TX1 b).2.1 := by decide +kernel
theorem tyX1_ok : ∀ k, k < 5 → parseFieldDescriptor (TX1 k).2.2.1 = some (tyX1 k) := by decide +kernel
abbrev cX1_init : ByteArray := prog_3_method_1_code
def yX1_init : MethodName := ⟨RX1, "<init>", "()V"⟩
abbrev cX1_begin : ByteArray := prog_3_method_2_code
def yX1_begin : MethodName := ⟨RX1, "begin", "(III)V"⟩
abbrev cX1_climb : ByteArray := prog_3_method_3_code
def yX1_climb : MethodName := ⟨RX1, "climb", "()Z"⟩
abbrev cX1_isAheadOf : ByteArray := prog_3_method_4_code
def yX1_isAheadOf : MethodName := ⟨RX1, "isAheadOf", "(LPellMills$Power;)Z"⟩
def RX2 : String := "PellMills$PowerSet"
def TX2 : u_T := fun k => match k with
  | 0 => ("PellMills$PowerSet", "roots", "LPellMills$Roots;", true)
  | 1 => ("PellMills$PowerSet", "power", "LPellMills$Power;", true)
  | 2 => ("PellMills$PowerSet", "xs", "[J", true)
  | _ => ("PellMills$PowerSet", "size", "I", false)
def tyX2 : Nat → FieldType := fun k => match k with
  | 0 => .object "PellMills$Roots"
  | 1 => .object "PellMills$Power"
  | 2 => .array .long
  | _ => .int
abbrev wsX20 : List Cond := u_ws RX2 TX2 4
theorem nmX2 : ∀ a, a < 4 → ∀ b, b < 4 → a ≠ b → (TX2 a).2.1 ≠ (TX2 b).2.1 := by decide +kernel
theorem tyX2_ok : ∀ k, k < 4 → parseFieldDescriptor (TX2 k).2.2.1 = some (tyX2 k) := by decide +kernel
abbrev cX2_init : ByteArray := prog_4_method_1_code
def yX2_init : MethodName := ⟨RX2, "<init>", "(LPellMills$Roots;)V"⟩
abbrev cX2_fill : ByteArray := prog_4_method_2_code
def yX2_fill : MethodName := ⟨RX2, "fill", "(LPellMills$State;)V"⟩
abbrev cX2_x : ByteArray := prog_4_method_3_code
def yX2_x : MethodName := ⟨RX2, "x", "(I)J"⟩
abbrev cX2_addPowers : ByteArray := prog_4_method_4_code
def yX2_addPowers : MethodName := ⟨RX2, "addPowers", "(I)V"⟩
abbrev cX2_add : ByteArray := prog_4_method_5_code
def yX2_add : MethodName := ⟨RX2, "add", "(J)V"⟩
def RX3 : String := "PellMills$Queue"
def TX3 : u_T := fun k => match k with
  | 0 => ("PellMills$Queue", "roots", "LPellMills$Roots;", true)
  | 1 => ("PellMills$Queue", "waiting", "[LPellMills$Power;", true)
  | _ => ("PellMills$Queue", "size", "I", false)
def tyX3 : Nat → FieldType := fun k => match k with
  | 0 => .object "PellMills$Roots"
  | 1 => .array (.object "PellMills$Power")
  | _ => .int
abbrev wsX30 : List Cond := u_ws RX3 TX3 3
theorem nmX3 : ∀ a, a < 3 → ∀ b, b < 3 → a ≠ b → (TX3 a).2.1 ≠ (TX3 b).2.1 := by decide +kernel
theorem tyX3_ok : ∀ k, k < 3 → parseFieldDescriptor (TX3 k).2.2.1 = some (tyX3 k) := by decide +kernel
abbrev cX3_init : ByteArray := prog_5_method_1_code
def yX3_init : MethodName := ⟨RX3, "<init>", "(LPellMills$Roots;)V"⟩
abbrev cX3_fill : ByteArray := prog_5_method_2_code
def yX3_fill : MethodName := ⟨RX3, "fill", "(LPellMills$State;)V"⟩
abbrev cX3_pass : ByteArray := prog_5_method_3_code
def yX3_pass : MethodName := ⟨RX3, "pass", "(I)V"⟩
abbrev cX3_first : ByteArray := prog_5_method_4_code
def yX3_first : MethodName := ⟨RX3, "first", "()LPellMills$Power;"⟩
abbrev cX3_passFirst : ByteArray := prog_5_method_5_code
def yX3_passFirst : MethodName := ⟨RX3, "passFirst", "()V"⟩
abbrev cX3_firstIndex : ByteArray := prog_5_method_6_code
def yX3_firstIndex : MethodName := ⟨RX3, "firstIndex", "()I"⟩
def RX4 : String := "PellMills$Roots"
def TX4 : u_T := fun k => match k with
  | 0 => ("PellMills$Roots", "terms", "LPellMills$Terms;", true)
  | 1 => ("PellMills$Roots", "periods", "[I", true)
  | 2 => ("PellMills$Roots", "unitXs", "[I", true)
  | 3 => ("PellMills$Roots", "unitYs", "[I", true)
  | _ => ("PellMills$Roots", "greatestPowers", "[I", true)
def tyX4 : Nat → FieldType := fun k => match k with
  | 0 => .object "PellMills$Terms"
  | 1 => .array .int
  | 2 => .array .int
  | 3 => .array .int
  | _ => .array .int
abbrev wsX40 : List Cond := u_ws RX4 TX4 5
theorem nmX4 : ∀ a, a < 5 → ∀ b, b < 5 → a ≠ b → (TX4 a).2.1 ≠ (TX4 b).2.1 := by decide +kernel
theorem tyX4_ok : ∀ k, k < 5 → parseFieldDescriptor (TX4 k).2.2.1 = some (tyX4 k) := by decide +kernel
abbrev cX4_init : ByteArray := prog_6_method_1_code
def yX4_init : MethodName := ⟨RX4, "<init>", "()V"⟩
abbrev cX4_findUnit : ByteArray := prog_6_method_2_code
def yX4_findUnit : MethodName := ⟨RX4, "findUnit", "(I)V"⟩
abbrev cX4_findGreatestPower : ByteArray := prog_6_method_3_code
def yX4_findGreatestPower : MethodName := ⟨RX4, "findGreatestPower", "(ILPellMills$Power;)V"⟩
abbrev cX4_begin : ByteArray := prog_6_method_4_code
def yX4_begin : MethodName := ⟨RX4, "begin", "(LPellMills$Power;I)V"⟩
abbrev cX4_term : ByteArray := prog_6_method_5_code
def yX4_term : MethodName := ⟨RX4, "term", "(II)I"⟩
abbrev cX4_isSquare : ByteArray := prog_6_method_6_code
def yX4_isSquare : MethodName := ⟨RX4, "isSquare", "(I)Z"⟩
abbrev cX4_period : ByteArray := prog_6_method_7_code
def yX4_period : MethodName := ⟨RX4, "period", "(I)I"⟩
abbrev cX4_xOfUnit : ByteArray := prog_6_method_8_code
def yX4_xOfUnit : MethodName := ⟨RX4, "xOfUnit", "(I)I"⟩
abbrev cX4_yOfUnit : ByteArray := prog_6_method_9_code
def yX4_yOfUnit : MethodName := ⟨RX4, "yOfUnit", "(I)I"⟩
abbrev cX4_signOfUnit : ByteArray := prog_6_method_10_code
def yX4_signOfUnit : MethodName := ⟨RX4, "signOfUnit", "(I)I"⟩
abbrev cX4_greatestPower : ByteArray := prog_6_method_11_code
def yX4_greatestPower : MethodName := ⟨RX4, "greatestPower", "(I)I"⟩
def RX5 : String := "PellMills$State"
def TX5 : u_T := fun k => match k with
  | 0 => ("PellMills$State", "roots", "LPellMills$Roots;", true)
  | 1 => ("PellMills$State", "heights", "[I", true)
  | 2 => ("PellMills$State", "laid", "I", false)
  | _ => ("PellMills$State", "millings", "I", false)
def tyX5 : Nat → FieldType := fun k => match k with
  | 0 => .object "PellMills$Roots"
  | 1 => .array .int
  | 2 => .int
  | _ => .int
abbrev wsX50 : List Cond := u_ws RX5 TX5 4
theorem nmX5 : ∀ a, a < 4 → ∀ b, b < 4 → a ≠ b → (TX5 a).2.1 ≠ (TX5 b).2.1 := by decide +kernel
theorem tyX5_ok : ∀ k, k < 4 → parseFieldDescriptor (TX5 k).2.2.1 = some (tyX5 k) := by decide +kernel
abbrev cX5_init : ByteArray := prog_7_method_1_code
def yX5_init : MethodName := ⟨RX5, "<init>", "(LPellMills$Roots;)V"⟩
abbrev cX5_copyFrom : ByteArray := prog_7_method_2_code
def yX5_copyFrom : MethodName := ⟨RX5, "copyFrom", "(LPellMills$State;)V"⟩
abbrev cX5_has : ByteArray := prog_7_method_3_code
def yX5_has : MethodName := ⟨RX5, "has", "(I)Z"⟩
abbrev cX5_heightOf : ByteArray := prog_7_method_4_code
def yX5_heightOf : MethodName := ⟨RX5, "heightOf", "(I)I"⟩
abbrev cX5_sign : ByteArray := prog_7_method_5_code
def yX5_sign : MethodName := ⟨RX5, "sign", "(I)I"⟩
abbrev cX5_reasonAgainstLaying : ByteArray := prog_7_method_6_code
def yX5_reasonAgainstLaying : MethodName := ⟨RX5, "reasonAgainstLaying", "(I)I"⟩
abbrev cX5_causeAgainst : ByteArray := prog_7_method_7_code
def yX5_causeAgainst : MethodName := ⟨RX5, "causeAgainst", "(CI)I"⟩
abbrev cX5_carryOut : ByteArray := prog_7_method_8_code
def yX5_carryOut : MethodName := ⟨RX5, "carryOut", "(CI)V"⟩
abbrev cX5_setHeight : ByteArray := prog_7_method_9_code
def yX5_setHeight : MethodName := ⟨RX5, "setHeight", "(II)V"⟩
def RX6 : String := "PellMills$Terms"
def TX6 : u_T := fun k => match k with
  | 0 => ("PellMills$Terms", "number", "I", false)
  | 1 => ("PellMills$Terms", "whole", "I", false)
  | 2 => ("PellMills$Terms", "m", "I", false)
  | 3 => ("PellMills$Terms", "q", "I", false)
  | _ => ("PellMills$Terms", "term", "I", false)
def tyX6 : Nat → FieldType := fun k => match k with
  | 0 => .int
  | 1 => .int
  | 2 => .int
  | 3 => .int
  | _ => .int
abbrev wsX60 : List Cond := u_ws RX6 TX6 5
theorem nmX6 : ∀ a, a < 5 → ∀ b, b < 5 → a ≠ b → (TX6 a).2.1 ≠ (TX6 b).2.1 := by decide +kernel
theorem tyX6_ok : ∀ k, k < 5 → parseFieldDescriptor (TX6 k).2.2.1 = some (tyX6 k) := by decide +kernel
abbrev cX6_init : ByteArray := prog_8_method_1_code
def yX6_init : MethodName := ⟨RX6, "<init>", "()V"⟩
abbrev cX6_begin : ByteArray := prog_8_method_2_code
def yX6_begin : MethodName := ⟨RX6, "begin", "(I)V"⟩
abbrev cX6_next : ByteArray := prog_8_method_3_code
def yX6_next : MethodName := ⟨RX6, "next", "()V"⟩
abbrev cX6_isSquare : ByteArray := prog_8_method_4_code
def yX6_isSquare : MethodName := ⟨RX6, "isSquare", "()Z"⟩
abbrev cX6_endsPeriod : ByteArray := prog_8_method_5_code
def yX6_endsPeriod : MethodName := ⟨RX6, "endsPeriod", "()Z"⟩
def RX7 : String := "PellMills$Text"
def TX7 : u_T := fun k => match k with
  | 0 => ("PellMills$Text", "characters", "[C", true)
  | 1 => ("PellMills$Text", "length", "I", false)
  | 2 => ("PellMills$Text", "orders", "I", false)
  | 3 => ("PellMills$Text", "position", "I", false)
  | 4 => ("PellMills$Text", "reason", "I", false)
  | _ => ("PellMills$Text", "cause", "I", false)
def tyX7 : Nat → FieldType := fun k => match k with
  | 0 => .array .char
  | 1 => .int
  | 2 => .int
  | 3 => .int
  | 4 => .int
  | _ => .int
abbrev wsX70 : List Cond := u_ws RX7 TX7 6
theorem nmX7 : ∀ a, a < 6 → ∀ b, b < 6 → a ≠ b → (TX7 a).2.1 ≠ (TX7 b).2.1 := by decide +kernel
theorem tyX7_ok : ∀ k, k < 6 → parseFieldDescriptor (TX7 k).2.2.1 = some (tyX7 k) := by decide +kernel
abbrev cX7_init : ByteArray := prog_9_method_1_code
def yX7_init : MethodName := ⟨RX7, "<init>", "()V"⟩
abbrev cX7_append : ByteArray := prog_9_method_2_code
def yX7_append : MethodName := ⟨RX7, "append", "(C)Z"⟩
abbrev cX7_findsFault : ByteArray := prog_9_method_3_code
def yX7_findsFault : MethodName := ⟨RX7, "findsFault", "(LPellMills$State;LPellMills$State;)Z"⟩
abbrev cX7_readOrder : ByteArray := prog_9_method_4_code
def yX7_readOrder : MethodName := ⟨RX7, "readOrder", "(LPellMills$State;)V"⟩
abbrev cX7_breaksOffAt : ByteArray := prog_9_method_5_code
def yX7_breaksOffAt : MethodName := ⟨RX7, "breaksOffAt", "(I)I"⟩
abbrev cX7_numberAt : ByteArray := prog_9_method_6_code
def yX7_numberAt : MethodName := ⟨RX7, "numberAt", "(II)I"⟩
abbrev cX7_characterAt : ByteArray := prog_9_method_7_code
def yX7_characterAt : MethodName := ⟨RX7, "characterAt", "(I)C"⟩
abbrev cX7_isDigit : ByteArray := prog_9_method_8_code
def yX7_isDigit : MethodName := ⟨RX7, "isDigit", "(I)Z"⟩
abbrev cX7_isOrder : ByteArray := prog_9_method_9_code
def yX7_isOrder : MethodName := ⟨RX7, "isOrder", "(C)Z"⟩
def RX8 : String := "PellMills"
def TX8 : u_T := fun k => match k with
  | 0 => ("PellMills", "roots", "LPellMills$Roots;", true)
  | 1 => ("PellMills", "power", "LPellMills$Power;", true)
  | 2 => ("PellMills", "queue", "LPellMills$Queue;", true)
  | 3 => ("PellMills", "powerSet", "LPellMills$PowerSet;", true)
  | 4 => ("PellMills", "now", "LPellMills$State;", true)
  | 5 => ("PellMills", "trial", "LPellMills$State;", true)
  | 6 => ("PellMills", "snapshot", "LPellMills$State;", true)
  | 7 => ("PellMills", "history", "LPellMills$History;", true)
  | 8 => ("PellMills", "text", "LPellMills$Text;", true)
  | _ => ("PellMills", "hasSnapshot", "Z", false)
def tyX8 : Nat → FieldType := fun k => match k with
  | 0 => .object "PellMills$Roots"
  | 1 => .object "PellMills$Power"
  | 2 => .object "PellMills$Queue"
  | 3 => .object "PellMills$PowerSet"
  | 4 => .object "PellMills$State"
  | 5 => .object "PellMills$State"
  | 6 => .object "PellMills$State"
  | 7 => .object "PellMills$History"
  | 8 => .object "PellMills$Text"
  | _ => .boolean
abbrev wsX80 : List Cond := u_ws RX8 TX8 10
theorem nmX8 : ∀ a, a < 10 → ∀ b, b < 10 → a ≠ b → (TX8 a).2.1 ≠ (TX8 b).2.1 := by decide +kernel
theorem tyX8_ok : ∀ k, k < 10 → parseFieldDescriptor (TX8 k).2.2.1 = some (tyX8 k) := by decide +kernel
abbrev cX8_init : ByteArray := prog_1_method_1_code
def yX8_init : MethodName := ⟨RX8, "<init>", "()V"⟩
abbrev cX8_lay : ByteArray := prog_1_method_2_code
def yX8_lay : MethodName := ⟨RX8, "lay", "(I)I"⟩
abbrev cX8_take : ByteArray := prog_1_method_3_code
def yX8_take : MethodName := ⟨RX8, "take", "(I)I"⟩
abbrev cX8_mill : ByteArray := prog_1_method_4_code
def yX8_mill : MethodName := ⟨RX8, "mill", "(I)J"⟩
abbrev cX8_millBack : ByteArray := prog_1_method_5_code
def yX8_millBack : MethodName := ⟨RX8, "millBack", "(I)J"⟩
abbrev cX8_whyNot : ByteArray := prog_1_method_6_code
def yX8_whyNot : MethodName := ⟨RX8, "whyNot", "(I)I"⟩
abbrev cX8_periodOf : ByteArray := prog_1_method_7_code
def yX8_periodOf : MethodName := ⟨RX8, "periodOf", "(I)I"⟩
abbrev cX8_termAt : ByteArray := prog_1_method_8_code
def yX8_termAt : MethodName := ⟨RX8, "termAt", "(II)I"⟩
abbrev cX8_unitX : ByteArray := prog_1_method_9_code
def yX8_unitX : MethodName := ⟨RX8, "unitX", "(I)I"⟩
abbrev cX8_unitY : ByteArray := prog_1_method_10_code
def yX8_unitY : MethodName := ⟨RX8, "unitY", "(I)I"⟩
abbrev cX8_leastY : ByteArray := prog_1_method_11_code
def yX8_leastY : MethodName := ⟨RX8, "leastY", "(I)I"⟩
abbrev cX8_leastYBySearch : ByteArray := prog_1_method_12_code
def yX8_leastYBySearch : MethodName := ⟨RX8, "leastYBySearch", "(I)I"⟩
abbrev cX8_stones : ByteArray := prog_1_method_13_code
def yX8_stones : MethodName := ⟨RX8, "stones", "()I"⟩
abbrev cX8_isLaid : ByteArray := prog_1_method_14_code
def yX8_isLaid : MethodName := ⟨RX8, "isLaid", "(I)Z"⟩
abbrev cX8_stoneFrom : ByteArray := prog_1_method_15_code
def yX8_stoneFrom : MethodName := ⟨RX8, "stoneFrom", "(I)I"⟩
abbrev cX8_powerOf : ByteArray := prog_1_method_16_code
def yX8_powerOf : MethodName := ⟨RX8, "powerOf", "(I)I"⟩
abbrev cX8_xOf : ByteArray := prog_1_method_17_code
def yX8_xOf : MethodName := ⟨RX8, "xOf", "(I)J"⟩
abbrev cX8_yOf : ByteArray := prog_1_method_18_code
def yX8_yOf : MethodName := ⟨RX8, "yOf", "(I)J"⟩
abbrev cX8_signOf : ByteArray := prog_1_method_19_code
def yX8_signOf : MethodName := ⟨RX8, "signOf", "(I)I"⟩
abbrev cX8_signByRemainders : ByteArray := prog_1_method_20_code
def yX8_signByRemainders : MethodName := ⟨RX8, "signByRemainders", "(I)I"⟩
abbrev cX8_nearRoot : ByteArray := prog_1_method_21_code
def yX8_nearRoot : MethodName := ⟨RX8, "nearRoot", "(I)F"⟩
abbrev cX8_solutions : ByteArray := prog_1_method_22_code
def yX8_solutions : MethodName := ⟨RX8, "solutions", "()I"⟩
abbrev cX8_xAt : ByteArray := prog_1_method_23_code
def yX8_xAt : MethodName := ⟨RX8, "xAt", "(I)J"⟩
abbrev cX8_xAtBySet : ByteArray := prog_1_method_24_code
def yX8_xAtBySet : MethodName := ⟨RX8, "xAtBySet", "(I)J"⟩
abbrev cX8_stoneAt : ByteArray := prog_1_method_25_code
def yX8_stoneAt : MethodName := ⟨RX8, "stoneAt", "(I)I"⟩
abbrev cX8_solutionsUpTo : ByteArray := prog_1_method_26_code
def yX8_solutionsUpTo : MethodName := ⟨RX8, "solutionsUpTo", "(J)I"⟩
abbrev cX8_milled : ByteArray := prog_1_method_27_code
def yX8_milled : MethodName := ⟨RX8, "milled", "()I"⟩
abbrev cX8_minusStones : ByteArray := prog_1_method_28_code
def yX8_minusStones : MethodName := ⟨RX8, "minusStones", "()I"⟩
abbrev cX8_keep : ByteArray := prog_1_method_29_code
def yX8_keep : MethodName := ⟨RX8, "keep", "()I"⟩
abbrev cX8_goBack : ByteArray := prog_1_method_30_code
def yX8_goBack : MethodName := ⟨RX8, "goBack", "()I"⟩
abbrev cX8_states : ByteArray := prog_1_method_31_code
def yX8_states : MethodName := ⟨RX8, "states", "()I"⟩
abbrev cX8_undo : ByteArray := prog_1_method_32_code
def yX8_undo : MethodName := ⟨RX8, "undo", "()I"⟩
abbrev cX8_type : ByteArray := prog_1_method_33_code
def yX8_type : MethodName := ⟨RX8, "type", "(I)I"⟩
abbrev cX8_clearText : ByteArray := prog_1_method_34_code
def yX8_clearText : MethodName := ⟨RX8, "clearText", "()I"⟩
abbrev cX8_faultPosition : ByteArray := prog_1_method_35_code
def yX8_faultPosition : MethodName := ⟨RX8, "faultPosition", "()I"⟩
abbrev cX8_faultReason : ByteArray := prog_1_method_36_code
def yX8_faultReason : MethodName := ⟨RX8, "faultReason", "()I"⟩
abbrev cX8_faultCause : ByteArray := prog_1_method_37_code
def yX8_faultCause : MethodName := ⟨RX8, "faultCause", "()I"⟩
abbrev cX8_play : ByteArray := prog_1_method_38_code
def yX8_play : MethodName := ⟨RX8, "play", "()I"⟩
abbrev cX8_isNumber : ByteArray := prog_1_method_39_code
def yX8_isNumber : MethodName := ⟨RX8, "isNumber", "(I)Z"⟩
abbrev cX8_requireNumber : ByteArray := prog_1_method_40_code
def yX8_requireNumber : MethodName := ⟨RX8, "requireNumber", "(I)V"⟩
abbrev cX8_requireRoot : ByteArray := prog_1_method_41_code
def yX8_requireRoot : MethodName := ⟨RX8, "requireRoot", "(I)V"⟩
abbrev cX8_requireLaid : ByteArray := prog_1_method_42_code
def yX8_requireLaid : MethodName := ⟨RX8, "requireLaid", "(I)V"⟩
abbrev cX8_requireFault : ByteArray := prog_1_method_43_code
def yX8_requireFault : MethodName := ⟨RX8, "requireFault", "()V"⟩
abbrev cX8_change : ByteArray := prog_1_method_44_code
def yX8_change : MethodName := ⟨RX8, "change", "(CI)V"⟩
abbrev cX8_powerOfLaid : ByteArray := prog_1_method_45_code
def yX8_powerOfLaid : MethodName := ⟨RX8, "powerOfLaid", "(I)LPellMills$Power;"⟩
abbrev cX8_solutionByQueue : ByteArray := prog_1_method_46_code
def yX8_solutionByQueue : MethodName := ⟨RX8, "solutionByQueue", "(I)LPellMills$Power;"⟩
abbrev cX8_countUpTo : ByteArray := prog_1_method_47_code
def yX8_countUpTo : MethodName := ⟨RX8, "countUpTo", "(J)I"⟩
abbrev cX8_countPowersUpTo : ByteArray := prog_1_method_48_code
def yX8_countPowersUpTo : MethodName := ⟨RX8, "countPowersUpTo", "(IJ)I"⟩
abbrev cX8_searchLeastY : ByteArray := prog_1_method_49_code
def yX8_searchLeastY : MethodName := ⟨RX8, "searchLeastY", "(I)I"⟩
abbrev cX8_wholeRoot : ByteArray := prog_1_method_50_code
def yX8_wholeRoot : MethodName := ⟨RX8, "wholeRoot", "(I)I"⟩
def RX9 : String := "PellMillsModel"
def TX9 : u_T := fun k => match k with
  | 0 => ("PellMillsModel", "s", "[I", true)
  | 1 => ("PellMillsModel", "before", "[I", true)
  | 2 => ("PellMillsModel", "kept", "[I", true)
  | 3 => ("PellMillsModel", "isKept", "Z", false)
  | 4 => ("PellMillsModel", "past", "[I", true)
  | 5 => ("PellMillsModel", "known", "I", false)
  | 6 => ("PellMillsModel", "text", "[I", true)
  | 7 => ("PellMillsModel", "length", "I", false)
  | 8 => ("PellMillsModel", "thrown", "I", false)
  | 9 => ("PellMillsModel", "m", "I", false)
  | 10 => ("PellMillsModel", "q", "I", false)
  | 11 => ("PellMillsModel", "term", "I", false)
  | 12 => ("PellMillsModel", "formerX", "J", false)
  | 13 => ("PellMillsModel", "formerY", "J", false)
  | 14 => ("PellMillsModel", "nowX", "J", false)
  | 15 => ("PellMillsModel", "nowY", "J", false)
  | 16 => ("PellMillsModel", "unitOfX", "J", false)
  | 17 => ("PellMillsModel", "unitOfY", "J", false)
  | 18 => ("PellMillsModel", "unitSign", "I", false)
  | 19 => ("PellMillsModel", "powerX", "J", false)
  | 20 => ("PellMillsModel", "powerY", "J", false)
  | 21 => ("PellMillsModel", "nextX", "[J", true)
  | 22 => ("PellMillsModel", "nextY", "[J", true)
  | 23 => ("PellMillsModel", "spot", "I", false)
  | 24 => ("PellMillsModel", "begin", "I", false)
  | 25 => ("PellMillsModel", "isForm", "Z", false)
  | 26 => ("PellMillsModel", "letter", "I", false)
  | 27 => ("PellMillsModel", "first", "I", false)
  | 28 => ("PellMillsModel", "reason", "I", false)
  | _ => ("PellMillsModel", "cause", "I", false)
def tyX9 : Nat → FieldType := fun k => match k with
  | 0 => .array .int
  | 1 => .array .int
  | 2 => .array .int
  | 3 => .boolean
  | 4 => .array .int
  | 5 => .int
  | 6 => .array .int
  | 7 => .int
  | 8 => .int
  | 9 => .int
  | 10 => .int
  | 11 => .int
  | 12 => .long
  | 13 => .long
  | 14 => .long
  | 15 => .long
  | 16 => .long
  | 17 => .long
  | 18 => .int
  | 19 => .long
  | 20 => .long
  | 21 => .array .long
  | 22 => .array .long
  | 23 => .int
  | 24 => .int
  | 25 => .boolean
  | 26 => .int
  | 27 => .int
  | 28 => .int
  | _ => .int
abbrev wsX90 : List Cond := u_ws RX9 TX9 30
theorem nmX9 : ∀ a, a < 30 → ∀ b, b < 30 → a ≠ b → (TX9 a).2.1 ≠ (TX9 b).2.1 := by decide +kernel
theorem tyX9_ok : ∀ k, k < 30 → parseFieldDescriptor (TX9 k).2.2.1 = some (tyX9 k) := by decide +kernel
abbrev cX9_init : ByteArray := prog_11_method_1_code
def yX9_init : MethodName := ⟨RX9, "<init>", "()V"⟩
abbrev cX9_thrown : ByteArray := prog_11_method_2_code
def yX9_thrown : MethodName := ⟨RX9, "thrown", "()I"⟩
abbrev cX9_fails : ByteArray := prog_11_method_3_code
def yX9_fails : MethodName := ⟨RX9, "fails", "(I)I"⟩
abbrev cX9_in : ByteArray := prog_11_method_4_code
def yX9_in : MethodName := ⟨RX9, "in", "(III)Z"⟩
abbrev cX9_copies : ByteArray := prog_11_method_5_code
def yX9_copies : MethodName := ⟨RX9, "copies", "([II[II)V"⟩
abbrev cX9_begins : ByteArray := prog_11_method_6_code
def yX9_begins : MethodName := ⟨RX9, "begins", "()V"⟩
abbrev cX9_records : ByteArray := prog_11_method_7_code
def yX9_records : MethodName := ⟨RX9, "records", "()V"⟩
abbrev cX9_ends : ByteArray := prog_11_method_8_code
def yX9_ends : MethodName := ⟨RX9, "ends", "(I)I"⟩
abbrev cX9_isNumber : ByteArray := prog_11_method_9_code
def yX9_isNumber : MethodName := ⟨RX9, "isNumber", "(I)Z"⟩
abbrev cX9_root : ByteArray := prog_11_method_10_code
def yX9_root : MethodName := ⟨RX9, "root", "(I)I"⟩
abbrev cX9_isSquare : ByteArray := prog_11_method_11_code
def yX9_isSquare : MethodName := ⟨RX9, "isSquare", "(I)Z"⟩
abbrev cX9_beginsTerms : ByteArray := prog_11_method_12_code
def yX9_beginsTerms : MethodName := ⟨RX9, "beginsTerms", "(I)V"⟩
abbrev cX9_nextTerm : ByteArray := prog_11_method_13_code
def yX9_nextTerm : MethodName := ⟨RX9, "nextTerm", "(I)V"⟩
abbrev cX9_adds : ByteArray := prog_11_method_14_code
def yX9_adds : MethodName := ⟨RX9, "adds", "()V"⟩
abbrev cX9_period : ByteArray := prog_11_method_15_code
def yX9_period : MethodName := ⟨RX9, "period", "(I)I"⟩
abbrev cX9_stand : ByteArray := prog_11_method_16_code
def yX9_stand : MethodName := ⟨RX9, "stand", "(I)I"⟩
abbrev cX9_puts : ByteArray := prog_11_method_17_code
def yX9_puts : MethodName := ⟨RX9, "puts", "(II)V"⟩
abbrev cX9_many : ByteArray := prog_11_method_18_code
def yX9_many : MethodName := ⟨RX9, "many", "()I"⟩
abbrev cX9_beginsPowers : ByteArray := prog_11_method_19_code
def yX9_beginsPowers : MethodName := ⟨RX9, "beginsPowers", "(I)V"⟩
abbrev cX9_grows : ByteArray := prog_11_method_20_code
def yX9_grows : MethodName := ⟨RX9, "grows", "(I)Z"⟩
abbrev cX9_reaches : ByteArray := prog_11_method_21_code
def yX9_reaches : MethodName := ⟨RX9, "reaches", "(II)V"⟩
abbrev cX9_reason : ByteArray := prog_11_method_22_code
def yX9_reason : MethodName := ⟨RX9, "reason", "(I)I"⟩
abbrev cX9_goLay : ByteArray := prog_11_method_23_code
def yX9_goLay : MethodName := ⟨RX9, "goLay", "(I)I"⟩
abbrev cX9_goTake : ByteArray := prog_11_method_24_code
def yX9_goTake : MethodName := ⟨RX9, "goTake", "(I)I"⟩
abbrev cX9_goMill : ByteArray := prog_11_method_25_code
def yX9_goMill : MethodName := ⟨RX9, "goMill", "(I)I"⟩
abbrev cX9_goBackward : ByteArray := prog_11_method_26_code
def yX9_goBackward : MethodName := ⟨RX9, "goBackward", "(I)I"⟩
abbrev cX9_lay : ByteArray := prog_11_method_27_code
def yX9_lay : MethodName := ⟨RX9, "lay", "(I)I"⟩
abbrev cX9_take : ByteArray := prog_11_method_28_code
def yX9_take : MethodName := ⟨RX9, "take", "(I)I"⟩
abbrev cX9_mill : ByteArray := prog_11_method_29_code
def yX9_mill : MethodName := ⟨RX9, "mill", "(I)J"⟩
abbrev cX9_millBack : ByteArray := prog_11_method_30_code
def yX9_millBack : MethodName := ⟨RX9, "millBack", "(I)J"⟩
abbrev cX9_undo : ByteArray := prog_11_method_31_code
def yX9_undo : MethodName := ⟨RX9, "undo", "()I"⟩
abbrev cX9_keep : ByteArray := prog_11_method_32_code
def yX9_keep : MethodName := ⟨RX9, "keep", "()I"⟩
abbrev cX9_goBack : ByteArray := prog_11_method_33_code
def yX9_goBack : MethodName := ⟨RX9, "goBack", "()I"⟩
abbrev cX9_asks : ByteArray := prog_11_method_34_code
def yX9_asks : MethodName := ⟨RX9, "asks", "(Z)Z"⟩
abbrev cX9_whyNot : ByteArray := prog_11_method_35_code
def yX9_whyNot : MethodName := ⟨RX9, "whyNot", "(I)I"⟩
abbrev cX9_asksRoot : ByteArray := prog_11_method_36_code
def yX9_asksRoot : MethodName := ⟨RX9, "asksRoot", "(IZ)Z"⟩
abbrev cX9_periodOf : ByteArray := prog_11_method_37_code
def yX9_periodOf : MethodName := ⟨RX9, "periodOf", "(I)I"⟩
abbrev cX9_termAt : ByteArray := prog_11_method_38_code
def yX9_termAt : MethodName := ⟨RX9, "termAt", "(II)I"⟩
abbrev cX9_unitX : ByteArray := prog_11_method_39_code
def yX9_unitX : MethodName := ⟨RX9, "unitX", "(I)I"⟩
abbrev cX9_unitY : ByteArray := prog_11_method_40_code
def yX9_unitY : MethodName := ⟨RX9, "unitY", "(I)I"⟩
abbrev cX9_least : ByteArray := prog_11_method_41_code
def yX9_least : MethodName := ⟨RX9, "least", "(I)I"⟩
abbrev cX9_leastY : ByteArray := prog_11_method_42_code
def yX9_leastY : MethodName := ⟨RX9, "leastY", "(I)I"⟩
abbrev cX9_leastYBySearch : ByteArray := prog_11_method_43_code
def yX9_leastYBySearch : MethodName := ⟨RX9, "leastYBySearch", "(I)I"⟩
abbrev cX9_stones : ByteArray := prog_11_method_44_code
def yX9_stones : MethodName := ⟨RX9, "stones", "()I"⟩
abbrev cX9_isLaid : ByteArray := prog_11_method_45_code
def yX9_isLaid : MethodName := ⟨RX9, "isLaid", "(I)Z"⟩
abbrev cX9_stoneFrom : ByteArray := prog_11_method_46_code
def yX9_stoneFrom : MethodName := ⟨RX9, "stoneFrom", "(I)I"⟩
abbrev cX9_asksStone : ByteArray := prog_11_method_47_code
def yX9_asksStone : MethodName := ⟨RX9, "asksStone", "(I)Z"⟩
abbrev cX9_powerOf : ByteArray := prog_11_method_48_code
def yX9_powerOf : MethodName := ⟨RX9, "powerOf", "(I)I"⟩
abbrev cX9_xOf : ByteArray := prog_11_method_49_code
def yX9_xOf : MethodName := ⟨RX9, "xOf", "(I)J"⟩
abbrev cX9_yOf : ByteArray := prog_11_method_50_code
def yX9_yOf : MethodName := ⟨RX9, "yOf", "(I)J"⟩
abbrev cX9_sign : ByteArray := prog_11_method_51_code
def yX9_sign : MethodName := ⟨RX9, "sign", "(I)I"⟩
abbrev cX9_signOf : ByteArray := prog_11_method_52_code
def yX9_signOf : MethodName := ⟨RX9, "signOf", "(I)I"⟩
abbrev cX9_signByRemainders : ByteArray := prog_11_method_53_code
def yX9_signByRemainders : MethodName := ⟨RX9, "signByRemainders", "(I)I"⟩
abbrev cX9_nearRoot : ByteArray := prog_11_method_54_code
def yX9_nearRoot : MethodName := ⟨RX9, "nearRoot", "(I)F"⟩
abbrev cX9_goesOn : ByteArray := prog_11_method_55_code
def yX9_goesOn : MethodName := ⟨RX9, "goesOn", "(I)V"⟩
abbrev cX9_beginsSolutions : ByteArray := prog_11_method_56_code
def yX9_beginsSolutions : MethodName := ⟨RX9, "beginsSolutions", "()V"⟩
abbrev cX9_leastNext : ByteArray := prog_11_method_57_code
def yX9_leastNext : MethodName := ⟨RX9, "leastNext", "()I"⟩
abbrev cX9_countTo : ByteArray := prog_11_method_58_code
def yX9_countTo : MethodName := ⟨RX9, "countTo", "(J)I"⟩
abbrev cX9_solutions : ByteArray := prog_11_method_59_code
def yX9_solutions : MethodName := ⟨RX9, "solutions", "()I"⟩
abbrev cX9_solution : ByteArray := prog_11_method_60_code
def yX9_solution : MethodName := ⟨RX9, "solution", "(I)I"⟩
abbrev cX9_solutionX : ByteArray := prog_11_method_61_code
def yX9_solutionX : MethodName := ⟨RX9, "solutionX", "(I)J"⟩
abbrev cX9_xAt : ByteArray := prog_11_method_62_code
def yX9_xAt : MethodName := ⟨RX9, "xAt", "(I)J"⟩
abbrev cX9_xAtBySet : ByteArray := prog_11_method_63_code
def yX9_xAtBySet : MethodName := ⟨RX9, "xAtBySet", "(I)J"⟩
abbrev cX9_stoneAt : ByteArray := prog_11_method_64_code
def yX9_stoneAt : MethodName := ⟨RX9, "stoneAt", "(I)I"⟩
abbrev cX9_solutionsUpTo : ByteArray := prog_11_method_65_code
def yX9_solutionsUpTo : MethodName := ⟨RX9, "solutionsUpTo", "(J)I"⟩
abbrev cX9_milled : ByteArray := prog_11_method_66_code
def yX9_milled : MethodName := ⟨RX9, "milled", "()I"⟩
abbrev cX9_minusStones : ByteArray := prog_11_method_67_code
def yX9_minusStones : MethodName := ⟨RX9, "minusStones", "()I"⟩
abbrev cX9_states : ByteArray := prog_11_method_68_code
def yX9_states : MethodName := ⟨RX9, "states", "()I"⟩
abbrev cX9_type : ByteArray := prog_11_method_69_code
def yX9_type : MethodName := ⟨RX9, "type", "(I)I"⟩
abbrev cX9_clearText : ByteArray := prog_11_method_70_code
def yX9_clearText : MethodName := ⟨RX9, "clearText", "()I"⟩
abbrev cX9_here : ByteArray := prog_11_method_71_code
def yX9_here : MethodName := ⟨RX9, "here", "()I"⟩
abbrev cX9_takes : ByteArray := prog_11_method_72_code
def yX9_takes : MethodName := ⟨RX9, "takes", "(Z)V"⟩
abbrev cX9_takesNumber : ByteArray := prog_11_method_73_code
def yX9_takesNumber : MethodName := ⟨RX9, "takesNumber", "()I"⟩
abbrev cX9_takesOrder : ByteArray := prog_11_method_74_code
def yX9_takesOrder : MethodName := ⟨RX9, "takesOrder", "()V"⟩
abbrev cX9_doesOrder : ByteArray := prog_11_method_75_code
def yX9_doesOrder : MethodName := ⟨RX9, "doesOrder", "()I"⟩
abbrev cX9_doesAll : ByteArray := prog_11_method_76_code
def yX9_doesAll : MethodName := ⟨RX9, "doesAll", "()I"⟩
abbrev cX9_faultTold : ByteArray := prog_11_method_77_code
def yX9_faultTold : MethodName := ⟨RX9, "faultTold", "(I)I"⟩
abbrev cX9_faultPosition : ByteArray := prog_11_method_78_code
def yX9_faultPosition : MethodName := ⟨RX9, "faultPosition", "()I"⟩
abbrev cX9_faultReason : ByteArray := prog_11_method_79_code
def yX9_faultReason : MethodName := ⟨RX9, "faultReason", "()I"⟩
abbrev cX9_faultCause : ByteArray := prog_11_method_80_code
def yX9_faultCause : MethodName := ⟨RX9, "faultCause", "()I"⟩
abbrev cX9_play : ByteArray := prog_11_method_81_code
def yX9_play : MethodName := ⟨RX9, "play", "()I"⟩
def RJx145de : String := "java/io/Serializable"
def RJ9 : String := "java/lang/Math"
abbrev cJ9_floorMod_f86c9 : ByteArray := prog_16_method_52_code
def yJ9_floorMod_f86c9 : MethodName := ⟨RJ9, "floorMod", "(JJ)J"⟩
def RJ0 : String := "java/lang/String"
def RJ10 : String := "java/lang/System"
def RJ7 : String := "java/util/Arrays"
abbrev cJ7_fill_53178 : ByteArray := prog_21_method_103_code
def yJ7_fill_53178 : MethodName := ⟨RJ7, "fill", "([II)V"⟩
def RL : String := "PellMillsLaw"
abbrev cL_lay : ByteArray := method_3_code
def yL_lay : MethodName := ⟨RL, "lay", "(LPellMills;I[J)I"⟩
abbrev cL_take : ByteArray := method_4_code
def yL_take : MethodName := ⟨RL, "take", "(LPellMills;I[J)I"⟩
abbrev cL_mill : ByteArray := method_5_code
def yL_mill : MethodName := ⟨RL, "mill", "(LPellMills;I[J)I"⟩
abbrev cL_millBack : ByteArray := method_6_code
def yL_millBack : MethodName := ⟨RL, "millBack", "(LPellMills;I[J)I"⟩
abbrev cL_whyNot : ByteArray := method_7_code
def yL_whyNot : MethodName := ⟨RL, "whyNot", "(LPellMills;I[J)I"⟩
abbrev cL_periodOf : ByteArray := method_8_code
def yL_periodOf : MethodName := ⟨RL, "periodOf", "(LPellMills;I[J)I"⟩
abbrev cL_termAt : ByteArray := method_9_code
def yL_termAt : MethodName := ⟨RL, "termAt", "(LPellMills;II[J)I"⟩
abbrev cL_unitX : ByteArray := method_10_code
def yL_unitX : MethodName := ⟨RL, "unitX", "(LPellMills;I[J)I"⟩
abbrev cL_unitY : ByteArray := method_11_code
def yL_unitY : MethodName := ⟨RL, "unitY", "(LPellMills;I[J)I"⟩
abbrev cL_leastY : ByteArray := method_12_code
def yL_leastY : MethodName := ⟨RL, "leastY", "(LPellMills;I[J)I"⟩
abbrev cL_leastYBySearch : ByteArray := method_13_code
def yL_leastYBySearch : MethodName := ⟨RL, "leastYBySearch", "(LPellMills;I[J)I"⟩
abbrev cL_isLaid : ByteArray := method_14_code
def yL_isLaid : MethodName := ⟨RL, "isLaid", "(LPellMills;I[J)I"⟩
abbrev cL_stoneFrom : ByteArray := method_15_code
def yL_stoneFrom : MethodName := ⟨RL, "stoneFrom", "(LPellMills;I[J)I"⟩
abbrev cL_powerOf : ByteArray := method_16_code
def yL_powerOf : MethodName := ⟨RL, "powerOf", "(LPellMills;I[J)I"⟩
abbrev cL_xOf : ByteArray := method_17_code
def yL_xOf : MethodName := ⟨RL, "xOf", "(LPellMills;I[J)I"⟩
abbrev cL_yOf : ByteArray := method_18_code
def yL_yOf : MethodName := ⟨RL, "yOf", "(LPellMills;I[J)I"⟩
abbrev cL_signOf : ByteArray := method_19_code
def yL_signOf : MethodName := ⟨RL, "signOf", "(LPellMills;I[J)I"⟩
abbrev cL_signByRemainders : ByteArray := method_20_code
def yL_signByRemainders : MethodName := ⟨RL, "signByRemainders", "(LPellMills;I[J)I"⟩
abbrev cL_nearRoot : ByteArray := method_21_code
def yL_nearRoot : MethodName := ⟨RL, "nearRoot", "(LPellMills;I[D)I"⟩
abbrev cL_xAt : ByteArray := method_22_code
def yL_xAt : MethodName := ⟨RL, "xAt", "(LPellMills;I[J)I"⟩
abbrev cL_xAtBySet : ByteArray := method_23_code
def yL_xAtBySet : MethodName := ⟨RL, "xAtBySet", "(LPellMills;I[J)I"⟩
abbrev cL_stoneAt : ByteArray := method_24_code
def yL_stoneAt : MethodName := ⟨RL, "stoneAt", "(LPellMills;I[J)I"⟩
abbrev cL_solutionsUpTo : ByteArray := method_25_code
def yL_solutionsUpTo : MethodName := ⟨RL, "solutionsUpTo", "(LPellMills;J[J)I"⟩
abbrev cL_goBack : ByteArray := method_26_code
def yL_goBack : MethodName := ⟨RL, "goBack", "(LPellMills;[J)I"⟩
abbrev cL_undo : ByteArray := method_27_code
def yL_undo : MethodName := ⟨RL, "undo", "(LPellMills;[J)I"⟩
abbrev cL_type : ByteArray := method_28_code
def yL_type : MethodName := ⟨RL, "type", "(LPellMills;I[J)I"⟩
abbrev cL_faultPosition : ByteArray := method_29_code
def yL_faultPosition : MethodName := ⟨RL, "faultPosition", "(LPellMills;[J)I"⟩
abbrev cL_faultReason : ByteArray := method_30_code
def yL_faultReason : MethodName := ⟨RL, "faultReason", "(LPellMills;[J)I"⟩
abbrev cL_faultCause : ByteArray := method_31_code
def yL_faultCause : MethodName := ⟨RL, "faultCause", "(LPellMills;[J)I"⟩
abbrev cL_play : ByteArray := method_32_code
def yL_play : MethodName := ⟨RL, "play", "(LPellMills;[J)I"⟩
abbrev cL_law : ByteArray := code
def yL_law : MethodName := ⟨RL, "law", "([I)Z"⟩
abbrev vwCl : List vw_C := [(RX0, TX0, 2), (RX1, TX1, 5), (RX2, TX2, 4), (RX3, TX3, 3), (RX4, TX4, 5), (RX5, TX5, 4), (RX6, TX6, 5), (RX7, TX7, 6), (RX8, TX8, 10), (RX9, TX9, 30)]
end
section
theorem dX0_init_0 : decode cX0_init 0 = .ok (.aload_n 0, 1) := by decide +kernel
theorem dX0_init_1 : decode cX0_init 1 = .ok (.invokespecial 3, 3) := by decide +kernel
theorem dX0_init_4 : decode cX0_init 4 = .ok (.aload_n 0, 1) := by decide +kernel
theorem dX0_init_5 : decode cX0_init 5 = .ok (.iconst 4, 1) := by decide +kernel
theorem dX0_init_6 : decode cX0_init 6 = .ok (.anewarray 9, 3) := by decide +kernel
theorem dX0_init_9 : decode cX0_init 9 = .ok (.putfield 11, 3) := by decide +kernel
theorem dX0_init_12 : decode cX0_init 12 = .ok (.iconst 0, 1) := by decide +kernel
theorem dX0_init_13 : decode cX0_init 13 = .ok (.istore_n 2, 1) := by decide +kernel
theorem dX0_init_14 : decode cX0_init 14 = .ok (.iload_n 2, 1) := by decide +kernel
theorem dX0_init_15 : decode cX0_init 15 = .ok (.aload_n 0, 1) := by decide +kernel
theorem dX0_init_16 : decode cX0_init 16 = .ok (.getfield 11, 3) := by decide +kernel
theorem dX0_init_19 : decode cX0_init 19 = .ok (.arraylength, 1) := by decide +kernel
theorem dX0_init_20 : decode cX0_init 20 = .ok (.if_icmp .ge 23, 3) := by decide +kernel
theorem dX0_init_23 : decode cX0_init 23 = .ok (.aload_n 0, 1) := by decide +kernel
theorem dX0_init_24 : decode cX0_init 24 = .ok (.getfield 11, 3) := by decide +kernel
theorem dX0_init_27 : decode cX0_init 27 = .ok (.iload_n 2, 1) := by decide +kernel
theorem dX0_init_28 : decode cX0_init 28 = .ok (.new 9, 3) := by decide +kernel
theorem dX0_init_31 : decode cX0_init 31 = .ok (.dup, 1) := by decide +kernel
theorem dX0_init_32 : decode cX0_init 32 = .ok (.aload_n 1, 1) := by decide +kernel
theorem dX0_init_33 : decode cX0_init 33 = .ok (.invokespecial 17, 3) := by decide +kernel
theorem dX0_init_36 : decode cX0_init 36 = .ok (.aastore, 1) := by decide +kernel
theorem dX0_init_37 : decode cX0_init 37 = .ok (.iinc 2 1, 3) := by decide +kernel
theorem dX0_init_40 : decode cX0_init 40 = .ok (.goto (-26), 3) := by decide +kernel
theorem dX0_init_43 : decode cX0_init 43 = .ok (.return_, 1) := by decide +kernel
theorem dX0_record_0 : decode cX0_record 0 = .ok (.aload_n 0, 1) := by decide +kernel
theorem dX0_record_1 : decode cX0_record 1 = .ok (.getfield 20, 3) := by decide +kernel
theorem dX0_record_4 : decode cX0_record 4 = .ok (.aload_n 0, 1) := by decide +kernel
theorem dX0_record_5 : decode cX0_record 5 = .ok (.getfield 11, 3) := by decide +kernel
theorem dX0_record_8 : decode cX0_record 8 = .ok (.arraylength, 1) := by decide +kernel
theorem dX0_record_9 : decode cX0_record 9 = .ok (.if_icmp .ge 16, 3) := by decide +kernel
theorem dX0_record_12 : decode cX0_record 12 = .ok (.aload_n 0, 1) := by decide +kernel
theorem dX0_record_13 : decode cX0_record 13 = .ok (.dup, 1) := by decide +kernel
theorem dX0_record_14 : decode cX0_record 14 = .ok (.getfield 20, 3) := by decide +kernel
theorem dX0_record_17 : decode cX0_record 17 = .ok (.iconst 1, 1) := by decide +kernel
theorem dX0_record_18 : decode cX0_record 18 = .ok (.iadd, 1) := by decide +kernel
theorem dX0_record_19 : decode cX0_record 19 = .ok (.putfield 20, 3) := by decide +kernel
theorem dX0_record_22 : decode cX0_record 22 = .ok (.goto 7, 3) := by decide +kernel
theorem dX0_record_25 : decode cX0_record 25 = .ok (.aload_n 0, 1) := by decide +kernel
theorem dX0_record_26 : decode cX0_record 26 = .ok (.invokevirtual 24, 3) := by decide +kernel
theorem dX0_record_29 : decode cX0_record 29 = .ok (.aload_n 0, 1) := by decide +kernel
theorem dX0_record_30 : decode cX0_record 30 = .ok (.getfield 11, 3) := by decide +kernel
theorem dX0_record_33 : decode cX0_record 33 = .ok (.aload_n 0, 1) := by decide +kernel
theorem dX0_record_34 : decode cX0_record 34 = .ok (.getfield 20, 3) := by decide +kernel
theorem dX0_record_37 : decode cX0_record 37 = .ok (.iconst 1, 1) := by decide +kernel
theorem dX0_record_38 : decode cX0_record 38 = .ok (.isub, 1) := by decide +kernel
theorem dX0_record_39 : decode cX0_record 39 = .ok (.aaload, 1) := by decide +kernel
theorem dX0_record_40 : decode cX0_record 40 = .ok (.aload_n 1, 1) := by decide +kernel
theorem dX0_record_41 : decode cX0_record 41 = .ok (.invokevirtual 27, 3) := by decide +kernel
theorem dX0_record_44 : decode cX0_record 44 = .ok (.return_, 1) := by decide +kernel
theorem dX0_restoreLatest_0 : decode cX0_restoreLatest 0 = .ok (.aload_n 0, 1) := by decide +kernel
theorem dX0_restoreLatest_1 : decode cX0_restoreLatest 1 = .ok (.getfield 20, 3) := by decide +kernel
theorem dX0_restoreLatest_4 : decode cX0_restoreLatest 4 = .ok (.ifCond .ne 5, 3) := by decide +kernel
theorem dX0_restoreLatest_7 : decode cX0_restoreLatest 7 = .ok (.iconst 0, 1) := by decide +kernel
theorem dX0_restoreLatest_8 : decode cX0_restoreLatest 8 = .ok (.ireturn, 1) := by decide +kernel
theorem dX0_restoreLatest_9 : decode cX0_restoreLatest 9 = .ok (.aload_n 0, 1) := by decide +kernel
theorem dX0_restoreLatest_10 : decode cX0_restoreLatest 10 = .ok (.dup, 1) := by decide +kernel
theorem dX0_restoreLatest_11 : decode cX0_restoreLatest 11 = .ok (.getfield 20, 3) := by decide +kernel
theorem dX0_restoreLatest_14 : decode cX0_restoreLatest 14 = .ok (.iconst 1, 1) := by decide +kernel
theorem dX0_restoreLatest_15 : decode cX0_restoreLatest 15 = .ok (.isub, 1) := by decide +kernel
theorem dX0_restoreLatest_16 : decode cX0_restoreLatest 16 = .ok (.putfield 20, 3) := by decide +kernel
theorem dX0_restoreLatest_19 : decode cX0_restoreLatest 19 = .ok (.aload_n 1, 1) := by decide +kernel
theorem dX0_restoreLatest_20 : decode cX0_restoreLatest 20 = .ok (.aload_n 0, 1) := by decide +kernel
theorem dX0_restoreLatest_21 : decode cX0_restoreLatest 21 = .ok (.getfield 11, 3) := by decide +kernel
theorem dX0_restoreLatest_24 : decode cX0_restoreLatest 24 = .ok (.aload_n 0, 1) := by decide +kernel
theorem dX0_restoreLatest_25 : decode cX0_restoreLatest 25 = .ok (.getfield 20, 3) := by decide +kernel
theorem dX0_restoreLatest_28 : decode cX0_restoreLatest 28 = .ok (.aaload, 1) := by decide +kernel
theorem dX0_restoreLatest_29 : decode cX0_restoreLatest 29 = .ok (.invokevirtual 27, 3) := by decide +kernel
theorem dX0_restoreLatest_32 : decode cX0_restoreLatest 32 = .ok (.iconst 1, 1) := by decide +kernel
theorem dX0_restoreLatest_33 : decode cX0_restoreLatest 33 = .ok (.ireturn, 1) := by decide +kernel
theorem dX0_moveOldestToEnd_0 : decode cX0_moveOldestToEnd 0 = .ok (.aload_n 0, 1) := by decide +kernel
theorem dX0_moveOldestToEnd_1 : decode cX0_moveOldestToEnd 1 = .ok (.getfield 11, 3) := by decide +kernel
theorem dX0_moveOldestToEnd_4 : decode cX0_moveOldestToEnd 4 = .ok (.iconst 0, 1) := by decide +kernel
theorem dX0_moveOldestToEnd_5 : decode cX0_moveOldestToEnd 5 = .ok (.aaload, 1) := by decide +kernel
theorem dX0_moveOldestToEnd_6 : decode cX0_moveOldestToEnd 6 = .ok (.astore_n 1, 1) := by decide +kernel
theorem dX0_moveOldestToEnd_7 : decode cX0_moveOldestToEnd 7 = .ok (.iconst 1, 1) := by decide +kernel
theorem dX0_moveOldestToEnd_8 : decode cX0_moveOldestToEnd 8 = .ok (.istore_n 2, 1) := by decide +kernel
theorem dX0_moveOldestToEnd_9 : decode cX0_moveOldestToEnd 9 = .ok (.iload_n 2, 1) := by decide +kernel
theorem dX0_moveOldestToEnd_10 : decode cX0_moveOldestToEnd 10 = .ok (.aload_n 0, 1) := by decide +kernel
theorem dX0_moveOldestToEnd_11 : decode cX0_moveOldestToEnd 11 = .ok (.getfield 11, 3) := by decide +kernel
theorem dX0_moveOldestToEnd_14 : decode cX0_moveOldestToEnd 14 = .ok (.arraylength, 1) := by decide +kernel
theorem dX0_moveOldestToEnd_15 : decode cX0_moveOldestToEnd 15 = .ok (.if_icmp .ge 23, 3) := by decide +kernel
theorem dX0_moveOldestToEnd_18 : decode cX0_moveOldestToEnd 18 = .ok (.aload_n 0, 1) := by decide +kernel
theorem dX0_moveOldestToEnd_19 : decode cX0_moveOldestToEnd 19 = .ok (.getfield 11, 3) := by decide +kernel
theorem dX0_moveOldestToEnd_22 : decode cX0_moveOldestToEnd 22 = .ok (.iload_n 2, 1) := by decide +kernel
theorem dX0_moveOldestToEnd_23 : decode cX0_moveOldestToEnd 23 = .ok (.iconst 1, 1) := by decide +kernel
theorem dX0_moveOldestToEnd_24 : decode cX0_moveOldestToEnd 24 = .ok (.isub, 1) := by decide +kernel
theorem dX0_moveOldestToEnd_25 : decode cX0_moveOldestToEnd 25 = .ok (.aload_n 0, 1) := by decide +kernel
theorem dX0_moveOldestToEnd_26 : decode cX0_moveOldestToEnd 26 = .ok (.getfield 11, 3) := by decide +kernel
theorem dX0_moveOldestToEnd_29 : decode cX0_moveOldestToEnd 29 = .ok (.iload_n 2, 1) := by decide +kernel
theorem dX0_moveOldestToEnd_30 : decode cX0_moveOldestToEnd 30 = .ok (.aaload, 1) := by decide +kernel
theorem dX0_moveOldestToEnd_31 : decode cX0_moveOldestToEnd 31 = .ok (.aastore, 1) := by decide +kernel
theorem dX0_moveOldestToEnd_32 : decode cX0_moveOldestToEnd 32 = .ok (.iinc 2 1, 3) := by decide +kernel
theorem dX0_moveOldestToEnd_35 : decode cX0_moveOldestToEnd 35 = .ok (.goto (-26), 3) := by decide +kernel
theorem dX0_moveOldestToEnd_38 : decode cX0_moveOldestToEnd 38 = .ok (.aload_n 0, 1) := by decide +kernel
theorem dX0_moveOldestToEnd_39 : decode cX0_moveOldestToEnd 39 = .ok (.getfield 11, 3) := by decide +kernel
theorem dX0_moveOldestToEnd_42 : decode cX0_moveOldestToEnd 42 = .ok (.aload_n 0, 1) := by decide +kernel
theorem dX0_moveOldestToEnd_43 : decode cX0_moveOldestToEnd 43 = .ok (.getfield 11, 3) := by decide +kernel
theorem dX0_moveOldestToEnd_46 : decode cX0_moveOldestToEnd 46 = .ok (.arraylength, 1) := by decide +kernel
theorem dX0_moveOldestToEnd_47 : decode cX0_moveOldestToEnd 47 = .ok (.iconst 1, 1) := by decide +kernel
theorem dX0_moveOldestToEnd_48 : decode cX0_moveOldestToEnd 48 = .ok (.isub, 1) := by decide +kernel
theorem dX0_moveOldestToEnd_49 : decode cX0_moveOldestToEnd 49 = .ok (.aload_n 1, 1) := by decide +kernel
theorem dX0_moveOldestToEnd_50 : decode cX0_moveOldestToEnd 50 = .ok (.aastore, 1) := by decide +kernel
theorem dX0_moveOldestToEnd_51 : decode cX0_moveOldestToEnd 51 = .ok (.return_, 1) := by decide +kernel
theorem dX1_init_0 : decode cX1_init 0 = .ok (.aload_n 0, 1) := by decide +kernel
theorem dX1_init_1 : decode cX1_init 1 = .ok (.invokespecial 3, 3) := by decide +kernel
theorem dX1_init_4 : decode cX1_init 4 = .ok (.return_, 1) := by decide +kernel
theorem dX1_begin_0 : decode cX1_begin 0 = .ok (.aload_n 0, 1) := by decide +kernel
theorem dX1_begin_1 : decode cX1_begin 1 = .ok (.iload_n 1, 1) := by decide +kernel
theorem dX1_begin_2 : decode cX1_begin 2 = .ok (.putfield 9, 3) := by decide +kernel
theorem dX1_begin_5 : decode cX1_begin 5 = .ok (.aload_n 0, 1) := by decide +kernel
theorem dX1_begin_6 : decode cX1_begin 6 = .ok (.iload_n 2, 1) := by decide +kernel
theorem dX1_begin_7 : decode cX1_begin 7 = .ok (.putfield 15, 3) := by decide +kernel
theorem dX1_begin_10 : decode cX1_begin 10 = .ok (.aload_n 0, 1) := by decide +kernel
theorem dX1_begin_11 : decode cX1_begin 11 = .ok (.iload_n 3, 1) := by decide +kernel
theorem dX1_begin_12 : decode cX1_begin 12 = .ok (.putfield 18, 3) := by decide +kernel
theorem dX1_begin_15 : decode cX1_begin 15 = .ok (.aload_n 0, 1) := by decide +kernel
theorem dX1_begin_16 : decode cX1_begin 16 = .ok (.lconst 1, 1) := by decide +kernel
theorem dX1_begin_17 : decode cX1_begin 17 = .ok (.putfield 21, 3) := by decide +kernel
theorem dX1_begin_20 : decode cX1_begin 20 = .ok (.aload_n 0, 1) := by decide +kernel
theorem dX1_begin_21 : decode cX1_begin 21 = .ok (.lconst 0, 1) := by decide +kernel
theorem dX1_begin_22 : decode cX1_begin 22 = .ok (.putfield 25, 3) := by decide +kernel
theorem dX1_begin_25 : decode cX1_begin 25 = .ok (.return_, 1) := by decide +kernel
theorem dX1_climb_0 : decode cX1_climb 0 = .ok (.aload_n 0, 1) := by decide +kernel
theorem dX1_climb_1 : decode cX1_climb 1 = .ok (.getfield 15, 3) := by decide +kernel
theorem dX1_climb_4 : decode cX1_climb 4 = .ok (.ifCond .le 20, 3) := by decide +kernel
theorem dX1_climb_7 : decode cX1_climb 7 = .ok (.aload_n 0, 1) := by decide +kernel
theorem dX1_climb_8 : decode cX1_climb 8 = .ok (.getfield 21, 3) := by decide +kernel
theorem dX1_climb_11 : decode cX1_climb 11 = .ok (.ldc2_w 28, 3) := by decide +kernel
theorem dX1_climb_14 : decode cX1_climb 14 = .ok (.aload_n 0, 1) := by decide +kernel
theorem dX1_climb_15 : decode cX1_climb 15 = .ok (.getfield 15, 3) := by decide +kernel
theorem dX1_climb_18 : decode cX1_climb 18 = .ok (.i2l, 1) := by decide +kernel
theorem dX1_climb_19 : decode cX1_climb 19 = .ok (.ldiv, 1) := by decide +kernel
theorem dX1_climb_20 : decode cX1_climb 20 = .ok (.lcmp, 1) := by decide +kernel
theorem dX1_climb_21 : decode cX1_climb 21 = .ok (.ifCond .le 5, 3) := by decide +kernel
theorem dX1_climb_24 : decode cX1_climb 24 = .ok (.iconst 0, 1) := by decide +kernel
theorem dX1_climb_25 : decode cX1_climb 25 = .ok (.ireturn, 1) := by decide +kernel
theorem dX1_climb_26 : decode cX1_climb 26 = .ok (.aload_n 0, 1) := by decide +kernel
theorem dX1_climb_27 : decode cX1_climb 27 = .ok (.getfield 21, 3) := by decide +kernel
theorem dX1_climb_30 : decode cX1_climb 30 = .ok (.aload_n 0, 1) := by decide +kernel
theorem dX1_climb_31 : decode cX1_climb 31 = .ok (.getfield 15, 3) := by decide +kernel
theorem dX1_climb_34 : decode cX1_climb 34 = .ok (.i2l, 1) := by decide +kernel
theorem dX1_climb_35 : decode cX1_climb 35 = .ok (.lmul, 1) := by decide +kernel
theorem dX1_climb_36 : decode cX1_climb 36 = .ok (.aload_n 0, 1) := by decide +kernel
theorem dX1_climb_37 : decode cX1_climb 37 = .ok (.getfield 9, 3) := by decide +kernel
theorem dX1_climb_40 : decode cX1_climb 40 = .ok (.i2l, 1) := by decide +kernel
theorem dX1_climb_41 : decode cX1_climb 41 = .ok (.aload_n 0, 1) := by decide +kernel
theorem dX1_climb_42 : decode cX1_climb 42 = .ok (.getfield 25, 3) := by decide +kernel
theorem dX1_climb_45 : decode cX1_climb 45 = .ok (.lmul, 1) := by decide +kernel
theorem dX1_climb_46 : decode cX1_climb 46 = .ok (.aload_n 0, 1) := by decide +kernel
theorem dX1_climb_47 : decode cX1_climb 47 = .ok (.getfield 18, 3) := by decide +kernel
theorem dX1_climb_50 : decode cX1_climb 50 = .ok (.i2l, 1) := by decide +kernel
theorem dX1_climb_51 : decode cX1_climb 51 = .ok (.lmul, 1) := by decide +kernel
theorem dX1_climb_52 : decode cX1_climb 52 = .ok (.ladd, 1) := by decide +kernel
theorem dX1_climb_53 : decode cX1_climb 53 = .ok (.lstore_n 1, 1) := by decide +kernel
theorem dX1_climb_54 : decode cX1_climb 54 = .ok (.lload_n 1, 1) := by decide +kernel
theorem dX1_climb_55 : decode cX1_climb 55 = .ok (.ldc2_w 28, 3) := by decide +kernel
theorem dX1_climb_58 : decode cX1_climb 58 = .ok (.lcmp, 1) := by decide +kernel
theorem dX1_climb_59 : decode cX1_climb 59 = .ok (.ifCond .le 5, 3) := by decide +kernel
theorem dX1_climb_62 : decode cX1_climb 62 = .ok (.iconst 0, 1) := by decide +kernel
theorem dX1_climb_63 : decode cX1_climb 63 = .ok (.ireturn, 1) := by decide +kernel
theorem dX1_climb_64 : decode cX1_climb 64 = .ok (.aload_n 0, 1) := by decide +kernel
theorem dX1_climb_65 : decode cX1_climb 65 = .ok (.aload_n 0, 1) := by decide +kernel
theorem dX1_climb_66 : decode cX1_climb 66 = .ok (.getfield 21, 3) := by decide +kernel
theorem dX1_climb_69 : decode cX1_climb 69 = .ok (.aload_n 0, 1) := by decide +kernel
theorem dX1_climb_70 : decode cX1_climb 70 = .ok (.getfield 18, 3) := by decide +kernel
theorem dX1_climb_73 : decode cX1_climb 73 = .ok (.i2l, 1) := by decide +kernel
theorem dX1_climb_74 : decode cX1_climb 74 = .ok (.lmul, 1) := by decide +kernel
theorem dX1_climb_75 : decode cX1_climb 75 = .ok (.aload_n 0, 1) := by decide +kernel
theorem dX1_climb_76 : decode cX1_climb 76 = .ok (.getfield 25, 3) := by decide +kernel
theorem dX1_climb_79 : decode cX1_climb 79 = .ok (.aload_n 0, 1) := by decide +kernel
theorem dX1_climb_80 : decode cX1_climb 80 = .ok (.getfield 15, 3) := by decide +kernel
theorem dX1_climb_83 : decode cX1_climb 83 = .ok (.i2l, 1) := by decide +kernel
theorem dX1_climb_84 : decode cX1_climb 84 = .ok (.lmul, 1) := by decide +kernel
theorem dX1_climb_85 : decode cX1_climb 85 = .ok (.ladd, 1) := by decide +kernel
theorem dX1_climb_86 : decode cX1_climb 86 = .ok (.putfield 25, 3) := by decide +kernel
theorem dX1_climb_89 : decode cX1_climb 89 = .ok (.aload_n 0, 1) := by decide +kernel
theorem dX1_climb_90 : decode cX1_climb 90 = .ok (.lload_n 1, 1) := by decide +kernel
theorem dX1_climb_91 : decode cX1_climb 91 = .ok (.putfield 21, 3) := by decide +kernel
theorem dX1_climb_94 : decode cX1_climb 94 = .ok (.iconst 1, 1) := by decide +kernel
theorem dX1_climb_95 : decode cX1_climb 95 = .ok (.ireturn, 1) := by decide +kernel
theorem dX1_isAheadOf_0 : decode cX1_isAheadOf 0 = .ok (.aload_n 0, 1) := by decide +kernel
theorem dX1_isAheadOf_1 : decode cX1_isAheadOf 1 = .ok (.getfield 21, 3) := by decide +kernel
theorem dX1_isAheadOf_4 : decode cX1_isAheadOf 4 = .ok (.aload_n 1, 1) := by decide +kernel
theorem dX1_isAheadOf_5 : decode cX1_isAheadOf 5 = .ok (.getfield 21, 3) := by decide +kernel
theorem dX1_isAheadOf_8 : decode cX1_isAheadOf 8 = .ok (.lcmp, 1) := by decide +kernel
theorem dX1_isAheadOf_9 : decode cX1_isAheadOf 9 = .ok (.ifCond .eq 23, 3) := by decide +kernel
theorem dX1_isAheadOf_12 : decode cX1_isAheadOf 12 = .ok (.aload_n 0, 1) := by decide +kernel
theorem dX1_isAheadOf_13 : decode cX1_isAheadOf 13 = .ok (.getfield 21, 3) := by decide +kernel
theorem dX1_isAheadOf_16 : decode cX1_isAheadOf 16 = .ok (.aload_n 1, 1) := by decide +kernel
theorem dX1_isAheadOf_17 : decode cX1_isAheadOf 17 = .ok (.getfield 21, 3) := by decide +kernel
theorem dX1_isAheadOf_20 : decode cX1_isAheadOf 20 = .ok (.lcmp, 1) := by decide +kernel
theorem dX1_isAheadOf_21 : decode cX1_isAheadOf 21 = .ok (.ifCond .ge 7, 3) := by decide +kernel
theorem dX1_isAheadOf_24 : decode cX1_isAheadOf 24 = .ok (.iconst 1, 1) := by decide +kernel
theorem dX1_isAheadOf_25 : decode cX1_isAheadOf 25 = .ok (.goto 23, 3) := by decide +kernel
theorem dX1_isAheadOf_28 : decode cX1_isAheadOf 28 = .ok (.iconst 0, 1) := by decide +kernel
theorem dX1_isAheadOf_29 : decode cX1_isAheadOf 29 = .ok (.goto 19, 3) := by decide +kernel
theorem dX1_isAheadOf_32 : decode cX1_isAheadOf 32 = .ok (.aload_n 0, 1) := by decide +kernel
theorem dX1_isAheadOf_33 : decode cX1_isAheadOf 33 = .ok (.getfield 9, 3) := by decide +kernel
theorem dX1_isAheadOf_36 : decode cX1_isAheadOf 36 = .ok (.aload_n 1, 1) := by decide +kernel
theorem dX1_isAheadOf_37 : decode cX1_isAheadOf 37 = .ok (.getfield 9, 3) := by decide +kernel
theorem dX1_isAheadOf_40 : decode cX1_isAheadOf 40 = .ok (.if_icmp .ge 7, 3) := by decide +kernel
theorem dX1_isAheadOf_43 : decode cX1_isAheadOf 43 = .ok (.iconst 1, 1) := by decide +kernel
theorem dX1_isAheadOf_44 : decode cX1_isAheadOf 44 = .ok (.goto 4, 3) := by decide +kernel
theorem dX1_isAheadOf_47 : decode cX1_isAheadOf 47 = .ok (.iconst 0, 1) := by decide +kernel
theorem dX1_isAheadOf_48 : decode cX1_isAheadOf 48 = .ok (.ireturn, 1) := by decide +kernel
theorem dX2_init_0 : decode cX2_init 0 = .ok (.aload_n 0, 1) := by decide +kernel
theorem dX2_init_1 : decode cX2_init 1 = .ok (.invokespecial 3, 3) := by decide +kernel
theorem dX2_init_4 : decode cX2_init 4 = .ok (.aload_n 0, 1) := by decide +kernel
theorem dX2_init_5 : decode cX2_init 5 = .ok (.new 9, 3) := by decide +kernel
theorem dX2_init_8 : decode cX2_init 8 = .ok (.dup, 1) := by decide +kernel
theorem dX2_init_9 : decode cX2_init 9 = .ok (.invokespecial 11, 3) := by decide +kernel
theorem dX2_init_12 : decode cX2_init 12 = .ok (.putfield 12, 3) := by decide +kernel
theorem dX2_init_15 : decode cX2_init 15 = .ok (.aload_n 0, 1) := by decide +kernel
theorem dX2_init_16 : decode cX2_init 16 = .ok (.sipush 312, 3) := by decide +kernel
theorem dX2_init_19 : decode cX2_init 19 = .ok (.newarray .long, 2) := by decide +kernel
theorem dX2_init_21 : decode cX2_init 21 = .ok (.putfield 18, 3) := by decide +kernel
theorem dX2_init_24 : decode cX2_init 24 = .ok (.aload_n 0, 1) := by decide +kernel
theorem dX2_init_25 : decode cX2_init 25 = .ok (.aload_n 1, 1) := by decide +kernel
theorem dX2_init_26 : decode cX2_init 26 = .ok (.putfield 22, 3) := by decide +kernel
theorem dX2_init_29 : decode cX2_init 29 = .ok (.return_, 1) := by decide +kernel
theorem dX2_fill_0 : decode cX2_fill 0 = .ok (.aload_n 0, 1) := by decide +kernel
theorem dX2_fill_1 : decode cX2_fill 1 = .ok (.iconst 0, 1) := by decide +kernel
theorem dX2_fill_2 : decode cX2_fill 2 = .ok (.putfield 26, 3) := by decide +kernel
theorem dX2_fill_5 : decode cX2_fill 5 = .ok (.iconst 2, 1) := by decide +kernel
theorem dX2_fill_6 : decode cX2_fill 6 = .ok (.istore_n 2, 1) := by decide +kernel
theorem dX2_fill_7 : decode cX2_fill 7 = .ok (.iload_n 2, 1) := by decide +kernel
theorem dX2_fill_8 : decode cX2_fill 8 = .ok (.bipush 60, 2) := by decide +kernel
theorem dX2_fill_10 : decode cX2_fill 10 = .ok (.if_icmp .gt 22, 3) := by decide +kernel
theorem dX2_fill_13 : decode cX2_fill 13 = .ok (.aload_n 1, 1) := by decide +kernel
theorem dX2_fill_14 : decode cX2_fill 14 = .ok (.iload_n 2, 1) := by decide +kernel
theorem dX2_fill_15 : decode cX2_fill 15 = .ok (.invokevirtual 30, 3) := by decide +kernel
theorem dX2_fill_18 : decode cX2_fill 18 = .ok (.ifCond .eq 8, 3) := by decide +kernel
theorem dX2_fill_21 : decode cX2_fill 21 = .ok (.aload_n 0, 1) := by decide +kernel
theorem dX2_fill_22 : decode cX2_fill 22 = .ok (.iload_n 2, 1) := by decide +kernel
theorem dX2_fill_23 : decode cX2_fill 23 = .ok (.invokevirtual 36, 3) := by decide +kernel
theorem dX2_fill_26 : decode cX2_fill 26 = .ok (.iinc 2 1, 3) := by decide +kernel
theorem dX2_fill_29 : decode cX2_fill 29 = .ok (.goto (-22), 3) := by decide +kernel
theorem dX2_fill_32 : decode cX2_fill 32 = .ok (.return_, 1) := by decide +kernel
theorem dX2_x_0 : decode cX2_x 0 = .ok (.iload_n 1, 1) := by decide +kernel
theorem dX2_x_1 : decode cX2_x 1 = .ok (.ifCond .lt 20, 3) := by decide +kernel
theorem dX2_x_4 : decode cX2_x 4 = .ok (.iload_n 1, 1) := by decide +kernel
theorem dX2_x_5 : decode cX2_x 5 = .ok (.aload_n 0, 1) := by decide +kernel
theorem dX2_x_6 : decode cX2_x 6 = .ok (.getfield 26, 3) := by decide +kernel
theorem dX2_x_9 : decode cX2_x 9 = .ok (.if_icmp .ge 12, 3) := by decide +kernel
theorem dX2_x_12 : decode cX2_x 12 = .ok (.aload_n 0, 1) := by decide +kernel
theorem dX2_x_13 : decode cX2_x 13 = .ok (.getfield 18, 3) := by decide +kernel
theorem dX2_x_16 : decode cX2_x 16 = .ok (.iload_n 1, 1) := by decide +kernel
theorem dX2_x_17 : decode cX2_x 17 = .ok (.laload, 1) := by decide +kernel
theorem dX2_x_18 : decode cX2_x 18 = .ok (.goto 4, 3) := by decide +kernel
theorem dX2_x_21 : decode cX2_x 21 = .ok (.lconst 0, 1) := by decide +kernel
theorem dX2_x_22 : decode cX2_x 22 = .ok (.lreturn, 1) := by decide +kernel
theorem dX2_addPowers_0 : decode cX2_addPowers 0 = .ok (.aload_n 0, 1) := by decide +kernel
theorem dX2_addPowers_1 : decode cX2_addPowers 1 = .ok (.getfield 22, 3) := by decide +kernel
theorem dX2_addPowers_4 : decode cX2_addPowers 4 = .ok (.aload_n 0, 1) := by decide +kernel
theorem dX2_addPowers_5 : decode cX2_addPowers 5 = .ok (.getfield 12, 3) := by decide +kernel
theorem dX2_addPowers_8 : decode cX2_addPowers 8 = .ok (.iload_n 1, 1) := by decide +kernel
theorem dX2_addPowers_9 : decode cX2_addPowers 9 = .ok (.invokevirtual 40, 3) := by decide +kernel
theorem dX2_addPowers_12 : decode cX2_addPowers 12 = .ok (.iconst 1, 1) := by decide +kernel
theorem dX2_addPowers_13 : decode cX2_addPowers 13 = .ok (.istore_n 2, 1) := by decide +kernel
theorem dX2_addPowers_14 : decode cX2_addPowers 14 = .ok (.iload_n 2, 1) := by decide +kernel
theorem dX2_addPowers_15 : decode cX2_addPowers 15 = .ok (.ldc 46, 2) := by decide +kernel
theorem dX2_addPowers_17 : decode cX2_addPowers 17 = .ok (.if_icmp .gt 30, 3) := by decide +kernel
theorem dX2_addPowers_20 : decode cX2_addPowers 20 = .ok (.aload_n 0, 1) := by decide +kernel
theorem dX2_addPowers_21 : decode cX2_addPowers 21 = .ok (.getfield 12, 3) := by decide +kernel
theorem dX2_addPowers_24 : decode cX2_addPowers 24 = .ok (.invokevirtual 47, 3) := by decide +kernel
theorem dX2_addPowers_27 : decode cX2_addPowers 27 = .ok (.ifCond .eq 20, 3) := by decide +kernel
theorem dX2_addPowers_30 : decode cX2_addPowers 30 = .ok (.aload_n 0, 1) := by decide +kernel
theorem dX2_addPowers_31 : decode cX2_addPowers 31 = .ok (.aload_n 0, 1) := by decide +kernel
theorem dX2_addPowers_32 : decode cX2_addPowers 32 = .ok (.getfield 12, 3) := by decide +kernel
theorem dX2_addPowers_35 : decode cX2_addPowers 35 = .ok (.getfield 51, 3) := by decide +kernel
theorem dX2_addPowers_38 : decode cX2_addPowers 38 = .ok (.invokevirtual 55, 3) := by decide +kernel
theorem dX2_addPowers_41 : decode cX2_addPowers 41 = .ok (.iinc 2 1, 3) := by decide +kernel
theorem dX2_addPowers_44 : decode cX2_addPowers 44 = .ok (.goto (-30), 3) := by decide +kernel
theorem dX2_addPowers_47 : decode cX2_addPowers 47 = .ok (.return_, 1) := by decide +kernel
theorem dX2_add_0 : decode cX2_add 0 = .ok (.aload_n 0, 1) := by decide +kernel
theorem dX2_add_1 : decode cX2_add 1 = .ok (.getfield 26, 3) := by decide +kernel
theorem dX2_add_4 : decode cX2_add 4 = .ok (.aload_n 0, 1) := by decide +kernel
theorem dX2_add_5 : decode cX2_add 5 = .ok (.getfield 18, 3) := by decide +kernel
theorem dX2_add_8 : decode cX2_add 8 = .ok (.arraylength, 1) := by decide +kernel
theorem dX2_add_9 : decode cX2_add 9 = .ok (.if_icmp .lt 4, 3) := by decide +kernel
theorem dX2_add_12 : decode cX2_add 12 = .ok (.return_, 1) := by decide +kernel
theorem dX2_add_13 : decode cX2_add 13 = .ok (.aload_n 0, 1) := by decide +kernel
theorem dX2_add_14 : decode cX2_add 14 = .ok (.getfield 26, 3) := by decide +kernel
theorem dX2_add_17 : decode cX2_add 17 = .ok (.istore_n 3, 1) := by decide +kernel
theorem dX2_add_18 : decode cX2_add 18 = .ok (.iload_n 3, 1) := by decide +kernel
theorem dX2_add_19 : decode cX2_add 19 = .ok (.ifCond .le 36, 3) := by decide +kernel
theorem dX2_add_22 : decode cX2_add 22 = .ok (.aload_n 0, 1) := by decide +kernel
theorem dX2_add_23 : decode cX2_add 23 = .ok (.getfield 18, 3) := by decide +kernel
theorem dX2_add_26 : decode cX2_add 26 = .ok (.iload_n 3, 1) := by decide +kernel
theorem dX2_add_27 : decode cX2_add 27 = .ok (.iconst 1, 1) := by decide +kernel
theorem dX2_add_28 : decode cX2_add 28 = .ok (.isub, 1) := by decide +kernel
theorem dX2_add_29 : decode cX2_add 29 = .ok (.laload, 1) := by decide +kernel
theorem dX2_add_30 : decode cX2_add 30 = .ok (.lload_n 1, 1) := by decide +kernel
theorem dX2_add_31 : decode cX2_add 31 = .ok (.lcmp, 1) := by decide +kernel
theorem dX2_add_32 : decode cX2_add 32 = .ok (.ifCond .le 23, 3) := by decide +kernel
theorem dX2_add_35 : decode cX2_add 35 = .ok (.aload_n 0, 1) := by decide +kernel
theorem dX2_add_36 : decode cX2_add 36 = .ok (.getfield 18, 3) := by decide +kernel
theorem dX2_add_39 : decode cX2_add 39 = .ok (.iload_n 3, 1) := by decide +kernel
theorem dX2_add_40 : decode cX2_add 40 = .ok (.aload_n 0, 1) := by decide +kernel
theorem dX2_add_41 : decode cX2_add 41 = .ok (.getfield 18, 3) := by decide +kernel
theorem dX2_add_44 : decode cX2_add 44 = .ok (.iload_n 3, 1) := by decide +kernel
theorem dX2_add_45 : decode cX2_add 45 = .ok (.iconst 1, 1) := by decide +kernel
theorem dX2_add_46 : decode cX2_add 46 = .ok (.isub, 1) := by decide +kernel
theorem dX2_add_47 : decode cX2_add 47 = .ok (.laload, 1) := by decide +kernel
theorem dX2_add_48 : decode cX2_add 48 = .ok (.lastore, 1) := by decide +kernel
theorem dX2_add_49 : decode cX2_add 49 = .ok (.iinc 3 (-1), 3) := by decide +kernel
theorem dX2_add_52 : decode cX2_add 52 = .ok (.goto (-34), 3) := by decide +kernel
theorem dX2_add_55 : decode cX2_add 55 = .ok (.aload_n 0, 1) := by decide +kernel
theorem dX2_add_56 : decode cX2_add 56 = .ok (.getfield 18, 3) := by decide +kernel
theorem dX2_add_59 : decode cX2_add 59 = .ok (.iload_n 3, 1) := by decide +kernel
theorem dX2_add_60 : decode cX2_add 60 = .ok (.lload_n 1, 1) := by decide +kernel
theorem dX2_add_61 : decode cX2_add 61 = .ok (.lastore, 1) := by decide +kernel
theorem dX2_add_62 : decode cX2_add 62 = .ok (.aload_n 0, 1) := by decide +kernel
theorem dX2_add_63 : decode cX2_add 63 = .ok (.dup, 1) := by decide +kernel
theorem dX2_add_64 : decode cX2_add 64 = .ok (.getfield 26, 3) := by decide +kernel
theorem dX2_add_67 : decode cX2_add 67 = .ok (.iconst 1, 1) := by decide +kernel
theorem dX2_add_68 : decode cX2_add 68 = .ok (.iadd, 1) := by decide +kernel
theorem dX2_add_69 : decode cX2_add 69 = .ok (.putfield 26, 3) := by decide +kernel
theorem dX2_add_72 : decode cX2_add 72 = .ok (.return_, 1) := by decide +kernel
theorem dX3_init_0 : decode cX3_init 0 = .ok (.aload_n 0, 1) := by decide +kernel
theorem dX3_init_1 : decode cX3_init 1 = .ok (.invokespecial 3, 3) := by decide +kernel
theorem dX3_init_4 : decode cX3_init 4 = .ok (.aload_n 0, 1) := by decide +kernel
theorem dX3_init_5 : decode cX3_init 5 = .ok (.bipush 8, 2) := by decide +kernel
theorem dX3_init_7 : decode cX3_init 7 = .ok (.anewarray 9, 3) := by decide +kernel
theorem dX3_init_10 : decode cX3_init 10 = .ok (.putfield 11, 3) := by decide +kernel
theorem dX3_init_13 : decode cX3_init 13 = .ok (.aload_n 0, 1) := by decide +kernel
theorem dX3_init_14 : decode cX3_init 14 = .ok (.aload_n 1, 1) := by decide +kernel
theorem dX3_init_15 : decode cX3_init 15 = .ok (.putfield 17, 3) := by decide +kernel
theorem dX3_init_18 : decode cX3_init 18 = .ok (.iconst 0, 1) := by decide +kernel
theorem dX3_init_19 : decode cX3_init 19 = .ok (.istore_n 2, 1) := by decide +kernel
theorem dX3_init_20 : decode cX3_init 20 = .ok (.iload_n 2, 1) := by decide +kernel
theorem dX3_init_21 : decode cX3_init 21 = .ok (.aload_n 0, 1) := by decide +kernel
theorem dX3_init_22 : decode cX3_init 22 = .ok (.getfield 11, 3) := by decide +kernel
theorem dX3_init_25 : decode cX3_init 25 = .ok (.arraylength, 1) := by decide +kernel
theorem dX3_init_26 : decode cX3_init 26 = .ok (.if_icmp .ge 22, 3) := by decide +kernel
theorem dX3_init_29 : decode cX3_init 29 = .ok (.aload_n 0, 1) := by decide +kernel
theorem dX3_init_30 : decode cX3_init 30 = .ok (.getfield 11, 3) := by decide +kernel
theorem dX3_init_33 : decode cX3_init 33 = .ok (.iload_n 2, 1) := by decide +kernel
theorem dX3_init_34 : decode cX3_init 34 = .ok (.new 9, 3) := by decide +kernel
theorem dX3_init_37 : decode cX3_init 37 = .ok (.dup, 1) := by decide +kernel
theorem dX3_init_38 : decode cX3_init 38 = .ok (.invokespecial 21, 3) := by decide +kernel
theorem dX3_init_41 : decode cX3_init 41 = .ok (.aastore, 1) := by decide +kernel
theorem dX3_init_42 : decode cX3_init 42 = .ok (.iinc 2 1, 3) := by decide +kernel
theorem dX3_init_45 : decode cX3_init 45 = .ok (.goto (-25), 3) := by decide +kernel
theorem dX3_init_48 : decode cX3_init 48 = .ok (.return_, 1) := by decide +kernel
theorem dX3_fill_0 : decode cX3_fill 0 = .ok (.aload_n 0, 1) := by decide +kernel
theorem dX3_fill_1 : decode cX3_fill 1 = .ok (.iconst 0, 1) := by decide +kernel
theorem dX3_fill_2 : decode cX3_fill 2 = .ok (.putfield 22, 3) := by decide +kernel
theorem dX3_fill_5 : decode cX3_fill 5 = .ok (.iconst 2, 1) := by decide +kernel
theorem dX3_fill_6 : decode cX3_fill 6 = .ok (.istore_n 2, 1) := by decide +kernel
theorem dX3_fill_7 : decode cX3_fill 7 = .ok (.iload_n 2, 1) := by decide +kernel
theorem dX3_fill_8 : decode cX3_fill 8 = .ok (.bipush 60, 2) := by decide +kernel
theorem dX3_fill_10 : decode cX3_fill 10 = .ok (.if_icmp .gt 71, 3) := by decide +kernel
theorem dX3_fill_13 : decode cX3_fill 13 = .ok (.aload_n 1, 1) := by decide +kernel
theorem dX3_fill_14 : decode cX3_fill 14 = .ok (.iload_n 2, 1) := by decide +kernel
theorem dX3_fill_15 : decode cX3_fill 15 = .ok (.invokevirtual 26, 3) := by decide +kernel
theorem dX3_fill_18 : decode cX3_fill 18 = .ok (.ifCond .eq 57, 3) := by decide +kernel
theorem dX3_fill_21 : decode cX3_fill 21 = .ok (.aload_n 0, 1) := by decide +kernel
theorem dX3_fill_22 : decode cX3_fill 22 = .ok (.getfield 22, 3) := by decide +kernel
theorem dX3_fill_25 : decode cX3_fill 25 = .ok (.aload_n 0, 1) := by decide +kernel
theorem dX3_fill_26 : decode cX3_fill 26 = .ok (.getfield 11, 3) := by decide +kernel
theorem dX3_fill_29 : decode cX3_fill 29 = .ok (.arraylength, 1) := by decide +kernel
theorem dX3_fill_30 : decode cX3_fill 30 = .ok (.if_icmp .ge 45, 3) := by decide +kernel
theorem dX3_fill_33 : decode cX3_fill 33 = .ok (.aload_n 0, 1) := by decide +kernel
theorem dX3_fill_34 : decode cX3_fill 34 = .ok (.getfield 17, 3) := by decide +kernel
theorem dX3_fill_37 : decode cX3_fill 37 = .ok (.aload_n 0, 1) := by decide +kernel
theorem dX3_fill_38 : decode cX3_fill 38 = .ok (.getfield 11, 3) := by decide +kernel
theorem dX3_fill_41 : decode cX3_fill 41 = .ok (.aload_n 0, 1) := by decide +kernel
theorem dX3_fill_42 : decode cX3_fill 42 = .ok (.getfield 22, 3) := by decide +kernel
theorem dX3_fill_45 : decode cX3_fill 45 = .ok (.aaload, 1) := by decide +kernel
theorem dX3_fill_46 : decode cX3_fill 46 = .ok (.iload_n 2, 1) := by decide +kernel
theorem dX3_fill_47 : decode cX3_fill 47 = .ok (.invokevirtual 32, 3) := by decide +kernel
theorem dX3_fill_50 : decode cX3_fill 50 = .ok (.aload_n 0, 1) := by decide +kernel
theorem dX3_fill_51 : decode cX3_fill 51 = .ok (.getfield 11, 3) := by decide +kernel
theorem dX3_fill_54 : decode cX3_fill 54 = .ok (.aload_n 0, 1) := by decide +kernel
theorem dX3_fill_55 : decode cX3_fill 55 = .ok (.getfield 22, 3) := by decide +kernel
theorem dX3_fill_58 : decode cX3_fill 58 = .ok (.aaload, 1) := by decide +kernel
theorem dX3_fill_59 : decode cX3_fill 59 = .ok (.invokevirtual 38, 3) := by decide +kernel
theorem dX3_fill_62 : decode cX3_fill 62 = .ok (.ifCond .eq 13, 3) := by decide +kernel
theorem dX3_fill_65 : decode cX3_fill 65 = .ok (.aload_n 0, 1) := by decide +kernel
theorem dX3_fill_66 : decode cX3_fill 66 = .ok (.dup, 1) := by decide +kernel
theorem dX3_fill_67 : decode cX3_fill 67 = .ok (.getfield 22, 3) := by decide +kernel
theorem dX3_fill_70 : decode cX3_fill 70 = .ok (.iconst 1, 1) := by decide +kernel
theorem dX3_fill_71 : decode cX3_fill 71 = .ok (.iadd, 1) := by decide +kernel
theorem dX3_fill_72 : decode cX3_fill 72 = .ok (.putfield 22, 3) := by decide +kernel
theorem dX3_fill_75 : decode cX3_fill 75 = .ok (.iinc 2 1, 3) := by decide +kernel
theorem dX3_fill_78 : decode cX3_fill 78 = .ok (.goto (-71), 3) := by decide +kernel
theorem dX3_fill_81 : decode cX3_fill 81 = .ok (.return_, 1) := by decide +kernel
theorem dX3_pass_0 : decode cX3_pass 0 = .ok (.iconst 0, 1) := by decide +kernel
theorem dX3_pass_1 : decode cX3_pass 1 = .ok (.istore_n 2, 1) := by decide +kernel
theorem dX3_pass_2 : decode cX3_pass 2 = .ok (.iload_n 2, 1) := by decide +kernel
theorem dX3_pass_3 : decode cX3_pass 3 = .ok (.iload_n 1, 1) := by decide +kernel
theorem dX3_pass_4 : decode cX3_pass 4 = .ok (.if_icmp .ge 20, 3) := by decide +kernel
theorem dX3_pass_7 : decode cX3_pass 7 = .ok (.aload_n 0, 1) := by decide +kernel
theorem dX3_pass_8 : decode cX3_pass 8 = .ok (.getfield 22, 3) := by decide +kernel
theorem dX3_pass_11 : decode cX3_pass 11 = .ok (.ifCond .le 13, 3) := by decide +kernel
theorem dX3_pass_14 : decode cX3_pass 14 = .ok (.aload_n 0, 1) := by decide +kernel
theorem dX3_pass_15 : decode cX3_pass 15 = .ok (.invokevirtual 42, 3) := by decide +kernel
theorem dX3_pass_18 : decode cX3_pass 18 = .ok (.iinc 2 1, 3) := by decide +kernel
theorem dX3_pass_21 : decode cX3_pass 21 = .ok (.goto (-19), 3) := by decide +kernel
theorem dX3_pass_24 : decode cX3_pass 24 = .ok (.return_, 1) := by decide +kernel
theorem dX3_first_0 : decode cX3_first 0 = .ok (.aload_n 0, 1) := by decide +kernel
theorem dX3_first_1 : decode cX3_first 1 = .ok (.getfield 22, 3) := by decide +kernel
theorem dX3_first_4 : decode cX3_first 4 = .ok (.ifCond .le 15, 3) := by decide +kernel
theorem dX3_first_7 : decode cX3_first 7 = .ok (.aload_n 0, 1) := by decide +kernel
theorem dX3_first_8 : decode cX3_first 8 = .ok (.getfield 11, 3) := by decide +kernel
theorem dX3_first_11 : decode cX3_first 11 = .ok (.aload_n 0, 1) := by decide +kernel
theorem dX3_first_12 : decode cX3_first 12 = .ok (.invokevirtual 45, 3) := by decide +kernel
theorem dX3_first_15 : decode cX3_first 15 = .ok (.aaload, 1) := by decide +kernel
theorem dX3_first_16 : decode cX3_first 16 = .ok (.goto 4, 3) := by decide +kernel
theorem dX3_first_19 : decode cX3_first 19 = .ok (.aconst_null, 1) := by decide +kernel
theorem dX3_first_20 : decode cX3_first 20 = .ok (.areturn, 1) := by decide +kernel
theorem dX3_passFirst_0 : decode cX3_passFirst 0 = .ok (.aload_n 0, 1) := by decide +kernel
theorem dX3_passFirst_1 : decode cX3_passFirst 1 = .ok (.invokevirtual 45, 3) := by decide +kernel
theorem dX3_passFirst_4 : decode cX3_passFirst 4 = .ok (.istore_n 1, 1) := by decide +kernel
theorem dX3_passFirst_5 : decode cX3_passFirst 5 = .ok (.aload_n 0, 1) := by decide +kernel
theorem dX3_passFirst_6 : decode cX3_passFirst 6 = .ok (.getfield 11, 3) := by decide +kernel
theorem dX3_passFirst_9 : decode cX3_passFirst 9 = .ok (.iload_n 1, 1) := by decide +kernel
theorem dX3_passFirst_10 : decode cX3_passFirst 10 = .ok (.aaload, 1) := by decide +kernel
theorem dX3_passFirst_11 : decode cX3_passFirst 11 = .ok (.astore_n 2, 1) := by decide +kernel
theorem dX3_passFirst_12 : decode cX3_passFirst 12 = .ok (.aload_n 2, 1) := by decide +kernel
theorem dX3_passFirst_13 : decode cX3_passFirst 13 = .ok (.invokevirtual 38, 3) := by decide +kernel
theorem dX3_passFirst_16 : decode cX3_passFirst 16 = .ok (.ifCond .ne 38, 3) := by decide +kernel
theorem dX3_passFirst_19 : decode cX3_passFirst 19 = .ok (.aload_n 0, 1) := by decide +kernel
theorem dX3_passFirst_20 : decode cX3_passFirst 20 = .ok (.dup, 1) := by decide +kernel
theorem dX3_passFirst_21 : decode cX3_passFirst 21 = .ok (.getfield 22, 3) := by decide +kernel
theorem dX3_passFirst_24 : decode cX3_passFirst 24 = .ok (.iconst 1, 1) := by decide +kernel
theorem dX3_passFirst_25 : decode cX3_passFirst 25 = .ok (.isub, 1) := by decide +kernel
theorem dX3_passFirst_26 : decode cX3_passFirst 26 = .ok (.putfield 22, 3) := by decide +kernel
theorem dX3_passFirst_29 : decode cX3_passFirst 29 = .ok (.aload_n 0, 1) := by decide +kernel
theorem dX3_passFirst_30 : decode cX3_passFirst 30 = .ok (.getfield 11, 3) := by decide +kernel
theorem dX3_passFirst_33 : decode cX3_passFirst 33 = .ok (.iload_n 1, 1) := by decide +kernel
theorem dX3_passFirst_34 : decode cX3_passFirst 34 = .ok (.aload_n 0, 1) := by decide +kernel
theorem dX3_passFirst_35 : decode cX3_passFirst 35 = .ok (.getfield 11, 3) := by decide +kernel
theorem dX3_passFirst_38 : decode cX3_passFirst 38 = .ok (.aload_n 0, 1) := by decide +kernel
theorem dX3_passFirst_39 : decode cX3_passFirst 39 = .ok (.getfield 22, 3) := by decide +kernel
theorem dX3_passFirst_42 : decode cX3_passFirst 42 = .ok (.aaload, 1) := by decide +kernel
theorem dX3_passFirst_43 : decode cX3_passFirst 43 = .ok (.aastore, 1) := by decide +kernel
theorem dX3_passFirst_44 : decode cX3_passFirst 44 = .ok (.aload_n 0, 1) := by decide +kernel
theorem dX3_passFirst_45 : decode cX3_passFirst 45 = .ok (.getfield 11, 3) := by decide +kernel
theorem dX3_passFirst_48 : decode cX3_passFirst 48 = .ok (.aload_n 0, 1) := by decide +kernel
theorem dX3_passFirst_49 : decode cX3_passFirst 49 = .ok (.getfield 22, 3) := by decide +kernel
theorem dX3_passFirst_52 : decode cX3_passFirst 52 = .ok (.aload_n 2, 1) := by decide +kernel
theorem dX3_passFirst_53 : decode cX3_passFirst 53 = .ok (.aastore, 1) := by decide +kernel
theorem dX3_passFirst_54 : decode cX3_passFirst 54 = .ok (.return_, 1) := by decide +kernel
theorem dX3_firstIndex_0 : decode cX3_firstIndex 0 = .ok (.iconst 0, 1) := by decide +kernel
theorem dX3_firstIndex_1 : decode cX3_firstIndex 1 = .ok (.istore_n 1, 1) := by decide +kernel
theorem dX3_firstIndex_2 : decode cX3_firstIndex 2 = .ok (.iconst 1, 1) := by decide +kernel
theorem dX3_firstIndex_3 : decode cX3_firstIndex 3 = .ok (.istore_n 2, 1) := by decide +kernel
theorem dX3_firstIndex_4 : decode cX3_firstIndex 4 = .ok (.iload_n 2, 1) := by decide +kernel
theorem dX3_firstIndex_5 : decode cX3_firstIndex 5 = .ok (.aload_n 0, 1) := by decide +kernel
theorem dX3_firstIndex_6 : decode cX3_firstIndex 6 = .ok (.getfield 22, 3) := by decide +kernel
theorem dX3_firstIndex_9 : decode cX3_firstIndex 9 = .ok (.if_icmp .ge 29, 3) := by decide +kernel
theorem dX3_firstIndex_12 : decode cX3_firstIndex 12 = .ok (.aload_n 0, 1) := by decide +kernel
theorem dX3_firstIndex_13 : decode cX3_firstIndex 13 = .ok (.getfield 11, 3) := by decide +kernel
theorem dX3_firstIndex_16 : decode cX3_firstIndex 16 = .ok (.iload_n 2, 1) := by decide +kernel
theorem dX3_firstIndex_17 : decode cX3_firstIndex 17 = .ok (.aaload, 1) := by decide +kernel
theorem dX3_firstIndex_18 : decode cX3_firstIndex 18 = .ok (.aload_n 0, 1) := by decide +kernel
theorem dX3_firstIndex_19 : decode cX3_firstIndex 19 = .ok (.getfield 11, 3) := by decide +kernel
theorem dX3_firstIndex_22 : decode cX3_firstIndex 22 = .ok (.iload_n 1, 1) := by decide +kernel
theorem dX3_firstIndex_23 : decode cX3_firstIndex 23 = .ok (.aaload, 1) := by decide +kernel
theorem dX3_firstIndex_24 : decode cX3_firstIndex 24 = .ok (.invokevirtual 49, 3) := by decide +kernel
theorem dX3_firstIndex_27 : decode cX3_firstIndex 27 = .ok (.ifCond .eq 5, 3) := by decide +kernel
theorem dX3_firstIndex_30 : decode cX3_firstIndex 30 = .ok (.iload_n 2, 1) := by decide +kernel
theorem dX3_firstIndex_31 : decode cX3_firstIndex 31 = .ok (.istore_n 1, 1) := by decide +kernel
theorem dX3_firstIndex_32 : decode cX3_firstIndex 32 = .ok (.iinc 2 1, 3) := by decide +kernel
theorem dX3_firstIndex_35 : decode cX3_firstIndex 35 = .ok (.goto (-31), 3) := by decide +kernel
theorem dX3_firstIndex_38 : decode cX3_firstIndex 38 = .ok (.iload_n 1, 1) := by decide +kernel
theorem dX3_firstIndex_39 : decode cX3_firstIndex 39 = .ok (.ireturn, 1) := by decide +kernel
theorem dX4_init_0 : decode cX4_init 0 = .ok (.aload_n 0, 1) := by decide +kernel
theorem dX4_init_1 : decode cX4_init 1 = .ok (.invokespecial 3, 3) := by decide +kernel
theorem dX4_init_4 : decode cX4_init 4 = .ok (.aload_n 0, 1) := by decide +kernel
theorem dX4_init_5 : decode cX4_init 5 = .ok (.new 9, 3) := by decide +kernel
theorem dX4_init_8 : decode cX4_init 8 = .ok (.dup, 1) := by decide +kernel
theorem dX4_init_9 : decode cX4_init 9 = .ok (.invokespecial 11, 3) := by decide +kernel
theorem dX4_init_12 : decode cX4_init 12 = .ok (.putfield 12, 3) := by decide +kernel
theorem dX4_init_15 : decode cX4_init 15 = .ok (.aload_n 0, 1) := by decide +kernel
theorem dX4_init_16 : decode cX4_init 16 = .ok (.bipush 61, 2) := by decide +kernel
theorem dX4_init_18 : decode cX4_init 18 = .ok (.newarray .int, 2) := by decide +kernel
theorem dX4_init_20 : decode cX4_init 20 = .ok (.putfield 18, 3) := by decide +kernel
theorem dX4_init_23 : decode cX4_init 23 = .ok (.aload_n 0, 1) := by decide +kernel
theorem dX4_init_24 : decode cX4_init 24 = .ok (.bipush 61, 2) := by decide +kernel
theorem dX4_init_26 : decode cX4_init 26 = .ok (.newarray .int, 2) := by decide +kernel
theorem dX4_init_28 : decode cX4_init 28 = .ok (.putfield 22, 3) := by decide +kernel
theorem dX4_init_31 : decode cX4_init 31 = .ok (.aload_n 0, 1) := by decide +kernel
theorem dX4_init_32 : decode cX4_init 32 = .ok (.bipush 61, 2) := by decide +kernel
theorem dX4_init_34 : decode cX4_init 34 = .ok (.newarray .int, 2) := by decide +kernel
theorem dX4_init_36 : decode cX4_init 36 = .ok (.putfield 25, 3) := by decide +kernel
theorem dX4_init_39 : decode cX4_init 39 = .ok (.aload_n 0, 1) := by decide +kernel
theorem dX4_init_40 : decode cX4_init 40 = .ok (.bipush 61, 2) := by decide +kernel
theorem dX4_init_42 : decode cX4_init 42 = .ok (.newarray .int, 2) := by decide +kernel
theorem dX4_init_44 : decode cX4_init 44 = .ok (.putfield 28, 3) := by decide +kernel
theorem dX4_init_47 : decode cX4_init 47 = .ok (.new 31, 3) := by decide +kernel
theorem dX4_init_50 : decode cX4_init 50 = .ok (.dup, 1) := by decide +kernel
theorem dX4_init_51 : decode cX4_init 51 = .ok (.invokespecial 33, 3) := by decide +kernel
theorem dX4_init_54 : decode cX4_init 54 = .ok (.astore_n 1, 1) := by decide +kernel
theorem dX4_init_55 : decode cX4_init 55 = .ok (.iconst 2, 1) := by decide +kernel
theorem dX4_init_56 : decode cX4_init 56 = .ok (.istore_n 2, 1) := by decide +kernel
theorem dX4_init_57 : decode cX4_init 57 = .ok (.iload_n 2, 1) := by decide +kernel
theorem dX4_init_58 : decode cX4_init 58 = .ok (.bipush 60, 2) := by decide +kernel
theorem dX4_init_60 : decode cX4_init 60 = .ok (.if_icmp .gt 38, 3) := by decide +kernel
theorem dX4_init_63 : decode cX4_init 63 = .ok (.aload_n 0, 1) := by decide +kernel
theorem dX4_init_64 : decode cX4_init 64 = .ok (.getfield 12, 3) := by decide +kernel
theorem dX4_init_67 : decode cX4_init 67 = .ok (.iload_n 2, 1) := by decide +kernel
theorem dX4_init_68 : decode cX4_init 68 = .ok (.invokevirtual 34, 3) := by decide +kernel
theorem dX4_init_71 : decode cX4_init 71 = .ok (.aload_n 0, 1) := by decide +kernel
theorem dX4_init_72 : decode cX4_init 72 = .ok (.getfield 12, 3) := by decide +kernel
theorem dX4_init_75 : decode cX4_init 75 = .ok (.invokevirtual 38, 3) := by decide +kernel
theorem dX4_init_78 : decode cX4_init 78 = .ok (.ifCond .ne 14, 3) := by decide +kernel
theorem dX4_init_81 : decode cX4_init 81 = .ok (.aload_n 0, 1) := by decide +kernel
theorem dX4_init_82 : decode cX4_init 82 = .ok (.iload_n 2, 1) := by decide +kernel
theorem dX4_init_83 : decode cX4_init 83 = .ok (.invokevirtual 42, 3) := by decide +kernel
theorem dX4_init_86 : decode cX4_init 86 = .ok (.aload_n 0, 1) := by decide +kernel
theorem dX4_init_87 : decode cX4_init 87 = .ok (.iload_n 2, 1) := by decide +kernel
theorem dX4_init_88 : decode cX4_init 88 = .ok (.aload_n 1, 1) := by decide +kernel
theorem dX4_init_89 : decode cX4_init 89 = .ok (.invokevirtual 45, 3) := by decide +kernel
theorem dX4_init_92 : decode cX4_init 92 = .ok (.iinc 2 1, 3) := by decide +kernel
theorem dX4_init_95 : decode cX4_init 95 = .ok (.goto (-38), 3) := by decide +kernel
theorem dX4_init_98 : decode cX4_init 98 = .ok (.return_, 1) := by decide +kernel
theorem dX4_findUnit_0 : decode cX4_findUnit 0 = .ok (.iconst 1, 1) := by decide +kernel
theorem dX4_findUnit_1 : decode cX4_findUnit 1 = .ok (.istore_n 2, 1) := by decide +kernel
theorem dX4_findUnit_2 : decode cX4_findUnit 2 = .ok (.iconst 0, 1) := by decide +kernel
theorem dX4_findUnit_3 : decode cX4_findUnit 3 = .ok (.istore_n 3, 1) := by decide +kernel
theorem dX4_findUnit_4 : decode cX4_findUnit 4 = .ok (.aload_n 0, 1) := by decide +kernel
theorem dX4_findUnit_5 : decode cX4_findUnit 5 = .ok (.getfield 12, 3) := by decide +kernel
theorem dX4_findUnit_8 : decode cX4_findUnit 8 = .ok (.getfield 49, 3) := by decide +kernel
theorem dX4_findUnit_11 : decode cX4_findUnit 11 = .ok (.istore 4, 2) := by decide +kernel
theorem dX4_findUnit_13 : decode cX4_findUnit 13 = .ok (.iconst 1, 1) := by decide +kernel
theorem dX4_findUnit_14 : decode cX4_findUnit 14 = .ok (.istore 5, 2) := by decide +kernel
theorem dX4_findUnit_16 : decode cX4_findUnit 16 = .ok (.iconst 1, 1) := by decide +kernel
theorem dX4_findUnit_17 : decode cX4_findUnit 17 = .ok (.istore 6, 2) := by decide +kernel
theorem dX4_findUnit_19 : decode cX4_findUnit 19 = .ok (.iload 6, 2) := by decide +kernel
theorem dX4_findUnit_21 : decode cX4_findUnit 21 = .ok (.bipush 99, 2) := by decide +kernel
theorem dX4_findUnit_23 : decode cX4_findUnit 23 = .ok (.if_icmp .gt 93, 3) := by decide +kernel
theorem dX4_findUnit_26 : decode cX4_findUnit 26 = .ok (.aload_n 0, 1) := by decide +kernel
theorem dX4_findUnit_27 : decode cX4_findUnit 27 = .ok (.getfield 12, 3) := by decide +kernel
theorem dX4_findUnit_30 : decode cX4_findUnit 30 = .ok (.invokevirtual 53, 3) := by decide +kernel
theorem dX4_findUnit_33 : decode cX4_findUnit 33 = .ok (.aload_n 0, 1) := by decide +kernel
theorem dX4_findUnit_34 : decode cX4_findUnit 34 = .ok (.getfield 12, 3) := by decide +kernel
theorem dX4_findUnit_37 : decode cX4_findUnit 37 = .ok (.invokevirtual 56, 3) := by decide +kernel
theorem dX4_findUnit_40 : decode cX4_findUnit 40 = .ok (.ifCond .eq 28, 3) := by decide +kernel
theorem dX4_findUnit_43 : decode cX4_findUnit 43 = .ok (.aload_n 0, 1) := by decide +kernel
theorem dX4_findUnit_44 : decode cX4_findUnit 44 = .ok (.getfield 18, 3) := by decide +kernel
theorem dX4_findUnit_47 : decode cX4_findUnit 47 = .ok (.iload_n 1, 1) := by decide +kernel
theorem dX4_findUnit_48 : decode cX4_findUnit 48 = .ok (.iload 6, 2) := by decide +kernel
theorem dX4_findUnit_50 : decode cX4_findUnit 50 = .ok (.iastore, 1) := by decide +kernel
theorem dX4_findUnit_51 : decode cX4_findUnit 51 = .ok (.aload_n 0, 1) := by decide +kernel
theorem dX4_findUnit_52 : decode cX4_findUnit 52 = .ok (.getfield 22, 3) := by decide +kernel
theorem dX4_findUnit_55 : decode cX4_findUnit 55 = .ok (.iload_n 1, 1) := by decide +kernel
theorem dX4_findUnit_56 : decode cX4_findUnit 56 = .ok (.iload 4, 2) := by decide +kernel
theorem dX4_findUnit_58 : decode cX4_findUnit 58 = .ok (.iastore, 1) := by decide +kernel
theorem dX4_findUnit_59 : decode cX4_findUnit 59 = .ok (.aload_n 0, 1) := by decide +kernel
theorem dX4_findUnit_60 : decode cX4_findUnit 60 = .ok (.getfield 25, 3) := by decide +kernel
theorem dX4_findUnit_63 : decode cX4_findUnit 63 = .ok (.iload_n 1, 1) := by decide +kernel
theorem dX4_findUnit_64 : decode cX4_findUnit 64 = .ok (.iload 5, 2) := by decide +kernel
theorem dX4_findUnit_66 : decode cX4_findUnit 66 = .ok (.iastore, 1) := by decide +kernel
theorem dX4_findUnit_67 : decode cX4_findUnit 67 = .ok (.return_, 1) := by decide +kernel
theorem dX4_findUnit_68 : decode cX4_findUnit 68 = .ok (.aload_n 0, 1) := by decide +kernel
theorem dX4_findUnit_69 : decode cX4_findUnit 69 = .ok (.getfield 12, 3) := by decide +kernel
theorem dX4_findUnit_72 : decode cX4_findUnit 72 = .ok (.getfield 49, 3) := by decide +kernel
theorem dX4_findUnit_75 : decode cX4_findUnit 75 = .ok (.iload 4, 2) := by decide +kernel
theorem dX4_findUnit_77 : decode cX4_findUnit 77 = .ok (.imul, 1) := by decide +kernel
theorem dX4_findUnit_78 : decode cX4_findUnit 78 = .ok (.iload_n 2, 1) := by decide +kernel
theorem dX4_findUnit_79 : decode cX4_findUnit 79 = .ok (.iadd, 1) := by decide +kernel
theorem dX4_findUnit_80 : decode cX4_findUnit 80 = .ok (.istore 7, 2) := by decide +kernel
theorem dX4_findUnit_82 : decode cX4_findUnit 82 = .ok (.aload_n 0, 1) := by decide +kernel
theorem dX4_findUnit_83 : decode cX4_findUnit 83 = .ok (.getfield 12, 3) := by decide +kernel
theorem dX4_findUnit_86 : decode cX4_findUnit 86 = .ok (.getfield 49, 3) := by decide +kernel
theorem dX4_findUnit_89 : decode cX4_findUnit 89 = .ok (.iload 5, 2) := by decide +kernel
theorem dX4_findUnit_91 : decode cX4_findUnit 91 = .ok (.imul, 1) := by decide +kernel
theorem dX4_findUnit_92 : decode cX4_findUnit 92 = .ok (.iload_n 3, 1) := by decide +kernel
theorem dX4_findUnit_93 : decode cX4_findUnit 93 = .ok (.iadd, 1) := by decide +kernel
theorem dX4_findUnit_94 : decode cX4_findUnit 94 = .ok (.istore 8, 2) := by decide +kernel
theorem dX4_findUnit_96 : decode cX4_findUnit 96 = .ok (.iload 4, 2) := by decide +kernel
theorem dX4_findUnit_98 : decode cX4_findUnit 98 = .ok (.istore_n 2, 1) := by decide +kernel
theorem dX4_findUnit_99 : decode cX4_findUnit 99 = .ok (.iload 5, 2) := by decide +kernel
theorem dX4_findUnit_101 : decode cX4_findUnit 101 = .ok (.istore_n 3, 1) := by decide +kernel
theorem dX4_findUnit_102 : decode cX4_findUnit 102 = .ok (.iload 7, 2) := by decide +kernel
theorem dX4_findUnit_104 : decode cX4_findUnit 104 = .ok (.istore 4, 2) := by decide +kernel
theorem dX4_findUnit_106 : decode cX4_findUnit 106 = .ok (.iload 8, 2) := by decide +kernel
theorem dX4_findUnit_108 : decode cX4_findUnit 108 = .ok (.istore 5, 2) := by decide +kernel
theorem dX4_findUnit_110 : decode cX4_findUnit 110 = .ok (.iinc 6 1, 3) := by decide +kernel
theorem dX4_findUnit_113 : decode cX4_findUnit 113 = .ok (.goto (-94), 3) := by decide +kernel
theorem dX4_findUnit_116 : decode cX4_findUnit 116 = .ok (.return_, 1) := by decide +kernel
theorem dX4_findGreatestPower_0 : decode cX4_findGreatestPower 0 = .ok (.aload_n 0, 1) := by decide +kernel
theorem dX4_findGreatestPower_1 : decode cX4_findGreatestPower 1 = .ok (.aload_n 2, 1) := by decide +kernel
theorem dX4_findGreatestPower_2 : decode cX4_findGreatestPower 2 = .ok (.iload_n 1, 1) := by decide +kernel
theorem dX4_findGreatestPower_3 : decode cX4_findGreatestPower 3 = .ok (.invokevirtual 59, 3) := by decide +kernel
theorem dX4_findGreatestPower_6 : decode cX4_findGreatestPower 6 = .ok (.iconst 1, 1) := by decide +kernel
theorem dX4_findGreatestPower_7 : decode cX4_findGreatestPower 7 = .ok (.istore_n 3, 1) := by decide +kernel
theorem dX4_findGreatestPower_8 : decode cX4_findGreatestPower 8 = .ok (.iload_n 3, 1) := by decide +kernel
theorem dX4_findGreatestPower_9 : decode cX4_findGreatestPower 9 = .ok (.ldc 62, 2) := by decide +kernel
theorem dX4_findGreatestPower_11 : decode cX4_findGreatestPower 11 = .ok (.if_icmp .ge 23, 3) := by decide +kernel
theorem dX4_findGreatestPower_14 : decode cX4_findGreatestPower 14 = .ok (.aload_n 2, 1) := by decide +kernel
theorem dX4_findGreatestPower_15 : decode cX4_findGreatestPower 15 = .ok (.invokevirtual 63, 3) := by decide +kernel
theorem dX4_findGreatestPower_18 : decode cX4_findGreatestPower 18 = .ok (.ifCond .eq 16, 3) := by decide +kernel
theorem dX4_findGreatestPower_21 : decode cX4_findGreatestPower 21 = .ok (.aload_n 0, 1) := by decide +kernel
theorem dX4_findGreatestPower_22 : decode cX4_findGreatestPower 22 = .ok (.getfield 28, 3) := by decide +kernel
theorem dX4_findGreatestPower_25 : decode cX4_findGreatestPower 25 = .ok (.iload_n 1, 1) := by decide +kernel
theorem dX4_findGreatestPower_26 : decode cX4_findGreatestPower 26 = .ok (.iload_n 3, 1) := by decide +kernel
theorem dX4_findGreatestPower_27 : decode cX4_findGreatestPower 27 = .ok (.iastore, 1) := by decide +kernel
theorem dX4_findGreatestPower_28 : decode cX4_findGreatestPower 28 = .ok (.iinc 3 1, 3) := by decide +kernel
theorem dX4_findGreatestPower_31 : decode cX4_findGreatestPower 31 = .ok (.goto (-23), 3) := by decide +kernel
theorem dX4_findGreatestPower_34 : decode cX4_findGreatestPower 34 = .ok (.return_, 1) := by decide +kernel
theorem dX4_begin_0 : decode cX4_begin 0 = .ok (.aload_n 1, 1) := by decide +kernel
theorem dX4_begin_1 : decode cX4_begin 1 = .ok (.iload_n 2, 1) := by decide +kernel
theorem dX4_begin_2 : decode cX4_begin 2 = .ok (.aload_n 0, 1) := by decide +kernel
theorem dX4_begin_3 : decode cX4_begin 3 = .ok (.iload_n 2, 1) := by decide +kernel
theorem dX4_begin_4 : decode cX4_begin 4 = .ok (.invokevirtual 66, 3) := by decide +kernel
theorem dX4_begin_7 : decode cX4_begin 7 = .ok (.aload_n 0, 1) := by decide +kernel
theorem dX4_begin_8 : decode cX4_begin 8 = .ok (.iload_n 2, 1) := by decide +kernel
theorem dX4_begin_9 : decode cX4_begin 9 = .ok (.invokevirtual 70, 3) := by decide +kernel
theorem dX4_begin_12 : decode cX4_begin 12 = .ok (.invokevirtual 73, 3) := by decide +kernel
theorem dX4_begin_15 : decode cX4_begin 15 = .ok (.return_, 1) := by decide +kernel
theorem dX4_term_0 : decode cX4_term 0 = .ok (.aload_n 0, 1) := by decide +kernel
theorem dX4_term_1 : decode cX4_term 1 = .ok (.getfield 12, 3) := by decide +kernel
theorem dX4_term_4 : decode cX4_term 4 = .ok (.iload_n 1, 1) := by decide +kernel
theorem dX4_term_5 : decode cX4_term 5 = .ok (.invokevirtual 34, 3) := by decide +kernel
theorem dX4_term_8 : decode cX4_term 8 = .ok (.iconst 0, 1) := by decide +kernel
theorem dX4_term_9 : decode cX4_term 9 = .ok (.istore_n 3, 1) := by decide +kernel
theorem dX4_term_10 : decode cX4_term 10 = .ok (.iload_n 3, 1) := by decide +kernel
theorem dX4_term_11 : decode cX4_term 11 = .ok (.iload_n 2, 1) := by decide +kernel
theorem dX4_term_12 : decode cX4_term 12 = .ok (.if_icmp .ge 22, 3) := by decide +kernel
theorem dX4_term_15 : decode cX4_term 15 = .ok (.iload_n 3, 1) := by decide +kernel
theorem dX4_term_16 : decode cX4_term 16 = .ok (.bipush 99, 2) := by decide +kernel
theorem dX4_term_18 : decode cX4_term 18 = .ok (.if_icmp .ge 16, 3) := by decide +kernel
theorem dX4_term_21 : decode cX4_term 21 = .ok (.aload_n 0, 1) := by decide +kernel
theorem dX4_term_22 : decode cX4_term 22 = .ok (.getfield 12, 3) := by decide +kernel
theorem dX4_term_25 : decode cX4_term 25 = .ok (.invokevirtual 53, 3) := by decide +kernel
theorem dX4_term_28 : decode cX4_term 28 = .ok (.iinc 3 1, 3) := by decide +kernel
theorem dX4_term_31 : decode cX4_term 31 = .ok (.goto (-21), 3) := by decide +kernel
theorem dX4_term_34 : decode cX4_term 34 = .ok (.aload_n 0, 1) := by decide +kernel
theorem dX4_term_35 : decode cX4_term 35 = .ok (.getfield 12, 3) := by decide +kernel
theorem dX4_term_38 : decode cX4_term 38 = .ok (.getfield 49, 3) := by decide +kernel
theorem dX4_term_41 : decode cX4_term 41 = .ok (.ireturn, 1) := by decide +kernel
theorem dX4_isSquare_0 : decode cX4_isSquare 0 = .ok (.iload_n 1, 1) := by decide +kernel
theorem dX4_isSquare_1 : decode cX4_isSquare 1 = .ok (.ifCond .lt 25, 3) := by decide +kernel
theorem dX4_isSquare_4 : decode cX4_isSquare 4 = .ok (.iload_n 1, 1) := by decide +kernel
theorem dX4_isSquare_5 : decode cX4_isSquare 5 = .ok (.aload_n 0, 1) := by decide +kernel
theorem dX4_isSquare_6 : decode cX4_isSquare 6 = .ok (.getfield 18, 3) := by decide +kernel
theorem dX4_isSquare_9 : decode cX4_isSquare 9 = .ok (.arraylength, 1) := by decide +kernel
theorem dX4_isSquare_10 : decode cX4_isSquare 10 = .ok (.if_icmp .ge 16, 3) := by decide +kernel
theorem dX4_isSquare_13 : decode cX4_isSquare 13 = .ok (.aload_n 0, 1) := by decide +kernel
theorem dX4_isSquare_14 : decode cX4_isSquare 14 = .ok (.getfield 18, 3) := by decide +kernel
theorem dX4_isSquare_17 : decode cX4_isSquare 17 = .ok (.iload_n 1, 1) := by decide +kernel
theorem dX4_isSquare_18 : decode cX4_isSquare 18 = .ok (.iaload, 1) := by decide +kernel
theorem dX4_isSquare_19 : decode cX4_isSquare 19 = .ok (.ifCond .ne 7, 3) := by decide +kernel
theorem dX4_isSquare_22 : decode cX4_isSquare 22 = .ok (.iconst 1, 1) := by decide +kernel
theorem dX4_isSquare_23 : decode cX4_isSquare 23 = .ok (.goto 4, 3) := by decide +kernel
theorem dX4_isSquare_26 : decode cX4_isSquare 26 = .ok (.iconst 0, 1) := by decide +kernel
theorem dX4_isSquare_27 : decode cX4_isSquare 27 = .ok (.ireturn, 1) := by decide +kernel
theorem dX4_period_0 : decode cX4_period 0 = .ok (.iload_n 1, 1) := by decide +kernel
theorem dX4_period_1 : decode cX4_period 1 = .ok (.ifCond .lt 21, 3) := by decide +kernel
theorem dX4_period_4 : decode cX4_period 4 = .ok (.iload_n 1, 1) := by decide +kernel
theorem dX4_period_5 : decode cX4_period 5 = .ok (.aload_n 0, 1) := by decide +kernel
theorem dX4_period_6 : decode cX4_period 6 = .ok (.getfield 18, 3) := by decide +kernel
theorem dX4_period_9 : decode cX4_period 9 = .ok (.arraylength, 1) := by decide +kernel
theorem dX4_period_10 : decode cX4_period 10 = .ok (.if_icmp .ge 12, 3) := by decide +kernel
theorem dX4_period_13 : decode cX4_period 13 = .ok (.aload_n 0, 1) := by decide +kernel
theorem dX4_period_14 : decode cX4_period 14 = .ok (.getfield 18, 3) := by decide +kernel
theorem dX4_period_17 : decode cX4_period 17 = .ok (.iload_n 1, 1) := by decide +kernel
theorem dX4_period_18 : decode cX4_period 18 = .ok (.iaload, 1) := by decide +kernel
theorem dX4_period_19 : decode cX4_period 19 = .ok (.goto 4, 3) := by decide +kernel
theorem dX4_period_22 : decode cX4_period 22 = .ok (.iconst 0, 1) := by decide +kernel
theorem dX4_period_23 : decode cX4_period 23 = .ok (.ireturn, 1) := by decide +kernel
theorem dX4_xOfUnit_0 : decode cX4_xOfUnit 0 = .ok (.iload_n 1, 1) := by decide +kernel
theorem dX4_xOfUnit_1 : decode cX4_xOfUnit 1 = .ok (.ifCond .lt 21, 3) := by decide +kernel
theorem dX4_xOfUnit_4 : decode cX4_xOfUnit 4 = .ok (.iload_n 1, 1) := by decide +kernel
theorem dX4_xOfUnit_5 : decode cX4_xOfUnit 5 = .ok (.aload_n 0, 1) := by decide +kernel
theorem dX4_xOfUnit_6 : decode cX4_xOfUnit 6 = .ok (.getfield 22, 3) := by decide +kernel
theorem dX4_xOfUnit_9 : decode cX4_xOfUnit 9 = .ok (.arraylength, 1) := by decide +kernel
theorem dX4_xOfUnit_10 : decode cX4_xOfUnit 10 = .ok (.if_icmp .ge 12, 3) := by decide +kernel
theorem dX4_xOfUnit_13 : decode cX4_xOfUnit 13 = .ok (.aload_n 0, 1) := by decide +kernel
theorem dX4_xOfUnit_14 : decode cX4_xOfUnit 14 = .ok (.getfield 22, 3) := by decide +kernel
theorem dX4_xOfUnit_17 : decode cX4_xOfUnit 17 = .ok (.iload_n 1, 1) := by decide +kernel
theorem dX4_xOfUnit_18 : decode cX4_xOfUnit 18 = .ok (.iaload, 1) := by decide +kernel
theorem dX4_xOfUnit_19 : decode cX4_xOfUnit 19 = .ok (.goto 4, 3) := by decide +kernel
theorem dX4_xOfUnit_22 : decode cX4_xOfUnit 22 = .ok (.iconst 0, 1) := by decide +kernel
theorem dX4_xOfUnit_23 : decode cX4_xOfUnit 23 = .ok (.ireturn, 1) := by decide +kernel
theorem dX4_yOfUnit_0 : decode cX4_yOfUnit 0 = .ok (.iload_n 1, 1) := by decide +kernel
theorem dX4_yOfUnit_1 : decode cX4_yOfUnit 1 = .ok (.ifCond .lt 21, 3) := by decide +kernel
theorem dX4_yOfUnit_4 : decode cX4_yOfUnit 4 = .ok (.iload_n 1, 1) := by decide +kernel
theorem dX4_yOfUnit_5 : decode cX4_yOfUnit 5 = .ok (.aload_n 0, 1) := by decide +kernel
theorem dX4_yOfUnit_6 : decode cX4_yOfUnit 6 = .ok (.getfield 25, 3) := by decide +kernel
theorem dX4_yOfUnit_9 : decode cX4_yOfUnit 9 = .ok (.arraylength, 1) := by decide +kernel
theorem dX4_yOfUnit_10 : decode cX4_yOfUnit 10 = .ok (.if_icmp .ge 12, 3) := by decide +kernel
theorem dX4_yOfUnit_13 : decode cX4_yOfUnit 13 = .ok (.aload_n 0, 1) := by decide +kernel
theorem dX4_yOfUnit_14 : decode cX4_yOfUnit 14 = .ok (.getfield 25, 3) := by decide +kernel
theorem dX4_yOfUnit_17 : decode cX4_yOfUnit 17 = .ok (.iload_n 1, 1) := by decide +kernel
theorem dX4_yOfUnit_18 : decode cX4_yOfUnit 18 = .ok (.iaload, 1) := by decide +kernel
theorem dX4_yOfUnit_19 : decode cX4_yOfUnit 19 = .ok (.goto 4, 3) := by decide +kernel
theorem dX4_yOfUnit_22 : decode cX4_yOfUnit 22 = .ok (.iconst 0, 1) := by decide +kernel
theorem dX4_yOfUnit_23 : decode cX4_yOfUnit 23 = .ok (.ireturn, 1) := by decide +kernel
theorem dX4_signOfUnit_0 : decode cX4_signOfUnit 0 = .ok (.aload_n 0, 1) := by decide +kernel
theorem dX4_signOfUnit_1 : decode cX4_signOfUnit 1 = .ok (.iload_n 1, 1) := by decide +kernel
theorem dX4_signOfUnit_2 : decode cX4_signOfUnit 2 = .ok (.invokevirtual 76, 3) := by decide +kernel
theorem dX4_signOfUnit_5 : decode cX4_signOfUnit 5 = .ok (.iconst 2, 1) := by decide +kernel
theorem dX4_signOfUnit_6 : decode cX4_signOfUnit 6 = .ok (.irem, 1) := by decide +kernel
theorem dX4_signOfUnit_7 : decode cX4_signOfUnit 7 = .ok (.ifCond .ne 7, 3) := by decide +kernel
theorem dX4_signOfUnit_10 : decode cX4_signOfUnit 10 = .ok (.iconst 1, 1) := by decide +kernel
theorem dX4_signOfUnit_11 : decode cX4_signOfUnit 11 = .ok (.goto 4, 3) := by decide +kernel
theorem dX4_signOfUnit_14 : decode cX4_signOfUnit 14 = .ok (.iconst (-1), 1) := by decide +kernel
theorem dX4_signOfUnit_15 : decode cX4_signOfUnit 15 = .ok (.ireturn, 1) := by decide +kernel
theorem dX4_greatestPower_0 : decode cX4_greatestPower 0 = .ok (.iload_n 1, 1) := by decide +kernel
theorem dX4_greatestPower_1 : decode cX4_greatestPower 1 = .ok (.ifCond .lt 21, 3) := by decide +kernel
theorem dX4_greatestPower_4 : decode cX4_greatestPower 4 = .ok (.iload_n 1, 1) := by decide +kernel
theorem dX4_greatestPower_5 : decode cX4_greatestPower 5 = .ok (.aload_n 0, 1) := by decide +kernel
theorem dX4_greatestPower_6 : decode cX4_greatestPower 6 = .ok (.getfield 28, 3) := by decide +kernel
theorem dX4_greatestPower_9 : decode cX4_greatestPower 9 = .ok (.arraylength, 1) := by decide +kernel
theorem dX4_greatestPower_10 : decode cX4_greatestPower 10 = .ok (.if_icmp .ge 12, 3) := by decide +kernel
theorem dX4_greatestPower_13 : decode cX4_greatestPower 13 = .ok (.aload_n 0, 1) := by decide +kernel
theorem dX4_greatestPower_14 : decode cX4_greatestPower 14 = .ok (.getfield 28, 3) := by decide +kernel
theorem dX4_greatestPower_17 : decode cX4_greatestPower 17 = .ok (.iload_n 1, 1) := by decide +kernel
theorem dX4_greatestPower_18 : decode cX4_greatestPower 18 = .ok (.iaload, 1) := by decide +kernel
theorem dX4_greatestPower_19 : decode cX4_greatestPower 19 = .ok (.goto 4, 3) := by decide +kernel
theorem dX4_greatestPower_22 : decode cX4_greatestPower 22 = .ok (.iconst 0, 1) := by decide +kernel
theorem dX4_greatestPower_23 : decode cX4_greatestPower 23 = .ok (.ireturn, 1) := by decide +kernel
theorem dX5_init_0 : decode cX5_init 0 = .ok (.aload_n 0, 1) := by decide +kernel
theorem dX5_init_1 : decode cX5_init 1 = .ok (.invokespecial 3, 3) := by decide +kernel
theorem dX5_init_4 : decode cX5_init 4 = .ok (.aload_n 0, 1) := by decide +kernel
theorem dX5_init_5 : decode cX5_init 5 = .ok (.bipush 61, 2) := by decide +kernel
theorem dX5_init_7 : decode cX5_init 7 = .ok (.newarray .int, 2) := by decide +kernel
theorem dX5_init_9 : decode cX5_init 9 = .ok (.putfield 9, 3) := by decide +kernel
theorem dX5_init_12 : decode cX5_init 12 = .ok (.aload_n 0, 1) := by decide +kernel
theorem dX5_init_13 : decode cX5_init 13 = .ok (.aload_n 1, 1) := by decide +kernel
theorem dX5_init_14 : decode cX5_init 14 = .ok (.putfield 15, 3) := by decide +kernel
theorem dX5_init_17 : decode cX5_init 17 = .ok (.aload_n 0, 1) := by decide +kernel
theorem dX5_init_18 : decode cX5_init 18 = .ok (.getfield 9, 3) := by decide +kernel
theorem dX5_init_21 : decode cX5_init 21 = .ok (.iconst (-1), 1) := by decide +kernel
theorem dX5_init_22 : decode cX5_init 22 = .ok (.invokestatic 19, 3) := by decide +kernel
theorem dX5_init_25 : decode cX5_init 25 = .ok (.return_, 1) := by decide +kernel
theorem dX5_copyFrom_0 : decode cX5_copyFrom 0 = .ok (.aload_n 1, 1) := by decide +kernel
theorem dX5_copyFrom_1 : decode cX5_copyFrom 1 = .ok (.getfield 9, 3) := by decide +kernel
theorem dX5_copyFrom_4 : decode cX5_copyFrom 4 = .ok (.iconst 0, 1) := by decide +kernel
theorem dX5_copyFrom_5 : decode cX5_copyFrom 5 = .ok (.aload_n 0, 1) := by decide +kernel
theorem dX5_copyFrom_6 : decode cX5_copyFrom 6 = .ok (.getfield 9, 3) := by decide +kernel
theorem dX5_copyFrom_9 : decode cX5_copyFrom 9 = .ok (.iconst 0, 1) := by decide +kernel
theorem dX5_copyFrom_10 : decode cX5_copyFrom 10 = .ok (.aload_n 0, 1) := by decide +kernel
theorem dX5_copyFrom_11 : decode cX5_copyFrom 11 = .ok (.getfield 9, 3) := by decide +kernel
theorem dX5_copyFrom_14 : decode cX5_copyFrom 14 = .ok (.arraylength, 1) := by decide +kernel
theorem dX5_copyFrom_15 : decode cX5_copyFrom 15 = .ok (.invokestatic 25, 3) := by decide +kernel
theorem dX5_copyFrom_18 : decode cX5_copyFrom 18 = .ok (.aload_n 0, 1) := by decide +kernel
theorem dX5_copyFrom_19 : decode cX5_copyFrom 19 = .ok (.aload_n 1, 1) := by decide +kernel
theorem dX5_copyFrom_20 : decode cX5_copyFrom 20 = .ok (.getfield 31, 3) := by decide +kernel
theorem dX5_copyFrom_23 : decode cX5_copyFrom 23 = .ok (.putfield 31, 3) := by decide +kernel
theorem dX5_copyFrom_26 : decode cX5_copyFrom 26 = .ok (.aload_n 0, 1) := by decide +kernel
theorem dX5_copyFrom_27 : decode cX5_copyFrom 27 = .ok (.aload_n 1, 1) := by decide +kernel
theorem dX5_copyFrom_28 : decode cX5_copyFrom 28 = .ok (.getfield 35, 3) := by decide +kernel
theorem dX5_copyFrom_31 : decode cX5_copyFrom 31 = .ok (.putfield 35, 3) := by decide +kernel
theorem dX5_copyFrom_34 : decode cX5_copyFrom 34 = .ok (.return_, 1) := by decide +kernel
theorem dX5_has_0 : decode cX5_has 0 = .ok (.aload_n 0, 1) := by decide +kernel
theorem dX5_has_1 : decode cX5_has 1 = .ok (.iload_n 1, 1) := by decide +kernel
theorem dX5_has_2 : decode cX5_has 2 = .ok (.invokevirtual 38, 3) := by decide +kernel
theorem dX5_has_5 : decode cX5_has 5 = .ok (.iconst (-1), 1) := by decide +kernel
theorem dX5_has_6 : decode cX5_has 6 = .ok (.if_icmp .eq 7, 3) := by decide +kernel
theorem dX5_has_9 : decode cX5_has 9 = .ok (.iconst 1, 1) := by decide +kernel
theorem dX5_has_10 : decode cX5_has 10 = .ok (.goto 4, 3) := by decide +kernel
theorem dX5_has_13 : decode cX5_has 13 = .ok (.iconst 0, 1) := by decide +kernel
theorem dX5_has_14 : decode cX5_has 14 = .ok (.ireturn, 1) := by decide +kernel
theorem dX5_heightOf_0 : decode cX5_heightOf 0 = .ok (.iload_n 1, 1) := by decide +kernel
theorem dX5_heightOf_1 : decode cX5_heightOf 1 = .ok (.ifCond .lt 21, 3) := by decide +kernel
theorem dX5_heightOf_4 : decode cX5_heightOf 4 = .ok (.iload_n 1, 1) := by decide +kernel
theorem dX5_heightOf_5 : decode cX5_heightOf 5 = .ok (.aload_n 0, 1) := by decide +kernel
theorem dX5_heightOf_6 : decode cX5_heightOf 6 = .ok (.getfield 9, 3) := by decide +kernel
theorem dX5_heightOf_9 : decode cX5_heightOf 9 = .ok (.arraylength, 1) := by decide +kernel
theorem dX5_heightOf_10 : decode cX5_heightOf 10 = .ok (.if_icmp .ge 12, 3) := by decide +kernel
theorem dX5_heightOf_13 : decode cX5_heightOf 13 = .ok (.aload_n 0, 1) := by decide +kernel
theorem dX5_heightOf_14 : decode cX5_heightOf 14 = .ok (.getfield 9, 3) := by decide +kernel
theorem dX5_heightOf_17 : decode cX5_heightOf 17 = .ok (.iload_n 1, 1) := by decide +kernel
theorem dX5_heightOf_18 : decode cX5_heightOf 18 = .ok (.iaload, 1) := by decide +kernel
theorem dX5_heightOf_19 : decode cX5_heightOf 19 = .ok (.goto 4, 3) := by decide +kernel
theorem dX5_heightOf_22 : decode cX5_heightOf 22 = .ok (.iconst (-1), 1) := by decide +kernel
theorem dX5_heightOf_23 : decode cX5_heightOf 23 = .ok (.ireturn, 1) := by decide +kernel
theorem dX5_sign_0 : decode cX5_sign 0 = .ok (.aload_n 0, 1) := by decide +kernel
theorem dX5_sign_1 : decode cX5_sign 1 = .ok (.getfield 15, 3) := by decide +kernel
theorem dX5_sign_4 : decode cX5_sign 4 = .ok (.iload_n 1, 1) := by decide +kernel
theorem dX5_sign_5 : decode cX5_sign 5 = .ok (.invokevirtual 42, 3) := by decide +kernel
theorem dX5_sign_8 : decode cX5_sign 8 = .ok (.iconst (-1), 1) := by decide +kernel
theorem dX5_sign_9 : decode cX5_sign 9 = .ok (.if_icmp .ne 18, 3) := by decide +kernel
theorem dX5_sign_12 : decode cX5_sign 12 = .ok (.aload_n 0, 1) := by decide +kernel
theorem dX5_sign_13 : decode cX5_sign 13 = .ok (.iload_n 1, 1) := by decide +kernel
theorem dX5_sign_14 : decode cX5_sign 14 = .ok (.invokevirtual 38, 3) := by decide +kernel
theorem dX5_sign_17 : decode cX5_sign 17 = .ok (.iconst 2, 1) := by decide +kernel
theorem dX5_sign_18 : decode cX5_sign 18 = .ok (.irem, 1) := by decide +kernel
theorem dX5_sign_19 : decode cX5_sign 19 = .ok (.iconst 1, 1) := by decide +kernel
theorem dX5_sign_20 : decode cX5_sign 20 = .ok (.if_icmp .ne 7, 3) := by decide +kernel
theorem dX5_sign_23 : decode cX5_sign 23 = .ok (.iconst (-1), 1) := by decide +kernel
theorem dX5_sign_24 : decode cX5_sign 24 = .ok (.goto 4, 3) := by decide +kernel
theorem dX5_sign_27 : decode cX5_sign 27 = .ok (.iconst 1, 1) := by decide +kernel
theorem dX5_sign_28 : decode cX5_sign 28 = .ok (.ireturn, 1) := by decide +kernel
theorem dX5_reasonAgainstLaying_0 : decode cX5_reasonAgainstLaying 0 = .ok (.aload_n 0, 1) := by decide +kernel
theorem dX5_reasonAgainstLaying_1 : decode cX5_reasonAgainstLaying 1 = .ok (.getfield 15, 3) := by decide +kernel
theorem dX5_reasonAgainstLaying_4 : decode cX5_reasonAgainstLaying 4 = .ok (.iload_n 1, 1) := by decide +kernel
theorem dX5_reasonAgainstLaying_5 : decode cX5_reasonAgainstLaying 5 = .ok (.invokevirtual 47, 3) := by decide +kernel
theorem dX5_reasonAgainstLaying_8 : decode cX5_reasonAgainstLaying 8 = .ok (.ifCond .eq 5, 3) := by decide +kernel
theorem dX5_reasonAgainstLaying_11 : decode cX5_reasonAgainstLaying 11 = .ok (.iconst 1, 1) := by decide +kernel
theorem dX5_reasonAgainstLaying_12 : decode cX5_reasonAgainstLaying 12 = .ok (.ireturn, 1) := by decide +kernel
theorem dX5_reasonAgainstLaying_13 : decode cX5_reasonAgainstLaying 13 = .ok (.aload_n 0, 1) := by decide +kernel
theorem dX5_reasonAgainstLaying_14 : decode cX5_reasonAgainstLaying 14 = .ok (.iload_n 1, 1) := by decide +kernel
theorem dX5_reasonAgainstLaying_15 : decode cX5_reasonAgainstLaying 15 = .ok (.invokevirtual 38, 3) := by decide +kernel
theorem dX5_reasonAgainstLaying_18 : decode cX5_reasonAgainstLaying 18 = .ok (.iconst (-1), 1) := by decide +kernel
theorem dX5_reasonAgainstLaying_19 : decode cX5_reasonAgainstLaying 19 = .ok (.if_icmp .eq 5, 3) := by decide +kernel
theorem dX5_reasonAgainstLaying_22 : decode cX5_reasonAgainstLaying 22 = .ok (.iconst 2, 1) := by decide +kernel
theorem dX5_reasonAgainstLaying_23 : decode cX5_reasonAgainstLaying 23 = .ok (.ireturn, 1) := by decide +kernel
theorem dX5_reasonAgainstLaying_24 : decode cX5_reasonAgainstLaying 24 = .ok (.aload_n 0, 1) := by decide +kernel
theorem dX5_reasonAgainstLaying_25 : decode cX5_reasonAgainstLaying 25 = .ok (.getfield 31, 3) := by decide +kernel
theorem dX5_reasonAgainstLaying_28 : decode cX5_reasonAgainstLaying 28 = .ok (.bipush 8, 2) := by decide +kernel
theorem dX5_reasonAgainstLaying_30 : decode cX5_reasonAgainstLaying 30 = .ok (.if_icmp .lt 7, 3) := by decide +kernel
theorem dX5_reasonAgainstLaying_33 : decode cX5_reasonAgainstLaying 33 = .ok (.iconst 3, 1) := by decide +kernel
theorem dX5_reasonAgainstLaying_34 : decode cX5_reasonAgainstLaying 34 = .ok (.goto 4, 3) := by decide +kernel
theorem dX5_reasonAgainstLaying_37 : decode cX5_reasonAgainstLaying 37 = .ok (.iconst 0, 1) := by decide +kernel
theorem dX5_reasonAgainstLaying_38 : decode cX5_reasonAgainstLaying 38 = .ok (.ireturn, 1) := by decide +kernel
theorem dX5_causeAgainst_0 : decode cX5_causeAgainst 0 = .ok (.iload_n 2, 1) := by decide +kernel
theorem dX5_causeAgainst_1 : decode cX5_causeAgainst 1 = .ok (.invokestatic 51, 3) := by decide +kernel
theorem dX5_causeAgainst_4 : decode cX5_causeAgainst 4 = .ok (.ifCond .ne 5, 3) := by decide +kernel
theorem dX5_causeAgainst_7 : decode cX5_causeAgainst 7 = .ok (.iconst 1, 1) := by decide +kernel
theorem dX5_causeAgainst_8 : decode cX5_causeAgainst 8 = .ok (.ireturn, 1) := by decide +kernel
theorem dX5_causeAgainst_9 : decode cX5_causeAgainst 9 = .ok (.aload_n 0, 1) := by decide +kernel
theorem dX5_causeAgainst_10 : decode cX5_causeAgainst 10 = .ok (.iload_n 2, 1) := by decide +kernel
theorem dX5_causeAgainst_11 : decode cX5_causeAgainst 11 = .ok (.invokevirtual 38, 3) := by decide +kernel
theorem dX5_causeAgainst_14 : decode cX5_causeAgainst 14 = .ok (.istore_n 3, 1) := by decide +kernel
theorem dX5_causeAgainst_15 : decode cX5_causeAgainst 15 = .ok (.iload_n 3, 1) := by decide +kernel
theorem dX5_causeAgainst_16 : decode cX5_causeAgainst 16 = .ok (.iconst (-1), 1) := by decide +kernel
theorem dX5_causeAgainst_17 : decode cX5_causeAgainst 17 = .ok (.if_icmp .eq 7, 3) := by decide +kernel
theorem dX5_causeAgainst_20 : decode cX5_causeAgainst 20 = .ok (.iconst 1, 1) := by decide +kernel
theorem dX5_causeAgainst_21 : decode cX5_causeAgainst 21 = .ok (.goto 4, 3) := by decide +kernel
theorem dX5_causeAgainst_24 : decode cX5_causeAgainst 24 = .ok (.iconst 0, 1) := by decide +kernel
theorem dX5_causeAgainst_25 : decode cX5_causeAgainst 25 = .ok (.istore 4, 2) := by decide +kernel
theorem dX5_causeAgainst_27 : decode cX5_causeAgainst 27 = .ok (.iload_n 1, 1) := by decide +kernel
theorem dX5_causeAgainst_28 : decode cX5_causeAgainst 28 = .ok (.bipush 108, 2) := by decide +kernel
theorem dX5_causeAgainst_30 : decode cX5_causeAgainst 30 = .ok (.if_icmp .ne 21, 3) := by decide +kernel
theorem dX5_causeAgainst_33 : decode cX5_causeAgainst 33 = .ok (.aload_n 0, 1) := by decide +kernel
theorem dX5_causeAgainst_34 : decode cX5_causeAgainst 34 = .ok (.iload_n 2, 1) := by decide +kernel
theorem dX5_causeAgainst_35 : decode cX5_causeAgainst 35 = .ok (.invokevirtual 54, 3) := by decide +kernel
theorem dX5_causeAgainst_38 : decode cX5_causeAgainst 38 = .ok (.ifCond .ne 7, 3) := by decide +kernel
theorem dX5_causeAgainst_41 : decode cX5_causeAgainst 41 = .ok (.iconst 1, 1) := by decide +kernel
theorem dX5_causeAgainst_42 : decode cX5_causeAgainst 42 = .ok (.goto 4, 3) := by decide +kernel
theorem dX5_causeAgainst_45 : decode cX5_causeAgainst 45 = .ok (.iconst 0, 1) := by decide +kernel
theorem dX5_causeAgainst_46 : decode cX5_causeAgainst 46 = .ok (.istore 4, 2) := by decide +kernel
theorem dX5_causeAgainst_48 : decode cX5_causeAgainst 48 = .ok (.goto 53, 3) := by decide +kernel
theorem dX5_causeAgainst_51 : decode cX5_causeAgainst 51 = .ok (.iload_n 1, 1) := by decide +kernel
theorem dX5_causeAgainst_52 : decode cX5_causeAgainst 52 = .ok (.bipush 109, 2) := by decide +kernel
theorem dX5_causeAgainst_54 : decode cX5_causeAgainst 54 = .ok (.if_icmp .ne 30, 3) := by decide +kernel
theorem dX5_causeAgainst_57 : decode cX5_causeAgainst 57 = .ok (.iload_n 3, 1) := by decide +kernel
theorem dX5_causeAgainst_58 : decode cX5_causeAgainst 58 = .ok (.iconst (-1), 1) := by decide +kernel
theorem dX5_causeAgainst_59 : decode cX5_causeAgainst 59 = .ok (.if_icmp .eq 19, 3) := by decide +kernel
theorem dX5_causeAgainst_62 : decode cX5_causeAgainst 62 = .ok (.iload_n 3, 1) := by decide +kernel
theorem dX5_causeAgainst_63 : decode cX5_causeAgainst 63 = .ok (.aload_n 0, 1) := by decide +kernel
theorem dX5_causeAgainst_64 : decode cX5_causeAgainst 64 = .ok (.getfield 15, 3) := by decide +kernel
theorem dX5_causeAgainst_67 : decode cX5_causeAgainst 67 = .ok (.iload_n 2, 1) := by decide +kernel
theorem dX5_causeAgainst_68 : decode cX5_causeAgainst 68 = .ok (.invokevirtual 57, 3) := by decide +kernel
theorem dX5_causeAgainst_71 : decode cX5_causeAgainst 71 = .ok (.if_icmp .ge 7, 3) := by decide +kernel
theorem dX5_causeAgainst_74 : decode cX5_causeAgainst 74 = .ok (.iconst 1, 1) := by decide +kernel
theorem dX5_causeAgainst_75 : decode cX5_causeAgainst 75 = .ok (.goto 4, 3) := by decide +kernel
theorem dX5_causeAgainst_78 : decode cX5_causeAgainst 78 = .ok (.iconst 0, 1) := by decide +kernel
theorem dX5_causeAgainst_79 : decode cX5_causeAgainst 79 = .ok (.istore 4, 2) := by decide +kernel
theorem dX5_causeAgainst_81 : decode cX5_causeAgainst 81 = .ok (.goto 20, 3) := by decide +kernel
theorem dX5_causeAgainst_84 : decode cX5_causeAgainst 84 = .ok (.iload_n 1, 1) := by decide +kernel
theorem dX5_causeAgainst_85 : decode cX5_causeAgainst 85 = .ok (.bipush 98, 2) := by decide +kernel
theorem dX5_causeAgainst_87 : decode cX5_causeAgainst 87 = .ok (.if_icmp .ne 14, 3) := by decide +kernel
theorem dX5_causeAgainst_90 : decode cX5_causeAgainst 90 = .ok (.iload_n 3, 1) := by decide +kernel
theorem dX5_causeAgainst_91 : decode cX5_causeAgainst 91 = .ok (.ifCond .le 7, 3) := by decide +kernel
theorem dX5_causeAgainst_94 : decode cX5_causeAgainst 94 = .ok (.iconst 1, 1) := by decide +kernel
theorem dX5_causeAgainst_95 : decode cX5_causeAgainst 95 = .ok (.goto 4, 3) := by decide +kernel
theorem dX5_causeAgainst_98 : decode cX5_causeAgainst 98 = .ok (.iconst 0, 1) := by decide +kernel
theorem dX5_causeAgainst_99 : decode cX5_causeAgainst 99 = .ok (.istore 4, 2) := by decide +kernel
theorem dX5_causeAgainst_101 : decode cX5_causeAgainst 101 = .ok (.iload 4, 2) := by decide +kernel
theorem dX5_causeAgainst_103 : decode cX5_causeAgainst 103 = .ok (.ifCond .eq 7, 3) := by decide +kernel
theorem dX5_causeAgainst_106 : decode cX5_causeAgainst 106 = .ok (.iconst 0, 1) := by decide +kernel
theorem dX5_causeAgainst_107 : decode cX5_causeAgainst 107 = .ok (.goto 4, 3) := by decide +kernel
theorem dX5_causeAgainst_110 : decode cX5_causeAgainst 110 = .ok (.iconst 2, 1) := by decide +kernel
theorem dX5_causeAgainst_111 : decode cX5_causeAgainst 111 = .ok (.ireturn, 1) := by decide +kernel
theorem dX5_carryOut_0 : decode cX5_carryOut 0 = .ok (.iload_n 1, 1) := by decide +kernel
theorem dX5_carryOut_1 : decode cX5_carryOut 1 = .ok (.bipush 108, 2) := by decide +kernel
theorem dX5_carryOut_3 : decode cX5_carryOut 3 = .ok (.if_icmp .ne 22, 3) := by decide +kernel
theorem dX5_carryOut_6 : decode cX5_carryOut 6 = .ok (.aload_n 0, 1) := by decide +kernel
theorem dX5_carryOut_7 : decode cX5_carryOut 7 = .ok (.iload_n 2, 1) := by decide +kernel
theorem dX5_carryOut_8 : decode cX5_carryOut 8 = .ok (.iconst 0, 1) := by decide +kernel
theorem dX5_carryOut_9 : decode cX5_carryOut 9 = .ok (.invokevirtual 60, 3) := by decide +kernel
theorem dX5_carryOut_12 : decode cX5_carryOut 12 = .ok (.aload_n 0, 1) := by decide +kernel
theorem dX5_carryOut_13 : decode cX5_carryOut 13 = .ok (.dup, 1) := by decide +kernel
theorem dX5_carryOut_14 : decode cX5_carryOut 14 = .ok (.getfield 31, 3) := by decide +kernel
theorem dX5_carryOut_17 : decode cX5_carryOut 17 = .ok (.iconst 1, 1) := by decide +kernel
theorem dX5_carryOut_18 : decode cX5_carryOut 18 = .ok (.iadd, 1) := by decide +kernel
theorem dX5_carryOut_19 : decode cX5_carryOut 19 = .ok (.putfield 31, 3) := by decide +kernel
theorem dX5_carryOut_22 : decode cX5_carryOut 22 = .ok (.goto 77, 3) := by decide +kernel
theorem dX5_carryOut_25 : decode cX5_carryOut 25 = .ok (.iload_n 1, 1) := by decide +kernel
theorem dX5_carryOut_26 : decode cX5_carryOut 26 = .ok (.bipush 116, 2) := by decide +kernel
theorem dX5_carryOut_28 : decode cX5_carryOut 28 = .ok (.if_icmp .ne 22, 3) := by decide +kernel
theorem dX5_carryOut_31 : decode cX5_carryOut 31 = .ok (.aload_n 0, 1) := by decide +kernel
theorem dX5_carryOut_32 : decode cX5_carryOut 32 = .ok (.iload_n 2, 1) := by decide +kernel
theorem dX5_carryOut_33 : decode cX5_carryOut 33 = .ok (.iconst (-1), 1) := by decide +kernel
theorem dX5_carryOut_34 : decode cX5_carryOut 34 = .ok (.invokevirtual 60, 3) := by decide +kernel
theorem dX5_carryOut_37 : decode cX5_carryOut 37 = .ok (.aload_n 0, 1) := by decide +kernel
theorem dX5_carryOut_38 : decode cX5_carryOut 38 = .ok (.dup, 1) := by decide +kernel
theorem dX5_carryOut_39 : decode cX5_carryOut 39 = .ok (.getfield 31, 3) := by decide +kernel
theorem dX5_carryOut_42 : decode cX5_carryOut 42 = .ok (.iconst 1, 1) := by decide +kernel
theorem dX5_carryOut_43 : decode cX5_carryOut 43 = .ok (.isub, 1) := by decide +kernel
theorem dX5_carryOut_44 : decode cX5_carryOut 44 = .ok (.putfield 31, 3) := by decide +kernel
theorem dX5_carryOut_47 : decode cX5_carryOut 47 = .ok (.goto 52, 3) := by decide +kernel
theorem dX5_carryOut_50 : decode cX5_carryOut 50 = .ok (.iload_n 1, 1) := by decide +kernel
theorem dX5_carryOut_51 : decode cX5_carryOut 51 = .ok (.bipush 109, 2) := by decide +kernel
theorem dX5_carryOut_53 : decode cX5_carryOut 53 = .ok (.if_icmp .ne 28, 3) := by decide +kernel
theorem dX5_carryOut_56 : decode cX5_carryOut 56 = .ok (.aload_n 0, 1) := by decide +kernel
theorem dX5_carryOut_57 : decode cX5_carryOut 57 = .ok (.iload_n 2, 1) := by decide +kernel
theorem dX5_carryOut_58 : decode cX5_carryOut 58 = .ok (.aload_n 0, 1) := by decide +kernel
theorem dX5_carryOut_59 : decode cX5_carryOut 59 = .ok (.iload_n 2, 1) := by decide +kernel
theorem dX5_carryOut_60 : decode cX5_carryOut 60 = .ok (.invokevirtual 38, 3) := by decide +kernel
theorem dX5_carryOut_63 : decode cX5_carryOut 63 = .ok (.iconst 1, 1) := by decide +kernel
theorem dX5_carryOut_64 : decode cX5_carryOut 64 = .ok (.iadd, 1) := by decide +kernel
theorem dX5_carryOut_65 : decode cX5_carryOut 65 = .ok (.invokevirtual 60, 3) := by decide +kernel
theorem dX5_carryOut_68 : decode cX5_carryOut 68 = .ok (.aload_n 0, 1) := by decide +kernel
theorem dX5_carryOut_69 : decode cX5_carryOut 69 = .ok (.dup, 1) := by decide +kernel
theorem dX5_carryOut_70 : decode cX5_carryOut 70 = .ok (.getfield 35, 3) := by decide +kernel
theorem dX5_carryOut_73 : decode cX5_carryOut 73 = .ok (.iconst 1, 1) := by decide +kernel
theorem dX5_carryOut_74 : decode cX5_carryOut 74 = .ok (.iadd, 1) := by decide +kernel
theorem dX5_carryOut_75 : decode cX5_carryOut 75 = .ok (.putfield 35, 3) := by decide +kernel
theorem dX5_carryOut_78 : decode cX5_carryOut 78 = .ok (.goto 21, 3) := by decide +kernel
theorem dX5_carryOut_81 : decode cX5_carryOut 81 = .ok (.iload_n 1, 1) := by decide +kernel
theorem dX5_carryOut_82 : decode cX5_carryOut 82 = .ok (.bipush 98, 2) := by decide +kernel
theorem dX5_carryOut_84 : decode cX5_carryOut 84 = .ok (.if_icmp .ne 15, 3) := by decide +kernel
theorem dX5_carryOut_87 : decode cX5_carryOut 87 = .ok (.aload_n 0, 1) := by decide +kernel
theorem dX5_carryOut_88 : decode cX5_carryOut 88 = .ok (.iload_n 2, 1) := by decide +kernel
theorem dX5_carryOut_89 : decode cX5_carryOut 89 = .ok (.aload_n 0, 1) := by decide +kernel
theorem dX5_carryOut_90 : decode cX5_carryOut 90 = .ok (.iload_n 2, 1) := by decide +kernel
theorem dX5_carryOut_91 : decode cX5_carryOut 91 = .ok (.invokevirtual 38, 3) := by decide +kernel
theorem dX5_carryOut_94 : decode cX5_carryOut 94 = .ok (.iconst 1, 1) := by decide +kernel
theorem dX5_carryOut_95 : decode cX5_carryOut 95 = .ok (.isub, 1) := by decide +kernel
theorem dX5_carryOut_96 : decode cX5_carryOut 96 = .ok (.invokevirtual 60, 3) := by decide +kernel
theorem dX5_carryOut_99 : decode cX5_carryOut 99 = .ok (.return_, 1) := by decide +kernel
theorem dX5_setHeight_0 : decode cX5_setHeight 0 = .ok (.iload_n 1, 1) := by decide +kernel
theorem dX5_setHeight_1 : decode cX5_setHeight 1 = .ok (.ifCond .lt 19, 3) := by decide +kernel
theorem dX5_setHeight_4 : decode cX5_setHeight 4 = .ok (.iload_n 1, 1) := by decide +kernel
theorem dX5_setHeight_5 : decode cX5_setHeight 5 = .ok (.aload_n 0, 1) := by decide +kernel
theorem dX5_setHeight_6 : decode cX5_setHeight 6 = .ok (.getfield 9, 3) := by decide +kernel
theorem dX5_setHeight_9 : decode cX5_setHeight 9 = .ok (.arraylength, 1) := by decide +kernel
theorem dX5_setHeight_10 : decode cX5_setHeight 10 = .ok (.if_icmp .ge 10, 3) := by decide +kernel
theorem dX5_setHeight_13 : decode cX5_setHeight 13 = .ok (.aload_n 0, 1) := by decide +kernel
theorem dX5_setHeight_14 : decode cX5_setHeight 14 = .ok (.getfield 9, 3) := by decide +kernel
theorem dX5_setHeight_17 : decode cX5_setHeight 17 = .ok (.iload_n 1, 1) := by decide +kernel
theorem dX5_setHeight_18 : decode cX5_setHeight 18 = .ok (.iload_n 2, 1) := by decide +kernel
theorem dX5_setHeight_19 : decode cX5_setHeight 19 = .ok (.iastore, 1) := by decide +kernel
theorem dX5_setHeight_20 : decode cX5_setHeight 20 = .ok (.return_, 1) := by decide +kernel
theorem dX6_init_0 : decode cX6_init 0 = .ok (.aload_n 0, 1) := by decide +kernel
theorem dX6_init_1 : decode cX6_init 1 = .ok (.invokespecial 1, 3) := by decide +kernel
theorem dX6_init_4 : decode cX6_init 4 = .ok (.return_, 1) := by decide +kernel
theorem dX6_begin_0 : decode cX6_begin 0 = .ok (.aload_n 0, 1) := by decide +kernel
theorem dX6_begin_1 : decode cX6_begin 1 = .ok (.iload_n 1, 1) := by decide +kernel
theorem dX6_begin_2 : decode cX6_begin 2 = .ok (.putfield 7, 3) := by decide +kernel
theorem dX6_begin_5 : decode cX6_begin 5 = .ok (.aload_n 0, 1) := by decide +kernel
theorem dX6_begin_6 : decode cX6_begin 6 = .ok (.iload_n 1, 1) := by decide +kernel
theorem dX6_begin_7 : decode cX6_begin 7 = .ok (.invokestatic 13, 3) := by decide +kernel
theorem dX6_begin_10 : decode cX6_begin 10 = .ok (.putfield 19, 3) := by decide +kernel
theorem dX6_begin_13 : decode cX6_begin 13 = .ok (.aload_n 0, 1) := by decide +kernel
theorem dX6_begin_14 : decode cX6_begin 14 = .ok (.iconst 0, 1) := by decide +kernel
theorem dX6_begin_15 : decode cX6_begin 15 = .ok (.putfield 22, 3) := by decide +kernel
theorem dX6_begin_18 : decode cX6_begin 18 = .ok (.aload_n 0, 1) := by decide +kernel
theorem dX6_begin_19 : decode cX6_begin 19 = .ok (.iconst 1, 1) := by decide +kernel
theorem dX6_begin_20 : decode cX6_begin 20 = .ok (.putfield 25, 3) := by decide +kernel
theorem dX6_begin_23 : decode cX6_begin 23 = .ok (.aload_n 0, 1) := by decide +kernel
theorem dX6_begin_24 : decode cX6_begin 24 = .ok (.aload_n 0, 1) := by decide +kernel
theorem dX6_begin_25 : decode cX6_begin 25 = .ok (.getfield 19, 3) := by decide +kernel
theorem dX6_begin_28 : decode cX6_begin 28 = .ok (.putfield 28, 3) := by decide +kernel
theorem dX6_begin_31 : decode cX6_begin 31 = .ok (.return_, 1) := by decide +kernel
theorem dX6_next_0 : decode cX6_next 0 = .ok (.aload_n 0, 1) := by decide +kernel
theorem dX6_next_1 : decode cX6_next 1 = .ok (.getfield 25, 3) := by decide +kernel
theorem dX6_next_4 : decode cX6_next 4 = .ok (.ifCond .ne 4, 3) := by decide +kernel
theorem dX6_next_7 : decode cX6_next 7 = .ok (.return_, 1) := by decide +kernel
theorem dX6_next_8 : decode cX6_next 8 = .ok (.aload_n 0, 1) := by decide +kernel
theorem dX6_next_9 : decode cX6_next 9 = .ok (.aload_n 0, 1) := by decide +kernel
theorem dX6_next_10 : decode cX6_next 10 = .ok (.getfield 25, 3) := by decide +kernel
theorem dX6_next_13 : decode cX6_next 13 = .ok (.aload_n 0, 1) := by decide +kernel
theorem dX6_next_14 : decode cX6_next 14 = .ok (.getfield 28, 3) := by decide +kernel
theorem dX6_next_17 : decode cX6_next 17 = .ok (.imul, 1) := by decide +kernel
theorem dX6_next_18 : decode cX6_next 18 = .ok (.aload_n 0, 1) := by decide +kernel
theorem dX6_next_19 : decode cX6_next 19 = .ok (.getfield 22, 3) := by decide +kernel
theorem dX6_next_22 : decode cX6_next 22 = .ok (.isub, 1) := by decide +kernel
theorem dX6_next_23 : decode cX6_next 23 = .ok (.putfield 22, 3) := by decide +kernel
theorem dX6_next_26 : decode cX6_next 26 = .ok (.aload_n 0, 1) := by decide +kernel
theorem dX6_next_27 : decode cX6_next 27 = .ok (.aload_n 0, 1) := by decide +kernel
theorem dX6_next_28 : decode cX6_next 28 = .ok (.getfield 7, 3) := by decide +kernel
theorem dX6_next_31 : decode cX6_next 31 = .ok (.aload_n 0, 1) := by decide +kernel
theorem dX6_next_32 : decode cX6_next 32 = .ok (.getfield 22, 3) := by decide +kernel
theorem dX6_next_35 : decode cX6_next 35 = .ok (.aload_n 0, 1) := by decide +kernel
theorem dX6_next_36 : decode cX6_next 36 = .ok (.getfield 22, 3) := by decide +kernel
theorem dX6_next_39 : decode cX6_next 39 = .ok (.imul, 1) := by decide +kernel
theorem dX6_next_40 : decode cX6_next 40 = .ok (.isub, 1) := by decide +kernel
theorem dX6_next_41 : decode cX6_next 41 = .ok (.aload_n 0, 1) := by decide +kernel
theorem dX6_next_42 : decode cX6_next 42 = .ok (.getfield 25, 3) := by decide +kernel
theorem dX6_next_45 : decode cX6_next 45 = .ok (.idiv, 1) := by decide +kernel
theorem dX6_next_46 : decode cX6_next 46 = .ok (.putfield 25, 3) := by decide +kernel
theorem dX6_next_49 : decode cX6_next 49 = .ok (.aload_n 0, 1) := by decide +kernel
theorem dX6_next_50 : decode cX6_next 50 = .ok (.getfield 25, 3) := by decide +kernel
theorem dX6_next_53 : decode cX6_next 53 = .ok (.ifCond .eq 21, 3) := by decide +kernel
theorem dX6_next_56 : decode cX6_next 56 = .ok (.aload_n 0, 1) := by decide +kernel
theorem dX6_next_57 : decode cX6_next 57 = .ok (.aload_n 0, 1) := by decide +kernel
theorem dX6_next_58 : decode cX6_next 58 = .ok (.getfield 19, 3) := by decide +kernel
theorem dX6_next_61 : decode cX6_next 61 = .ok (.aload_n 0, 1) := by decide +kernel
theorem dX6_next_62 : decode cX6_next 62 = .ok (.getfield 22, 3) := by decide +kernel
theorem dX6_next_65 : decode cX6_next 65 = .ok (.iadd, 1) := by decide +kernel
theorem dX6_next_66 : decode cX6_next 66 = .ok (.aload_n 0, 1) := by decide +kernel
theorem dX6_next_67 : decode cX6_next 67 = .ok (.getfield 25, 3) := by decide +kernel
theorem dX6_next_70 : decode cX6_next 70 = .ok (.idiv, 1) := by decide +kernel
theorem dX6_next_71 : decode cX6_next 71 = .ok (.putfield 28, 3) := by decide +kernel
theorem dX6_next_74 : decode cX6_next 74 = .ok (.return_, 1) := by decide +kernel
theorem dX6_isSquare_0 : decode cX6_isSquare 0 = .ok (.aload_n 0, 1) := by decide +kernel
theorem dX6_isSquare_1 : decode cX6_isSquare 1 = .ok (.getfield 19, 3) := by decide +kernel
theorem dX6_isSquare_4 : decode cX6_isSquare 4 = .ok (.aload_n 0, 1) := by decide +kernel
theorem dX6_isSquare_5 : decode cX6_isSquare 5 = .ok (.getfield 19, 3) := by decide +kernel
theorem dX6_isSquare_8 : decode cX6_isSquare 8 = .ok (.imul, 1) := by decide +kernel
theorem dX6_isSquare_9 : decode cX6_isSquare 9 = .ok (.aload_n 0, 1) := by decide +kernel
theorem dX6_isSquare_10 : decode cX6_isSquare 10 = .ok (.getfield 7, 3) := by decide +kernel
theorem dX6_isSquare_13 : decode cX6_isSquare 13 = .ok (.if_icmp .ne 7, 3) := by decide +kernel
theorem dX6_isSquare_16 : decode cX6_isSquare 16 = .ok (.iconst 1, 1) := by decide +kernel
theorem dX6_isSquare_17 : decode cX6_isSquare 17 = .ok (.goto 4, 3) := by decide +kernel
theorem dX6_isSquare_20 : decode cX6_isSquare 20 = .ok (.iconst 0, 1) := by decide +kernel
theorem dX6_isSquare_21 : decode cX6_isSquare 21 = .ok (.ireturn, 1) := by decide +kernel
theorem dX6_endsPeriod_0 : decode cX6_endsPeriod 0 = .ok (.aload_n 0, 1) := by decide +kernel
theorem dX6_endsPeriod_1 : decode cX6_endsPeriod 1 = .ok (.getfield 28, 3) := by decide +kernel
theorem dX6_endsPeriod_4 : decode cX6_endsPeriod 4 = .ok (.iconst 2, 1) := by decide +kernel
theorem dX6_endsPeriod_5 : decode cX6_endsPeriod 5 = .ok (.aload_n 0, 1) := by decide +kernel
theorem dX6_endsPeriod_6 : decode cX6_endsPeriod 6 = .ok (.getfield 19, 3) := by decide +kernel
theorem dX6_endsPeriod_9 : decode cX6_endsPeriod 9 = .ok (.imul, 1) := by decide +kernel
theorem dX6_endsPeriod_10 : decode cX6_endsPeriod 10 = .ok (.if_icmp .ne 7, 3) := by decide +kernel
theorem dX6_endsPeriod_13 : decode cX6_endsPeriod 13 = .ok (.iconst 1, 1) := by decide +kernel
theorem dX6_endsPeriod_14 : decode cX6_endsPeriod 14 = .ok (.goto 4, 3) := by decide +kernel
theorem dX6_endsPeriod_17 : decode cX6_endsPeriod 17 = .ok (.iconst 0, 1) := by decide +kernel
theorem dX6_endsPeriod_18 : decode cX6_endsPeriod 18 = .ok (.ireturn, 1) := by decide +kernel
theorem dX7_init_0 : decode cX7_init 0 = .ok (.aload_n 0, 1) := by decide +kernel
theorem dX7_init_1 : decode cX7_init 1 = .ok (.invokespecial 3, 3) := by decide +kernel
theorem dX7_init_4 : decode cX7_init 4 = .ok (.aload_n 0, 1) := by decide +kernel
theorem dX7_init_5 : decode cX7_init 5 = .ok (.bipush 60, 2) := by decide +kernel
theorem dX7_init_7 : decode cX7_init 7 = .ok (.newarray .char, 2) := by decide +kernel
theorem dX7_init_9 : decode cX7_init 9 = .ok (.putfield 9, 3) := by decide +kernel
theorem dX7_init_12 : decode cX7_init 12 = .ok (.return_, 1) := by decide +kernel
theorem dX7_append_0 : decode cX7_append 0 = .ok (.aload_n 0, 1) := by decide +kernel
theorem dX7_append_1 : decode cX7_append 1 = .ok (.getfield 15, 3) := by decide +kernel
theorem dX7_append_4 : decode cX7_append 4 = .ok (.aload_n 0, 1) := by decide +kernel
theorem dX7_append_5 : decode cX7_append 5 = .ok (.getfield 9, 3) := by decide +kernel
theorem dX7_append_8 : decode cX7_append 8 = .ok (.arraylength, 1) := by decide +kernel
theorem dX7_append_9 : decode cX7_append 9 = .ok (.if_icmp .lt 5, 3) := by decide +kernel
theorem dX7_append_12 : decode cX7_append 12 = .ok (.iconst 0, 1) := by decide +kernel
theorem dX7_append_13 : decode cX7_append 13 = .ok (.ireturn, 1) := by decide +kernel
theorem dX7_append_14 : decode cX7_append 14 = .ok (.aload_n 0, 1) := by decide +kernel
theorem dX7_append_15 : decode cX7_append 15 = .ok (.getfield 9, 3) := by decide +kernel
theorem dX7_append_18 : decode cX7_append 18 = .ok (.aload_n 0, 1) := by decide +kernel
theorem dX7_append_19 : decode cX7_append 19 = .ok (.getfield 15, 3) := by decide +kernel
theorem dX7_append_22 : decode cX7_append 22 = .ok (.iload_n 1, 1) := by decide +kernel
theorem dX7_append_23 : decode cX7_append 23 = .ok (.castore, 1) := by decide +kernel
theorem dX7_append_24 : decode cX7_append 24 = .ok (.aload_n 0, 1) := by decide +kernel
theorem dX7_append_25 : decode cX7_append 25 = .ok (.dup, 1) := by decide +kernel
theorem dX7_append_26 : decode cX7_append 26 = .ok (.getfield 15, 3) := by decide +kernel
theorem dX7_append_29 : decode cX7_append 29 = .ok (.iconst 1, 1) := by decide +kernel
theorem dX7_append_30 : decode cX7_append 30 = .ok (.iadd, 1) := by decide +kernel
theorem dX7_append_31 : decode cX7_append 31 = .ok (.putfield 15, 3) := by decide +kernel
theorem dX7_append_34 : decode cX7_append 34 = .ok (.iconst 1, 1) := by decide +kernel
theorem dX7_append_35 : decode cX7_append 35 = .ok (.ireturn, 1) := by decide +kernel
theorem dX7_findsFault_0 : decode cX7_findsFault 0 = .ok (.aload_n 2, 1) := by decide +kernel
theorem dX7_findsFault_1 : decode cX7_findsFault 1 = .ok (.aload_n 1, 1) := by decide +kernel
theorem dX7_findsFault_2 : decode cX7_findsFault 2 = .ok (.invokevirtual 19, 3) := by decide +kernel
theorem dX7_findsFault_5 : decode cX7_findsFault 5 = .ok (.aload_n 0, 1) := by decide +kernel
theorem dX7_findsFault_6 : decode cX7_findsFault 6 = .ok (.iconst 0, 1) := by decide +kernel
theorem dX7_findsFault_7 : decode cX7_findsFault 7 = .ok (.putfield 25, 3) := by decide +kernel
theorem dX7_findsFault_10 : decode cX7_findsFault 10 = .ok (.aload_n 0, 1) := by decide +kernel
theorem dX7_findsFault_11 : decode cX7_findsFault 11 = .ok (.iconst 0, 1) := by decide +kernel
theorem dX7_findsFault_12 : decode cX7_findsFault 12 = .ok (.putfield 28, 3) := by decide +kernel
theorem dX7_findsFault_15 : decode cX7_findsFault 15 = .ok (.aload_n 0, 1) := by decide +kernel
theorem dX7_findsFault_16 : decode cX7_findsFault 16 = .ok (.iconst 0, 1) := by decide +kernel
theorem dX7_findsFault_17 : decode cX7_findsFault 17 = .ok (.putfield 31, 3) := by decide +kernel
theorem dX7_findsFault_20 : decode cX7_findsFault 20 = .ok (.aload_n 0, 1) := by decide +kernel
theorem dX7_findsFault_21 : decode cX7_findsFault 21 = .ok (.iconst 0, 1) := by decide +kernel
theorem dX7_findsFault_22 : decode cX7_findsFault 22 = .ok (.putfield 34, 3) := by decide +kernel
theorem dX7_findsFault_25 : decode cX7_findsFault 25 = .ok (.iconst 0, 1) := by decide +kernel
theorem dX7_findsFault_26 : decode cX7_findsFault 26 = .ok (.istore_n 3, 1) := by decide +kernel
theorem dX7_findsFault_27 : decode cX7_findsFault 27 = .ok (.iload_n 3, 1) := by decide +kernel
theorem dX7_findsFault_28 : decode cX7_findsFault 28 = .ok (.bipush 60, 2) := by decide +kernel
theorem dX7_findsFault_30 : decode cX7_findsFault 30 = .ok (.if_icmp .ge 32, 3) := by decide +kernel
theorem dX7_findsFault_33 : decode cX7_findsFault 33 = .ok (.aload_n 0, 1) := by decide +kernel
theorem dX7_findsFault_34 : decode cX7_findsFault 34 = .ok (.getfield 28, 3) := by decide +kernel
theorem dX7_findsFault_37 : decode cX7_findsFault 37 = .ok (.aload_n 0, 1) := by decide +kernel
theorem dX7_findsFault_38 : decode cX7_findsFault 38 = .ok (.getfield 15, 3) := by decide +kernel
theorem dX7_findsFault_41 : decode cX7_findsFault 41 = .ok (.if_icmp .ge 21, 3) := by decide +kernel
theorem dX7_findsFault_44 : decode cX7_findsFault 44 = .ok (.aload_n 0, 1) := by decide +kernel
theorem dX7_findsFault_45 : decode cX7_findsFault 45 = .ok (.getfield 31, 3) := by decide +kernel
theorem dX7_findsFault_48 : decode cX7_findsFault 48 = .ok (.ifCond .ne 14, 3) := by decide +kernel
theorem dX7_findsFault_51 : decode cX7_findsFault 51 = .ok (.aload_n 0, 1) := by decide +kernel
theorem dX7_findsFault_52 : decode cX7_findsFault 52 = .ok (.aload_n 2, 1) := by decide +kernel
theorem dX7_findsFault_53 : decode cX7_findsFault 53 = .ok (.invokevirtual 37, 3) := by decide +kernel
theorem dX7_findsFault_56 : decode cX7_findsFault 56 = .ok (.iinc 3 1, 3) := by decide +kernel
theorem dX7_findsFault_59 : decode cX7_findsFault 59 = .ok (.goto (-32), 3) := by decide +kernel
theorem dX7_findsFault_62 : decode cX7_findsFault 62 = .ok (.aload_n 0, 1) := by decide +kernel
theorem dX7_findsFault_63 : decode cX7_findsFault 63 = .ok (.getfield 31, 3) := by decide +kernel
theorem dX7_findsFault_66 : decode cX7_findsFault 66 = .ok (.ifCond .eq 7, 3) := by decide +kernel
theorem dX7_findsFault_69 : decode cX7_findsFault 69 = .ok (.iconst 1, 1) := by decide +kernel
theorem dX7_findsFault_70 : decode cX7_findsFault 70 = .ok (.goto 4, 3) := by decide +kernel
theorem dX7_findsFault_73 : decode cX7_findsFault 73 = .ok (.iconst 0, 1) := by decide +kernel
theorem dX7_findsFault_74 : decode cX7_findsFault 74 = .ok (.ireturn, 1) := by decide +kernel
theorem dX7_readOrder_0 : decode cX7_readOrder 0 = .ok (.aload_n 0, 1) := by decide +kernel
theorem dX7_readOrder_1 : decode cX7_readOrder 1 = .ok (.aload_n 0, 1) := by decide +kernel
theorem dX7_readOrder_2 : decode cX7_readOrder 2 = .ok (.getfield 28, 3) := by decide +kernel
theorem dX7_readOrder_5 : decode cX7_readOrder 5 = .ok (.iconst 2, 1) := by decide +kernel
theorem dX7_readOrder_6 : decode cX7_readOrder 6 = .ok (.iadd, 1) := by decide +kernel
theorem dX7_readOrder_7 : decode cX7_readOrder 7 = .ok (.invokevirtual 40, 3) := by decide +kernel
theorem dX7_readOrder_10 : decode cX7_readOrder 10 = .ok (.ifCond .eq 7, 3) := by decide +kernel
theorem dX7_readOrder_13 : decode cX7_readOrder 13 = .ok (.iconst 2, 1) := by decide +kernel
theorem dX7_readOrder_14 : decode cX7_readOrder 14 = .ok (.goto 4, 3) := by decide +kernel
theorem dX7_readOrder_17 : decode cX7_readOrder 17 = .ok (.iconst 1, 1) := by decide +kernel
theorem dX7_readOrder_18 : decode cX7_readOrder 18 = .ok (.istore_n 2, 1) := by decide +kernel
theorem dX7_readOrder_19 : decode cX7_readOrder 19 = .ok (.aload_n 0, 1) := by decide +kernel
theorem dX7_readOrder_20 : decode cX7_readOrder 20 = .ok (.iload_n 2, 1) := by decide +kernel
theorem dX7_readOrder_21 : decode cX7_readOrder 21 = .ok (.invokevirtual 44, 3) := by decide +kernel
theorem dX7_readOrder_24 : decode cX7_readOrder 24 = .ok (.istore_n 3, 1) := by decide +kernel
theorem dX7_readOrder_25 : decode cX7_readOrder 25 = .ok (.iload_n 3, 1) := by decide +kernel
theorem dX7_readOrder_26 : decode cX7_readOrder 26 = .ok (.iconst (-1), 1) := by decide +kernel
theorem dX7_readOrder_27 : decode cX7_readOrder 27 = .ok (.if_icmp .eq 14, 3) := by decide +kernel
theorem dX7_readOrder_30 : decode cX7_readOrder 30 = .ok (.aload_n 0, 1) := by decide +kernel
theorem dX7_readOrder_31 : decode cX7_readOrder 31 = .ok (.iconst 1, 1) := by decide +kernel
theorem dX7_readOrder_32 : decode cX7_readOrder 32 = .ok (.putfield 31, 3) := by decide +kernel
theorem dX7_readOrder_35 : decode cX7_readOrder 35 = .ok (.aload_n 0, 1) := by decide +kernel
theorem dX7_readOrder_36 : decode cX7_readOrder 36 = .ok (.iload_n 3, 1) := by decide +kernel
theorem dX7_readOrder_37 : decode cX7_readOrder 37 = .ok (.putfield 34, 3) := by decide +kernel
theorem dX7_readOrder_40 : decode cX7_readOrder 40 = .ok (.return_, 1) := by decide +kernel
theorem dX7_readOrder_41 : decode cX7_readOrder 41 = .ok (.aload_n 0, 1) := by decide +kernel
theorem dX7_readOrder_42 : decode cX7_readOrder 42 = .ok (.aload_n 0, 1) := by decide +kernel
theorem dX7_readOrder_43 : decode cX7_readOrder 43 = .ok (.getfield 28, 3) := by decide +kernel
theorem dX7_readOrder_46 : decode cX7_readOrder 46 = .ok (.invokevirtual 48, 3) := by decide +kernel
theorem dX7_readOrder_49 : decode cX7_readOrder 49 = .ok (.istore 4, 2) := by decide +kernel
theorem dX7_readOrder_51 : decode cX7_readOrder 51 = .ok (.aload_n 0, 1) := by decide +kernel
theorem dX7_readOrder_52 : decode cX7_readOrder 52 = .ok (.aload_n 0, 1) := by decide +kernel
theorem dX7_readOrder_53 : decode cX7_readOrder 53 = .ok (.getfield 28, 3) := by decide +kernel
theorem dX7_readOrder_56 : decode cX7_readOrder 56 = .ok (.iconst 1, 1) := by decide +kernel
theorem dX7_readOrder_57 : decode cX7_readOrder 57 = .ok (.iadd, 1) := by decide +kernel
theorem dX7_readOrder_58 : decode cX7_readOrder 58 = .ok (.iload_n 2, 1) := by decide +kernel
theorem dX7_readOrder_59 : decode cX7_readOrder 59 = .ok (.invokevirtual 52, 3) := by decide +kernel
theorem dX7_readOrder_62 : decode cX7_readOrder 62 = .ok (.istore 5, 2) := by decide +kernel
theorem dX7_readOrder_64 : decode cX7_readOrder 64 = .ok (.aload_n 0, 1) := by decide +kernel
theorem dX7_readOrder_65 : decode cX7_readOrder 65 = .ok (.aload_n 1, 1) := by decide +kernel
theorem dX7_readOrder_66 : decode cX7_readOrder 66 = .ok (.iload 4, 2) := by decide +kernel
theorem dX7_readOrder_68 : decode cX7_readOrder 68 = .ok (.iload 5, 2) := by decide +kernel
theorem dX7_readOrder_70 : decode cX7_readOrder 70 = .ok (.invokevirtual 56, 3) := by decide +kernel
theorem dX7_readOrder_73 : decode cX7_readOrder 73 = .ok (.putfield 34, 3) := by decide +kernel
theorem dX7_readOrder_76 : decode cX7_readOrder 76 = .ok (.aload_n 0, 1) := by decide +kernel
theorem dX7_readOrder_77 : decode cX7_readOrder 77 = .ok (.getfield 34, 3) := by decide +kernel
theorem dX7_readOrder_80 : decode cX7_readOrder 80 = .ok (.ifCond .eq 9, 3) := by decide +kernel
theorem dX7_readOrder_83 : decode cX7_readOrder 83 = .ok (.aload_n 0, 1) := by decide +kernel
theorem dX7_readOrder_84 : decode cX7_readOrder 84 = .ok (.iconst 2, 1) := by decide +kernel
theorem dX7_readOrder_85 : decode cX7_readOrder 85 = .ok (.putfield 31, 3) := by decide +kernel
theorem dX7_readOrder_88 : decode cX7_readOrder 88 = .ok (.return_, 1) := by decide +kernel
theorem dX7_readOrder_89 : decode cX7_readOrder 89 = .ok (.aload_n 1, 1) := by decide +kernel
theorem dX7_readOrder_90 : decode cX7_readOrder 90 = .ok (.iload 4, 2) := by decide +kernel
theorem dX7_readOrder_92 : decode cX7_readOrder 92 = .ok (.iload 5, 2) := by decide +kernel
theorem dX7_readOrder_94 : decode cX7_readOrder 94 = .ok (.invokevirtual 60, 3) := by decide +kernel
theorem dX7_readOrder_97 : decode cX7_readOrder 97 = .ok (.aload_n 0, 1) := by decide +kernel
theorem dX7_readOrder_98 : decode cX7_readOrder 98 = .ok (.dup, 1) := by decide +kernel
theorem dX7_readOrder_99 : decode cX7_readOrder 99 = .ok (.getfield 25, 3) := by decide +kernel
theorem dX7_readOrder_102 : decode cX7_readOrder 102 = .ok (.iconst 1, 1) := by decide +kernel
theorem dX7_readOrder_103 : decode cX7_readOrder 103 = .ok (.iadd, 1) := by decide +kernel
theorem dX7_readOrder_104 : decode cX7_readOrder 104 = .ok (.putfield 25, 3) := by decide +kernel
theorem dX7_readOrder_107 : decode cX7_readOrder 107 = .ok (.aload_n 0, 1) := by decide +kernel
theorem dX7_readOrder_108 : decode cX7_readOrder 108 = .ok (.dup, 1) := by decide +kernel
theorem dX7_readOrder_109 : decode cX7_readOrder 109 = .ok (.getfield 28, 3) := by decide +kernel
theorem dX7_readOrder_112 : decode cX7_readOrder 112 = .ok (.iload_n 2, 1) := by decide +kernel
theorem dX7_readOrder_113 : decode cX7_readOrder 113 = .ok (.iconst 2, 1) := by decide +kernel
theorem dX7_readOrder_114 : decode cX7_readOrder 114 = .ok (.iadd, 1) := by decide +kernel
theorem dX7_readOrder_115 : decode cX7_readOrder 115 = .ok (.iadd, 1) := by decide +kernel
theorem dX7_readOrder_116 : decode cX7_readOrder 116 = .ok (.putfield 28, 3) := by decide +kernel
theorem dX7_readOrder_119 : decode cX7_readOrder 119 = .ok (.return_, 1) := by decide +kernel
theorem dX7_breaksOffAt_0 : decode cX7_breaksOffAt 0 = .ok (.aload_n 0, 1) := by decide +kernel
theorem dX7_breaksOffAt_1 : decode cX7_breaksOffAt 1 = .ok (.aload_n 0, 1) := by decide +kernel
theorem dX7_breaksOffAt_2 : decode cX7_breaksOffAt 2 = .ok (.getfield 28, 3) := by decide +kernel
theorem dX7_breaksOffAt_5 : decode cX7_breaksOffAt 5 = .ok (.invokevirtual 48, 3) := by decide +kernel
theorem dX7_breaksOffAt_8 : decode cX7_breaksOffAt 8 = .ok (.invokestatic 64, 3) := by decide +kernel
theorem dX7_breaksOffAt_11 : decode cX7_breaksOffAt 11 = .ok (.ifCond .ne 5, 3) := by decide +kernel
theorem dX7_breaksOffAt_14 : decode cX7_breaksOffAt 14 = .ok (.iconst 0, 1) := by decide +kernel
theorem dX7_breaksOffAt_15 : decode cX7_breaksOffAt 15 = .ok (.ireturn, 1) := by decide +kernel
theorem dX7_breaksOffAt_16 : decode cX7_breaksOffAt 16 = .ok (.aload_n 0, 1) := by decide +kernel
theorem dX7_breaksOffAt_17 : decode cX7_breaksOffAt 17 = .ok (.aload_n 0, 1) := by decide +kernel
theorem dX7_breaksOffAt_18 : decode cX7_breaksOffAt 18 = .ok (.getfield 28, 3) := by decide +kernel
theorem dX7_breaksOffAt_21 : decode cX7_breaksOffAt 21 = .ok (.iconst 1, 1) := by decide +kernel
theorem dX7_breaksOffAt_22 : decode cX7_breaksOffAt 22 = .ok (.iadd, 1) := by decide +kernel
theorem dX7_breaksOffAt_23 : decode cX7_breaksOffAt 23 = .ok (.invokevirtual 40, 3) := by decide +kernel
theorem dX7_breaksOffAt_26 : decode cX7_breaksOffAt 26 = .ok (.ifCond .ne 5, 3) := by decide +kernel
theorem dX7_breaksOffAt_29 : decode cX7_breaksOffAt 29 = .ok (.iconst 1, 1) := by decide +kernel
theorem dX7_breaksOffAt_30 : decode cX7_breaksOffAt 30 = .ok (.ireturn, 1) := by decide +kernel
theorem dX7_breaksOffAt_31 : decode cX7_breaksOffAt 31 = .ok (.aload_n 0, 1) := by decide +kernel
theorem dX7_breaksOffAt_32 : decode cX7_breaksOffAt 32 = .ok (.aload_n 0, 1) := by decide +kernel
theorem dX7_breaksOffAt_33 : decode cX7_breaksOffAt 33 = .ok (.getfield 28, 3) := by decide +kernel
theorem dX7_breaksOffAt_36 : decode cX7_breaksOffAt 36 = .ok (.iconst 1, 1) := by decide +kernel
theorem dX7_breaksOffAt_37 : decode cX7_breaksOffAt 37 = .ok (.iadd, 1) := by decide +kernel
theorem dX7_breaksOffAt_38 : decode cX7_breaksOffAt 38 = .ok (.iload_n 1, 1) := by decide +kernel
theorem dX7_breaksOffAt_39 : decode cX7_breaksOffAt 39 = .ok (.iadd, 1) := by decide +kernel
theorem dX7_breaksOffAt_40 : decode cX7_breaksOffAt 40 = .ok (.invokevirtual 48, 3) := by decide +kernel
theorem dX7_breaksOffAt_43 : decode cX7_breaksOffAt 43 = .ok (.bipush 59, 2) := by decide +kernel
theorem dX7_breaksOffAt_45 : decode cX7_breaksOffAt 45 = .ok (.if_icmp .ne 7, 3) := by decide +kernel
theorem dX7_breaksOffAt_48 : decode cX7_breaksOffAt 48 = .ok (.iconst (-1), 1) := by decide +kernel
theorem dX7_breaksOffAt_49 : decode cX7_breaksOffAt 49 = .ok (.goto 6, 3) := by decide +kernel
theorem dX7_breaksOffAt_52 : decode cX7_breaksOffAt 52 = .ok (.iconst 1, 1) := by decide +kernel
theorem dX7_breaksOffAt_53 : decode cX7_breaksOffAt 53 = .ok (.iload_n 1, 1) := by decide +kernel
theorem dX7_breaksOffAt_54 : decode cX7_breaksOffAt 54 = .ok (.iadd, 1) := by decide +kernel
theorem dX7_breaksOffAt_55 : decode cX7_breaksOffAt 55 = .ok (.ireturn, 1) := by decide +kernel
theorem dX7_numberAt_0 : decode cX7_numberAt 0 = .ok (.iconst 0, 1) := by decide +kernel
theorem dX7_numberAt_1 : decode cX7_numberAt 1 = .ok (.istore_n 3, 1) := by decide +kernel
theorem dX7_numberAt_2 : decode cX7_numberAt 2 = .ok (.iload_n 1, 1) := by decide +kernel
theorem dX7_numberAt_3 : decode cX7_numberAt 3 = .ok (.istore 4, 2) := by decide +kernel
theorem dX7_numberAt_5 : decode cX7_numberAt 5 = .ok (.iload 4, 2) := by decide +kernel
theorem dX7_numberAt_7 : decode cX7_numberAt 7 = .ok (.iload_n 1, 1) := by decide +kernel
theorem dX7_numberAt_8 : decode cX7_numberAt 8 = .ok (.iload_n 2, 1) := by decide +kernel
theorem dX7_numberAt_9 : decode cX7_numberAt 9 = .ok (.iadd, 1) := by decide +kernel
theorem dX7_numberAt_10 : decode cX7_numberAt 10 = .ok (.if_icmp .ge 24, 3) := by decide +kernel
theorem dX7_numberAt_13 : decode cX7_numberAt 13 = .ok (.iload_n 3, 1) := by decide +kernel
theorem dX7_numberAt_14 : decode cX7_numberAt 14 = .ok (.bipush 10, 2) := by decide +kernel
theorem dX7_numberAt_16 : decode cX7_numberAt 16 = .ok (.imul, 1) := by decide +kernel
theorem dX7_numberAt_17 : decode cX7_numberAt 17 = .ok (.aload_n 0, 1) := by decide +kernel
theorem dX7_numberAt_18 : decode cX7_numberAt 18 = .ok (.iload 4, 2) := by decide +kernel
theorem dX7_numberAt_20 : decode cX7_numberAt 20 = .ok (.invokevirtual 48, 3) := by decide +kernel
theorem dX7_numberAt_23 : decode cX7_numberAt 23 = .ok (.bipush 48, 2) := by decide +kernel
theorem dX7_numberAt_25 : decode cX7_numberAt 25 = .ok (.isub, 1) := by decide +kernel
theorem dX7_numberAt_26 : decode cX7_numberAt 26 = .ok (.iadd, 1) := by decide +kernel
theorem dX7_numberAt_27 : decode cX7_numberAt 27 = .ok (.istore_n 3, 1) := by decide +kernel
theorem dX7_numberAt_28 : decode cX7_numberAt 28 = .ok (.iinc 4 1, 3) := by decide +kernel
theorem dX7_numberAt_31 : decode cX7_numberAt 31 = .ok (.goto (-26), 3) := by decide +kernel
theorem dX7_numberAt_34 : decode cX7_numberAt 34 = .ok (.iload_n 3, 1) := by decide +kernel
theorem dX7_numberAt_35 : decode cX7_numberAt 35 = .ok (.ireturn, 1) := by decide +kernel
theorem dX7_characterAt_0 : decode cX7_characterAt 0 = .ok (.iload_n 1, 1) := by decide +kernel
theorem dX7_characterAt_1 : decode cX7_characterAt 1 = .ok (.ifCond .lt 29, 3) := by decide +kernel
theorem dX7_characterAt_4 : decode cX7_characterAt 4 = .ok (.iload_n 1, 1) := by decide +kernel
theorem dX7_characterAt_5 : decode cX7_characterAt 5 = .ok (.aload_n 0, 1) := by decide +kernel
theorem dX7_characterAt_6 : decode cX7_characterAt 6 = .ok (.getfield 15, 3) := by decide +kernel
theorem dX7_characterAt_9 : decode cX7_characterAt 9 = .ok (.if_icmp .ge 21, 3) := by decide +kernel
theorem dX7_characterAt_12 : decode cX7_characterAt 12 = .ok (.iload_n 1, 1) := by decide +kernel
theorem dX7_characterAt_13 : decode cX7_characterAt 13 = .ok (.aload_n 0, 1) := by decide +kernel
theorem dX7_characterAt_14 : decode cX7_characterAt 14 = .ok (.getfield 9, 3) := by decide +kernel
theorem dX7_characterAt_17 : decode cX7_characterAt 17 = .ok (.arraylength, 1) := by decide +kernel
theorem dX7_characterAt_18 : decode cX7_characterAt 18 = .ok (.if_icmp .ge 12, 3) := by decide +kernel
theorem dX7_characterAt_21 : decode cX7_characterAt 21 = .ok (.aload_n 0, 1) := by decide +kernel
theorem dX7_characterAt_22 : decode cX7_characterAt 22 = .ok (.getfield 9, 3) := by decide +kernel
theorem dX7_characterAt_25 : decode cX7_characterAt 25 = .ok (.iload_n 1, 1) := by decide +kernel
theorem dX7_characterAt_26 : decode cX7_characterAt 26 = .ok (.caload, 1) := by decide +kernel
theorem dX7_characterAt_27 : decode cX7_characterAt 27 = .ok (.goto 4, 3) := by decide +kernel
theorem dX7_characterAt_30 : decode cX7_characterAt 30 = .ok (.iconst 0, 1) := by decide +kernel
theorem dX7_characterAt_31 : decode cX7_characterAt 31 = .ok (.ireturn, 1) := by decide +kernel
theorem dX7_isDigit_0 : decode cX7_isDigit 0 = .ok (.aload_n 0, 1) := by decide +kernel
theorem dX7_isDigit_1 : decode cX7_isDigit 1 = .ok (.iload_n 1, 1) := by decide +kernel
theorem dX7_isDigit_2 : decode cX7_isDigit 2 = .ok (.invokevirtual 48, 3) := by decide +kernel
theorem dX7_isDigit_5 : decode cX7_isDigit 5 = .ok (.istore_n 2, 1) := by decide +kernel
theorem dX7_isDigit_6 : decode cX7_isDigit 6 = .ok (.iload_n 2, 1) := by decide +kernel
theorem dX7_isDigit_7 : decode cX7_isDigit 7 = .ok (.bipush 48, 2) := by decide +kernel
theorem dX7_isDigit_9 : decode cX7_isDigit 9 = .ok (.if_icmp .lt 13, 3) := by decide +kernel
theorem dX7_isDigit_12 : decode cX7_isDigit 12 = .ok (.iload_n 2, 1) := by decide +kernel
theorem dX7_isDigit_13 : decode cX7_isDigit 13 = .ok (.bipush 57, 2) := by decide +kernel
theorem dX7_isDigit_15 : decode cX7_isDigit 15 = .ok (.if_icmp .gt 7, 3) := by decide +kernel
theorem dX7_isDigit_18 : decode cX7_isDigit 18 = .ok (.iconst 1, 1) := by decide +kernel
theorem dX7_isDigit_19 : decode cX7_isDigit 19 = .ok (.goto 4, 3) := by decide +kernel
theorem dX7_isDigit_22 : decode cX7_isDigit 22 = .ok (.iconst 0, 1) := by decide +kernel
theorem dX7_isDigit_23 : decode cX7_isDigit 23 = .ok (.ireturn, 1) := by decide +kernel
theorem dX7_isOrder_0 : decode cX7_isOrder 0 = .ok (.iload_n 0, 1) := by decide +kernel
theorem dX7_isOrder_1 : decode cX7_isOrder 1 = .ok (.bipush 108, 2) := by decide +kernel
theorem dX7_isOrder_3 : decode cX7_isOrder 3 = .ok (.if_icmp .eq 21, 3) := by decide +kernel
theorem dX7_isOrder_6 : decode cX7_isOrder 6 = .ok (.iload_n 0, 1) := by decide +kernel
theorem dX7_isOrder_7 : decode cX7_isOrder 7 = .ok (.bipush 116, 2) := by decide +kernel
theorem dX7_isOrder_9 : decode cX7_isOrder 9 = .ok (.if_icmp .eq 15, 3) := by decide +kernel
theorem dX7_isOrder_12 : decode cX7_isOrder 12 = .ok (.iload_n 0, 1) := by decide +kernel
theorem dX7_isOrder_13 : decode cX7_isOrder 13 = .ok (.bipush 109, 2) := by decide +kernel
theorem dX7_isOrder_15 : decode cX7_isOrder 15 = .ok (.if_icmp .eq 9, 3) := by decide +kernel
theorem dX7_isOrder_18 : decode cX7_isOrder 18 = .ok (.iload_n 0, 1) := by decide +kernel
theorem dX7_isOrder_19 : decode cX7_isOrder 19 = .ok (.bipush 98, 2) := by decide +kernel
theorem dX7_isOrder_21 : decode cX7_isOrder 21 = .ok (.if_icmp .ne 7, 3) := by decide +kernel
theorem dX7_isOrder_24 : decode cX7_isOrder 24 = .ok (.iconst 1, 1) := by decide +kernel
theorem dX7_isOrder_25 : decode cX7_isOrder 25 = .ok (.goto 4, 3) := by decide +kernel
theorem dX7_isOrder_28 : decode cX7_isOrder 28 = .ok (.iconst 0, 1) := by decide +kernel
theorem dX7_isOrder_29 : decode cX7_isOrder 29 = .ok (.ireturn, 1) := by decide +kernel
theorem dX8_init_0 : decode cX8_init 0 = .ok (.aload_n 0, 1) := by decide +kernel
theorem dX8_init_1 : decode cX8_init 1 = .ok (.invokespecial 3, 3) := by decide +kernel
theorem dX8_init_4 : decode cX8_init 4 = .ok (.aload_n 0, 1) := by decide +kernel
theorem dX8_init_5 : decode cX8_init 5 = .ok (.new 9, 3) := by decide +kernel
theorem dX8_init_8 : decode cX8_init 8 = .ok (.dup, 1) := by decide +kernel
theorem dX8_init_9 : decode cX8_init 9 = .ok (.invokespecial 11, 3) := by decide +kernel
theorem dX8_init_12 : decode cX8_init 12 = .ok (.putfield 12, 3) := by decide +kernel
theorem dX8_init_15 : decode cX8_init 15 = .ok (.aload_n 0, 1) := by decide +kernel
theorem dX8_init_16 : decode cX8_init 16 = .ok (.new 16, 3) := by decide +kernel
theorem dX8_init_19 : decode cX8_init 19 = .ok (.dup, 1) := by decide +kernel
theorem dX8_init_20 : decode cX8_init 20 = .ok (.invokespecial 18, 3) := by decide +kernel
theorem dX8_init_23 : decode cX8_init 23 = .ok (.putfield 19, 3) := by decide +kernel
theorem dX8_init_26 : decode cX8_init 26 = .ok (.aload_n 0, 1) := by decide +kernel
theorem dX8_init_27 : decode cX8_init 27 = .ok (.new 23, 3) := by decide +kernel
theorem dX8_init_30 : decode cX8_init 30 = .ok (.dup, 1) := by decide +kernel
theorem dX8_init_31 : decode cX8_init 31 = .ok (.aload_n 0, 1) := by decide +kernel
theorem dX8_init_32 : decode cX8_init 32 = .ok (.getfield 12, 3) := by decide +kernel
theorem dX8_init_35 : decode cX8_init 35 = .ok (.invokespecial 25, 3) := by decide +kernel
theorem dX8_init_38 : decode cX8_init 38 = .ok (.putfield 28, 3) := by decide +kernel
theorem dX8_init_41 : decode cX8_init 41 = .ok (.aload_n 0, 1) := by decide +kernel
theorem dX8_init_42 : decode cX8_init 42 = .ok (.new 32, 3) := by decide +kernel
theorem dX8_init_45 : decode cX8_init 45 = .ok (.dup, 1) := by decide +kernel
theorem dX8_init_46 : decode cX8_init 46 = .ok (.aload_n 0, 1) := by decide +kernel
theorem dX8_init_47 : decode cX8_init 47 = .ok (.getfield 12, 3) := by decide +kernel
theorem dX8_init_50 : decode cX8_init 50 = .ok (.invokespecial 34, 3) := by decide +kernel
theorem dX8_init_53 : decode cX8_init 53 = .ok (.putfield 35, 3) := by decide +kernel
theorem dX8_init_56 : decode cX8_init 56 = .ok (.aload_n 0, 1) := by decide +kernel
theorem dX8_init_57 : decode cX8_init 57 = .ok (.new 39, 3) := by decide +kernel
theorem dX8_init_60 : decode cX8_init 60 = .ok (.dup, 1) := by decide +kernel
theorem dX8_init_61 : decode cX8_init 61 = .ok (.aload_n 0, 1) := by decide +kernel
theorem dX8_init_62 : decode cX8_init 62 = .ok (.getfield 12, 3) := by decide +kernel
theorem dX8_init_65 : decode cX8_init 65 = .ok (.invokespecial 41, 3) := by decide +kernel
theorem dX8_init_68 : decode cX8_init 68 = .ok (.putfield 42, 3) := by decide +kernel
theorem dX8_init_71 : decode cX8_init 71 = .ok (.aload_n 0, 1) := by decide +kernel
theorem dX8_init_72 : decode cX8_init 72 = .ok (.new 39, 3) := by decide +kernel
theorem dX8_init_75 : decode cX8_init 75 = .ok (.dup, 1) := by decide +kernel
theorem dX8_init_76 : decode cX8_init 76 = .ok (.aload_n 0, 1) := by decide +kernel
theorem dX8_init_77 : decode cX8_init 77 = .ok (.getfield 12, 3) := by decide +kernel
theorem dX8_init_80 : decode cX8_init 80 = .ok (.invokespecial 41, 3) := by decide +kernel
theorem dX8_init_83 : decode cX8_init 83 = .ok (.putfield 46, 3) := by decide +kernel
theorem dX8_init_86 : decode cX8_init 86 = .ok (.aload_n 0, 1) := by decide +kernel
theorem dX8_init_87 : decode cX8_init 87 = .ok (.new 39, 3) := by decide +kernel
theorem dX8_init_90 : decode cX8_init 90 = .ok (.dup, 1) := by decide +kernel
theorem dX8_init_91 : decode cX8_init 91 = .ok (.aload_n 0, 1) := by decide +kernel
theorem dX8_init_92 : decode cX8_init 92 = .ok (.getfield 12, 3) := by decide +kernel
theorem dX8_init_95 : decode cX8_init 95 = .ok (.invokespecial 41, 3) := by decide +kernel
theorem dX8_init_98 : decode cX8_init 98 = .ok (.putfield 49, 3) := by decide +kernel
theorem dX8_init_101 : decode cX8_init 101 = .ok (.aload_n 0, 1) := by decide +kernel
theorem dX8_init_102 : decode cX8_init 102 = .ok (.new 52, 3) := by decide +kernel
theorem dX8_init_105 : decode cX8_init 105 = .ok (.dup, 1) := by decide +kernel
theorem dX8_init_106 : decode cX8_init 106 = .ok (.aload_n 0, 1) := by decide +kernel
theorem dX8_init_107 : decode cX8_init 107 = .ok (.getfield 12, 3) := by decide +kernel
theorem dX8_init_110 : decode cX8_init 110 = .ok (.invokespecial 54, 3) := by decide +kernel
theorem dX8_init_113 : decode cX8_init 113 = .ok (.putfield 55, 3) := by decide +kernel
theorem dX8_init_116 : decode cX8_init 116 = .ok (.aload_n 0, 1) := by decide +kernel
theorem dX8_init_117 : decode cX8_init 117 = .ok (.new 59, 3) := by decide +kernel
theorem dX8_init_120 : decode cX8_init 120 = .ok (.dup, 1) := by decide +kernel
theorem dX8_init_121 : decode cX8_init 121 = .ok (.invokespecial 61, 3) := by decide +kernel
theorem dX8_init_124 : decode cX8_init 124 = .ok (.putfield 62, 3) := by decide +kernel
theorem dX8_init_127 : decode cX8_init 127 = .ok (.return_, 1) := by decide +kernel
theorem dX8_lay_0 : decode cX8_lay 0 = .ok (.aload_n 0, 1) := by decide +kernel
theorem dX8_lay_1 : decode cX8_lay 1 = .ok (.bipush 108, 2) := by decide +kernel
theorem dX8_lay_3 : decode cX8_lay 3 = .ok (.iload_n 1, 1) := by decide +kernel
theorem dX8_lay_4 : decode cX8_lay 4 = .ok (.invokevirtual 66, 3) := by decide +kernel
theorem dX8_lay_7 : decode cX8_lay 7 = .ok (.aload_n 0, 1) := by decide +kernel
theorem dX8_lay_8 : decode cX8_lay 8 = .ok (.getfield 42, 3) := by decide +kernel
theorem dX8_lay_11 : decode cX8_lay 11 = .ok (.getfield 70, 3) := by decide +kernel
theorem dX8_lay_14 : decode cX8_lay 14 = .ok (.ireturn, 1) := by decide +kernel
theorem dX8_take_0 : decode cX8_take 0 = .ok (.aload_n 0, 1) := by decide +kernel
theorem dX8_take_1 : decode cX8_take 1 = .ok (.getfield 42, 3) := by decide +kernel
theorem dX8_take_4 : decode cX8_take 4 = .ok (.iload_n 1, 1) := by decide +kernel
theorem dX8_take_5 : decode cX8_take 5 = .ok (.invokevirtual 74, 3) := by decide +kernel
theorem dX8_take_8 : decode cX8_take 8 = .ok (.istore_n 2, 1) := by decide +kernel
theorem dX8_take_9 : decode cX8_take 9 = .ok (.aload_n 0, 1) := by decide +kernel
theorem dX8_take_10 : decode cX8_take 10 = .ok (.bipush 116, 2) := by decide +kernel
theorem dX8_take_12 : decode cX8_take 12 = .ok (.iload_n 1, 1) := by decide +kernel
theorem dX8_take_13 : decode cX8_take 13 = .ok (.invokevirtual 66, 3) := by decide +kernel
theorem dX8_take_16 : decode cX8_take 16 = .ok (.iload_n 2, 1) := by decide +kernel
theorem dX8_take_17 : decode cX8_take 17 = .ok (.ireturn, 1) := by decide +kernel
theorem dX8_mill_0 : decode cX8_mill 0 = .ok (.aload_n 0, 1) := by decide +kernel
theorem dX8_mill_1 : decode cX8_mill 1 = .ok (.bipush 109, 2) := by decide +kernel
theorem dX8_mill_3 : decode cX8_mill 3 = .ok (.iload_n 1, 1) := by decide +kernel
theorem dX8_mill_4 : decode cX8_mill 4 = .ok (.invokevirtual 66, 3) := by decide +kernel
theorem dX8_mill_7 : decode cX8_mill 7 = .ok (.aload_n 0, 1) := by decide +kernel
theorem dX8_mill_8 : decode cX8_mill 8 = .ok (.iload_n 1, 1) := by decide +kernel
theorem dX8_mill_9 : decode cX8_mill 9 = .ok (.invokevirtual 78, 3) := by decide +kernel
theorem dX8_mill_12 : decode cX8_mill 12 = .ok (.getfield 82, 3) := by decide +kernel
theorem dX8_mill_15 : decode cX8_mill 15 = .ok (.lreturn, 1) := by decide +kernel
theorem dX8_millBack_0 : decode cX8_millBack 0 = .ok (.aload_n 0, 1) := by decide +kernel
theorem dX8_millBack_1 : decode cX8_millBack 1 = .ok (.bipush 98, 2) := by decide +kernel
theorem dX8_millBack_3 : decode cX8_millBack 3 = .ok (.iload_n 1, 1) := by decide +kernel
theorem dX8_millBack_4 : decode cX8_millBack 4 = .ok (.invokevirtual 66, 3) := by decide +kernel
theorem dX8_millBack_7 : decode cX8_millBack 7 = .ok (.aload_n 0, 1) := by decide +kernel
theorem dX8_millBack_8 : decode cX8_millBack 8 = .ok (.iload_n 1, 1) := by decide +kernel
theorem dX8_millBack_9 : decode cX8_millBack 9 = .ok (.invokevirtual 78, 3) := by decide +kernel
theorem dX8_millBack_12 : decode cX8_millBack 12 = .ok (.getfield 82, 3) := by decide +kernel
theorem dX8_millBack_15 : decode cX8_millBack 15 = .ok (.lreturn, 1) := by decide +kernel
theorem dX8_whyNot_0 : decode cX8_whyNot 0 = .ok (.iload_n 1, 1) := by decide +kernel
theorem dX8_whyNot_1 : decode cX8_whyNot 1 = .ok (.invokestatic 86, 3) := by decide +kernel
theorem dX8_whyNot_4 : decode cX8_whyNot 4 = .ok (.aload_n 0, 1) := by decide +kernel
theorem dX8_whyNot_5 : decode cX8_whyNot 5 = .ok (.getfield 42, 3) := by decide +kernel
theorem dX8_whyNot_8 : decode cX8_whyNot 8 = .ok (.iload_n 1, 1) := by decide +kernel
theorem dX8_whyNot_9 : decode cX8_whyNot 9 = .ok (.invokevirtual 90, 3) := by decide +kernel
theorem dX8_whyNot_12 : decode cX8_whyNot 12 = .ok (.ireturn, 1) := by decide +kernel
theorem dX8_periodOf_0 : decode cX8_periodOf 0 = .ok (.aload_n 0, 1) := by decide +kernel
theorem dX8_periodOf_1 : decode cX8_periodOf 1 = .ok (.iload_n 1, 1) := by decide +kernel
theorem dX8_periodOf_2 : decode cX8_periodOf 2 = .ok (.invokevirtual 93, 3) := by decide +kernel
theorem dX8_periodOf_5 : decode cX8_periodOf 5 = .ok (.aload_n 0, 1) := by decide +kernel
theorem dX8_periodOf_6 : decode cX8_periodOf 6 = .ok (.getfield 12, 3) := by decide +kernel
theorem dX8_periodOf_9 : decode cX8_periodOf 9 = .ok (.iload_n 1, 1) := by decide +kernel
theorem dX8_periodOf_10 : decode cX8_periodOf 10 = .ok (.invokevirtual 96, 3) := by decide +kernel
theorem dX8_periodOf_13 : decode cX8_periodOf 13 = .ok (.ireturn, 1) := by decide +kernel
theorem dX8_termAt_0 : decode cX8_termAt 0 = .ok (.iload_n 2, 1) := by decide +kernel
theorem dX8_termAt_1 : decode cX8_termAt 1 = .ok (.ifCond .lt 9, 3) := by decide +kernel
theorem dX8_termAt_4 : decode cX8_termAt 4 = .ok (.iload_n 2, 1) := by decide +kernel
theorem dX8_termAt_5 : decode cX8_termAt 5 = .ok (.bipush 99, 2) := by decide +kernel
theorem dX8_termAt_7 : decode cX8_termAt 7 = .ok (.if_icmp .le 13, 3) := by decide +kernel
theorem dX8_termAt_10 : decode cX8_termAt 10 = .ok (.new 99, 3) := by decide +kernel
theorem dX8_termAt_13 : decode cX8_termAt 13 = .ok (.dup, 1) := by decide +kernel
theorem dX8_termAt_14 : decode cX8_termAt 14 = .ok (.ldc 101, 2) := by decide +kernel
theorem dX8_termAt_16 : decode cX8_termAt 16 = .ok (.invokespecial 103, 3) := by decide +kernel
theorem dX8_termAt_19 : decode cX8_termAt 19 = .ok (.athrow, 1) := by decide +kernel
theorem dX8_termAt_20 : decode cX8_termAt 20 = .ok (.aload_n 0, 1) := by decide +kernel
theorem dX8_termAt_21 : decode cX8_termAt 21 = .ok (.iload_n 1, 1) := by decide +kernel
theorem dX8_termAt_22 : decode cX8_termAt 22 = .ok (.invokevirtual 93, 3) := by decide +kernel
theorem dX8_termAt_25 : decode cX8_termAt 25 = .ok (.aload_n 0, 1) := by decide +kernel
theorem dX8_termAt_26 : decode cX8_termAt 26 = .ok (.getfield 12, 3) := by decide +kernel
theorem dX8_termAt_29 : decode cX8_termAt 29 = .ok (.iload_n 1, 1) := by decide +kernel
theorem dX8_termAt_30 : decode cX8_termAt 30 = .ok (.iload_n 2, 1) := by decide +kernel
theorem dX8_termAt_31 : decode cX8_termAt 31 = .ok (.invokevirtual 106, 3) := by decide +kernel
theorem dX8_termAt_34 : decode cX8_termAt 34 = .ok (.ireturn, 1) := by decide +kernel
theorem dX8_unitX_0 : decode cX8_unitX 0 = .ok (.aload_n 0, 1) := by decide +kernel
theorem dX8_unitX_1 : decode cX8_unitX 1 = .ok (.iload_n 1, 1) := by decide +kernel
theorem dX8_unitX_2 : decode cX8_unitX 2 = .ok (.invokevirtual 93, 3) := by decide +kernel
theorem dX8_unitX_5 : decode cX8_unitX 5 = .ok (.aload_n 0, 1) := by decide +kernel
theorem dX8_unitX_6 : decode cX8_unitX 6 = .ok (.getfield 12, 3) := by decide +kernel
theorem dX8_unitX_9 : decode cX8_unitX 9 = .ok (.iload_n 1, 1) := by decide +kernel
theorem dX8_unitX_10 : decode cX8_unitX 10 = .ok (.invokevirtual 110, 3) := by decide +kernel
theorem dX8_unitX_13 : decode cX8_unitX 13 = .ok (.ireturn, 1) := by decide +kernel
theorem dX8_unitY_0 : decode cX8_unitY 0 = .ok (.aload_n 0, 1) := by decide +kernel
theorem dX8_unitY_1 : decode cX8_unitY 1 = .ok (.iload_n 1, 1) := by decide +kernel
theorem dX8_unitY_2 : decode cX8_unitY 2 = .ok (.invokevirtual 93, 3) := by decide +kernel
theorem dX8_unitY_5 : decode cX8_unitY 5 = .ok (.aload_n 0, 1) := by decide +kernel
theorem dX8_unitY_6 : decode cX8_unitY 6 = .ok (.getfield 12, 3) := by decide +kernel
theorem dX8_unitY_9 : decode cX8_unitY 9 = .ok (.iload_n 1, 1) := by decide +kernel
theorem dX8_unitY_10 : decode cX8_unitY 10 = .ok (.invokevirtual 113, 3) := by decide +kernel
theorem dX8_unitY_13 : decode cX8_unitY 13 = .ok (.ireturn, 1) := by decide +kernel
theorem dX8_leastY_0 : decode cX8_leastY 0 = .ok (.aload_n 0, 1) := by decide +kernel
theorem dX8_leastY_1 : decode cX8_leastY 1 = .ok (.iload_n 1, 1) := by decide +kernel
theorem dX8_leastY_2 : decode cX8_leastY 2 = .ok (.invokevirtual 93, 3) := by decide +kernel
theorem dX8_leastY_5 : decode cX8_leastY 5 = .ok (.aload_n 0, 1) := by decide +kernel
theorem dX8_leastY_6 : decode cX8_leastY 6 = .ok (.getfield 12, 3) := by decide +kernel
theorem dX8_leastY_9 : decode cX8_leastY 9 = .ok (.iload_n 1, 1) := by decide +kernel
theorem dX8_leastY_10 : decode cX8_leastY 10 = .ok (.invokevirtual 110, 3) := by decide +kernel
theorem dX8_leastY_13 : decode cX8_leastY 13 = .ok (.istore_n 2, 1) := by decide +kernel
theorem dX8_leastY_14 : decode cX8_leastY 14 = .ok (.aload_n 0, 1) := by decide +kernel
theorem dX8_leastY_15 : decode cX8_leastY 15 = .ok (.getfield 12, 3) := by decide +kernel
theorem dX8_leastY_18 : decode cX8_leastY 18 = .ok (.iload_n 1, 1) := by decide +kernel
theorem dX8_leastY_19 : decode cX8_leastY 19 = .ok (.invokevirtual 113, 3) := by decide +kernel
theorem dX8_leastY_22 : decode cX8_leastY 22 = .ok (.istore_n 3, 1) := by decide +kernel
theorem dX8_leastY_23 : decode cX8_leastY 23 = .ok (.aload_n 0, 1) := by decide +kernel
theorem dX8_leastY_24 : decode cX8_leastY 24 = .ok (.getfield 12, 3) := by decide +kernel
theorem dX8_leastY_27 : decode cX8_leastY 27 = .ok (.iload_n 1, 1) := by decide +kernel
theorem dX8_leastY_28 : decode cX8_leastY 28 = .ok (.invokevirtual 116, 3) := by decide +kernel
theorem dX8_leastY_31 : decode cX8_leastY 31 = .ok (.iconst 1, 1) := by decide +kernel
theorem dX8_leastY_32 : decode cX8_leastY 32 = .ok (.if_icmp .ne 7, 3) := by decide +kernel
theorem dX8_leastY_35 : decode cX8_leastY 35 = .ok (.iload_n 3, 1) := by decide +kernel
theorem dX8_leastY_36 : decode cX8_leastY 36 = .ok (.goto 8, 3) := by decide +kernel
theorem dX8_leastY_39 : decode cX8_leastY 39 = .ok (.iconst 2, 1) := by decide +kernel
theorem dX8_leastY_40 : decode cX8_leastY 40 = .ok (.iload_n 2, 1) := by decide +kernel
theorem dX8_leastY_41 : decode cX8_leastY 41 = .ok (.imul, 1) := by decide +kernel
theorem dX8_leastY_42 : decode cX8_leastY 42 = .ok (.iload_n 3, 1) := by decide +kernel
theorem dX8_leastY_43 : decode cX8_leastY 43 = .ok (.imul, 1) := by decide +kernel
theorem dX8_leastY_44 : decode cX8_leastY 44 = .ok (.ireturn, 1) := by decide +kernel
theorem dX8_leastYBySearch_0 : decode cX8_leastYBySearch 0 = .ok (.aload_n 0, 1) := by decide +kernel
theorem dX8_leastYBySearch_1 : decode cX8_leastYBySearch 1 = .ok (.iload_n 1, 1) := by decide +kernel
theorem dX8_leastYBySearch_2 : decode cX8_leastYBySearch 2 = .ok (.invokevirtual 93, 3) := by decide +kernel
theorem dX8_leastYBySearch_5 : decode cX8_leastYBySearch 5 = .ok (.iload_n 1, 1) := by decide +kernel
theorem dX8_leastYBySearch_6 : decode cX8_leastYBySearch 6 = .ok (.invokestatic 119, 3) := by decide +kernel
theorem dX8_leastYBySearch_9 : decode cX8_leastYBySearch 9 = .ok (.ireturn, 1) := by decide +kernel
theorem dX8_stones_0 : decode cX8_stones 0 = .ok (.aload_n 0, 1) := by decide +kernel
theorem dX8_stones_1 : decode cX8_stones 1 = .ok (.getfield 42, 3) := by decide +kernel
theorem dX8_stones_4 : decode cX8_stones 4 = .ok (.getfield 70, 3) := by decide +kernel
theorem dX8_stones_7 : decode cX8_stones 7 = .ok (.ireturn, 1) := by decide +kernel
theorem dX8_isLaid_0 : decode cX8_isLaid 0 = .ok (.iload_n 1, 1) := by decide +kernel
theorem dX8_isLaid_1 : decode cX8_isLaid 1 = .ok (.invokestatic 86, 3) := by decide +kernel
theorem dX8_isLaid_4 : decode cX8_isLaid 4 = .ok (.aload_n 0, 1) := by decide +kernel
theorem dX8_isLaid_5 : decode cX8_isLaid 5 = .ok (.getfield 42, 3) := by decide +kernel
theorem dX8_isLaid_8 : decode cX8_isLaid 8 = .ok (.iload_n 1, 1) := by decide +kernel
theorem dX8_isLaid_9 : decode cX8_isLaid 9 = .ok (.invokevirtual 122, 3) := by decide +kernel
theorem dX8_isLaid_12 : decode cX8_isLaid 12 = .ok (.ireturn, 1) := by decide +kernel
theorem dX8_stoneFrom_0 : decode cX8_stoneFrom 0 = .ok (.iload_n 1, 1) := by decide +kernel
theorem dX8_stoneFrom_1 : decode cX8_stoneFrom 1 = .ok (.invokestatic 86, 3) := by decide +kernel
theorem dX8_stoneFrom_4 : decode cX8_stoneFrom 4 = .ok (.iload_n 1, 1) := by decide +kernel
theorem dX8_stoneFrom_5 : decode cX8_stoneFrom 5 = .ok (.istore_n 2, 1) := by decide +kernel
theorem dX8_stoneFrom_6 : decode cX8_stoneFrom 6 = .ok (.iload_n 2, 1) := by decide +kernel
theorem dX8_stoneFrom_7 : decode cX8_stoneFrom 7 = .ok (.bipush 60, 2) := by decide +kernel
theorem dX8_stoneFrom_9 : decode cX8_stoneFrom 9 = .ok (.if_icmp .gt 22, 3) := by decide +kernel
theorem dX8_stoneFrom_12 : decode cX8_stoneFrom 12 = .ok (.aload_n 0, 1) := by decide +kernel
theorem dX8_stoneFrom_13 : decode cX8_stoneFrom 13 = .ok (.getfield 42, 3) := by decide +kernel
theorem dX8_stoneFrom_16 : decode cX8_stoneFrom 16 = .ok (.iload_n 2, 1) := by decide +kernel
theorem dX8_stoneFrom_17 : decode cX8_stoneFrom 17 = .ok (.invokevirtual 122, 3) := by decide +kernel
theorem dX8_stoneFrom_20 : decode cX8_stoneFrom 20 = .ok (.ifCond .eq 5, 3) := by decide +kernel
theorem dX8_stoneFrom_23 : decode cX8_stoneFrom 23 = .ok (.iload_n 2, 1) := by decide +kernel
theorem dX8_stoneFrom_24 : decode cX8_stoneFrom 24 = .ok (.ireturn, 1) := by decide +kernel
theorem dX8_stoneFrom_25 : decode cX8_stoneFrom 25 = .ok (.iinc 2 1, 3) := by decide +kernel
theorem dX8_stoneFrom_28 : decode cX8_stoneFrom 28 = .ok (.goto (-22), 3) := by decide +kernel
theorem dX8_stoneFrom_31 : decode cX8_stoneFrom 31 = .ok (.new 126, 3) := by decide +kernel
theorem dX8_stoneFrom_34 : decode cX8_stoneFrom 34 = .ok (.dup, 1) := by decide +kernel
theorem dX8_stoneFrom_35 : decode cX8_stoneFrom 35 = .ok (.ldc 128, 2) := by decide +kernel
theorem dX8_stoneFrom_37 : decode cX8_stoneFrom 37 = .ok (.invokespecial 130, 3) := by decide +kernel
theorem dX8_stoneFrom_40 : decode cX8_stoneFrom 40 = .ok (.athrow, 1) := by decide +kernel
theorem dX8_powerOf_0 : decode cX8_powerOf 0 = .ok (.aload_n 0, 1) := by decide +kernel
theorem dX8_powerOf_1 : decode cX8_powerOf 1 = .ok (.iload_n 1, 1) := by decide +kernel
theorem dX8_powerOf_2 : decode cX8_powerOf 2 = .ok (.invokevirtual 131, 3) := by decide +kernel
theorem dX8_powerOf_5 : decode cX8_powerOf 5 = .ok (.aload_n 0, 1) := by decide +kernel
theorem dX8_powerOf_6 : decode cX8_powerOf 6 = .ok (.getfield 42, 3) := by decide +kernel
theorem dX8_powerOf_9 : decode cX8_powerOf 9 = .ok (.iload_n 1, 1) := by decide +kernel
theorem dX8_powerOf_10 : decode cX8_powerOf 10 = .ok (.invokevirtual 74, 3) := by decide +kernel
theorem dX8_powerOf_13 : decode cX8_powerOf 13 = .ok (.ireturn, 1) := by decide +kernel
theorem dX8_xOf_0 : decode cX8_xOf 0 = .ok (.aload_n 0, 1) := by decide +kernel
theorem dX8_xOf_1 : decode cX8_xOf 1 = .ok (.iload_n 1, 1) := by decide +kernel
theorem dX8_xOf_2 : decode cX8_xOf 2 = .ok (.invokevirtual 131, 3) := by decide +kernel
theorem dX8_xOf_5 : decode cX8_xOf 5 = .ok (.aload_n 0, 1) := by decide +kernel
theorem dX8_xOf_6 : decode cX8_xOf 6 = .ok (.iload_n 1, 1) := by decide +kernel
theorem dX8_xOf_7 : decode cX8_xOf 7 = .ok (.invokevirtual 78, 3) := by decide +kernel
theorem dX8_xOf_10 : decode cX8_xOf 10 = .ok (.getfield 82, 3) := by decide +kernel
theorem dX8_xOf_13 : decode cX8_xOf 13 = .ok (.lreturn, 1) := by decide +kernel
theorem dX8_yOf_0 : decode cX8_yOf 0 = .ok (.aload_n 0, 1) := by decide +kernel
theorem dX8_yOf_1 : decode cX8_yOf 1 = .ok (.iload_n 1, 1) := by decide +kernel
theorem dX8_yOf_2 : decode cX8_yOf 2 = .ok (.invokevirtual 131, 3) := by decide +kernel
theorem dX8_yOf_5 : decode cX8_yOf 5 = .ok (.aload_n 0, 1) := by decide +kernel
theorem dX8_yOf_6 : decode cX8_yOf 6 = .ok (.iload_n 1, 1) := by decide +kernel
theorem dX8_yOf_7 : decode cX8_yOf 7 = .ok (.invokevirtual 78, 3) := by decide +kernel
theorem dX8_yOf_10 : decode cX8_yOf 10 = .ok (.getfield 134, 3) := by decide +kernel
theorem dX8_yOf_13 : decode cX8_yOf 13 = .ok (.lreturn, 1) := by decide +kernel
theorem dX8_signOf_0 : decode cX8_signOf 0 = .ok (.aload_n 0, 1) := by decide +kernel
theorem dX8_signOf_1 : decode cX8_signOf 1 = .ok (.iload_n 1, 1) := by decide +kernel
theorem dX8_signOf_2 : decode cX8_signOf 2 = .ok (.invokevirtual 131, 3) := by decide +kernel
theorem dX8_signOf_5 : decode cX8_signOf 5 = .ok (.aload_n 0, 1) := by decide +kernel
theorem dX8_signOf_6 : decode cX8_signOf 6 = .ok (.getfield 42, 3) := by decide +kernel
theorem dX8_signOf_9 : decode cX8_signOf 9 = .ok (.iload_n 1, 1) := by decide +kernel
theorem dX8_signOf_10 : decode cX8_signOf 10 = .ok (.invokevirtual 137, 3) := by decide +kernel
theorem dX8_signOf_13 : decode cX8_signOf 13 = .ok (.ireturn, 1) := by decide +kernel
theorem dX8_signByRemainders_0 : decode cX8_signByRemainders 0 = .ok (.aload_n 0, 1) := by decide +kernel
theorem dX8_signByRemainders_1 : decode cX8_signByRemainders 1 = .ok (.iload_n 1, 1) := by decide +kernel
theorem dX8_signByRemainders_2 : decode cX8_signByRemainders 2 = .ok (.invokevirtual 131, 3) := by decide +kernel
theorem dX8_signByRemainders_5 : decode cX8_signByRemainders 5 = .ok (.aload_n 0, 1) := by decide +kernel
theorem dX8_signByRemainders_6 : decode cX8_signByRemainders 6 = .ok (.iload_n 1, 1) := by decide +kernel
theorem dX8_signByRemainders_7 : decode cX8_signByRemainders 7 = .ok (.invokevirtual 78, 3) := by decide +kernel
theorem dX8_signByRemainders_10 : decode cX8_signByRemainders 10 = .ok (.astore_n 2, 1) := by decide +kernel
theorem dX8_signByRemainders_11 : decode cX8_signByRemainders 11 = .ok (.aload_n 2, 1) := by decide +kernel
theorem dX8_signByRemainders_12 : decode cX8_signByRemainders 12 = .ok (.getfield 82, 3) := by decide +kernel
theorem dX8_signByRemainders_15 : decode cX8_signByRemainders 15 = .ok (.ldc2_w 140, 3) := by decide +kernel
theorem dX8_signByRemainders_18 : decode cX8_signByRemainders 18 = .ok (.lrem, 1) := by decide +kernel
theorem dX8_signByRemainders_19 : decode cX8_signByRemainders 19 = .ok (.lstore_n 3, 1) := by decide +kernel
theorem dX8_signByRemainders_20 : decode cX8_signByRemainders 20 = .ok (.aload_n 2, 1) := by decide +kernel
theorem dX8_signByRemainders_21 : decode cX8_signByRemainders 21 = .ok (.getfield 134, 3) := by decide +kernel
theorem dX8_signByRemainders_24 : decode cX8_signByRemainders 24 = .ok (.ldc2_w 140, 3) := by decide +kernel
theorem dX8_signByRemainders_27 : decode cX8_signByRemainders 27 = .ok (.lrem, 1) := by decide +kernel
theorem dX8_signByRemainders_28 : decode cX8_signByRemainders 28 = .ok (.lstore 5, 2) := by decide +kernel
theorem dX8_signByRemainders_30 : decode cX8_signByRemainders 30 = .ok (.lload_n 3, 1) := by decide +kernel
theorem dX8_signByRemainders_31 : decode cX8_signByRemainders 31 = .ok (.lload_n 3, 1) := by decide +kernel
theorem dX8_signByRemainders_32 : decode cX8_signByRemainders 32 = .ok (.lmul, 1) := by decide +kernel
theorem dX8_signByRemainders_33 : decode cX8_signByRemainders 33 = .ok (.iload_n 1, 1) := by decide +kernel
theorem dX8_signByRemainders_34 : decode cX8_signByRemainders 34 = .ok (.i2l, 1) := by decide +kernel
theorem dX8_signByRemainders_35 : decode cX8_signByRemainders 35 = .ok (.lload 5, 2) := by decide +kernel
theorem dX8_signByRemainders_37 : decode cX8_signByRemainders 37 = .ok (.lmul, 1) := by decide +kernel
theorem dX8_signByRemainders_38 : decode cX8_signByRemainders 38 = .ok (.lload 5, 2) := by decide +kernel
theorem dX8_signByRemainders_40 : decode cX8_signByRemainders 40 = .ok (.lmul, 1) := by decide +kernel
theorem dX8_signByRemainders_41 : decode cX8_signByRemainders 41 = .ok (.lsub, 1) := by decide +kernel
theorem dX8_signByRemainders_42 : decode cX8_signByRemainders 42 = .ok (.ldc2_w 140, 3) := by decide +kernel
theorem dX8_signByRemainders_45 : decode cX8_signByRemainders 45 = .ok (.invokestatic 142, 3) := by decide +kernel
theorem dX8_signByRemainders_48 : decode cX8_signByRemainders 48 = .ok (.lstore 7, 2) := by decide +kernel
theorem dX8_signByRemainders_50 : decode cX8_signByRemainders 50 = .ok (.lload 7, 2) := by decide +kernel
theorem dX8_signByRemainders_52 : decode cX8_signByRemainders 52 = .ok (.lconst 1, 1) := by decide +kernel
theorem dX8_signByRemainders_53 : decode cX8_signByRemainders 53 = .ok (.lcmp, 1) := by decide +kernel
theorem dX8_signByRemainders_54 : decode cX8_signByRemainders 54 = .ok (.ifCond .ne 7, 3) := by decide +kernel
theorem dX8_signByRemainders_57 : decode cX8_signByRemainders 57 = .ok (.iconst 1, 1) := by decide +kernel
theorem dX8_signByRemainders_58 : decode cX8_signByRemainders 58 = .ok (.goto 4, 3) := by decide +kernel
theorem dX8_signByRemainders_61 : decode cX8_signByRemainders 61 = .ok (.iconst (-1), 1) := by decide +kernel
theorem dX8_signByRemainders_62 : decode cX8_signByRemainders 62 = .ok (.ireturn, 1) := by decide +kernel
theorem dX8_nearRoot_0 : decode cX8_nearRoot 0 = .ok (.aload_n 0, 1) := by decide +kernel
theorem dX8_nearRoot_1 : decode cX8_nearRoot 1 = .ok (.iload_n 1, 1) := by decide +kernel
theorem dX8_nearRoot_2 : decode cX8_nearRoot 2 = .ok (.invokevirtual 131, 3) := by decide +kernel
theorem dX8_nearRoot_5 : decode cX8_nearRoot 5 = .ok (.aload_n 0, 1) := by decide +kernel
theorem dX8_nearRoot_6 : decode cX8_nearRoot 6 = .ok (.iload_n 1, 1) := by decide +kernel
theorem dX8_nearRoot_7 : decode cX8_nearRoot 7 = .ok (.invokevirtual 78, 3) := by decide +kernel
theorem dX8_nearRoot_10 : decode cX8_nearRoot 10 = .ok (.astore_n 2, 1) := by decide +kernel
theorem dX8_nearRoot_11 : decode cX8_nearRoot 11 = .ok (.aload_n 2, 1) := by decide +kernel
theorem dX8_nearRoot_12 : decode cX8_nearRoot 12 = .ok (.getfield 134, 3) := by decide +kernel
theorem dX8_nearRoot_15 : decode cX8_nearRoot 15 = .ok (.lconst 0, 1) := by decide +kernel
theorem dX8_nearRoot_16 : decode cX8_nearRoot 16 = .ok (.lcmp, 1) := by decide +kernel
theorem dX8_nearRoot_17 : decode cX8_nearRoot 17 = .ok (.ifCond .ne 13, 3) := by decide +kernel
theorem dX8_nearRoot_20 : decode cX8_nearRoot 20 = .ok (.new 126, 3) := by decide +kernel
theorem dX8_nearRoot_23 : decode cX8_nearRoot 23 = .ok (.dup, 1) := by decide +kernel
theorem dX8_nearRoot_24 : decode cX8_nearRoot 24 = .ok (.ldc 148, 2) := by decide +kernel
theorem dX8_nearRoot_26 : decode cX8_nearRoot 26 = .ok (.invokespecial 130, 3) := by decide +kernel
theorem dX8_nearRoot_29 : decode cX8_nearRoot 29 = .ok (.athrow, 1) := by decide +kernel
theorem dX8_nearRoot_30 : decode cX8_nearRoot 30 = .ok (.aload_n 2, 1) := by decide +kernel
theorem dX8_nearRoot_31 : decode cX8_nearRoot 31 = .ok (.getfield 82, 3) := by decide +kernel
theorem dX8_nearRoot_34 : decode cX8_nearRoot 34 = .ok (.l2f, 1) := by decide +kernel
theorem dX8_nearRoot_35 : decode cX8_nearRoot 35 = .ok (.aload_n 2, 1) := by decide +kernel
theorem dX8_nearRoot_36 : decode cX8_nearRoot 36 = .ok (.getfield 134, 3) := by decide +kernel
theorem dX8_nearRoot_39 : decode cX8_nearRoot 39 = .ok (.l2f, 1) := by decide +kernel
theorem dX8_nearRoot_40 : decode cX8_nearRoot 40 = .ok (.fdiv, 1) := by decide +kernel
theorem dX8_nearRoot_41 : decode cX8_nearRoot 41 = .ok (.freturn, 1) := by decide +kernel
theorem dX8_solutions_0 : decode cX8_solutions 0 = .ok (.aload_n 0, 1) := by decide +kernel
theorem dX8_solutions_1 : decode cX8_solutions 1 = .ok (.ldc2_w 150, 3) := by decide +kernel
theorem dX8_solutions_4 : decode cX8_solutions 4 = .ok (.invokevirtual 152, 3) := by decide +kernel
theorem dX8_solutions_7 : decode cX8_solutions 7 = .ok (.ireturn, 1) := by decide +kernel
theorem dX8_xAt_0 : decode cX8_xAt 0 = .ok (.aload_n 0, 1) := by decide +kernel
theorem dX8_xAt_1 : decode cX8_xAt 1 = .ok (.iload_n 1, 1) := by decide +kernel
theorem dX8_xAt_2 : decode cX8_xAt 2 = .ok (.invokevirtual 156, 3) := by decide +kernel
theorem dX8_xAt_5 : decode cX8_xAt 5 = .ok (.getfield 82, 3) := by decide +kernel
theorem dX8_xAt_8 : decode cX8_xAt 8 = .ok (.lreturn, 1) := by decide +kernel
theorem dX8_xAtBySet_0 : decode cX8_xAtBySet 0 = .ok (.iload_n 1, 1) := by decide +kernel
theorem dX8_xAtBySet_1 : decode cX8_xAtBySet 1 = .ok (.ifCond .ge 13, 3) := by decide +kernel
theorem dX8_xAtBySet_4 : decode cX8_xAtBySet 4 = .ok (.new 99, 3) := by decide +kernel
theorem dX8_xAtBySet_7 : decode cX8_xAtBySet 7 = .ok (.dup, 1) := by decide +kernel
theorem dX8_xAtBySet_8 : decode cX8_xAtBySet 8 = .ok (.ldc 159, 2) := by decide +kernel
theorem dX8_xAtBySet_10 : decode cX8_xAtBySet 10 = .ok (.invokespecial 103, 3) := by decide +kernel
theorem dX8_xAtBySet_13 : decode cX8_xAtBySet 13 = .ok (.athrow, 1) := by decide +kernel
theorem dX8_xAtBySet_14 : decode cX8_xAtBySet 14 = .ok (.aload_n 0, 1) := by decide +kernel
theorem dX8_xAtBySet_15 : decode cX8_xAtBySet 15 = .ok (.getfield 35, 3) := by decide +kernel
theorem dX8_xAtBySet_18 : decode cX8_xAtBySet 18 = .ok (.aload_n 0, 1) := by decide +kernel
theorem dX8_xAtBySet_19 : decode cX8_xAtBySet 19 = .ok (.getfield 42, 3) := by decide +kernel
theorem dX8_xAtBySet_22 : decode cX8_xAtBySet 22 = .ok (.invokevirtual 161, 3) := by decide +kernel
theorem dX8_xAtBySet_25 : decode cX8_xAtBySet 25 = .ok (.iload_n 1, 1) := by decide +kernel
theorem dX8_xAtBySet_26 : decode cX8_xAtBySet 26 = .ok (.aload_n 0, 1) := by decide +kernel
theorem dX8_xAtBySet_27 : decode cX8_xAtBySet 27 = .ok (.getfield 35, 3) := by decide +kernel
theorem dX8_xAtBySet_30 : decode cX8_xAtBySet 30 = .ok (.getfield 165, 3) := by decide +kernel
theorem dX8_xAtBySet_33 : decode cX8_xAtBySet 33 = .ok (.if_icmp .lt 13, 3) := by decide +kernel
theorem dX8_xAtBySet_36 : decode cX8_xAtBySet 36 = .ok (.new 126, 3) := by decide +kernel
theorem dX8_xAtBySet_39 : decode cX8_xAtBySet 39 = .ok (.dup, 1) := by decide +kernel
theorem dX8_xAtBySet_40 : decode cX8_xAtBySet 40 = .ok (.ldc 168, 2) := by decide +kernel
theorem dX8_xAtBySet_42 : decode cX8_xAtBySet 42 = .ok (.invokespecial 130, 3) := by decide +kernel
theorem dX8_xAtBySet_45 : decode cX8_xAtBySet 45 = .ok (.athrow, 1) := by decide +kernel
theorem dX8_xAtBySet_46 : decode cX8_xAtBySet 46 = .ok (.aload_n 0, 1) := by decide +kernel
theorem dX8_xAtBySet_47 : decode cX8_xAtBySet 47 = .ok (.getfield 35, 3) := by decide +kernel
theorem dX8_xAtBySet_50 : decode cX8_xAtBySet 50 = .ok (.iload_n 1, 1) := by decide +kernel
theorem dX8_xAtBySet_51 : decode cX8_xAtBySet 51 = .ok (.invokevirtual 170, 3) := by decide +kernel
theorem dX8_xAtBySet_54 : decode cX8_xAtBySet 54 = .ok (.lreturn, 1) := by decide +kernel
theorem dX8_stoneAt_0 : decode cX8_stoneAt 0 = .ok (.aload_n 0, 1) := by decide +kernel
theorem dX8_stoneAt_1 : decode cX8_stoneAt 1 = .ok (.iload_n 1, 1) := by decide +kernel
theorem dX8_stoneAt_2 : decode cX8_stoneAt 2 = .ok (.invokevirtual 156, 3) := by decide +kernel
theorem dX8_stoneAt_5 : decode cX8_stoneAt 5 = .ok (.getfield 173, 3) := by decide +kernel
theorem dX8_stoneAt_8 : decode cX8_stoneAt 8 = .ok (.ireturn, 1) := by decide +kernel
theorem dX8_solutionsUpTo_0 : decode cX8_solutionsUpTo 0 = .ok (.lload_n 1, 1) := by decide +kernel
theorem dX8_solutionsUpTo_1 : decode cX8_solutionsUpTo 1 = .ok (.lconst 0, 1) := by decide +kernel
theorem dX8_solutionsUpTo_2 : decode cX8_solutionsUpTo 2 = .ok (.lcmp, 1) := by decide +kernel
theorem dX8_solutionsUpTo_3 : decode cX8_solutionsUpTo 3 = .ok (.ifCond .lt 11, 3) := by decide +kernel
theorem dX8_solutionsUpTo_6 : decode cX8_solutionsUpTo 6 = .ok (.lload_n 1, 1) := by decide +kernel
theorem dX8_solutionsUpTo_7 : decode cX8_solutionsUpTo 7 = .ok (.ldc2_w 150, 3) := by decide +kernel
theorem dX8_solutionsUpTo_10 : decode cX8_solutionsUpTo 10 = .ok (.lcmp, 1) := by decide +kernel
theorem dX8_solutionsUpTo_11 : decode cX8_solutionsUpTo 11 = .ok (.ifCond .le 13, 3) := by decide +kernel
theorem dX8_solutionsUpTo_14 : decode cX8_solutionsUpTo 14 = .ok (.new 99, 3) := by decide +kernel
theorem dX8_solutionsUpTo_17 : decode cX8_solutionsUpTo 17 = .ok (.dup, 1) := by decide +kernel
theorem dX8_solutionsUpTo_18 : decode cX8_solutionsUpTo 18 = .ok (.ldc 176, 2) := by decide +kernel
theorem dX8_solutionsUpTo_20 : decode cX8_solutionsUpTo 20 = .ok (.invokespecial 103, 3) := by decide +kernel
theorem dX8_solutionsUpTo_23 : decode cX8_solutionsUpTo 23 = .ok (.athrow, 1) := by decide +kernel
theorem dX8_solutionsUpTo_24 : decode cX8_solutionsUpTo 24 = .ok (.aload_n 0, 1) := by decide +kernel
theorem dX8_solutionsUpTo_25 : decode cX8_solutionsUpTo 25 = .ok (.lload_n 1, 1) := by decide +kernel
theorem dX8_solutionsUpTo_26 : decode cX8_solutionsUpTo 26 = .ok (.invokevirtual 152, 3) := by decide +kernel
theorem dX8_solutionsUpTo_29 : decode cX8_solutionsUpTo 29 = .ok (.ireturn, 1) := by decide +kernel
theorem dX8_milled_0 : decode cX8_milled 0 = .ok (.aload_n 0, 1) := by decide +kernel
theorem dX8_milled_1 : decode cX8_milled 1 = .ok (.getfield 42, 3) := by decide +kernel
theorem dX8_milled_4 : decode cX8_milled 4 = .ok (.getfield 178, 3) := by decide +kernel
theorem dX8_milled_7 : decode cX8_milled 7 = .ok (.ireturn, 1) := by decide +kernel
theorem dX8_minusStones_0 : decode cX8_minusStones 0 = .ok (.iconst 0, 1) := by decide +kernel
theorem dX8_minusStones_1 : decode cX8_minusStones 1 = .ok (.istore_n 1, 1) := by decide +kernel
theorem dX8_minusStones_2 : decode cX8_minusStones 2 = .ok (.iconst 2, 1) := by decide +kernel
theorem dX8_minusStones_3 : decode cX8_minusStones 3 = .ok (.istore_n 2, 1) := by decide +kernel
theorem dX8_minusStones_4 : decode cX8_minusStones 4 = .ok (.iload_n 2, 1) := by decide +kernel
theorem dX8_minusStones_5 : decode cX8_minusStones 5 = .ok (.bipush 60, 2) := by decide +kernel
theorem dX8_minusStones_7 : decode cX8_minusStones 7 = .ok (.if_icmp .gt 35, 3) := by decide +kernel
theorem dX8_minusStones_10 : decode cX8_minusStones 10 = .ok (.aload_n 0, 1) := by decide +kernel
theorem dX8_minusStones_11 : decode cX8_minusStones 11 = .ok (.getfield 42, 3) := by decide +kernel
theorem dX8_minusStones_14 : decode cX8_minusStones 14 = .ok (.iload_n 2, 1) := by decide +kernel
theorem dX8_minusStones_15 : decode cX8_minusStones 15 = .ok (.invokevirtual 122, 3) := by decide +kernel
theorem dX8_minusStones_18 : decode cX8_minusStones 18 = .ok (.ifCond .eq 18, 3) := by decide +kernel
theorem dX8_minusStones_21 : decode cX8_minusStones 21 = .ok (.aload_n 0, 1) := by decide +kernel
theorem dX8_minusStones_22 : decode cX8_minusStones 22 = .ok (.getfield 42, 3) := by decide +kernel
theorem dX8_minusStones_25 : decode cX8_minusStones 25 = .ok (.iload_n 2, 1) := by decide +kernel
theorem dX8_minusStones_26 : decode cX8_minusStones 26 = .ok (.invokevirtual 137, 3) := by decide +kernel
theorem dX8_minusStones_29 : decode cX8_minusStones 29 = .ok (.iconst (-1), 1) := by decide +kernel
theorem dX8_minusStones_30 : decode cX8_minusStones 30 = .ok (.if_icmp .ne 6, 3) := by decide +kernel
theorem dX8_minusStones_33 : decode cX8_minusStones 33 = .ok (.iinc 1 1, 3) := by decide +kernel
theorem dX8_minusStones_36 : decode cX8_minusStones 36 = .ok (.iinc 2 1, 3) := by decide +kernel
theorem dX8_minusStones_39 : decode cX8_minusStones 39 = .ok (.goto (-35), 3) := by decide +kernel
theorem dX8_minusStones_42 : decode cX8_minusStones 42 = .ok (.iload_n 1, 1) := by decide +kernel
theorem dX8_minusStones_43 : decode cX8_minusStones 43 = .ok (.ireturn, 1) := by decide +kernel
theorem dX8_keep_0 : decode cX8_keep 0 = .ok (.aload_n 0, 1) := by decide +kernel
theorem dX8_keep_1 : decode cX8_keep 1 = .ok (.getfield 49, 3) := by decide +kernel
theorem dX8_keep_4 : decode cX8_keep 4 = .ok (.aload_n 0, 1) := by decide +kernel
theorem dX8_keep_5 : decode cX8_keep 5 = .ok (.getfield 42, 3) := by decide +kernel
theorem dX8_keep_8 : decode cX8_keep 8 = .ok (.invokevirtual 181, 3) := by decide +kernel
theorem dX8_keep_11 : decode cX8_keep 11 = .ok (.aload_n 0, 1) := by decide +kernel
theorem dX8_keep_12 : decode cX8_keep 12 = .ok (.iconst 1, 1) := by decide +kernel
theorem dX8_keep_13 : decode cX8_keep 13 = .ok (.putfield 184, 3) := by decide +kernel
theorem dX8_keep_16 : decode cX8_keep 16 = .ok (.aload_n 0, 1) := by decide +kernel
theorem dX8_keep_17 : decode cX8_keep 17 = .ok (.getfield 42, 3) := by decide +kernel
theorem dX8_keep_20 : decode cX8_keep 20 = .ok (.getfield 70, 3) := by decide +kernel
theorem dX8_keep_23 : decode cX8_keep 23 = .ok (.ireturn, 1) := by decide +kernel
theorem dX8_goBack_0 : decode cX8_goBack 0 = .ok (.aload_n 0, 1) := by decide +kernel
theorem dX8_goBack_1 : decode cX8_goBack 1 = .ok (.getfield 184, 3) := by decide +kernel
theorem dX8_goBack_4 : decode cX8_goBack 4 = .ok (.ifCond .ne 13, 3) := by decide +kernel
theorem dX8_goBack_7 : decode cX8_goBack 7 = .ok (.new 188, 3) := by decide +kernel
theorem dX8_goBack_10 : decode cX8_goBack 10 = .ok (.dup, 1) := by decide +kernel
theorem dX8_goBack_11 : decode cX8_goBack 11 = .ok (.ldc 190, 2) := by decide +kernel
theorem dX8_goBack_13 : decode cX8_goBack 13 = .ok (.invokespecial 192, 3) := by decide +kernel
theorem dX8_goBack_16 : decode cX8_goBack 16 = .ok (.athrow, 1) := by decide +kernel
theorem dX8_goBack_17 : decode cX8_goBack 17 = .ok (.aload_n 0, 1) := by decide +kernel
theorem dX8_goBack_18 : decode cX8_goBack 18 = .ok (.getfield 55, 3) := by decide +kernel
theorem dX8_goBack_21 : decode cX8_goBack 21 = .ok (.aload_n 0, 1) := by decide +kernel
theorem dX8_goBack_22 : decode cX8_goBack 22 = .ok (.getfield 42, 3) := by decide +kernel
theorem dX8_goBack_25 : decode cX8_goBack 25 = .ok (.invokevirtual 193, 3) := by decide +kernel
theorem dX8_goBack_28 : decode cX8_goBack 28 = .ok (.aload_n 0, 1) := by decide +kernel
theorem dX8_goBack_29 : decode cX8_goBack 29 = .ok (.getfield 42, 3) := by decide +kernel
theorem dX8_goBack_32 : decode cX8_goBack 32 = .ok (.aload_n 0, 1) := by decide +kernel
theorem dX8_goBack_33 : decode cX8_goBack 33 = .ok (.getfield 49, 3) := by decide +kernel
theorem dX8_goBack_36 : decode cX8_goBack 36 = .ok (.invokevirtual 181, 3) := by decide +kernel
theorem dX8_goBack_39 : decode cX8_goBack 39 = .ok (.aload_n 0, 1) := by decide +kernel
theorem dX8_goBack_40 : decode cX8_goBack 40 = .ok (.getfield 42, 3) := by decide +kernel
theorem dX8_goBack_43 : decode cX8_goBack 43 = .ok (.getfield 70, 3) := by decide +kernel
theorem dX8_goBack_46 : decode cX8_goBack 46 = .ok (.ireturn, 1) := by decide +kernel
theorem dX8_states_0 : decode cX8_states 0 = .ok (.aload_n 0, 1) := by decide +kernel
theorem dX8_states_1 : decode cX8_states 1 = .ok (.getfield 55, 3) := by decide +kernel
theorem dX8_states_4 : decode cX8_states 4 = .ok (.getfield 196, 3) := by decide +kernel
theorem dX8_states_7 : decode cX8_states 7 = .ok (.ireturn, 1) := by decide +kernel
theorem dX8_undo_0 : decode cX8_undo 0 = .ok (.aload_n 0, 1) := by decide +kernel
theorem dX8_undo_1 : decode cX8_undo 1 = .ok (.getfield 55, 3) := by decide +kernel
theorem dX8_undo_4 : decode cX8_undo 4 = .ok (.aload_n 0, 1) := by decide +kernel
theorem dX8_undo_5 : decode cX8_undo 5 = .ok (.getfield 42, 3) := by decide +kernel
theorem dX8_undo_8 : decode cX8_undo 8 = .ok (.invokevirtual 197, 3) := by decide +kernel
theorem dX8_undo_11 : decode cX8_undo 11 = .ok (.ifCond .ne 13, 3) := by decide +kernel
theorem dX8_undo_14 : decode cX8_undo 14 = .ok (.new 188, 3) := by decide +kernel
theorem dX8_undo_17 : decode cX8_undo 17 = .ok (.dup, 1) := by decide +kernel
theorem dX8_undo_18 : decode cX8_undo 18 = .ok (.ldc 201, 2) := by decide +kernel
theorem dX8_undo_20 : decode cX8_undo 20 = .ok (.invokespecial 192, 3) := by decide +kernel
theorem dX8_undo_23 : decode cX8_undo 23 = .ok (.athrow, 1) := by decide +kernel
theorem dX8_undo_24 : decode cX8_undo 24 = .ok (.aload_n 0, 1) := by decide +kernel
theorem dX8_undo_25 : decode cX8_undo 25 = .ok (.getfield 55, 3) := by decide +kernel
theorem dX8_undo_28 : decode cX8_undo 28 = .ok (.getfield 196, 3) := by decide +kernel
theorem dX8_undo_31 : decode cX8_undo 31 = .ok (.ireturn, 1) := by decide +kernel
theorem dX8_type_0 : decode cX8_type 0 = .ok (.iload_n 1, 1) := by decide +kernel
theorem dX8_type_1 : decode cX8_type 1 = .ok (.bipush 32, 2) := by decide +kernel
theorem dX8_type_3 : decode cX8_type 3 = .ok (.if_icmp .lt 9, 3) := by decide +kernel
theorem dX8_type_6 : decode cX8_type 6 = .ok (.iload_n 1, 1) := by decide +kernel
theorem dX8_type_7 : decode cX8_type 7 = .ok (.bipush 126, 2) := by decide +kernel
theorem dX8_type_9 : decode cX8_type 9 = .ok (.if_icmp .le 13, 3) := by decide +kernel
theorem dX8_type_12 : decode cX8_type 12 = .ok (.new 99, 3) := by decide +kernel
theorem dX8_type_15 : decode cX8_type 15 = .ok (.dup, 1) := by decide +kernel
theorem dX8_type_16 : decode cX8_type 16 = .ok (.ldc 203, 2) := by decide +kernel
theorem dX8_type_18 : decode cX8_type 18 = .ok (.invokespecial 103, 3) := by decide +kernel
theorem dX8_type_21 : decode cX8_type 21 = .ok (.athrow, 1) := by decide +kernel
theorem dX8_type_22 : decode cX8_type 22 = .ok (.aload_n 0, 1) := by decide +kernel
theorem dX8_type_23 : decode cX8_type 23 = .ok (.getfield 62, 3) := by decide +kernel
theorem dX8_type_26 : decode cX8_type 26 = .ok (.iload_n 1, 1) := by decide +kernel
theorem dX8_type_27 : decode cX8_type 27 = .ok (.i2c, 1) := by decide +kernel
theorem dX8_type_28 : decode cX8_type 28 = .ok (.invokevirtual 205, 3) := by decide +kernel
theorem dX8_type_31 : decode cX8_type 31 = .ok (.ifCond .ne 13, 3) := by decide +kernel
theorem dX8_type_34 : decode cX8_type 34 = .ok (.new 188, 3) := by decide +kernel
theorem dX8_type_37 : decode cX8_type 37 = .ok (.dup, 1) := by decide +kernel
theorem dX8_type_38 : decode cX8_type 38 = .ok (.ldc 209, 2) := by decide +kernel
theorem dX8_type_40 : decode cX8_type 40 = .ok (.invokespecial 192, 3) := by decide +kernel
theorem dX8_type_43 : decode cX8_type 43 = .ok (.athrow, 1) := by decide +kernel
theorem dX8_type_44 : decode cX8_type 44 = .ok (.aload_n 0, 1) := by decide +kernel
theorem dX8_type_45 : decode cX8_type 45 = .ok (.getfield 62, 3) := by decide +kernel
theorem dX8_type_48 : decode cX8_type 48 = .ok (.getfield 211, 3) := by decide +kernel
theorem dX8_type_51 : decode cX8_type 51 = .ok (.ireturn, 1) := by decide +kernel
theorem dX8_clearText_0 : decode cX8_clearText 0 = .ok (.aload_n 0, 1) := by decide +kernel
theorem dX8_clearText_1 : decode cX8_clearText 1 = .ok (.getfield 62, 3) := by decide +kernel
theorem dX8_clearText_4 : decode cX8_clearText 4 = .ok (.getfield 211, 3) := by decide +kernel
theorem dX8_clearText_7 : decode cX8_clearText 7 = .ok (.istore_n 1, 1) := by decide +kernel
theorem dX8_clearText_8 : decode cX8_clearText 8 = .ok (.aload_n 0, 1) := by decide +kernel
theorem dX8_clearText_9 : decode cX8_clearText 9 = .ok (.getfield 62, 3) := by decide +kernel
theorem dX8_clearText_12 : decode cX8_clearText 12 = .ok (.iconst 0, 1) := by decide +kernel
theorem dX8_clearText_13 : decode cX8_clearText 13 = .ok (.putfield 211, 3) := by decide +kernel
theorem dX8_clearText_16 : decode cX8_clearText 16 = .ok (.iload_n 1, 1) := by decide +kernel
theorem dX8_clearText_17 : decode cX8_clearText 17 = .ok (.ireturn, 1) := by decide +kernel
theorem dX8_faultPosition_0 : decode cX8_faultPosition 0 = .ok (.aload_n 0, 1) := by decide +kernel
theorem dX8_faultPosition_1 : decode cX8_faultPosition 1 = .ok (.invokevirtual 214, 3) := by decide +kernel
theorem dX8_faultPosition_4 : decode cX8_faultPosition 4 = .ok (.aload_n 0, 1) := by decide +kernel
theorem dX8_faultPosition_5 : decode cX8_faultPosition 5 = .ok (.getfield 62, 3) := by decide +kernel
theorem dX8_faultPosition_8 : decode cX8_faultPosition 8 = .ok (.getfield 217, 3) := by decide +kernel
theorem dX8_faultPosition_11 : decode cX8_faultPosition 11 = .ok (.ireturn, 1) := by decide +kernel
theorem dX8_faultReason_0 : decode cX8_faultReason 0 = .ok (.aload_n 0, 1) := by decide +kernel
theorem dX8_faultReason_1 : decode cX8_faultReason 1 = .ok (.invokevirtual 214, 3) := by decide +kernel
theorem dX8_faultReason_4 : decode cX8_faultReason 4 = .ok (.aload_n 0, 1) := by decide +kernel
theorem dX8_faultReason_5 : decode cX8_faultReason 5 = .ok (.getfield 62, 3) := by decide +kernel
theorem dX8_faultReason_8 : decode cX8_faultReason 8 = .ok (.getfield 220, 3) := by decide +kernel
theorem dX8_faultReason_11 : decode cX8_faultReason 11 = .ok (.ireturn, 1) := by decide +kernel
theorem dX8_faultCause_0 : decode cX8_faultCause 0 = .ok (.aload_n 0, 1) := by decide +kernel
theorem dX8_faultCause_1 : decode cX8_faultCause 1 = .ok (.invokevirtual 214, 3) := by decide +kernel
theorem dX8_faultCause_4 : decode cX8_faultCause 4 = .ok (.aload_n 0, 1) := by decide +kernel
theorem dX8_faultCause_5 : decode cX8_faultCause 5 = .ok (.getfield 62, 3) := by decide +kernel
theorem dX8_faultCause_8 : decode cX8_faultCause 8 = .ok (.getfield 223, 3) := by decide +kernel
theorem dX8_faultCause_11 : decode cX8_faultCause 11 = .ok (.ireturn, 1) := by decide +kernel
theorem dX8_play_0 : decode cX8_play 0 = .ok (.aload_n 0, 1) := by decide +kernel
theorem dX8_play_1 : decode cX8_play 1 = .ok (.getfield 62, 3) := by decide +kernel
theorem dX8_play_4 : decode cX8_play 4 = .ok (.aload_n 0, 1) := by decide +kernel
theorem dX8_play_5 : decode cX8_play 5 = .ok (.getfield 42, 3) := by decide +kernel
theorem dX8_play_8 : decode cX8_play 8 = .ok (.aload_n 0, 1) := by decide +kernel
theorem dX8_play_9 : decode cX8_play 9 = .ok (.getfield 46, 3) := by decide +kernel
theorem dX8_play_12 : decode cX8_play 12 = .ok (.invokevirtual 226, 3) := by decide +kernel
theorem dX8_play_15 : decode cX8_play 15 = .ok (.ifCond .eq 13, 3) := by decide +kernel
theorem dX8_play_18 : decode cX8_play 18 = .ok (.new 188, 3) := by decide +kernel
theorem dX8_play_21 : decode cX8_play 21 = .ok (.dup, 1) := by decide +kernel
theorem dX8_play_22 : decode cX8_play 22 = .ok (.ldc 230, 2) := by decide +kernel
theorem dX8_play_24 : decode cX8_play 24 = .ok (.invokespecial 192, 3) := by decide +kernel
theorem dX8_play_27 : decode cX8_play 27 = .ok (.athrow, 1) := by decide +kernel
theorem dX8_play_28 : decode cX8_play 28 = .ok (.aload_n 0, 1) := by decide +kernel
theorem dX8_play_29 : decode cX8_play 29 = .ok (.getfield 55, 3) := by decide +kernel
theorem dX8_play_32 : decode cX8_play 32 = .ok (.aload_n 0, 1) := by decide +kernel
theorem dX8_play_33 : decode cX8_play 33 = .ok (.getfield 42, 3) := by decide +kernel
theorem dX8_play_36 : decode cX8_play 36 = .ok (.invokevirtual 193, 3) := by decide +kernel
theorem dX8_play_39 : decode cX8_play 39 = .ok (.aload_n 0, 1) := by decide +kernel
theorem dX8_play_40 : decode cX8_play 40 = .ok (.getfield 42, 3) := by decide +kernel
theorem dX8_play_43 : decode cX8_play 43 = .ok (.aload_n 0, 1) := by decide +kernel
theorem dX8_play_44 : decode cX8_play 44 = .ok (.getfield 46, 3) := by decide +kernel
theorem dX8_play_47 : decode cX8_play 47 = .ok (.invokevirtual 181, 3) := by decide +kernel
theorem dX8_play_50 : decode cX8_play 50 = .ok (.aload_n 0, 1) := by decide +kernel
theorem dX8_play_51 : decode cX8_play 51 = .ok (.getfield 62, 3) := by decide +kernel
theorem dX8_play_54 : decode cX8_play 54 = .ok (.getfield 232, 3) := by decide +kernel
theorem dX8_play_57 : decode cX8_play 57 = .ok (.ireturn, 1) := by decide +kernel
theorem dX8_isNumber_0 : decode cX8_isNumber 0 = .ok (.iload_n 0, 1) := by decide +kernel
theorem dX8_isNumber_1 : decode cX8_isNumber 1 = .ok (.iconst 2, 1) := by decide +kernel
theorem dX8_isNumber_2 : decode cX8_isNumber 2 = .ok (.if_icmp .lt 13, 3) := by decide +kernel
end
section
theorem dX8_isNumber_5 : decode cX8_isNumber 5 = .ok (.iload_n 0, 1) := by decide +kernel
theorem dX8_isNumber_6 : decode cX8_isNumber 6 = .ok (.bipush 60, 2) := by decide +kernel
theorem dX8_isNumber_8 : decode cX8_isNumber 8 = .ok (.if_icmp .gt 7, 3) := by decide +kernel
theorem dX8_isNumber_11 : decode cX8_isNumber 11 = .ok (.iconst 1, 1) := by decide +kernel
theorem dX8_isNumber_12 : decode cX8_isNumber 12 = .ok (.goto 4, 3) := by decide +kernel
theorem dX8_isNumber_15 : decode cX8_isNumber 15 = .ok (.iconst 0, 1) := by decide +kernel
theorem dX8_isNumber_16 : decode cX8_isNumber 16 = .ok (.ireturn, 1) := by decide +kernel
theorem dX8_requireNumber_0 : decode cX8_requireNumber 0 = .ok (.iload_n 0, 1) := by decide +kernel
theorem dX8_requireNumber_1 : decode cX8_requireNumber 1 = .ok (.invokestatic 235, 3) := by decide +kernel
theorem dX8_requireNumber_4 : decode cX8_requireNumber 4 = .ok (.ifCond .ne 13, 3) := by decide +kernel
theorem dX8_requireNumber_7 : decode cX8_requireNumber 7 = .ok (.new 99, 3) := by decide +kernel
theorem dX8_requireNumber_10 : decode cX8_requireNumber 10 = .ok (.dup, 1) := by decide +kernel
theorem dX8_requireNumber_11 : decode cX8_requireNumber 11 = .ok (.ldc 238, 2) := by decide +kernel
theorem dX8_requireNumber_13 : decode cX8_requireNumber 13 = .ok (.invokespecial 103, 3) := by decide +kernel
theorem dX8_requireNumber_16 : decode cX8_requireNumber 16 = .ok (.athrow, 1) := by decide +kernel
theorem dX8_requireNumber_17 : decode cX8_requireNumber 17 = .ok (.return_, 1) := by decide +kernel
theorem dX8_requireRoot_0 : decode cX8_requireRoot 0 = .ok (.iload_n 1, 1) := by decide +kernel
theorem dX8_requireRoot_1 : decode cX8_requireRoot 1 = .ok (.invokestatic 86, 3) := by decide +kernel
theorem dX8_requireRoot_4 : decode cX8_requireRoot 4 = .ok (.aload_n 0, 1) := by decide +kernel
theorem dX8_requireRoot_5 : decode cX8_requireRoot 5 = .ok (.getfield 12, 3) := by decide +kernel
theorem dX8_requireRoot_8 : decode cX8_requireRoot 8 = .ok (.iload_n 1, 1) := by decide +kernel
theorem dX8_requireRoot_9 : decode cX8_requireRoot 9 = .ok (.invokevirtual 240, 3) := by decide +kernel
theorem dX8_requireRoot_12 : decode cX8_requireRoot 12 = .ok (.ifCond .eq 13, 3) := by decide +kernel
theorem dX8_requireRoot_15 : decode cX8_requireRoot 15 = .ok (.new 126, 3) := by decide +kernel
theorem dX8_requireRoot_18 : decode cX8_requireRoot 18 = .ok (.dup, 1) := by decide +kernel
theorem dX8_requireRoot_19 : decode cX8_requireRoot 19 = .ok (.ldc 243, 2) := by decide +kernel
theorem dX8_requireRoot_21 : decode cX8_requireRoot 21 = .ok (.invokespecial 130, 3) := by decide +kernel
theorem dX8_requireRoot_24 : decode cX8_requireRoot 24 = .ok (.athrow, 1) := by decide +kernel
theorem dX8_requireRoot_25 : decode cX8_requireRoot 25 = .ok (.return_, 1) := by decide +kernel
theorem dX8_requireLaid_0 : decode cX8_requireLaid 0 = .ok (.iload_n 1, 1) := by decide +kernel
theorem dX8_requireLaid_1 : decode cX8_requireLaid 1 = .ok (.invokestatic 86, 3) := by decide +kernel
theorem dX8_requireLaid_4 : decode cX8_requireLaid 4 = .ok (.aload_n 0, 1) := by decide +kernel
theorem dX8_requireLaid_5 : decode cX8_requireLaid 5 = .ok (.getfield 42, 3) := by decide +kernel
theorem dX8_requireLaid_8 : decode cX8_requireLaid 8 = .ok (.iload_n 1, 1) := by decide +kernel
theorem dX8_requireLaid_9 : decode cX8_requireLaid 9 = .ok (.invokevirtual 122, 3) := by decide +kernel
theorem dX8_requireLaid_12 : decode cX8_requireLaid 12 = .ok (.ifCond .ne 13, 3) := by decide +kernel
theorem dX8_requireLaid_15 : decode cX8_requireLaid 15 = .ok (.new 126, 3) := by decide +kernel
theorem dX8_requireLaid_18 : decode cX8_requireLaid 18 = .ok (.dup, 1) := by decide +kernel
theorem dX8_requireLaid_19 : decode cX8_requireLaid 19 = .ok (.ldc 245, 2) := by decide +kernel
theorem dX8_requireLaid_21 : decode cX8_requireLaid 21 = .ok (.invokespecial 130, 3) := by decide +kernel
theorem dX8_requireLaid_24 : decode cX8_requireLaid 24 = .ok (.athrow, 1) := by decide +kernel
theorem dX8_requireLaid_25 : decode cX8_requireLaid 25 = .ok (.return_, 1) := by decide +kernel
theorem dX8_requireFault_0 : decode cX8_requireFault 0 = .ok (.aload_n 0, 1) := by decide +kernel
theorem dX8_requireFault_1 : decode cX8_requireFault 1 = .ok (.getfield 62, 3) := by decide +kernel
theorem dX8_requireFault_4 : decode cX8_requireFault 4 = .ok (.aload_n 0, 1) := by decide +kernel
theorem dX8_requireFault_5 : decode cX8_requireFault 5 = .ok (.getfield 42, 3) := by decide +kernel
theorem dX8_requireFault_8 : decode cX8_requireFault 8 = .ok (.aload_n 0, 1) := by decide +kernel
theorem dX8_requireFault_9 : decode cX8_requireFault 9 = .ok (.getfield 46, 3) := by decide +kernel
theorem dX8_requireFault_12 : decode cX8_requireFault 12 = .ok (.invokevirtual 226, 3) := by decide +kernel
theorem dX8_requireFault_15 : decode cX8_requireFault 15 = .ok (.ifCond .ne 13, 3) := by decide +kernel
theorem dX8_requireFault_18 : decode cX8_requireFault 18 = .ok (.new 126, 3) := by decide +kernel
theorem dX8_requireFault_21 : decode cX8_requireFault 21 = .ok (.dup, 1) := by decide +kernel
theorem dX8_requireFault_22 : decode cX8_requireFault 22 = .ok (.ldc 247, 2) := by decide +kernel
theorem dX8_requireFault_24 : decode cX8_requireFault 24 = .ok (.invokespecial 130, 3) := by decide +kernel
theorem dX8_requireFault_27 : decode cX8_requireFault 27 = .ok (.athrow, 1) := by decide +kernel
theorem dX8_requireFault_28 : decode cX8_requireFault 28 = .ok (.return_, 1) := by decide +kernel
theorem dX8_change_0 : decode cX8_change 0 = .ok (.aload_n 0, 1) := by decide +kernel
theorem dX8_change_1 : decode cX8_change 1 = .ok (.getfield 42, 3) := by decide +kernel
theorem dX8_change_4 : decode cX8_change 4 = .ok (.iload_n 1, 1) := by decide +kernel
theorem dX8_change_5 : decode cX8_change 5 = .ok (.iload_n 2, 1) := by decide +kernel
theorem dX8_change_6 : decode cX8_change 6 = .ok (.invokevirtual 249, 3) := by decide +kernel
theorem dX8_change_9 : decode cX8_change 9 = .ok (.istore_n 3, 1) := by decide +kernel
theorem dX8_change_10 : decode cX8_change 10 = .ok (.iload_n 3, 1) := by decide +kernel
theorem dX8_change_11 : decode cX8_change 11 = .ok (.iconst 1, 1) := by decide +kernel
theorem dX8_change_12 : decode cX8_change 12 = .ok (.if_icmp .ne 13, 3) := by decide +kernel
theorem dX8_change_15 : decode cX8_change 15 = .ok (.new 99, 3) := by decide +kernel
theorem dX8_change_18 : decode cX8_change 18 = .ok (.dup, 1) := by decide +kernel
theorem dX8_change_19 : decode cX8_change 19 = .ok (.ldc 238, 2) := by decide +kernel
theorem dX8_change_21 : decode cX8_change 21 = .ok (.invokespecial 103, 3) := by decide +kernel
theorem dX8_change_24 : decode cX8_change 24 = .ok (.athrow, 1) := by decide +kernel
theorem dX8_change_25 : decode cX8_change 25 = .ok (.iload_n 3, 1) := by decide +kernel
theorem dX8_change_26 : decode cX8_change 26 = .ok (.ifCond .eq 13, 3) := by decide +kernel
theorem dX8_change_29 : decode cX8_change 29 = .ok (.new 188, 3) := by decide +kernel
theorem dX8_change_32 : decode cX8_change 32 = .ok (.dup, 1) := by decide +kernel
theorem dX8_change_33 : decode cX8_change 33 = .ok (.ldc 253, 2) := by decide +kernel
theorem dX8_change_35 : decode cX8_change 35 = .ok (.invokespecial 192, 3) := by decide +kernel
theorem dX8_change_38 : decode cX8_change 38 = .ok (.athrow, 1) := by decide +kernel
theorem dX8_change_39 : decode cX8_change 39 = .ok (.aload_n 0, 1) := by decide +kernel
theorem dX8_change_40 : decode cX8_change 40 = .ok (.getfield 55, 3) := by decide +kernel
theorem dX8_change_43 : decode cX8_change 43 = .ok (.aload_n 0, 1) := by decide +kernel
theorem dX8_change_44 : decode cX8_change 44 = .ok (.getfield 42, 3) := by decide +kernel
theorem dX8_change_47 : decode cX8_change 47 = .ok (.invokevirtual 193, 3) := by decide +kernel
theorem dX8_change_50 : decode cX8_change 50 = .ok (.aload_n 0, 1) := by decide +kernel
theorem dX8_change_51 : decode cX8_change 51 = .ok (.getfield 42, 3) := by decide +kernel
theorem dX8_change_54 : decode cX8_change 54 = .ok (.iload_n 1, 1) := by decide +kernel
theorem dX8_change_55 : decode cX8_change 55 = .ok (.iload_n 2, 1) := by decide +kernel
theorem dX8_change_56 : decode cX8_change 56 = .ok (.invokevirtual 255, 3) := by decide +kernel
theorem dX8_change_59 : decode cX8_change 59 = .ok (.return_, 1) := by decide +kernel
theorem dX8_powerOfLaid_0 : decode cX8_powerOfLaid 0 = .ok (.aload_n 0, 1) := by decide +kernel
theorem dX8_powerOfLaid_1 : decode cX8_powerOfLaid 1 = .ok (.getfield 42, 3) := by decide +kernel
theorem dX8_powerOfLaid_4 : decode cX8_powerOfLaid 4 = .ok (.iload_n 1, 1) := by decide +kernel
theorem dX8_powerOfLaid_5 : decode cX8_powerOfLaid 5 = .ok (.invokevirtual 74, 3) := by decide +kernel
theorem dX8_powerOfLaid_8 : decode cX8_powerOfLaid 8 = .ok (.istore_n 2, 1) := by decide +kernel
theorem dX8_powerOfLaid_9 : decode cX8_powerOfLaid 9 = .ok (.aload_n 0, 1) := by decide +kernel
theorem dX8_powerOfLaid_10 : decode cX8_powerOfLaid 10 = .ok (.getfield 12, 3) := by decide +kernel
theorem dX8_powerOfLaid_13 : decode cX8_powerOfLaid 13 = .ok (.aload_n 0, 1) := by decide +kernel
theorem dX8_powerOfLaid_14 : decode cX8_powerOfLaid 14 = .ok (.getfield 19, 3) := by decide +kernel
theorem dX8_powerOfLaid_17 : decode cX8_powerOfLaid 17 = .ok (.iload_n 1, 1) := by decide +kernel
theorem dX8_powerOfLaid_18 : decode cX8_powerOfLaid 18 = .ok (.invokevirtual 258, 3) := by decide +kernel
theorem dX8_powerOfLaid_21 : decode cX8_powerOfLaid 21 = .ok (.iconst 0, 1) := by decide +kernel
theorem dX8_powerOfLaid_22 : decode cX8_powerOfLaid 22 = .ok (.istore_n 3, 1) := by decide +kernel
theorem dX8_powerOfLaid_23 : decode cX8_powerOfLaid 23 = .ok (.iload_n 3, 1) := by decide +kernel
theorem dX8_powerOfLaid_24 : decode cX8_powerOfLaid 24 = .ok (.iload_n 2, 1) := by decide +kernel
theorem dX8_powerOfLaid_25 : decode cX8_powerOfLaid 25 = .ok (.if_icmp .ge 24, 3) := by decide +kernel
theorem dX8_powerOfLaid_28 : decode cX8_powerOfLaid 28 = .ok (.iload_n 3, 1) := by decide +kernel
theorem dX8_powerOfLaid_29 : decode cX8_powerOfLaid 29 = .ok (.ldc_w 262, 3) := by decide +kernel
theorem dX8_powerOfLaid_32 : decode cX8_powerOfLaid 32 = .ok (.if_icmp .ge 17, 3) := by decide +kernel
theorem dX8_powerOfLaid_35 : decode cX8_powerOfLaid 35 = .ok (.aload_n 0, 1) := by decide +kernel
theorem dX8_powerOfLaid_36 : decode cX8_powerOfLaid 36 = .ok (.getfield 19, 3) := by decide +kernel
theorem dX8_powerOfLaid_39 : decode cX8_powerOfLaid 39 = .ok (.invokevirtual 263, 3) := by decide +kernel
theorem dX8_powerOfLaid_42 : decode cX8_powerOfLaid 42 = .ok (.pop, 1) := by decide +kernel
theorem dX8_powerOfLaid_43 : decode cX8_powerOfLaid 43 = .ok (.iinc 3 1, 3) := by decide +kernel
theorem dX8_powerOfLaid_46 : decode cX8_powerOfLaid 46 = .ok (.goto (-23), 3) := by decide +kernel
theorem dX8_powerOfLaid_49 : decode cX8_powerOfLaid 49 = .ok (.aload_n 0, 1) := by decide +kernel
theorem dX8_powerOfLaid_50 : decode cX8_powerOfLaid 50 = .ok (.getfield 19, 3) := by decide +kernel
theorem dX8_powerOfLaid_53 : decode cX8_powerOfLaid 53 = .ok (.areturn, 1) := by decide +kernel
theorem dX8_solutionByQueue_0 : decode cX8_solutionByQueue 0 = .ok (.iload_n 1, 1) := by decide +kernel
theorem dX8_solutionByQueue_1 : decode cX8_solutionByQueue 1 = .ok (.ifCond .ge 13, 3) := by decide +kernel
theorem dX8_solutionByQueue_4 : decode cX8_solutionByQueue 4 = .ok (.new 99, 3) := by decide +kernel
theorem dX8_solutionByQueue_7 : decode cX8_solutionByQueue 7 = .ok (.dup, 1) := by decide +kernel
theorem dX8_solutionByQueue_8 : decode cX8_solutionByQueue 8 = .ok (.ldc 159, 2) := by decide +kernel
theorem dX8_solutionByQueue_10 : decode cX8_solutionByQueue 10 = .ok (.invokespecial 103, 3) := by decide +kernel
theorem dX8_solutionByQueue_13 : decode cX8_solutionByQueue 13 = .ok (.athrow, 1) := by decide +kernel
theorem dX8_solutionByQueue_14 : decode cX8_solutionByQueue 14 = .ok (.aload_n 0, 1) := by decide +kernel
theorem dX8_solutionByQueue_15 : decode cX8_solutionByQueue 15 = .ok (.getfield 28, 3) := by decide +kernel
theorem dX8_solutionByQueue_18 : decode cX8_solutionByQueue 18 = .ok (.aload_n 0, 1) := by decide +kernel
theorem dX8_solutionByQueue_19 : decode cX8_solutionByQueue 19 = .ok (.getfield 42, 3) := by decide +kernel
theorem dX8_solutionByQueue_22 : decode cX8_solutionByQueue 22 = .ok (.invokevirtual 267, 3) := by decide +kernel
theorem dX8_solutionByQueue_25 : decode cX8_solutionByQueue 25 = .ok (.aload_n 0, 1) := by decide +kernel
theorem dX8_solutionByQueue_26 : decode cX8_solutionByQueue 26 = .ok (.getfield 28, 3) := by decide +kernel
theorem dX8_solutionByQueue_29 : decode cX8_solutionByQueue 29 = .ok (.iload_n 1, 1) := by decide +kernel
theorem dX8_solutionByQueue_30 : decode cX8_solutionByQueue 30 = .ok (.invokevirtual 268, 3) := by decide +kernel
theorem dX8_solutionByQueue_33 : decode cX8_solutionByQueue 33 = .ok (.aload_n 0, 1) := by decide +kernel
theorem dX8_solutionByQueue_34 : decode cX8_solutionByQueue 34 = .ok (.getfield 28, 3) := by decide +kernel
theorem dX8_solutionByQueue_37 : decode cX8_solutionByQueue 37 = .ok (.invokevirtual 271, 3) := by decide +kernel
theorem dX8_solutionByQueue_40 : decode cX8_solutionByQueue 40 = .ok (.astore_n 2, 1) := by decide +kernel
theorem dX8_solutionByQueue_41 : decode cX8_solutionByQueue 41 = .ok (.aload_n 2, 1) := by decide +kernel
theorem dX8_solutionByQueue_42 : decode cX8_solutionByQueue 42 = .ok (.ifnonnull 13, 3) := by decide +kernel
theorem dX8_solutionByQueue_45 : decode cX8_solutionByQueue 45 = .ok (.new 126, 3) := by decide +kernel
theorem dX8_solutionByQueue_48 : decode cX8_solutionByQueue 48 = .ok (.dup, 1) := by decide +kernel
theorem dX8_solutionByQueue_49 : decode cX8_solutionByQueue 49 = .ok (.ldc 168, 2) := by decide +kernel
theorem dX8_solutionByQueue_51 : decode cX8_solutionByQueue 51 = .ok (.invokespecial 130, 3) := by decide +kernel
theorem dX8_solutionByQueue_54 : decode cX8_solutionByQueue 54 = .ok (.athrow, 1) := by decide +kernel
theorem dX8_solutionByQueue_55 : decode cX8_solutionByQueue 55 = .ok (.aload_n 2, 1) := by decide +kernel
theorem dX8_solutionByQueue_56 : decode cX8_solutionByQueue 56 = .ok (.areturn, 1) := by decide +kernel
theorem dX8_countUpTo_0 : decode cX8_countUpTo 0 = .ok (.iconst 0, 1) := by decide +kernel
theorem dX8_countUpTo_1 : decode cX8_countUpTo 1 = .ok (.istore_n 3, 1) := by decide +kernel
theorem dX8_countUpTo_2 : decode cX8_countUpTo 2 = .ok (.iconst 2, 1) := by decide +kernel
theorem dX8_countUpTo_3 : decode cX8_countUpTo 3 = .ok (.istore 4, 2) := by decide +kernel
theorem dX8_countUpTo_5 : decode cX8_countUpTo 5 = .ok (.iload 4, 2) := by decide +kernel
theorem dX8_countUpTo_7 : decode cX8_countUpTo 7 = .ok (.bipush 60, 2) := by decide +kernel
theorem dX8_countUpTo_9 : decode cX8_countUpTo 9 = .ok (.if_icmp .gt 31, 3) := by decide +kernel
theorem dX8_countUpTo_12 : decode cX8_countUpTo 12 = .ok (.aload_n 0, 1) := by decide +kernel
theorem dX8_countUpTo_13 : decode cX8_countUpTo 13 = .ok (.getfield 42, 3) := by decide +kernel
theorem dX8_countUpTo_16 : decode cX8_countUpTo 16 = .ok (.iload 4, 2) := by decide +kernel
theorem dX8_countUpTo_18 : decode cX8_countUpTo 18 = .ok (.invokevirtual 122, 3) := by decide +kernel
theorem dX8_countUpTo_21 : decode cX8_countUpTo 21 = .ok (.ifCond .eq 13, 3) := by decide +kernel
theorem dX8_countUpTo_24 : decode cX8_countUpTo 24 = .ok (.iload_n 3, 1) := by decide +kernel
theorem dX8_countUpTo_25 : decode cX8_countUpTo 25 = .ok (.aload_n 0, 1) := by decide +kernel
theorem dX8_countUpTo_26 : decode cX8_countUpTo 26 = .ok (.iload 4, 2) := by decide +kernel
theorem dX8_countUpTo_28 : decode cX8_countUpTo 28 = .ok (.lload_n 1, 1) := by decide +kernel
theorem dX8_countUpTo_29 : decode cX8_countUpTo 29 = .ok (.invokevirtual 275, 3) := by decide +kernel
theorem dX8_countUpTo_32 : decode cX8_countUpTo 32 = .ok (.iadd, 1) := by decide +kernel
theorem dX8_countUpTo_33 : decode cX8_countUpTo 33 = .ok (.istore_n 3, 1) := by decide +kernel
theorem dX8_countUpTo_34 : decode cX8_countUpTo 34 = .ok (.iinc 4 1, 3) := by decide +kernel
theorem dX8_countUpTo_37 : decode cX8_countUpTo 37 = .ok (.goto (-32), 3) := by decide +kernel
theorem dX8_countUpTo_40 : decode cX8_countUpTo 40 = .ok (.iload_n 3, 1) := by decide +kernel
theorem dX8_countUpTo_41 : decode cX8_countUpTo 41 = .ok (.ireturn, 1) := by decide +kernel
theorem dX8_countPowersUpTo_0 : decode cX8_countPowersUpTo 0 = .ok (.aload_n 0, 1) := by decide +kernel
theorem dX8_countPowersUpTo_1 : decode cX8_countPowersUpTo 1 = .ok (.getfield 12, 3) := by decide +kernel
theorem dX8_countPowersUpTo_4 : decode cX8_countPowersUpTo 4 = .ok (.aload_n 0, 1) := by decide +kernel
theorem dX8_countPowersUpTo_5 : decode cX8_countPowersUpTo 5 = .ok (.getfield 19, 3) := by decide +kernel
theorem dX8_countPowersUpTo_8 : decode cX8_countPowersUpTo 8 = .ok (.iload_n 1, 1) := by decide +kernel
theorem dX8_countPowersUpTo_9 : decode cX8_countPowersUpTo 9 = .ok (.invokevirtual 258, 3) := by decide +kernel
theorem dX8_countPowersUpTo_12 : decode cX8_countPowersUpTo 12 = .ok (.iconst 0, 1) := by decide +kernel
theorem dX8_countPowersUpTo_13 : decode cX8_countPowersUpTo 13 = .ok (.istore 4, 2) := by decide +kernel
theorem dX8_countPowersUpTo_15 : decode cX8_countPowersUpTo 15 = .ok (.iload 4, 2) := by decide +kernel
theorem dX8_countPowersUpTo_17 : decode cX8_countPowersUpTo 17 = .ok (.ldc_w 262, 3) := by decide +kernel
theorem dX8_countPowersUpTo_20 : decode cX8_countPowersUpTo 20 = .ok (.if_icmp .ge 34, 3) := by decide +kernel
theorem dX8_countPowersUpTo_23 : decode cX8_countPowersUpTo 23 = .ok (.aload_n 0, 1) := by decide +kernel
theorem dX8_countPowersUpTo_24 : decode cX8_countPowersUpTo 24 = .ok (.getfield 19, 3) := by decide +kernel
theorem dX8_countPowersUpTo_27 : decode cX8_countPowersUpTo 27 = .ok (.invokevirtual 263, 3) := by decide +kernel
theorem dX8_countPowersUpTo_30 : decode cX8_countPowersUpTo 30 = .ok (.ifCond .eq 15, 3) := by decide +kernel
theorem dX8_countPowersUpTo_33 : decode cX8_countPowersUpTo 33 = .ok (.aload_n 0, 1) := by decide +kernel
theorem dX8_countPowersUpTo_34 : decode cX8_countPowersUpTo 34 = .ok (.getfield 19, 3) := by decide +kernel
theorem dX8_countPowersUpTo_37 : decode cX8_countPowersUpTo 37 = .ok (.getfield 82, 3) := by decide +kernel
theorem dX8_countPowersUpTo_40 : decode cX8_countPowersUpTo 40 = .ok (.lload_n 2, 1) := by decide +kernel
theorem dX8_countPowersUpTo_41 : decode cX8_countPowersUpTo 41 = .ok (.lcmp, 1) := by decide +kernel
theorem dX8_countPowersUpTo_42 : decode cX8_countPowersUpTo 42 = .ok (.ifCond .le 6, 3) := by decide +kernel
theorem dX8_countPowersUpTo_45 : decode cX8_countPowersUpTo 45 = .ok (.iload 4, 2) := by decide +kernel
theorem dX8_countPowersUpTo_47 : decode cX8_countPowersUpTo 47 = .ok (.ireturn, 1) := by decide +kernel
theorem dX8_countPowersUpTo_48 : decode cX8_countPowersUpTo 48 = .ok (.iinc 4 1, 3) := by decide +kernel
theorem dX8_countPowersUpTo_51 : decode cX8_countPowersUpTo 51 = .ok (.goto (-36), 3) := by decide +kernel
theorem dX8_countPowersUpTo_54 : decode cX8_countPowersUpTo 54 = .ok (.ldc_w 262, 3) := by decide +kernel
theorem dX8_countPowersUpTo_57 : decode cX8_countPowersUpTo 57 = .ok (.ireturn, 1) := by decide +kernel
theorem dX8_searchLeastY_0 : decode cX8_searchLeastY 0 = .ok (.iload_n 0, 1) := by decide +kernel
theorem dX8_searchLeastY_1 : decode cX8_searchLeastY 1 = .ok (.invokestatic 279, 3) := by decide +kernel
theorem dX8_searchLeastY_4 : decode cX8_searchLeastY 4 = .ok (.istore_n 1, 1) := by decide +kernel
theorem dX8_searchLeastY_5 : decode cX8_searchLeastY 5 = .ok (.iload_n 1, 1) := by decide +kernel
theorem dX8_searchLeastY_6 : decode cX8_searchLeastY 6 = .ok (.i2l, 1) := by decide +kernel
theorem dX8_searchLeastY_7 : decode cX8_searchLeastY 7 = .ok (.lstore_n 2, 1) := by decide +kernel
theorem dX8_searchLeastY_8 : decode cX8_searchLeastY 8 = .ok (.iconst 1, 1) := by decide +kernel
theorem dX8_searchLeastY_9 : decode cX8_searchLeastY 9 = .ok (.istore 4, 2) := by decide +kernel
theorem dX8_searchLeastY_11 : decode cX8_searchLeastY 11 = .ok (.iload 4, 2) := by decide +kernel
theorem dX8_searchLeastY_13 : decode cX8_searchLeastY 13 = .ok (.ldc_w 262, 3) := by decide +kernel
theorem dX8_searchLeastY_16 : decode cX8_searchLeastY 16 = .ok (.if_icmp .ge 61, 3) := by decide +kernel
theorem dX8_searchLeastY_19 : decode cX8_searchLeastY 19 = .ok (.iload_n 0, 1) := by decide +kernel
theorem dX8_searchLeastY_20 : decode cX8_searchLeastY 20 = .ok (.i2l, 1) := by decide +kernel
theorem dX8_searchLeastY_21 : decode cX8_searchLeastY 21 = .ok (.iload 4, 2) := by decide +kernel
theorem dX8_searchLeastY_23 : decode cX8_searchLeastY 23 = .ok (.i2l, 1) := by decide +kernel
theorem dX8_searchLeastY_24 : decode cX8_searchLeastY 24 = .ok (.lmul, 1) := by decide +kernel
theorem dX8_searchLeastY_25 : decode cX8_searchLeastY 25 = .ok (.iload 4, 2) := by decide +kernel
theorem dX8_searchLeastY_27 : decode cX8_searchLeastY 27 = .ok (.i2l, 1) := by decide +kernel
theorem dX8_searchLeastY_28 : decode cX8_searchLeastY 28 = .ok (.lmul, 1) := by decide +kernel
theorem dX8_searchLeastY_29 : decode cX8_searchLeastY 29 = .ok (.lconst 1, 1) := by decide +kernel
theorem dX8_searchLeastY_30 : decode cX8_searchLeastY 30 = .ok (.ladd, 1) := by decide +kernel
theorem dX8_searchLeastY_31 : decode cX8_searchLeastY 31 = .ok (.lstore 5, 2) := by decide +kernel
theorem dX8_searchLeastY_33 : decode cX8_searchLeastY 33 = .ok (.lload_n 2, 1) := by decide +kernel
theorem dX8_searchLeastY_34 : decode cX8_searchLeastY 34 = .ok (.lconst 1, 1) := by decide +kernel
theorem dX8_searchLeastY_35 : decode cX8_searchLeastY 35 = .ok (.ladd, 1) := by decide +kernel
theorem dX8_searchLeastY_36 : decode cX8_searchLeastY 36 = .ok (.lload_n 2, 1) := by decide +kernel
theorem dX8_searchLeastY_37 : decode cX8_searchLeastY 37 = .ok (.lconst 1, 1) := by decide +kernel
theorem dX8_searchLeastY_38 : decode cX8_searchLeastY 38 = .ok (.ladd, 1) := by decide +kernel
theorem dX8_searchLeastY_39 : decode cX8_searchLeastY 39 = .ok (.lmul, 1) := by decide +kernel
theorem dX8_searchLeastY_40 : decode cX8_searchLeastY 40 = .ok (.lload 5, 2) := by decide +kernel
theorem dX8_searchLeastY_42 : decode cX8_searchLeastY 42 = .ok (.lcmp, 1) := by decide +kernel
theorem dX8_searchLeastY_43 : decode cX8_searchLeastY 43 = .ok (.ifCond .ge 7, 3) := by decide +kernel
theorem dX8_searchLeastY_46 : decode cX8_searchLeastY 46 = .ok (.lload_n 2, 1) := by decide +kernel
theorem dX8_searchLeastY_47 : decode cX8_searchLeastY 47 = .ok (.lconst 1, 1) := by decide +kernel
theorem dX8_searchLeastY_48 : decode cX8_searchLeastY 48 = .ok (.ladd, 1) := by decide +kernel
theorem dX8_searchLeastY_49 : decode cX8_searchLeastY 49 = .ok (.lstore_n 2, 1) := by decide +kernel
theorem dX8_searchLeastY_50 : decode cX8_searchLeastY 50 = .ok (.lload_n 2, 1) := by decide +kernel
theorem dX8_searchLeastY_51 : decode cX8_searchLeastY 51 = .ok (.lconst 1, 1) := by decide +kernel
theorem dX8_searchLeastY_52 : decode cX8_searchLeastY 52 = .ok (.ladd, 1) := by decide +kernel
theorem dX8_searchLeastY_53 : decode cX8_searchLeastY 53 = .ok (.lload_n 2, 1) := by decide +kernel
theorem dX8_searchLeastY_54 : decode cX8_searchLeastY 54 = .ok (.lconst 1, 1) := by decide +kernel
theorem dX8_searchLeastY_55 : decode cX8_searchLeastY 55 = .ok (.ladd, 1) := by decide +kernel
theorem dX8_searchLeastY_56 : decode cX8_searchLeastY 56 = .ok (.lmul, 1) := by decide +kernel
theorem dX8_searchLeastY_57 : decode cX8_searchLeastY 57 = .ok (.lload 5, 2) := by decide +kernel
theorem dX8_searchLeastY_59 : decode cX8_searchLeastY 59 = .ok (.lcmp, 1) := by decide +kernel
theorem dX8_searchLeastY_60 : decode cX8_searchLeastY 60 = .ok (.ifCond .ne 6, 3) := by decide +kernel
theorem dX8_searchLeastY_63 : decode cX8_searchLeastY 63 = .ok (.iload 4, 2) := by decide +kernel
theorem dX8_searchLeastY_65 : decode cX8_searchLeastY 65 = .ok (.ireturn, 1) := by decide +kernel
theorem dX8_searchLeastY_66 : decode cX8_searchLeastY 66 = .ok (.lload_n 2, 1) := by decide +kernel
theorem dX8_searchLeastY_67 : decode cX8_searchLeastY 67 = .ok (.iload_n 1, 1) := by decide +kernel
theorem dX8_searchLeastY_68 : decode cX8_searchLeastY 68 = .ok (.i2l, 1) := by decide +kernel
theorem dX8_searchLeastY_69 : decode cX8_searchLeastY 69 = .ok (.ladd, 1) := by decide +kernel
theorem dX8_searchLeastY_70 : decode cX8_searchLeastY 70 = .ok (.lstore_n 2, 1) := by decide +kernel
theorem dX8_searchLeastY_71 : decode cX8_searchLeastY 71 = .ok (.iinc 4 1, 3) := by decide +kernel
theorem dX8_searchLeastY_74 : decode cX8_searchLeastY 74 = .ok (.goto (-63), 3) := by decide +kernel
theorem dX8_searchLeastY_77 : decode cX8_searchLeastY 77 = .ok (.ldc_w 262, 3) := by decide +kernel
theorem dX8_searchLeastY_80 : decode cX8_searchLeastY 80 = .ok (.ireturn, 1) := by decide +kernel
theorem dX8_wholeRoot_0 : decode cX8_wholeRoot 0 = .ok (.iconst 1, 1) := by decide +kernel
theorem dX8_wholeRoot_1 : decode cX8_wholeRoot 1 = .ok (.istore_n 1, 1) := by decide +kernel
theorem dX8_wholeRoot_2 : decode cX8_wholeRoot 2 = .ok (.iconst 2, 1) := by decide +kernel
theorem dX8_wholeRoot_3 : decode cX8_wholeRoot 3 = .ok (.istore_n 2, 1) := by decide +kernel
theorem dX8_wholeRoot_4 : decode cX8_wholeRoot 4 = .ok (.iload_n 2, 1) := by decide +kernel
theorem dX8_wholeRoot_5 : decode cX8_wholeRoot 5 = .ok (.bipush 60, 2) := by decide +kernel
theorem dX8_wholeRoot_7 : decode cX8_wholeRoot 7 = .ok (.if_icmp .gt 18, 3) := by decide +kernel
theorem dX8_wholeRoot_10 : decode cX8_wholeRoot 10 = .ok (.iload_n 2, 1) := by decide +kernel
theorem dX8_wholeRoot_11 : decode cX8_wholeRoot 11 = .ok (.iload_n 2, 1) := by decide +kernel
theorem dX8_wholeRoot_12 : decode cX8_wholeRoot 12 = .ok (.imul, 1) := by decide +kernel
theorem dX8_wholeRoot_13 : decode cX8_wholeRoot 13 = .ok (.iload_n 0, 1) := by decide +kernel
theorem dX8_wholeRoot_14 : decode cX8_wholeRoot 14 = .ok (.if_icmp .gt 11, 3) := by decide +kernel
theorem dX8_wholeRoot_17 : decode cX8_wholeRoot 17 = .ok (.iload_n 2, 1) := by decide +kernel
theorem dX8_wholeRoot_18 : decode cX8_wholeRoot 18 = .ok (.istore_n 1, 1) := by decide +kernel
theorem dX8_wholeRoot_19 : decode cX8_wholeRoot 19 = .ok (.iinc 2 1, 3) := by decide +kernel
theorem dX8_wholeRoot_22 : decode cX8_wholeRoot 22 = .ok (.goto (-18), 3) := by decide +kernel
theorem dX8_wholeRoot_25 : decode cX8_wholeRoot 25 = .ok (.iload_n 1, 1) := by decide +kernel
theorem dX8_wholeRoot_26 : decode cX8_wholeRoot 26 = .ok (.ireturn, 1) := by decide +kernel
theorem dX9_init_0 : decode cX9_init 0 = .ok (.aload_n 0, 1) := by decide +kernel
theorem dX9_init_1 : decode cX9_init 1 = .ok (.invokespecial 1, 3) := by decide +kernel
theorem dX9_init_4 : decode cX9_init 4 = .ok (.aload_n 0, 1) := by decide +kernel
theorem dX9_init_5 : decode cX9_init 5 = .ok (.bipush 60, 2) := by decide +kernel
theorem dX9_init_7 : decode cX9_init 7 = .ok (.newarray .int, 2) := by decide +kernel
theorem dX9_init_9 : decode cX9_init 9 = .ok (.putfield 7, 3) := by decide +kernel
theorem dX9_init_12 : decode cX9_init 12 = .ok (.aload_n 0, 1) := by decide +kernel
theorem dX9_init_13 : decode cX9_init 13 = .ok (.bipush 60, 2) := by decide +kernel
theorem dX9_init_15 : decode cX9_init 15 = .ok (.newarray .int, 2) := by decide +kernel
theorem dX9_init_17 : decode cX9_init 17 = .ok (.putfield 13, 3) := by decide +kernel
theorem dX9_init_20 : decode cX9_init 20 = .ok (.aload_n 0, 1) := by decide +kernel
theorem dX9_init_21 : decode cX9_init 21 = .ok (.bipush 60, 2) := by decide +kernel
theorem dX9_init_23 : decode cX9_init 23 = .ok (.newarray .int, 2) := by decide +kernel
theorem dX9_init_25 : decode cX9_init 25 = .ok (.putfield 16, 3) := by decide +kernel
theorem dX9_init_28 : decode cX9_init 28 = .ok (.aload_n 0, 1) := by decide +kernel
theorem dX9_init_29 : decode cX9_init 29 = .ok (.sipush 240, 3) := by decide +kernel
theorem dX9_init_32 : decode cX9_init 32 = .ok (.newarray .int, 2) := by decide +kernel
theorem dX9_init_34 : decode cX9_init 34 = .ok (.putfield 19, 3) := by decide +kernel
theorem dX9_init_37 : decode cX9_init 37 = .ok (.aload_n 0, 1) := by decide +kernel
theorem dX9_init_38 : decode cX9_init 38 = .ok (.bipush 60, 2) := by decide +kernel
theorem dX9_init_40 : decode cX9_init 40 = .ok (.newarray .int, 2) := by decide +kernel
theorem dX9_init_42 : decode cX9_init 42 = .ok (.putfield 22, 3) := by decide +kernel
theorem dX9_init_45 : decode cX9_init 45 = .ok (.aload_n 0, 1) := by decide +kernel
theorem dX9_init_46 : decode cX9_init 46 = .ok (.bipush 61, 2) := by decide +kernel
theorem dX9_init_48 : decode cX9_init 48 = .ok (.newarray .long, 2) := by decide +kernel
theorem dX9_init_50 : decode cX9_init 50 = .ok (.putfield 25, 3) := by decide +kernel
theorem dX9_init_53 : decode cX9_init 53 = .ok (.aload_n 0, 1) := by decide +kernel
theorem dX9_init_54 : decode cX9_init 54 = .ok (.bipush 61, 2) := by decide +kernel
theorem dX9_init_56 : decode cX9_init 56 = .ok (.newarray .long, 2) := by decide +kernel
theorem dX9_init_58 : decode cX9_init 58 = .ok (.putfield 29, 3) := by decide +kernel
theorem dX9_init_61 : decode cX9_init 61 = .ok (.return_, 1) := by decide +kernel
theorem dX9_thrown_0 : decode cX9_thrown 0 = .ok (.aload_n 0, 1) := by decide +kernel
theorem dX9_thrown_1 : decode cX9_thrown 1 = .ok (.getfield 32, 3) := by decide +kernel
theorem dX9_thrown_4 : decode cX9_thrown 4 = .ok (.ireturn, 1) := by decide +kernel
theorem dX9_fails_0 : decode cX9_fails 0 = .ok (.aload_n 0, 1) := by decide +kernel
theorem dX9_fails_1 : decode cX9_fails 1 = .ok (.iload_n 1, 1) := by decide +kernel
theorem dX9_fails_2 : decode cX9_fails 2 = .ok (.putfield 32, 3) := by decide +kernel
theorem dX9_fails_5 : decode cX9_fails 5 = .ok (.iconst 0, 1) := by decide +kernel
theorem dX9_fails_6 : decode cX9_fails 6 = .ok (.ireturn, 1) := by decide +kernel
theorem dX9_in_0 : decode cX9_in 0 = .ok (.iload_n 0, 1) := by decide +kernel
theorem dX9_in_1 : decode cX9_in 1 = .ok (.iload_n 1, 1) := by decide +kernel
theorem dX9_in_2 : decode cX9_in 2 = .ok (.if_icmp .lt 12, 3) := by decide +kernel
theorem dX9_in_5 : decode cX9_in 5 = .ok (.iload_n 0, 1) := by decide +kernel
theorem dX9_in_6 : decode cX9_in 6 = .ok (.iload_n 2, 1) := by decide +kernel
theorem dX9_in_7 : decode cX9_in 7 = .ok (.if_icmp .gt 7, 3) := by decide +kernel
theorem dX9_in_10 : decode cX9_in 10 = .ok (.iconst 1, 1) := by decide +kernel
theorem dX9_in_11 : decode cX9_in 11 = .ok (.goto 4, 3) := by decide +kernel
theorem dX9_in_14 : decode cX9_in 14 = .ok (.iconst 0, 1) := by decide +kernel
theorem dX9_in_15 : decode cX9_in 15 = .ok (.ireturn, 1) := by decide +kernel
theorem dX9_copies_0 : decode cX9_copies 0 = .ok (.iconst 0, 1) := by decide +kernel
theorem dX9_copies_1 : decode cX9_copies 1 = .ok (.istore 4, 2) := by decide +kernel
theorem dX9_copies_3 : decode cX9_copies 3 = .ok (.iload 4, 2) := by decide +kernel
theorem dX9_copies_5 : decode cX9_copies 5 = .ok (.bipush 60, 2) := by decide +kernel
theorem dX9_copies_7 : decode cX9_copies 7 = .ok (.if_icmp .ge 21, 3) := by decide +kernel
theorem dX9_copies_10 : decode cX9_copies 10 = .ok (.aload_n 2, 1) := by decide +kernel
theorem dX9_copies_11 : decode cX9_copies 11 = .ok (.iload_n 3, 1) := by decide +kernel
theorem dX9_copies_12 : decode cX9_copies 12 = .ok (.iload 4, 2) := by decide +kernel
theorem dX9_copies_14 : decode cX9_copies 14 = .ok (.iadd, 1) := by decide +kernel
theorem dX9_copies_15 : decode cX9_copies 15 = .ok (.aload_n 0, 1) := by decide +kernel
theorem dX9_copies_16 : decode cX9_copies 16 = .ok (.iload_n 1, 1) := by decide +kernel
theorem dX9_copies_17 : decode cX9_copies 17 = .ok (.iload 4, 2) := by decide +kernel
theorem dX9_copies_19 : decode cX9_copies 19 = .ok (.iadd, 1) := by decide +kernel
theorem dX9_copies_20 : decode cX9_copies 20 = .ok (.iaload, 1) := by decide +kernel
theorem dX9_copies_21 : decode cX9_copies 21 = .ok (.iastore, 1) := by decide +kernel
theorem dX9_copies_22 : decode cX9_copies 22 = .ok (.iinc 4 1, 3) := by decide +kernel
theorem dX9_copies_25 : decode cX9_copies 25 = .ok (.goto (-22), 3) := by decide +kernel
theorem dX9_copies_28 : decode cX9_copies 28 = .ok (.return_, 1) := by decide +kernel
theorem dX9_begins_0 : decode cX9_begins 0 = .ok (.aload_n 0, 1) := by decide +kernel
theorem dX9_begins_1 : decode cX9_begins 1 = .ok (.iconst 0, 1) := by decide +kernel
theorem dX9_begins_2 : decode cX9_begins 2 = .ok (.putfield 32, 3) := by decide +kernel
theorem dX9_begins_5 : decode cX9_begins 5 = .ok (.aload_n 0, 1) := by decide +kernel
theorem dX9_begins_6 : decode cX9_begins 6 = .ok (.getfield 7, 3) := by decide +kernel
theorem dX9_begins_9 : decode cX9_begins 9 = .ok (.iconst 0, 1) := by decide +kernel
theorem dX9_begins_10 : decode cX9_begins 10 = .ok (.aload_n 0, 1) := by decide +kernel
theorem dX9_begins_11 : decode cX9_begins 11 = .ok (.getfield 13, 3) := by decide +kernel
theorem dX9_begins_14 : decode cX9_begins 14 = .ok (.iconst 0, 1) := by decide +kernel
theorem dX9_begins_15 : decode cX9_begins 15 = .ok (.invokestatic 36, 3) := by decide +kernel
theorem dX9_begins_18 : decode cX9_begins 18 = .ok (.return_, 1) := by decide +kernel
theorem dX9_records_0 : decode cX9_records 0 = .ok (.aload_n 0, 1) := by decide +kernel
theorem dX9_records_1 : decode cX9_records 1 = .ok (.getfield 40, 3) := by decide +kernel
theorem dX9_records_4 : decode cX9_records 4 = .ok (.iconst 4, 1) := by decide +kernel
theorem dX9_records_5 : decode cX9_records 5 = .ok (.if_icmp .ne 43, 3) := by decide +kernel
theorem dX9_records_8 : decode cX9_records 8 = .ok (.iconst 0, 1) := by decide +kernel
theorem dX9_records_9 : decode cX9_records 9 = .ok (.istore_n 1, 1) := by decide +kernel
theorem dX9_records_10 : decode cX9_records 10 = .ok (.iload_n 1, 1) := by decide +kernel
theorem dX9_records_11 : decode cX9_records 11 = .ok (.sipush 180, 3) := by decide +kernel
theorem dX9_records_14 : decode cX9_records 14 = .ok (.if_icmp .ge 24, 3) := by decide +kernel
theorem dX9_records_17 : decode cX9_records 17 = .ok (.aload_n 0, 1) := by decide +kernel
theorem dX9_records_18 : decode cX9_records 18 = .ok (.getfield 19, 3) := by decide +kernel
theorem dX9_records_21 : decode cX9_records 21 = .ok (.iload_n 1, 1) := by decide +kernel
theorem dX9_records_22 : decode cX9_records 22 = .ok (.aload_n 0, 1) := by decide +kernel
theorem dX9_records_23 : decode cX9_records 23 = .ok (.getfield 19, 3) := by decide +kernel
theorem dX9_records_26 : decode cX9_records 26 = .ok (.iload_n 1, 1) := by decide +kernel
theorem dX9_records_27 : decode cX9_records 27 = .ok (.bipush 60, 2) := by decide +kernel
theorem dX9_records_29 : decode cX9_records 29 = .ok (.iadd, 1) := by decide +kernel
theorem dX9_records_30 : decode cX9_records 30 = .ok (.iaload, 1) := by decide +kernel
theorem dX9_records_31 : decode cX9_records 31 = .ok (.iastore, 1) := by decide +kernel
theorem dX9_records_32 : decode cX9_records 32 = .ok (.iinc 1 1, 3) := by decide +kernel
theorem dX9_records_35 : decode cX9_records 35 = .ok (.goto (-25), 3) := by decide +kernel
theorem dX9_records_38 : decode cX9_records 38 = .ok (.aload_n 0, 1) := by decide +kernel
theorem dX9_records_39 : decode cX9_records 39 = .ok (.dup, 1) := by decide +kernel
theorem dX9_records_40 : decode cX9_records 40 = .ok (.getfield 40, 3) := by decide +kernel
theorem dX9_records_43 : decode cX9_records 43 = .ok (.iconst 1, 1) := by decide +kernel
theorem dX9_records_44 : decode cX9_records 44 = .ok (.isub, 1) := by decide +kernel
theorem dX9_records_45 : decode cX9_records 45 = .ok (.putfield 40, 3) := by decide +kernel
theorem dX9_records_48 : decode cX9_records 48 = .ok (.aload_n 0, 1) := by decide +kernel
theorem dX9_records_49 : decode cX9_records 49 = .ok (.getfield 13, 3) := by decide +kernel
theorem dX9_records_52 : decode cX9_records 52 = .ok (.iconst 0, 1) := by decide +kernel
theorem dX9_records_53 : decode cX9_records 53 = .ok (.aload_n 0, 1) := by decide +kernel
theorem dX9_records_54 : decode cX9_records 54 = .ok (.getfield 19, 3) := by decide +kernel
theorem dX9_records_57 : decode cX9_records 57 = .ok (.bipush 60, 2) := by decide +kernel
theorem dX9_records_59 : decode cX9_records 59 = .ok (.aload_n 0, 1) := by decide +kernel
theorem dX9_records_60 : decode cX9_records 60 = .ok (.getfield 40, 3) := by decide +kernel
theorem dX9_records_63 : decode cX9_records 63 = .ok (.imul, 1) := by decide +kernel
theorem dX9_records_64 : decode cX9_records 64 = .ok (.invokestatic 36, 3) := by decide +kernel
theorem dX9_records_67 : decode cX9_records 67 = .ok (.aload_n 0, 1) := by decide +kernel
theorem dX9_records_68 : decode cX9_records 68 = .ok (.dup, 1) := by decide +kernel
theorem dX9_records_69 : decode cX9_records 69 = .ok (.getfield 40, 3) := by decide +kernel
theorem dX9_records_72 : decode cX9_records 72 = .ok (.iconst 1, 1) := by decide +kernel
theorem dX9_records_73 : decode cX9_records 73 = .ok (.iadd, 1) := by decide +kernel
theorem dX9_records_74 : decode cX9_records 74 = .ok (.putfield 40, 3) := by decide +kernel
theorem dX9_records_77 : decode cX9_records 77 = .ok (.return_, 1) := by decide +kernel
theorem dX9_ends_0 : decode cX9_ends 0 = .ok (.iload_n 1, 1) := by decide +kernel
theorem dX9_ends_1 : decode cX9_ends 1 = .ok (.bipush (-11), 2) := by decide +kernel
theorem dX9_ends_3 : decode cX9_ends 3 = .ok (.if_icmp .ne 9, 3) := by decide +kernel
theorem dX9_ends_6 : decode cX9_ends 6 = .ok (.aload_n 0, 1) := by decide +kernel
theorem dX9_ends_7 : decode cX9_ends 7 = .ok (.iconst 1, 1) := by decide +kernel
theorem dX9_ends_8 : decode cX9_ends 8 = .ok (.invokevirtual 43, 3) := by decide +kernel
theorem dX9_ends_11 : decode cX9_ends 11 = .ok (.ireturn, 1) := by decide +kernel
theorem dX9_ends_12 : decode cX9_ends 12 = .ok (.iload_n 1, 1) := by decide +kernel
theorem dX9_ends_13 : decode cX9_ends 13 = .ok (.bipush (-12), 2) := by decide +kernel
theorem dX9_ends_15 : decode cX9_ends 15 = .ok (.if_icmp .ne 9, 3) := by decide +kernel
theorem dX9_ends_18 : decode cX9_ends 18 = .ok (.aload_n 0, 1) := by decide +kernel
theorem dX9_ends_19 : decode cX9_ends 19 = .ok (.iconst 2, 1) := by decide +kernel
theorem dX9_ends_20 : decode cX9_ends 20 = .ok (.invokevirtual 43, 3) := by decide +kernel
theorem dX9_ends_23 : decode cX9_ends 23 = .ok (.ireturn, 1) := by decide +kernel
theorem dX9_ends_24 : decode cX9_ends 24 = .ok (.aload_n 0, 1) := by decide +kernel
theorem dX9_ends_25 : decode cX9_ends 25 = .ok (.invokevirtual 47, 3) := by decide +kernel
theorem dX9_ends_28 : decode cX9_ends 28 = .ok (.iload_n 1, 1) := by decide +kernel
theorem dX9_ends_29 : decode cX9_ends 29 = .ok (.ireturn, 1) := by decide +kernel
theorem dX9_isNumber_0 : decode cX9_isNumber 0 = .ok (.iload_n 0, 1) := by decide +kernel
theorem dX9_isNumber_1 : decode cX9_isNumber 1 = .ok (.iconst 2, 1) := by decide +kernel
theorem dX9_isNumber_2 : decode cX9_isNumber 2 = .ok (.bipush 60, 2) := by decide +kernel
theorem dX9_isNumber_4 : decode cX9_isNumber 4 = .ok (.invokestatic 50, 3) := by decide +kernel
theorem dX9_isNumber_7 : decode cX9_isNumber 7 = .ok (.ireturn, 1) := by decide +kernel
theorem dX9_root_0 : decode cX9_root 0 = .ok (.iconst 1, 1) := by decide +kernel
theorem dX9_root_1 : decode cX9_root 1 = .ok (.istore_n 1, 1) := by decide +kernel
theorem dX9_root_2 : decode cX9_root 2 = .ok (.iload_n 1, 1) := by decide +kernel
theorem dX9_root_3 : decode cX9_root 3 = .ok (.iconst 1, 1) := by decide +kernel
theorem dX9_root_4 : decode cX9_root 4 = .ok (.iadd, 1) := by decide +kernel
theorem dX9_root_5 : decode cX9_root 5 = .ok (.iload_n 1, 1) := by decide +kernel
theorem dX9_root_6 : decode cX9_root 6 = .ok (.iconst 1, 1) := by decide +kernel
theorem dX9_root_7 : decode cX9_root 7 = .ok (.iadd, 1) := by decide +kernel
theorem dX9_root_8 : decode cX9_root 8 = .ok (.imul, 1) := by decide +kernel
theorem dX9_root_9 : decode cX9_root 9 = .ok (.iload_n 0, 1) := by decide +kernel
theorem dX9_root_10 : decode cX9_root 10 = .ok (.if_icmp .gt 9, 3) := by decide +kernel
theorem dX9_root_13 : decode cX9_root 13 = .ok (.iinc 1 1, 3) := by decide +kernel
theorem dX9_root_16 : decode cX9_root 16 = .ok (.goto (-14), 3) := by decide +kernel
theorem dX9_root_19 : decode cX9_root 19 = .ok (.iload_n 1, 1) := by decide +kernel
theorem dX9_root_20 : decode cX9_root 20 = .ok (.ireturn, 1) := by decide +kernel
theorem dX9_isSquare_0 : decode cX9_isSquare 0 = .ok (.iload_n 0, 1) := by decide +kernel
theorem dX9_isSquare_1 : decode cX9_isSquare 1 = .ok (.invokestatic 54, 3) := by decide +kernel
theorem dX9_isSquare_4 : decode cX9_isSquare 4 = .ok (.iload_n 0, 1) := by decide +kernel
theorem dX9_isSquare_5 : decode cX9_isSquare 5 = .ok (.invokestatic 54, 3) := by decide +kernel
theorem dX9_isSquare_8 : decode cX9_isSquare 8 = .ok (.imul, 1) := by decide +kernel
theorem dX9_isSquare_9 : decode cX9_isSquare 9 = .ok (.iload_n 0, 1) := by decide +kernel
theorem dX9_isSquare_10 : decode cX9_isSquare 10 = .ok (.if_icmp .ne 7, 3) := by decide +kernel
theorem dX9_isSquare_13 : decode cX9_isSquare 13 = .ok (.iconst 1, 1) := by decide +kernel
theorem dX9_isSquare_14 : decode cX9_isSquare 14 = .ok (.goto 4, 3) := by decide +kernel
theorem dX9_isSquare_17 : decode cX9_isSquare 17 = .ok (.iconst 0, 1) := by decide +kernel
theorem dX9_isSquare_18 : decode cX9_isSquare 18 = .ok (.ireturn, 1) := by decide +kernel
theorem dX9_beginsTerms_0 : decode cX9_beginsTerms 0 = .ok (.aload_n 0, 1) := by decide +kernel
theorem dX9_beginsTerms_1 : decode cX9_beginsTerms 1 = .ok (.iconst 0, 1) := by decide +kernel
theorem dX9_beginsTerms_2 : decode cX9_beginsTerms 2 = .ok (.putfield 57, 3) := by decide +kernel
theorem dX9_beginsTerms_5 : decode cX9_beginsTerms 5 = .ok (.aload_n 0, 1) := by decide +kernel
theorem dX9_beginsTerms_6 : decode cX9_beginsTerms 6 = .ok (.iconst 1, 1) := by decide +kernel
theorem dX9_beginsTerms_7 : decode cX9_beginsTerms 7 = .ok (.putfield 60, 3) := by decide +kernel
theorem dX9_beginsTerms_10 : decode cX9_beginsTerms 10 = .ok (.aload_n 0, 1) := by decide +kernel
theorem dX9_beginsTerms_11 : decode cX9_beginsTerms 11 = .ok (.iload_n 1, 1) := by decide +kernel
theorem dX9_beginsTerms_12 : decode cX9_beginsTerms 12 = .ok (.invokestatic 54, 3) := by decide +kernel
theorem dX9_beginsTerms_15 : decode cX9_beginsTerms 15 = .ok (.putfield 63, 3) := by decide +kernel
theorem dX9_beginsTerms_18 : decode cX9_beginsTerms 18 = .ok (.aload_n 0, 1) := by decide +kernel
theorem dX9_beginsTerms_19 : decode cX9_beginsTerms 19 = .ok (.lconst 1, 1) := by decide +kernel
theorem dX9_beginsTerms_20 : decode cX9_beginsTerms 20 = .ok (.putfield 66, 3) := by decide +kernel
theorem dX9_beginsTerms_23 : decode cX9_beginsTerms 23 = .ok (.aload_n 0, 1) := by decide +kernel
theorem dX9_beginsTerms_24 : decode cX9_beginsTerms 24 = .ok (.lconst 0, 1) := by decide +kernel
theorem dX9_beginsTerms_25 : decode cX9_beginsTerms 25 = .ok (.putfield 70, 3) := by decide +kernel
theorem dX9_beginsTerms_28 : decode cX9_beginsTerms 28 = .ok (.aload_n 0, 1) := by decide +kernel
theorem dX9_beginsTerms_29 : decode cX9_beginsTerms 29 = .ok (.aload_n 0, 1) := by decide +kernel
theorem dX9_beginsTerms_30 : decode cX9_beginsTerms 30 = .ok (.getfield 63, 3) := by decide +kernel
theorem dX9_beginsTerms_33 : decode cX9_beginsTerms 33 = .ok (.i2l, 1) := by decide +kernel
theorem dX9_beginsTerms_34 : decode cX9_beginsTerms 34 = .ok (.putfield 73, 3) := by decide +kernel
theorem dX9_beginsTerms_37 : decode cX9_beginsTerms 37 = .ok (.aload_n 0, 1) := by decide +kernel
theorem dX9_beginsTerms_38 : decode cX9_beginsTerms 38 = .ok (.lconst 1, 1) := by decide +kernel
theorem dX9_beginsTerms_39 : decode cX9_beginsTerms 39 = .ok (.putfield 76, 3) := by decide +kernel
theorem dX9_beginsTerms_42 : decode cX9_beginsTerms 42 = .ok (.return_, 1) := by decide +kernel
theorem dX9_nextTerm_0 : decode cX9_nextTerm 0 = .ok (.aload_n 0, 1) := by decide +kernel
theorem dX9_nextTerm_1 : decode cX9_nextTerm 1 = .ok (.aload_n 0, 1) := by decide +kernel
theorem dX9_nextTerm_2 : decode cX9_nextTerm 2 = .ok (.getfield 60, 3) := by decide +kernel
theorem dX9_nextTerm_5 : decode cX9_nextTerm 5 = .ok (.aload_n 0, 1) := by decide +kernel
theorem dX9_nextTerm_6 : decode cX9_nextTerm 6 = .ok (.getfield 63, 3) := by decide +kernel
theorem dX9_nextTerm_9 : decode cX9_nextTerm 9 = .ok (.imul, 1) := by decide +kernel
theorem dX9_nextTerm_10 : decode cX9_nextTerm 10 = .ok (.aload_n 0, 1) := by decide +kernel
theorem dX9_nextTerm_11 : decode cX9_nextTerm 11 = .ok (.getfield 57, 3) := by decide +kernel
theorem dX9_nextTerm_14 : decode cX9_nextTerm 14 = .ok (.isub, 1) := by decide +kernel
theorem dX9_nextTerm_15 : decode cX9_nextTerm 15 = .ok (.putfield 57, 3) := by decide +kernel
theorem dX9_nextTerm_18 : decode cX9_nextTerm 18 = .ok (.aload_n 0, 1) := by decide +kernel
theorem dX9_nextTerm_19 : decode cX9_nextTerm 19 = .ok (.iload_n 1, 1) := by decide +kernel
theorem dX9_nextTerm_20 : decode cX9_nextTerm 20 = .ok (.aload_n 0, 1) := by decide +kernel
theorem dX9_nextTerm_21 : decode cX9_nextTerm 21 = .ok (.getfield 57, 3) := by decide +kernel
theorem dX9_nextTerm_24 : decode cX9_nextTerm 24 = .ok (.aload_n 0, 1) := by decide +kernel
theorem dX9_nextTerm_25 : decode cX9_nextTerm 25 = .ok (.getfield 57, 3) := by decide +kernel
theorem dX9_nextTerm_28 : decode cX9_nextTerm 28 = .ok (.imul, 1) := by decide +kernel
theorem dX9_nextTerm_29 : decode cX9_nextTerm 29 = .ok (.isub, 1) := by decide +kernel
theorem dX9_nextTerm_30 : decode cX9_nextTerm 30 = .ok (.aload_n 0, 1) := by decide +kernel
theorem dX9_nextTerm_31 : decode cX9_nextTerm 31 = .ok (.getfield 60, 3) := by decide +kernel
theorem dX9_nextTerm_34 : decode cX9_nextTerm 34 = .ok (.idiv, 1) := by decide +kernel
theorem dX9_nextTerm_35 : decode cX9_nextTerm 35 = .ok (.putfield 60, 3) := by decide +kernel
theorem dX9_nextTerm_38 : decode cX9_nextTerm 38 = .ok (.aload_n 0, 1) := by decide +kernel
theorem dX9_nextTerm_39 : decode cX9_nextTerm 39 = .ok (.iload_n 1, 1) := by decide +kernel
theorem dX9_nextTerm_40 : decode cX9_nextTerm 40 = .ok (.invokestatic 54, 3) := by decide +kernel
theorem dX9_nextTerm_43 : decode cX9_nextTerm 43 = .ok (.aload_n 0, 1) := by decide +kernel
theorem dX9_nextTerm_44 : decode cX9_nextTerm 44 = .ok (.getfield 57, 3) := by decide +kernel
theorem dX9_nextTerm_47 : decode cX9_nextTerm 47 = .ok (.iadd, 1) := by decide +kernel
theorem dX9_nextTerm_48 : decode cX9_nextTerm 48 = .ok (.aload_n 0, 1) := by decide +kernel
theorem dX9_nextTerm_49 : decode cX9_nextTerm 49 = .ok (.getfield 60, 3) := by decide +kernel
theorem dX9_nextTerm_52 : decode cX9_nextTerm 52 = .ok (.idiv, 1) := by decide +kernel
theorem dX9_nextTerm_53 : decode cX9_nextTerm 53 = .ok (.putfield 63, 3) := by decide +kernel
theorem dX9_nextTerm_56 : decode cX9_nextTerm 56 = .ok (.return_, 1) := by decide +kernel
theorem dX9_adds_0 : decode cX9_adds 0 = .ok (.aload_n 0, 1) := by decide +kernel
theorem dX9_adds_1 : decode cX9_adds 1 = .ok (.getfield 63, 3) := by decide +kernel
theorem dX9_adds_4 : decode cX9_adds 4 = .ok (.i2l, 1) := by decide +kernel
theorem dX9_adds_5 : decode cX9_adds 5 = .ok (.aload_n 0, 1) := by decide +kernel
theorem dX9_adds_6 : decode cX9_adds 6 = .ok (.getfield 73, 3) := by decide +kernel
theorem dX9_adds_9 : decode cX9_adds 9 = .ok (.lmul, 1) := by decide +kernel
theorem dX9_adds_10 : decode cX9_adds 10 = .ok (.aload_n 0, 1) := by decide +kernel
theorem dX9_adds_11 : decode cX9_adds 11 = .ok (.getfield 66, 3) := by decide +kernel
theorem dX9_adds_14 : decode cX9_adds 14 = .ok (.ladd, 1) := by decide +kernel
theorem dX9_adds_15 : decode cX9_adds 15 = .ok (.lstore_n 1, 1) := by decide +kernel
theorem dX9_adds_16 : decode cX9_adds 16 = .ok (.aload_n 0, 1) := by decide +kernel
theorem dX9_adds_17 : decode cX9_adds 17 = .ok (.getfield 63, 3) := by decide +kernel
theorem dX9_adds_20 : decode cX9_adds 20 = .ok (.i2l, 1) := by decide +kernel
theorem dX9_adds_21 : decode cX9_adds 21 = .ok (.aload_n 0, 1) := by decide +kernel
theorem dX9_adds_22 : decode cX9_adds 22 = .ok (.getfield 76, 3) := by decide +kernel
theorem dX9_adds_25 : decode cX9_adds 25 = .ok (.lmul, 1) := by decide +kernel
theorem dX9_adds_26 : decode cX9_adds 26 = .ok (.aload_n 0, 1) := by decide +kernel
theorem dX9_adds_27 : decode cX9_adds 27 = .ok (.getfield 70, 3) := by decide +kernel
theorem dX9_adds_30 : decode cX9_adds 30 = .ok (.ladd, 1) := by decide +kernel
theorem dX9_adds_31 : decode cX9_adds 31 = .ok (.lstore_n 3, 1) := by decide +kernel
theorem dX9_adds_32 : decode cX9_adds 32 = .ok (.aload_n 0, 1) := by decide +kernel
theorem dX9_adds_33 : decode cX9_adds 33 = .ok (.aload_n 0, 1) := by decide +kernel
theorem dX9_adds_34 : decode cX9_adds 34 = .ok (.getfield 73, 3) := by decide +kernel
theorem dX9_adds_37 : decode cX9_adds 37 = .ok (.putfield 66, 3) := by decide +kernel
theorem dX9_adds_40 : decode cX9_adds 40 = .ok (.aload_n 0, 1) := by decide +kernel
theorem dX9_adds_41 : decode cX9_adds 41 = .ok (.aload_n 0, 1) := by decide +kernel
theorem dX9_adds_42 : decode cX9_adds 42 = .ok (.getfield 76, 3) := by decide +kernel
theorem dX9_adds_45 : decode cX9_adds 45 = .ok (.putfield 70, 3) := by decide +kernel
theorem dX9_adds_48 : decode cX9_adds 48 = .ok (.aload_n 0, 1) := by decide +kernel
theorem dX9_adds_49 : decode cX9_adds 49 = .ok (.lload_n 1, 1) := by decide +kernel
theorem dX9_adds_50 : decode cX9_adds 50 = .ok (.putfield 73, 3) := by decide +kernel
theorem dX9_adds_53 : decode cX9_adds 53 = .ok (.aload_n 0, 1) := by decide +kernel
theorem dX9_adds_54 : decode cX9_adds 54 = .ok (.lload_n 3, 1) := by decide +kernel
theorem dX9_adds_55 : decode cX9_adds 55 = .ok (.putfield 76, 3) := by decide +kernel
theorem dX9_adds_58 : decode cX9_adds 58 = .ok (.return_, 1) := by decide +kernel
theorem dX9_period_0 : decode cX9_period 0 = .ok (.aload_n 0, 1) := by decide +kernel
theorem dX9_period_1 : decode cX9_period 1 = .ok (.iload_n 1, 1) := by decide +kernel
theorem dX9_period_2 : decode cX9_period 2 = .ok (.invokevirtual 79, 3) := by decide +kernel
theorem dX9_period_5 : decode cX9_period 5 = .ok (.iconst 1, 1) := by decide +kernel
theorem dX9_period_6 : decode cX9_period 6 = .ok (.istore_n 2, 1) := by decide +kernel
theorem dX9_period_7 : decode cX9_period 7 = .ok (.aload_n 0, 1) := by decide +kernel
theorem dX9_period_8 : decode cX9_period 8 = .ok (.iload_n 1, 1) := by decide +kernel
theorem dX9_period_9 : decode cX9_period 9 = .ok (.invokevirtual 83, 3) := by decide +kernel
theorem dX9_period_12 : decode cX9_period 12 = .ok (.aload_n 0, 1) := by decide +kernel
theorem dX9_period_13 : decode cX9_period 13 = .ok (.getfield 63, 3) := by decide +kernel
theorem dX9_period_16 : decode cX9_period 16 = .ok (.iconst 2, 1) := by decide +kernel
theorem dX9_period_17 : decode cX9_period 17 = .ok (.iload_n 1, 1) := by decide +kernel
theorem dX9_period_18 : decode cX9_period 18 = .ok (.invokestatic 54, 3) := by decide +kernel
theorem dX9_period_21 : decode cX9_period 21 = .ok (.imul, 1) := by decide +kernel
theorem dX9_period_22 : decode cX9_period 22 = .ok (.if_icmp .eq 18, 3) := by decide +kernel
theorem dX9_period_25 : decode cX9_period 25 = .ok (.aload_n 0, 1) := by decide +kernel
theorem dX9_period_26 : decode cX9_period 26 = .ok (.invokevirtual 86, 3) := by decide +kernel
theorem dX9_period_29 : decode cX9_period 29 = .ok (.aload_n 0, 1) := by decide +kernel
theorem dX9_period_30 : decode cX9_period 30 = .ok (.iload_n 1, 1) := by decide +kernel
theorem dX9_period_31 : decode cX9_period 31 = .ok (.invokevirtual 83, 3) := by decide +kernel
theorem dX9_period_34 : decode cX9_period 34 = .ok (.iinc 2 1, 3) := by decide +kernel
theorem dX9_period_37 : decode cX9_period 37 = .ok (.goto (-25), 3) := by decide +kernel
theorem dX9_period_40 : decode cX9_period 40 = .ok (.iload_n 2, 1) := by decide +kernel
theorem dX9_period_41 : decode cX9_period 41 = .ok (.ireturn, 1) := by decide +kernel
theorem dX9_stand_0 : decode cX9_stand 0 = .ok (.aload_n 0, 1) := by decide +kernel
theorem dX9_stand_1 : decode cX9_stand 1 = .ok (.getfield 7, 3) := by decide +kernel
theorem dX9_stand_4 : decode cX9_stand 4 = .ok (.iconst 0, 1) := by decide +kernel
theorem dX9_stand_5 : decode cX9_stand 5 = .ok (.iload_n 1, 1) := by decide +kernel
theorem dX9_stand_6 : decode cX9_stand 6 = .ok (.iadd, 1) := by decide +kernel
theorem dX9_stand_7 : decode cX9_stand 7 = .ok (.iconst 2, 1) := by decide +kernel
theorem dX9_stand_8 : decode cX9_stand 8 = .ok (.isub, 1) := by decide +kernel
theorem dX9_stand_9 : decode cX9_stand 9 = .ok (.iaload, 1) := by decide +kernel
theorem dX9_stand_10 : decode cX9_stand 10 = .ok (.iconst 1, 1) := by decide +kernel
theorem dX9_stand_11 : decode cX9_stand 11 = .ok (.isub, 1) := by decide +kernel
theorem dX9_stand_12 : decode cX9_stand 12 = .ok (.ireturn, 1) := by decide +kernel
theorem dX9_puts_0 : decode cX9_puts 0 = .ok (.aload_n 0, 1) := by decide +kernel
theorem dX9_puts_1 : decode cX9_puts 1 = .ok (.getfield 7, 3) := by decide +kernel
theorem dX9_puts_4 : decode cX9_puts 4 = .ok (.iconst 0, 1) := by decide +kernel
theorem dX9_puts_5 : decode cX9_puts 5 = .ok (.iload_n 1, 1) := by decide +kernel
theorem dX9_puts_6 : decode cX9_puts 6 = .ok (.iadd, 1) := by decide +kernel
theorem dX9_puts_7 : decode cX9_puts 7 = .ok (.iconst 2, 1) := by decide +kernel
theorem dX9_puts_8 : decode cX9_puts 8 = .ok (.isub, 1) := by decide +kernel
theorem dX9_puts_9 : decode cX9_puts 9 = .ok (.iload_n 2, 1) := by decide +kernel
theorem dX9_puts_10 : decode cX9_puts 10 = .ok (.iconst 1, 1) := by decide +kernel
theorem dX9_puts_11 : decode cX9_puts 11 = .ok (.iadd, 1) := by decide +kernel
theorem dX9_puts_12 : decode cX9_puts 12 = .ok (.iastore, 1) := by decide +kernel
theorem dX9_puts_13 : decode cX9_puts 13 = .ok (.return_, 1) := by decide +kernel
theorem dX9_many_0 : decode cX9_many 0 = .ok (.iconst 0, 1) := by decide +kernel
theorem dX9_many_1 : decode cX9_many 1 = .ok (.istore_n 1, 1) := by decide +kernel
theorem dX9_many_2 : decode cX9_many 2 = .ok (.iconst 2, 1) := by decide +kernel
theorem dX9_many_3 : decode cX9_many 3 = .ok (.istore_n 2, 1) := by decide +kernel
theorem dX9_many_4 : decode cX9_many 4 = .ok (.iload_n 2, 1) := by decide +kernel
theorem dX9_many_5 : decode cX9_many 5 = .ok (.bipush 60, 2) := by decide +kernel
theorem dX9_many_7 : decode cX9_many 7 = .ok (.if_icmp .gt 25, 3) := by decide +kernel
theorem dX9_many_10 : decode cX9_many 10 = .ok (.iload_n 1, 1) := by decide +kernel
theorem dX9_many_11 : decode cX9_many 11 = .ok (.aload_n 0, 1) := by decide +kernel
theorem dX9_many_12 : decode cX9_many 12 = .ok (.iload_n 2, 1) := by decide +kernel
theorem dX9_many_13 : decode cX9_many 13 = .ok (.invokevirtual 89, 3) := by decide +kernel
theorem dX9_many_16 : decode cX9_many 16 = .ok (.ifCond .lt 7, 3) := by decide +kernel
theorem dX9_many_19 : decode cX9_many 19 = .ok (.iconst 1, 1) := by decide +kernel
theorem dX9_many_20 : decode cX9_many 20 = .ok (.goto 4, 3) := by decide +kernel
theorem dX9_many_23 : decode cX9_many 23 = .ok (.iconst 0, 1) := by decide +kernel
theorem dX9_many_24 : decode cX9_many 24 = .ok (.iadd, 1) := by decide +kernel
theorem dX9_many_25 : decode cX9_many 25 = .ok (.istore_n 1, 1) := by decide +kernel
theorem dX9_many_26 : decode cX9_many 26 = .ok (.iinc 2 1, 3) := by decide +kernel
theorem dX9_many_29 : decode cX9_many 29 = .ok (.goto (-25), 3) := by decide +kernel
theorem dX9_many_32 : decode cX9_many 32 = .ok (.iload_n 1, 1) := by decide +kernel
theorem dX9_many_33 : decode cX9_many 33 = .ok (.ireturn, 1) := by decide +kernel
theorem dX9_beginsPowers_0 : decode cX9_beginsPowers 0 = .ok (.aload_n 0, 1) := by decide +kernel
theorem dX9_beginsPowers_1 : decode cX9_beginsPowers 1 = .ok (.aload_n 0, 1) := by decide +kernel
theorem dX9_beginsPowers_2 : decode cX9_beginsPowers 2 = .ok (.iload_n 1, 1) := by decide +kernel
theorem dX9_beginsPowers_3 : decode cX9_beginsPowers 3 = .ok (.invokevirtual 92, 3) := by decide +kernel
theorem dX9_beginsPowers_6 : decode cX9_beginsPowers 6 = .ok (.iconst 2, 1) := by decide +kernel
theorem dX9_beginsPowers_7 : decode cX9_beginsPowers 7 = .ok (.irem, 1) := by decide +kernel
theorem dX9_beginsPowers_8 : decode cX9_beginsPowers 8 = .ok (.ifCond .ne 7, 3) := by decide +kernel
theorem dX9_beginsPowers_11 : decode cX9_beginsPowers 11 = .ok (.iconst 1, 1) := by decide +kernel
theorem dX9_beginsPowers_12 : decode cX9_beginsPowers 12 = .ok (.goto 4, 3) := by decide +kernel
theorem dX9_beginsPowers_15 : decode cX9_beginsPowers 15 = .ok (.iconst (-1), 1) := by decide +kernel
theorem dX9_beginsPowers_16 : decode cX9_beginsPowers 16 = .ok (.putfield 95, 3) := by decide +kernel
theorem dX9_beginsPowers_19 : decode cX9_beginsPowers 19 = .ok (.aload_n 0, 1) := by decide +kernel
theorem dX9_beginsPowers_20 : decode cX9_beginsPowers 20 = .ok (.aload_n 0, 1) := by decide +kernel
theorem dX9_beginsPowers_21 : decode cX9_beginsPowers 21 = .ok (.getfield 73, 3) := by decide +kernel
theorem dX9_beginsPowers_24 : decode cX9_beginsPowers 24 = .ok (.putfield 98, 3) := by decide +kernel
theorem dX9_beginsPowers_27 : decode cX9_beginsPowers 27 = .ok (.aload_n 0, 1) := by decide +kernel
theorem dX9_beginsPowers_28 : decode cX9_beginsPowers 28 = .ok (.aload_n 0, 1) := by decide +kernel
theorem dX9_beginsPowers_29 : decode cX9_beginsPowers 29 = .ok (.getfield 76, 3) := by decide +kernel
theorem dX9_beginsPowers_32 : decode cX9_beginsPowers 32 = .ok (.putfield 101, 3) := by decide +kernel
theorem dX9_beginsPowers_35 : decode cX9_beginsPowers 35 = .ok (.aload_n 0, 1) := by decide +kernel
theorem dX9_beginsPowers_36 : decode cX9_beginsPowers 36 = .ok (.lconst 1, 1) := by decide +kernel
theorem dX9_beginsPowers_37 : decode cX9_beginsPowers 37 = .ok (.putfield 104, 3) := by decide +kernel
theorem dX9_beginsPowers_40 : decode cX9_beginsPowers 40 = .ok (.aload_n 0, 1) := by decide +kernel
theorem dX9_beginsPowers_41 : decode cX9_beginsPowers 41 = .ok (.lconst 0, 1) := by decide +kernel
theorem dX9_beginsPowers_42 : decode cX9_beginsPowers 42 = .ok (.putfield 107, 3) := by decide +kernel
theorem dX9_beginsPowers_45 : decode cX9_beginsPowers 45 = .ok (.return_, 1) := by decide +kernel
theorem dX9_grows_0 : decode cX9_grows 0 = .ok (.aload_n 0, 1) := by decide +kernel
theorem dX9_grows_1 : decode cX9_grows 1 = .ok (.getfield 104, 3) := by decide +kernel
theorem dX9_grows_4 : decode cX9_grows 4 = .ok (.ldc2_w 110, 3) := by decide +kernel
theorem dX9_grows_7 : decode cX9_grows 7 = .ok (.aload_n 0, 1) := by decide +kernel
theorem dX9_grows_8 : decode cX9_grows 8 = .ok (.getfield 98, 3) := by decide +kernel
theorem dX9_grows_11 : decode cX9_grows 11 = .ok (.ldiv, 1) := by decide +kernel
theorem dX9_grows_12 : decode cX9_grows 12 = .ok (.lcmp, 1) := by decide +kernel
theorem dX9_grows_13 : decode cX9_grows 13 = .ok (.ifCond .le 5, 3) := by decide +kernel
theorem dX9_grows_16 : decode cX9_grows 16 = .ok (.iconst 0, 1) := by decide +kernel
theorem dX9_grows_17 : decode cX9_grows 17 = .ok (.ireturn, 1) := by decide +kernel
theorem dX9_grows_18 : decode cX9_grows 18 = .ok (.aload_n 0, 1) := by decide +kernel
theorem dX9_grows_19 : decode cX9_grows 19 = .ok (.getfield 104, 3) := by decide +kernel
theorem dX9_grows_22 : decode cX9_grows 22 = .ok (.aload_n 0, 1) := by decide +kernel
theorem dX9_grows_23 : decode cX9_grows 23 = .ok (.getfield 98, 3) := by decide +kernel
theorem dX9_grows_26 : decode cX9_grows 26 = .ok (.lmul, 1) := by decide +kernel
theorem dX9_grows_27 : decode cX9_grows 27 = .ok (.iload_n 1, 1) := by decide +kernel
theorem dX9_grows_28 : decode cX9_grows 28 = .ok (.i2l, 1) := by decide +kernel
theorem dX9_grows_29 : decode cX9_grows 29 = .ok (.aload_n 0, 1) := by decide +kernel
theorem dX9_grows_30 : decode cX9_grows 30 = .ok (.getfield 107, 3) := by decide +kernel
theorem dX9_grows_33 : decode cX9_grows 33 = .ok (.lmul, 1) := by decide +kernel
theorem dX9_grows_34 : decode cX9_grows 34 = .ok (.aload_n 0, 1) := by decide +kernel
theorem dX9_grows_35 : decode cX9_grows 35 = .ok (.getfield 101, 3) := by decide +kernel
theorem dX9_grows_38 : decode cX9_grows 38 = .ok (.lmul, 1) := by decide +kernel
theorem dX9_grows_39 : decode cX9_grows 39 = .ok (.ladd, 1) := by decide +kernel
theorem dX9_grows_40 : decode cX9_grows 40 = .ok (.lstore_n 2, 1) := by decide +kernel
theorem dX9_grows_41 : decode cX9_grows 41 = .ok (.lload_n 2, 1) := by decide +kernel
theorem dX9_grows_42 : decode cX9_grows 42 = .ok (.ldc2_w 110, 3) := by decide +kernel
theorem dX9_grows_45 : decode cX9_grows 45 = .ok (.lcmp, 1) := by decide +kernel
theorem dX9_grows_46 : decode cX9_grows 46 = .ok (.ifCond .le 5, 3) := by decide +kernel
theorem dX9_grows_49 : decode cX9_grows 49 = .ok (.iconst 0, 1) := by decide +kernel
theorem dX9_grows_50 : decode cX9_grows 50 = .ok (.ireturn, 1) := by decide +kernel
theorem dX9_grows_51 : decode cX9_grows 51 = .ok (.aload_n 0, 1) := by decide +kernel
theorem dX9_grows_52 : decode cX9_grows 52 = .ok (.aload_n 0, 1) := by decide +kernel
theorem dX9_grows_53 : decode cX9_grows 53 = .ok (.getfield 104, 3) := by decide +kernel
theorem dX9_grows_56 : decode cX9_grows 56 = .ok (.aload_n 0, 1) := by decide +kernel
theorem dX9_grows_57 : decode cX9_grows 57 = .ok (.getfield 101, 3) := by decide +kernel
theorem dX9_grows_60 : decode cX9_grows 60 = .ok (.lmul, 1) := by decide +kernel
theorem dX9_grows_61 : decode cX9_grows 61 = .ok (.aload_n 0, 1) := by decide +kernel
theorem dX9_grows_62 : decode cX9_grows 62 = .ok (.getfield 107, 3) := by decide +kernel
theorem dX9_grows_65 : decode cX9_grows 65 = .ok (.aload_n 0, 1) := by decide +kernel
theorem dX9_grows_66 : decode cX9_grows 66 = .ok (.getfield 98, 3) := by decide +kernel
theorem dX9_grows_69 : decode cX9_grows 69 = .ok (.lmul, 1) := by decide +kernel
theorem dX9_grows_70 : decode cX9_grows 70 = .ok (.ladd, 1) := by decide +kernel
theorem dX9_grows_71 : decode cX9_grows 71 = .ok (.putfield 107, 3) := by decide +kernel
theorem dX9_grows_74 : decode cX9_grows 74 = .ok (.aload_n 0, 1) := by decide +kernel
theorem dX9_grows_75 : decode cX9_grows 75 = .ok (.lload_n 2, 1) := by decide +kernel
theorem dX9_grows_76 : decode cX9_grows 76 = .ok (.putfield 104, 3) := by decide +kernel
theorem dX9_grows_79 : decode cX9_grows 79 = .ok (.iconst 1, 1) := by decide +kernel
theorem dX9_grows_80 : decode cX9_grows 80 = .ok (.ireturn, 1) := by decide +kernel
theorem dX9_reaches_0 : decode cX9_reaches 0 = .ok (.aload_n 0, 1) := by decide +kernel
theorem dX9_reaches_1 : decode cX9_reaches 1 = .ok (.iload_n 1, 1) := by decide +kernel
theorem dX9_reaches_2 : decode cX9_reaches 2 = .ok (.invokevirtual 112, 3) := by decide +kernel
theorem dX9_reaches_5 : decode cX9_reaches 5 = .ok (.iload_n 2, 1) := by decide +kernel
theorem dX9_reaches_6 : decode cX9_reaches 6 = .ok (.istore_n 3, 1) := by decide +kernel
theorem dX9_reaches_7 : decode cX9_reaches 7 = .ok (.iload_n 3, 1) := by decide +kernel
theorem dX9_reaches_8 : decode cX9_reaches 8 = .ok (.ifCond .le 17, 3) := by decide +kernel
theorem dX9_reaches_11 : decode cX9_reaches 11 = .ok (.aload_n 0, 1) := by decide +kernel
theorem dX9_reaches_12 : decode cX9_reaches 12 = .ok (.iload_n 1, 1) := by decide +kernel
theorem dX9_reaches_13 : decode cX9_reaches 13 = .ok (.invokevirtual 115, 3) := by decide +kernel
theorem dX9_reaches_16 : decode cX9_reaches 16 = .ok (.ifCond .eq 9, 3) := by decide +kernel
theorem dX9_reaches_19 : decode cX9_reaches 19 = .ok (.iinc 3 (-1), 3) := by decide +kernel
theorem dX9_reaches_22 : decode cX9_reaches 22 = .ok (.goto (-15), 3) := by decide +kernel
theorem dX9_reaches_25 : decode cX9_reaches 25 = .ok (.return_, 1) := by decide +kernel
theorem dX9_reason_0 : decode cX9_reason 0 = .ok (.iload_n 1, 1) := by decide +kernel
theorem dX9_reason_1 : decode cX9_reason 1 = .ok (.invokestatic 119, 3) := by decide +kernel
theorem dX9_reason_4 : decode cX9_reason 4 = .ok (.ifCond .eq 7, 3) := by decide +kernel
theorem dX9_reason_7 : decode cX9_reason 7 = .ok (.iconst 1, 1) := by decide +kernel
theorem dX9_reason_8 : decode cX9_reason 8 = .ok (.goto 29, 3) := by decide +kernel
theorem dX9_reason_11 : decode cX9_reason 11 = .ok (.aload_n 0, 1) := by decide +kernel
theorem dX9_reason_12 : decode cX9_reason 12 = .ok (.iload_n 1, 1) := by decide +kernel
theorem dX9_reason_13 : decode cX9_reason 13 = .ok (.invokevirtual 89, 3) := by decide +kernel
theorem dX9_reason_16 : decode cX9_reason 16 = .ok (.ifCond .lt 7, 3) := by decide +kernel
theorem dX9_reason_19 : decode cX9_reason 19 = .ok (.iconst 2, 1) := by decide +kernel
theorem dX9_reason_20 : decode cX9_reason 20 = .ok (.goto 17, 3) := by decide +kernel
theorem dX9_reason_23 : decode cX9_reason 23 = .ok (.aload_n 0, 1) := by decide +kernel
theorem dX9_reason_24 : decode cX9_reason 24 = .ok (.invokevirtual 122, 3) := by decide +kernel
theorem dX9_reason_27 : decode cX9_reason 27 = .ok (.bipush 8, 2) := by decide +kernel
theorem dX9_reason_29 : decode cX9_reason 29 = .ok (.if_icmp .ne 7, 3) := by decide +kernel
theorem dX9_reason_32 : decode cX9_reason 32 = .ok (.iconst 3, 1) := by decide +kernel
theorem dX9_reason_33 : decode cX9_reason 33 = .ok (.goto 4, 3) := by decide +kernel
theorem dX9_reason_36 : decode cX9_reason 36 = .ok (.iconst 0, 1) := by decide +kernel
theorem dX9_reason_37 : decode cX9_reason 37 = .ok (.ireturn, 1) := by decide +kernel
theorem dX9_goLay_0 : decode cX9_goLay 0 = .ok (.iload_n 1, 1) := by decide +kernel
theorem dX9_goLay_1 : decode cX9_goLay 1 = .ok (.invokestatic 126, 3) := by decide +kernel
theorem dX9_goLay_4 : decode cX9_goLay 4 = .ok (.ifCond .ne 6, 3) := by decide +kernel
theorem dX9_goLay_7 : decode cX9_goLay 7 = .ok (.bipush (-11), 2) := by decide +kernel
theorem dX9_goLay_9 : decode cX9_goLay 9 = .ok (.ireturn, 1) := by decide +kernel
theorem dX9_goLay_10 : decode cX9_goLay 10 = .ok (.aload_n 0, 1) := by decide +kernel
theorem dX9_goLay_11 : decode cX9_goLay 11 = .ok (.iload_n 1, 1) := by decide +kernel
theorem dX9_goLay_12 : decode cX9_goLay 12 = .ok (.invokevirtual 129, 3) := by decide +kernel
theorem dX9_goLay_15 : decode cX9_goLay 15 = .ok (.ifCond .le 6, 3) := by decide +kernel
theorem dX9_goLay_18 : decode cX9_goLay 18 = .ok (.bipush (-12), 2) := by decide +kernel
theorem dX9_goLay_20 : decode cX9_goLay 20 = .ok (.ireturn, 1) := by decide +kernel
theorem dX9_goLay_21 : decode cX9_goLay 21 = .ok (.aload_n 0, 1) := by decide +kernel
theorem dX9_goLay_22 : decode cX9_goLay 22 = .ok (.iload_n 1, 1) := by decide +kernel
theorem dX9_goLay_23 : decode cX9_goLay 23 = .ok (.iconst 0, 1) := by decide +kernel
theorem dX9_goLay_24 : decode cX9_goLay 24 = .ok (.invokevirtual 132, 3) := by decide +kernel
theorem dX9_goLay_27 : decode cX9_goLay 27 = .ok (.aload_n 0, 1) := by decide +kernel
theorem dX9_goLay_28 : decode cX9_goLay 28 = .ok (.invokevirtual 122, 3) := by decide +kernel
theorem dX9_goLay_31 : decode cX9_goLay 31 = .ok (.ireturn, 1) := by decide +kernel
theorem dX9_goTake_0 : decode cX9_goTake 0 = .ok (.iload_n 1, 1) := by decide +kernel
theorem dX9_goTake_1 : decode cX9_goTake 1 = .ok (.invokestatic 126, 3) := by decide +kernel
theorem dX9_goTake_4 : decode cX9_goTake 4 = .ok (.ifCond .ne 6, 3) := by decide +kernel
theorem dX9_goTake_7 : decode cX9_goTake 7 = .ok (.bipush (-11), 2) := by decide +kernel
theorem dX9_goTake_9 : decode cX9_goTake 9 = .ok (.ireturn, 1) := by decide +kernel
theorem dX9_goTake_10 : decode cX9_goTake 10 = .ok (.aload_n 0, 1) := by decide +kernel
theorem dX9_goTake_11 : decode cX9_goTake 11 = .ok (.iload_n 1, 1) := by decide +kernel
theorem dX9_goTake_12 : decode cX9_goTake 12 = .ok (.invokevirtual 89, 3) := by decide +kernel
theorem dX9_goTake_15 : decode cX9_goTake 15 = .ok (.istore_n 2, 1) := by decide +kernel
theorem dX9_goTake_16 : decode cX9_goTake 16 = .ok (.iload_n 2, 1) := by decide +kernel
theorem dX9_goTake_17 : decode cX9_goTake 17 = .ok (.ifCond .ge 6, 3) := by decide +kernel
theorem dX9_goTake_20 : decode cX9_goTake 20 = .ok (.bipush (-12), 2) := by decide +kernel
theorem dX9_goTake_22 : decode cX9_goTake 22 = .ok (.ireturn, 1) := by decide +kernel
theorem dX9_goTake_23 : decode cX9_goTake 23 = .ok (.aload_n 0, 1) := by decide +kernel
theorem dX9_goTake_24 : decode cX9_goTake 24 = .ok (.iload_n 1, 1) := by decide +kernel
theorem dX9_goTake_25 : decode cX9_goTake 25 = .ok (.iconst (-1), 1) := by decide +kernel
theorem dX9_goTake_26 : decode cX9_goTake 26 = .ok (.invokevirtual 132, 3) := by decide +kernel
theorem dX9_goTake_29 : decode cX9_goTake 29 = .ok (.iload_n 2, 1) := by decide +kernel
theorem dX9_goTake_30 : decode cX9_goTake 30 = .ok (.ireturn, 1) := by decide +kernel
theorem dX9_goMill_0 : decode cX9_goMill 0 = .ok (.iload_n 1, 1) := by decide +kernel
theorem dX9_goMill_1 : decode cX9_goMill 1 = .ok (.invokestatic 126, 3) := by decide +kernel
theorem dX9_goMill_4 : decode cX9_goMill 4 = .ok (.ifCond .ne 6, 3) := by decide +kernel
theorem dX9_goMill_7 : decode cX9_goMill 7 = .ok (.bipush (-11), 2) := by decide +kernel
theorem dX9_goMill_9 : decode cX9_goMill 9 = .ok (.ireturn, 1) := by decide +kernel
theorem dX9_goMill_10 : decode cX9_goMill 10 = .ok (.aload_n 0, 1) := by decide +kernel
theorem dX9_goMill_11 : decode cX9_goMill 11 = .ok (.iload_n 1, 1) := by decide +kernel
theorem dX9_goMill_12 : decode cX9_goMill 12 = .ok (.invokevirtual 89, 3) := by decide +kernel
theorem dX9_goMill_15 : decode cX9_goMill 15 = .ok (.istore_n 2, 1) := by decide +kernel
theorem dX9_goMill_16 : decode cX9_goMill 16 = .ok (.iload_n 2, 1) := by decide +kernel
theorem dX9_goMill_17 : decode cX9_goMill 17 = .ok (.ifCond .ge 6, 3) := by decide +kernel
theorem dX9_goMill_20 : decode cX9_goMill 20 = .ok (.bipush (-12), 2) := by decide +kernel
theorem dX9_goMill_22 : decode cX9_goMill 22 = .ok (.ireturn, 1) := by decide +kernel
theorem dX9_goMill_23 : decode cX9_goMill 23 = .ok (.aload_n 0, 1) := by decide +kernel
theorem dX9_goMill_24 : decode cX9_goMill 24 = .ok (.iload_n 1, 1) := by decide +kernel
theorem dX9_goMill_25 : decode cX9_goMill 25 = .ok (.iload_n 2, 1) := by decide +kernel
theorem dX9_goMill_26 : decode cX9_goMill 26 = .ok (.invokevirtual 136, 3) := by decide +kernel
theorem dX9_goMill_29 : decode cX9_goMill 29 = .ok (.aload_n 0, 1) := by decide +kernel
theorem dX9_goMill_30 : decode cX9_goMill 30 = .ok (.iload_n 1, 1) := by decide +kernel
theorem dX9_goMill_31 : decode cX9_goMill 31 = .ok (.invokevirtual 115, 3) := by decide +kernel
theorem dX9_goMill_34 : decode cX9_goMill 34 = .ok (.ifCond .ne 6, 3) := by decide +kernel
theorem dX9_goMill_37 : decode cX9_goMill 37 = .ok (.bipush (-12), 2) := by decide +kernel
theorem dX9_goMill_39 : decode cX9_goMill 39 = .ok (.ireturn, 1) := by decide +kernel
theorem dX9_goMill_40 : decode cX9_goMill 40 = .ok (.aload_n 0, 1) := by decide +kernel
theorem dX9_goMill_41 : decode cX9_goMill 41 = .ok (.iload_n 1, 1) := by decide +kernel
theorem dX9_goMill_42 : decode cX9_goMill 42 = .ok (.iload_n 2, 1) := by decide +kernel
theorem dX9_goMill_43 : decode cX9_goMill 43 = .ok (.iconst 1, 1) := by decide +kernel
theorem dX9_goMill_44 : decode cX9_goMill 44 = .ok (.iadd, 1) := by decide +kernel
theorem dX9_goMill_45 : decode cX9_goMill 45 = .ok (.invokevirtual 132, 3) := by decide +kernel
theorem dX9_goMill_48 : decode cX9_goMill 48 = .ok (.aload_n 0, 1) := by decide +kernel
theorem dX9_goMill_49 : decode cX9_goMill 49 = .ok (.getfield 7, 3) := by decide +kernel
theorem dX9_goMill_52 : decode cX9_goMill 52 = .ok (.bipush 59, 2) := by decide +kernel
theorem dX9_goMill_54 : decode cX9_goMill 54 = .ok (.dup2, 1) := by decide +kernel
theorem dX9_goMill_55 : decode cX9_goMill 55 = .ok (.iaload, 1) := by decide +kernel
theorem dX9_goMill_56 : decode cX9_goMill 56 = .ok (.iconst 1, 1) := by decide +kernel
theorem dX9_goMill_57 : decode cX9_goMill 57 = .ok (.iadd, 1) := by decide +kernel
theorem dX9_goMill_58 : decode cX9_goMill 58 = .ok (.iastore, 1) := by decide +kernel
theorem dX9_goMill_59 : decode cX9_goMill 59 = .ok (.iconst 0, 1) := by decide +kernel
theorem dX9_goMill_60 : decode cX9_goMill 60 = .ok (.ireturn, 1) := by decide +kernel
theorem dX9_goBackward_0 : decode cX9_goBackward 0 = .ok (.iload_n 1, 1) := by decide +kernel
theorem dX9_goBackward_1 : decode cX9_goBackward 1 = .ok (.invokestatic 126, 3) := by decide +kernel
theorem dX9_goBackward_4 : decode cX9_goBackward 4 = .ok (.ifCond .ne 6, 3) := by decide +kernel
theorem dX9_goBackward_7 : decode cX9_goBackward 7 = .ok (.bipush (-11), 2) := by decide +kernel
theorem dX9_goBackward_9 : decode cX9_goBackward 9 = .ok (.ireturn, 1) := by decide +kernel
theorem dX9_goBackward_10 : decode cX9_goBackward 10 = .ok (.aload_n 0, 1) := by decide +kernel
theorem dX9_goBackward_11 : decode cX9_goBackward 11 = .ok (.iload_n 1, 1) := by decide +kernel
theorem dX9_goBackward_12 : decode cX9_goBackward 12 = .ok (.invokevirtual 89, 3) := by decide +kernel
theorem dX9_goBackward_15 : decode cX9_goBackward 15 = .ok (.istore_n 2, 1) := by decide +kernel
theorem dX9_goBackward_16 : decode cX9_goBackward 16 = .ok (.iload_n 2, 1) := by decide +kernel
theorem dX9_goBackward_17 : decode cX9_goBackward 17 = .ok (.iconst 1, 1) := by decide +kernel
theorem dX9_goBackward_18 : decode cX9_goBackward 18 = .ok (.if_icmp .ge 6, 3) := by decide +kernel
theorem dX9_goBackward_21 : decode cX9_goBackward 21 = .ok (.bipush (-12), 2) := by decide +kernel
theorem dX9_goBackward_23 : decode cX9_goBackward 23 = .ok (.ireturn, 1) := by decide +kernel
theorem dX9_goBackward_24 : decode cX9_goBackward 24 = .ok (.aload_n 0, 1) := by decide +kernel
theorem dX9_goBackward_25 : decode cX9_goBackward 25 = .ok (.iload_n 1, 1) := by decide +kernel
theorem dX9_goBackward_26 : decode cX9_goBackward 26 = .ok (.iload_n 2, 1) := by decide +kernel
theorem dX9_goBackward_27 : decode cX9_goBackward 27 = .ok (.iconst 1, 1) := by decide +kernel
theorem dX9_goBackward_28 : decode cX9_goBackward 28 = .ok (.isub, 1) := by decide +kernel
theorem dX9_goBackward_29 : decode cX9_goBackward 29 = .ok (.invokevirtual 132, 3) := by decide +kernel
theorem dX9_goBackward_32 : decode cX9_goBackward 32 = .ok (.aload_n 0, 1) := by decide +kernel
theorem dX9_goBackward_33 : decode cX9_goBackward 33 = .ok (.iload_n 1, 1) := by decide +kernel
theorem dX9_goBackward_34 : decode cX9_goBackward 34 = .ok (.iload_n 2, 1) := by decide +kernel
theorem dX9_goBackward_35 : decode cX9_goBackward 35 = .ok (.iconst 1, 1) := by decide +kernel
theorem dX9_goBackward_36 : decode cX9_goBackward 36 = .ok (.isub, 1) := by decide +kernel
theorem dX9_goBackward_37 : decode cX9_goBackward 37 = .ok (.invokevirtual 136, 3) := by decide +kernel
theorem dX9_goBackward_40 : decode cX9_goBackward 40 = .ok (.iconst 0, 1) := by decide +kernel
theorem dX9_goBackward_41 : decode cX9_goBackward 41 = .ok (.ireturn, 1) := by decide +kernel
theorem dX9_lay_0 : decode cX9_lay 0 = .ok (.aload_n 0, 1) := by decide +kernel
theorem dX9_lay_1 : decode cX9_lay 1 = .ok (.invokevirtual 139, 3) := by decide +kernel
theorem dX9_lay_4 : decode cX9_lay 4 = .ok (.aload_n 0, 1) := by decide +kernel
theorem dX9_lay_5 : decode cX9_lay 5 = .ok (.aload_n 0, 1) := by decide +kernel
theorem dX9_lay_6 : decode cX9_lay 6 = .ok (.iload_n 1, 1) := by decide +kernel
theorem dX9_lay_7 : decode cX9_lay 7 = .ok (.invokevirtual 142, 3) := by decide +kernel
theorem dX9_lay_10 : decode cX9_lay 10 = .ok (.invokevirtual 145, 3) := by decide +kernel
theorem dX9_lay_13 : decode cX9_lay 13 = .ok (.ireturn, 1) := by decide +kernel
theorem dX9_take_0 : decode cX9_take 0 = .ok (.aload_n 0, 1) := by decide +kernel
theorem dX9_take_1 : decode cX9_take 1 = .ok (.invokevirtual 139, 3) := by decide +kernel
theorem dX9_take_4 : decode cX9_take 4 = .ok (.aload_n 0, 1) := by decide +kernel
theorem dX9_take_5 : decode cX9_take 5 = .ok (.aload_n 0, 1) := by decide +kernel
theorem dX9_take_6 : decode cX9_take 6 = .ok (.iload_n 1, 1) := by decide +kernel
theorem dX9_take_7 : decode cX9_take 7 = .ok (.invokevirtual 148, 3) := by decide +kernel
theorem dX9_take_10 : decode cX9_take 10 = .ok (.invokevirtual 145, 3) := by decide +kernel
theorem dX9_take_13 : decode cX9_take 13 = .ok (.ireturn, 1) := by decide +kernel
theorem dX9_mill_0 : decode cX9_mill 0 = .ok (.aload_n 0, 1) := by decide +kernel
theorem dX9_mill_1 : decode cX9_mill 1 = .ok (.invokevirtual 139, 3) := by decide +kernel
theorem dX9_mill_4 : decode cX9_mill 4 = .ok (.aload_n 0, 1) := by decide +kernel
theorem dX9_mill_5 : decode cX9_mill 5 = .ok (.aload_n 0, 1) := by decide +kernel
theorem dX9_mill_6 : decode cX9_mill 6 = .ok (.iload_n 1, 1) := by decide +kernel
theorem dX9_mill_7 : decode cX9_mill 7 = .ok (.invokevirtual 151, 3) := by decide +kernel
theorem dX9_mill_10 : decode cX9_mill 10 = .ok (.invokevirtual 145, 3) := by decide +kernel
theorem dX9_mill_13 : decode cX9_mill 13 = .ok (.istore_n 2, 1) := by decide +kernel
theorem dX9_mill_14 : decode cX9_mill 14 = .ok (.aload_n 0, 1) := by decide +kernel
theorem dX9_mill_15 : decode cX9_mill 15 = .ok (.getfield 32, 3) := by decide +kernel
theorem dX9_mill_18 : decode cX9_mill 18 = .ok (.ifCond .le 8, 3) := by decide +kernel
theorem dX9_mill_21 : decode cX9_mill 21 = .ok (.iload_n 2, 1) := by decide +kernel
theorem dX9_mill_22 : decode cX9_mill 22 = .ok (.i2l, 1) := by decide +kernel
theorem dX9_mill_23 : decode cX9_mill 23 = .ok (.goto 7, 3) := by decide +kernel
theorem dX9_mill_26 : decode cX9_mill 26 = .ok (.aload_n 0, 1) := by decide +kernel
theorem dX9_mill_27 : decode cX9_mill 27 = .ok (.getfield 104, 3) := by decide +kernel
theorem dX9_mill_30 : decode cX9_mill 30 = .ok (.lreturn, 1) := by decide +kernel
theorem dX9_millBack_0 : decode cX9_millBack 0 = .ok (.aload_n 0, 1) := by decide +kernel
theorem dX9_millBack_1 : decode cX9_millBack 1 = .ok (.invokevirtual 139, 3) := by decide +kernel
theorem dX9_millBack_4 : decode cX9_millBack 4 = .ok (.aload_n 0, 1) := by decide +kernel
theorem dX9_millBack_5 : decode cX9_millBack 5 = .ok (.aload_n 0, 1) := by decide +kernel
theorem dX9_millBack_6 : decode cX9_millBack 6 = .ok (.iload_n 1, 1) := by decide +kernel
theorem dX9_millBack_7 : decode cX9_millBack 7 = .ok (.invokevirtual 154, 3) := by decide +kernel
theorem dX9_millBack_10 : decode cX9_millBack 10 = .ok (.invokevirtual 145, 3) := by decide +kernel
theorem dX9_millBack_13 : decode cX9_millBack 13 = .ok (.istore_n 2, 1) := by decide +kernel
theorem dX9_millBack_14 : decode cX9_millBack 14 = .ok (.aload_n 0, 1) := by decide +kernel
theorem dX9_millBack_15 : decode cX9_millBack 15 = .ok (.getfield 32, 3) := by decide +kernel
theorem dX9_millBack_18 : decode cX9_millBack 18 = .ok (.ifCond .le 8, 3) := by decide +kernel
theorem dX9_millBack_21 : decode cX9_millBack 21 = .ok (.iload_n 2, 1) := by decide +kernel
theorem dX9_millBack_22 : decode cX9_millBack 22 = .ok (.i2l, 1) := by decide +kernel
theorem dX9_millBack_23 : decode cX9_millBack 23 = .ok (.goto 7, 3) := by decide +kernel
theorem dX9_millBack_26 : decode cX9_millBack 26 = .ok (.aload_n 0, 1) := by decide +kernel
theorem dX9_millBack_27 : decode cX9_millBack 27 = .ok (.getfield 104, 3) := by decide +kernel
theorem dX9_millBack_30 : decode cX9_millBack 30 = .ok (.lreturn, 1) := by decide +kernel
theorem dX9_undo_0 : decode cX9_undo 0 = .ok (.aload_n 0, 1) := by decide +kernel
theorem dX9_undo_1 : decode cX9_undo 1 = .ok (.iconst 0, 1) := by decide +kernel
theorem dX9_undo_2 : decode cX9_undo 2 = .ok (.putfield 32, 3) := by decide +kernel
theorem dX9_undo_5 : decode cX9_undo 5 = .ok (.aload_n 0, 1) := by decide +kernel
theorem dX9_undo_6 : decode cX9_undo 6 = .ok (.getfield 40, 3) := by decide +kernel
theorem dX9_undo_9 : decode cX9_undo 9 = .ok (.ifCond .ne 9, 3) := by decide +kernel
theorem dX9_undo_12 : decode cX9_undo 12 = .ok (.aload_n 0, 1) := by decide +kernel
theorem dX9_undo_13 : decode cX9_undo 13 = .ok (.iconst 1, 1) := by decide +kernel
theorem dX9_undo_14 : decode cX9_undo 14 = .ok (.invokevirtual 43, 3) := by decide +kernel
theorem dX9_undo_17 : decode cX9_undo 17 = .ok (.ireturn, 1) := by decide +kernel
theorem dX9_undo_18 : decode cX9_undo 18 = .ok (.aload_n 0, 1) := by decide +kernel
theorem dX9_undo_19 : decode cX9_undo 19 = .ok (.dup, 1) := by decide +kernel
theorem dX9_undo_20 : decode cX9_undo 20 = .ok (.getfield 40, 3) := by decide +kernel
theorem dX9_undo_23 : decode cX9_undo 23 = .ok (.iconst 1, 1) := by decide +kernel
theorem dX9_undo_24 : decode cX9_undo 24 = .ok (.isub, 1) := by decide +kernel
theorem dX9_undo_25 : decode cX9_undo 25 = .ok (.putfield 40, 3) := by decide +kernel
theorem dX9_undo_28 : decode cX9_undo 28 = .ok (.aload_n 0, 1) := by decide +kernel
theorem dX9_undo_29 : decode cX9_undo 29 = .ok (.getfield 19, 3) := by decide +kernel
theorem dX9_undo_32 : decode cX9_undo 32 = .ok (.bipush 60, 2) := by decide +kernel
theorem dX9_undo_34 : decode cX9_undo 34 = .ok (.aload_n 0, 1) := by decide +kernel
theorem dX9_undo_35 : decode cX9_undo 35 = .ok (.getfield 40, 3) := by decide +kernel
theorem dX9_undo_38 : decode cX9_undo 38 = .ok (.imul, 1) := by decide +kernel
theorem dX9_undo_39 : decode cX9_undo 39 = .ok (.aload_n 0, 1) := by decide +kernel
theorem dX9_undo_40 : decode cX9_undo 40 = .ok (.getfield 7, 3) := by decide +kernel
theorem dX9_undo_43 : decode cX9_undo 43 = .ok (.iconst 0, 1) := by decide +kernel
theorem dX9_undo_44 : decode cX9_undo 44 = .ok (.invokestatic 36, 3) := by decide +kernel
theorem dX9_undo_47 : decode cX9_undo 47 = .ok (.aload_n 0, 1) := by decide +kernel
theorem dX9_undo_48 : decode cX9_undo 48 = .ok (.getfield 40, 3) := by decide +kernel
theorem dX9_undo_51 : decode cX9_undo 51 = .ok (.ireturn, 1) := by decide +kernel
theorem dX9_keep_0 : decode cX9_keep 0 = .ok (.aload_n 0, 1) := by decide +kernel
theorem dX9_keep_1 : decode cX9_keep 1 = .ok (.iconst 0, 1) := by decide +kernel
theorem dX9_keep_2 : decode cX9_keep 2 = .ok (.putfield 32, 3) := by decide +kernel
theorem dX9_keep_5 : decode cX9_keep 5 = .ok (.aload_n 0, 1) := by decide +kernel
theorem dX9_keep_6 : decode cX9_keep 6 = .ok (.iconst 1, 1) := by decide +kernel
theorem dX9_keep_7 : decode cX9_keep 7 = .ok (.putfield 157, 3) := by decide +kernel
theorem dX9_keep_10 : decode cX9_keep 10 = .ok (.aload_n 0, 1) := by decide +kernel
theorem dX9_keep_11 : decode cX9_keep 11 = .ok (.getfield 7, 3) := by decide +kernel
theorem dX9_keep_14 : decode cX9_keep 14 = .ok (.iconst 0, 1) := by decide +kernel
theorem dX9_keep_15 : decode cX9_keep 15 = .ok (.aload_n 0, 1) := by decide +kernel
theorem dX9_keep_16 : decode cX9_keep 16 = .ok (.getfield 16, 3) := by decide +kernel
theorem dX9_keep_19 : decode cX9_keep 19 = .ok (.iconst 0, 1) := by decide +kernel
theorem dX9_keep_20 : decode cX9_keep 20 = .ok (.invokestatic 36, 3) := by decide +kernel
theorem dX9_keep_23 : decode cX9_keep 23 = .ok (.aload_n 0, 1) := by decide +kernel
theorem dX9_keep_24 : decode cX9_keep 24 = .ok (.invokevirtual 122, 3) := by decide +kernel
theorem dX9_keep_27 : decode cX9_keep 27 = .ok (.ireturn, 1) := by decide +kernel
theorem dX9_goBack_0 : decode cX9_goBack 0 = .ok (.aload_n 0, 1) := by decide +kernel
theorem dX9_goBack_1 : decode cX9_goBack 1 = .ok (.invokevirtual 139, 3) := by decide +kernel
theorem dX9_goBack_4 : decode cX9_goBack 4 = .ok (.aload_n 0, 1) := by decide +kernel
theorem dX9_goBack_5 : decode cX9_goBack 5 = .ok (.getfield 157, 3) := by decide +kernel
theorem dX9_goBack_8 : decode cX9_goBack 8 = .ok (.ifCond .ne 9, 3) := by decide +kernel
theorem dX9_goBack_11 : decode cX9_goBack 11 = .ok (.aload_n 0, 1) := by decide +kernel
theorem dX9_goBack_12 : decode cX9_goBack 12 = .ok (.iconst 1, 1) := by decide +kernel
theorem dX9_goBack_13 : decode cX9_goBack 13 = .ok (.invokevirtual 43, 3) := by decide +kernel
theorem dX9_goBack_16 : decode cX9_goBack 16 = .ok (.ireturn, 1) := by decide +kernel
theorem dX9_goBack_17 : decode cX9_goBack 17 = .ok (.aload_n 0, 1) := by decide +kernel
theorem dX9_goBack_18 : decode cX9_goBack 18 = .ok (.getfield 16, 3) := by decide +kernel
theorem dX9_goBack_21 : decode cX9_goBack 21 = .ok (.iconst 0, 1) := by decide +kernel
theorem dX9_goBack_22 : decode cX9_goBack 22 = .ok (.aload_n 0, 1) := by decide +kernel
theorem dX9_goBack_23 : decode cX9_goBack 23 = .ok (.getfield 7, 3) := by decide +kernel
theorem dX9_goBack_26 : decode cX9_goBack 26 = .ok (.iconst 0, 1) := by decide +kernel
theorem dX9_goBack_27 : decode cX9_goBack 27 = .ok (.invokestatic 36, 3) := by decide +kernel
theorem dX9_goBack_30 : decode cX9_goBack 30 = .ok (.aload_n 0, 1) := by decide +kernel
theorem dX9_goBack_31 : decode cX9_goBack 31 = .ok (.invokevirtual 47, 3) := by decide +kernel
theorem dX9_goBack_34 : decode cX9_goBack 34 = .ok (.aload_n 0, 1) := by decide +kernel
theorem dX9_goBack_35 : decode cX9_goBack 35 = .ok (.invokevirtual 122, 3) := by decide +kernel
theorem dX9_goBack_38 : decode cX9_goBack 38 = .ok (.ireturn, 1) := by decide +kernel
theorem dX9_asks_0 : decode cX9_asks 0 = .ok (.aload_n 0, 1) := by decide +kernel
theorem dX9_asks_1 : decode cX9_asks 1 = .ok (.iload_n 1, 1) := by decide +kernel
theorem dX9_asks_2 : decode cX9_asks 2 = .ok (.ifCond .eq 7, 3) := by decide +kernel
theorem dX9_asks_5 : decode cX9_asks 5 = .ok (.iconst 0, 1) := by decide +kernel
theorem dX9_asks_6 : decode cX9_asks 6 = .ok (.goto 4, 3) := by decide +kernel
theorem dX9_asks_9 : decode cX9_asks 9 = .ok (.iconst 1, 1) := by decide +kernel
theorem dX9_asks_10 : decode cX9_asks 10 = .ok (.putfield 32, 3) := by decide +kernel
theorem dX9_asks_13 : decode cX9_asks 13 = .ok (.iload_n 1, 1) := by decide +kernel
theorem dX9_asks_14 : decode cX9_asks 14 = .ok (.ireturn, 1) := by decide +kernel
theorem dX9_whyNot_0 : decode cX9_whyNot 0 = .ok (.aload_n 0, 1) := by decide +kernel
theorem dX9_whyNot_1 : decode cX9_whyNot 1 = .ok (.iload_n 1, 1) := by decide +kernel
theorem dX9_whyNot_2 : decode cX9_whyNot 2 = .ok (.invokestatic 126, 3) := by decide +kernel
theorem dX9_whyNot_5 : decode cX9_whyNot 5 = .ok (.invokevirtual 161, 3) := by decide +kernel
theorem dX9_whyNot_8 : decode cX9_whyNot 8 = .ok (.ifCond .eq 11, 3) := by decide +kernel
theorem dX9_whyNot_11 : decode cX9_whyNot 11 = .ok (.aload_n 0, 1) := by decide +kernel
theorem dX9_whyNot_12 : decode cX9_whyNot 12 = .ok (.iload_n 1, 1) := by decide +kernel
theorem dX9_whyNot_13 : decode cX9_whyNot 13 = .ok (.invokevirtual 129, 3) := by decide +kernel
theorem dX9_whyNot_16 : decode cX9_whyNot 16 = .ok (.goto 4, 3) := by decide +kernel
theorem dX9_whyNot_19 : decode cX9_whyNot 19 = .ok (.iconst 0, 1) := by decide +kernel
theorem dX9_whyNot_20 : decode cX9_whyNot 20 = .ok (.ireturn, 1) := by decide +kernel
theorem dX9_asksRoot_0 : decode cX9_asksRoot 0 = .ok (.aload_n 0, 1) := by decide +kernel
theorem dX9_asksRoot_1 : decode cX9_asksRoot 1 = .ok (.iload_n 1, 1) := by decide +kernel
theorem dX9_asksRoot_2 : decode cX9_asksRoot 2 = .ok (.invokestatic 126, 3) := by decide +kernel
theorem dX9_asksRoot_5 : decode cX9_asksRoot 5 = .ok (.ifCond .eq 11, 3) := by decide +kernel
theorem dX9_asksRoot_8 : decode cX9_asksRoot 8 = .ok (.iload_n 2, 1) := by decide +kernel
theorem dX9_asksRoot_9 : decode cX9_asksRoot 9 = .ok (.ifCond .eq 7, 3) := by decide +kernel
theorem dX9_asksRoot_12 : decode cX9_asksRoot 12 = .ok (.iconst 1, 1) := by decide +kernel
theorem dX9_asksRoot_13 : decode cX9_asksRoot 13 = .ok (.goto 4, 3) := by decide +kernel
theorem dX9_asksRoot_16 : decode cX9_asksRoot 16 = .ok (.iconst 0, 1) := by decide +kernel
theorem dX9_asksRoot_17 : decode cX9_asksRoot 17 = .ok (.invokevirtual 161, 3) := by decide +kernel
theorem dX9_asksRoot_20 : decode cX9_asksRoot 20 = .ok (.ifCond .ne 5, 3) := by decide +kernel
theorem dX9_asksRoot_23 : decode cX9_asksRoot 23 = .ok (.iconst 0, 1) := by decide +kernel
theorem dX9_asksRoot_24 : decode cX9_asksRoot 24 = .ok (.ireturn, 1) := by decide +kernel
theorem dX9_asksRoot_25 : decode cX9_asksRoot 25 = .ok (.aload_n 0, 1) := by decide +kernel
theorem dX9_asksRoot_26 : decode cX9_asksRoot 26 = .ok (.iload_n 1, 1) := by decide +kernel
theorem dX9_asksRoot_27 : decode cX9_asksRoot 27 = .ok (.invokestatic 119, 3) := by decide +kernel
theorem dX9_asksRoot_30 : decode cX9_asksRoot 30 = .ok (.ifCond .eq 7, 3) := by decide +kernel
theorem dX9_asksRoot_33 : decode cX9_asksRoot 33 = .ok (.iconst 2, 1) := by decide +kernel
theorem dX9_asksRoot_34 : decode cX9_asksRoot 34 = .ok (.goto 4, 3) := by decide +kernel
theorem dX9_asksRoot_37 : decode cX9_asksRoot 37 = .ok (.iconst 0, 1) := by decide +kernel
theorem dX9_asksRoot_38 : decode cX9_asksRoot 38 = .ok (.putfield 32, 3) := by decide +kernel
theorem dX9_asksRoot_41 : decode cX9_asksRoot 41 = .ok (.aload_n 0, 1) := by decide +kernel
theorem dX9_asksRoot_42 : decode cX9_asksRoot 42 = .ok (.getfield 32, 3) := by decide +kernel
theorem dX9_asksRoot_45 : decode cX9_asksRoot 45 = .ok (.ifCond .ne 7, 3) := by decide +kernel
theorem dX9_asksRoot_48 : decode cX9_asksRoot 48 = .ok (.iconst 1, 1) := by decide +kernel
theorem dX9_asksRoot_49 : decode cX9_asksRoot 49 = .ok (.goto 4, 3) := by decide +kernel
theorem dX9_asksRoot_52 : decode cX9_asksRoot 52 = .ok (.iconst 0, 1) := by decide +kernel
theorem dX9_asksRoot_53 : decode cX9_asksRoot 53 = .ok (.ireturn, 1) := by decide +kernel
theorem dX9_periodOf_0 : decode cX9_periodOf 0 = .ok (.aload_n 0, 1) := by decide +kernel
theorem dX9_periodOf_1 : decode cX9_periodOf 1 = .ok (.iload_n 1, 1) := by decide +kernel
theorem dX9_periodOf_2 : decode cX9_periodOf 2 = .ok (.iconst 1, 1) := by decide +kernel
theorem dX9_periodOf_3 : decode cX9_periodOf 3 = .ok (.invokevirtual 165, 3) := by decide +kernel
theorem dX9_periodOf_6 : decode cX9_periodOf 6 = .ok (.ifCond .eq 11, 3) := by decide +kernel
theorem dX9_periodOf_9 : decode cX9_periodOf 9 = .ok (.aload_n 0, 1) := by decide +kernel
theorem dX9_periodOf_10 : decode cX9_periodOf 10 = .ok (.iload_n 1, 1) := by decide +kernel
theorem dX9_periodOf_11 : decode cX9_periodOf 11 = .ok (.invokevirtual 92, 3) := by decide +kernel
theorem dX9_periodOf_14 : decode cX9_periodOf 14 = .ok (.goto 4, 3) := by decide +kernel
theorem dX9_periodOf_17 : decode cX9_periodOf 17 = .ok (.iconst 0, 1) := by decide +kernel
theorem dX9_periodOf_18 : decode cX9_periodOf 18 = .ok (.ireturn, 1) := by decide +kernel
theorem dX9_termAt_0 : decode cX9_termAt 0 = .ok (.aload_n 0, 1) := by decide +kernel
theorem dX9_termAt_1 : decode cX9_termAt 1 = .ok (.iload_n 1, 1) := by decide +kernel
theorem dX9_termAt_2 : decode cX9_termAt 2 = .ok (.iload_n 2, 1) := by decide +kernel
theorem dX9_termAt_3 : decode cX9_termAt 3 = .ok (.iconst 0, 1) := by decide +kernel
theorem dX9_termAt_4 : decode cX9_termAt 4 = .ok (.bipush 99, 2) := by decide +kernel
theorem dX9_termAt_6 : decode cX9_termAt 6 = .ok (.invokestatic 50, 3) := by decide +kernel
theorem dX9_termAt_9 : decode cX9_termAt 9 = .ok (.invokevirtual 165, 3) := by decide +kernel
theorem dX9_termAt_12 : decode cX9_termAt 12 = .ok (.ifCond .ne 5, 3) := by decide +kernel
theorem dX9_termAt_15 : decode cX9_termAt 15 = .ok (.iconst 0, 1) := by decide +kernel
theorem dX9_termAt_16 : decode cX9_termAt 16 = .ok (.ireturn, 1) := by decide +kernel
theorem dX9_termAt_17 : decode cX9_termAt 17 = .ok (.aload_n 0, 1) := by decide +kernel
theorem dX9_termAt_18 : decode cX9_termAt 18 = .ok (.iload_n 1, 1) := by decide +kernel
theorem dX9_termAt_19 : decode cX9_termAt 19 = .ok (.invokevirtual 79, 3) := by decide +kernel
theorem dX9_termAt_22 : decode cX9_termAt 22 = .ok (.iconst 0, 1) := by decide +kernel
theorem dX9_termAt_23 : decode cX9_termAt 23 = .ok (.istore_n 3, 1) := by decide +kernel
theorem dX9_termAt_24 : decode cX9_termAt 24 = .ok (.iload_n 3, 1) := by decide +kernel
theorem dX9_termAt_25 : decode cX9_termAt 25 = .ok (.iload_n 2, 1) := by decide +kernel
theorem dX9_termAt_26 : decode cX9_termAt 26 = .ok (.if_icmp .ge 14, 3) := by decide +kernel
theorem dX9_termAt_29 : decode cX9_termAt 29 = .ok (.aload_n 0, 1) := by decide +kernel
theorem dX9_termAt_30 : decode cX9_termAt 30 = .ok (.iload_n 1, 1) := by decide +kernel
theorem dX9_termAt_31 : decode cX9_termAt 31 = .ok (.invokevirtual 83, 3) := by decide +kernel
theorem dX9_termAt_34 : decode cX9_termAt 34 = .ok (.iinc 3 1, 3) := by decide +kernel
theorem dX9_termAt_37 : decode cX9_termAt 37 = .ok (.goto (-13), 3) := by decide +kernel
theorem dX9_termAt_40 : decode cX9_termAt 40 = .ok (.aload_n 0, 1) := by decide +kernel
theorem dX9_termAt_41 : decode cX9_termAt 41 = .ok (.getfield 63, 3) := by decide +kernel
theorem dX9_termAt_44 : decode cX9_termAt 44 = .ok (.ireturn, 1) := by decide +kernel
theorem dX9_unitX_0 : decode cX9_unitX 0 = .ok (.aload_n 0, 1) := by decide +kernel
theorem dX9_unitX_1 : decode cX9_unitX 1 = .ok (.iload_n 1, 1) := by decide +kernel
theorem dX9_unitX_2 : decode cX9_unitX 2 = .ok (.iconst 1, 1) := by decide +kernel
theorem dX9_unitX_3 : decode cX9_unitX 3 = .ok (.invokevirtual 165, 3) := by decide +kernel
theorem dX9_unitX_6 : decode cX9_unitX 6 = .ok (.ifCond .ne 5, 3) := by decide +kernel
theorem dX9_unitX_9 : decode cX9_unitX 9 = .ok (.iconst 0, 1) := by decide +kernel
theorem dX9_unitX_10 : decode cX9_unitX 10 = .ok (.ireturn, 1) := by decide +kernel
theorem dX9_unitX_11 : decode cX9_unitX 11 = .ok (.aload_n 0, 1) := by decide +kernel
theorem dX9_unitX_12 : decode cX9_unitX 12 = .ok (.iload_n 1, 1) := by decide +kernel
theorem dX9_unitX_13 : decode cX9_unitX 13 = .ok (.invokevirtual 112, 3) := by decide +kernel
theorem dX9_unitX_16 : decode cX9_unitX 16 = .ok (.aload_n 0, 1) := by decide +kernel
theorem dX9_unitX_17 : decode cX9_unitX 17 = .ok (.getfield 98, 3) := by decide +kernel
theorem dX9_unitX_20 : decode cX9_unitX 20 = .ok (.l2i, 1) := by decide +kernel
theorem dX9_unitX_21 : decode cX9_unitX 21 = .ok (.ireturn, 1) := by decide +kernel
theorem dX9_unitY_0 : decode cX9_unitY 0 = .ok (.aload_n 0, 1) := by decide +kernel
theorem dX9_unitY_1 : decode cX9_unitY 1 = .ok (.iload_n 1, 1) := by decide +kernel
theorem dX9_unitY_2 : decode cX9_unitY 2 = .ok (.iconst 1, 1) := by decide +kernel
theorem dX9_unitY_3 : decode cX9_unitY 3 = .ok (.invokevirtual 165, 3) := by decide +kernel
theorem dX9_unitY_6 : decode cX9_unitY 6 = .ok (.ifCond .ne 5, 3) := by decide +kernel
theorem dX9_unitY_9 : decode cX9_unitY 9 = .ok (.iconst 0, 1) := by decide +kernel
theorem dX9_unitY_10 : decode cX9_unitY 10 = .ok (.ireturn, 1) := by decide +kernel
theorem dX9_unitY_11 : decode cX9_unitY 11 = .ok (.aload_n 0, 1) := by decide +kernel
theorem dX9_unitY_12 : decode cX9_unitY 12 = .ok (.iload_n 1, 1) := by decide +kernel
theorem dX9_unitY_13 : decode cX9_unitY 13 = .ok (.invokevirtual 112, 3) := by decide +kernel
theorem dX9_unitY_16 : decode cX9_unitY 16 = .ok (.aload_n 0, 1) := by decide +kernel
theorem dX9_unitY_17 : decode cX9_unitY 17 = .ok (.getfield 101, 3) := by decide +kernel
theorem dX9_unitY_20 : decode cX9_unitY 20 = .ok (.l2i, 1) := by decide +kernel
theorem dX9_unitY_21 : decode cX9_unitY 21 = .ok (.ireturn, 1) := by decide +kernel
theorem dX9_least_0 : decode cX9_least 0 = .ok (.aload_n 0, 1) := by decide +kernel
theorem dX9_least_1 : decode cX9_least 1 = .ok (.iload_n 1, 1) := by decide +kernel
theorem dX9_least_2 : decode cX9_least 2 = .ok (.iconst 1, 1) := by decide +kernel
theorem dX9_least_3 : decode cX9_least 3 = .ok (.invokevirtual 165, 3) := by decide +kernel
theorem dX9_least_6 : decode cX9_least 6 = .ok (.ifCond .ne 5, 3) := by decide +kernel
theorem dX9_least_9 : decode cX9_least 9 = .ok (.iconst 0, 1) := by decide +kernel
theorem dX9_least_10 : decode cX9_least 10 = .ok (.ireturn, 1) := by decide +kernel
theorem dX9_least_11 : decode cX9_least 11 = .ok (.aload_n 0, 1) := by decide +kernel
theorem dX9_least_12 : decode cX9_least 12 = .ok (.iload_n 1, 1) := by decide +kernel
theorem dX9_least_13 : decode cX9_least 13 = .ok (.invokevirtual 112, 3) := by decide +kernel
theorem dX9_least_16 : decode cX9_least 16 = .ok (.aload_n 0, 1) := by decide +kernel
theorem dX9_least_17 : decode cX9_least 17 = .ok (.getfield 95, 3) := by decide +kernel
theorem dX9_least_20 : decode cX9_least 20 = .ok (.iconst 1, 1) := by decide +kernel
theorem dX9_least_21 : decode cX9_least 21 = .ok (.if_icmp .ne 10, 3) := by decide +kernel
theorem dX9_least_24 : decode cX9_least 24 = .ok (.aload_n 0, 1) := by decide +kernel
theorem dX9_least_25 : decode cX9_least 25 = .ok (.getfield 101, 3) := by decide +kernel
theorem dX9_least_28 : decode cX9_least 28 = .ok (.goto 16, 3) := by decide +kernel
theorem dX9_least_31 : decode cX9_least 31 = .ok (.ldc2_w 169, 3) := by decide +kernel
theorem dX9_least_34 : decode cX9_least 34 = .ok (.aload_n 0, 1) := by decide +kernel
theorem dX9_least_35 : decode cX9_least 35 = .ok (.getfield 98, 3) := by decide +kernel
theorem dX9_least_38 : decode cX9_least 38 = .ok (.lmul, 1) := by decide +kernel
theorem dX9_least_39 : decode cX9_least 39 = .ok (.aload_n 0, 1) := by decide +kernel
theorem dX9_least_40 : decode cX9_least 40 = .ok (.getfield 101, 3) := by decide +kernel
theorem dX9_least_43 : decode cX9_least 43 = .ok (.lmul, 1) := by decide +kernel
theorem dX9_least_44 : decode cX9_least 44 = .ok (.l2i, 1) := by decide +kernel
theorem dX9_least_45 : decode cX9_least 45 = .ok (.ireturn, 1) := by decide +kernel
theorem dX9_leastY_0 : decode cX9_leastY 0 = .ok (.aload_n 0, 1) := by decide +kernel
theorem dX9_leastY_1 : decode cX9_leastY 1 = .ok (.iload_n 1, 1) := by decide +kernel
theorem dX9_leastY_2 : decode cX9_leastY 2 = .ok (.invokevirtual 171, 3) := by decide +kernel
theorem dX9_leastY_5 : decode cX9_leastY 5 = .ok (.ireturn, 1) := by decide +kernel
theorem dX9_leastYBySearch_0 : decode cX9_leastYBySearch 0 = .ok (.aload_n 0, 1) := by decide +kernel
theorem dX9_leastYBySearch_1 : decode cX9_leastYBySearch 1 = .ok (.iload_n 1, 1) := by decide +kernel
theorem dX9_leastYBySearch_2 : decode cX9_leastYBySearch 2 = .ok (.invokevirtual 171, 3) := by decide +kernel
theorem dX9_leastYBySearch_5 : decode cX9_leastYBySearch 5 = .ok (.ireturn, 1) := by decide +kernel
theorem dX9_stones_0 : decode cX9_stones 0 = .ok (.aload_n 0, 1) := by decide +kernel
theorem dX9_stones_1 : decode cX9_stones 1 = .ok (.iconst 0, 1) := by decide +kernel
theorem dX9_stones_2 : decode cX9_stones 2 = .ok (.putfield 32, 3) := by decide +kernel
theorem dX9_stones_5 : decode cX9_stones 5 = .ok (.aload_n 0, 1) := by decide +kernel
theorem dX9_stones_6 : decode cX9_stones 6 = .ok (.invokevirtual 122, 3) := by decide +kernel
theorem dX9_stones_9 : decode cX9_stones 9 = .ok (.ireturn, 1) := by decide +kernel
theorem dX9_isLaid_0 : decode cX9_isLaid 0 = .ok (.aload_n 0, 1) := by decide +kernel
theorem dX9_isLaid_1 : decode cX9_isLaid 1 = .ok (.iload_n 1, 1) := by decide +kernel
theorem dX9_isLaid_2 : decode cX9_isLaid 2 = .ok (.invokestatic 126, 3) := by decide +kernel
theorem dX9_isLaid_5 : decode cX9_isLaid 5 = .ok (.invokevirtual 161, 3) := by decide +kernel
theorem dX9_isLaid_8 : decode cX9_isLaid 8 = .ok (.ifCond .eq 15, 3) := by decide +kernel
theorem dX9_isLaid_11 : decode cX9_isLaid 11 = .ok (.aload_n 0, 1) := by decide +kernel
theorem dX9_isLaid_12 : decode cX9_isLaid 12 = .ok (.iload_n 1, 1) := by decide +kernel
theorem dX9_isLaid_13 : decode cX9_isLaid 13 = .ok (.invokevirtual 89, 3) := by decide +kernel
theorem dX9_isLaid_16 : decode cX9_isLaid 16 = .ok (.ifCond .lt 7, 3) := by decide +kernel
theorem dX9_isLaid_19 : decode cX9_isLaid 19 = .ok (.iconst 1, 1) := by decide +kernel
theorem dX9_isLaid_20 : decode cX9_isLaid 20 = .ok (.goto 4, 3) := by decide +kernel
theorem dX9_isLaid_23 : decode cX9_isLaid 23 = .ok (.iconst 0, 1) := by decide +kernel
theorem dX9_isLaid_24 : decode cX9_isLaid 24 = .ok (.ireturn, 1) := by decide +kernel
theorem dX9_stoneFrom_0 : decode cX9_stoneFrom 0 = .ok (.aload_n 0, 1) := by decide +kernel
theorem dX9_stoneFrom_1 : decode cX9_stoneFrom 1 = .ok (.iload_n 1, 1) := by decide +kernel
theorem dX9_stoneFrom_2 : decode cX9_stoneFrom 2 = .ok (.invokestatic 126, 3) := by decide +kernel
theorem dX9_stoneFrom_5 : decode cX9_stoneFrom 5 = .ok (.invokevirtual 161, 3) := by decide +kernel
theorem dX9_stoneFrom_8 : decode cX9_stoneFrom 8 = .ok (.ifCond .ne 5, 3) := by decide +kernel
theorem dX9_stoneFrom_11 : decode cX9_stoneFrom 11 = .ok (.iconst 0, 1) := by decide +kernel
theorem dX9_stoneFrom_12 : decode cX9_stoneFrom 12 = .ok (.ireturn, 1) := by decide +kernel
theorem dX9_stoneFrom_13 : decode cX9_stoneFrom 13 = .ok (.iload_n 1, 1) := by decide +kernel
theorem dX9_stoneFrom_14 : decode cX9_stoneFrom 14 = .ok (.istore_n 2, 1) := by decide +kernel
theorem dX9_stoneFrom_15 : decode cX9_stoneFrom 15 = .ok (.iload_n 2, 1) := by decide +kernel
theorem dX9_stoneFrom_16 : decode cX9_stoneFrom 16 = .ok (.bipush 60, 2) := by decide +kernel
theorem dX9_stoneFrom_18 : decode cX9_stoneFrom 18 = .ok (.if_icmp .gt 17, 3) := by decide +kernel
theorem dX9_stoneFrom_21 : decode cX9_stoneFrom 21 = .ok (.aload_n 0, 1) := by decide +kernel
theorem dX9_stoneFrom_22 : decode cX9_stoneFrom 22 = .ok (.iload_n 2, 1) := by decide +kernel
theorem dX9_stoneFrom_23 : decode cX9_stoneFrom 23 = .ok (.invokevirtual 89, 3) := by decide +kernel
theorem dX9_stoneFrom_26 : decode cX9_stoneFrom 26 = .ok (.ifCond .ge 9, 3) := by decide +kernel
theorem dX9_stoneFrom_29 : decode cX9_stoneFrom 29 = .ok (.iinc 2 1, 3) := by decide +kernel
theorem dX9_stoneFrom_32 : decode cX9_stoneFrom 32 = .ok (.goto (-17), 3) := by decide +kernel
theorem dX9_stoneFrom_35 : decode cX9_stoneFrom 35 = .ok (.iload_n 2, 1) := by decide +kernel
theorem dX9_stoneFrom_36 : decode cX9_stoneFrom 36 = .ok (.bipush 60, 2) := by decide +kernel
theorem dX9_stoneFrom_38 : decode cX9_stoneFrom 38 = .ok (.if_icmp .gt 7, 3) := by decide +kernel
theorem dX9_stoneFrom_41 : decode cX9_stoneFrom 41 = .ok (.iload_n 2, 1) := by decide +kernel
theorem dX9_stoneFrom_42 : decode cX9_stoneFrom 42 = .ok (.goto 8, 3) := by decide +kernel
theorem dX9_stoneFrom_45 : decode cX9_stoneFrom 45 = .ok (.aload_n 0, 1) := by decide +kernel
theorem dX9_stoneFrom_46 : decode cX9_stoneFrom 46 = .ok (.iconst 2, 1) := by decide +kernel
theorem dX9_stoneFrom_47 : decode cX9_stoneFrom 47 = .ok (.invokevirtual 43, 3) := by decide +kernel
theorem dX9_stoneFrom_50 : decode cX9_stoneFrom 50 = .ok (.ireturn, 1) := by decide +kernel
theorem dX9_asksStone_0 : decode cX9_asksStone 0 = .ok (.aload_n 0, 1) := by decide +kernel
theorem dX9_asksStone_1 : decode cX9_asksStone 1 = .ok (.iload_n 1, 1) := by decide +kernel
theorem dX9_asksStone_2 : decode cX9_asksStone 2 = .ok (.invokestatic 126, 3) := by decide +kernel
theorem dX9_asksStone_5 : decode cX9_asksStone 5 = .ok (.invokevirtual 161, 3) := by decide +kernel
theorem dX9_asksStone_8 : decode cX9_asksStone 8 = .ok (.ifCond .ne 5, 3) := by decide +kernel
theorem dX9_asksStone_11 : decode cX9_asksStone 11 = .ok (.iconst 0, 1) := by decide +kernel
theorem dX9_asksStone_12 : decode cX9_asksStone 12 = .ok (.ireturn, 1) := by decide +kernel
theorem dX9_asksStone_13 : decode cX9_asksStone 13 = .ok (.aload_n 0, 1) := by decide +kernel
theorem dX9_asksStone_14 : decode cX9_asksStone 14 = .ok (.aload_n 0, 1) := by decide +kernel
theorem dX9_asksStone_15 : decode cX9_asksStone 15 = .ok (.iload_n 1, 1) := by decide +kernel
theorem dX9_asksStone_16 : decode cX9_asksStone 16 = .ok (.invokevirtual 89, 3) := by decide +kernel
theorem dX9_asksStone_19 : decode cX9_asksStone 19 = .ok (.ifCond .ge 7, 3) := by decide +kernel
theorem dX9_asksStone_22 : decode cX9_asksStone 22 = .ok (.iconst 2, 1) := by decide +kernel
theorem dX9_asksStone_23 : decode cX9_asksStone 23 = .ok (.goto 4, 3) := by decide +kernel
theorem dX9_asksStone_26 : decode cX9_asksStone 26 = .ok (.iconst 0, 1) := by decide +kernel
theorem dX9_asksStone_27 : decode cX9_asksStone 27 = .ok (.putfield 32, 3) := by decide +kernel
theorem dX9_asksStone_30 : decode cX9_asksStone 30 = .ok (.aload_n 0, 1) := by decide +kernel
theorem dX9_asksStone_31 : decode cX9_asksStone 31 = .ok (.getfield 32, 3) := by decide +kernel
theorem dX9_asksStone_34 : decode cX9_asksStone 34 = .ok (.ifCond .ne 7, 3) := by decide +kernel
theorem dX9_asksStone_37 : decode cX9_asksStone 37 = .ok (.iconst 1, 1) := by decide +kernel
theorem dX9_asksStone_38 : decode cX9_asksStone 38 = .ok (.goto 4, 3) := by decide +kernel
theorem dX9_asksStone_41 : decode cX9_asksStone 41 = .ok (.iconst 0, 1) := by decide +kernel
theorem dX9_asksStone_42 : decode cX9_asksStone 42 = .ok (.ireturn, 1) := by decide +kernel
theorem dX9_powerOf_0 : decode cX9_powerOf 0 = .ok (.aload_n 0, 1) := by decide +kernel
theorem dX9_powerOf_1 : decode cX9_powerOf 1 = .ok (.iload_n 1, 1) := by decide +kernel
theorem dX9_powerOf_2 : decode cX9_powerOf 2 = .ok (.invokevirtual 174, 3) := by decide +kernel
theorem dX9_powerOf_5 : decode cX9_powerOf 5 = .ok (.ifCond .eq 11, 3) := by decide +kernel
theorem dX9_powerOf_8 : decode cX9_powerOf 8 = .ok (.aload_n 0, 1) := by decide +kernel
theorem dX9_powerOf_9 : decode cX9_powerOf 9 = .ok (.iload_n 1, 1) := by decide +kernel
theorem dX9_powerOf_10 : decode cX9_powerOf 10 = .ok (.invokevirtual 89, 3) := by decide +kernel
theorem dX9_powerOf_13 : decode cX9_powerOf 13 = .ok (.goto 4, 3) := by decide +kernel
theorem dX9_powerOf_16 : decode cX9_powerOf 16 = .ok (.iconst 0, 1) := by decide +kernel
theorem dX9_powerOf_17 : decode cX9_powerOf 17 = .ok (.ireturn, 1) := by decide +kernel
theorem dX9_xOf_0 : decode cX9_xOf 0 = .ok (.aload_n 0, 1) := by decide +kernel
theorem dX9_xOf_1 : decode cX9_xOf 1 = .ok (.iload_n 1, 1) := by decide +kernel
theorem dX9_xOf_2 : decode cX9_xOf 2 = .ok (.invokevirtual 174, 3) := by decide +kernel
theorem dX9_xOf_5 : decode cX9_xOf 5 = .ok (.ifCond .ne 5, 3) := by decide +kernel
theorem dX9_xOf_8 : decode cX9_xOf 8 = .ok (.lconst 0, 1) := by decide +kernel
theorem dX9_xOf_9 : decode cX9_xOf 9 = .ok (.lreturn, 1) := by decide +kernel
theorem dX9_xOf_10 : decode cX9_xOf 10 = .ok (.aload_n 0, 1) := by decide +kernel
theorem dX9_xOf_11 : decode cX9_xOf 11 = .ok (.iload_n 1, 1) := by decide +kernel
theorem dX9_xOf_12 : decode cX9_xOf 12 = .ok (.aload_n 0, 1) := by decide +kernel
theorem dX9_xOf_13 : decode cX9_xOf 13 = .ok (.iload_n 1, 1) := by decide +kernel
theorem dX9_xOf_14 : decode cX9_xOf 14 = .ok (.invokevirtual 89, 3) := by decide +kernel
theorem dX9_xOf_17 : decode cX9_xOf 17 = .ok (.invokevirtual 136, 3) := by decide +kernel
theorem dX9_xOf_20 : decode cX9_xOf 20 = .ok (.aload_n 0, 1) := by decide +kernel
theorem dX9_xOf_21 : decode cX9_xOf 21 = .ok (.getfield 104, 3) := by decide +kernel
theorem dX9_xOf_24 : decode cX9_xOf 24 = .ok (.lreturn, 1) := by decide +kernel
theorem dX9_yOf_0 : decode cX9_yOf 0 = .ok (.aload_n 0, 1) := by decide +kernel
theorem dX9_yOf_1 : decode cX9_yOf 1 = .ok (.iload_n 1, 1) := by decide +kernel
theorem dX9_yOf_2 : decode cX9_yOf 2 = .ok (.invokevirtual 174, 3) := by decide +kernel
theorem dX9_yOf_5 : decode cX9_yOf 5 = .ok (.ifCond .ne 5, 3) := by decide +kernel
theorem dX9_yOf_8 : decode cX9_yOf 8 = .ok (.lconst 0, 1) := by decide +kernel
theorem dX9_yOf_9 : decode cX9_yOf 9 = .ok (.lreturn, 1) := by decide +kernel
theorem dX9_yOf_10 : decode cX9_yOf 10 = .ok (.aload_n 0, 1) := by decide +kernel
theorem dX9_yOf_11 : decode cX9_yOf 11 = .ok (.iload_n 1, 1) := by decide +kernel
theorem dX9_yOf_12 : decode cX9_yOf 12 = .ok (.aload_n 0, 1) := by decide +kernel
theorem dX9_yOf_13 : decode cX9_yOf 13 = .ok (.iload_n 1, 1) := by decide +kernel
theorem dX9_yOf_14 : decode cX9_yOf 14 = .ok (.invokevirtual 89, 3) := by decide +kernel
theorem dX9_yOf_17 : decode cX9_yOf 17 = .ok (.invokevirtual 136, 3) := by decide +kernel
theorem dX9_yOf_20 : decode cX9_yOf 20 = .ok (.aload_n 0, 1) := by decide +kernel
theorem dX9_yOf_21 : decode cX9_yOf 21 = .ok (.getfield 107, 3) := by decide +kernel
theorem dX9_yOf_24 : decode cX9_yOf 24 = .ok (.lreturn, 1) := by decide +kernel
theorem dX9_sign_0 : decode cX9_sign 0 = .ok (.aload_n 0, 1) := by decide +kernel
theorem dX9_sign_1 : decode cX9_sign 1 = .ok (.iload_n 1, 1) := by decide +kernel
theorem dX9_sign_2 : decode cX9_sign 2 = .ok (.invokevirtual 112, 3) := by decide +kernel
theorem dX9_sign_5 : decode cX9_sign 5 = .ok (.aload_n 0, 1) := by decide +kernel
theorem dX9_sign_6 : decode cX9_sign 6 = .ok (.iload_n 1, 1) := by decide +kernel
theorem dX9_sign_7 : decode cX9_sign 7 = .ok (.invokevirtual 89, 3) := by decide +kernel
theorem dX9_sign_10 : decode cX9_sign 10 = .ok (.iconst 2, 1) := by decide +kernel
theorem dX9_sign_11 : decode cX9_sign 11 = .ok (.irem, 1) := by decide +kernel
theorem dX9_sign_12 : decode cX9_sign 12 = .ok (.ifCond .ne 7, 3) := by decide +kernel
theorem dX9_sign_15 : decode cX9_sign 15 = .ok (.iconst 1, 1) := by decide +kernel
theorem dX9_sign_16 : decode cX9_sign 16 = .ok (.goto 7, 3) := by decide +kernel
theorem dX9_sign_19 : decode cX9_sign 19 = .ok (.aload_n 0, 1) := by decide +kernel
theorem dX9_sign_20 : decode cX9_sign 20 = .ok (.getfield 95, 3) := by decide +kernel
theorem dX9_sign_23 : decode cX9_sign 23 = .ok (.ireturn, 1) := by decide +kernel
theorem dX9_signOf_0 : decode cX9_signOf 0 = .ok (.aload_n 0, 1) := by decide +kernel
theorem dX9_signOf_1 : decode cX9_signOf 1 = .ok (.iload_n 1, 1) := by decide +kernel
theorem dX9_signOf_2 : decode cX9_signOf 2 = .ok (.invokevirtual 174, 3) := by decide +kernel
theorem dX9_signOf_5 : decode cX9_signOf 5 = .ok (.ifCond .eq 11, 3) := by decide +kernel
theorem dX9_signOf_8 : decode cX9_signOf 8 = .ok (.aload_n 0, 1) := by decide +kernel
theorem dX9_signOf_9 : decode cX9_signOf 9 = .ok (.iload_n 1, 1) := by decide +kernel
theorem dX9_signOf_10 : decode cX9_signOf 10 = .ok (.invokevirtual 177, 3) := by decide +kernel
theorem dX9_signOf_13 : decode cX9_signOf 13 = .ok (.goto 4, 3) := by decide +kernel
theorem dX9_signOf_16 : decode cX9_signOf 16 = .ok (.iconst 0, 1) := by decide +kernel
theorem dX9_signOf_17 : decode cX9_signOf 17 = .ok (.ireturn, 1) := by decide +kernel
theorem dX9_signByRemainders_0 : decode cX9_signByRemainders 0 = .ok (.aload_n 0, 1) := by decide +kernel
theorem dX9_signByRemainders_1 : decode cX9_signByRemainders 1 = .ok (.iload_n 1, 1) := by decide +kernel
theorem dX9_signByRemainders_2 : decode cX9_signByRemainders 2 = .ok (.invokevirtual 174, 3) := by decide +kernel
theorem dX9_signByRemainders_5 : decode cX9_signByRemainders 5 = .ok (.ifCond .eq 11, 3) := by decide +kernel
theorem dX9_signByRemainders_8 : decode cX9_signByRemainders 8 = .ok (.aload_n 0, 1) := by decide +kernel
theorem dX9_signByRemainders_9 : decode cX9_signByRemainders 9 = .ok (.iload_n 1, 1) := by decide +kernel
theorem dX9_signByRemainders_10 : decode cX9_signByRemainders 10 = .ok (.invokevirtual 177, 3) := by decide +kernel
theorem dX9_signByRemainders_13 : decode cX9_signByRemainders 13 = .ok (.goto 4, 3) := by decide +kernel
theorem dX9_signByRemainders_16 : decode cX9_signByRemainders 16 = .ok (.iconst 0, 1) := by decide +kernel
theorem dX9_signByRemainders_17 : decode cX9_signByRemainders 17 = .ok (.ireturn, 1) := by decide +kernel
theorem dX9_nearRoot_0 : decode cX9_nearRoot 0 = .ok (.aload_n 0, 1) := by decide +kernel
theorem dX9_nearRoot_1 : decode cX9_nearRoot 1 = .ok (.iload_n 1, 1) := by decide +kernel
theorem dX9_nearRoot_2 : decode cX9_nearRoot 2 = .ok (.invokevirtual 174, 3) := by decide +kernel
theorem dX9_nearRoot_5 : decode cX9_nearRoot 5 = .ok (.ifCond .ne 5, 3) := by decide +kernel
theorem dX9_nearRoot_8 : decode cX9_nearRoot 8 = .ok (.fconst 0, 1) := by decide +kernel
theorem dX9_nearRoot_9 : decode cX9_nearRoot 9 = .ok (.freturn, 1) := by decide +kernel
theorem dX9_nearRoot_10 : decode cX9_nearRoot 10 = .ok (.aload_n 0, 1) := by decide +kernel
theorem dX9_nearRoot_11 : decode cX9_nearRoot 11 = .ok (.iload_n 1, 1) := by decide +kernel
theorem dX9_nearRoot_12 : decode cX9_nearRoot 12 = .ok (.aload_n 0, 1) := by decide +kernel
theorem dX9_nearRoot_13 : decode cX9_nearRoot 13 = .ok (.iload_n 1, 1) := by decide +kernel
theorem dX9_nearRoot_14 : decode cX9_nearRoot 14 = .ok (.invokevirtual 89, 3) := by decide +kernel
theorem dX9_nearRoot_17 : decode cX9_nearRoot 17 = .ok (.invokevirtual 136, 3) := by decide +kernel
theorem dX9_nearRoot_20 : decode cX9_nearRoot 20 = .ok (.aload_n 0, 1) := by decide +kernel
theorem dX9_nearRoot_21 : decode cX9_nearRoot 21 = .ok (.aload_n 0, 1) := by decide +kernel
theorem dX9_nearRoot_22 : decode cX9_nearRoot 22 = .ok (.getfield 107, 3) := by decide +kernel
theorem dX9_nearRoot_25 : decode cX9_nearRoot 25 = .ok (.lconst 0, 1) := by decide +kernel
theorem dX9_nearRoot_26 : decode cX9_nearRoot 26 = .ok (.lcmp, 1) := by decide +kernel
theorem dX9_nearRoot_27 : decode cX9_nearRoot 27 = .ok (.ifCond .ne 7, 3) := by decide +kernel
theorem dX9_nearRoot_30 : decode cX9_nearRoot 30 = .ok (.iconst 2, 1) := by decide +kernel
theorem dX9_nearRoot_31 : decode cX9_nearRoot 31 = .ok (.goto 4, 3) := by decide +kernel
theorem dX9_nearRoot_34 : decode cX9_nearRoot 34 = .ok (.iconst 0, 1) := by decide +kernel
theorem dX9_nearRoot_35 : decode cX9_nearRoot 35 = .ok (.putfield 32, 3) := by decide +kernel
theorem dX9_nearRoot_38 : decode cX9_nearRoot 38 = .ok (.aload_n 0, 1) := by decide +kernel
theorem dX9_nearRoot_39 : decode cX9_nearRoot 39 = .ok (.getfield 107, 3) := by decide +kernel
theorem dX9_nearRoot_42 : decode cX9_nearRoot 42 = .ok (.lconst 0, 1) := by decide +kernel
theorem dX9_nearRoot_43 : decode cX9_nearRoot 43 = .ok (.lcmp, 1) := by decide +kernel
theorem dX9_nearRoot_44 : decode cX9_nearRoot 44 = .ok (.ifCond .ne 7, 3) := by decide +kernel
theorem dX9_nearRoot_47 : decode cX9_nearRoot 47 = .ok (.fconst 0, 1) := by decide +kernel
theorem dX9_nearRoot_48 : decode cX9_nearRoot 48 = .ok (.goto 14, 3) := by decide +kernel
theorem dX9_nearRoot_51 : decode cX9_nearRoot 51 = .ok (.aload_n 0, 1) := by decide +kernel
theorem dX9_nearRoot_52 : decode cX9_nearRoot 52 = .ok (.getfield 104, 3) := by decide +kernel
theorem dX9_nearRoot_55 : decode cX9_nearRoot 55 = .ok (.l2f, 1) := by decide +kernel
theorem dX9_nearRoot_56 : decode cX9_nearRoot 56 = .ok (.aload_n 0, 1) := by decide +kernel
theorem dX9_nearRoot_57 : decode cX9_nearRoot 57 = .ok (.getfield 107, 3) := by decide +kernel
theorem dX9_nearRoot_60 : decode cX9_nearRoot 60 = .ok (.l2f, 1) := by decide +kernel
theorem dX9_nearRoot_61 : decode cX9_nearRoot 61 = .ok (.fdiv, 1) := by decide +kernel
theorem dX9_nearRoot_62 : decode cX9_nearRoot 62 = .ok (.freturn, 1) := by decide +kernel
theorem dX9_goesOn_0 : decode cX9_goesOn 0 = .ok (.aload_n 0, 1) := by decide +kernel
theorem dX9_goesOn_1 : decode cX9_goesOn 1 = .ok (.iload_n 1, 1) := by decide +kernel
theorem dX9_goesOn_2 : decode cX9_goesOn 2 = .ok (.invokevirtual 112, 3) := by decide +kernel
theorem dX9_goesOn_5 : decode cX9_goesOn 5 = .ok (.aload_n 0, 1) := by decide +kernel
theorem dX9_goesOn_6 : decode cX9_goesOn 6 = .ok (.aload_n 0, 1) := by decide +kernel
theorem dX9_goesOn_7 : decode cX9_goesOn 7 = .ok (.getfield 25, 3) := by decide +kernel
theorem dX9_goesOn_10 : decode cX9_goesOn 10 = .ok (.iload_n 1, 1) := by decide +kernel
theorem dX9_goesOn_11 : decode cX9_goesOn 11 = .ok (.laload, 1) := by decide +kernel
theorem dX9_goesOn_12 : decode cX9_goesOn 12 = .ok (.putfield 104, 3) := by decide +kernel
theorem dX9_goesOn_15 : decode cX9_goesOn 15 = .ok (.aload_n 0, 1) := by decide +kernel
theorem dX9_goesOn_16 : decode cX9_goesOn 16 = .ok (.aload_n 0, 1) := by decide +kernel
theorem dX9_goesOn_17 : decode cX9_goesOn 17 = .ok (.getfield 29, 3) := by decide +kernel
theorem dX9_goesOn_20 : decode cX9_goesOn 20 = .ok (.iload_n 1, 1) := by decide +kernel
theorem dX9_goesOn_21 : decode cX9_goesOn 21 = .ok (.laload, 1) := by decide +kernel
theorem dX9_goesOn_22 : decode cX9_goesOn 22 = .ok (.putfield 107, 3) := by decide +kernel
theorem dX9_goesOn_25 : decode cX9_goesOn 25 = .ok (.aload_n 0, 1) := by decide +kernel
theorem dX9_goesOn_26 : decode cX9_goesOn 26 = .ok (.iload_n 1, 1) := by decide +kernel
theorem dX9_goesOn_27 : decode cX9_goesOn 27 = .ok (.invokevirtual 115, 3) := by decide +kernel
theorem dX9_goesOn_30 : decode cX9_goesOn 30 = .ok (.istore_n 2, 1) := by decide +kernel
theorem dX9_goesOn_31 : decode cX9_goesOn 31 = .ok (.aload_n 0, 1) := by decide +kernel
theorem dX9_goesOn_32 : decode cX9_goesOn 32 = .ok (.getfield 25, 3) := by decide +kernel
theorem dX9_goesOn_35 : decode cX9_goesOn 35 = .ok (.iload_n 1, 1) := by decide +kernel
theorem dX9_goesOn_36 : decode cX9_goesOn 36 = .ok (.iload_n 2, 1) := by decide +kernel
theorem dX9_goesOn_37 : decode cX9_goesOn 37 = .ok (.ifCond .eq 10, 3) := by decide +kernel
theorem dX9_goesOn_40 : decode cX9_goesOn 40 = .ok (.aload_n 0, 1) := by decide +kernel
theorem dX9_goesOn_41 : decode cX9_goesOn 41 = .ok (.getfield 104, 3) := by decide +kernel
theorem dX9_goesOn_44 : decode cX9_goesOn 44 = .ok (.goto 4, 3) := by decide +kernel
theorem dX9_goesOn_47 : decode cX9_goesOn 47 = .ok (.lconst 0, 1) := by decide +kernel
theorem dX9_goesOn_48 : decode cX9_goesOn 48 = .ok (.lastore, 1) := by decide +kernel
theorem dX9_goesOn_49 : decode cX9_goesOn 49 = .ok (.aload_n 0, 1) := by decide +kernel
theorem dX9_goesOn_50 : decode cX9_goesOn 50 = .ok (.getfield 29, 3) := by decide +kernel
theorem dX9_goesOn_53 : decode cX9_goesOn 53 = .ok (.iload_n 1, 1) := by decide +kernel
theorem dX9_goesOn_54 : decode cX9_goesOn 54 = .ok (.iload_n 2, 1) := by decide +kernel
theorem dX9_goesOn_55 : decode cX9_goesOn 55 = .ok (.ifCond .eq 10, 3) := by decide +kernel
theorem dX9_goesOn_58 : decode cX9_goesOn 58 = .ok (.aload_n 0, 1) := by decide +kernel
theorem dX9_goesOn_59 : decode cX9_goesOn 59 = .ok (.getfield 107, 3) := by decide +kernel
theorem dX9_goesOn_62 : decode cX9_goesOn 62 = .ok (.goto 4, 3) := by decide +kernel
theorem dX9_goesOn_65 : decode cX9_goesOn 65 = .ok (.lconst 0, 1) := by decide +kernel
theorem dX9_goesOn_66 : decode cX9_goesOn 66 = .ok (.lastore, 1) := by decide +kernel
theorem dX9_goesOn_67 : decode cX9_goesOn 67 = .ok (.return_, 1) := by decide +kernel
theorem dX9_beginsSolutions_0 : decode cX9_beginsSolutions 0 = .ok (.iconst 2, 1) := by decide +kernel
theorem dX9_beginsSolutions_1 : decode cX9_beginsSolutions 1 = .ok (.istore_n 1, 1) := by decide +kernel
theorem dX9_beginsSolutions_2 : decode cX9_beginsSolutions 2 = .ok (.iload_n 1, 1) := by decide +kernel
theorem dX9_beginsSolutions_3 : decode cX9_beginsSolutions 3 = .ok (.bipush 60, 2) := by decide +kernel
theorem dX9_beginsSolutions_5 : decode cX9_beginsSolutions 5 = .ok (.if_icmp .gt 54, 3) := by decide +kernel
theorem dX9_beginsSolutions_8 : decode cX9_beginsSolutions 8 = .ok (.aload_n 0, 1) := by decide +kernel
theorem dX9_beginsSolutions_9 : decode cX9_beginsSolutions 9 = .ok (.iload_n 1, 1) := by decide +kernel
theorem dX9_beginsSolutions_10 : decode cX9_beginsSolutions 10 = .ok (.invokevirtual 89, 3) := by decide +kernel
theorem dX9_beginsSolutions_13 : decode cX9_beginsSolutions 13 = .ok (.ifCond .lt 7, 3) := by decide +kernel
theorem dX9_beginsSolutions_16 : decode cX9_beginsSolutions 16 = .ok (.iconst 1, 1) := by decide +kernel
theorem dX9_beginsSolutions_17 : decode cX9_beginsSolutions 17 = .ok (.goto 4, 3) := by decide +kernel
theorem dX9_beginsSolutions_20 : decode cX9_beginsSolutions 20 = .ok (.iconst 0, 1) := by decide +kernel
theorem dX9_beginsSolutions_21 : decode cX9_beginsSolutions 21 = .ok (.istore_n 2, 1) := by decide +kernel
theorem dX9_beginsSolutions_22 : decode cX9_beginsSolutions 22 = .ok (.aload_n 0, 1) := by decide +kernel
theorem dX9_beginsSolutions_23 : decode cX9_beginsSolutions 23 = .ok (.getfield 25, 3) := by decide +kernel
theorem dX9_beginsSolutions_26 : decode cX9_beginsSolutions 26 = .ok (.iload_n 1, 1) := by decide +kernel
theorem dX9_beginsSolutions_27 : decode cX9_beginsSolutions 27 = .ok (.iload_n 2, 1) := by decide +kernel
theorem dX9_beginsSolutions_28 : decode cX9_beginsSolutions 28 = .ok (.ifCond .eq 7, 3) := by decide +kernel
theorem dX9_beginsSolutions_31 : decode cX9_beginsSolutions 31 = .ok (.lconst 1, 1) := by decide +kernel
theorem dX9_beginsSolutions_32 : decode cX9_beginsSolutions 32 = .ok (.goto 4, 3) := by decide +kernel
theorem dX9_beginsSolutions_35 : decode cX9_beginsSolutions 35 = .ok (.lconst 0, 1) := by decide +kernel
theorem dX9_beginsSolutions_36 : decode cX9_beginsSolutions 36 = .ok (.lastore, 1) := by decide +kernel
theorem dX9_beginsSolutions_37 : decode cX9_beginsSolutions 37 = .ok (.aload_n 0, 1) := by decide +kernel
theorem dX9_beginsSolutions_38 : decode cX9_beginsSolutions 38 = .ok (.getfield 29, 3) := by decide +kernel
theorem dX9_beginsSolutions_41 : decode cX9_beginsSolutions 41 = .ok (.iload_n 1, 1) := by decide +kernel
theorem dX9_beginsSolutions_42 : decode cX9_beginsSolutions 42 = .ok (.lconst 0, 1) := by decide +kernel
theorem dX9_beginsSolutions_43 : decode cX9_beginsSolutions 43 = .ok (.lastore, 1) := by decide +kernel
theorem dX9_beginsSolutions_44 : decode cX9_beginsSolutions 44 = .ok (.iload_n 2, 1) := by decide +kernel
theorem dX9_beginsSolutions_45 : decode cX9_beginsSolutions 45 = .ok (.ifCond .eq 8, 3) := by decide +kernel
theorem dX9_beginsSolutions_48 : decode cX9_beginsSolutions 48 = .ok (.aload_n 0, 1) := by decide +kernel
theorem dX9_beginsSolutions_49 : decode cX9_beginsSolutions 49 = .ok (.iload_n 1, 1) := by decide +kernel
theorem dX9_beginsSolutions_50 : decode cX9_beginsSolutions 50 = .ok (.invokevirtual 180, 3) := by decide +kernel
theorem dX9_beginsSolutions_53 : decode cX9_beginsSolutions 53 = .ok (.iinc 1 1, 3) := by decide +kernel
theorem dX9_beginsSolutions_56 : decode cX9_beginsSolutions 56 = .ok (.goto (-54), 3) := by decide +kernel
theorem dX9_beginsSolutions_59 : decode cX9_beginsSolutions 59 = .ok (.return_, 1) := by decide +kernel
theorem dX9_leastNext_0 : decode cX9_leastNext 0 = .ok (.iconst 0, 1) := by decide +kernel
theorem dX9_leastNext_1 : decode cX9_leastNext 1 = .ok (.istore_n 1, 1) := by decide +kernel
theorem dX9_leastNext_2 : decode cX9_leastNext 2 = .ok (.iconst 2, 1) := by decide +kernel
theorem dX9_leastNext_3 : decode cX9_leastNext 3 = .ok (.istore_n 2, 1) := by decide +kernel
theorem dX9_leastNext_4 : decode cX9_leastNext 4 = .ok (.iload_n 2, 1) := by decide +kernel
theorem dX9_leastNext_5 : decode cX9_leastNext 5 = .ok (.bipush 60, 2) := by decide +kernel
theorem dX9_leastNext_7 : decode cX9_leastNext 7 = .ok (.if_icmp .gt 56, 3) := by decide +kernel
theorem dX9_leastNext_10 : decode cX9_leastNext 10 = .ok (.aload_n 0, 1) := by decide +kernel
theorem dX9_leastNext_11 : decode cX9_leastNext 11 = .ok (.getfield 25, 3) := by decide +kernel
theorem dX9_leastNext_14 : decode cX9_leastNext 14 = .ok (.iload_n 2, 1) := by decide +kernel
theorem dX9_leastNext_15 : decode cX9_leastNext 15 = .ok (.laload, 1) := by decide +kernel
theorem dX9_leastNext_16 : decode cX9_leastNext 16 = .ok (.lconst 0, 1) := by decide +kernel
theorem dX9_leastNext_17 : decode cX9_leastNext 17 = .ok (.lcmp, 1) := by decide +kernel
theorem dX9_leastNext_18 : decode cX9_leastNext 18 = .ok (.ifCond .le 27, 3) := by decide +kernel
theorem dX9_leastNext_21 : decode cX9_leastNext 21 = .ok (.iload_n 1, 1) := by decide +kernel
theorem dX9_leastNext_22 : decode cX9_leastNext 22 = .ok (.ifCond .eq 19, 3) := by decide +kernel
theorem dX9_leastNext_25 : decode cX9_leastNext 25 = .ok (.aload_n 0, 1) := by decide +kernel
theorem dX9_leastNext_26 : decode cX9_leastNext 26 = .ok (.getfield 25, 3) := by decide +kernel
theorem dX9_leastNext_29 : decode cX9_leastNext 29 = .ok (.iload_n 2, 1) := by decide +kernel
theorem dX9_leastNext_30 : decode cX9_leastNext 30 = .ok (.laload, 1) := by decide +kernel
theorem dX9_leastNext_31 : decode cX9_leastNext 31 = .ok (.aload_n 0, 1) := by decide +kernel
theorem dX9_leastNext_32 : decode cX9_leastNext 32 = .ok (.getfield 25, 3) := by decide +kernel
theorem dX9_leastNext_35 : decode cX9_leastNext 35 = .ok (.iload_n 1, 1) := by decide +kernel
theorem dX9_leastNext_36 : decode cX9_leastNext 36 = .ok (.laload, 1) := by decide +kernel
theorem dX9_leastNext_37 : decode cX9_leastNext 37 = .ok (.lcmp, 1) := by decide +kernel
theorem dX9_leastNext_38 : decode cX9_leastNext 38 = .ok (.ifCond .ge 7, 3) := by decide +kernel
theorem dX9_leastNext_41 : decode cX9_leastNext 41 = .ok (.iconst 1, 1) := by decide +kernel
theorem dX9_leastNext_42 : decode cX9_leastNext 42 = .ok (.goto 4, 3) := by decide +kernel
theorem dX9_leastNext_45 : decode cX9_leastNext 45 = .ok (.iconst 0, 1) := by decide +kernel
theorem dX9_leastNext_46 : decode cX9_leastNext 46 = .ok (.istore_n 3, 1) := by decide +kernel
theorem dX9_leastNext_47 : decode cX9_leastNext 47 = .ok (.iload_n 3, 1) := by decide +kernel
theorem dX9_leastNext_48 : decode cX9_leastNext 48 = .ok (.ifCond .eq 7, 3) := by decide +kernel
theorem dX9_leastNext_51 : decode cX9_leastNext 51 = .ok (.iload_n 2, 1) := by decide +kernel
theorem dX9_leastNext_52 : decode cX9_leastNext 52 = .ok (.goto 4, 3) := by decide +kernel
theorem dX9_leastNext_55 : decode cX9_leastNext 55 = .ok (.iload_n 1, 1) := by decide +kernel
theorem dX9_leastNext_56 : decode cX9_leastNext 56 = .ok (.istore_n 1, 1) := by decide +kernel
theorem dX9_leastNext_57 : decode cX9_leastNext 57 = .ok (.iinc 2 1, 3) := by decide +kernel
theorem dX9_leastNext_60 : decode cX9_leastNext 60 = .ok (.goto (-56), 3) := by decide +kernel
theorem dX9_leastNext_63 : decode cX9_leastNext 63 = .ok (.iload_n 1, 1) := by decide +kernel
theorem dX9_leastNext_64 : decode cX9_leastNext 64 = .ok (.ireturn, 1) := by decide +kernel
theorem dX9_countTo_0 : decode cX9_countTo 0 = .ok (.aload_n 0, 1) := by decide +kernel
theorem dX9_countTo_1 : decode cX9_countTo 1 = .ok (.invokevirtual 183, 3) := by decide +kernel
theorem dX9_countTo_4 : decode cX9_countTo 4 = .ok (.iconst 0, 1) := by decide +kernel
theorem dX9_countTo_5 : decode cX9_countTo 5 = .ok (.istore_n 3, 1) := by decide +kernel
theorem dX9_countTo_6 : decode cX9_countTo 6 = .ok (.aload_n 0, 1) := by decide +kernel
theorem dX9_countTo_7 : decode cX9_countTo 7 = .ok (.invokevirtual 186, 3) := by decide +kernel
theorem dX9_countTo_10 : decode cX9_countTo 10 = .ok (.istore 4, 2) := by decide +kernel
theorem dX9_countTo_12 : decode cX9_countTo 12 = .ok (.iload 4, 2) := by decide +kernel
theorem dX9_countTo_14 : decode cX9_countTo 14 = .ok (.ifCond .le 33, 3) := by decide +kernel
theorem dX9_countTo_17 : decode cX9_countTo 17 = .ok (.aload_n 0, 1) := by decide +kernel
theorem dX9_countTo_18 : decode cX9_countTo 18 = .ok (.getfield 25, 3) := by decide +kernel
theorem dX9_countTo_21 : decode cX9_countTo 21 = .ok (.iload 4, 2) := by decide +kernel
theorem dX9_countTo_23 : decode cX9_countTo 23 = .ok (.laload, 1) := by decide +kernel
theorem dX9_countTo_24 : decode cX9_countTo 24 = .ok (.lload_n 1, 1) := by decide +kernel
theorem dX9_countTo_25 : decode cX9_countTo 25 = .ok (.lcmp, 1) := by decide +kernel
theorem dX9_countTo_26 : decode cX9_countTo 26 = .ok (.ifCond .gt 21, 3) := by decide +kernel
theorem dX9_countTo_29 : decode cX9_countTo 29 = .ok (.iinc 3 1, 3) := by decide +kernel
theorem dX9_countTo_32 : decode cX9_countTo 32 = .ok (.aload_n 0, 1) := by decide +kernel
theorem dX9_countTo_33 : decode cX9_countTo 33 = .ok (.iload 4, 2) := by decide +kernel
theorem dX9_countTo_35 : decode cX9_countTo 35 = .ok (.invokevirtual 180, 3) := by decide +kernel
theorem dX9_countTo_38 : decode cX9_countTo 38 = .ok (.aload_n 0, 1) := by decide +kernel
theorem dX9_countTo_39 : decode cX9_countTo 39 = .ok (.invokevirtual 186, 3) := by decide +kernel
theorem dX9_countTo_42 : decode cX9_countTo 42 = .ok (.istore 4, 2) := by decide +kernel
theorem dX9_countTo_44 : decode cX9_countTo 44 = .ok (.goto (-32), 3) := by decide +kernel
theorem dX9_countTo_47 : decode cX9_countTo 47 = .ok (.iload_n 3, 1) := by decide +kernel
theorem dX9_countTo_48 : decode cX9_countTo 48 = .ok (.ireturn, 1) := by decide +kernel
theorem dX9_solutions_0 : decode cX9_solutions 0 = .ok (.aload_n 0, 1) := by decide +kernel
theorem dX9_solutions_1 : decode cX9_solutions 1 = .ok (.iconst 0, 1) := by decide +kernel
theorem dX9_solutions_2 : decode cX9_solutions 2 = .ok (.putfield 32, 3) := by decide +kernel
theorem dX9_solutions_5 : decode cX9_solutions 5 = .ok (.aload_n 0, 1) := by decide +kernel
theorem dX9_solutions_6 : decode cX9_solutions 6 = .ok (.ldc2_w 110, 3) := by decide +kernel
theorem dX9_solutions_9 : decode cX9_solutions 9 = .ok (.invokevirtual 189, 3) := by decide +kernel
theorem dX9_solutions_12 : decode cX9_solutions 12 = .ok (.ireturn, 1) := by decide +kernel
theorem dX9_solution_0 : decode cX9_solution 0 = .ok (.aload_n 0, 1) := by decide +kernel
theorem dX9_solution_1 : decode cX9_solution 1 = .ok (.iload_n 1, 1) := by decide +kernel
theorem dX9_solution_2 : decode cX9_solution 2 = .ok (.ifCond .lt 7, 3) := by decide +kernel
theorem dX9_solution_5 : decode cX9_solution 5 = .ok (.iconst 1, 1) := by decide +kernel
theorem dX9_solution_6 : decode cX9_solution 6 = .ok (.goto 4, 3) := by decide +kernel
theorem dX9_solution_9 : decode cX9_solution 9 = .ok (.iconst 0, 1) := by decide +kernel
theorem dX9_solution_10 : decode cX9_solution 10 = .ok (.invokevirtual 161, 3) := by decide +kernel
theorem dX9_solution_13 : decode cX9_solution 13 = .ok (.ifCond .ne 5, 3) := by decide +kernel
theorem dX9_solution_16 : decode cX9_solution 16 = .ok (.iconst 0, 1) := by decide +kernel
theorem dX9_solution_17 : decode cX9_solution 17 = .ok (.ireturn, 1) := by decide +kernel
theorem dX9_solution_18 : decode cX9_solution 18 = .ok (.aload_n 0, 1) := by decide +kernel
theorem dX9_solution_19 : decode cX9_solution 19 = .ok (.invokevirtual 183, 3) := by decide +kernel
theorem dX9_solution_22 : decode cX9_solution 22 = .ok (.aload_n 0, 1) := by decide +kernel
theorem dX9_solution_23 : decode cX9_solution 23 = .ok (.invokevirtual 186, 3) := by decide +kernel
theorem dX9_solution_26 : decode cX9_solution 26 = .ok (.istore_n 2, 1) := by decide +kernel
theorem dX9_solution_27 : decode cX9_solution 27 = .ok (.iload_n 1, 1) := by decide +kernel
theorem dX9_solution_28 : decode cX9_solution 28 = .ok (.istore_n 3, 1) := by decide +kernel
theorem dX9_solution_29 : decode cX9_solution 29 = .ok (.iload_n 2, 1) := by decide +kernel
theorem dX9_solution_30 : decode cX9_solution 30 = .ok (.ifCond .le 23, 3) := by decide +kernel
theorem dX9_solution_33 : decode cX9_solution 33 = .ok (.iload_n 3, 1) := by decide +kernel
theorem dX9_solution_34 : decode cX9_solution 34 = .ok (.ifCond .le 19, 3) := by decide +kernel
theorem dX9_solution_37 : decode cX9_solution 37 = .ok (.aload_n 0, 1) := by decide +kernel
theorem dX9_solution_38 : decode cX9_solution 38 = .ok (.iload_n 2, 1) := by decide +kernel
theorem dX9_solution_39 : decode cX9_solution 39 = .ok (.invokevirtual 180, 3) := by decide +kernel
theorem dX9_solution_42 : decode cX9_solution 42 = .ok (.aload_n 0, 1) := by decide +kernel
theorem dX9_solution_43 : decode cX9_solution 43 = .ok (.invokevirtual 186, 3) := by decide +kernel
theorem dX9_solution_46 : decode cX9_solution 46 = .ok (.istore_n 2, 1) := by decide +kernel
theorem dX9_solution_47 : decode cX9_solution 47 = .ok (.iinc 3 (-1), 3) := by decide +kernel
theorem dX9_solution_50 : decode cX9_solution 50 = .ok (.goto (-21), 3) := by decide +kernel
theorem dX9_solution_53 : decode cX9_solution 53 = .ok (.aload_n 0, 1) := by decide +kernel
theorem dX9_solution_54 : decode cX9_solution 54 = .ok (.iload_n 2, 1) := by decide +kernel
theorem dX9_solution_55 : decode cX9_solution 55 = .ok (.ifCond .ne 7, 3) := by decide +kernel
theorem dX9_solution_58 : decode cX9_solution 58 = .ok (.iconst 2, 1) := by decide +kernel
theorem dX9_solution_59 : decode cX9_solution 59 = .ok (.goto 4, 3) := by decide +kernel
theorem dX9_solution_62 : decode cX9_solution 62 = .ok (.iconst 0, 1) := by decide +kernel
theorem dX9_solution_63 : decode cX9_solution 63 = .ok (.putfield 32, 3) := by decide +kernel
theorem dX9_solution_66 : decode cX9_solution 66 = .ok (.iload_n 2, 1) := by decide +kernel
theorem dX9_solution_67 : decode cX9_solution 67 = .ok (.ireturn, 1) := by decide +kernel
theorem dX9_solutionX_0 : decode cX9_solutionX 0 = .ok (.aload_n 0, 1) := by decide +kernel
theorem dX9_solutionX_1 : decode cX9_solutionX 1 = .ok (.iload_n 1, 1) := by decide +kernel
theorem dX9_solutionX_2 : decode cX9_solutionX 2 = .ok (.invokevirtual 193, 3) := by decide +kernel
theorem dX9_solutionX_5 : decode cX9_solutionX 5 = .ok (.istore_n 2, 1) := by decide +kernel
theorem dX9_solutionX_6 : decode cX9_solutionX 6 = .ok (.aload_n 0, 1) := by decide +kernel
theorem dX9_solutionX_7 : decode cX9_solutionX 7 = .ok (.getfield 32, 3) := by decide +kernel
theorem dX9_solutionX_10 : decode cX9_solutionX 10 = .ok (.ifCond .le 7, 3) := by decide +kernel
theorem dX9_solutionX_13 : decode cX9_solutionX 13 = .ok (.lconst 0, 1) := by decide +kernel
theorem dX9_solutionX_14 : decode cX9_solutionX 14 = .ok (.goto 9, 3) := by decide +kernel
theorem dX9_solutionX_17 : decode cX9_solutionX 17 = .ok (.aload_n 0, 1) := by decide +kernel
theorem dX9_solutionX_18 : decode cX9_solutionX 18 = .ok (.getfield 25, 3) := by decide +kernel
theorem dX9_solutionX_21 : decode cX9_solutionX 21 = .ok (.iload_n 2, 1) := by decide +kernel
theorem dX9_solutionX_22 : decode cX9_solutionX 22 = .ok (.laload, 1) := by decide +kernel
theorem dX9_solutionX_23 : decode cX9_solutionX 23 = .ok (.lreturn, 1) := by decide +kernel
theorem dX9_xAt_0 : decode cX9_xAt 0 = .ok (.aload_n 0, 1) := by decide +kernel
theorem dX9_xAt_1 : decode cX9_xAt 1 = .ok (.iload_n 1, 1) := by decide +kernel
theorem dX9_xAt_2 : decode cX9_xAt 2 = .ok (.invokevirtual 196, 3) := by decide +kernel
theorem dX9_xAt_5 : decode cX9_xAt 5 = .ok (.lreturn, 1) := by decide +kernel
theorem dX9_xAtBySet_0 : decode cX9_xAtBySet 0 = .ok (.aload_n 0, 1) := by decide +kernel
theorem dX9_xAtBySet_1 : decode cX9_xAtBySet 1 = .ok (.iload_n 1, 1) := by decide +kernel
theorem dX9_xAtBySet_2 : decode cX9_xAtBySet 2 = .ok (.invokevirtual 196, 3) := by decide +kernel
theorem dX9_xAtBySet_5 : decode cX9_xAtBySet 5 = .ok (.lreturn, 1) := by decide +kernel
theorem dX9_stoneAt_0 : decode cX9_stoneAt 0 = .ok (.aload_n 0, 1) := by decide +kernel
theorem dX9_stoneAt_1 : decode cX9_stoneAt 1 = .ok (.iload_n 1, 1) := by decide +kernel
theorem dX9_stoneAt_2 : decode cX9_stoneAt 2 = .ok (.invokevirtual 193, 3) := by decide +kernel
theorem dX9_stoneAt_5 : decode cX9_stoneAt 5 = .ok (.ireturn, 1) := by decide +kernel
theorem dX9_solutionsUpTo_0 : decode cX9_solutionsUpTo 0 = .ok (.aload_n 0, 1) := by decide +kernel
theorem dX9_solutionsUpTo_1 : decode cX9_solutionsUpTo 1 = .ok (.lload_n 1, 1) := by decide +kernel
theorem dX9_solutionsUpTo_2 : decode cX9_solutionsUpTo 2 = .ok (.lconst 0, 1) := by decide +kernel
theorem dX9_solutionsUpTo_3 : decode cX9_solutionsUpTo 3 = .ok (.lcmp, 1) := by decide +kernel
theorem dX9_solutionsUpTo_4 : decode cX9_solutionsUpTo 4 = .ok (.ifCond .lt 15, 3) := by decide +kernel
theorem dX9_solutionsUpTo_7 : decode cX9_solutionsUpTo 7 = .ok (.lload_n 1, 1) := by decide +kernel
theorem dX9_solutionsUpTo_8 : decode cX9_solutionsUpTo 8 = .ok (.ldc2_w 110, 3) := by decide +kernel
theorem dX9_solutionsUpTo_11 : decode cX9_solutionsUpTo 11 = .ok (.lcmp, 1) := by decide +kernel
theorem dX9_solutionsUpTo_12 : decode cX9_solutionsUpTo 12 = .ok (.ifCond .gt 7, 3) := by decide +kernel
theorem dX9_solutionsUpTo_15 : decode cX9_solutionsUpTo 15 = .ok (.iconst 1, 1) := by decide +kernel
theorem dX9_solutionsUpTo_16 : decode cX9_solutionsUpTo 16 = .ok (.goto 4, 3) := by decide +kernel
theorem dX9_solutionsUpTo_19 : decode cX9_solutionsUpTo 19 = .ok (.iconst 0, 1) := by decide +kernel
theorem dX9_solutionsUpTo_20 : decode cX9_solutionsUpTo 20 = .ok (.invokevirtual 161, 3) := by decide +kernel
theorem dX9_solutionsUpTo_23 : decode cX9_solutionsUpTo 23 = .ok (.ifCond .eq 11, 3) := by decide +kernel
theorem dX9_solutionsUpTo_26 : decode cX9_solutionsUpTo 26 = .ok (.aload_n 0, 1) := by decide +kernel
theorem dX9_solutionsUpTo_27 : decode cX9_solutionsUpTo 27 = .ok (.lload_n 1, 1) := by decide +kernel
theorem dX9_solutionsUpTo_28 : decode cX9_solutionsUpTo 28 = .ok (.invokevirtual 189, 3) := by decide +kernel
theorem dX9_solutionsUpTo_31 : decode cX9_solutionsUpTo 31 = .ok (.goto 4, 3) := by decide +kernel
theorem dX9_solutionsUpTo_34 : decode cX9_solutionsUpTo 34 = .ok (.iconst 0, 1) := by decide +kernel
theorem dX9_solutionsUpTo_35 : decode cX9_solutionsUpTo 35 = .ok (.ireturn, 1) := by decide +kernel
theorem dX9_milled_0 : decode cX9_milled 0 = .ok (.aload_n 0, 1) := by decide +kernel
theorem dX9_milled_1 : decode cX9_milled 1 = .ok (.iconst 0, 1) := by decide +kernel
theorem dX9_milled_2 : decode cX9_milled 2 = .ok (.putfield 32, 3) := by decide +kernel
theorem dX9_milled_5 : decode cX9_milled 5 = .ok (.aload_n 0, 1) := by decide +kernel
theorem dX9_milled_6 : decode cX9_milled 6 = .ok (.getfield 7, 3) := by decide +kernel
theorem dX9_milled_9 : decode cX9_milled 9 = .ok (.bipush 59, 2) := by decide +kernel
theorem dX9_milled_11 : decode cX9_milled 11 = .ok (.iaload, 1) := by decide +kernel
theorem dX9_milled_12 : decode cX9_milled 12 = .ok (.ireturn, 1) := by decide +kernel
theorem dX9_minusStones_0 : decode cX9_minusStones 0 = .ok (.aload_n 0, 1) := by decide +kernel
theorem dX9_minusStones_1 : decode cX9_minusStones 1 = .ok (.iconst 0, 1) := by decide +kernel
theorem dX9_minusStones_2 : decode cX9_minusStones 2 = .ok (.putfield 32, 3) := by decide +kernel
theorem dX9_minusStones_5 : decode cX9_minusStones 5 = .ok (.iconst 0, 1) := by decide +kernel
theorem dX9_minusStones_6 : decode cX9_minusStones 6 = .ok (.istore_n 1, 1) := by decide +kernel
theorem dX9_minusStones_7 : decode cX9_minusStones 7 = .ok (.iconst 2, 1) := by decide +kernel
theorem dX9_minusStones_8 : decode cX9_minusStones 8 = .ok (.istore_n 2, 1) := by decide +kernel
theorem dX9_minusStones_9 : decode cX9_minusStones 9 = .ok (.iload_n 2, 1) := by decide +kernel
theorem dX9_minusStones_10 : decode cX9_minusStones 10 = .ok (.bipush 60, 2) := by decide +kernel
theorem dX9_minusStones_12 : decode cX9_minusStones 12 = .ok (.if_icmp .gt 33, 3) := by decide +kernel
theorem dX9_minusStones_15 : decode cX9_minusStones 15 = .ok (.iload_n 1, 1) := by decide +kernel
theorem dX9_minusStones_16 : decode cX9_minusStones 16 = .ok (.aload_n 0, 1) := by decide +kernel
theorem dX9_minusStones_17 : decode cX9_minusStones 17 = .ok (.iload_n 2, 1) := by decide +kernel
theorem dX9_minusStones_18 : decode cX9_minusStones 18 = .ok (.invokevirtual 89, 3) := by decide +kernel
theorem dX9_minusStones_21 : decode cX9_minusStones 21 = .ok (.ifCond .lt 15, 3) := by decide +kernel
theorem dX9_minusStones_24 : decode cX9_minusStones 24 = .ok (.aload_n 0, 1) := by decide +kernel
theorem dX9_minusStones_25 : decode cX9_minusStones 25 = .ok (.iload_n 2, 1) := by decide +kernel
theorem dX9_minusStones_26 : decode cX9_minusStones 26 = .ok (.invokevirtual 177, 3) := by decide +kernel
theorem dX9_minusStones_29 : decode cX9_minusStones 29 = .ok (.ifCond .ge 7, 3) := by decide +kernel
theorem dX9_minusStones_32 : decode cX9_minusStones 32 = .ok (.iconst 1, 1) := by decide +kernel
theorem dX9_minusStones_33 : decode cX9_minusStones 33 = .ok (.goto 4, 3) := by decide +kernel
theorem dX9_minusStones_36 : decode cX9_minusStones 36 = .ok (.iconst 0, 1) := by decide +kernel
theorem dX9_minusStones_37 : decode cX9_minusStones 37 = .ok (.iadd, 1) := by decide +kernel
theorem dX9_minusStones_38 : decode cX9_minusStones 38 = .ok (.istore_n 1, 1) := by decide +kernel
theorem dX9_minusStones_39 : decode cX9_minusStones 39 = .ok (.iinc 2 1, 3) := by decide +kernel
theorem dX9_minusStones_42 : decode cX9_minusStones 42 = .ok (.goto (-33), 3) := by decide +kernel
theorem dX9_minusStones_45 : decode cX9_minusStones 45 = .ok (.iload_n 1, 1) := by decide +kernel
theorem dX9_minusStones_46 : decode cX9_minusStones 46 = .ok (.ireturn, 1) := by decide +kernel
theorem dX9_states_0 : decode cX9_states 0 = .ok (.aload_n 0, 1) := by decide +kernel
theorem dX9_states_1 : decode cX9_states 1 = .ok (.iconst 0, 1) := by decide +kernel
theorem dX9_states_2 : decode cX9_states 2 = .ok (.putfield 32, 3) := by decide +kernel
theorem dX9_states_5 : decode cX9_states 5 = .ok (.aload_n 0, 1) := by decide +kernel
theorem dX9_states_6 : decode cX9_states 6 = .ok (.getfield 40, 3) := by decide +kernel
theorem dX9_states_9 : decode cX9_states 9 = .ok (.ireturn, 1) := by decide +kernel
theorem dX9_type_0 : decode cX9_type 0 = .ok (.aload_n 0, 1) := by decide +kernel
theorem dX9_type_1 : decode cX9_type 1 = .ok (.iconst 0, 1) := by decide +kernel
theorem dX9_type_2 : decode cX9_type 2 = .ok (.putfield 32, 3) := by decide +kernel
theorem dX9_type_5 : decode cX9_type 5 = .ok (.iload_n 1, 1) := by decide +kernel
theorem dX9_type_6 : decode cX9_type 6 = .ok (.bipush 32, 2) := by decide +kernel
theorem dX9_type_8 : decode cX9_type 8 = .ok (.bipush 126, 2) := by decide +kernel
theorem dX9_type_10 : decode cX9_type 10 = .ok (.invokestatic 50, 3) := by decide +kernel
theorem dX9_type_13 : decode cX9_type 13 = .ok (.ifCond .ne 9, 3) := by decide +kernel
theorem dX9_type_16 : decode cX9_type 16 = .ok (.aload_n 0, 1) := by decide +kernel
theorem dX9_type_17 : decode cX9_type 17 = .ok (.iconst 1, 1) := by decide +kernel
theorem dX9_type_18 : decode cX9_type 18 = .ok (.invokevirtual 43, 3) := by decide +kernel
theorem dX9_type_21 : decode cX9_type 21 = .ok (.ireturn, 1) := by decide +kernel
theorem dX9_type_22 : decode cX9_type 22 = .ok (.aload_n 0, 1) := by decide +kernel
theorem dX9_type_23 : decode cX9_type 23 = .ok (.getfield 200, 3) := by decide +kernel
theorem dX9_type_26 : decode cX9_type 26 = .ok (.bipush 60, 2) := by decide +kernel
theorem dX9_type_28 : decode cX9_type 28 = .ok (.if_icmp .ne 9, 3) := by decide +kernel
theorem dX9_type_31 : decode cX9_type 31 = .ok (.aload_n 0, 1) := by decide +kernel
theorem dX9_type_32 : decode cX9_type 32 = .ok (.iconst 2, 1) := by decide +kernel
theorem dX9_type_33 : decode cX9_type 33 = .ok (.invokevirtual 43, 3) := by decide +kernel
theorem dX9_type_36 : decode cX9_type 36 = .ok (.ireturn, 1) := by decide +kernel
theorem dX9_type_37 : decode cX9_type 37 = .ok (.aload_n 0, 1) := by decide +kernel
theorem dX9_type_38 : decode cX9_type 38 = .ok (.getfield 22, 3) := by decide +kernel
theorem dX9_type_41 : decode cX9_type 41 = .ok (.aload_n 0, 1) := by decide +kernel
theorem dX9_type_42 : decode cX9_type 42 = .ok (.getfield 200, 3) := by decide +kernel
theorem dX9_type_45 : decode cX9_type 45 = .ok (.iload_n 1, 1) := by decide +kernel
theorem dX9_type_46 : decode cX9_type 46 = .ok (.iastore, 1) := by decide +kernel
theorem dX9_type_47 : decode cX9_type 47 = .ok (.aload_n 0, 1) := by decide +kernel
theorem dX9_type_48 : decode cX9_type 48 = .ok (.dup, 1) := by decide +kernel
theorem dX9_type_49 : decode cX9_type 49 = .ok (.getfield 200, 3) := by decide +kernel
theorem dX9_type_52 : decode cX9_type 52 = .ok (.iconst 1, 1) := by decide +kernel
theorem dX9_type_53 : decode cX9_type 53 = .ok (.iadd, 1) := by decide +kernel
theorem dX9_type_54 : decode cX9_type 54 = .ok (.putfield 200, 3) := by decide +kernel
theorem dX9_type_57 : decode cX9_type 57 = .ok (.aload_n 0, 1) := by decide +kernel
theorem dX9_type_58 : decode cX9_type 58 = .ok (.getfield 200, 3) := by decide +kernel
theorem dX9_type_61 : decode cX9_type 61 = .ok (.ireturn, 1) := by decide +kernel
theorem dX9_clearText_0 : decode cX9_clearText 0 = .ok (.aload_n 0, 1) := by decide +kernel
theorem dX9_clearText_1 : decode cX9_clearText 1 = .ok (.iconst 0, 1) := by decide +kernel
theorem dX9_clearText_2 : decode cX9_clearText 2 = .ok (.putfield 32, 3) := by decide +kernel
theorem dX9_clearText_5 : decode cX9_clearText 5 = .ok (.aload_n 0, 1) := by decide +kernel
theorem dX9_clearText_6 : decode cX9_clearText 6 = .ok (.getfield 200, 3) := by decide +kernel
theorem dX9_clearText_9 : decode cX9_clearText 9 = .ok (.istore_n 1, 1) := by decide +kernel
theorem dX9_clearText_10 : decode cX9_clearText 10 = .ok (.aload_n 0, 1) := by decide +kernel
theorem dX9_clearText_11 : decode cX9_clearText 11 = .ok (.iconst 0, 1) := by decide +kernel
theorem dX9_clearText_12 : decode cX9_clearText 12 = .ok (.putfield 200, 3) := by decide +kernel
theorem dX9_clearText_15 : decode cX9_clearText 15 = .ok (.iload_n 1, 1) := by decide +kernel
theorem dX9_clearText_16 : decode cX9_clearText 16 = .ok (.ireturn, 1) := by decide +kernel
theorem dX9_here_0 : decode cX9_here 0 = .ok (.aload_n 0, 1) := by decide +kernel
theorem dX9_here_1 : decode cX9_here 1 = .ok (.getfield 203, 3) := by decide +kernel
theorem dX9_here_4 : decode cX9_here 4 = .ok (.aload_n 0, 1) := by decide +kernel
theorem dX9_here_5 : decode cX9_here 5 = .ok (.getfield 200, 3) := by decide +kernel
theorem dX9_here_8 : decode cX9_here 8 = .ok (.if_icmp .ge 15, 3) := by decide +kernel
theorem dX9_here_11 : decode cX9_here 11 = .ok (.aload_n 0, 1) := by decide +kernel
theorem dX9_here_12 : decode cX9_here 12 = .ok (.getfield 22, 3) := by decide +kernel
theorem dX9_here_15 : decode cX9_here 15 = .ok (.aload_n 0, 1) := by decide +kernel
theorem dX9_here_16 : decode cX9_here 16 = .ok (.getfield 203, 3) := by decide +kernel
theorem dX9_here_19 : decode cX9_here 19 = .ok (.iaload, 1) := by decide +kernel
theorem dX9_here_20 : decode cX9_here 20 = .ok (.goto 4, 3) := by decide +kernel
theorem dX9_here_23 : decode cX9_here 23 = .ok (.iconst 0, 1) := by decide +kernel
theorem dX9_here_24 : decode cX9_here 24 = .ok (.ireturn, 1) := by decide +kernel
theorem dX9_takes_0 : decode cX9_takes 0 = .ok (.aload_n 0, 1) := by decide +kernel
theorem dX9_takes_1 : decode cX9_takes 1 = .ok (.aload_n 0, 1) := by decide +kernel
theorem dX9_takes_2 : decode cX9_takes 2 = .ok (.getfield 206, 3) := by decide +kernel
theorem dX9_takes_5 : decode cX9_takes 5 = .ok (.ifCond .eq 11, 3) := by decide +kernel
theorem dX9_takes_8 : decode cX9_takes 8 = .ok (.iload_n 1, 1) := by decide +kernel
theorem dX9_takes_9 : decode cX9_takes 9 = .ok (.ifCond .eq 7, 3) := by decide +kernel
theorem dX9_takes_12 : decode cX9_takes 12 = .ok (.iconst 1, 1) := by decide +kernel
theorem dX9_takes_13 : decode cX9_takes 13 = .ok (.goto 4, 3) := by decide +kernel
theorem dX9_takes_16 : decode cX9_takes 16 = .ok (.iconst 0, 1) := by decide +kernel
theorem dX9_takes_17 : decode cX9_takes 17 = .ok (.putfield 206, 3) := by decide +kernel
theorem dX9_takes_20 : decode cX9_takes 20 = .ok (.aload_n 0, 1) := by decide +kernel
theorem dX9_takes_21 : decode cX9_takes 21 = .ok (.dup, 1) := by decide +kernel
theorem dX9_takes_22 : decode cX9_takes 22 = .ok (.getfield 203, 3) := by decide +kernel
theorem dX9_takes_25 : decode cX9_takes 25 = .ok (.aload_n 0, 1) := by decide +kernel
theorem dX9_takes_26 : decode cX9_takes 26 = .ok (.getfield 206, 3) := by decide +kernel
theorem dX9_takes_29 : decode cX9_takes 29 = .ok (.ifCond .eq 7, 3) := by decide +kernel
theorem dX9_takes_32 : decode cX9_takes 32 = .ok (.iconst 1, 1) := by decide +kernel
theorem dX9_takes_33 : decode cX9_takes 33 = .ok (.goto 4, 3) := by decide +kernel
theorem dX9_takes_36 : decode cX9_takes 36 = .ok (.iconst 0, 1) := by decide +kernel
theorem dX9_takes_37 : decode cX9_takes 37 = .ok (.iadd, 1) := by decide +kernel
theorem dX9_takes_38 : decode cX9_takes 38 = .ok (.putfield 203, 3) := by decide +kernel
theorem dX9_takes_41 : decode cX9_takes 41 = .ok (.return_, 1) := by decide +kernel
theorem dX9_takesNumber_0 : decode cX9_takesNumber 0 = .ok (.iconst 0, 1) := by decide +kernel
theorem dX9_takesNumber_1 : decode cX9_takesNumber 1 = .ok (.istore_n 1, 1) := by decide +kernel
theorem dX9_takesNumber_2 : decode cX9_takesNumber 2 = .ok (.iconst 0, 1) := by decide +kernel
theorem dX9_takesNumber_3 : decode cX9_takesNumber 3 = .ok (.istore_n 2, 1) := by decide +kernel
theorem dX9_takesNumber_4 : decode cX9_takesNumber 4 = .ok (.aload_n 0, 1) := by decide +kernel
theorem dX9_takesNumber_5 : decode cX9_takesNumber 5 = .ok (.getfield 206, 3) := by decide +kernel
theorem dX9_takesNumber_8 : decode cX9_takesNumber 8 = .ok (.ifCond .eq 51, 3) := by decide +kernel
theorem dX9_takesNumber_11 : decode cX9_takesNumber 11 = .ok (.iload_n 2, 1) := by decide +kernel
theorem dX9_takesNumber_12 : decode cX9_takesNumber 12 = .ok (.iconst 2, 1) := by decide +kernel
theorem dX9_takesNumber_13 : decode cX9_takesNumber 13 = .ok (.if_icmp .ge 46, 3) := by decide +kernel
theorem dX9_takesNumber_16 : decode cX9_takesNumber 16 = .ok (.aload_n 0, 1) := by decide +kernel
theorem dX9_takesNumber_17 : decode cX9_takesNumber 17 = .ok (.invokevirtual 209, 3) := by decide +kernel
theorem dX9_takesNumber_20 : decode cX9_takesNumber 20 = .ok (.bipush 48, 2) := by decide +kernel
theorem dX9_takesNumber_22 : decode cX9_takesNumber 22 = .ok (.bipush 57, 2) := by decide +kernel
theorem dX9_takesNumber_24 : decode cX9_takesNumber 24 = .ok (.invokestatic 50, 3) := by decide +kernel
theorem dX9_takesNumber_27 : decode cX9_takesNumber 27 = .ok (.ifCond .eq 32, 3) := by decide +kernel
theorem dX9_takesNumber_30 : decode cX9_takesNumber 30 = .ok (.bipush 10, 2) := by decide +kernel
theorem dX9_takesNumber_32 : decode cX9_takesNumber 32 = .ok (.iload_n 1, 1) := by decide +kernel
theorem dX9_takesNumber_33 : decode cX9_takesNumber 33 = .ok (.imul, 1) := by decide +kernel
theorem dX9_takesNumber_34 : decode cX9_takesNumber 34 = .ok (.aload_n 0, 1) := by decide +kernel
theorem dX9_takesNumber_35 : decode cX9_takesNumber 35 = .ok (.invokevirtual 209, 3) := by decide +kernel
theorem dX9_takesNumber_38 : decode cX9_takesNumber 38 = .ok (.iadd, 1) := by decide +kernel
theorem dX9_takesNumber_39 : decode cX9_takesNumber 39 = .ok (.bipush 48, 2) := by decide +kernel
theorem dX9_takesNumber_41 : decode cX9_takesNumber 41 = .ok (.isub, 1) := by decide +kernel
theorem dX9_takesNumber_42 : decode cX9_takesNumber 42 = .ok (.istore_n 1, 1) := by decide +kernel
theorem dX9_takesNumber_43 : decode cX9_takesNumber 43 = .ok (.iinc 2 1, 3) := by decide +kernel
theorem dX9_takesNumber_46 : decode cX9_takesNumber 46 = .ok (.aload_n 0, 1) := by decide +kernel
theorem dX9_takesNumber_47 : decode cX9_takesNumber 47 = .ok (.dup, 1) := by decide +kernel
theorem dX9_takesNumber_48 : decode cX9_takesNumber 48 = .ok (.getfield 203, 3) := by decide +kernel
theorem dX9_takesNumber_51 : decode cX9_takesNumber 51 = .ok (.iconst 1, 1) := by decide +kernel
theorem dX9_takesNumber_52 : decode cX9_takesNumber 52 = .ok (.iadd, 1) := by decide +kernel
theorem dX9_takesNumber_53 : decode cX9_takesNumber 53 = .ok (.putfield 203, 3) := by decide +kernel
theorem dX9_takesNumber_56 : decode cX9_takesNumber 56 = .ok (.goto (-52), 3) := by decide +kernel
theorem dX9_takesNumber_59 : decode cX9_takesNumber 59 = .ok (.aload_n 0, 1) := by decide +kernel
theorem dX9_takesNumber_60 : decode cX9_takesNumber 60 = .ok (.aload_n 0, 1) := by decide +kernel
theorem dX9_takesNumber_61 : decode cX9_takesNumber 61 = .ok (.getfield 206, 3) := by decide +kernel
theorem dX9_takesNumber_64 : decode cX9_takesNumber 64 = .ok (.ifCond .eq 11, 3) := by decide +kernel
theorem dX9_takesNumber_67 : decode cX9_takesNumber 67 = .ok (.iload_n 2, 1) := by decide +kernel
theorem dX9_takesNumber_68 : decode cX9_takesNumber 68 = .ok (.ifCond .le 7, 3) := by decide +kernel
theorem dX9_takesNumber_71 : decode cX9_takesNumber 71 = .ok (.iconst 1, 1) := by decide +kernel
theorem dX9_takesNumber_72 : decode cX9_takesNumber 72 = .ok (.goto 4, 3) := by decide +kernel
theorem dX9_takesNumber_75 : decode cX9_takesNumber 75 = .ok (.iconst 0, 1) := by decide +kernel
theorem dX9_takesNumber_76 : decode cX9_takesNumber 76 = .ok (.putfield 206, 3) := by decide +kernel
theorem dX9_takesNumber_79 : decode cX9_takesNumber 79 = .ok (.iload_n 1, 1) := by decide +kernel
theorem dX9_takesNumber_80 : decode cX9_takesNumber 80 = .ok (.ireturn, 1) := by decide +kernel
theorem dX9_takesOrder_0 : decode cX9_takesOrder 0 = .ok (.aload_n 0, 1) := by decide +kernel
theorem dX9_takesOrder_1 : decode cX9_takesOrder 1 = .ok (.aload_n 0, 1) := by decide +kernel
theorem dX9_takesOrder_2 : decode cX9_takesOrder 2 = .ok (.getfield 203, 3) := by decide +kernel
theorem dX9_takesOrder_5 : decode cX9_takesOrder 5 = .ok (.putfield 212, 3) := by decide +kernel
theorem dX9_takesOrder_8 : decode cX9_takesOrder 8 = .ok (.aload_n 0, 1) := by decide +kernel
theorem dX9_takesOrder_9 : decode cX9_takesOrder 9 = .ok (.iconst 1, 1) := by decide +kernel
theorem dX9_takesOrder_10 : decode cX9_takesOrder 10 = .ok (.putfield 206, 3) := by decide +kernel
theorem dX9_takesOrder_13 : decode cX9_takesOrder 13 = .ok (.aload_n 0, 1) := by decide +kernel
theorem dX9_takesOrder_14 : decode cX9_takesOrder 14 = .ok (.aload_n 0, 1) := by decide +kernel
theorem dX9_takesOrder_15 : decode cX9_takesOrder 15 = .ok (.invokevirtual 209, 3) := by decide +kernel
theorem dX9_takesOrder_18 : decode cX9_takesOrder 18 = .ok (.putfield 215, 3) := by decide +kernel
theorem dX9_takesOrder_21 : decode cX9_takesOrder 21 = .ok (.aload_n 0, 1) := by decide +kernel
theorem dX9_takesOrder_22 : decode cX9_takesOrder 22 = .ok (.aload_n 0, 1) := by decide +kernel
theorem dX9_takesOrder_23 : decode cX9_takesOrder 23 = .ok (.getfield 215, 3) := by decide +kernel
theorem dX9_takesOrder_26 : decode cX9_takesOrder 26 = .ok (.bipush 108, 2) := by decide +kernel
theorem dX9_takesOrder_28 : decode cX9_takesOrder 28 = .ok (.if_icmp .eq 30, 3) := by decide +kernel
theorem dX9_takesOrder_31 : decode cX9_takesOrder 31 = .ok (.aload_n 0, 1) := by decide +kernel
theorem dX9_takesOrder_32 : decode cX9_takesOrder 32 = .ok (.getfield 215, 3) := by decide +kernel
theorem dX9_takesOrder_35 : decode cX9_takesOrder 35 = .ok (.bipush 116, 2) := by decide +kernel
theorem dX9_takesOrder_37 : decode cX9_takesOrder 37 = .ok (.if_icmp .eq 21, 3) := by decide +kernel
theorem dX9_takesOrder_40 : decode cX9_takesOrder 40 = .ok (.aload_n 0, 1) := by decide +kernel
theorem dX9_takesOrder_41 : decode cX9_takesOrder 41 = .ok (.getfield 215, 3) := by decide +kernel
theorem dX9_takesOrder_44 : decode cX9_takesOrder 44 = .ok (.bipush 109, 2) := by decide +kernel
theorem dX9_takesOrder_46 : decode cX9_takesOrder 46 = .ok (.if_icmp .eq 12, 3) := by decide +kernel
theorem dX9_takesOrder_49 : decode cX9_takesOrder 49 = .ok (.aload_n 0, 1) := by decide +kernel
theorem dX9_takesOrder_50 : decode cX9_takesOrder 50 = .ok (.getfield 215, 3) := by decide +kernel
theorem dX9_takesOrder_53 : decode cX9_takesOrder 53 = .ok (.bipush 98, 2) := by decide +kernel
theorem dX9_takesOrder_55 : decode cX9_takesOrder 55 = .ok (.if_icmp .ne 7, 3) := by decide +kernel
theorem dX9_takesOrder_58 : decode cX9_takesOrder 58 = .ok (.iconst 1, 1) := by decide +kernel
theorem dX9_takesOrder_59 : decode cX9_takesOrder 59 = .ok (.goto 4, 3) := by decide +kernel
theorem dX9_takesOrder_62 : decode cX9_takesOrder 62 = .ok (.iconst 0, 1) := by decide +kernel
theorem dX9_takesOrder_63 : decode cX9_takesOrder 63 = .ok (.invokevirtual 218, 3) := by decide +kernel
theorem dX9_takesOrder_66 : decode cX9_takesOrder 66 = .ok (.aload_n 0, 1) := by decide +kernel
theorem dX9_takesOrder_67 : decode cX9_takesOrder 67 = .ok (.aload_n 0, 1) := by decide +kernel
theorem dX9_takesOrder_68 : decode cX9_takesOrder 68 = .ok (.invokevirtual 222, 3) := by decide +kernel
theorem dX9_takesOrder_71 : decode cX9_takesOrder 71 = .ok (.putfield 225, 3) := by decide +kernel
theorem dX9_takesOrder_74 : decode cX9_takesOrder 74 = .ok (.aload_n 0, 1) := by decide +kernel
theorem dX9_takesOrder_75 : decode cX9_takesOrder 75 = .ok (.aload_n 0, 1) := by decide +kernel
theorem dX9_takesOrder_76 : decode cX9_takesOrder 76 = .ok (.invokevirtual 209, 3) := by decide +kernel
theorem dX9_takesOrder_79 : decode cX9_takesOrder 79 = .ok (.bipush 59, 2) := by decide +kernel
theorem dX9_takesOrder_81 : decode cX9_takesOrder 81 = .ok (.if_icmp .ne 7, 3) := by decide +kernel
theorem dX9_takesOrder_84 : decode cX9_takesOrder 84 = .ok (.iconst 1, 1) := by decide +kernel
theorem dX9_takesOrder_85 : decode cX9_takesOrder 85 = .ok (.goto 4, 3) := by decide +kernel
theorem dX9_takesOrder_88 : decode cX9_takesOrder 88 = .ok (.iconst 0, 1) := by decide +kernel
theorem dX9_takesOrder_89 : decode cX9_takesOrder 89 = .ok (.invokevirtual 218, 3) := by decide +kernel
theorem dX9_takesOrder_92 : decode cX9_takesOrder 92 = .ok (.return_, 1) := by decide +kernel
theorem dX9_doesOrder_0 : decode cX9_doesOrder 0 = .ok (.aload_n 0, 1) := by decide +kernel
theorem dX9_doesOrder_1 : decode cX9_doesOrder 1 = .ok (.getfield 215, 3) := by decide +kernel
theorem dX9_doesOrder_4 : decode cX9_doesOrder 4 = .ok (.lookupswitch 63 #[(108, 36), (109, 54), (116, 45)], 36) := by decide +kernel
theorem dX9_doesOrder_40 : decode cX9_doesOrder 40 = .ok (.aload_n 0, 1) := by decide +kernel
theorem dX9_doesOrder_41 : decode cX9_doesOrder 41 = .ok (.aload_n 0, 1) := by decide +kernel
theorem dX9_doesOrder_42 : decode cX9_doesOrder 42 = .ok (.getfield 225, 3) := by decide +kernel
theorem dX9_doesOrder_45 : decode cX9_doesOrder 45 = .ok (.invokevirtual 142, 3) := by decide +kernel
theorem dX9_doesOrder_48 : decode cX9_doesOrder 48 = .ok (.ireturn, 1) := by decide +kernel
theorem dX9_doesOrder_49 : decode cX9_doesOrder 49 = .ok (.aload_n 0, 1) := by decide +kernel
theorem dX9_doesOrder_50 : decode cX9_doesOrder 50 = .ok (.aload_n 0, 1) := by decide +kernel
theorem dX9_doesOrder_51 : decode cX9_doesOrder 51 = .ok (.getfield 225, 3) := by decide +kernel
theorem dX9_doesOrder_54 : decode cX9_doesOrder 54 = .ok (.invokevirtual 148, 3) := by decide +kernel
theorem dX9_doesOrder_57 : decode cX9_doesOrder 57 = .ok (.ireturn, 1) := by decide +kernel
theorem dX9_doesOrder_58 : decode cX9_doesOrder 58 = .ok (.aload_n 0, 1) := by decide +kernel
theorem dX9_doesOrder_59 : decode cX9_doesOrder 59 = .ok (.aload_n 0, 1) := by decide +kernel
theorem dX9_doesOrder_60 : decode cX9_doesOrder 60 = .ok (.getfield 225, 3) := by decide +kernel
theorem dX9_doesOrder_63 : decode cX9_doesOrder 63 = .ok (.invokevirtual 151, 3) := by decide +kernel
theorem dX9_doesOrder_66 : decode cX9_doesOrder 66 = .ok (.ireturn, 1) := by decide +kernel
theorem dX9_doesOrder_67 : decode cX9_doesOrder 67 = .ok (.aload_n 0, 1) := by decide +kernel
theorem dX9_doesOrder_68 : decode cX9_doesOrder 68 = .ok (.aload_n 0, 1) := by decide +kernel
theorem dX9_doesOrder_69 : decode cX9_doesOrder 69 = .ok (.getfield 225, 3) := by decide +kernel
theorem dX9_doesOrder_72 : decode cX9_doesOrder 72 = .ok (.invokevirtual 154, 3) := by decide +kernel
theorem dX9_doesOrder_75 : decode cX9_doesOrder 75 = .ok (.ireturn, 1) := by decide +kernel
theorem dX9_doesAll_0 : decode cX9_doesAll 0 = .ok (.iconst 0, 1) := by decide +kernel
theorem dX9_doesAll_1 : decode cX9_doesAll 1 = .ok (.istore_n 1, 1) := by decide +kernel
theorem dX9_doesAll_2 : decode cX9_doesAll 2 = .ok (.aload_n 0, 1) := by decide +kernel
theorem dX9_doesAll_3 : decode cX9_doesAll 3 = .ok (.iconst 0, 1) := by decide +kernel
theorem dX9_doesAll_4 : decode cX9_doesAll 4 = .ok (.putfield 228, 3) := by decide +kernel
theorem dX9_doesAll_7 : decode cX9_doesAll 7 = .ok (.aload_n 0, 1) := by decide +kernel
theorem dX9_doesAll_8 : decode cX9_doesAll 8 = .ok (.iconst 0, 1) := by decide +kernel
theorem dX9_doesAll_9 : decode cX9_doesAll 9 = .ok (.putfield 203, 3) := by decide +kernel
theorem dX9_doesAll_12 : decode cX9_doesAll 12 = .ok (.aload_n 0, 1) := by decide +kernel
theorem dX9_doesAll_13 : decode cX9_doesAll 13 = .ok (.getfield 228, 3) := by decide +kernel
theorem dX9_doesAll_16 : decode cX9_doesAll 16 = .ok (.ifCond .ne 104, 3) := by decide +kernel
theorem dX9_doesAll_19 : decode cX9_doesAll 19 = .ok (.aload_n 0, 1) := by decide +kernel
theorem dX9_doesAll_20 : decode cX9_doesAll 20 = .ok (.getfield 203, 3) := by decide +kernel
theorem dX9_doesAll_23 : decode cX9_doesAll 23 = .ok (.aload_n 0, 1) := by decide +kernel
theorem dX9_doesAll_24 : decode cX9_doesAll 24 = .ok (.getfield 200, 3) := by decide +kernel
theorem dX9_doesAll_27 : decode cX9_doesAll 27 = .ok (.if_icmp .ge 93, 3) := by decide +kernel
theorem dX9_doesAll_30 : decode cX9_doesAll 30 = .ok (.aload_n 0, 1) := by decide +kernel
theorem dX9_doesAll_31 : decode cX9_doesAll 31 = .ok (.invokevirtual 230, 3) := by decide +kernel
theorem dX9_doesAll_34 : decode cX9_doesAll 34 = .ok (.aload_n 0, 1) := by decide +kernel
theorem dX9_doesAll_35 : decode cX9_doesAll 35 = .ok (.getfield 206, 3) := by decide +kernel
theorem dX9_doesAll_38 : decode cX9_doesAll 38 = .ok (.ifCond .eq 10, 3) := by decide +kernel
theorem dX9_doesAll_41 : decode cX9_doesAll 41 = .ok (.aload_n 0, 1) := by decide +kernel
theorem dX9_doesAll_42 : decode cX9_doesAll 42 = .ok (.invokevirtual 233, 3) := by decide +kernel
theorem dX9_doesAll_45 : decode cX9_doesAll 45 = .ok (.goto 4, 3) := by decide +kernel
theorem dX9_doesAll_48 : decode cX9_doesAll 48 = .ok (.iconst 0, 1) := by decide +kernel
theorem dX9_doesAll_49 : decode cX9_doesAll 49 = .ok (.istore_n 2, 1) := by decide +kernel
theorem dX9_doesAll_50 : decode cX9_doesAll 50 = .ok (.aload_n 0, 1) := by decide +kernel
theorem dX9_doesAll_51 : decode cX9_doesAll 51 = .ok (.getfield 206, 3) := by decide +kernel
theorem dX9_doesAll_54 : decode cX9_doesAll 54 = .ok (.ifCond .eq 7, 3) := by decide +kernel
theorem dX9_doesAll_57 : decode cX9_doesAll 57 = .ok (.iload_n 2, 1) := by decide +kernel
theorem dX9_doesAll_58 : decode cX9_doesAll 58 = .ok (.ifCond .ge 56, 3) := by decide +kernel
theorem dX9_doesAll_61 : decode cX9_doesAll 61 = .ok (.aload_n 0, 1) := by decide +kernel
theorem dX9_doesAll_62 : decode cX9_doesAll 62 = .ok (.aload_n 0, 1) := by decide +kernel
theorem dX9_doesAll_63 : decode cX9_doesAll 63 = .ok (.getfield 206, 3) := by decide +kernel
theorem dX9_doesAll_66 : decode cX9_doesAll 66 = .ok (.ifCond .eq 7, 3) := by decide +kernel
theorem dX9_doesAll_69 : decode cX9_doesAll 69 = .ok (.iconst 2, 1) := by decide +kernel
theorem dX9_doesAll_70 : decode cX9_doesAll 70 = .ok (.goto 4, 3) := by decide +kernel
theorem dX9_doesAll_73 : decode cX9_doesAll 73 = .ok (.iconst 1, 1) := by decide +kernel
theorem dX9_doesAll_74 : decode cX9_doesAll 74 = .ok (.putfield 228, 3) := by decide +kernel
theorem dX9_doesAll_77 : decode cX9_doesAll 77 = .ok (.aload_n 0, 1) := by decide +kernel
theorem dX9_doesAll_78 : decode cX9_doesAll 78 = .ok (.aload_n 0, 1) := by decide +kernel
theorem dX9_doesAll_79 : decode cX9_doesAll 79 = .ok (.getfield 206, 3) := by decide +kernel
theorem dX9_doesAll_82 : decode cX9_doesAll 82 = .ok (.ifCond .ne 15, 3) := by decide +kernel
theorem dX9_doesAll_85 : decode cX9_doesAll 85 = .ok (.aload_n 0, 1) := by decide +kernel
theorem dX9_doesAll_86 : decode cX9_doesAll 86 = .ok (.getfield 203, 3) := by decide +kernel
theorem dX9_doesAll_89 : decode cX9_doesAll 89 = .ok (.aload_n 0, 1) := by decide +kernel
theorem dX9_doesAll_90 : decode cX9_doesAll 90 = .ok (.getfield 212, 3) := by decide +kernel
theorem dX9_doesAll_93 : decode cX9_doesAll 93 = .ok (.isub, 1) := by decide +kernel
theorem dX9_doesAll_94 : decode cX9_doesAll 94 = .ok (.goto 14, 3) := by decide +kernel
theorem dX9_doesAll_97 : decode cX9_doesAll 97 = .ok (.iload_n 2, 1) := by decide +kernel
theorem dX9_doesAll_98 : decode cX9_doesAll 98 = .ok (.bipush (-11), 2) := by decide +kernel
theorem dX9_doesAll_100 : decode cX9_doesAll 100 = .ok (.if_icmp .ne 7, 3) := by decide +kernel
theorem dX9_doesAll_103 : decode cX9_doesAll 103 = .ok (.iconst 1, 1) := by decide +kernel
theorem dX9_doesAll_104 : decode cX9_doesAll 104 = .ok (.goto 4, 3) := by decide +kernel
theorem dX9_doesAll_107 : decode cX9_doesAll 107 = .ok (.iconst 2, 1) := by decide +kernel
theorem dX9_doesAll_108 : decode cX9_doesAll 108 = .ok (.putfield 236, 3) := by decide +kernel
theorem dX9_doesAll_111 : decode cX9_doesAll 111 = .ok (.goto 6, 3) := by decide +kernel
theorem dX9_doesAll_114 : decode cX9_doesAll 114 = .ok (.iinc 1 1, 3) := by decide +kernel
theorem dX9_doesAll_117 : decode cX9_doesAll 117 = .ok (.goto (-105), 3) := by decide +kernel
theorem dX9_doesAll_120 : decode cX9_doesAll 120 = .ok (.iload_n 1, 1) := by decide +kernel
theorem dX9_doesAll_121 : decode cX9_doesAll 121 = .ok (.ireturn, 1) := by decide +kernel
theorem dX9_faultTold_0 : decode cX9_faultTold 0 = .ok (.aload_n 0, 1) := by decide +kernel
theorem dX9_faultTold_1 : decode cX9_faultTold 1 = .ok (.iconst 0, 1) := by decide +kernel
theorem dX9_faultTold_2 : decode cX9_faultTold 2 = .ok (.putfield 32, 3) := by decide +kernel
theorem dX9_faultTold_5 : decode cX9_faultTold 5 = .ok (.aload_n 0, 1) := by decide +kernel
theorem dX9_faultTold_6 : decode cX9_faultTold 6 = .ok (.getfield 7, 3) := by decide +kernel
theorem dX9_faultTold_9 : decode cX9_faultTold 9 = .ok (.iconst 0, 1) := by decide +kernel
theorem dX9_faultTold_10 : decode cX9_faultTold 10 = .ok (.aload_n 0, 1) := by decide +kernel
theorem dX9_faultTold_11 : decode cX9_faultTold 11 = .ok (.getfield 13, 3) := by decide +kernel
theorem dX9_faultTold_14 : decode cX9_faultTold 14 = .ok (.iconst 0, 1) := by decide +kernel
theorem dX9_faultTold_15 : decode cX9_faultTold 15 = .ok (.invokestatic 36, 3) := by decide +kernel
theorem dX9_faultTold_18 : decode cX9_faultTold 18 = .ok (.aload_n 0, 1) := by decide +kernel
theorem dX9_faultTold_19 : decode cX9_faultTold 19 = .ok (.invokevirtual 239, 3) := by decide +kernel
theorem dX9_faultTold_22 : decode cX9_faultTold 22 = .ok (.istore_n 2, 1) := by decide +kernel
end
section
theorem dX9_faultTold_23 : decode cX9_faultTold 23 = .ok (.aload_n 0, 1) := by decide +kernel
theorem dX9_faultTold_24 : decode cX9_faultTold 24 = .ok (.getfield 13, 3) := by decide +kernel
theorem dX9_faultTold_27 : decode cX9_faultTold 27 = .ok (.iconst 0, 1) := by decide +kernel
theorem dX9_faultTold_28 : decode cX9_faultTold 28 = .ok (.aload_n 0, 1) := by decide +kernel
theorem dX9_faultTold_29 : decode cX9_faultTold 29 = .ok (.getfield 7, 3) := by decide +kernel
theorem dX9_faultTold_32 : decode cX9_faultTold 32 = .ok (.iconst 0, 1) := by decide +kernel
theorem dX9_faultTold_33 : decode cX9_faultTold 33 = .ok (.invokestatic 36, 3) := by decide +kernel
theorem dX9_faultTold_36 : decode cX9_faultTold 36 = .ok (.aload_n 0, 1) := by decide +kernel
theorem dX9_faultTold_37 : decode cX9_faultTold 37 = .ok (.getfield 228, 3) := by decide +kernel
theorem dX9_faultTold_40 : decode cX9_faultTold 40 = .ok (.ifCond .ne 11, 3) := by decide +kernel
theorem dX9_faultTold_43 : decode cX9_faultTold 43 = .ok (.aload_n 0, 1) := by decide +kernel
theorem dX9_faultTold_44 : decode cX9_faultTold 44 = .ok (.iconst 1, 1) := by decide +kernel
theorem dX9_faultTold_45 : decode cX9_faultTold 45 = .ok (.invokevirtual 43, 3) := by decide +kernel
theorem dX9_faultTold_48 : decode cX9_faultTold 48 = .ok (.goto 30, 3) := by decide +kernel
theorem dX9_faultTold_51 : decode cX9_faultTold 51 = .ok (.iload_n 1, 1) := by decide +kernel
theorem dX9_faultTold_52 : decode cX9_faultTold 52 = .ok (.ifCond .ne 10, 3) := by decide +kernel
theorem dX9_faultTold_55 : decode cX9_faultTold 55 = .ok (.aload_n 0, 1) := by decide +kernel
theorem dX9_faultTold_56 : decode cX9_faultTold 56 = .ok (.getfield 212, 3) := by decide +kernel
theorem dX9_faultTold_59 : decode cX9_faultTold 59 = .ok (.goto 19, 3) := by decide +kernel
theorem dX9_faultTold_62 : decode cX9_faultTold 62 = .ok (.iload_n 1, 1) := by decide +kernel
theorem dX9_faultTold_63 : decode cX9_faultTold 63 = .ok (.iconst 1, 1) := by decide +kernel
theorem dX9_faultTold_64 : decode cX9_faultTold 64 = .ok (.if_icmp .ne 10, 3) := by decide +kernel
theorem dX9_faultTold_67 : decode cX9_faultTold 67 = .ok (.aload_n 0, 1) := by decide +kernel
theorem dX9_faultTold_68 : decode cX9_faultTold 68 = .ok (.getfield 228, 3) := by decide +kernel
theorem dX9_faultTold_71 : decode cX9_faultTold 71 = .ok (.goto 7, 3) := by decide +kernel
theorem dX9_faultTold_74 : decode cX9_faultTold 74 = .ok (.aload_n 0, 1) := by decide +kernel
theorem dX9_faultTold_75 : decode cX9_faultTold 75 = .ok (.getfield 236, 3) := by decide +kernel
theorem dX9_faultTold_78 : decode cX9_faultTold 78 = .ok (.ireturn, 1) := by decide +kernel
theorem dX9_faultPosition_0 : decode cX9_faultPosition 0 = .ok (.aload_n 0, 1) := by decide +kernel
theorem dX9_faultPosition_1 : decode cX9_faultPosition 1 = .ok (.iconst 0, 1) := by decide +kernel
theorem dX9_faultPosition_2 : decode cX9_faultPosition 2 = .ok (.invokevirtual 242, 3) := by decide +kernel
theorem dX9_faultPosition_5 : decode cX9_faultPosition 5 = .ok (.ireturn, 1) := by decide +kernel
theorem dX9_faultReason_0 : decode cX9_faultReason 0 = .ok (.aload_n 0, 1) := by decide +kernel
theorem dX9_faultReason_1 : decode cX9_faultReason 1 = .ok (.iconst 1, 1) := by decide +kernel
theorem dX9_faultReason_2 : decode cX9_faultReason 2 = .ok (.invokevirtual 242, 3) := by decide +kernel
theorem dX9_faultReason_5 : decode cX9_faultReason 5 = .ok (.ireturn, 1) := by decide +kernel
theorem dX9_faultCause_0 : decode cX9_faultCause 0 = .ok (.aload_n 0, 1) := by decide +kernel
theorem dX9_faultCause_1 : decode cX9_faultCause 1 = .ok (.iconst 2, 1) := by decide +kernel
theorem dX9_faultCause_2 : decode cX9_faultCause 2 = .ok (.invokevirtual 242, 3) := by decide +kernel
theorem dX9_faultCause_5 : decode cX9_faultCause 5 = .ok (.ireturn, 1) := by decide +kernel
theorem dX9_play_0 : decode cX9_play 0 = .ok (.aload_n 0, 1) := by decide +kernel
theorem dX9_play_1 : decode cX9_play 1 = .ok (.invokevirtual 139, 3) := by decide +kernel
theorem dX9_play_4 : decode cX9_play 4 = .ok (.aload_n 0, 1) := by decide +kernel
theorem dX9_play_5 : decode cX9_play 5 = .ok (.invokevirtual 239, 3) := by decide +kernel
theorem dX9_play_8 : decode cX9_play 8 = .ok (.istore_n 1, 1) := by decide +kernel
theorem dX9_play_9 : decode cX9_play 9 = .ok (.aload_n 0, 1) := by decide +kernel
theorem dX9_play_10 : decode cX9_play 10 = .ok (.getfield 228, 3) := by decide +kernel
theorem dX9_play_13 : decode cX9_play 13 = .ok (.ifCond .le 22, 3) := by decide +kernel
theorem dX9_play_16 : decode cX9_play 16 = .ok (.aload_n 0, 1) := by decide +kernel
theorem dX9_play_17 : decode cX9_play 17 = .ok (.getfield 13, 3) := by decide +kernel
theorem dX9_play_20 : decode cX9_play 20 = .ok (.iconst 0, 1) := by decide +kernel
theorem dX9_play_21 : decode cX9_play 21 = .ok (.aload_n 0, 1) := by decide +kernel
theorem dX9_play_22 : decode cX9_play 22 = .ok (.getfield 7, 3) := by decide +kernel
theorem dX9_play_25 : decode cX9_play 25 = .ok (.iconst 0, 1) := by decide +kernel
theorem dX9_play_26 : decode cX9_play 26 = .ok (.invokestatic 36, 3) := by decide +kernel
theorem dX9_play_29 : decode cX9_play 29 = .ok (.aload_n 0, 1) := by decide +kernel
theorem dX9_play_30 : decode cX9_play 30 = .ok (.iconst 1, 1) := by decide +kernel
theorem dX9_play_31 : decode cX9_play 31 = .ok (.invokevirtual 43, 3) := by decide +kernel
theorem dX9_play_34 : decode cX9_play 34 = .ok (.ireturn, 1) := by decide +kernel
theorem dX9_play_35 : decode cX9_play 35 = .ok (.aload_n 0, 1) := by decide +kernel
theorem dX9_play_36 : decode cX9_play 36 = .ok (.invokevirtual 47, 3) := by decide +kernel
theorem dX9_play_39 : decode cX9_play 39 = .ok (.iload_n 1, 1) := by decide +kernel
theorem dX9_play_40 : decode cX9_play 40 = .ok (.ireturn, 1) := by decide +kernel
theorem dJ9_floorMod_f86c9_0 : decode cJ9_floorMod_f86c9 0 = .ok (.lload_n 0, 1) := by decide +kernel
theorem dJ9_floorMod_f86c9_1 : decode cJ9_floorMod_f86c9 1 = .ok (.lload_n 2, 1) := by decide +kernel
theorem dJ9_floorMod_f86c9_2 : decode cJ9_floorMod_f86c9 2 = .ok (.lrem, 1) := by decide +kernel
theorem dJ9_floorMod_f86c9_3 : decode cJ9_floorMod_f86c9 3 = .ok (.lstore 4, 2) := by decide +kernel
theorem dJ9_floorMod_f86c9_5 : decode cJ9_floorMod_f86c9 5 = .ok (.lload_n 0, 1) := by decide +kernel
theorem dJ9_floorMod_f86c9_6 : decode cJ9_floorMod_f86c9 6 = .ok (.lload_n 2, 1) := by decide +kernel
theorem dJ9_floorMod_f86c9_7 : decode cJ9_floorMod_f86c9 7 = .ok (.lxor, 1) := by decide +kernel
theorem dJ9_floorMod_f86c9_8 : decode cJ9_floorMod_f86c9 8 = .ok (.lconst 0, 1) := by decide +kernel
theorem dJ9_floorMod_f86c9_9 : decode cJ9_floorMod_f86c9 9 = .ok (.lcmp, 1) := by decide +kernel
theorem dJ9_floorMod_f86c9_10 : decode cJ9_floorMod_f86c9 10 = .ok (.ifCond .ge 15, 3) := by decide +kernel
theorem dJ9_floorMod_f86c9_13 : decode cJ9_floorMod_f86c9 13 = .ok (.lload 4, 2) := by decide +kernel
theorem dJ9_floorMod_f86c9_15 : decode cJ9_floorMod_f86c9 15 = .ok (.lconst 0, 1) := by decide +kernel
theorem dJ9_floorMod_f86c9_16 : decode cJ9_floorMod_f86c9 16 = .ok (.lcmp, 1) := by decide +kernel
theorem dJ9_floorMod_f86c9_17 : decode cJ9_floorMod_f86c9 17 = .ok (.ifCond .eq 8, 3) := by decide +kernel
theorem dJ9_floorMod_f86c9_20 : decode cJ9_floorMod_f86c9 20 = .ok (.lload 4, 2) := by decide +kernel
theorem dJ9_floorMod_f86c9_22 : decode cJ9_floorMod_f86c9 22 = .ok (.lload_n 2, 1) := by decide +kernel
theorem dJ9_floorMod_f86c9_23 : decode cJ9_floorMod_f86c9 23 = .ok (.ladd, 1) := by decide +kernel
theorem dJ9_floorMod_f86c9_24 : decode cJ9_floorMod_f86c9 24 = .ok (.lreturn, 1) := by decide +kernel
theorem dJ9_floorMod_f86c9_25 : decode cJ9_floorMod_f86c9 25 = .ok (.lload 4, 2) := by decide +kernel
theorem dJ9_floorMod_f86c9_27 : decode cJ9_floorMod_f86c9 27 = .ok (.lreturn, 1) := by decide +kernel
theorem dJ7_fill_53178_0 : decode cJ7_fill_53178 0 = .ok (.iconst 0, 1) := by decide +kernel
theorem dJ7_fill_53178_1 : decode cJ7_fill_53178 1 = .ok (.istore_n 2, 1) := by decide +kernel
theorem dJ7_fill_53178_2 : decode cJ7_fill_53178 2 = .ok (.aload_n 0, 1) := by decide +kernel
theorem dJ7_fill_53178_3 : decode cJ7_fill_53178 3 = .ok (.arraylength, 1) := by decide +kernel
theorem dJ7_fill_53178_4 : decode cJ7_fill_53178 4 = .ok (.istore_n 3, 1) := by decide +kernel
theorem dJ7_fill_53178_5 : decode cJ7_fill_53178 5 = .ok (.iload_n 2, 1) := by decide +kernel
theorem dJ7_fill_53178_6 : decode cJ7_fill_53178 6 = .ok (.iload_n 3, 1) := by decide +kernel
theorem dJ7_fill_53178_7 : decode cJ7_fill_53178 7 = .ok (.if_icmp .ge 13, 3) := by decide +kernel
theorem dJ7_fill_53178_10 : decode cJ7_fill_53178 10 = .ok (.aload_n 0, 1) := by decide +kernel
theorem dJ7_fill_53178_11 : decode cJ7_fill_53178 11 = .ok (.iload_n 2, 1) := by decide +kernel
theorem dJ7_fill_53178_12 : decode cJ7_fill_53178 12 = .ok (.iload_n 1, 1) := by decide +kernel
theorem dJ7_fill_53178_13 : decode cJ7_fill_53178 13 = .ok (.iastore, 1) := by decide +kernel
theorem dJ7_fill_53178_14 : decode cJ7_fill_53178 14 = .ok (.iinc 2 1, 3) := by decide +kernel
theorem dJ7_fill_53178_17 : decode cJ7_fill_53178 17 = .ok (.goto (-12), 3) := by decide +kernel
theorem dJ7_fill_53178_20 : decode cJ7_fill_53178 20 = .ok (.return_, 1) := by decide +kernel
theorem dL_lay_0 : decode cL_lay 0 = .ok (.aload_n 2, 1) := by decide +kernel
theorem dL_lay_1 : decode cL_lay 1 = .ok (.iconst 0, 1) := by decide +kernel
theorem dL_lay_2 : decode cL_lay 2 = .ok (.aload_n 0, 1) := by decide +kernel
theorem dL_lay_3 : decode cL_lay 3 = .ok (.iload_n 1, 1) := by decide +kernel
theorem dL_lay_4 : decode cL_lay 4 = .ok (.invokevirtual 7, 3) := by decide +kernel
theorem dL_lay_7 : decode cL_lay 7 = .ok (.i2l, 1) := by decide +kernel
theorem dL_lay_8 : decode cL_lay 8 = .ok (.lastore, 1) := by decide +kernel
theorem dL_lay_9 : decode cL_lay 9 = .ok (.goto 9, 3) := by decide +kernel
theorem dL_lay_12 : decode cL_lay 12 = .ok (.astore_n 3, 1) := by decide +kernel
theorem dL_lay_13 : decode cL_lay 13 = .ok (.iconst 1, 1) := by decide +kernel
theorem dL_lay_14 : decode cL_lay 14 = .ok (.ireturn, 1) := by decide +kernel
theorem dL_lay_15 : decode cL_lay 15 = .ok (.astore_n 3, 1) := by decide +kernel
theorem dL_lay_16 : decode cL_lay 16 = .ok (.iconst 2, 1) := by decide +kernel
theorem dL_lay_17 : decode cL_lay 17 = .ok (.ireturn, 1) := by decide +kernel
theorem dL_lay_18 : decode cL_lay 18 = .ok (.iconst 0, 1) := by decide +kernel
theorem dL_lay_19 : decode cL_lay 19 = .ok (.ireturn, 1) := by decide +kernel
theorem dL_take_0 : decode cL_take 0 = .ok (.aload_n 2, 1) := by decide +kernel
theorem dL_take_1 : decode cL_take 1 = .ok (.iconst 0, 1) := by decide +kernel
theorem dL_take_2 : decode cL_take 2 = .ok (.aload_n 0, 1) := by decide +kernel
theorem dL_take_3 : decode cL_take 3 = .ok (.iload_n 1, 1) := by decide +kernel
theorem dL_take_4 : decode cL_take 4 = .ok (.invokevirtual 17, 3) := by decide +kernel
theorem dL_take_7 : decode cL_take 7 = .ok (.i2l, 1) := by decide +kernel
theorem dL_take_8 : decode cL_take 8 = .ok (.lastore, 1) := by decide +kernel
theorem dL_take_9 : decode cL_take 9 = .ok (.goto 9, 3) := by decide +kernel
theorem dL_take_12 : decode cL_take 12 = .ok (.astore_n 3, 1) := by decide +kernel
theorem dL_take_13 : decode cL_take 13 = .ok (.iconst 1, 1) := by decide +kernel
theorem dL_take_14 : decode cL_take 14 = .ok (.ireturn, 1) := by decide +kernel
theorem dL_take_15 : decode cL_take 15 = .ok (.astore_n 3, 1) := by decide +kernel
theorem dL_take_16 : decode cL_take 16 = .ok (.iconst 2, 1) := by decide +kernel
theorem dL_take_17 : decode cL_take 17 = .ok (.ireturn, 1) := by decide +kernel
theorem dL_take_18 : decode cL_take 18 = .ok (.iconst 0, 1) := by decide +kernel
theorem dL_take_19 : decode cL_take 19 = .ok (.ireturn, 1) := by decide +kernel
theorem dL_mill_0 : decode cL_mill 0 = .ok (.aload_n 2, 1) := by decide +kernel
theorem dL_mill_1 : decode cL_mill 1 = .ok (.iconst 0, 1) := by decide +kernel
theorem dL_mill_2 : decode cL_mill 2 = .ok (.aload_n 0, 1) := by decide +kernel
theorem dL_mill_3 : decode cL_mill 3 = .ok (.iload_n 1, 1) := by decide +kernel
theorem dL_mill_4 : decode cL_mill 4 = .ok (.invokevirtual 20, 3) := by decide +kernel
theorem dL_mill_7 : decode cL_mill 7 = .ok (.lastore, 1) := by decide +kernel
theorem dL_mill_8 : decode cL_mill 8 = .ok (.goto 9, 3) := by decide +kernel
theorem dL_mill_11 : decode cL_mill 11 = .ok (.astore_n 3, 1) := by decide +kernel
theorem dL_mill_12 : decode cL_mill 12 = .ok (.iconst 1, 1) := by decide +kernel
theorem dL_mill_13 : decode cL_mill 13 = .ok (.ireturn, 1) := by decide +kernel
theorem dL_mill_14 : decode cL_mill 14 = .ok (.astore_n 3, 1) := by decide +kernel
theorem dL_mill_15 : decode cL_mill 15 = .ok (.iconst 2, 1) := by decide +kernel
theorem dL_mill_16 : decode cL_mill 16 = .ok (.ireturn, 1) := by decide +kernel
theorem dL_mill_17 : decode cL_mill 17 = .ok (.iconst 0, 1) := by decide +kernel
theorem dL_mill_18 : decode cL_mill 18 = .ok (.ireturn, 1) := by decide +kernel
theorem dL_millBack_0 : decode cL_millBack 0 = .ok (.aload_n 2, 1) := by decide +kernel
theorem dL_millBack_1 : decode cL_millBack 1 = .ok (.iconst 0, 1) := by decide +kernel
theorem dL_millBack_2 : decode cL_millBack 2 = .ok (.aload_n 0, 1) := by decide +kernel
theorem dL_millBack_3 : decode cL_millBack 3 = .ok (.iload_n 1, 1) := by decide +kernel
theorem dL_millBack_4 : decode cL_millBack 4 = .ok (.invokevirtual 24, 3) := by decide +kernel
theorem dL_millBack_7 : decode cL_millBack 7 = .ok (.lastore, 1) := by decide +kernel
theorem dL_millBack_8 : decode cL_millBack 8 = .ok (.goto 9, 3) := by decide +kernel
theorem dL_millBack_11 : decode cL_millBack 11 = .ok (.astore_n 3, 1) := by decide +kernel
theorem dL_millBack_12 : decode cL_millBack 12 = .ok (.iconst 1, 1) := by decide +kernel
theorem dL_millBack_13 : decode cL_millBack 13 = .ok (.ireturn, 1) := by decide +kernel
theorem dL_millBack_14 : decode cL_millBack 14 = .ok (.astore_n 3, 1) := by decide +kernel
theorem dL_millBack_15 : decode cL_millBack 15 = .ok (.iconst 2, 1) := by decide +kernel
theorem dL_millBack_16 : decode cL_millBack 16 = .ok (.ireturn, 1) := by decide +kernel
theorem dL_millBack_17 : decode cL_millBack 17 = .ok (.iconst 0, 1) := by decide +kernel
theorem dL_millBack_18 : decode cL_millBack 18 = .ok (.ireturn, 1) := by decide +kernel
theorem dL_whyNot_0 : decode cL_whyNot 0 = .ok (.aload_n 2, 1) := by decide +kernel
theorem dL_whyNot_1 : decode cL_whyNot 1 = .ok (.iconst 0, 1) := by decide +kernel
theorem dL_whyNot_2 : decode cL_whyNot 2 = .ok (.aload_n 0, 1) := by decide +kernel
theorem dL_whyNot_3 : decode cL_whyNot 3 = .ok (.iload_n 1, 1) := by decide +kernel
theorem dL_whyNot_4 : decode cL_whyNot 4 = .ok (.invokevirtual 27, 3) := by decide +kernel
theorem dL_whyNot_7 : decode cL_whyNot 7 = .ok (.i2l, 1) := by decide +kernel
theorem dL_whyNot_8 : decode cL_whyNot 8 = .ok (.lastore, 1) := by decide +kernel
theorem dL_whyNot_9 : decode cL_whyNot 9 = .ok (.goto 6, 3) := by decide +kernel
theorem dL_whyNot_12 : decode cL_whyNot 12 = .ok (.astore_n 3, 1) := by decide +kernel
theorem dL_whyNot_13 : decode cL_whyNot 13 = .ok (.iconst 1, 1) := by decide +kernel
theorem dL_whyNot_14 : decode cL_whyNot 14 = .ok (.ireturn, 1) := by decide +kernel
theorem dL_whyNot_15 : decode cL_whyNot 15 = .ok (.iconst 0, 1) := by decide +kernel
theorem dL_whyNot_16 : decode cL_whyNot 16 = .ok (.ireturn, 1) := by decide +kernel
theorem dL_periodOf_0 : decode cL_periodOf 0 = .ok (.aload_n 2, 1) := by decide +kernel
theorem dL_periodOf_1 : decode cL_periodOf 1 = .ok (.iconst 0, 1) := by decide +kernel
theorem dL_periodOf_2 : decode cL_periodOf 2 = .ok (.aload_n 0, 1) := by decide +kernel
theorem dL_periodOf_3 : decode cL_periodOf 3 = .ok (.iload_n 1, 1) := by decide +kernel
theorem dL_periodOf_4 : decode cL_periodOf 4 = .ok (.invokevirtual 30, 3) := by decide +kernel
theorem dL_periodOf_7 : decode cL_periodOf 7 = .ok (.i2l, 1) := by decide +kernel
theorem dL_periodOf_8 : decode cL_periodOf 8 = .ok (.lastore, 1) := by decide +kernel
theorem dL_periodOf_9 : decode cL_periodOf 9 = .ok (.goto 9, 3) := by decide +kernel
theorem dL_periodOf_12 : decode cL_periodOf 12 = .ok (.astore_n 3, 1) := by decide +kernel
theorem dL_periodOf_13 : decode cL_periodOf 13 = .ok (.iconst 1, 1) := by decide +kernel
theorem dL_periodOf_14 : decode cL_periodOf 14 = .ok (.ireturn, 1) := by decide +kernel
theorem dL_periodOf_15 : decode cL_periodOf 15 = .ok (.astore_n 3, 1) := by decide +kernel
theorem dL_periodOf_16 : decode cL_periodOf 16 = .ok (.iconst 2, 1) := by decide +kernel
theorem dL_periodOf_17 : decode cL_periodOf 17 = .ok (.ireturn, 1) := by decide +kernel
theorem dL_periodOf_18 : decode cL_periodOf 18 = .ok (.iconst 0, 1) := by decide +kernel
theorem dL_periodOf_19 : decode cL_periodOf 19 = .ok (.ireturn, 1) := by decide +kernel
theorem dL_termAt_0 : decode cL_termAt 0 = .ok (.aload_n 3, 1) := by decide +kernel
theorem dL_termAt_1 : decode cL_termAt 1 = .ok (.iconst 0, 1) := by decide +kernel
theorem dL_termAt_2 : decode cL_termAt 2 = .ok (.aload_n 0, 1) := by decide +kernel
theorem dL_termAt_3 : decode cL_termAt 3 = .ok (.iload_n 1, 1) := by decide +kernel
theorem dL_termAt_4 : decode cL_termAt 4 = .ok (.iload_n 2, 1) := by decide +kernel
theorem dL_termAt_5 : decode cL_termAt 5 = .ok (.invokevirtual 35, 3) := by decide +kernel
theorem dL_termAt_8 : decode cL_termAt 8 = .ok (.i2l, 1) := by decide +kernel
theorem dL_termAt_9 : decode cL_termAt 9 = .ok (.lastore, 1) := by decide +kernel
theorem dL_termAt_10 : decode cL_termAt 10 = .ok (.goto 11, 3) := by decide +kernel
theorem dL_termAt_13 : decode cL_termAt 13 = .ok (.astore 4, 2) := by decide +kernel
theorem dL_termAt_15 : decode cL_termAt 15 = .ok (.iconst 1, 1) := by decide +kernel
theorem dL_termAt_16 : decode cL_termAt 16 = .ok (.ireturn, 1) := by decide +kernel
theorem dL_termAt_17 : decode cL_termAt 17 = .ok (.astore 4, 2) := by decide +kernel
theorem dL_termAt_19 : decode cL_termAt 19 = .ok (.iconst 2, 1) := by decide +kernel
theorem dL_termAt_20 : decode cL_termAt 20 = .ok (.ireturn, 1) := by decide +kernel
theorem dL_termAt_21 : decode cL_termAt 21 = .ok (.iconst 0, 1) := by decide +kernel
theorem dL_termAt_22 : decode cL_termAt 22 = .ok (.ireturn, 1) := by decide +kernel
theorem dL_unitX_0 : decode cL_unitX 0 = .ok (.aload_n 2, 1) := by decide +kernel
theorem dL_unitX_1 : decode cL_unitX 1 = .ok (.iconst 0, 1) := by decide +kernel
theorem dL_unitX_2 : decode cL_unitX 2 = .ok (.aload_n 0, 1) := by decide +kernel
theorem dL_unitX_3 : decode cL_unitX 3 = .ok (.iload_n 1, 1) := by decide +kernel
theorem dL_unitX_4 : decode cL_unitX 4 = .ok (.invokevirtual 39, 3) := by decide +kernel
theorem dL_unitX_7 : decode cL_unitX 7 = .ok (.i2l, 1) := by decide +kernel
theorem dL_unitX_8 : decode cL_unitX 8 = .ok (.lastore, 1) := by decide +kernel
theorem dL_unitX_9 : decode cL_unitX 9 = .ok (.goto 9, 3) := by decide +kernel
theorem dL_unitX_12 : decode cL_unitX 12 = .ok (.astore_n 3, 1) := by decide +kernel
theorem dL_unitX_13 : decode cL_unitX 13 = .ok (.iconst 1, 1) := by decide +kernel
theorem dL_unitX_14 : decode cL_unitX 14 = .ok (.ireturn, 1) := by decide +kernel
theorem dL_unitX_15 : decode cL_unitX 15 = .ok (.astore_n 3, 1) := by decide +kernel
theorem dL_unitX_16 : decode cL_unitX 16 = .ok (.iconst 2, 1) := by decide +kernel
theorem dL_unitX_17 : decode cL_unitX 17 = .ok (.ireturn, 1) := by decide +kernel
theorem dL_unitX_18 : decode cL_unitX 18 = .ok (.iconst 0, 1) := by decide +kernel
theorem dL_unitX_19 : decode cL_unitX 19 = .ok (.ireturn, 1) := by decide +kernel
theorem dL_unitY_0 : decode cL_unitY 0 = .ok (.aload_n 2, 1) := by decide +kernel
theorem dL_unitY_1 : decode cL_unitY 1 = .ok (.iconst 0, 1) := by decide +kernel
theorem dL_unitY_2 : decode cL_unitY 2 = .ok (.aload_n 0, 1) := by decide +kernel
theorem dL_unitY_3 : decode cL_unitY 3 = .ok (.iload_n 1, 1) := by decide +kernel
theorem dL_unitY_4 : decode cL_unitY 4 = .ok (.invokevirtual 42, 3) := by decide +kernel
theorem dL_unitY_7 : decode cL_unitY 7 = .ok (.i2l, 1) := by decide +kernel
theorem dL_unitY_8 : decode cL_unitY 8 = .ok (.lastore, 1) := by decide +kernel
theorem dL_unitY_9 : decode cL_unitY 9 = .ok (.goto 9, 3) := by decide +kernel
theorem dL_unitY_12 : decode cL_unitY 12 = .ok (.astore_n 3, 1) := by decide +kernel
theorem dL_unitY_13 : decode cL_unitY 13 = .ok (.iconst 1, 1) := by decide +kernel
theorem dL_unitY_14 : decode cL_unitY 14 = .ok (.ireturn, 1) := by decide +kernel
theorem dL_unitY_15 : decode cL_unitY 15 = .ok (.astore_n 3, 1) := by decide +kernel
theorem dL_unitY_16 : decode cL_unitY 16 = .ok (.iconst 2, 1) := by decide +kernel
theorem dL_unitY_17 : decode cL_unitY 17 = .ok (.ireturn, 1) := by decide +kernel
theorem dL_unitY_18 : decode cL_unitY 18 = .ok (.iconst 0, 1) := by decide +kernel
theorem dL_unitY_19 : decode cL_unitY 19 = .ok (.ireturn, 1) := by decide +kernel
theorem dL_leastY_0 : decode cL_leastY 0 = .ok (.aload_n 2, 1) := by decide +kernel
theorem dL_leastY_1 : decode cL_leastY 1 = .ok (.iconst 0, 1) := by decide +kernel
theorem dL_leastY_2 : decode cL_leastY 2 = .ok (.aload_n 0, 1) := by decide +kernel
theorem dL_leastY_3 : decode cL_leastY 3 = .ok (.iload_n 1, 1) := by decide +kernel
theorem dL_leastY_4 : decode cL_leastY 4 = .ok (.invokevirtual 45, 3) := by decide +kernel
theorem dL_leastY_7 : decode cL_leastY 7 = .ok (.i2l, 1) := by decide +kernel
theorem dL_leastY_8 : decode cL_leastY 8 = .ok (.lastore, 1) := by decide +kernel
theorem dL_leastY_9 : decode cL_leastY 9 = .ok (.goto 9, 3) := by decide +kernel
theorem dL_leastY_12 : decode cL_leastY 12 = .ok (.astore_n 3, 1) := by decide +kernel
theorem dL_leastY_13 : decode cL_leastY 13 = .ok (.iconst 1, 1) := by decide +kernel
theorem dL_leastY_14 : decode cL_leastY 14 = .ok (.ireturn, 1) := by decide +kernel
theorem dL_leastY_15 : decode cL_leastY 15 = .ok (.astore_n 3, 1) := by decide +kernel
theorem dL_leastY_16 : decode cL_leastY 16 = .ok (.iconst 2, 1) := by decide +kernel
theorem dL_leastY_17 : decode cL_leastY 17 = .ok (.ireturn, 1) := by decide +kernel
theorem dL_leastY_18 : decode cL_leastY 18 = .ok (.iconst 0, 1) := by decide +kernel
theorem dL_leastY_19 : decode cL_leastY 19 = .ok (.ireturn, 1) := by decide +kernel
theorem dL_leastYBySearch_0 : decode cL_leastYBySearch 0 = .ok (.aload_n 2, 1) := by decide +kernel
theorem dL_leastYBySearch_1 : decode cL_leastYBySearch 1 = .ok (.iconst 0, 1) := by decide +kernel
theorem dL_leastYBySearch_2 : decode cL_leastYBySearch 2 = .ok (.aload_n 0, 1) := by decide +kernel
theorem dL_leastYBySearch_3 : decode cL_leastYBySearch 3 = .ok (.iload_n 1, 1) := by decide +kernel
theorem dL_leastYBySearch_4 : decode cL_leastYBySearch 4 = .ok (.invokevirtual 48, 3) := by decide +kernel
theorem dL_leastYBySearch_7 : decode cL_leastYBySearch 7 = .ok (.i2l, 1) := by decide +kernel
theorem dL_leastYBySearch_8 : decode cL_leastYBySearch 8 = .ok (.lastore, 1) := by decide +kernel
theorem dL_leastYBySearch_9 : decode cL_leastYBySearch 9 = .ok (.goto 9, 3) := by decide +kernel
theorem dL_leastYBySearch_12 : decode cL_leastYBySearch 12 = .ok (.astore_n 3, 1) := by decide +kernel
theorem dL_leastYBySearch_13 : decode cL_leastYBySearch 13 = .ok (.iconst 1, 1) := by decide +kernel
theorem dL_leastYBySearch_14 : decode cL_leastYBySearch 14 = .ok (.ireturn, 1) := by decide +kernel
theorem dL_leastYBySearch_15 : decode cL_leastYBySearch 15 = .ok (.astore_n 3, 1) := by decide +kernel
theorem dL_leastYBySearch_16 : decode cL_leastYBySearch 16 = .ok (.iconst 2, 1) := by decide +kernel
theorem dL_leastYBySearch_17 : decode cL_leastYBySearch 17 = .ok (.ireturn, 1) := by decide +kernel
theorem dL_leastYBySearch_18 : decode cL_leastYBySearch 18 = .ok (.iconst 0, 1) := by decide +kernel
theorem dL_leastYBySearch_19 : decode cL_leastYBySearch 19 = .ok (.ireturn, 1) := by decide +kernel
theorem dL_isLaid_0 : decode cL_isLaid 0 = .ok (.aload_n 2, 1) := by decide +kernel
theorem dL_isLaid_1 : decode cL_isLaid 1 = .ok (.iconst 0, 1) := by decide +kernel
theorem dL_isLaid_2 : decode cL_isLaid 2 = .ok (.aload_n 0, 1) := by decide +kernel
theorem dL_isLaid_3 : decode cL_isLaid 3 = .ok (.iload_n 1, 1) := by decide +kernel
theorem dL_isLaid_4 : decode cL_isLaid 4 = .ok (.invokevirtual 51, 3) := by decide +kernel
theorem dL_isLaid_7 : decode cL_isLaid 7 = .ok (.ifCond .eq 7, 3) := by decide +kernel
theorem dL_isLaid_10 : decode cL_isLaid 10 = .ok (.lconst 1, 1) := by decide +kernel
theorem dL_isLaid_11 : decode cL_isLaid 11 = .ok (.goto 4, 3) := by decide +kernel
theorem dL_isLaid_14 : decode cL_isLaid 14 = .ok (.lconst 0, 1) := by decide +kernel
theorem dL_isLaid_15 : decode cL_isLaid 15 = .ok (.lastore, 1) := by decide +kernel
theorem dL_isLaid_16 : decode cL_isLaid 16 = .ok (.goto 6, 3) := by decide +kernel
theorem dL_isLaid_19 : decode cL_isLaid 19 = .ok (.astore_n 3, 1) := by decide +kernel
theorem dL_isLaid_20 : decode cL_isLaid 20 = .ok (.iconst 1, 1) := by decide +kernel
theorem dL_isLaid_21 : decode cL_isLaid 21 = .ok (.ireturn, 1) := by decide +kernel
theorem dL_isLaid_22 : decode cL_isLaid 22 = .ok (.iconst 0, 1) := by decide +kernel
theorem dL_isLaid_23 : decode cL_isLaid 23 = .ok (.ireturn, 1) := by decide +kernel
theorem dL_stoneFrom_0 : decode cL_stoneFrom 0 = .ok (.aload_n 2, 1) := by decide +kernel
theorem dL_stoneFrom_1 : decode cL_stoneFrom 1 = .ok (.iconst 0, 1) := by decide +kernel
theorem dL_stoneFrom_2 : decode cL_stoneFrom 2 = .ok (.aload_n 0, 1) := by decide +kernel
theorem dL_stoneFrom_3 : decode cL_stoneFrom 3 = .ok (.iload_n 1, 1) := by decide +kernel
theorem dL_stoneFrom_4 : decode cL_stoneFrom 4 = .ok (.invokevirtual 55, 3) := by decide +kernel
theorem dL_stoneFrom_7 : decode cL_stoneFrom 7 = .ok (.i2l, 1) := by decide +kernel
theorem dL_stoneFrom_8 : decode cL_stoneFrom 8 = .ok (.lastore, 1) := by decide +kernel
theorem dL_stoneFrom_9 : decode cL_stoneFrom 9 = .ok (.goto 9, 3) := by decide +kernel
theorem dL_stoneFrom_12 : decode cL_stoneFrom 12 = .ok (.astore_n 3, 1) := by decide +kernel
theorem dL_stoneFrom_13 : decode cL_stoneFrom 13 = .ok (.iconst 1, 1) := by decide +kernel
theorem dL_stoneFrom_14 : decode cL_stoneFrom 14 = .ok (.ireturn, 1) := by decide +kernel
theorem dL_stoneFrom_15 : decode cL_stoneFrom 15 = .ok (.astore_n 3, 1) := by decide +kernel
theorem dL_stoneFrom_16 : decode cL_stoneFrom 16 = .ok (.iconst 2, 1) := by decide +kernel
theorem dL_stoneFrom_17 : decode cL_stoneFrom 17 = .ok (.ireturn, 1) := by decide +kernel
theorem dL_stoneFrom_18 : decode cL_stoneFrom 18 = .ok (.iconst 0, 1) := by decide +kernel
theorem dL_stoneFrom_19 : decode cL_stoneFrom 19 = .ok (.ireturn, 1) := by decide +kernel
theorem dL_powerOf_0 : decode cL_powerOf 0 = .ok (.aload_n 2, 1) := by decide +kernel
theorem dL_powerOf_1 : decode cL_powerOf 1 = .ok (.iconst 0, 1) := by decide +kernel
theorem dL_powerOf_2 : decode cL_powerOf 2 = .ok (.aload_n 0, 1) := by decide +kernel
theorem dL_powerOf_3 : decode cL_powerOf 3 = .ok (.iload_n 1, 1) := by decide +kernel
theorem dL_powerOf_4 : decode cL_powerOf 4 = .ok (.invokevirtual 58, 3) := by decide +kernel
theorem dL_powerOf_7 : decode cL_powerOf 7 = .ok (.i2l, 1) := by decide +kernel
theorem dL_powerOf_8 : decode cL_powerOf 8 = .ok (.lastore, 1) := by decide +kernel
theorem dL_powerOf_9 : decode cL_powerOf 9 = .ok (.goto 9, 3) := by decide +kernel
theorem dL_powerOf_12 : decode cL_powerOf 12 = .ok (.astore_n 3, 1) := by decide +kernel
theorem dL_powerOf_13 : decode cL_powerOf 13 = .ok (.iconst 1, 1) := by decide +kernel
theorem dL_powerOf_14 : decode cL_powerOf 14 = .ok (.ireturn, 1) := by decide +kernel
theorem dL_powerOf_15 : decode cL_powerOf 15 = .ok (.astore_n 3, 1) := by decide +kernel
theorem dL_powerOf_16 : decode cL_powerOf 16 = .ok (.iconst 2, 1) := by decide +kernel
theorem dL_powerOf_17 : decode cL_powerOf 17 = .ok (.ireturn, 1) := by decide +kernel
theorem dL_powerOf_18 : decode cL_powerOf 18 = .ok (.iconst 0, 1) := by decide +kernel
theorem dL_powerOf_19 : decode cL_powerOf 19 = .ok (.ireturn, 1) := by decide +kernel
theorem dL_xOf_0 : decode cL_xOf 0 = .ok (.aload_n 2, 1) := by decide +kernel
theorem dL_xOf_1 : decode cL_xOf 1 = .ok (.iconst 0, 1) := by decide +kernel
theorem dL_xOf_2 : decode cL_xOf 2 = .ok (.aload_n 0, 1) := by decide +kernel
theorem dL_xOf_3 : decode cL_xOf 3 = .ok (.iload_n 1, 1) := by decide +kernel
theorem dL_xOf_4 : decode cL_xOf 4 = .ok (.invokevirtual 61, 3) := by decide +kernel
theorem dL_xOf_7 : decode cL_xOf 7 = .ok (.lastore, 1) := by decide +kernel
theorem dL_xOf_8 : decode cL_xOf 8 = .ok (.goto 9, 3) := by decide +kernel
theorem dL_xOf_11 : decode cL_xOf 11 = .ok (.astore_n 3, 1) := by decide +kernel
theorem dL_xOf_12 : decode cL_xOf 12 = .ok (.iconst 1, 1) := by decide +kernel
theorem dL_xOf_13 : decode cL_xOf 13 = .ok (.ireturn, 1) := by decide +kernel
theorem dL_xOf_14 : decode cL_xOf 14 = .ok (.astore_n 3, 1) := by decide +kernel
theorem dL_xOf_15 : decode cL_xOf 15 = .ok (.iconst 2, 1) := by decide +kernel
theorem dL_xOf_16 : decode cL_xOf 16 = .ok (.ireturn, 1) := by decide +kernel
theorem dL_xOf_17 : decode cL_xOf 17 = .ok (.iconst 0, 1) := by decide +kernel
theorem dL_xOf_18 : decode cL_xOf 18 = .ok (.ireturn, 1) := by decide +kernel
theorem dL_yOf_0 : decode cL_yOf 0 = .ok (.aload_n 2, 1) := by decide +kernel
theorem dL_yOf_1 : decode cL_yOf 1 = .ok (.iconst 0, 1) := by decide +kernel
theorem dL_yOf_2 : decode cL_yOf 2 = .ok (.aload_n 0, 1) := by decide +kernel
theorem dL_yOf_3 : decode cL_yOf 3 = .ok (.iload_n 1, 1) := by decide +kernel
theorem dL_yOf_4 : decode cL_yOf 4 = .ok (.invokevirtual 64, 3) := by decide +kernel
theorem dL_yOf_7 : decode cL_yOf 7 = .ok (.lastore, 1) := by decide +kernel
theorem dL_yOf_8 : decode cL_yOf 8 = .ok (.goto 9, 3) := by decide +kernel
theorem dL_yOf_11 : decode cL_yOf 11 = .ok (.astore_n 3, 1) := by decide +kernel
theorem dL_yOf_12 : decode cL_yOf 12 = .ok (.iconst 1, 1) := by decide +kernel
theorem dL_yOf_13 : decode cL_yOf 13 = .ok (.ireturn, 1) := by decide +kernel
theorem dL_yOf_14 : decode cL_yOf 14 = .ok (.astore_n 3, 1) := by decide +kernel
theorem dL_yOf_15 : decode cL_yOf 15 = .ok (.iconst 2, 1) := by decide +kernel
theorem dL_yOf_16 : decode cL_yOf 16 = .ok (.ireturn, 1) := by decide +kernel
theorem dL_yOf_17 : decode cL_yOf 17 = .ok (.iconst 0, 1) := by decide +kernel
theorem dL_yOf_18 : decode cL_yOf 18 = .ok (.ireturn, 1) := by decide +kernel
theorem dL_signOf_0 : decode cL_signOf 0 = .ok (.aload_n 2, 1) := by decide +kernel
theorem dL_signOf_1 : decode cL_signOf 1 = .ok (.iconst 0, 1) := by decide +kernel
theorem dL_signOf_2 : decode cL_signOf 2 = .ok (.aload_n 0, 1) := by decide +kernel
theorem dL_signOf_3 : decode cL_signOf 3 = .ok (.iload_n 1, 1) := by decide +kernel
theorem dL_signOf_4 : decode cL_signOf 4 = .ok (.invokevirtual 67, 3) := by decide +kernel
theorem dL_signOf_7 : decode cL_signOf 7 = .ok (.i2l, 1) := by decide +kernel
theorem dL_signOf_8 : decode cL_signOf 8 = .ok (.lastore, 1) := by decide +kernel
theorem dL_signOf_9 : decode cL_signOf 9 = .ok (.goto 9, 3) := by decide +kernel
theorem dL_signOf_12 : decode cL_signOf 12 = .ok (.astore_n 3, 1) := by decide +kernel
theorem dL_signOf_13 : decode cL_signOf 13 = .ok (.iconst 1, 1) := by decide +kernel
theorem dL_signOf_14 : decode cL_signOf 14 = .ok (.ireturn, 1) := by decide +kernel
theorem dL_signOf_15 : decode cL_signOf 15 = .ok (.astore_n 3, 1) := by decide +kernel
theorem dL_signOf_16 : decode cL_signOf 16 = .ok (.iconst 2, 1) := by decide +kernel
theorem dL_signOf_17 : decode cL_signOf 17 = .ok (.ireturn, 1) := by decide +kernel
theorem dL_signOf_18 : decode cL_signOf 18 = .ok (.iconst 0, 1) := by decide +kernel
theorem dL_signOf_19 : decode cL_signOf 19 = .ok (.ireturn, 1) := by decide +kernel
theorem dL_signByRemainders_0 : decode cL_signByRemainders 0 = .ok (.aload_n 2, 1) := by decide +kernel
theorem dL_signByRemainders_1 : decode cL_signByRemainders 1 = .ok (.iconst 0, 1) := by decide +kernel
theorem dL_signByRemainders_2 : decode cL_signByRemainders 2 = .ok (.aload_n 0, 1) := by decide +kernel
theorem dL_signByRemainders_3 : decode cL_signByRemainders 3 = .ok (.iload_n 1, 1) := by decide +kernel
theorem dL_signByRemainders_4 : decode cL_signByRemainders 4 = .ok (.invokevirtual 70, 3) := by decide +kernel
theorem dL_signByRemainders_7 : decode cL_signByRemainders 7 = .ok (.i2l, 1) := by decide +kernel
theorem dL_signByRemainders_8 : decode cL_signByRemainders 8 = .ok (.lastore, 1) := by decide +kernel
theorem dL_signByRemainders_9 : decode cL_signByRemainders 9 = .ok (.goto 9, 3) := by decide +kernel
theorem dL_signByRemainders_12 : decode cL_signByRemainders 12 = .ok (.astore_n 3, 1) := by decide +kernel
theorem dL_signByRemainders_13 : decode cL_signByRemainders 13 = .ok (.iconst 1, 1) := by decide +kernel
theorem dL_signByRemainders_14 : decode cL_signByRemainders 14 = .ok (.ireturn, 1) := by decide +kernel
theorem dL_signByRemainders_15 : decode cL_signByRemainders 15 = .ok (.astore_n 3, 1) := by decide +kernel
theorem dL_signByRemainders_16 : decode cL_signByRemainders 16 = .ok (.iconst 2, 1) := by decide +kernel
theorem dL_signByRemainders_17 : decode cL_signByRemainders 17 = .ok (.ireturn, 1) := by decide +kernel
theorem dL_signByRemainders_18 : decode cL_signByRemainders 18 = .ok (.iconst 0, 1) := by decide +kernel
theorem dL_signByRemainders_19 : decode cL_signByRemainders 19 = .ok (.ireturn, 1) := by decide +kernel
theorem dL_nearRoot_0 : decode cL_nearRoot 0 = .ok (.aload_n 2, 1) := by decide +kernel
theorem dL_nearRoot_1 : decode cL_nearRoot 1 = .ok (.iconst 0, 1) := by decide +kernel
theorem dL_nearRoot_2 : decode cL_nearRoot 2 = .ok (.aload_n 0, 1) := by decide +kernel
theorem dL_nearRoot_3 : decode cL_nearRoot 3 = .ok (.iload_n 1, 1) := by decide +kernel
theorem dL_nearRoot_4 : decode cL_nearRoot 4 = .ok (.invokevirtual 73, 3) := by decide +kernel
theorem dL_nearRoot_7 : decode cL_nearRoot 7 = .ok (.f2d, 1) := by decide +kernel
theorem dL_nearRoot_8 : decode cL_nearRoot 8 = .ok (.dastore, 1) := by decide +kernel
theorem dL_nearRoot_9 : decode cL_nearRoot 9 = .ok (.goto 9, 3) := by decide +kernel
theorem dL_nearRoot_12 : decode cL_nearRoot 12 = .ok (.astore_n 3, 1) := by decide +kernel
theorem dL_nearRoot_13 : decode cL_nearRoot 13 = .ok (.iconst 1, 1) := by decide +kernel
theorem dL_nearRoot_14 : decode cL_nearRoot 14 = .ok (.ireturn, 1) := by decide +kernel
theorem dL_nearRoot_15 : decode cL_nearRoot 15 = .ok (.astore_n 3, 1) := by decide +kernel
theorem dL_nearRoot_16 : decode cL_nearRoot 16 = .ok (.iconst 2, 1) := by decide +kernel
theorem dL_nearRoot_17 : decode cL_nearRoot 17 = .ok (.ireturn, 1) := by decide +kernel
theorem dL_nearRoot_18 : decode cL_nearRoot 18 = .ok (.iconst 0, 1) := by decide +kernel
theorem dL_nearRoot_19 : decode cL_nearRoot 19 = .ok (.ireturn, 1) := by decide +kernel
theorem dL_xAt_0 : decode cL_xAt 0 = .ok (.aload_n 2, 1) := by decide +kernel
theorem dL_xAt_1 : decode cL_xAt 1 = .ok (.iconst 0, 1) := by decide +kernel
theorem dL_xAt_2 : decode cL_xAt 2 = .ok (.aload_n 0, 1) := by decide +kernel
theorem dL_xAt_3 : decode cL_xAt 3 = .ok (.iload_n 1, 1) := by decide +kernel
theorem dL_xAt_4 : decode cL_xAt 4 = .ok (.invokevirtual 77, 3) := by decide +kernel
theorem dL_xAt_7 : decode cL_xAt 7 = .ok (.lastore, 1) := by decide +kernel
theorem dL_xAt_8 : decode cL_xAt 8 = .ok (.goto 9, 3) := by decide +kernel
theorem dL_xAt_11 : decode cL_xAt 11 = .ok (.astore_n 3, 1) := by decide +kernel
theorem dL_xAt_12 : decode cL_xAt 12 = .ok (.iconst 1, 1) := by decide +kernel
theorem dL_xAt_13 : decode cL_xAt 13 = .ok (.ireturn, 1) := by decide +kernel
theorem dL_xAt_14 : decode cL_xAt 14 = .ok (.astore_n 3, 1) := by decide +kernel
theorem dL_xAt_15 : decode cL_xAt 15 = .ok (.iconst 2, 1) := by decide +kernel
theorem dL_xAt_16 : decode cL_xAt 16 = .ok (.ireturn, 1) := by decide +kernel
theorem dL_xAt_17 : decode cL_xAt 17 = .ok (.iconst 0, 1) := by decide +kernel
theorem dL_xAt_18 : decode cL_xAt 18 = .ok (.ireturn, 1) := by decide +kernel
theorem dL_xAtBySet_0 : decode cL_xAtBySet 0 = .ok (.aload_n 2, 1) := by decide +kernel
theorem dL_xAtBySet_1 : decode cL_xAtBySet 1 = .ok (.iconst 0, 1) := by decide +kernel
theorem dL_xAtBySet_2 : decode cL_xAtBySet 2 = .ok (.aload_n 0, 1) := by decide +kernel
theorem dL_xAtBySet_3 : decode cL_xAtBySet 3 = .ok (.iload_n 1, 1) := by decide +kernel
theorem dL_xAtBySet_4 : decode cL_xAtBySet 4 = .ok (.invokevirtual 80, 3) := by decide +kernel
theorem dL_xAtBySet_7 : decode cL_xAtBySet 7 = .ok (.lastore, 1) := by decide +kernel
theorem dL_xAtBySet_8 : decode cL_xAtBySet 8 = .ok (.goto 9, 3) := by decide +kernel
theorem dL_xAtBySet_11 : decode cL_xAtBySet 11 = .ok (.astore_n 3, 1) := by decide +kernel
theorem dL_xAtBySet_12 : decode cL_xAtBySet 12 = .ok (.iconst 1, 1) := by decide +kernel
theorem dL_xAtBySet_13 : decode cL_xAtBySet 13 = .ok (.ireturn, 1) := by decide +kernel
theorem dL_xAtBySet_14 : decode cL_xAtBySet 14 = .ok (.astore_n 3, 1) := by decide +kernel
theorem dL_xAtBySet_15 : decode cL_xAtBySet 15 = .ok (.iconst 2, 1) := by decide +kernel
theorem dL_xAtBySet_16 : decode cL_xAtBySet 16 = .ok (.ireturn, 1) := by decide +kernel
theorem dL_xAtBySet_17 : decode cL_xAtBySet 17 = .ok (.iconst 0, 1) := by decide +kernel
theorem dL_xAtBySet_18 : decode cL_xAtBySet 18 = .ok (.ireturn, 1) := by decide +kernel
theorem dL_stoneAt_0 : decode cL_stoneAt 0 = .ok (.aload_n 2, 1) := by decide +kernel
theorem dL_stoneAt_1 : decode cL_stoneAt 1 = .ok (.iconst 0, 1) := by decide +kernel
theorem dL_stoneAt_2 : decode cL_stoneAt 2 = .ok (.aload_n 0, 1) := by decide +kernel
theorem dL_stoneAt_3 : decode cL_stoneAt 3 = .ok (.iload_n 1, 1) := by decide +kernel
theorem dL_stoneAt_4 : decode cL_stoneAt 4 = .ok (.invokevirtual 83, 3) := by decide +kernel
theorem dL_stoneAt_7 : decode cL_stoneAt 7 = .ok (.i2l, 1) := by decide +kernel
theorem dL_stoneAt_8 : decode cL_stoneAt 8 = .ok (.lastore, 1) := by decide +kernel
theorem dL_stoneAt_9 : decode cL_stoneAt 9 = .ok (.goto 9, 3) := by decide +kernel
theorem dL_stoneAt_12 : decode cL_stoneAt 12 = .ok (.astore_n 3, 1) := by decide +kernel
theorem dL_stoneAt_13 : decode cL_stoneAt 13 = .ok (.iconst 1, 1) := by decide +kernel
theorem dL_stoneAt_14 : decode cL_stoneAt 14 = .ok (.ireturn, 1) := by decide +kernel
theorem dL_stoneAt_15 : decode cL_stoneAt 15 = .ok (.astore_n 3, 1) := by decide +kernel
theorem dL_stoneAt_16 : decode cL_stoneAt 16 = .ok (.iconst 2, 1) := by decide +kernel
theorem dL_stoneAt_17 : decode cL_stoneAt 17 = .ok (.ireturn, 1) := by decide +kernel
theorem dL_stoneAt_18 : decode cL_stoneAt 18 = .ok (.iconst 0, 1) := by decide +kernel
theorem dL_stoneAt_19 : decode cL_stoneAt 19 = .ok (.ireturn, 1) := by decide +kernel
theorem dL_solutionsUpTo_0 : decode cL_solutionsUpTo 0 = .ok (.aload_n 3, 1) := by decide +kernel
theorem dL_solutionsUpTo_1 : decode cL_solutionsUpTo 1 = .ok (.iconst 0, 1) := by decide +kernel
theorem dL_solutionsUpTo_2 : decode cL_solutionsUpTo 2 = .ok (.aload_n 0, 1) := by decide +kernel
theorem dL_solutionsUpTo_3 : decode cL_solutionsUpTo 3 = .ok (.lload_n 1, 1) := by decide +kernel
theorem dL_solutionsUpTo_4 : decode cL_solutionsUpTo 4 = .ok (.invokevirtual 86, 3) := by decide +kernel
theorem dL_solutionsUpTo_7 : decode cL_solutionsUpTo 7 = .ok (.i2l, 1) := by decide +kernel
theorem dL_solutionsUpTo_8 : decode cL_solutionsUpTo 8 = .ok (.lastore, 1) := by decide +kernel
theorem dL_solutionsUpTo_9 : decode cL_solutionsUpTo 9 = .ok (.goto 7, 3) := by decide +kernel
theorem dL_solutionsUpTo_12 : decode cL_solutionsUpTo 12 = .ok (.astore 4, 2) := by decide +kernel
theorem dL_solutionsUpTo_14 : decode cL_solutionsUpTo 14 = .ok (.iconst 1, 1) := by decide +kernel
theorem dL_solutionsUpTo_15 : decode cL_solutionsUpTo 15 = .ok (.ireturn, 1) := by decide +kernel
theorem dL_solutionsUpTo_16 : decode cL_solutionsUpTo 16 = .ok (.iconst 0, 1) := by decide +kernel
theorem dL_solutionsUpTo_17 : decode cL_solutionsUpTo 17 = .ok (.ireturn, 1) := by decide +kernel
theorem dL_goBack_0 : decode cL_goBack 0 = .ok (.aload_n 1, 1) := by decide +kernel
theorem dL_goBack_1 : decode cL_goBack 1 = .ok (.iconst 0, 1) := by decide +kernel
theorem dL_goBack_2 : decode cL_goBack 2 = .ok (.aload_n 0, 1) := by decide +kernel
theorem dL_goBack_3 : decode cL_goBack 3 = .ok (.invokevirtual 90, 3) := by decide +kernel
theorem dL_goBack_6 : decode cL_goBack 6 = .ok (.i2l, 1) := by decide +kernel
theorem dL_goBack_7 : decode cL_goBack 7 = .ok (.lastore, 1) := by decide +kernel
theorem dL_goBack_8 : decode cL_goBack 8 = .ok (.goto 6, 3) := by decide +kernel
theorem dL_goBack_11 : decode cL_goBack 11 = .ok (.astore_n 2, 1) := by decide +kernel
theorem dL_goBack_12 : decode cL_goBack 12 = .ok (.iconst 1, 1) := by decide +kernel
theorem dL_goBack_13 : decode cL_goBack 13 = .ok (.ireturn, 1) := by decide +kernel
theorem dL_goBack_14 : decode cL_goBack 14 = .ok (.iconst 0, 1) := by decide +kernel
theorem dL_goBack_15 : decode cL_goBack 15 = .ok (.ireturn, 1) := by decide +kernel
theorem dL_undo_0 : decode cL_undo 0 = .ok (.aload_n 1, 1) := by decide +kernel
theorem dL_undo_1 : decode cL_undo 1 = .ok (.iconst 0, 1) := by decide +kernel
theorem dL_undo_2 : decode cL_undo 2 = .ok (.aload_n 0, 1) := by decide +kernel
theorem dL_undo_3 : decode cL_undo 3 = .ok (.invokevirtual 94, 3) := by decide +kernel
theorem dL_undo_6 : decode cL_undo 6 = .ok (.i2l, 1) := by decide +kernel
theorem dL_undo_7 : decode cL_undo 7 = .ok (.lastore, 1) := by decide +kernel
theorem dL_undo_8 : decode cL_undo 8 = .ok (.goto 6, 3) := by decide +kernel
theorem dL_undo_11 : decode cL_undo 11 = .ok (.astore_n 2, 1) := by decide +kernel
theorem dL_undo_12 : decode cL_undo 12 = .ok (.iconst 1, 1) := by decide +kernel
theorem dL_undo_13 : decode cL_undo 13 = .ok (.ireturn, 1) := by decide +kernel
theorem dL_undo_14 : decode cL_undo 14 = .ok (.iconst 0, 1) := by decide +kernel
theorem dL_undo_15 : decode cL_undo 15 = .ok (.ireturn, 1) := by decide +kernel
theorem dL_type_0 : decode cL_type 0 = .ok (.aload_n 2, 1) := by decide +kernel
theorem dL_type_1 : decode cL_type 1 = .ok (.iconst 0, 1) := by decide +kernel
theorem dL_type_2 : decode cL_type 2 = .ok (.aload_n 0, 1) := by decide +kernel
theorem dL_type_3 : decode cL_type 3 = .ok (.iload_n 1, 1) := by decide +kernel
theorem dL_type_4 : decode cL_type 4 = .ok (.invokevirtual 97, 3) := by decide +kernel
theorem dL_type_7 : decode cL_type 7 = .ok (.i2l, 1) := by decide +kernel
theorem dL_type_8 : decode cL_type 8 = .ok (.lastore, 1) := by decide +kernel
theorem dL_type_9 : decode cL_type 9 = .ok (.goto 9, 3) := by decide +kernel
theorem dL_type_12 : decode cL_type 12 = .ok (.astore_n 3, 1) := by decide +kernel
theorem dL_type_13 : decode cL_type 13 = .ok (.iconst 1, 1) := by decide +kernel
theorem dL_type_14 : decode cL_type 14 = .ok (.ireturn, 1) := by decide +kernel
theorem dL_type_15 : decode cL_type 15 = .ok (.astore_n 3, 1) := by decide +kernel
theorem dL_type_16 : decode cL_type 16 = .ok (.iconst 2, 1) := by decide +kernel
theorem dL_type_17 : decode cL_type 17 = .ok (.ireturn, 1) := by decide +kernel
theorem dL_type_18 : decode cL_type 18 = .ok (.iconst 0, 1) := by decide +kernel
theorem dL_type_19 : decode cL_type 19 = .ok (.ireturn, 1) := by decide +kernel
theorem dL_faultPosition_0 : decode cL_faultPosition 0 = .ok (.aload_n 1, 1) := by decide +kernel
theorem dL_faultPosition_1 : decode cL_faultPosition 1 = .ok (.iconst 0, 1) := by decide +kernel
theorem dL_faultPosition_2 : decode cL_faultPosition 2 = .ok (.aload_n 0, 1) := by decide +kernel
theorem dL_faultPosition_3 : decode cL_faultPosition 3 = .ok (.invokevirtual 100, 3) := by decide +kernel
theorem dL_faultPosition_6 : decode cL_faultPosition 6 = .ok (.i2l, 1) := by decide +kernel
theorem dL_faultPosition_7 : decode cL_faultPosition 7 = .ok (.lastore, 1) := by decide +kernel
theorem dL_faultPosition_8 : decode cL_faultPosition 8 = .ok (.goto 6, 3) := by decide +kernel
theorem dL_faultPosition_11 : decode cL_faultPosition 11 = .ok (.astore_n 2, 1) := by decide +kernel
theorem dL_faultPosition_12 : decode cL_faultPosition 12 = .ok (.iconst 1, 1) := by decide +kernel
theorem dL_faultPosition_13 : decode cL_faultPosition 13 = .ok (.ireturn, 1) := by decide +kernel
theorem dL_faultPosition_14 : decode cL_faultPosition 14 = .ok (.iconst 0, 1) := by decide +kernel
theorem dL_faultPosition_15 : decode cL_faultPosition 15 = .ok (.ireturn, 1) := by decide +kernel
theorem dL_faultReason_0 : decode cL_faultReason 0 = .ok (.aload_n 1, 1) := by decide +kernel
theorem dL_faultReason_1 : decode cL_faultReason 1 = .ok (.iconst 0, 1) := by decide +kernel
theorem dL_faultReason_2 : decode cL_faultReason 2 = .ok (.aload_n 0, 1) := by decide +kernel
theorem dL_faultReason_3 : decode cL_faultReason 3 = .ok (.invokevirtual 103, 3) := by decide +kernel
theorem dL_faultReason_6 : decode cL_faultReason 6 = .ok (.i2l, 1) := by decide +kernel
theorem dL_faultReason_7 : decode cL_faultReason 7 = .ok (.lastore, 1) := by decide +kernel
theorem dL_faultReason_8 : decode cL_faultReason 8 = .ok (.goto 6, 3) := by decide +kernel
theorem dL_faultReason_11 : decode cL_faultReason 11 = .ok (.astore_n 2, 1) := by decide +kernel
theorem dL_faultReason_12 : decode cL_faultReason 12 = .ok (.iconst 1, 1) := by decide +kernel
theorem dL_faultReason_13 : decode cL_faultReason 13 = .ok (.ireturn, 1) := by decide +kernel
theorem dL_faultReason_14 : decode cL_faultReason 14 = .ok (.iconst 0, 1) := by decide +kernel
theorem dL_faultReason_15 : decode cL_faultReason 15 = .ok (.ireturn, 1) := by decide +kernel
theorem dL_faultCause_0 : decode cL_faultCause 0 = .ok (.aload_n 1, 1) := by decide +kernel
theorem dL_faultCause_1 : decode cL_faultCause 1 = .ok (.iconst 0, 1) := by decide +kernel
theorem dL_faultCause_2 : decode cL_faultCause 2 = .ok (.aload_n 0, 1) := by decide +kernel
theorem dL_faultCause_3 : decode cL_faultCause 3 = .ok (.invokevirtual 106, 3) := by decide +kernel
theorem dL_faultCause_6 : decode cL_faultCause 6 = .ok (.i2l, 1) := by decide +kernel
theorem dL_faultCause_7 : decode cL_faultCause 7 = .ok (.lastore, 1) := by decide +kernel
theorem dL_faultCause_8 : decode cL_faultCause 8 = .ok (.goto 6, 3) := by decide +kernel
theorem dL_faultCause_11 : decode cL_faultCause 11 = .ok (.astore_n 2, 1) := by decide +kernel
theorem dL_faultCause_12 : decode cL_faultCause 12 = .ok (.iconst 1, 1) := by decide +kernel
theorem dL_faultCause_13 : decode cL_faultCause 13 = .ok (.ireturn, 1) := by decide +kernel
theorem dL_faultCause_14 : decode cL_faultCause 14 = .ok (.iconst 0, 1) := by decide +kernel
theorem dL_faultCause_15 : decode cL_faultCause 15 = .ok (.ireturn, 1) := by decide +kernel
theorem dL_play_0 : decode cL_play 0 = .ok (.aload_n 1, 1) := by decide +kernel
theorem dL_play_1 : decode cL_play 1 = .ok (.iconst 0, 1) := by decide +kernel
theorem dL_play_2 : decode cL_play 2 = .ok (.aload_n 0, 1) := by decide +kernel
theorem dL_play_3 : decode cL_play 3 = .ok (.invokevirtual 109, 3) := by decide +kernel
theorem dL_play_6 : decode cL_play 6 = .ok (.i2l, 1) := by decide +kernel
theorem dL_play_7 : decode cL_play 7 = .ok (.lastore, 1) := by decide +kernel
theorem dL_play_8 : decode cL_play 8 = .ok (.goto 6, 3) := by decide +kernel
theorem dL_play_11 : decode cL_play 11 = .ok (.astore_n 2, 1) := by decide +kernel
theorem dL_play_12 : decode cL_play 12 = .ok (.iconst 1, 1) := by decide +kernel
theorem dL_play_13 : decode cL_play 13 = .ok (.ireturn, 1) := by decide +kernel
theorem dL_play_14 : decode cL_play 14 = .ok (.iconst 0, 1) := by decide +kernel
theorem dL_play_15 : decode cL_play 15 = .ok (.ireturn, 1) := by decide +kernel
theorem dL_law_0 : decode cL_law 0 = .ok (.new 8, 3) := by decide +kernel
theorem dL_law_3 : decode cL_law 3 = .ok (.dup, 1) := by decide +kernel
theorem dL_law_4 : decode cL_law 4 = .ok (.invokespecial 112, 3) := by decide +kernel
theorem dL_law_7 : decode cL_law 7 = .ok (.astore_n 1, 1) := by decide +kernel
theorem dL_law_8 : decode cL_law 8 = .ok (.new 113, 3) := by decide +kernel
theorem dL_law_11 : decode cL_law 11 = .ok (.dup, 1) := by decide +kernel
theorem dL_law_12 : decode cL_law 12 = .ok (.invokespecial 115, 3) := by decide +kernel
theorem dL_law_15 : decode cL_law 15 = .ok (.astore_n 2, 1) := by decide +kernel
theorem dL_law_16 : decode cL_law 16 = .ok (.iconst 1, 1) := by decide +kernel
theorem dL_law_17 : decode cL_law 17 = .ok (.newarray .long, 2) := by decide +kernel
theorem dL_law_19 : decode cL_law 19 = .ok (.astore_n 3, 1) := by decide +kernel
theorem dL_law_20 : decode cL_law 20 = .ok (.iconst 1, 1) := by decide +kernel
theorem dL_law_21 : decode cL_law 21 = .ok (.newarray .double, 2) := by decide +kernel
theorem dL_law_23 : decode cL_law 23 = .ok (.astore 4, 2) := by decide +kernel
theorem dL_law_25 : decode cL_law 25 = .ok (.iconst 0, 1) := by decide +kernel
theorem dL_law_26 : decode cL_law 26 = .ok (.istore 5, 2) := by decide +kernel
theorem dL_law_28 : decode cL_law 28 = .ok (.iload 5, 2) := by decide +kernel
theorem dL_law_30 : decode cL_law 30 = .ok (.aload_n 0, 1) := by decide +kernel
theorem dL_law_31 : decode cL_law 31 = .ok (.arraylength, 1) := by decide +kernel
theorem dL_law_32 : decode cL_law 32 = .ok (.iconst 3, 1) := by decide +kernel
theorem dL_law_33 : decode cL_law 33 = .ok (.isub, 1) := by decide +kernel
theorem dL_law_34 : decode cL_law 34 = .ok (.if_icmp .gt 1946, 3) := by decide +kernel
theorem dL_law_37 : decode cL_law 37 = .ok (.aload_n 0, 1) := by decide +kernel
theorem dL_law_38 : decode cL_law 38 = .ok (.iload 5, 2) := by decide +kernel
theorem dL_law_40 : decode cL_law 40 = .ok (.iaload, 1) := by decide +kernel
theorem dL_law_41 : decode cL_law 41 = .ok (.bipush 63, 2) := by decide +kernel
theorem dL_law_43 : decode cL_law 43 = .ok (.iand, 1) := by decide +kernel
theorem dL_law_44 : decode cL_law 44 = .ok (.tableswitch 1930 0 36 #[164, 220, 276, 331, 386, 442, 498, 566, 622, 678, 734, 790, 803, 866, 922, 978, 1033, 1088, 1144, 1200, 1278, 1291, 1346, 1401, 1457, 1545, 1558, 1571, 1584, 1628, 1641, 1685, 1741, 1754, 1798, 1842, 1886], 164) := by decide +kernel
theorem dL_law_208 : decode cL_law 208 = .ok (.aload_n 1, 1) := by decide +kernel
theorem dL_law_209 : decode cL_law 209 = .ok (.aload_n 0, 1) := by decide +kernel
theorem dL_law_210 : decode cL_law 210 = .ok (.iload 5, 2) := by decide +kernel
theorem dL_law_212 : decode cL_law 212 = .ok (.iconst 1, 1) := by decide +kernel
theorem dL_law_213 : decode cL_law 213 = .ok (.iadd, 1) := by decide +kernel
theorem dL_law_214 : decode cL_law 214 = .ok (.iaload, 1) := by decide +kernel
theorem dL_law_215 : decode cL_law 215 = .ok (.aload_n 3, 1) := by decide +kernel
theorem dL_law_216 : decode cL_law 216 = .ok (.invokestatic 116, 3) := by decide +kernel
theorem dL_law_219 : decode cL_law 219 = .ok (.istore 6, 2) := by decide +kernel
theorem dL_law_221 : decode cL_law 221 = .ok (.aload_n 2, 1) := by decide +kernel
theorem dL_law_222 : decode cL_law 222 = .ok (.aload_n 0, 1) := by decide +kernel
theorem dL_law_223 : decode cL_law 223 = .ok (.iload 5, 2) := by decide +kernel
theorem dL_law_225 : decode cL_law 225 = .ok (.iconst 1, 1) := by decide +kernel
theorem dL_law_226 : decode cL_law 226 = .ok (.iadd, 1) := by decide +kernel
theorem dL_law_227 : decode cL_law 227 = .ok (.iaload, 1) := by decide +kernel
theorem dL_law_228 : decode cL_law 228 = .ok (.invokevirtual 121, 3) := by decide +kernel
theorem dL_law_231 : decode cL_law 231 = .ok (.istore 7, 2) := by decide +kernel
theorem dL_law_233 : decode cL_law 233 = .ok (.aload_n 2, 1) := by decide +kernel
theorem dL_law_234 : decode cL_law 234 = .ok (.invokevirtual 122, 3) := by decide +kernel
theorem dL_law_237 : decode cL_law 237 = .ok (.iload 6, 2) := by decide +kernel
theorem dL_law_239 : decode cL_law 239 = .ok (.if_icmp .eq 5, 3) := by decide +kernel
theorem dL_law_242 : decode cL_law 242 = .ok (.iconst 0, 1) := by decide +kernel
theorem dL_law_243 : decode cL_law 243 = .ok (.ireturn, 1) := by decide +kernel
theorem dL_law_244 : decode cL_law 244 = .ok (.iload 6, 2) := by decide +kernel
theorem dL_law_246 : decode cL_law 246 = .ok (.ifCond .ne 15, 3) := by decide +kernel
theorem dL_law_249 : decode cL_law 249 = .ok (.aload_n 3, 1) := by decide +kernel
theorem dL_law_250 : decode cL_law 250 = .ok (.iconst 0, 1) := by decide +kernel
theorem dL_law_251 : decode cL_law 251 = .ok (.laload, 1) := by decide +kernel
theorem dL_law_252 : decode cL_law 252 = .ok (.iload 7, 2) := by decide +kernel
theorem dL_law_254 : decode cL_law 254 = .ok (.i2l, 1) := by decide +kernel
theorem dL_law_255 : decode cL_law 255 = .ok (.lcmp, 1) := by decide +kernel
theorem dL_law_256 : decode cL_law 256 = .ok (.ifCond .eq 5, 3) := by decide +kernel
theorem dL_law_259 : decode cL_law 259 = .ok (.iconst 0, 1) := by decide +kernel
theorem dL_law_260 : decode cL_law 260 = .ok (.ireturn, 1) := by decide +kernel
theorem dL_law_261 : decode cL_law 261 = .ok (.goto 1713, 3) := by decide +kernel
theorem dL_law_264 : decode cL_law 264 = .ok (.aload_n 1, 1) := by decide +kernel
theorem dL_law_265 : decode cL_law 265 = .ok (.aload_n 0, 1) := by decide +kernel
theorem dL_law_266 : decode cL_law 266 = .ok (.iload 5, 2) := by decide +kernel
theorem dL_law_268 : decode cL_law 268 = .ok (.iconst 1, 1) := by decide +kernel
theorem dL_law_269 : decode cL_law 269 = .ok (.iadd, 1) := by decide +kernel
theorem dL_law_270 : decode cL_law 270 = .ok (.iaload, 1) := by decide +kernel
theorem dL_law_271 : decode cL_law 271 = .ok (.aload_n 3, 1) := by decide +kernel
theorem dL_law_272 : decode cL_law 272 = .ok (.invokestatic 125, 3) := by decide +kernel
theorem dL_law_275 : decode cL_law 275 = .ok (.istore 6, 2) := by decide +kernel
theorem dL_law_277 : decode cL_law 277 = .ok (.aload_n 2, 1) := by decide +kernel
theorem dL_law_278 : decode cL_law 278 = .ok (.aload_n 0, 1) := by decide +kernel
theorem dL_law_279 : decode cL_law 279 = .ok (.iload 5, 2) := by decide +kernel
theorem dL_law_281 : decode cL_law 281 = .ok (.iconst 1, 1) := by decide +kernel
theorem dL_law_282 : decode cL_law 282 = .ok (.iadd, 1) := by decide +kernel
theorem dL_law_283 : decode cL_law 283 = .ok (.iaload, 1) := by decide +kernel
theorem dL_law_284 : decode cL_law 284 = .ok (.invokevirtual 127, 3) := by decide +kernel
theorem dL_law_287 : decode cL_law 287 = .ok (.istore 7, 2) := by decide +kernel
theorem dL_law_289 : decode cL_law 289 = .ok (.aload_n 2, 1) := by decide +kernel
theorem dL_law_290 : decode cL_law 290 = .ok (.invokevirtual 122, 3) := by decide +kernel
theorem dL_law_293 : decode cL_law 293 = .ok (.iload 6, 2) := by decide +kernel
theorem dL_law_295 : decode cL_law 295 = .ok (.if_icmp .eq 5, 3) := by decide +kernel
theorem dL_law_298 : decode cL_law 298 = .ok (.iconst 0, 1) := by decide +kernel
theorem dL_law_299 : decode cL_law 299 = .ok (.ireturn, 1) := by decide +kernel
theorem dL_law_300 : decode cL_law 300 = .ok (.iload 6, 2) := by decide +kernel
theorem dL_law_302 : decode cL_law 302 = .ok (.ifCond .ne 15, 3) := by decide +kernel
theorem dL_law_305 : decode cL_law 305 = .ok (.aload_n 3, 1) := by decide +kernel
theorem dL_law_306 : decode cL_law 306 = .ok (.iconst 0, 1) := by decide +kernel
theorem dL_law_307 : decode cL_law 307 = .ok (.laload, 1) := by decide +kernel
theorem dL_law_308 : decode cL_law 308 = .ok (.iload 7, 2) := by decide +kernel
theorem dL_law_310 : decode cL_law 310 = .ok (.i2l, 1) := by decide +kernel
theorem dL_law_311 : decode cL_law 311 = .ok (.lcmp, 1) := by decide +kernel
theorem dL_law_312 : decode cL_law 312 = .ok (.ifCond .eq 5, 3) := by decide +kernel
theorem dL_law_315 : decode cL_law 315 = .ok (.iconst 0, 1) := by decide +kernel
theorem dL_law_316 : decode cL_law 316 = .ok (.ireturn, 1) := by decide +kernel
theorem dL_law_317 : decode cL_law 317 = .ok (.goto 1657, 3) := by decide +kernel
theorem dL_law_320 : decode cL_law 320 = .ok (.aload_n 1, 1) := by decide +kernel
theorem dL_law_321 : decode cL_law 321 = .ok (.aload_n 0, 1) := by decide +kernel
theorem dL_law_322 : decode cL_law 322 = .ok (.iload 5, 2) := by decide +kernel
theorem dL_law_324 : decode cL_law 324 = .ok (.iconst 1, 1) := by decide +kernel
theorem dL_law_325 : decode cL_law 325 = .ok (.iadd, 1) := by decide +kernel
theorem dL_law_326 : decode cL_law 326 = .ok (.iaload, 1) := by decide +kernel
theorem dL_law_327 : decode cL_law 327 = .ok (.aload_n 3, 1) := by decide +kernel
theorem dL_law_328 : decode cL_law 328 = .ok (.invokestatic 128, 3) := by decide +kernel
theorem dL_law_331 : decode cL_law 331 = .ok (.istore 6, 2) := by decide +kernel
theorem dL_law_333 : decode cL_law 333 = .ok (.aload_n 2, 1) := by decide +kernel
theorem dL_law_334 : decode cL_law 334 = .ok (.aload_n 0, 1) := by decide +kernel
theorem dL_law_335 : decode cL_law 335 = .ok (.iload 5, 2) := by decide +kernel
theorem dL_law_337 : decode cL_law 337 = .ok (.iconst 1, 1) := by decide +kernel
theorem dL_law_338 : decode cL_law 338 = .ok (.iadd, 1) := by decide +kernel
theorem dL_law_339 : decode cL_law 339 = .ok (.iaload, 1) := by decide +kernel
theorem dL_law_340 : decode cL_law 340 = .ok (.invokevirtual 130, 3) := by decide +kernel
theorem dL_law_343 : decode cL_law 343 = .ok (.lstore 7, 2) := by decide +kernel
theorem dL_law_345 : decode cL_law 345 = .ok (.aload_n 2, 1) := by decide +kernel
theorem dL_law_346 : decode cL_law 346 = .ok (.invokevirtual 122, 3) := by decide +kernel
theorem dL_law_349 : decode cL_law 349 = .ok (.iload 6, 2) := by decide +kernel
theorem dL_law_351 : decode cL_law 351 = .ok (.if_icmp .eq 5, 3) := by decide +kernel
theorem dL_law_354 : decode cL_law 354 = .ok (.iconst 0, 1) := by decide +kernel
theorem dL_law_355 : decode cL_law 355 = .ok (.ireturn, 1) := by decide +kernel
theorem dL_law_356 : decode cL_law 356 = .ok (.iload 6, 2) := by decide +kernel
theorem dL_law_358 : decode cL_law 358 = .ok (.ifCond .ne 14, 3) := by decide +kernel
theorem dL_law_361 : decode cL_law 361 = .ok (.aload_n 3, 1) := by decide +kernel
theorem dL_law_362 : decode cL_law 362 = .ok (.iconst 0, 1) := by decide +kernel
theorem dL_law_363 : decode cL_law 363 = .ok (.laload, 1) := by decide +kernel
theorem dL_law_364 : decode cL_law 364 = .ok (.lload 7, 2) := by decide +kernel
theorem dL_law_366 : decode cL_law 366 = .ok (.lcmp, 1) := by decide +kernel
theorem dL_law_367 : decode cL_law 367 = .ok (.ifCond .eq 5, 3) := by decide +kernel
theorem dL_law_370 : decode cL_law 370 = .ok (.iconst 0, 1) := by decide +kernel
theorem dL_law_371 : decode cL_law 371 = .ok (.ireturn, 1) := by decide +kernel
theorem dL_law_372 : decode cL_law 372 = .ok (.goto 1602, 3) := by decide +kernel
theorem dL_law_375 : decode cL_law 375 = .ok (.aload_n 1, 1) := by decide +kernel
theorem dL_law_376 : decode cL_law 376 = .ok (.aload_n 0, 1) := by decide +kernel
theorem dL_law_377 : decode cL_law 377 = .ok (.iload 5, 2) := by decide +kernel
theorem dL_law_379 : decode cL_law 379 = .ok (.iconst 1, 1) := by decide +kernel
theorem dL_law_380 : decode cL_law 380 = .ok (.iadd, 1) := by decide +kernel
theorem dL_law_381 : decode cL_law 381 = .ok (.iaload, 1) := by decide +kernel
theorem dL_law_382 : decode cL_law 382 = .ok (.aload_n 3, 1) := by decide +kernel
theorem dL_law_383 : decode cL_law 383 = .ok (.invokestatic 131, 3) := by decide +kernel
theorem dL_law_386 : decode cL_law 386 = .ok (.istore 6, 2) := by decide +kernel
theorem dL_law_388 : decode cL_law 388 = .ok (.aload_n 2, 1) := by decide +kernel
theorem dL_law_389 : decode cL_law 389 = .ok (.aload_n 0, 1) := by decide +kernel
theorem dL_law_390 : decode cL_law 390 = .ok (.iload 5, 2) := by decide +kernel
theorem dL_law_392 : decode cL_law 392 = .ok (.iconst 1, 1) := by decide +kernel
theorem dL_law_393 : decode cL_law 393 = .ok (.iadd, 1) := by decide +kernel
theorem dL_law_394 : decode cL_law 394 = .ok (.iaload, 1) := by decide +kernel
theorem dL_law_395 : decode cL_law 395 = .ok (.invokevirtual 133, 3) := by decide +kernel
theorem dL_law_398 : decode cL_law 398 = .ok (.lstore 7, 2) := by decide +kernel
theorem dL_law_400 : decode cL_law 400 = .ok (.aload_n 2, 1) := by decide +kernel
theorem dL_law_401 : decode cL_law 401 = .ok (.invokevirtual 122, 3) := by decide +kernel
theorem dL_law_404 : decode cL_law 404 = .ok (.iload 6, 2) := by decide +kernel
theorem dL_law_406 : decode cL_law 406 = .ok (.if_icmp .eq 5, 3) := by decide +kernel
theorem dL_law_409 : decode cL_law 409 = .ok (.iconst 0, 1) := by decide +kernel
theorem dL_law_410 : decode cL_law 410 = .ok (.ireturn, 1) := by decide +kernel
theorem dL_law_411 : decode cL_law 411 = .ok (.iload 6, 2) := by decide +kernel
theorem dL_law_413 : decode cL_law 413 = .ok (.ifCond .ne 14, 3) := by decide +kernel
theorem dL_law_416 : decode cL_law 416 = .ok (.aload_n 3, 1) := by decide +kernel
theorem dL_law_417 : decode cL_law 417 = .ok (.iconst 0, 1) := by decide +kernel
theorem dL_law_418 : decode cL_law 418 = .ok (.laload, 1) := by decide +kernel
theorem dL_law_419 : decode cL_law 419 = .ok (.lload 7, 2) := by decide +kernel
theorem dL_law_421 : decode cL_law 421 = .ok (.lcmp, 1) := by decide +kernel
theorem dL_law_422 : decode cL_law 422 = .ok (.ifCond .eq 5, 3) := by decide +kernel
theorem dL_law_425 : decode cL_law 425 = .ok (.iconst 0, 1) := by decide +kernel
theorem dL_law_426 : decode cL_law 426 = .ok (.ireturn, 1) := by decide +kernel
theorem dL_law_427 : decode cL_law 427 = .ok (.goto 1547, 3) := by decide +kernel
theorem dL_law_430 : decode cL_law 430 = .ok (.aload_n 1, 1) := by decide +kernel
theorem dL_law_431 : decode cL_law 431 = .ok (.aload_n 0, 1) := by decide +kernel
theorem dL_law_432 : decode cL_law 432 = .ok (.iload 5, 2) := by decide +kernel
theorem dL_law_434 : decode cL_law 434 = .ok (.iconst 1, 1) := by decide +kernel
theorem dL_law_435 : decode cL_law 435 = .ok (.iadd, 1) := by decide +kernel
theorem dL_law_436 : decode cL_law 436 = .ok (.iaload, 1) := by decide +kernel
theorem dL_law_437 : decode cL_law 437 = .ok (.aload_n 3, 1) := by decide +kernel
theorem dL_law_438 : decode cL_law 438 = .ok (.invokestatic 134, 3) := by decide +kernel
theorem dL_law_441 : decode cL_law 441 = .ok (.istore 6, 2) := by decide +kernel
theorem dL_law_443 : decode cL_law 443 = .ok (.aload_n 2, 1) := by decide +kernel
theorem dL_law_444 : decode cL_law 444 = .ok (.aload_n 0, 1) := by decide +kernel
theorem dL_law_445 : decode cL_law 445 = .ok (.iload 5, 2) := by decide +kernel
theorem dL_law_447 : decode cL_law 447 = .ok (.iconst 1, 1) := by decide +kernel
theorem dL_law_448 : decode cL_law 448 = .ok (.iadd, 1) := by decide +kernel
theorem dL_law_449 : decode cL_law 449 = .ok (.iaload, 1) := by decide +kernel
theorem dL_law_450 : decode cL_law 450 = .ok (.invokevirtual 136, 3) := by decide +kernel
theorem dL_law_453 : decode cL_law 453 = .ok (.istore 7, 2) := by decide +kernel
theorem dL_law_455 : decode cL_law 455 = .ok (.aload_n 2, 1) := by decide +kernel
theorem dL_law_456 : decode cL_law 456 = .ok (.invokevirtual 122, 3) := by decide +kernel
theorem dL_law_459 : decode cL_law 459 = .ok (.iload 6, 2) := by decide +kernel
theorem dL_law_461 : decode cL_law 461 = .ok (.if_icmp .eq 5, 3) := by decide +kernel
theorem dL_law_464 : decode cL_law 464 = .ok (.iconst 0, 1) := by decide +kernel
theorem dL_law_465 : decode cL_law 465 = .ok (.ireturn, 1) := by decide +kernel
theorem dL_law_466 : decode cL_law 466 = .ok (.iload 6, 2) := by decide +kernel
theorem dL_law_468 : decode cL_law 468 = .ok (.ifCond .ne 15, 3) := by decide +kernel
theorem dL_law_471 : decode cL_law 471 = .ok (.aload_n 3, 1) := by decide +kernel
theorem dL_law_472 : decode cL_law 472 = .ok (.iconst 0, 1) := by decide +kernel
theorem dL_law_473 : decode cL_law 473 = .ok (.laload, 1) := by decide +kernel
theorem dL_law_474 : decode cL_law 474 = .ok (.iload 7, 2) := by decide +kernel
theorem dL_law_476 : decode cL_law 476 = .ok (.i2l, 1) := by decide +kernel
theorem dL_law_477 : decode cL_law 477 = .ok (.lcmp, 1) := by decide +kernel
theorem dL_law_478 : decode cL_law 478 = .ok (.ifCond .eq 5, 3) := by decide +kernel
theorem dL_law_481 : decode cL_law 481 = .ok (.iconst 0, 1) := by decide +kernel
theorem dL_law_482 : decode cL_law 482 = .ok (.ireturn, 1) := by decide +kernel
theorem dL_law_483 : decode cL_law 483 = .ok (.goto 1491, 3) := by decide +kernel
theorem dL_law_486 : decode cL_law 486 = .ok (.aload_n 1, 1) := by decide +kernel
theorem dL_law_487 : decode cL_law 487 = .ok (.aload_n 0, 1) := by decide +kernel
theorem dL_law_488 : decode cL_law 488 = .ok (.iload 5, 2) := by decide +kernel
theorem dL_law_490 : decode cL_law 490 = .ok (.iconst 1, 1) := by decide +kernel
theorem dL_law_491 : decode cL_law 491 = .ok (.iadd, 1) := by decide +kernel
theorem dL_law_492 : decode cL_law 492 = .ok (.iaload, 1) := by decide +kernel
theorem dL_law_493 : decode cL_law 493 = .ok (.aload_n 3, 1) := by decide +kernel
theorem dL_law_494 : decode cL_law 494 = .ok (.invokestatic 137, 3) := by decide +kernel
theorem dL_law_497 : decode cL_law 497 = .ok (.istore 6, 2) := by decide +kernel
theorem dL_law_499 : decode cL_law 499 = .ok (.aload_n 2, 1) := by decide +kernel
theorem dL_law_500 : decode cL_law 500 = .ok (.aload_n 0, 1) := by decide +kernel
theorem dL_law_501 : decode cL_law 501 = .ok (.iload 5, 2) := by decide +kernel
theorem dL_law_503 : decode cL_law 503 = .ok (.iconst 1, 1) := by decide +kernel
theorem dL_law_504 : decode cL_law 504 = .ok (.iadd, 1) := by decide +kernel
theorem dL_law_505 : decode cL_law 505 = .ok (.iaload, 1) := by decide +kernel
theorem dL_law_506 : decode cL_law 506 = .ok (.invokevirtual 139, 3) := by decide +kernel
theorem dL_law_509 : decode cL_law 509 = .ok (.istore 7, 2) := by decide +kernel
theorem dL_law_511 : decode cL_law 511 = .ok (.aload_n 2, 1) := by decide +kernel
theorem dL_law_512 : decode cL_law 512 = .ok (.invokevirtual 122, 3) := by decide +kernel
theorem dL_law_515 : decode cL_law 515 = .ok (.iload 6, 2) := by decide +kernel
theorem dL_law_517 : decode cL_law 517 = .ok (.if_icmp .eq 5, 3) := by decide +kernel
theorem dL_law_520 : decode cL_law 520 = .ok (.iconst 0, 1) := by decide +kernel
theorem dL_law_521 : decode cL_law 521 = .ok (.ireturn, 1) := by decide +kernel
theorem dL_law_522 : decode cL_law 522 = .ok (.iload 6, 2) := by decide +kernel
theorem dL_law_524 : decode cL_law 524 = .ok (.ifCond .ne 15, 3) := by decide +kernel
theorem dL_law_527 : decode cL_law 527 = .ok (.aload_n 3, 1) := by decide +kernel
theorem dL_law_528 : decode cL_law 528 = .ok (.iconst 0, 1) := by decide +kernel
theorem dL_law_529 : decode cL_law 529 = .ok (.laload, 1) := by decide +kernel
theorem dL_law_530 : decode cL_law 530 = .ok (.iload 7, 2) := by decide +kernel
theorem dL_law_532 : decode cL_law 532 = .ok (.i2l, 1) := by decide +kernel
theorem dL_law_533 : decode cL_law 533 = .ok (.lcmp, 1) := by decide +kernel
theorem dL_law_534 : decode cL_law 534 = .ok (.ifCond .eq 5, 3) := by decide +kernel
theorem dL_law_537 : decode cL_law 537 = .ok (.iconst 0, 1) := by decide +kernel
theorem dL_law_538 : decode cL_law 538 = .ok (.ireturn, 1) := by decide +kernel
theorem dL_law_539 : decode cL_law 539 = .ok (.goto 1435, 3) := by decide +kernel
theorem dL_law_542 : decode cL_law 542 = .ok (.aload_n 1, 1) := by decide +kernel
theorem dL_law_543 : decode cL_law 543 = .ok (.aload_n 0, 1) := by decide +kernel
theorem dL_law_544 : decode cL_law 544 = .ok (.iload 5, 2) := by decide +kernel
theorem dL_law_546 : decode cL_law 546 = .ok (.iconst 1, 1) := by decide +kernel
theorem dL_law_547 : decode cL_law 547 = .ok (.iadd, 1) := by decide +kernel
theorem dL_law_548 : decode cL_law 548 = .ok (.iaload, 1) := by decide +kernel
theorem dL_law_549 : decode cL_law 549 = .ok (.aload_n 0, 1) := by decide +kernel
theorem dL_law_550 : decode cL_law 550 = .ok (.iload 5, 2) := by decide +kernel
theorem dL_law_552 : decode cL_law 552 = .ok (.iconst 2, 1) := by decide +kernel
theorem dL_law_553 : decode cL_law 553 = .ok (.iadd, 1) := by decide +kernel
theorem dL_law_554 : decode cL_law 554 = .ok (.iaload, 1) := by decide +kernel
theorem dL_law_555 : decode cL_law 555 = .ok (.aload_n 3, 1) := by decide +kernel
theorem dL_law_556 : decode cL_law 556 = .ok (.invokestatic 140, 3) := by decide +kernel
theorem dL_law_559 : decode cL_law 559 = .ok (.istore 6, 2) := by decide +kernel
theorem dL_law_561 : decode cL_law 561 = .ok (.aload_n 2, 1) := by decide +kernel
theorem dL_law_562 : decode cL_law 562 = .ok (.aload_n 0, 1) := by decide +kernel
theorem dL_law_563 : decode cL_law 563 = .ok (.iload 5, 2) := by decide +kernel
theorem dL_law_565 : decode cL_law 565 = .ok (.iconst 1, 1) := by decide +kernel
theorem dL_law_566 : decode cL_law 566 = .ok (.iadd, 1) := by decide +kernel
theorem dL_law_567 : decode cL_law 567 = .ok (.iaload, 1) := by decide +kernel
theorem dL_law_568 : decode cL_law 568 = .ok (.aload_n 0, 1) := by decide +kernel
theorem dL_law_569 : decode cL_law 569 = .ok (.iload 5, 2) := by decide +kernel
theorem dL_law_571 : decode cL_law 571 = .ok (.iconst 2, 1) := by decide +kernel
theorem dL_law_572 : decode cL_law 572 = .ok (.iadd, 1) := by decide +kernel
theorem dL_law_573 : decode cL_law 573 = .ok (.iaload, 1) := by decide +kernel
theorem dL_law_574 : decode cL_law 574 = .ok (.invokevirtual 143, 3) := by decide +kernel
theorem dL_law_577 : decode cL_law 577 = .ok (.istore 7, 2) := by decide +kernel
theorem dL_law_579 : decode cL_law 579 = .ok (.aload_n 2, 1) := by decide +kernel
theorem dL_law_580 : decode cL_law 580 = .ok (.invokevirtual 122, 3) := by decide +kernel
theorem dL_law_583 : decode cL_law 583 = .ok (.iload 6, 2) := by decide +kernel
theorem dL_law_585 : decode cL_law 585 = .ok (.if_icmp .eq 5, 3) := by decide +kernel
theorem dL_law_588 : decode cL_law 588 = .ok (.iconst 0, 1) := by decide +kernel
theorem dL_law_589 : decode cL_law 589 = .ok (.ireturn, 1) := by decide +kernel
theorem dL_law_590 : decode cL_law 590 = .ok (.iload 6, 2) := by decide +kernel
theorem dL_law_592 : decode cL_law 592 = .ok (.ifCond .ne 15, 3) := by decide +kernel
theorem dL_law_595 : decode cL_law 595 = .ok (.aload_n 3, 1) := by decide +kernel
theorem dL_law_596 : decode cL_law 596 = .ok (.iconst 0, 1) := by decide +kernel
theorem dL_law_597 : decode cL_law 597 = .ok (.laload, 1) := by decide +kernel
theorem dL_law_598 : decode cL_law 598 = .ok (.iload 7, 2) := by decide +kernel
theorem dL_law_600 : decode cL_law 600 = .ok (.i2l, 1) := by decide +kernel
theorem dL_law_601 : decode cL_law 601 = .ok (.lcmp, 1) := by decide +kernel
theorem dL_law_602 : decode cL_law 602 = .ok (.ifCond .eq 5, 3) := by decide +kernel
theorem dL_law_605 : decode cL_law 605 = .ok (.iconst 0, 1) := by decide +kernel
theorem dL_law_606 : decode cL_law 606 = .ok (.ireturn, 1) := by decide +kernel
theorem dL_law_607 : decode cL_law 607 = .ok (.goto 1367, 3) := by decide +kernel
theorem dL_law_610 : decode cL_law 610 = .ok (.aload_n 1, 1) := by decide +kernel
theorem dL_law_611 : decode cL_law 611 = .ok (.aload_n 0, 1) := by decide +kernel
theorem dL_law_612 : decode cL_law 612 = .ok (.iload 5, 2) := by decide +kernel
theorem dL_law_614 : decode cL_law 614 = .ok (.iconst 1, 1) := by decide +kernel
theorem dL_law_615 : decode cL_law 615 = .ok (.iadd, 1) := by decide +kernel
theorem dL_law_616 : decode cL_law 616 = .ok (.iaload, 1) := by decide +kernel
theorem dL_law_617 : decode cL_law 617 = .ok (.aload_n 3, 1) := by decide +kernel
theorem dL_law_618 : decode cL_law 618 = .ok (.invokestatic 144, 3) := by decide +kernel
theorem dL_law_621 : decode cL_law 621 = .ok (.istore 6, 2) := by decide +kernel
theorem dL_law_623 : decode cL_law 623 = .ok (.aload_n 2, 1) := by decide +kernel
theorem dL_law_624 : decode cL_law 624 = .ok (.aload_n 0, 1) := by decide +kernel
theorem dL_law_625 : decode cL_law 625 = .ok (.iload 5, 2) := by decide +kernel
theorem dL_law_627 : decode cL_law 627 = .ok (.iconst 1, 1) := by decide +kernel
theorem dL_law_628 : decode cL_law 628 = .ok (.iadd, 1) := by decide +kernel
theorem dL_law_629 : decode cL_law 629 = .ok (.iaload, 1) := by decide +kernel
theorem dL_law_630 : decode cL_law 630 = .ok (.invokevirtual 146, 3) := by decide +kernel
theorem dL_law_633 : decode cL_law 633 = .ok (.istore 7, 2) := by decide +kernel
theorem dL_law_635 : decode cL_law 635 = .ok (.aload_n 2, 1) := by decide +kernel
theorem dL_law_636 : decode cL_law 636 = .ok (.invokevirtual 122, 3) := by decide +kernel
theorem dL_law_639 : decode cL_law 639 = .ok (.iload 6, 2) := by decide +kernel
theorem dL_law_641 : decode cL_law 641 = .ok (.if_icmp .eq 5, 3) := by decide +kernel
theorem dL_law_644 : decode cL_law 644 = .ok (.iconst 0, 1) := by decide +kernel
theorem dL_law_645 : decode cL_law 645 = .ok (.ireturn, 1) := by decide +kernel
theorem dL_law_646 : decode cL_law 646 = .ok (.iload 6, 2) := by decide +kernel
theorem dL_law_648 : decode cL_law 648 = .ok (.ifCond .ne 15, 3) := by decide +kernel
theorem dL_law_651 : decode cL_law 651 = .ok (.aload_n 3, 1) := by decide +kernel
theorem dL_law_652 : decode cL_law 652 = .ok (.iconst 0, 1) := by decide +kernel
theorem dL_law_653 : decode cL_law 653 = .ok (.laload, 1) := by decide +kernel
theorem dL_law_654 : decode cL_law 654 = .ok (.iload 7, 2) := by decide +kernel
theorem dL_law_656 : decode cL_law 656 = .ok (.i2l, 1) := by decide +kernel
theorem dL_law_657 : decode cL_law 657 = .ok (.lcmp, 1) := by decide +kernel
theorem dL_law_658 : decode cL_law 658 = .ok (.ifCond .eq 5, 3) := by decide +kernel
theorem dL_law_661 : decode cL_law 661 = .ok (.iconst 0, 1) := by decide +kernel
theorem dL_law_662 : decode cL_law 662 = .ok (.ireturn, 1) := by decide +kernel
theorem dL_law_663 : decode cL_law 663 = .ok (.goto 1311, 3) := by decide +kernel
theorem dL_law_666 : decode cL_law 666 = .ok (.aload_n 1, 1) := by decide +kernel
theorem dL_law_667 : decode cL_law 667 = .ok (.aload_n 0, 1) := by decide +kernel
theorem dL_law_668 : decode cL_law 668 = .ok (.iload 5, 2) := by decide +kernel
theorem dL_law_670 : decode cL_law 670 = .ok (.iconst 1, 1) := by decide +kernel
theorem dL_law_671 : decode cL_law 671 = .ok (.iadd, 1) := by decide +kernel
theorem dL_law_672 : decode cL_law 672 = .ok (.iaload, 1) := by decide +kernel
theorem dL_law_673 : decode cL_law 673 = .ok (.aload_n 3, 1) := by decide +kernel
theorem dL_law_674 : decode cL_law 674 = .ok (.invokestatic 147, 3) := by decide +kernel
theorem dL_law_677 : decode cL_law 677 = .ok (.istore 6, 2) := by decide +kernel
theorem dL_law_679 : decode cL_law 679 = .ok (.aload_n 2, 1) := by decide +kernel
theorem dL_law_680 : decode cL_law 680 = .ok (.aload_n 0, 1) := by decide +kernel
theorem dL_law_681 : decode cL_law 681 = .ok (.iload 5, 2) := by decide +kernel
theorem dL_law_683 : decode cL_law 683 = .ok (.iconst 1, 1) := by decide +kernel
theorem dL_law_684 : decode cL_law 684 = .ok (.iadd, 1) := by decide +kernel
theorem dL_law_685 : decode cL_law 685 = .ok (.iaload, 1) := by decide +kernel
theorem dL_law_686 : decode cL_law 686 = .ok (.invokevirtual 149, 3) := by decide +kernel
theorem dL_law_689 : decode cL_law 689 = .ok (.istore 7, 2) := by decide +kernel
theorem dL_law_691 : decode cL_law 691 = .ok (.aload_n 2, 1) := by decide +kernel
theorem dL_law_692 : decode cL_law 692 = .ok (.invokevirtual 122, 3) := by decide +kernel
theorem dL_law_695 : decode cL_law 695 = .ok (.iload 6, 2) := by decide +kernel
theorem dL_law_697 : decode cL_law 697 = .ok (.if_icmp .eq 5, 3) := by decide +kernel
theorem dL_law_700 : decode cL_law 700 = .ok (.iconst 0, 1) := by decide +kernel
theorem dL_law_701 : decode cL_law 701 = .ok (.ireturn, 1) := by decide +kernel
theorem dL_law_702 : decode cL_law 702 = .ok (.iload 6, 2) := by decide +kernel
theorem dL_law_704 : decode cL_law 704 = .ok (.ifCond .ne 15, 3) := by decide +kernel
theorem dL_law_707 : decode cL_law 707 = .ok (.aload_n 3, 1) := by decide +kernel
theorem dL_law_708 : decode cL_law 708 = .ok (.iconst 0, 1) := by decide +kernel
theorem dL_law_709 : decode cL_law 709 = .ok (.laload, 1) := by decide +kernel
theorem dL_law_710 : decode cL_law 710 = .ok (.iload 7, 2) := by decide +kernel
theorem dL_law_712 : decode cL_law 712 = .ok (.i2l, 1) := by decide +kernel
theorem dL_law_713 : decode cL_law 713 = .ok (.lcmp, 1) := by decide +kernel
theorem dL_law_714 : decode cL_law 714 = .ok (.ifCond .eq 5, 3) := by decide +kernel
theorem dL_law_717 : decode cL_law 717 = .ok (.iconst 0, 1) := by decide +kernel
theorem dL_law_718 : decode cL_law 718 = .ok (.ireturn, 1) := by decide +kernel
theorem dL_law_719 : decode cL_law 719 = .ok (.goto 1255, 3) := by decide +kernel
theorem dL_law_722 : decode cL_law 722 = .ok (.aload_n 1, 1) := by decide +kernel
theorem dL_law_723 : decode cL_law 723 = .ok (.aload_n 0, 1) := by decide +kernel
theorem dL_law_724 : decode cL_law 724 = .ok (.iload 5, 2) := by decide +kernel
theorem dL_law_726 : decode cL_law 726 = .ok (.iconst 1, 1) := by decide +kernel
theorem dL_law_727 : decode cL_law 727 = .ok (.iadd, 1) := by decide +kernel
theorem dL_law_728 : decode cL_law 728 = .ok (.iaload, 1) := by decide +kernel
theorem dL_law_729 : decode cL_law 729 = .ok (.aload_n 3, 1) := by decide +kernel
theorem dL_law_730 : decode cL_law 730 = .ok (.invokestatic 150, 3) := by decide +kernel
theorem dL_law_733 : decode cL_law 733 = .ok (.istore 6, 2) := by decide +kernel
theorem dL_law_735 : decode cL_law 735 = .ok (.aload_n 2, 1) := by decide +kernel
theorem dL_law_736 : decode cL_law 736 = .ok (.aload_n 0, 1) := by decide +kernel
theorem dL_law_737 : decode cL_law 737 = .ok (.iload 5, 2) := by decide +kernel
theorem dL_law_739 : decode cL_law 739 = .ok (.iconst 1, 1) := by decide +kernel
theorem dL_law_740 : decode cL_law 740 = .ok (.iadd, 1) := by decide +kernel
theorem dL_law_741 : decode cL_law 741 = .ok (.iaload, 1) := by decide +kernel
theorem dL_law_742 : decode cL_law 742 = .ok (.invokevirtual 152, 3) := by decide +kernel
theorem dL_law_745 : decode cL_law 745 = .ok (.istore 7, 2) := by decide +kernel
theorem dL_law_747 : decode cL_law 747 = .ok (.aload_n 2, 1) := by decide +kernel
theorem dL_law_748 : decode cL_law 748 = .ok (.invokevirtual 122, 3) := by decide +kernel
theorem dL_law_751 : decode cL_law 751 = .ok (.iload 6, 2) := by decide +kernel
theorem dL_law_753 : decode cL_law 753 = .ok (.if_icmp .eq 5, 3) := by decide +kernel
theorem dL_law_756 : decode cL_law 756 = .ok (.iconst 0, 1) := by decide +kernel
theorem dL_law_757 : decode cL_law 757 = .ok (.ireturn, 1) := by decide +kernel
theorem dL_law_758 : decode cL_law 758 = .ok (.iload 6, 2) := by decide +kernel
theorem dL_law_760 : decode cL_law 760 = .ok (.ifCond .ne 15, 3) := by decide +kernel
theorem dL_law_763 : decode cL_law 763 = .ok (.aload_n 3, 1) := by decide +kernel
theorem dL_law_764 : decode cL_law 764 = .ok (.iconst 0, 1) := by decide +kernel
theorem dL_law_765 : decode cL_law 765 = .ok (.laload, 1) := by decide +kernel
theorem dL_law_766 : decode cL_law 766 = .ok (.iload 7, 2) := by decide +kernel
theorem dL_law_768 : decode cL_law 768 = .ok (.i2l, 1) := by decide +kernel
theorem dL_law_769 : decode cL_law 769 = .ok (.lcmp, 1) := by decide +kernel
theorem dL_law_770 : decode cL_law 770 = .ok (.ifCond .eq 5, 3) := by decide +kernel
theorem dL_law_773 : decode cL_law 773 = .ok (.iconst 0, 1) := by decide +kernel
theorem dL_law_774 : decode cL_law 774 = .ok (.ireturn, 1) := by decide +kernel
theorem dL_law_775 : decode cL_law 775 = .ok (.goto 1199, 3) := by decide +kernel
theorem dL_law_778 : decode cL_law 778 = .ok (.aload_n 1, 1) := by decide +kernel
theorem dL_law_779 : decode cL_law 779 = .ok (.aload_n 0, 1) := by decide +kernel
theorem dL_law_780 : decode cL_law 780 = .ok (.iload 5, 2) := by decide +kernel
theorem dL_law_782 : decode cL_law 782 = .ok (.iconst 1, 1) := by decide +kernel
theorem dL_law_783 : decode cL_law 783 = .ok (.iadd, 1) := by decide +kernel
theorem dL_law_784 : decode cL_law 784 = .ok (.iaload, 1) := by decide +kernel
theorem dL_law_785 : decode cL_law 785 = .ok (.aload_n 3, 1) := by decide +kernel
theorem dL_law_786 : decode cL_law 786 = .ok (.invokestatic 153, 3) := by decide +kernel
theorem dL_law_789 : decode cL_law 789 = .ok (.istore 6, 2) := by decide +kernel
theorem dL_law_791 : decode cL_law 791 = .ok (.aload_n 2, 1) := by decide +kernel
theorem dL_law_792 : decode cL_law 792 = .ok (.aload_n 0, 1) := by decide +kernel
theorem dL_law_793 : decode cL_law 793 = .ok (.iload 5, 2) := by decide +kernel
theorem dL_law_795 : decode cL_law 795 = .ok (.iconst 1, 1) := by decide +kernel
theorem dL_law_796 : decode cL_law 796 = .ok (.iadd, 1) := by decide +kernel
theorem dL_law_797 : decode cL_law 797 = .ok (.iaload, 1) := by decide +kernel
theorem dL_law_798 : decode cL_law 798 = .ok (.invokevirtual 155, 3) := by decide +kernel
theorem dL_law_801 : decode cL_law 801 = .ok (.istore 7, 2) := by decide +kernel
theorem dL_law_803 : decode cL_law 803 = .ok (.aload_n 2, 1) := by decide +kernel
theorem dL_law_804 : decode cL_law 804 = .ok (.invokevirtual 122, 3) := by decide +kernel
theorem dL_law_807 : decode cL_law 807 = .ok (.iload 6, 2) := by decide +kernel
theorem dL_law_809 : decode cL_law 809 = .ok (.if_icmp .eq 5, 3) := by decide +kernel
theorem dL_law_812 : decode cL_law 812 = .ok (.iconst 0, 1) := by decide +kernel
theorem dL_law_813 : decode cL_law 813 = .ok (.ireturn, 1) := by decide +kernel
theorem dL_law_814 : decode cL_law 814 = .ok (.iload 6, 2) := by decide +kernel
theorem dL_law_816 : decode cL_law 816 = .ok (.ifCond .ne 15, 3) := by decide +kernel
theorem dL_law_819 : decode cL_law 819 = .ok (.aload_n 3, 1) := by decide +kernel
theorem dL_law_820 : decode cL_law 820 = .ok (.iconst 0, 1) := by decide +kernel
theorem dL_law_821 : decode cL_law 821 = .ok (.laload, 1) := by decide +kernel
theorem dL_law_822 : decode cL_law 822 = .ok (.iload 7, 2) := by decide +kernel
theorem dL_law_824 : decode cL_law 824 = .ok (.i2l, 1) := by decide +kernel
theorem dL_law_825 : decode cL_law 825 = .ok (.lcmp, 1) := by decide +kernel
theorem dL_law_826 : decode cL_law 826 = .ok (.ifCond .eq 5, 3) := by decide +kernel
theorem dL_law_829 : decode cL_law 829 = .ok (.iconst 0, 1) := by decide +kernel
theorem dL_law_830 : decode cL_law 830 = .ok (.ireturn, 1) := by decide +kernel
theorem dL_law_831 : decode cL_law 831 = .ok (.goto 1143, 3) := by decide +kernel
theorem dL_law_834 : decode cL_law 834 = .ok (.aload_n 1, 1) := by decide +kernel
theorem dL_law_835 : decode cL_law 835 = .ok (.invokevirtual 156, 3) := by decide +kernel
theorem dL_law_838 : decode cL_law 838 = .ok (.aload_n 2, 1) := by decide +kernel
theorem dL_law_839 : decode cL_law 839 = .ok (.invokevirtual 159, 3) := by decide +kernel
theorem dL_law_842 : decode cL_law 842 = .ok (.if_icmp .eq 1132, 3) := by decide +kernel
theorem dL_law_845 : decode cL_law 845 = .ok (.iconst 0, 1) := by decide +kernel
theorem dL_law_846 : decode cL_law 846 = .ok (.ireturn, 1) := by decide +kernel
theorem dL_law_847 : decode cL_law 847 = .ok (.aload_n 1, 1) := by decide +kernel
theorem dL_law_848 : decode cL_law 848 = .ok (.aload_n 0, 1) := by decide +kernel
theorem dL_law_849 : decode cL_law 849 = .ok (.iload 5, 2) := by decide +kernel
theorem dL_law_851 : decode cL_law 851 = .ok (.iconst 1, 1) := by decide +kernel
theorem dL_law_852 : decode cL_law 852 = .ok (.iadd, 1) := by decide +kernel
theorem dL_law_853 : decode cL_law 853 = .ok (.iaload, 1) := by decide +kernel
theorem dL_law_854 : decode cL_law 854 = .ok (.aload_n 3, 1) := by decide +kernel
theorem dL_law_855 : decode cL_law 855 = .ok (.invokestatic 160, 3) := by decide +kernel
theorem dL_law_858 : decode cL_law 858 = .ok (.istore 6, 2) := by decide +kernel
theorem dL_law_860 : decode cL_law 860 = .ok (.aload_n 2, 1) := by decide +kernel
theorem dL_law_861 : decode cL_law 861 = .ok (.aload_n 0, 1) := by decide +kernel
theorem dL_law_862 : decode cL_law 862 = .ok (.iload 5, 2) := by decide +kernel
theorem dL_law_864 : decode cL_law 864 = .ok (.iconst 1, 1) := by decide +kernel
theorem dL_law_865 : decode cL_law 865 = .ok (.iadd, 1) := by decide +kernel
theorem dL_law_866 : decode cL_law 866 = .ok (.iaload, 1) := by decide +kernel
theorem dL_law_867 : decode cL_law 867 = .ok (.invokevirtual 162, 3) := by decide +kernel
theorem dL_law_870 : decode cL_law 870 = .ok (.istore 7, 2) := by decide +kernel
theorem dL_law_872 : decode cL_law 872 = .ok (.aload_n 2, 1) := by decide +kernel
theorem dL_law_873 : decode cL_law 873 = .ok (.invokevirtual 122, 3) := by decide +kernel
theorem dL_law_876 : decode cL_law 876 = .ok (.iload 6, 2) := by decide +kernel
theorem dL_law_878 : decode cL_law 878 = .ok (.if_icmp .eq 5, 3) := by decide +kernel
theorem dL_law_881 : decode cL_law 881 = .ok (.iconst 0, 1) := by decide +kernel
theorem dL_law_882 : decode cL_law 882 = .ok (.ireturn, 1) := by decide +kernel
theorem dL_law_883 : decode cL_law 883 = .ok (.iload 6, 2) := by decide +kernel
theorem dL_law_885 : decode cL_law 885 = .ok (.ifCond .ne 22, 3) := by decide +kernel
theorem dL_law_888 : decode cL_law 888 = .ok (.aload_n 3, 1) := by decide +kernel
theorem dL_law_889 : decode cL_law 889 = .ok (.iconst 0, 1) := by decide +kernel
theorem dL_law_890 : decode cL_law 890 = .ok (.laload, 1) := by decide +kernel
theorem dL_law_891 : decode cL_law 891 = .ok (.iload 7, 2) := by decide +kernel
theorem dL_law_893 : decode cL_law 893 = .ok (.ifCond .eq 7, 3) := by decide +kernel
theorem dL_law_896 : decode cL_law 896 = .ok (.lconst 1, 1) := by decide +kernel
theorem dL_law_897 : decode cL_law 897 = .ok (.goto 4, 3) := by decide +kernel
theorem dL_law_900 : decode cL_law 900 = .ok (.lconst 0, 1) := by decide +kernel
theorem dL_law_901 : decode cL_law 901 = .ok (.lcmp, 1) := by decide +kernel
theorem dL_law_902 : decode cL_law 902 = .ok (.ifCond .eq 5, 3) := by decide +kernel
theorem dL_law_905 : decode cL_law 905 = .ok (.iconst 0, 1) := by decide +kernel
theorem dL_law_906 : decode cL_law 906 = .ok (.ireturn, 1) := by decide +kernel
theorem dL_law_907 : decode cL_law 907 = .ok (.goto 1067, 3) := by decide +kernel
theorem dL_law_910 : decode cL_law 910 = .ok (.aload_n 1, 1) := by decide +kernel
theorem dL_law_911 : decode cL_law 911 = .ok (.aload_n 0, 1) := by decide +kernel
theorem dL_law_912 : decode cL_law 912 = .ok (.iload 5, 2) := by decide +kernel
theorem dL_law_914 : decode cL_law 914 = .ok (.iconst 1, 1) := by decide +kernel
theorem dL_law_915 : decode cL_law 915 = .ok (.iadd, 1) := by decide +kernel
theorem dL_law_916 : decode cL_law 916 = .ok (.iaload, 1) := by decide +kernel
theorem dL_law_917 : decode cL_law 917 = .ok (.aload_n 3, 1) := by decide +kernel
theorem dL_law_918 : decode cL_law 918 = .ok (.invokestatic 163, 3) := by decide +kernel
theorem dL_law_921 : decode cL_law 921 = .ok (.istore 6, 2) := by decide +kernel
theorem dL_law_923 : decode cL_law 923 = .ok (.aload_n 2, 1) := by decide +kernel
theorem dL_law_924 : decode cL_law 924 = .ok (.aload_n 0, 1) := by decide +kernel
theorem dL_law_925 : decode cL_law 925 = .ok (.iload 5, 2) := by decide +kernel
theorem dL_law_927 : decode cL_law 927 = .ok (.iconst 1, 1) := by decide +kernel
theorem dL_law_928 : decode cL_law 928 = .ok (.iadd, 1) := by decide +kernel
theorem dL_law_929 : decode cL_law 929 = .ok (.iaload, 1) := by decide +kernel
theorem dL_law_930 : decode cL_law 930 = .ok (.invokevirtual 165, 3) := by decide +kernel
theorem dL_law_933 : decode cL_law 933 = .ok (.istore 7, 2) := by decide +kernel
theorem dL_law_935 : decode cL_law 935 = .ok (.aload_n 2, 1) := by decide +kernel
theorem dL_law_936 : decode cL_law 936 = .ok (.invokevirtual 122, 3) := by decide +kernel
theorem dL_law_939 : decode cL_law 939 = .ok (.iload 6, 2) := by decide +kernel
theorem dL_law_941 : decode cL_law 941 = .ok (.if_icmp .eq 5, 3) := by decide +kernel
theorem dL_law_944 : decode cL_law 944 = .ok (.iconst 0, 1) := by decide +kernel
theorem dL_law_945 : decode cL_law 945 = .ok (.ireturn, 1) := by decide +kernel
theorem dL_law_946 : decode cL_law 946 = .ok (.iload 6, 2) := by decide +kernel
theorem dL_law_948 : decode cL_law 948 = .ok (.ifCond .ne 15, 3) := by decide +kernel
theorem dL_law_951 : decode cL_law 951 = .ok (.aload_n 3, 1) := by decide +kernel
theorem dL_law_952 : decode cL_law 952 = .ok (.iconst 0, 1) := by decide +kernel
theorem dL_law_953 : decode cL_law 953 = .ok (.laload, 1) := by decide +kernel
theorem dL_law_954 : decode cL_law 954 = .ok (.iload 7, 2) := by decide +kernel
theorem dL_law_956 : decode cL_law 956 = .ok (.i2l, 1) := by decide +kernel
theorem dL_law_957 : decode cL_law 957 = .ok (.lcmp, 1) := by decide +kernel
theorem dL_law_958 : decode cL_law 958 = .ok (.ifCond .eq 5, 3) := by decide +kernel
theorem dL_law_961 : decode cL_law 961 = .ok (.iconst 0, 1) := by decide +kernel
theorem dL_law_962 : decode cL_law 962 = .ok (.ireturn, 1) := by decide +kernel
theorem dL_law_963 : decode cL_law 963 = .ok (.goto 1011, 3) := by decide +kernel
theorem dL_law_966 : decode cL_law 966 = .ok (.aload_n 1, 1) := by decide +kernel
theorem dL_law_967 : decode cL_law 967 = .ok (.aload_n 0, 1) := by decide +kernel
theorem dL_law_968 : decode cL_law 968 = .ok (.iload 5, 2) := by decide +kernel
theorem dL_law_970 : decode cL_law 970 = .ok (.iconst 1, 1) := by decide +kernel
theorem dL_law_971 : decode cL_law 971 = .ok (.iadd, 1) := by decide +kernel
theorem dL_law_972 : decode cL_law 972 = .ok (.iaload, 1) := by decide +kernel
theorem dL_law_973 : decode cL_law 973 = .ok (.aload_n 3, 1) := by decide +kernel
theorem dL_law_974 : decode cL_law 974 = .ok (.invokestatic 166, 3) := by decide +kernel
theorem dL_law_977 : decode cL_law 977 = .ok (.istore 6, 2) := by decide +kernel
theorem dL_law_979 : decode cL_law 979 = .ok (.aload_n 2, 1) := by decide +kernel
theorem dL_law_980 : decode cL_law 980 = .ok (.aload_n 0, 1) := by decide +kernel
theorem dL_law_981 : decode cL_law 981 = .ok (.iload 5, 2) := by decide +kernel
theorem dL_law_983 : decode cL_law 983 = .ok (.iconst 1, 1) := by decide +kernel
theorem dL_law_984 : decode cL_law 984 = .ok (.iadd, 1) := by decide +kernel
theorem dL_law_985 : decode cL_law 985 = .ok (.iaload, 1) := by decide +kernel
theorem dL_law_986 : decode cL_law 986 = .ok (.invokevirtual 168, 3) := by decide +kernel
theorem dL_law_989 : decode cL_law 989 = .ok (.istore 7, 2) := by decide +kernel
theorem dL_law_991 : decode cL_law 991 = .ok (.aload_n 2, 1) := by decide +kernel
theorem dL_law_992 : decode cL_law 992 = .ok (.invokevirtual 122, 3) := by decide +kernel
theorem dL_law_995 : decode cL_law 995 = .ok (.iload 6, 2) := by decide +kernel
theorem dL_law_997 : decode cL_law 997 = .ok (.if_icmp .eq 5, 3) := by decide +kernel
theorem dL_law_1000 : decode cL_law 1000 = .ok (.iconst 0, 1) := by decide +kernel
theorem dL_law_1001 : decode cL_law 1001 = .ok (.ireturn, 1) := by decide +kernel
theorem dL_law_1002 : decode cL_law 1002 = .ok (.iload 6, 2) := by decide +kernel
theorem dL_law_1004 : decode cL_law 1004 = .ok (.ifCond .ne 15, 3) := by decide +kernel
theorem dL_law_1007 : decode cL_law 1007 = .ok (.aload_n 3, 1) := by decide +kernel
theorem dL_law_1008 : decode cL_law 1008 = .ok (.iconst 0, 1) := by decide +kernel
theorem dL_law_1009 : decode cL_law 1009 = .ok (.laload, 1) := by decide +kernel
theorem dL_law_1010 : decode cL_law 1010 = .ok (.iload 7, 2) := by decide +kernel
theorem dL_law_1012 : decode cL_law 1012 = .ok (.i2l, 1) := by decide +kernel
theorem dL_law_1013 : decode cL_law 1013 = .ok (.lcmp, 1) := by decide +kernel
theorem dL_law_1014 : decode cL_law 1014 = .ok (.ifCond .eq 5, 3) := by decide +kernel
theorem dL_law_1017 : decode cL_law 1017 = .ok (.iconst 0, 1) := by decide +kernel
theorem dL_law_1018 : decode cL_law 1018 = .ok (.ireturn, 1) := by decide +kernel
theorem dL_law_1019 : decode cL_law 1019 = .ok (.goto 955, 3) := by decide +kernel
theorem dL_law_1022 : decode cL_law 1022 = .ok (.aload_n 1, 1) := by decide +kernel
theorem dL_law_1023 : decode cL_law 1023 = .ok (.aload_n 0, 1) := by decide +kernel
theorem dL_law_1024 : decode cL_law 1024 = .ok (.iload 5, 2) := by decide +kernel
theorem dL_law_1026 : decode cL_law 1026 = .ok (.iconst 1, 1) := by decide +kernel
theorem dL_law_1027 : decode cL_law 1027 = .ok (.iadd, 1) := by decide +kernel
theorem dL_law_1028 : decode cL_law 1028 = .ok (.iaload, 1) := by decide +kernel
theorem dL_law_1029 : decode cL_law 1029 = .ok (.aload_n 3, 1) := by decide +kernel
theorem dL_law_1030 : decode cL_law 1030 = .ok (.invokestatic 169, 3) := by decide +kernel
theorem dL_law_1033 : decode cL_law 1033 = .ok (.istore 6, 2) := by decide +kernel
theorem dL_law_1035 : decode cL_law 1035 = .ok (.aload_n 2, 1) := by decide +kernel
theorem dL_law_1036 : decode cL_law 1036 = .ok (.aload_n 0, 1) := by decide +kernel
theorem dL_law_1037 : decode cL_law 1037 = .ok (.iload 5, 2) := by decide +kernel
theorem dL_law_1039 : decode cL_law 1039 = .ok (.iconst 1, 1) := by decide +kernel
theorem dL_law_1040 : decode cL_law 1040 = .ok (.iadd, 1) := by decide +kernel
theorem dL_law_1041 : decode cL_law 1041 = .ok (.iaload, 1) := by decide +kernel
theorem dL_law_1042 : decode cL_law 1042 = .ok (.invokevirtual 171, 3) := by decide +kernel
theorem dL_law_1045 : decode cL_law 1045 = .ok (.lstore 7, 2) := by decide +kernel
theorem dL_law_1047 : decode cL_law 1047 = .ok (.aload_n 2, 1) := by decide +kernel
theorem dL_law_1048 : decode cL_law 1048 = .ok (.invokevirtual 122, 3) := by decide +kernel
theorem dL_law_1051 : decode cL_law 1051 = .ok (.iload 6, 2) := by decide +kernel
theorem dL_law_1053 : decode cL_law 1053 = .ok (.if_icmp .eq 5, 3) := by decide +kernel
theorem dL_law_1056 : decode cL_law 1056 = .ok (.iconst 0, 1) := by decide +kernel
theorem dL_law_1057 : decode cL_law 1057 = .ok (.ireturn, 1) := by decide +kernel
theorem dL_law_1058 : decode cL_law 1058 = .ok (.iload 6, 2) := by decide +kernel
theorem dL_law_1060 : decode cL_law 1060 = .ok (.ifCond .ne 14, 3) := by decide +kernel
theorem dL_law_1063 : decode cL_law 1063 = .ok (.aload_n 3, 1) := by decide +kernel
theorem dL_law_1064 : decode cL_law 1064 = .ok (.iconst 0, 1) := by decide +kernel
theorem dL_law_1065 : decode cL_law 1065 = .ok (.laload, 1) := by decide +kernel
theorem dL_law_1066 : decode cL_law 1066 = .ok (.lload 7, 2) := by decide +kernel
theorem dL_law_1068 : decode cL_law 1068 = .ok (.lcmp, 1) := by decide +kernel
theorem dL_law_1069 : decode cL_law 1069 = .ok (.ifCond .eq 5, 3) := by decide +kernel
theorem dL_law_1072 : decode cL_law 1072 = .ok (.iconst 0, 1) := by decide +kernel
theorem dL_law_1073 : decode cL_law 1073 = .ok (.ireturn, 1) := by decide +kernel
theorem dL_law_1074 : decode cL_law 1074 = .ok (.goto 900, 3) := by decide +kernel
theorem dL_law_1077 : decode cL_law 1077 = .ok (.aload_n 1, 1) := by decide +kernel
theorem dL_law_1078 : decode cL_law 1078 = .ok (.aload_n 0, 1) := by decide +kernel
theorem dL_law_1079 : decode cL_law 1079 = .ok (.iload 5, 2) := by decide +kernel
theorem dL_law_1081 : decode cL_law 1081 = .ok (.iconst 1, 1) := by decide +kernel
theorem dL_law_1082 : decode cL_law 1082 = .ok (.iadd, 1) := by decide +kernel
theorem dL_law_1083 : decode cL_law 1083 = .ok (.iaload, 1) := by decide +kernel
theorem dL_law_1084 : decode cL_law 1084 = .ok (.aload_n 3, 1) := by decide +kernel
theorem dL_law_1085 : decode cL_law 1085 = .ok (.invokestatic 172, 3) := by decide +kernel
theorem dL_law_1088 : decode cL_law 1088 = .ok (.istore 6, 2) := by decide +kernel
theorem dL_law_1090 : decode cL_law 1090 = .ok (.aload_n 2, 1) := by decide +kernel
theorem dL_law_1091 : decode cL_law 1091 = .ok (.aload_n 0, 1) := by decide +kernel
theorem dL_law_1092 : decode cL_law 1092 = .ok (.iload 5, 2) := by decide +kernel
theorem dL_law_1094 : decode cL_law 1094 = .ok (.iconst 1, 1) := by decide +kernel
theorem dL_law_1095 : decode cL_law 1095 = .ok (.iadd, 1) := by decide +kernel
theorem dL_law_1096 : decode cL_law 1096 = .ok (.iaload, 1) := by decide +kernel
theorem dL_law_1097 : decode cL_law 1097 = .ok (.invokevirtual 174, 3) := by decide +kernel
theorem dL_law_1100 : decode cL_law 1100 = .ok (.lstore 7, 2) := by decide +kernel
theorem dL_law_1102 : decode cL_law 1102 = .ok (.aload_n 2, 1) := by decide +kernel
theorem dL_law_1103 : decode cL_law 1103 = .ok (.invokevirtual 122, 3) := by decide +kernel
theorem dL_law_1106 : decode cL_law 1106 = .ok (.iload 6, 2) := by decide +kernel
theorem dL_law_1108 : decode cL_law 1108 = .ok (.if_icmp .eq 5, 3) := by decide +kernel
theorem dL_law_1111 : decode cL_law 1111 = .ok (.iconst 0, 1) := by decide +kernel
theorem dL_law_1112 : decode cL_law 1112 = .ok (.ireturn, 1) := by decide +kernel
theorem dL_law_1113 : decode cL_law 1113 = .ok (.iload 6, 2) := by decide +kernel
theorem dL_law_1115 : decode cL_law 1115 = .ok (.ifCond .ne 14, 3) := by decide +kernel
theorem dL_law_1118 : decode cL_law 1118 = .ok (.aload_n 3, 1) := by decide +kernel
theorem dL_law_1119 : decode cL_law 1119 = .ok (.iconst 0, 1) := by decide +kernel
theorem dL_law_1120 : decode cL_law 1120 = .ok (.laload, 1) := by decide +kernel
theorem dL_law_1121 : decode cL_law 1121 = .ok (.lload 7, 2) := by decide +kernel
theorem dL_law_1123 : decode cL_law 1123 = .ok (.lcmp, 1) := by decide +kernel
theorem dL_law_1124 : decode cL_law 1124 = .ok (.ifCond .eq 5, 3) := by decide +kernel
theorem dL_law_1127 : decode cL_law 1127 = .ok (.iconst 0, 1) := by decide +kernel
theorem dL_law_1128 : decode cL_law 1128 = .ok (.ireturn, 1) := by decide +kernel
theorem dL_law_1129 : decode cL_law 1129 = .ok (.goto 845, 3) := by decide +kernel
theorem dL_law_1132 : decode cL_law 1132 = .ok (.aload_n 1, 1) := by decide +kernel
theorem dL_law_1133 : decode cL_law 1133 = .ok (.aload_n 0, 1) := by decide +kernel
theorem dL_law_1134 : decode cL_law 1134 = .ok (.iload 5, 2) := by decide +kernel
theorem dL_law_1136 : decode cL_law 1136 = .ok (.iconst 1, 1) := by decide +kernel
theorem dL_law_1137 : decode cL_law 1137 = .ok (.iadd, 1) := by decide +kernel
theorem dL_law_1138 : decode cL_law 1138 = .ok (.iaload, 1) := by decide +kernel
theorem dL_law_1139 : decode cL_law 1139 = .ok (.aload_n 3, 1) := by decide +kernel
theorem dL_law_1140 : decode cL_law 1140 = .ok (.invokestatic 175, 3) := by decide +kernel
theorem dL_law_1143 : decode cL_law 1143 = .ok (.istore 6, 2) := by decide +kernel
theorem dL_law_1145 : decode cL_law 1145 = .ok (.aload_n 2, 1) := by decide +kernel
theorem dL_law_1146 : decode cL_law 1146 = .ok (.aload_n 0, 1) := by decide +kernel
theorem dL_law_1147 : decode cL_law 1147 = .ok (.iload 5, 2) := by decide +kernel
theorem dL_law_1149 : decode cL_law 1149 = .ok (.iconst 1, 1) := by decide +kernel
theorem dL_law_1150 : decode cL_law 1150 = .ok (.iadd, 1) := by decide +kernel
theorem dL_law_1151 : decode cL_law 1151 = .ok (.iaload, 1) := by decide +kernel
theorem dL_law_1152 : decode cL_law 1152 = .ok (.invokevirtual 177, 3) := by decide +kernel
theorem dL_law_1155 : decode cL_law 1155 = .ok (.istore 7, 2) := by decide +kernel
theorem dL_law_1157 : decode cL_law 1157 = .ok (.aload_n 2, 1) := by decide +kernel
theorem dL_law_1158 : decode cL_law 1158 = .ok (.invokevirtual 122, 3) := by decide +kernel
theorem dL_law_1161 : decode cL_law 1161 = .ok (.iload 6, 2) := by decide +kernel
theorem dL_law_1163 : decode cL_law 1163 = .ok (.if_icmp .eq 5, 3) := by decide +kernel
theorem dL_law_1166 : decode cL_law 1166 = .ok (.iconst 0, 1) := by decide +kernel
theorem dL_law_1167 : decode cL_law 1167 = .ok (.ireturn, 1) := by decide +kernel
theorem dL_law_1168 : decode cL_law 1168 = .ok (.iload 6, 2) := by decide +kernel
theorem dL_law_1170 : decode cL_law 1170 = .ok (.ifCond .ne 15, 3) := by decide +kernel
theorem dL_law_1173 : decode cL_law 1173 = .ok (.aload_n 3, 1) := by decide +kernel
theorem dL_law_1174 : decode cL_law 1174 = .ok (.iconst 0, 1) := by decide +kernel
theorem dL_law_1175 : decode cL_law 1175 = .ok (.laload, 1) := by decide +kernel
theorem dL_law_1176 : decode cL_law 1176 = .ok (.iload 7, 2) := by decide +kernel
theorem dL_law_1178 : decode cL_law 1178 = .ok (.i2l, 1) := by decide +kernel
theorem dL_law_1179 : decode cL_law 1179 = .ok (.lcmp, 1) := by decide +kernel
theorem dL_law_1180 : decode cL_law 1180 = .ok (.ifCond .eq 5, 3) := by decide +kernel
theorem dL_law_1183 : decode cL_law 1183 = .ok (.iconst 0, 1) := by decide +kernel
theorem dL_law_1184 : decode cL_law 1184 = .ok (.ireturn, 1) := by decide +kernel
theorem dL_law_1185 : decode cL_law 1185 = .ok (.goto 789, 3) := by decide +kernel
theorem dL_law_1188 : decode cL_law 1188 = .ok (.aload_n 1, 1) := by decide +kernel
theorem dL_law_1189 : decode cL_law 1189 = .ok (.aload_n 0, 1) := by decide +kernel
theorem dL_law_1190 : decode cL_law 1190 = .ok (.iload 5, 2) := by decide +kernel
theorem dL_law_1192 : decode cL_law 1192 = .ok (.iconst 1, 1) := by decide +kernel
theorem dL_law_1193 : decode cL_law 1193 = .ok (.iadd, 1) := by decide +kernel
theorem dL_law_1194 : decode cL_law 1194 = .ok (.iaload, 1) := by decide +kernel
theorem dL_law_1195 : decode cL_law 1195 = .ok (.aload_n 3, 1) := by decide +kernel
theorem dL_law_1196 : decode cL_law 1196 = .ok (.invokestatic 178, 3) := by decide +kernel
theorem dL_law_1199 : decode cL_law 1199 = .ok (.istore 6, 2) := by decide +kernel
theorem dL_law_1201 : decode cL_law 1201 = .ok (.aload_n 2, 1) := by decide +kernel
theorem dL_law_1202 : decode cL_law 1202 = .ok (.aload_n 0, 1) := by decide +kernel
theorem dL_law_1203 : decode cL_law 1203 = .ok (.iload 5, 2) := by decide +kernel
theorem dL_law_1205 : decode cL_law 1205 = .ok (.iconst 1, 1) := by decide +kernel
theorem dL_law_1206 : decode cL_law 1206 = .ok (.iadd, 1) := by decide +kernel
theorem dL_law_1207 : decode cL_law 1207 = .ok (.iaload, 1) := by decide +kernel
theorem dL_law_1208 : decode cL_law 1208 = .ok (.invokevirtual 180, 3) := by decide +kernel
theorem dL_law_1211 : decode cL_law 1211 = .ok (.istore 7, 2) := by decide +kernel
theorem dL_law_1213 : decode cL_law 1213 = .ok (.aload_n 2, 1) := by decide +kernel
theorem dL_law_1214 : decode cL_law 1214 = .ok (.invokevirtual 122, 3) := by decide +kernel
theorem dL_law_1217 : decode cL_law 1217 = .ok (.iload 6, 2) := by decide +kernel
theorem dL_law_1219 : decode cL_law 1219 = .ok (.if_icmp .eq 5, 3) := by decide +kernel
theorem dL_law_1222 : decode cL_law 1222 = .ok (.iconst 0, 1) := by decide +kernel
theorem dL_law_1223 : decode cL_law 1223 = .ok (.ireturn, 1) := by decide +kernel
theorem dL_law_1224 : decode cL_law 1224 = .ok (.iload 6, 2) := by decide +kernel
theorem dL_law_1226 : decode cL_law 1226 = .ok (.ifCond .ne 15, 3) := by decide +kernel
theorem dL_law_1229 : decode cL_law 1229 = .ok (.aload_n 3, 1) := by decide +kernel
theorem dL_law_1230 : decode cL_law 1230 = .ok (.iconst 0, 1) := by decide +kernel
theorem dL_law_1231 : decode cL_law 1231 = .ok (.laload, 1) := by decide +kernel
theorem dL_law_1232 : decode cL_law 1232 = .ok (.iload 7, 2) := by decide +kernel
theorem dL_law_1234 : decode cL_law 1234 = .ok (.i2l, 1) := by decide +kernel
theorem dL_law_1235 : decode cL_law 1235 = .ok (.lcmp, 1) := by decide +kernel
theorem dL_law_1236 : decode cL_law 1236 = .ok (.ifCond .eq 5, 3) := by decide +kernel
theorem dL_law_1239 : decode cL_law 1239 = .ok (.iconst 0, 1) := by decide +kernel
theorem dL_law_1240 : decode cL_law 1240 = .ok (.ireturn, 1) := by decide +kernel
theorem dL_law_1241 : decode cL_law 1241 = .ok (.goto 733, 3) := by decide +kernel
theorem dL_law_1244 : decode cL_law 1244 = .ok (.aload_n 1, 1) := by decide +kernel
theorem dL_law_1245 : decode cL_law 1245 = .ok (.aload_n 0, 1) := by decide +kernel
theorem dL_law_1246 : decode cL_law 1246 = .ok (.iload 5, 2) := by decide +kernel
theorem dL_law_1248 : decode cL_law 1248 = .ok (.iconst 1, 1) := by decide +kernel
theorem dL_law_1249 : decode cL_law 1249 = .ok (.iadd, 1) := by decide +kernel
theorem dL_law_1250 : decode cL_law 1250 = .ok (.iaload, 1) := by decide +kernel
theorem dL_law_1251 : decode cL_law 1251 = .ok (.aload 4, 2) := by decide +kernel
theorem dL_law_1253 : decode cL_law 1253 = .ok (.invokestatic 181, 3) := by decide +kernel
theorem dL_law_1256 : decode cL_law 1256 = .ok (.istore 6, 2) := by decide +kernel
theorem dL_law_1258 : decode cL_law 1258 = .ok (.aload_n 2, 1) := by decide +kernel
theorem dL_law_1259 : decode cL_law 1259 = .ok (.aload_n 0, 1) := by decide +kernel
theorem dL_law_1260 : decode cL_law 1260 = .ok (.iload 5, 2) := by decide +kernel
theorem dL_law_1262 : decode cL_law 1262 = .ok (.iconst 1, 1) := by decide +kernel
theorem dL_law_1263 : decode cL_law 1263 = .ok (.iadd, 1) := by decide +kernel
theorem dL_law_1264 : decode cL_law 1264 = .ok (.iaload, 1) := by decide +kernel
theorem dL_law_1265 : decode cL_law 1265 = .ok (.invokevirtual 184, 3) := by decide +kernel
theorem dL_law_1268 : decode cL_law 1268 = .ok (.fstore 7, 2) := by decide +kernel
theorem dL_law_1270 : decode cL_law 1270 = .ok (.aload_n 2, 1) := by decide +kernel
theorem dL_law_1271 : decode cL_law 1271 = .ok (.invokevirtual 122, 3) := by decide +kernel
theorem dL_law_1274 : decode cL_law 1274 = .ok (.iload 6, 2) := by decide +kernel
theorem dL_law_1276 : decode cL_law 1276 = .ok (.if_icmp .eq 5, 3) := by decide +kernel
theorem dL_law_1279 : decode cL_law 1279 = .ok (.iconst 0, 1) := by decide +kernel
theorem dL_law_1280 : decode cL_law 1280 = .ok (.ireturn, 1) := by decide +kernel
theorem dL_law_1281 : decode cL_law 1281 = .ok (.iload 6, 2) := by decide +kernel
theorem dL_law_1283 : decode cL_law 1283 = .ok (.ifCond .ne 36, 3) := by decide +kernel
theorem dL_law_1286 : decode cL_law 1286 = .ok (.aload 4, 2) := by decide +kernel
theorem dL_law_1288 : decode cL_law 1288 = .ok (.iconst 0, 1) := by decide +kernel
theorem dL_law_1289 : decode cL_law 1289 = .ok (.daload, 1) := by decide +kernel
theorem dL_law_1290 : decode cL_law 1290 = .ok (.fload 7, 2) := by decide +kernel
theorem dL_law_1292 : decode cL_law 1292 = .ok (.f2d, 1) := by decide +kernel
theorem dL_law_1293 : decode cL_law 1293 = .ok (.dcmp .l, 1) := by decide +kernel
theorem dL_law_1294 : decode cL_law 1294 = .ok (.ifCond .eq 25, 3) := by decide +kernel
theorem dL_law_1297 : decode cL_law 1297 = .ok (.aload 4, 2) := by decide +kernel
theorem dL_law_1299 : decode cL_law 1299 = .ok (.iconst 0, 1) := by decide +kernel
theorem dL_law_1300 : decode cL_law 1300 = .ok (.daload, 1) := by decide +kernel
theorem dL_law_1301 : decode cL_law 1301 = .ok (.aload 4, 2) := by decide +kernel
theorem dL_law_1303 : decode cL_law 1303 = .ok (.iconst 0, 1) := by decide +kernel
theorem dL_law_1304 : decode cL_law 1304 = .ok (.daload, 1) := by decide +kernel
theorem dL_law_1305 : decode cL_law 1305 = .ok (.dcmp .l, 1) := by decide +kernel
theorem dL_law_1306 : decode cL_law 1306 = .ok (.ifCond .eq 11, 3) := by decide +kernel
theorem dL_law_1309 : decode cL_law 1309 = .ok (.fload 7, 2) := by decide +kernel
theorem dL_law_1311 : decode cL_law 1311 = .ok (.fload 7, 2) := by decide +kernel
theorem dL_law_1313 : decode cL_law 1313 = .ok (.fcmp .l, 1) := by decide +kernel
theorem dL_law_1314 : decode cL_law 1314 = .ok (.ifCond .ne 5, 3) := by decide +kernel
theorem dL_law_1317 : decode cL_law 1317 = .ok (.iconst 0, 1) := by decide +kernel
theorem dL_law_1318 : decode cL_law 1318 = .ok (.ireturn, 1) := by decide +kernel
theorem dL_law_1319 : decode cL_law 1319 = .ok (.goto 655, 3) := by decide +kernel
theorem dL_law_1322 : decode cL_law 1322 = .ok (.aload_n 1, 1) := by decide +kernel
theorem dL_law_1323 : decode cL_law 1323 = .ok (.invokevirtual 185, 3) := by decide +kernel
theorem dL_law_1326 : decode cL_law 1326 = .ok (.aload_n 2, 1) := by decide +kernel
theorem dL_law_1327 : decode cL_law 1327 = .ok (.invokevirtual 188, 3) := by decide +kernel
theorem dL_law_1330 : decode cL_law 1330 = .ok (.if_icmp .eq 644, 3) := by decide +kernel
theorem dL_law_1333 : decode cL_law 1333 = .ok (.iconst 0, 1) := by decide +kernel
theorem dL_law_1334 : decode cL_law 1334 = .ok (.ireturn, 1) := by decide +kernel
theorem dL_law_1335 : decode cL_law 1335 = .ok (.aload_n 1, 1) := by decide +kernel
theorem dL_law_1336 : decode cL_law 1336 = .ok (.aload_n 0, 1) := by decide +kernel
theorem dL_law_1337 : decode cL_law 1337 = .ok (.iload 5, 2) := by decide +kernel
theorem dL_law_1339 : decode cL_law 1339 = .ok (.iconst 1, 1) := by decide +kernel
theorem dL_law_1340 : decode cL_law 1340 = .ok (.iadd, 1) := by decide +kernel
theorem dL_law_1341 : decode cL_law 1341 = .ok (.iaload, 1) := by decide +kernel
theorem dL_law_1342 : decode cL_law 1342 = .ok (.aload_n 3, 1) := by decide +kernel
theorem dL_law_1343 : decode cL_law 1343 = .ok (.invokestatic 189, 3) := by decide +kernel
theorem dL_law_1346 : decode cL_law 1346 = .ok (.istore 6, 2) := by decide +kernel
theorem dL_law_1348 : decode cL_law 1348 = .ok (.aload_n 2, 1) := by decide +kernel
theorem dL_law_1349 : decode cL_law 1349 = .ok (.aload_n 0, 1) := by decide +kernel
theorem dL_law_1350 : decode cL_law 1350 = .ok (.iload 5, 2) := by decide +kernel
theorem dL_law_1352 : decode cL_law 1352 = .ok (.iconst 1, 1) := by decide +kernel
theorem dL_law_1353 : decode cL_law 1353 = .ok (.iadd, 1) := by decide +kernel
theorem dL_law_1354 : decode cL_law 1354 = .ok (.iaload, 1) := by decide +kernel
theorem dL_law_1355 : decode cL_law 1355 = .ok (.invokevirtual 191, 3) := by decide +kernel
theorem dL_law_1358 : decode cL_law 1358 = .ok (.lstore 7, 2) := by decide +kernel
theorem dL_law_1360 : decode cL_law 1360 = .ok (.aload_n 2, 1) := by decide +kernel
theorem dL_law_1361 : decode cL_law 1361 = .ok (.invokevirtual 122, 3) := by decide +kernel
theorem dL_law_1364 : decode cL_law 1364 = .ok (.iload 6, 2) := by decide +kernel
theorem dL_law_1366 : decode cL_law 1366 = .ok (.if_icmp .eq 5, 3) := by decide +kernel
theorem dL_law_1369 : decode cL_law 1369 = .ok (.iconst 0, 1) := by decide +kernel
theorem dL_law_1370 : decode cL_law 1370 = .ok (.ireturn, 1) := by decide +kernel
theorem dL_law_1371 : decode cL_law 1371 = .ok (.iload 6, 2) := by decide +kernel
theorem dL_law_1373 : decode cL_law 1373 = .ok (.ifCond .ne 14, 3) := by decide +kernel
theorem dL_law_1376 : decode cL_law 1376 = .ok (.aload_n 3, 1) := by decide +kernel
theorem dL_law_1377 : decode cL_law 1377 = .ok (.iconst 0, 1) := by decide +kernel
theorem dL_law_1378 : decode cL_law 1378 = .ok (.laload, 1) := by decide +kernel
theorem dL_law_1379 : decode cL_law 1379 = .ok (.lload 7, 2) := by decide +kernel
theorem dL_law_1381 : decode cL_law 1381 = .ok (.lcmp, 1) := by decide +kernel
theorem dL_law_1382 : decode cL_law 1382 = .ok (.ifCond .eq 5, 3) := by decide +kernel
theorem dL_law_1385 : decode cL_law 1385 = .ok (.iconst 0, 1) := by decide +kernel
theorem dL_law_1386 : decode cL_law 1386 = .ok (.ireturn, 1) := by decide +kernel
theorem dL_law_1387 : decode cL_law 1387 = .ok (.goto 587, 3) := by decide +kernel
theorem dL_law_1390 : decode cL_law 1390 = .ok (.aload_n 1, 1) := by decide +kernel
theorem dL_law_1391 : decode cL_law 1391 = .ok (.aload_n 0, 1) := by decide +kernel
theorem dL_law_1392 : decode cL_law 1392 = .ok (.iload 5, 2) := by decide +kernel
theorem dL_law_1394 : decode cL_law 1394 = .ok (.iconst 1, 1) := by decide +kernel
theorem dL_law_1395 : decode cL_law 1395 = .ok (.iadd, 1) := by decide +kernel
theorem dL_law_1396 : decode cL_law 1396 = .ok (.iaload, 1) := by decide +kernel
theorem dL_law_1397 : decode cL_law 1397 = .ok (.aload_n 3, 1) := by decide +kernel
theorem dL_law_1398 : decode cL_law 1398 = .ok (.invokestatic 192, 3) := by decide +kernel
theorem dL_law_1401 : decode cL_law 1401 = .ok (.istore 6, 2) := by decide +kernel
theorem dL_law_1403 : decode cL_law 1403 = .ok (.aload_n 2, 1) := by decide +kernel
theorem dL_law_1404 : decode cL_law 1404 = .ok (.aload_n 0, 1) := by decide +kernel
theorem dL_law_1405 : decode cL_law 1405 = .ok (.iload 5, 2) := by decide +kernel
theorem dL_law_1407 : decode cL_law 1407 = .ok (.iconst 1, 1) := by decide +kernel
theorem dL_law_1408 : decode cL_law 1408 = .ok (.iadd, 1) := by decide +kernel
theorem dL_law_1409 : decode cL_law 1409 = .ok (.iaload, 1) := by decide +kernel
theorem dL_law_1410 : decode cL_law 1410 = .ok (.invokevirtual 194, 3) := by decide +kernel
theorem dL_law_1413 : decode cL_law 1413 = .ok (.lstore 7, 2) := by decide +kernel
theorem dL_law_1415 : decode cL_law 1415 = .ok (.aload_n 2, 1) := by decide +kernel
theorem dL_law_1416 : decode cL_law 1416 = .ok (.invokevirtual 122, 3) := by decide +kernel
theorem dL_law_1419 : decode cL_law 1419 = .ok (.iload 6, 2) := by decide +kernel
theorem dL_law_1421 : decode cL_law 1421 = .ok (.if_icmp .eq 5, 3) := by decide +kernel
theorem dL_law_1424 : decode cL_law 1424 = .ok (.iconst 0, 1) := by decide +kernel
theorem dL_law_1425 : decode cL_law 1425 = .ok (.ireturn, 1) := by decide +kernel
theorem dL_law_1426 : decode cL_law 1426 = .ok (.iload 6, 2) := by decide +kernel
theorem dL_law_1428 : decode cL_law 1428 = .ok (.ifCond .ne 14, 3) := by decide +kernel
theorem dL_law_1431 : decode cL_law 1431 = .ok (.aload_n 3, 1) := by decide +kernel
theorem dL_law_1432 : decode cL_law 1432 = .ok (.iconst 0, 1) := by decide +kernel
theorem dL_law_1433 : decode cL_law 1433 = .ok (.laload, 1) := by decide +kernel
theorem dL_law_1434 : decode cL_law 1434 = .ok (.lload 7, 2) := by decide +kernel
theorem dL_law_1436 : decode cL_law 1436 = .ok (.lcmp, 1) := by decide +kernel
theorem dL_law_1437 : decode cL_law 1437 = .ok (.ifCond .eq 5, 3) := by decide +kernel
theorem dL_law_1440 : decode cL_law 1440 = .ok (.iconst 0, 1) := by decide +kernel
theorem dL_law_1441 : decode cL_law 1441 = .ok (.ireturn, 1) := by decide +kernel
theorem dL_law_1442 : decode cL_law 1442 = .ok (.goto 532, 3) := by decide +kernel
theorem dL_law_1445 : decode cL_law 1445 = .ok (.aload_n 1, 1) := by decide +kernel
theorem dL_law_1446 : decode cL_law 1446 = .ok (.aload_n 0, 1) := by decide +kernel
theorem dL_law_1447 : decode cL_law 1447 = .ok (.iload 5, 2) := by decide +kernel
theorem dL_law_1449 : decode cL_law 1449 = .ok (.iconst 1, 1) := by decide +kernel
theorem dL_law_1450 : decode cL_law 1450 = .ok (.iadd, 1) := by decide +kernel
theorem dL_law_1451 : decode cL_law 1451 = .ok (.iaload, 1) := by decide +kernel
theorem dL_law_1452 : decode cL_law 1452 = .ok (.aload_n 3, 1) := by decide +kernel
theorem dL_law_1453 : decode cL_law 1453 = .ok (.invokestatic 195, 3) := by decide +kernel
theorem dL_law_1456 : decode cL_law 1456 = .ok (.istore 6, 2) := by decide +kernel
theorem dL_law_1458 : decode cL_law 1458 = .ok (.aload_n 2, 1) := by decide +kernel
theorem dL_law_1459 : decode cL_law 1459 = .ok (.aload_n 0, 1) := by decide +kernel
theorem dL_law_1460 : decode cL_law 1460 = .ok (.iload 5, 2) := by decide +kernel
theorem dL_law_1462 : decode cL_law 1462 = .ok (.iconst 1, 1) := by decide +kernel
theorem dL_law_1463 : decode cL_law 1463 = .ok (.iadd, 1) := by decide +kernel
theorem dL_law_1464 : decode cL_law 1464 = .ok (.iaload, 1) := by decide +kernel
theorem dL_law_1465 : decode cL_law 1465 = .ok (.invokevirtual 197, 3) := by decide +kernel
theorem dL_law_1468 : decode cL_law 1468 = .ok (.istore 7, 2) := by decide +kernel
theorem dL_law_1470 : decode cL_law 1470 = .ok (.aload_n 2, 1) := by decide +kernel
theorem dL_law_1471 : decode cL_law 1471 = .ok (.invokevirtual 122, 3) := by decide +kernel
theorem dL_law_1474 : decode cL_law 1474 = .ok (.iload 6, 2) := by decide +kernel
theorem dL_law_1476 : decode cL_law 1476 = .ok (.if_icmp .eq 5, 3) := by decide +kernel
theorem dL_law_1479 : decode cL_law 1479 = .ok (.iconst 0, 1) := by decide +kernel
theorem dL_law_1480 : decode cL_law 1480 = .ok (.ireturn, 1) := by decide +kernel
theorem dL_law_1481 : decode cL_law 1481 = .ok (.iload 6, 2) := by decide +kernel
theorem dL_law_1483 : decode cL_law 1483 = .ok (.ifCond .ne 15, 3) := by decide +kernel
theorem dL_law_1486 : decode cL_law 1486 = .ok (.aload_n 3, 1) := by decide +kernel
theorem dL_law_1487 : decode cL_law 1487 = .ok (.iconst 0, 1) := by decide +kernel
theorem dL_law_1488 : decode cL_law 1488 = .ok (.laload, 1) := by decide +kernel
theorem dL_law_1489 : decode cL_law 1489 = .ok (.iload 7, 2) := by decide +kernel
theorem dL_law_1491 : decode cL_law 1491 = .ok (.i2l, 1) := by decide +kernel
theorem dL_law_1492 : decode cL_law 1492 = .ok (.lcmp, 1) := by decide +kernel
theorem dL_law_1493 : decode cL_law 1493 = .ok (.ifCond .eq 5, 3) := by decide +kernel
theorem dL_law_1496 : decode cL_law 1496 = .ok (.iconst 0, 1) := by decide +kernel
theorem dL_law_1497 : decode cL_law 1497 = .ok (.ireturn, 1) := by decide +kernel
theorem dL_law_1498 : decode cL_law 1498 = .ok (.goto 476, 3) := by decide +kernel
theorem dL_law_1501 : decode cL_law 1501 = .ok (.aload_n 1, 1) := by decide +kernel
theorem dL_law_1502 : decode cL_law 1502 = .ok (.aload_n 0, 1) := by decide +kernel
theorem dL_law_1503 : decode cL_law 1503 = .ok (.iload 5, 2) := by decide +kernel
theorem dL_law_1505 : decode cL_law 1505 = .ok (.iconst 1, 1) := by decide +kernel
theorem dL_law_1506 : decode cL_law 1506 = .ok (.iadd, 1) := by decide +kernel
theorem dL_law_1507 : decode cL_law 1507 = .ok (.iaload, 1) := by decide +kernel
theorem dL_law_1508 : decode cL_law 1508 = .ok (.i2l, 1) := by decide +kernel
theorem dL_law_1509 : decode cL_law 1509 = .ok (.bipush 32, 2) := by decide +kernel
theorem dL_law_1511 : decode cL_law 1511 = .ok (.lshl, 1) := by decide +kernel
theorem dL_law_1512 : decode cL_law 1512 = .ok (.aload_n 0, 1) := by decide +kernel
theorem dL_law_1513 : decode cL_law 1513 = .ok (.iload 5, 2) := by decide +kernel
theorem dL_law_1515 : decode cL_law 1515 = .ok (.iconst 2, 1) := by decide +kernel
theorem dL_law_1516 : decode cL_law 1516 = .ok (.iadd, 1) := by decide +kernel
theorem dL_law_1517 : decode cL_law 1517 = .ok (.iaload, 1) := by decide +kernel
theorem dL_law_1518 : decode cL_law 1518 = .ok (.i2l, 1) := by decide +kernel
theorem dL_law_1519 : decode cL_law 1519 = .ok (.ldc2_w 198, 3) := by decide +kernel
theorem dL_law_1522 : decode cL_law 1522 = .ok (.land, 1) := by decide +kernel
theorem dL_law_1523 : decode cL_law 1523 = .ok (.lor, 1) := by decide +kernel
theorem dL_law_1524 : decode cL_law 1524 = .ok (.aload_n 3, 1) := by decide +kernel
theorem dL_law_1525 : decode cL_law 1525 = .ok (.invokestatic 200, 3) := by decide +kernel
theorem dL_law_1528 : decode cL_law 1528 = .ok (.istore 6, 2) := by decide +kernel
theorem dL_law_1530 : decode cL_law 1530 = .ok (.aload_n 2, 1) := by decide +kernel
theorem dL_law_1531 : decode cL_law 1531 = .ok (.aload_n 0, 1) := by decide +kernel
theorem dL_law_1532 : decode cL_law 1532 = .ok (.iload 5, 2) := by decide +kernel
theorem dL_law_1534 : decode cL_law 1534 = .ok (.iconst 1, 1) := by decide +kernel
theorem dL_law_1535 : decode cL_law 1535 = .ok (.iadd, 1) := by decide +kernel
theorem dL_law_1536 : decode cL_law 1536 = .ok (.iaload, 1) := by decide +kernel
theorem dL_law_1537 : decode cL_law 1537 = .ok (.i2l, 1) := by decide +kernel
theorem dL_law_1538 : decode cL_law 1538 = .ok (.bipush 32, 2) := by decide +kernel
theorem dL_law_1540 : decode cL_law 1540 = .ok (.lshl, 1) := by decide +kernel
theorem dL_law_1541 : decode cL_law 1541 = .ok (.aload_n 0, 1) := by decide +kernel
theorem dL_law_1542 : decode cL_law 1542 = .ok (.iload 5, 2) := by decide +kernel
theorem dL_law_1544 : decode cL_law 1544 = .ok (.iconst 2, 1) := by decide +kernel
theorem dL_law_1545 : decode cL_law 1545 = .ok (.iadd, 1) := by decide +kernel
theorem dL_law_1546 : decode cL_law 1546 = .ok (.iaload, 1) := by decide +kernel
theorem dL_law_1547 : decode cL_law 1547 = .ok (.i2l, 1) := by decide +kernel
theorem dL_law_1548 : decode cL_law 1548 = .ok (.ldc2_w 198, 3) := by decide +kernel
theorem dL_law_1551 : decode cL_law 1551 = .ok (.land, 1) := by decide +kernel
theorem dL_law_1552 : decode cL_law 1552 = .ok (.lor, 1) := by decide +kernel
theorem dL_law_1553 : decode cL_law 1553 = .ok (.invokevirtual 203, 3) := by decide +kernel
theorem dL_law_1556 : decode cL_law 1556 = .ok (.istore 7, 2) := by decide +kernel
theorem dL_law_1558 : decode cL_law 1558 = .ok (.aload_n 2, 1) := by decide +kernel
theorem dL_law_1559 : decode cL_law 1559 = .ok (.invokevirtual 122, 3) := by decide +kernel
theorem dL_law_1562 : decode cL_law 1562 = .ok (.iload 6, 2) := by decide +kernel
theorem dL_law_1564 : decode cL_law 1564 = .ok (.if_icmp .eq 5, 3) := by decide +kernel
theorem dL_law_1567 : decode cL_law 1567 = .ok (.iconst 0, 1) := by decide +kernel
theorem dL_law_1568 : decode cL_law 1568 = .ok (.ireturn, 1) := by decide +kernel
theorem dL_law_1569 : decode cL_law 1569 = .ok (.iload 6, 2) := by decide +kernel
theorem dL_law_1571 : decode cL_law 1571 = .ok (.ifCond .ne 15, 3) := by decide +kernel
theorem dL_law_1574 : decode cL_law 1574 = .ok (.aload_n 3, 1) := by decide +kernel
theorem dL_law_1575 : decode cL_law 1575 = .ok (.iconst 0, 1) := by decide +kernel
theorem dL_law_1576 : decode cL_law 1576 = .ok (.laload, 1) := by decide +kernel
theorem dL_law_1577 : decode cL_law 1577 = .ok (.iload 7, 2) := by decide +kernel
theorem dL_law_1579 : decode cL_law 1579 = .ok (.i2l, 1) := by decide +kernel
theorem dL_law_1580 : decode cL_law 1580 = .ok (.lcmp, 1) := by decide +kernel
theorem dL_law_1581 : decode cL_law 1581 = .ok (.ifCond .eq 5, 3) := by decide +kernel
theorem dL_law_1584 : decode cL_law 1584 = .ok (.iconst 0, 1) := by decide +kernel
theorem dL_law_1585 : decode cL_law 1585 = .ok (.ireturn, 1) := by decide +kernel
theorem dL_law_1586 : decode cL_law 1586 = .ok (.goto 388, 3) := by decide +kernel
theorem dL_law_1589 : decode cL_law 1589 = .ok (.aload_n 1, 1) := by decide +kernel
theorem dL_law_1590 : decode cL_law 1590 = .ok (.invokevirtual 204, 3) := by decide +kernel
theorem dL_law_1593 : decode cL_law 1593 = .ok (.aload_n 2, 1) := by decide +kernel
theorem dL_law_1594 : decode cL_law 1594 = .ok (.invokevirtual 207, 3) := by decide +kernel
theorem dL_law_1597 : decode cL_law 1597 = .ok (.if_icmp .eq 377, 3) := by decide +kernel
theorem dL_law_1600 : decode cL_law 1600 = .ok (.iconst 0, 1) := by decide +kernel
theorem dL_law_1601 : decode cL_law 1601 = .ok (.ireturn, 1) := by decide +kernel
theorem dL_law_1602 : decode cL_law 1602 = .ok (.aload_n 1, 1) := by decide +kernel
theorem dL_law_1603 : decode cL_law 1603 = .ok (.invokevirtual 208, 3) := by decide +kernel
theorem dL_law_1606 : decode cL_law 1606 = .ok (.aload_n 2, 1) := by decide +kernel
theorem dL_law_1607 : decode cL_law 1607 = .ok (.invokevirtual 211, 3) := by decide +kernel
theorem dL_law_1610 : decode cL_law 1610 = .ok (.if_icmp .eq 364, 3) := by decide +kernel
theorem dL_law_1613 : decode cL_law 1613 = .ok (.iconst 0, 1) := by decide +kernel
theorem dL_law_1614 : decode cL_law 1614 = .ok (.ireturn, 1) := by decide +kernel
theorem dL_law_1615 : decode cL_law 1615 = .ok (.aload_n 1, 1) := by decide +kernel
theorem dL_law_1616 : decode cL_law 1616 = .ok (.invokevirtual 212, 3) := by decide +kernel
theorem dL_law_1619 : decode cL_law 1619 = .ok (.aload_n 2, 1) := by decide +kernel
theorem dL_law_1620 : decode cL_law 1620 = .ok (.invokevirtual 215, 3) := by decide +kernel
theorem dL_law_1623 : decode cL_law 1623 = .ok (.if_icmp .eq 351, 3) := by decide +kernel
theorem dL_law_1626 : decode cL_law 1626 = .ok (.iconst 0, 1) := by decide +kernel
theorem dL_law_1627 : decode cL_law 1627 = .ok (.ireturn, 1) := by decide +kernel
theorem dL_law_1628 : decode cL_law 1628 = .ok (.aload_n 1, 1) := by decide +kernel
theorem dL_law_1629 : decode cL_law 1629 = .ok (.aload_n 3, 1) := by decide +kernel
theorem dL_law_1630 : decode cL_law 1630 = .ok (.invokestatic 216, 3) := by decide +kernel
theorem dL_law_1633 : decode cL_law 1633 = .ok (.istore 6, 2) := by decide +kernel
theorem dL_law_1635 : decode cL_law 1635 = .ok (.aload_n 2, 1) := by decide +kernel
theorem dL_law_1636 : decode cL_law 1636 = .ok (.invokevirtual 219, 3) := by decide +kernel
theorem dL_law_1639 : decode cL_law 1639 = .ok (.istore 7, 2) := by decide +kernel
theorem dL_law_1641 : decode cL_law 1641 = .ok (.aload_n 2, 1) := by decide +kernel
theorem dL_law_1642 : decode cL_law 1642 = .ok (.invokevirtual 122, 3) := by decide +kernel
theorem dL_law_1645 : decode cL_law 1645 = .ok (.iload 6, 2) := by decide +kernel
theorem dL_law_1647 : decode cL_law 1647 = .ok (.if_icmp .eq 5, 3) := by decide +kernel
theorem dL_law_1650 : decode cL_law 1650 = .ok (.iconst 0, 1) := by decide +kernel
theorem dL_law_1651 : decode cL_law 1651 = .ok (.ireturn, 1) := by decide +kernel
theorem dL_law_1652 : decode cL_law 1652 = .ok (.iload 6, 2) := by decide +kernel
theorem dL_law_1654 : decode cL_law 1654 = .ok (.ifCond .ne 15, 3) := by decide +kernel
theorem dL_law_1657 : decode cL_law 1657 = .ok (.aload_n 3, 1) := by decide +kernel
theorem dL_law_1658 : decode cL_law 1658 = .ok (.iconst 0, 1) := by decide +kernel
theorem dL_law_1659 : decode cL_law 1659 = .ok (.laload, 1) := by decide +kernel
theorem dL_law_1660 : decode cL_law 1660 = .ok (.iload 7, 2) := by decide +kernel
theorem dL_law_1662 : decode cL_law 1662 = .ok (.i2l, 1) := by decide +kernel
theorem dL_law_1663 : decode cL_law 1663 = .ok (.lcmp, 1) := by decide +kernel
theorem dL_law_1664 : decode cL_law 1664 = .ok (.ifCond .eq 5, 3) := by decide +kernel
theorem dL_law_1667 : decode cL_law 1667 = .ok (.iconst 0, 1) := by decide +kernel
theorem dL_law_1668 : decode cL_law 1668 = .ok (.ireturn, 1) := by decide +kernel
theorem dL_law_1669 : decode cL_law 1669 = .ok (.goto 305, 3) := by decide +kernel
theorem dL_law_1672 : decode cL_law 1672 = .ok (.aload_n 1, 1) := by decide +kernel
theorem dL_law_1673 : decode cL_law 1673 = .ok (.invokevirtual 220, 3) := by decide +kernel
theorem dL_law_1676 : decode cL_law 1676 = .ok (.aload_n 2, 1) := by decide +kernel
theorem dL_law_1677 : decode cL_law 1677 = .ok (.invokevirtual 223, 3) := by decide +kernel
theorem dL_law_1680 : decode cL_law 1680 = .ok (.if_icmp .eq 294, 3) := by decide +kernel
theorem dL_law_1683 : decode cL_law 1683 = .ok (.iconst 0, 1) := by decide +kernel
theorem dL_law_1684 : decode cL_law 1684 = .ok (.ireturn, 1) := by decide +kernel
theorem dL_law_1685 : decode cL_law 1685 = .ok (.aload_n 1, 1) := by decide +kernel
theorem dL_law_1686 : decode cL_law 1686 = .ok (.aload_n 3, 1) := by decide +kernel
theorem dL_law_1687 : decode cL_law 1687 = .ok (.invokestatic 224, 3) := by decide +kernel
theorem dL_law_1690 : decode cL_law 1690 = .ok (.istore 6, 2) := by decide +kernel
theorem dL_law_1692 : decode cL_law 1692 = .ok (.aload_n 2, 1) := by decide +kernel
theorem dL_law_1693 : decode cL_law 1693 = .ok (.invokevirtual 226, 3) := by decide +kernel
theorem dL_law_1696 : decode cL_law 1696 = .ok (.istore 7, 2) := by decide +kernel
theorem dL_law_1698 : decode cL_law 1698 = .ok (.aload_n 2, 1) := by decide +kernel
theorem dL_law_1699 : decode cL_law 1699 = .ok (.invokevirtual 122, 3) := by decide +kernel
theorem dL_law_1702 : decode cL_law 1702 = .ok (.iload 6, 2) := by decide +kernel
theorem dL_law_1704 : decode cL_law 1704 = .ok (.if_icmp .eq 5, 3) := by decide +kernel
theorem dL_law_1707 : decode cL_law 1707 = .ok (.iconst 0, 1) := by decide +kernel
theorem dL_law_1708 : decode cL_law 1708 = .ok (.ireturn, 1) := by decide +kernel
theorem dL_law_1709 : decode cL_law 1709 = .ok (.iload 6, 2) := by decide +kernel
theorem dL_law_1711 : decode cL_law 1711 = .ok (.ifCond .ne 15, 3) := by decide +kernel
theorem dL_law_1714 : decode cL_law 1714 = .ok (.aload_n 3, 1) := by decide +kernel
theorem dL_law_1715 : decode cL_law 1715 = .ok (.iconst 0, 1) := by decide +kernel
theorem dL_law_1716 : decode cL_law 1716 = .ok (.laload, 1) := by decide +kernel
theorem dL_law_1717 : decode cL_law 1717 = .ok (.iload 7, 2) := by decide +kernel
theorem dL_law_1719 : decode cL_law 1719 = .ok (.i2l, 1) := by decide +kernel
theorem dL_law_1720 : decode cL_law 1720 = .ok (.lcmp, 1) := by decide +kernel
theorem dL_law_1721 : decode cL_law 1721 = .ok (.ifCond .eq 5, 3) := by decide +kernel
theorem dL_law_1724 : decode cL_law 1724 = .ok (.iconst 0, 1) := by decide +kernel
theorem dL_law_1725 : decode cL_law 1725 = .ok (.ireturn, 1) := by decide +kernel
theorem dL_law_1726 : decode cL_law 1726 = .ok (.goto 248, 3) := by decide +kernel
theorem dL_law_1729 : decode cL_law 1729 = .ok (.aload_n 1, 1) := by decide +kernel
theorem dL_law_1730 : decode cL_law 1730 = .ok (.aload_n 0, 1) := by decide +kernel
theorem dL_law_1731 : decode cL_law 1731 = .ok (.iload 5, 2) := by decide +kernel
theorem dL_law_1733 : decode cL_law 1733 = .ok (.iconst 1, 1) := by decide +kernel
theorem dL_law_1734 : decode cL_law 1734 = .ok (.iadd, 1) := by decide +kernel
theorem dL_law_1735 : decode cL_law 1735 = .ok (.iaload, 1) := by decide +kernel
theorem dL_law_1736 : decode cL_law 1736 = .ok (.aload_n 3, 1) := by decide +kernel
theorem dL_law_1737 : decode cL_law 1737 = .ok (.invokestatic 227, 3) := by decide +kernel
theorem dL_law_1740 : decode cL_law 1740 = .ok (.istore 6, 2) := by decide +kernel
theorem dL_law_1742 : decode cL_law 1742 = .ok (.aload_n 2, 1) := by decide +kernel
theorem dL_law_1743 : decode cL_law 1743 = .ok (.aload_n 0, 1) := by decide +kernel
theorem dL_law_1744 : decode cL_law 1744 = .ok (.iload 5, 2) := by decide +kernel
theorem dL_law_1746 : decode cL_law 1746 = .ok (.iconst 1, 1) := by decide +kernel
theorem dL_law_1747 : decode cL_law 1747 = .ok (.iadd, 1) := by decide +kernel
theorem dL_law_1748 : decode cL_law 1748 = .ok (.iaload, 1) := by decide +kernel
theorem dL_law_1749 : decode cL_law 1749 = .ok (.invokevirtual 229, 3) := by decide +kernel
theorem dL_law_1752 : decode cL_law 1752 = .ok (.istore 7, 2) := by decide +kernel
theorem dL_law_1754 : decode cL_law 1754 = .ok (.aload_n 2, 1) := by decide +kernel
theorem dL_law_1755 : decode cL_law 1755 = .ok (.invokevirtual 122, 3) := by decide +kernel
theorem dL_law_1758 : decode cL_law 1758 = .ok (.iload 6, 2) := by decide +kernel
theorem dL_law_1760 : decode cL_law 1760 = .ok (.if_icmp .eq 5, 3) := by decide +kernel
theorem dL_law_1763 : decode cL_law 1763 = .ok (.iconst 0, 1) := by decide +kernel
theorem dL_law_1764 : decode cL_law 1764 = .ok (.ireturn, 1) := by decide +kernel
theorem dL_law_1765 : decode cL_law 1765 = .ok (.iload 6, 2) := by decide +kernel
theorem dL_law_1767 : decode cL_law 1767 = .ok (.ifCond .ne 15, 3) := by decide +kernel
theorem dL_law_1770 : decode cL_law 1770 = .ok (.aload_n 3, 1) := by decide +kernel
theorem dL_law_1771 : decode cL_law 1771 = .ok (.iconst 0, 1) := by decide +kernel
theorem dL_law_1772 : decode cL_law 1772 = .ok (.laload, 1) := by decide +kernel
theorem dL_law_1773 : decode cL_law 1773 = .ok (.iload 7, 2) := by decide +kernel
theorem dL_law_1775 : decode cL_law 1775 = .ok (.i2l, 1) := by decide +kernel
theorem dL_law_1776 : decode cL_law 1776 = .ok (.lcmp, 1) := by decide +kernel
theorem dL_law_1777 : decode cL_law 1777 = .ok (.ifCond .eq 5, 3) := by decide +kernel
theorem dL_law_1780 : decode cL_law 1780 = .ok (.iconst 0, 1) := by decide +kernel
theorem dL_law_1781 : decode cL_law 1781 = .ok (.ireturn, 1) := by decide +kernel
theorem dL_law_1782 : decode cL_law 1782 = .ok (.goto 192, 3) := by decide +kernel
theorem dL_law_1785 : decode cL_law 1785 = .ok (.aload_n 1, 1) := by decide +kernel
theorem dL_law_1786 : decode cL_law 1786 = .ok (.invokevirtual 230, 3) := by decide +kernel
theorem dL_law_1789 : decode cL_law 1789 = .ok (.aload_n 2, 1) := by decide +kernel
theorem dL_law_1790 : decode cL_law 1790 = .ok (.invokevirtual 233, 3) := by decide +kernel
theorem dL_law_1793 : decode cL_law 1793 = .ok (.if_icmp .eq 181, 3) := by decide +kernel
theorem dL_law_1796 : decode cL_law 1796 = .ok (.iconst 0, 1) := by decide +kernel
theorem dL_law_1797 : decode cL_law 1797 = .ok (.ireturn, 1) := by decide +kernel
theorem dL_law_1798 : decode cL_law 1798 = .ok (.aload_n 1, 1) := by decide +kernel
theorem dL_law_1799 : decode cL_law 1799 = .ok (.aload_n 3, 1) := by decide +kernel
theorem dL_law_1800 : decode cL_law 1800 = .ok (.invokestatic 234, 3) := by decide +kernel
theorem dL_law_1803 : decode cL_law 1803 = .ok (.istore 6, 2) := by decide +kernel
theorem dL_law_1805 : decode cL_law 1805 = .ok (.aload_n 2, 1) := by decide +kernel
theorem dL_law_1806 : decode cL_law 1806 = .ok (.invokevirtual 236, 3) := by decide +kernel
theorem dL_law_1809 : decode cL_law 1809 = .ok (.istore 7, 2) := by decide +kernel
theorem dL_law_1811 : decode cL_law 1811 = .ok (.aload_n 2, 1) := by decide +kernel
theorem dL_law_1812 : decode cL_law 1812 = .ok (.invokevirtual 122, 3) := by decide +kernel
theorem dL_law_1815 : decode cL_law 1815 = .ok (.iload 6, 2) := by decide +kernel
theorem dL_law_1817 : decode cL_law 1817 = .ok (.if_icmp .eq 5, 3) := by decide +kernel
theorem dL_law_1820 : decode cL_law 1820 = .ok (.iconst 0, 1) := by decide +kernel
theorem dL_law_1821 : decode cL_law 1821 = .ok (.ireturn, 1) := by decide +kernel
theorem dL_law_1822 : decode cL_law 1822 = .ok (.iload 6, 2) := by decide +kernel
theorem dL_law_1824 : decode cL_law 1824 = .ok (.ifCond .ne 15, 3) := by decide +kernel
theorem dL_law_1827 : decode cL_law 1827 = .ok (.aload_n 3, 1) := by decide +kernel
theorem dL_law_1828 : decode cL_law 1828 = .ok (.iconst 0, 1) := by decide +kernel
theorem dL_law_1829 : decode cL_law 1829 = .ok (.laload, 1) := by decide +kernel
theorem dL_law_1830 : decode cL_law 1830 = .ok (.iload 7, 2) := by decide +kernel
theorem dL_law_1832 : decode cL_law 1832 = .ok (.i2l, 1) := by decide +kernel
theorem dL_law_1833 : decode cL_law 1833 = .ok (.lcmp, 1) := by decide +kernel
theorem dL_law_1834 : decode cL_law 1834 = .ok (.ifCond .eq 5, 3) := by decide +kernel
theorem dL_law_1837 : decode cL_law 1837 = .ok (.iconst 0, 1) := by decide +kernel
theorem dL_law_1838 : decode cL_law 1838 = .ok (.ireturn, 1) := by decide +kernel
theorem dL_law_1839 : decode cL_law 1839 = .ok (.goto 135, 3) := by decide +kernel
theorem dL_law_1842 : decode cL_law 1842 = .ok (.aload_n 1, 1) := by decide +kernel
theorem dL_law_1843 : decode cL_law 1843 = .ok (.aload_n 3, 1) := by decide +kernel
theorem dL_law_1844 : decode cL_law 1844 = .ok (.invokestatic 237, 3) := by decide +kernel
theorem dL_law_1847 : decode cL_law 1847 = .ok (.istore 6, 2) := by decide +kernel
theorem dL_law_1849 : decode cL_law 1849 = .ok (.aload_n 2, 1) := by decide +kernel
theorem dL_law_1850 : decode cL_law 1850 = .ok (.invokevirtual 239, 3) := by decide +kernel
theorem dL_law_1853 : decode cL_law 1853 = .ok (.istore 7, 2) := by decide +kernel
theorem dL_law_1855 : decode cL_law 1855 = .ok (.aload_n 2, 1) := by decide +kernel
theorem dL_law_1856 : decode cL_law 1856 = .ok (.invokevirtual 122, 3) := by decide +kernel
theorem dL_law_1859 : decode cL_law 1859 = .ok (.iload 6, 2) := by decide +kernel
theorem dL_law_1861 : decode cL_law 1861 = .ok (.if_icmp .eq 5, 3) := by decide +kernel
theorem dL_law_1864 : decode cL_law 1864 = .ok (.iconst 0, 1) := by decide +kernel
theorem dL_law_1865 : decode cL_law 1865 = .ok (.ireturn, 1) := by decide +kernel
theorem dL_law_1866 : decode cL_law 1866 = .ok (.iload 6, 2) := by decide +kernel
theorem dL_law_1868 : decode cL_law 1868 = .ok (.ifCond .ne 15, 3) := by decide +kernel
theorem dL_law_1871 : decode cL_law 1871 = .ok (.aload_n 3, 1) := by decide +kernel
theorem dL_law_1872 : decode cL_law 1872 = .ok (.iconst 0, 1) := by decide +kernel
theorem dL_law_1873 : decode cL_law 1873 = .ok (.laload, 1) := by decide +kernel
theorem dL_law_1874 : decode cL_law 1874 = .ok (.iload 7, 2) := by decide +kernel
theorem dL_law_1876 : decode cL_law 1876 = .ok (.i2l, 1) := by decide +kernel
theorem dL_law_1877 : decode cL_law 1877 = .ok (.lcmp, 1) := by decide +kernel
theorem dL_law_1878 : decode cL_law 1878 = .ok (.ifCond .eq 5, 3) := by decide +kernel
theorem dL_law_1881 : decode cL_law 1881 = .ok (.iconst 0, 1) := by decide +kernel
theorem dL_law_1882 : decode cL_law 1882 = .ok (.ireturn, 1) := by decide +kernel
theorem dL_law_1883 : decode cL_law 1883 = .ok (.goto 91, 3) := by decide +kernel
theorem dL_law_1886 : decode cL_law 1886 = .ok (.aload_n 1, 1) := by decide +kernel
theorem dL_law_1887 : decode cL_law 1887 = .ok (.aload_n 3, 1) := by decide +kernel
theorem dL_law_1888 : decode cL_law 1888 = .ok (.invokestatic 240, 3) := by decide +kernel
theorem dL_law_1891 : decode cL_law 1891 = .ok (.istore 6, 2) := by decide +kernel
theorem dL_law_1893 : decode cL_law 1893 = .ok (.aload_n 2, 1) := by decide +kernel
theorem dL_law_1894 : decode cL_law 1894 = .ok (.invokevirtual 242, 3) := by decide +kernel
theorem dL_law_1897 : decode cL_law 1897 = .ok (.istore 7, 2) := by decide +kernel
theorem dL_law_1899 : decode cL_law 1899 = .ok (.aload_n 2, 1) := by decide +kernel
theorem dL_law_1900 : decode cL_law 1900 = .ok (.invokevirtual 122, 3) := by decide +kernel
theorem dL_law_1903 : decode cL_law 1903 = .ok (.iload 6, 2) := by decide +kernel
theorem dL_law_1905 : decode cL_law 1905 = .ok (.if_icmp .eq 5, 3) := by decide +kernel
theorem dL_law_1908 : decode cL_law 1908 = .ok (.iconst 0, 1) := by decide +kernel
theorem dL_law_1909 : decode cL_law 1909 = .ok (.ireturn, 1) := by decide +kernel
theorem dL_law_1910 : decode cL_law 1910 = .ok (.iload 6, 2) := by decide +kernel
theorem dL_law_1912 : decode cL_law 1912 = .ok (.ifCond .ne 15, 3) := by decide +kernel
theorem dL_law_1915 : decode cL_law 1915 = .ok (.aload_n 3, 1) := by decide +kernel
theorem dL_law_1916 : decode cL_law 1916 = .ok (.iconst 0, 1) := by decide +kernel
theorem dL_law_1917 : decode cL_law 1917 = .ok (.laload, 1) := by decide +kernel
theorem dL_law_1918 : decode cL_law 1918 = .ok (.iload 7, 2) := by decide +kernel
theorem dL_law_1920 : decode cL_law 1920 = .ok (.i2l, 1) := by decide +kernel
theorem dL_law_1921 : decode cL_law 1921 = .ok (.lcmp, 1) := by decide +kernel
theorem dL_law_1922 : decode cL_law 1922 = .ok (.ifCond .eq 5, 3) := by decide +kernel
theorem dL_law_1925 : decode cL_law 1925 = .ok (.iconst 0, 1) := by decide +kernel
theorem dL_law_1926 : decode cL_law 1926 = .ok (.ireturn, 1) := by decide +kernel
theorem dL_law_1927 : decode cL_law 1927 = .ok (.goto 47, 3) := by decide +kernel
theorem dL_law_1930 : decode cL_law 1930 = .ok (.aload_n 1, 1) := by decide +kernel
theorem dL_law_1931 : decode cL_law 1931 = .ok (.aload_n 3, 1) := by decide +kernel
theorem dL_law_1932 : decode cL_law 1932 = .ok (.invokestatic 243, 3) := by decide +kernel
theorem dL_law_1935 : decode cL_law 1935 = .ok (.istore 6, 2) := by decide +kernel
theorem dL_law_1937 : decode cL_law 1937 = .ok (.aload_n 2, 1) := by decide +kernel
theorem dL_law_1938 : decode cL_law 1938 = .ok (.invokevirtual 245, 3) := by decide +kernel
theorem dL_law_1941 : decode cL_law 1941 = .ok (.istore 7, 2) := by decide +kernel
theorem dL_law_1943 : decode cL_law 1943 = .ok (.aload_n 2, 1) := by decide +kernel
theorem dL_law_1944 : decode cL_law 1944 = .ok (.invokevirtual 122, 3) := by decide +kernel
theorem dL_law_1947 : decode cL_law 1947 = .ok (.iload 6, 2) := by decide +kernel
theorem dL_law_1949 : decode cL_law 1949 = .ok (.if_icmp .eq 5, 3) := by decide +kernel
theorem dL_law_1952 : decode cL_law 1952 = .ok (.iconst 0, 1) := by decide +kernel
theorem dL_law_1953 : decode cL_law 1953 = .ok (.ireturn, 1) := by decide +kernel
theorem dL_law_1954 : decode cL_law 1954 = .ok (.iload 6, 2) := by decide +kernel
theorem dL_law_1956 : decode cL_law 1956 = .ok (.ifCond .ne 15, 3) := by decide +kernel
theorem dL_law_1959 : decode cL_law 1959 = .ok (.aload_n 3, 1) := by decide +kernel
theorem dL_law_1960 : decode cL_law 1960 = .ok (.iconst 0, 1) := by decide +kernel
theorem dL_law_1961 : decode cL_law 1961 = .ok (.laload, 1) := by decide +kernel
theorem dL_law_1962 : decode cL_law 1962 = .ok (.iload 7, 2) := by decide +kernel
theorem dL_law_1964 : decode cL_law 1964 = .ok (.i2l, 1) := by decide +kernel
theorem dL_law_1965 : decode cL_law 1965 = .ok (.lcmp, 1) := by decide +kernel
theorem dL_law_1966 : decode cL_law 1966 = .ok (.ifCond .eq 5, 3) := by decide +kernel
theorem dL_law_1969 : decode cL_law 1969 = .ok (.iconst 0, 1) := by decide +kernel
theorem dL_law_1970 : decode cL_law 1970 = .ok (.ireturn, 1) := by decide +kernel
theorem dL_law_1971 : decode cL_law 1971 = .ok (.goto 3, 3) := by decide +kernel
theorem dL_law_1974 : decode cL_law 1974 = .ok (.iinc 5 3, 3) := by decide +kernel
theorem dL_law_1977 : decode cL_law 1977 = .ok (.goto (-1949), 3) := by decide +kernel
theorem dL_law_1980 : decode cL_law 1980 = .ok (.iconst 1, 1) := by decide +kernel
theorem dL_law_1981 : decode cL_law 1981 = .ok (.ireturn, 1) := by decide +kernel
end
section
/-! one heap for all: cell number k lies at the address 'ad k' and holds 'G k'; rows of the kit said over it -/
def cnWord : Cond → Bool
  | .castable .. => true
  | .methodLinkNest .. => true
  | .declares .. => true
  | _ => false
def AW : List Cond := lw_tbl.filter goodWord
def BW : List Cond := lw_tbl.filter cnWord
theorem AW_of {w : Cond} (i : Nat) (h : lw_tbl[i]? = some w) (g : goodWord w = true) : w ∈ AW := List.mem_filter.mpr ⟨List.mem_of_getElem? h, g⟩
theorem BW_of {w : Cond} (i : Nat) (h : lw_tbl[i]? = some w) (g : cnWord w = true) : w ∈ BW := List.mem_filter.mpr ⟨List.mem_of_getElem? h, g⟩
theorem AW_sub (ws : List Cond) (ps : List Nat) (hp : ws = ps.filterMap (fun i => lw_tbl[i]?)) (hg : ws.all goodWord = true) : ∀ w ∈ ws, w ∈ AW := by
  intro w hw
  refine List.mem_filter.mpr ⟨?_, List.all_eq_true.mp hg w hw⟩
  rw [hp] at hw
  obtain ⟨i, -, hi⟩ := List.mem_filterMap.mp hw
  exact List.mem_of_getElem? hi
theorem AW_good : GoodIn AW AW := fun w h => ⟨h, good_of_word (List.mem_filter.mp h).2⟩
theorem GI_nil {b : List Cond} : GoodIn b [] := fun _ h => nomatch h
theorem GI_cons {w : Cond} {ws : List Cond} (h : w ∈ AW) (t : GoodIn AW ws) : GoodIn AW (w :: ws) := fun v hv => (List.mem_cons.mp hv).elim (fun e => e ▸ AW_good w h) (t v)
/-- what is the same in the whole run: the launch, class ids, slots, array class ids, the first new address -/
abbrev GL : Type := Launch × (Nat → ClassId) × (Nat → Nat → Nat) × (Nat → ClassId) × Nat
abbrev GL.ac (L : GL) : Nat → ClassId := L.2.2.2.1
abbrev GL.b0 (L : GL) : Nat := L.2.2.2.2
abbrev GL.D (L : GL) : va_G := (L.2.1, L.2.2.1)
abbrev gTy (L : GL) : List (ClassId × FieldType) := [(L.ac 0, .int), (L.ac 1, .long), (L.ac 2, .char), (L.ac 3, .double), (L.ac 4, .object "PellMills$Power"), (L.ac 5, .object "PellMills$State")]
def gA (L : GL) : Nat → Prop := fun q => L.b0 ≤ q
def gStr : List (String × Nat × String) := [("PellMills", 238, "the number is not from 2 to 60"), ("PellMills", 253, "the stone does not allow it"), ("PellMills", 243, "the number is a square"), ("PellMills", 101, "the place is not from 0 to 99"), ("PellMills", 128, "no stone has this number or one above it"), ("PellMills", 245, "the stone is not laid"), ("PellMills", 148, "the stone stands at the power 0"), ("PellMills", 159, "the place is below 0"), ("PellMills", 168, "there are not so many solutions"), ("PellMills", 176, "the bound is not from 0 to 1000000000000000"), ("PellMills", 190, "there is no snapshot"), ("PellMills", 201, "the history is empty"), ("PellMills", 203, "the character is not from 32 to 126"), ("PellMills", 209, "the text has 60 characters"), ("PellMills", 247, "the text has no fault"), ("PellMills", 230, "the text has a fault")]
abbrev eIAE : String := "java/lang/IllegalArgumentException"
abbrev eISE : String := "java/lang/IllegalStateException"
abbrev eNSE : String := "java/util/NoSuchElementException"
def gK (L : GL) (U : State) : Prop :=
  va_K L.D vwCl (gTy L) U ∧ vx_Zq Bundle.tN "UNASSIGNED_STACK" Bundle.steD (gA L) U U.heap ∧ vx_Zq Bundle.tN "SUPPRESSED_SENTINEL" Bundle.listD (gA L) U U.heap ∧
  (∀ q ∈ gStr, ∃ a, vk_R q.1 q.2.1 q.2.2 a U) ∧ (∀ w ∈ BW, va_Nw w U) ∧ (va_Nc eISE eIAE U ∧ va_Nc eNSE eIAE U) ∧ L.b0 ≤ U.heap.size ∧ (va_AO "PellMills$Power" U ∧ va_AO "PellMills$State" U) ∧ L.1.stackTraces = false
def gw (ad : Nat → Nat) (N : Nat) (G : Nat → va_E) : va_W := (List.range N).map (fun k => (ad k, G k))
theorem gw_get {ad : Nat → Nat} {N k : Nat} {G : Nat → va_E} (hk : k < N) : (gw ad N G)[k]? = some (ad k, G k) := by
  simp [gw, List.getElem?_map, List.getElem?_range hk]
theorem gw_get' {ad : Nat → Nat} {N k : Nat} {G : Nat → va_E} {e : va_E} (hk : k < N) (he : G k = e) : (gw ad N G)[k]? = some (ad k, e) := he ▸ gw_get hk
theorem gw_len {ad : Nat → Nat} {N : Nat} {G : Nat → va_E} : (gw ad N G).length = N := by simp [gw]
theorem gw_some {ad : Nat → Nat} {N k : Nat} {G : Nat → va_E} {q : Nat × va_E} (h : (gw ad N G)[k]? = some q) : k < N ∧ q = (ad k, G k) := by
  have hk : k < N := by
    have := (List.getElem?_eq_some_iff.mp h).1
    rwa [gw_len] at this
  exact ⟨hk, (Option.some.inj ((gw_get hk).symm.trans h)).symm⟩
theorem gw_set {ad : Nat → Nat} {N k : Nat} {G : Nat → va_E} {e : va_E} (hk : k < N) : (gw ad N G).set k (ad k, e) = gw ad N (va_up G k e) := by
  apply List.ext_getElem?
  intro i
  by_cases hi : i < N
  · by_cases hik : i = k
    · subst hik
      rw [List.getElem?_set_self (by rw [gw_len]; exact hi), gw_get hi]
      simp [va_up]
    · rw [List.getElem?_set_ne (Ne.symm hik), gw_get hi, gw_get hi]
      simp [va_up, hik]
  · rw [List.getElem?_eq_none (by rw [List.length_set, gw_len]; omega), List.getElem?_eq_none (by rw [gw_len]; omega)]
theorem gw_push {ad : Nat → Nat} {N q : Nat} {G : Nat → va_E} {e : va_E} : gw ad N G ++ [(q, e)] = gw (va_up ad N q) (N + 1) (va_up G N e) := by
  apply List.ext_getElem?
  intro i
  by_cases hi : i < N
  · rw [List.getElem?_append_left (by rw [gw_len]; exact hi), gw_get hi, gw_get (by omega)]
    simp [va_up, Nat.ne_of_lt hi]
  · by_cases hN : i = N
    · subst hN
      rw [List.getElem?_append_right (by rw [gw_len]; exact Nat.le_refl _), gw_len, Nat.sub_self, gw_get (by omega)]
      simp [va_up]
    · rw [List.getElem?_eq_none (by simp [gw_len]; omega), List.getElem?_eq_none (by rw [gw_len]; omega)]
def gD (L : GL) (ad : Nat → Nat) (N : Nat) : Prop := (∀ i j : Nat, i < N → j < N → ad i = ad j → i = j) ∧ ∀ i : Nat, i < N → L.b0 ≤ ad i
theorem gD.va {L : GL} {ad : Nat → Nat} {N : Nat} (h : gD L ad N) (G : Nat → va_E) : va_D (gA L) (gw ad N G) := by
  refine ⟨fun i j p q hi hj e => ?_, fun k q hk => ?_⟩
  · obtain ⟨h1, rfl⟩ := gw_some hi
    obtain ⟨h2, rfl⟩ := gw_some hj
    exact h.1 i j h1 h2 e
  · obtain ⟨h1, rfl⟩ := gw_some hk
    exact h.2 k h1
theorem gD.of {L : GL} {ad : Nat → Nat} {N : Nat} {G : Nat → va_E} (h : va_D (gA L) (gw ad N G)) : gD L ad N :=
  ⟨fun i j hi hj e => h.1 i j _ _ (gw_get hi) (gw_get hj) e, fun i hi => h.2 i _ (gw_get hi)⟩
/-- the picture: heap and tables of U -/
def gS (L : GL) (N : Nat) (ad : Nat → Nat) (G : Nat → va_E) (U : State) : Prop := va_P L.D vwCl (gw ad N G) U.heap ∧ gD L ad N ∧ gK L U
theorem gK.same {L : GL} {u U : State} (hv : u.vm = U.vm) (hh : u.heap = U.heap) (h : gK L u) : gK L U := by
  obtain ⟨h1, h2, h3, h4, h5, h6, h7, h8, h9⟩ := h
  have hal : u.vm.Alike U.vm := hv ▸ Vm.Alike.refl u.vm
  refine ⟨h1.moved hal, hh ▸ h2.moved hal, hh ▸ h3.moved hal, fun q hq => ?_, fun w hw => ?_, ⟨h6.1.moved hal, h6.2.moved hal⟩, hh ▸ h7, ⟨h8.1.moved hal, h8.2.moved hal⟩, h9⟩
  · obtain ⟨a, ha⟩ := h4 q hq
    exact ⟨a, vk_R.same hv.symm ha⟩
  · have hg : cnWord w = true := (List.mem_filter.mp hw).2
    exact va_Nw.same (by cases w <;> first | rfl | exact absurd hg Bool.false_ne_true) hv (h5 w hw)
theorem cn_warm {w : Cond} {s U : State} (hg : cnWord w = true) (hW : s.WarmedH U.vm) (h : va_Nw w s) : va_Nw w U := by
  cases w <;> first | exact va_Nw.warmC hW h | exact va_Nw.warmM hW h | exact va_Nw.warmD hW h | exact absurd hg Bool.false_ne_true
theorem gK.warm {L : GL} {s U : State} (hW : s.WarmedH U.vm) (hz : s.heap.size ≤ U.heap.size) (hk : ∀ q : Nat, q < s.heap.size → ¬ gA L q → U.heap[q]? = s.heap[q]?) (h : gK L s) : gK L U := by
  obtain ⟨h1, h2, h3, h4, h5, h6, h7, h8, h9⟩ := h
  have hal : s.vm.Alike U.vm := hW.alike
  refine ⟨h1.moved hal, (h2.kept hk).moved hal, (h3.kept hk).moved hal, fun q hq => ?_, fun w hw => cn_warm (List.mem_filter.mp hw).2 hW (h5 w hw), ⟨h6.1.moved hal, h6.2.moved hal⟩, Nat.le_trans h7 hz, ⟨h8.1.moved hal, h8.2.moved hal⟩, h9⟩
  obtain ⟨a, ha⟩ := h4 q hq
  exact ⟨a, vk_R.warm hW ha⟩
theorem gS.blind {L : GL} {N : Nat} {ad : Nat → Nat} {G : Nat → va_E} {av : List Value} : FrameBlind (va_Pc av (gS L N ad G)) := fun a U g mk q => ⟨q.1, q.2.1, q.2.2.1, gK.same (u := U) (U := U.calling g mk a) rfl rfl q.2.2.2⟩
def gQ (L : GL) (N : Nat) (ad : Nat → Nat) (Q : Option Value → (Nat → va_E) → Prop) : Array Value → State → Outcome → State → Prop := fun _ st oc t => (∃ v G', oc = .returned v ∧ Q v G' ∧ va_P L.D vwCl (gw ad N G') t.heap) ∧ va_F (gA L) st t
def gQn (L : GL) (Q : Nat → (Nat → Nat) → (Nat → va_E) → Prop) : Array Value → State → Outcome → State → Prop := fun _ st oc t => (∃ N' ad' G', oc = .returned none ∧ Q N' ad' G' ∧ gD L ad' N' ∧ va_P L.D vwCl (gw ad' N' G') t.heap) ∧ va_F (gA L) st t
def gX (L : GL) (N : Nat) (ad : Nat → Nat) (X : String → (Nat → va_E) → Prop) : String → State → State → Prop := fun E st t => ∃ G', X E G' ∧ va_P L.D vwCl (gw ad N G') t.heap ∧ va_F (gA L) st t
/-- a method's contract: from the heap G it returns v and leaves G', with Q v G' -/
def GM (L : GL) (y : MethodName) (cc : ByteArray) (maxL : Nat) (ret : Option FieldType) (rm : Room) (N : Nat) (ad : Nat → Nat) (G : Nat → va_E) (av : List Value) (Q : Option Value → (Nat → va_E) → Prop) : Prop :=
  Met L.1 y (.code y cc maxL ret :: AW) rm (va_Pc av (gS L N ad G)) (gQ L N ad Q) rm.cells rm.slots (gA L)
/-- .. of a constructor that makes cells -/
def GN (L : GL) (y : MethodName) (cc : ByteArray) (maxL : Nat) (rm : Room) (N : Nat) (ad : Nat → Nat) (G : Nat → va_E) (av : List Value) (Q : Nat → (Nat → Nat) → (Nat → va_E) → Prop) : Prop :=
  Met L.1 y (.code y cc maxL none :: AW) rm (va_Pc av (gS L N ad G)) (gQn L Q) rm.cells rm.slots (gA L)
/-- .. of one that may throw E, leaving G', with X E G' -/
def GX (L : GL) (y : MethodName) (cc : ByteArray) (maxL : Nat) (ret : Option FieldType) (rm : Room) (N : Nat) (ad : Nat → Nat) (G : Nat → va_E) (av : List Value) (Q : Option Value → (Nat → va_E) → Prop) (X : String → (Nat → va_E) → Prop) : Prop :=
  vx_Met L.1 y (.code y cc maxL ret :: AW) rm (va_Pc av (gS L N ad G)) (gQ L N ad Q) (gX L N ad X) rm.cells rm.slots (gA L)
/-- a method's own frame: program, environment, room, start, method, arguments, below, method and code, what is owed, number of locals -/
abbrev GE : Type := Program × Env × Room × State × MethodId × Array Value × List Frame × Method × Code × (State → Prop) × Nat
abbrev GE.p (E : GE) := E.1
abbrev GE.e (E : GE) := E.2.1
abbrev GE.R (E : GE) := E.2.2.1
abbrev GE.s (E : GE) := E.2.2.2.1
abbrev GE.m (E : GE) := E.2.2.2.2.1
abbrev GE.args (E : GE) := E.2.2.2.2.2.1
abbrev GE.below (E : GE) := E.2.2.2.2.2.2.1
abbrev GE.meth (E : GE) := E.2.2.2.2.2.2.2.1
abbrev GE.c (E : GE) := E.2.2.2.2.2.2.2.2.1
abbrev GE.Q (E : GE) := E.2.2.2.2.2.2.2.2.2.1
abbrev GE.nL (E : GE) := E.2.2.2.2.2.2.2.2.2.2
abbrev GV (L : GL) (E : GE) (H : Heap) (locs : List Loc) (cells slots : Nat) (g : JFrame) : Prop := W E.p L.1 E.e E.R E.s E.m E.args E.below E.meth E.c H locs cells slots E.Q g
/-- the machine goes on to what is owed from pc, with these locals and this stack, over the heap G -/
def GW (L : GL) (E : GE) (N : Nat) (ad : Nat → Nat) (G : Nat → va_E) (cells slots : Nat) (pc : Nat) (lo : List (Nat × Value)) (st : List Value) : Prop :=
  gD L ad N → ∀ (H : Heap) (locs : List Loc) (ls : Array Slot), lv_has ls E.nL lo → va_P L.D vwCl (gw ad N G) H → va_S (gA L) E.s.heap H locs → GV L E H locs cells slots (F0 E.m pc ls st)
def gC (L : GL) (E : GE) (cc : ByteArray) (own : String) (nL : Nat) (R : Room) : Prop :=
  E.p.tables.exec = Jvm.exec ∧ E.c.code = cc ∧ E.c.maxLocals = E.nL ∧ E.nL = nL ∧ E.R = R ∧ E.s.vm.findClass own = some E.m.cls ∧ (∀ w ∈ AW, w.before E.args E.s = true) ∧ gK L E.s ∧ E.meth.locks = false
def lkp : List (Nat × Value) → Nat → Option Value
  | [], _ => none
  | (i, v) :: l, k => bif Nat.beq i k then some v else lkp l k
theorem lkp_mem : ∀ {l : List (Nat × Value)} {k : Nat} {v : Value}, lkp l k = some v → (k, v) ∈ l
  | (i, u) :: l, k, v, h => by
    unfold lkp at h
    cases hb : Nat.beq i k with
    | true =>
      rw [hb] at h
      have hi : i = k := Nat.eq_of_beq_eq_true hb
      subst hi
      have : u = v := Option.some.inj h
      subst this
      exact List.mem_cons_self
    | false =>
      rw [hb] at h
      exact List.mem_cons_of_mem _ (lkp_mem h)
theorem lkp_at {ls : Array Slot} {nL : Nat} {l : List (Nat × Value)} {k : Nat} {v : Value} (h : lv_has ls nL l) (hk : lkp l k = some v) : ls[k]? = some (.val v) := h.2.2 (k, v) (lkp_mem hk)
theorem GW.eqG {L : GL} {E : GE} {N : Nat} {ad : Nat → Nat} {G G' : Nat → va_E} {a b pc : Nat} {lo : List (Nat × Value)} {st : List Value} (h : G = G') (k : GW L E N ad G' a b pc lo st) : GW L E N ad G a b pc lo st := h ▸ k
section GR
variable {L : GL} {E : GE} {cc : ByteArray} {own : String} {nL N cs ss pc : Nat} {R : Room} {ad : Nat → Nat} {G : Nat → va_E} {lo : List (Nat × Value)} {st : List Value}
theorem GW.sub (lo' : List (Nat × Value)) (h : ∀ q ∈ lo', q ∈ lo) (k : GW L E N ad G cs ss pc lo' st) : GW L E N ad G cs ss pc lo st :=
  fun hD H locs ls hl hP hS => k hD H locs ls ⟨hl.1, hl.2.1, fun q hq => hl.2.2 q (h q hq)⟩ hP hS
theorem GW.widen {c1 s1 : Nat} (h1 : cs ≤ c1) (h2 : ss ≤ s1) (k : GW L E N ad G c1 s1 pc lo st) : GW L E N ad G cs ss pc lo st :=
  fun hD H locs ls hl hP hS => W.widen h1 h2 (k hD H locs ls hl hP hS)
theorem GW.topi {x : Int32} (k : ∀ y : Int32, y = x → GW L E N ad G cs ss pc lo (.int y :: st)) : GW L E N ad G cs ss pc lo (.int x :: st) := k x rfl
theorem GW.topl {x : Int64} (k : ∀ y : Int64, y = x → GW L E N ad G cs ss pc lo (.long y :: st)) : GW L E N ad G cs ss pc lo (.long x :: st) := k x rfl

theorem G_iload_n (C : gC L E cc own nL R) {k : Fin 4} (i : Nat) {x : Int32} (hdg : decode cc pc = .ok (.iload_n k, 1)) (hi : (k : Nat) = i) (hk : lkp lo i = some (.int x)) (kk : GW L E N ad G cs ss (pc + 1) lo (.int x :: st)) : GW L E N ad G cs ss pc lo st :=
  fun hD H locs ls hl hP hS => lv_iload_n C.1 C.2.1 hdg hi (lkp_at hl hk) (kk hD H locs ls hl hP hS)
theorem G_iload (C : gC L E cc own nL R) {i : Nat} {x : Int32} (hdg : decode cc pc = .ok (.iload i, 2)) (hk : lkp lo i = some (.int x)) (kk : GW L E N ad G cs ss (pc + 2) lo (.int x :: st)) : GW L E N ad G cs ss pc lo st :=
  fun hD H locs ls hl hP hS => lv_iload C.1 C.2.1 hdg (lkp_at hl hk) (kk hD H locs ls hl hP hS)
theorem G_lload_n (C : gC L E cc own nL R) {k : Fin 4} (i : Nat) {x : Int64} (hdg : decode cc pc = .ok (.lload_n k, 1)) (hi : (k : Nat) = i) (hk : lkp lo i = some (.long x)) (kk : GW L E N ad G cs ss (pc + 1) lo (.long x :: st)) : GW L E N ad G cs ss pc lo st :=
  fun hD H locs ls hl hP hS => lv_lload_n C.1 C.2.1 hdg hi (lkp_at hl hk) (kk hD H locs ls hl hP hS)
theorem G_lload (C : gC L E cc own nL R) {i : Nat} {x : Int64} (hdg : decode cc pc = .ok (.lload i, 2)) (hk : lkp lo i = some (.long x)) (kk : GW L E N ad G cs ss (pc + 2) lo (.long x :: st)) : GW L E N ad G cs ss pc lo st :=
  fun hD H locs ls hl hP hS => lv_lload C.1 C.2.1 hdg (lkp_at hl hk) (kk hD H locs ls hl hP hS)
theorem G_aload_n (C : gC L E cc own nL R) {k : Fin 4} (i : Nat) {x : Nat} (hdg : decode cc pc = .ok (.aload_n k, 1)) (hi : (k : Nat) = i) (hk : lkp lo i = some (.ref x)) (kk : GW L E N ad G cs ss (pc + 1) lo (.ref x :: st)) : GW L E N ad G cs ss pc lo st :=
  fun hD H locs ls hl hP hS => lv_aload_n C.1 C.2.1 hdg hi (lkp_at hl hk) (kk hD H locs ls hl hP hS)
theorem G_aload (C : gC L E cc own nL R) {i : Nat} {x : Nat} (hdg : decode cc pc = .ok (.aload i, 2)) (hk : lkp lo i = some (.ref x)) (kk : GW L E N ad G cs ss (pc + 2) lo (.ref x :: st)) : GW L E N ad G cs ss pc lo st :=
  fun hD H locs ls hl hP hS => lv_aload C.1 C.2.1 hdg (lkp_at hl hk) (kk hD H locs ls hl hP hS)
theorem G_fload_n (C : gC L E cc own nL R) {k : Fin 4} (i : Nat) {x : UInt32} (hdg : decode cc pc = .ok (.fload_n k, 1)) (hi : (k : Nat) = i) (hk : lkp lo i = some (.float x)) (kk : GW L E N ad G cs ss (pc + 1) lo (.float x :: st)) : GW L E N ad G cs ss pc lo st :=
  fun hD H locs ls hl hP hS => lv_fload_n C.1 C.2.1 hdg hi (lkp_at hl hk) (kk hD H locs ls hl hP hS)
theorem G_fload (C : gC L E cc own nL R) {i : Nat} {x : UInt32} (hdg : decode cc pc = .ok (.fload i, 2)) (hk : lkp lo i = some (.float x)) (kk : GW L E N ad G cs ss (pc + 2) lo (.float x :: st)) : GW L E N ad G cs ss pc lo st :=
  fun hD H locs ls hl hP hS => lv_fload C.1 C.2.1 hdg (lkp_at hl hk) (kk hD H locs ls hl hP hS)
theorem G_dload_n (C : gC L E cc own nL R) {k : Fin 4} (i : Nat) {x : UInt64} (hdg : decode cc pc = .ok (.dload_n k, 1)) (hi : (k : Nat) = i) (hk : lkp lo i = some (.double x)) (kk : GW L E N ad G cs ss (pc + 1) lo (.double x :: st)) : GW L E N ad G cs ss pc lo st :=
  fun hD H locs ls hl hP hS => lv_dload_n C.1 C.2.1 hdg hi (lkp_at hl hk) (kk hD H locs ls hl hP hS)
theorem G_dload (C : gC L E cc own nL R) {i : Nat} {x : UInt64} (hdg : decode cc pc = .ok (.dload i, 2)) (hk : lkp lo i = some (.double x)) (kk : GW L E N ad G cs ss (pc + 2) lo (.double x :: st)) : GW L E N ad G cs ss pc lo st :=
  fun hD H locs ls hl hP hS => lv_dload C.1 C.2.1 hdg (lkp_at hl hk) (kk hD H locs ls hl hP hS)
theorem G_aload_nN (C : gC L E cc own nL R) {k : Fin 4} (i : Nat) (hdg : decode cc pc = .ok (.aload_n k, 1)) (hi : (k : Nat) = i) (hk : lkp lo i = some .null) (kk : GW L E N ad G cs ss (pc + 1) lo (.null :: st)) : GW L E N ad G cs ss pc lo st :=
  fun hD H locs ls hl hP hS => lv_aload_nN C.1 C.2.1 hdg hi (lkp_at hl hk) (kk hD H locs ls hl hP hS)
theorem G_istore_n (C : gC L E cc own nL R) {k : Fin 4} (i : Nat) {x : Int32} {lo' : List (Nat × Value)} (hdg : decode cc pc = .ok (.istore_n k, 1)) (hi : (k : Nat) = i) (hn : i < nL) (hlo : (i, Value.int x) :: lo.filter (fun q => !(q.1 == i) && !(q.1 + 1 == i && q.2.category == 2)) = lo') (kk : GW L E N ad G cs ss (pc + 1) lo' st) : GW L E N ad G cs ss pc lo (.int x :: st) :=
  fun hD H locs ls hl hP hS => lv_istore_n C.1 C.2.1 hdg hi hl (by rw [C.2.2.2.1]; exact hn) hlo (fun ls hl => kk hD H locs ls hl hP hS)
theorem G_istore (C : gC L E cc own nL R) {i : Nat} {x : Int32} {lo' : List (Nat × Value)} (hdg : decode cc pc = .ok (.istore i, 2)) (hn : i < nL) (hlo : (i, Value.int x) :: lo.filter (fun q => !(q.1 == i) && !(q.1 + 1 == i && q.2.category == 2)) = lo') (kk : GW L E N ad G cs ss (pc + 2) lo' st) : GW L E N ad G cs ss pc lo (.int x :: st) :=
  fun hD H locs ls hl hP hS => lv_istore C.1 C.2.1 hdg hl (by rw [C.2.2.2.1]; exact hn) hlo (fun ls hl => kk hD H locs ls hl hP hS)
theorem G_astore_n (C : gC L E cc own nL R) {k : Fin 4} (i : Nat) {x : Nat} {lo' : List (Nat × Value)} (hdg : decode cc pc = .ok (.astore_n k, 1)) (hi : (k : Nat) = i) (hn : i < nL) (hlo : (i, Value.ref x) :: lo.filter (fun q => !(q.1 == i) && !(q.1 + 1 == i && q.2.category == 2)) = lo') (kk : GW L E N ad G cs ss (pc + 1) lo' st) : GW L E N ad G cs ss pc lo (.ref x :: st) :=
  fun hD H locs ls hl hP hS => lv_astore_n C.1 C.2.1 hdg hi hl (by rw [C.2.2.2.1]; exact hn) hlo (fun ls hl => kk hD H locs ls hl hP hS)
theorem G_astore (C : gC L E cc own nL R) {i : Nat} {x : Nat} {lo' : List (Nat × Value)} (hdg : decode cc pc = .ok (.astore i, 2)) (hn : i < nL) (hlo : (i, Value.ref x) :: lo.filter (fun q => !(q.1 == i) && !(q.1 + 1 == i && q.2.category == 2)) = lo') (kk : GW L E N ad G cs ss (pc + 2) lo' st) : GW L E N ad G cs ss pc lo (.ref x :: st) :=
  fun hD H locs ls hl hP hS => lv_astore C.1 C.2.1 hdg hl (by rw [C.2.2.2.1]; exact hn) hlo (fun ls hl => kk hD H locs ls hl hP hS)
theorem G_fstore_n (C : gC L E cc own nL R) {k : Fin 4} (i : Nat) {x : UInt32} {lo' : List (Nat × Value)} (hdg : decode cc pc = .ok (.fstore_n k, 1)) (hi : (k : Nat) = i) (hn : i < nL) (hlo : (i, Value.float x) :: lo.filter (fun q => !(q.1 == i) && !(q.1 + 1 == i && q.2.category == 2)) = lo') (kk : GW L E N ad G cs ss (pc + 1) lo' st) : GW L E N ad G cs ss pc lo (.float x :: st) :=
  fun hD H locs ls hl hP hS => lv_fstore_n C.1 C.2.1 hdg hi hl (by rw [C.2.2.2.1]; exact hn) hlo (fun ls hl => kk hD H locs ls hl hP hS)
theorem G_fstore (C : gC L E cc own nL R) {i : Nat} {x : UInt32} {lo' : List (Nat × Value)} (hdg : decode cc pc = .ok (.fstore i, 2)) (hn : i < nL) (hlo : (i, Value.float x) :: lo.filter (fun q => !(q.1 == i) && !(q.1 + 1 == i && q.2.category == 2)) = lo') (kk : GW L E N ad G cs ss (pc + 2) lo' st) : GW L E N ad G cs ss pc lo (.float x :: st) :=
  fun hD H locs ls hl hP hS => lv_fstore C.1 C.2.1 hdg hl (by rw [C.2.2.2.1]; exact hn) hlo (fun ls hl => kk hD H locs ls hl hP hS)
theorem G_lstore_n (C : gC L E cc own nL R) {k : Fin 4} (i : Nat) {x : Int64} {lo' : List (Nat × Value)} (hdg : decode cc pc = .ok (.lstore_n k, 1)) (hi : (k : Nat) = i) (hn : i + 1 < nL) (hlo : (i, Value.long x) :: lo.filter (fun q => !(q.1 == i) && (!(q.1 == i + 1) && !(q.1 + 1 == i && q.2.category == 2))) = lo') (kk : GW L E N ad G cs ss (pc + 1) lo' st) : GW L E N ad G cs ss pc lo (.long x :: st) :=
  fun hD H locs ls hl hP hS => lv_lstore_n C.1 C.2.1 hdg hi hl (by rw [C.2.2.2.1]; exact hn) hlo (fun ls hl => kk hD H locs ls hl hP hS)
theorem G_lstore (C : gC L E cc own nL R) {i : Nat} {x : Int64} {lo' : List (Nat × Value)} (hdg : decode cc pc = .ok (.lstore i, 2)) (hn : i + 1 < nL) (hlo : (i, Value.long x) :: lo.filter (fun q => !(q.1 == i) && (!(q.1 == i + 1) && !(q.1 + 1 == i && q.2.category == 2))) = lo') (kk : GW L E N ad G cs ss (pc + 2) lo' st) : GW L E N ad G cs ss pc lo (.long x :: st) :=
  fun hD H locs ls hl hP hS => lv_lstore C.1 C.2.1 hdg hl (by rw [C.2.2.2.1]; exact hn) hlo (fun ls hl => kk hD H locs ls hl hP hS)
theorem G_dstore_n (C : gC L E cc own nL R) {k : Fin 4} (i : Nat) {x : UInt64} {lo' : List (Nat × Value)} (hdg : decode cc pc = .ok (.dstore_n k, 1)) (hi : (k : Nat) = i) (hn : i + 1 < nL) (hlo : (i, Value.double x) :: lo.filter (fun q => !(q.1 == i) && (!(q.1 == i + 1) && !(q.1 + 1 == i && q.2.category == 2))) = lo') (kk : GW L E N ad G cs ss (pc + 1) lo' st) : GW L E N ad G cs ss pc lo (.double x :: st) :=
  fun hD H locs ls hl hP hS => lv_dstore_n C.1 C.2.1 hdg hi hl (by rw [C.2.2.2.1]; exact hn) hlo (fun ls hl => kk hD H locs ls hl hP hS)
theorem G_dstore (C : gC L E cc own nL R) {i : Nat} {x : UInt64} {lo' : List (Nat × Value)} (hdg : decode cc pc = .ok (.dstore i, 2)) (hn : i + 1 < nL) (hlo : (i, Value.double x) :: lo.filter (fun q => !(q.1 == i) && (!(q.1 == i + 1) && !(q.1 + 1 == i && q.2.category == 2))) = lo') (kk : GW L E N ad G cs ss (pc + 2) lo' st) : GW L E N ad G cs ss pc lo (.double x :: st) :=
  fun hD H locs ls hl hP hS => lv_dstore C.1 C.2.1 hdg hl (by rw [C.2.2.2.1]; exact hn) hlo (fun ls hl => kk hD H locs ls hl hP hS)
theorem G_astore_nN (C : gC L E cc own nL R) {k : Fin 4} (i : Nat) {lo' : List (Nat × Value)} (hdg : decode cc pc = .ok (.astore_n k, 1)) (hi : (k : Nat) = i) (hn : i < nL) (hlo : (i, Value.null) :: lo.filter (fun q => !(q.1 == i) && !(q.1 + 1 == i && q.2.category == 2)) = lo') (kk : GW L E N ad G cs ss (pc + 1) lo' st) : GW L E N ad G cs ss pc lo (.null :: st) :=
  fun hD H locs ls hl hP hS => lv_astore_nN C.1 C.2.1 hdg hi hl (by rw [C.2.2.2.1]; exact hn) hlo (fun ls hl => kk hD H locs ls hl hP hS)
theorem G_iinc (C : gC L E cc own nL R) {i : Nat} {n : Int} {x v : Int32} {lo' : List (Nat × Value)} (hdg : decode cc pc = .ok (.iinc i n, 3)) (hk : lkp lo i = some (.int x)) (hv : x + Int32.ofInt n = v) (hn : i < nL) (hlo : (i, Value.int v) :: lo.filter (fun q => !(q.1 == i) && !(q.1 + 1 == i && q.2.category == 2)) = lo') (kk : GW L E N ad G cs ss (pc + 3) lo' st) : GW L E N ad G cs ss pc lo st := by
  intro hD H locs ls hl hP hS
  obtain ⟨k, hk2⟩ := List.getElem?_of_mem (lkp_mem hk)
  exact lv_iinc C.1 C.2.1 hdg hl hk2 hv (by rw [C.2.2.2.1]; exact hn) hlo (fun ls hl => kk hD H locs ls hl hP hS)
theorem G_iconst (C : gC L E cc own nL R) {n : Int} {v : Int32} (hdg : decode cc pc = .ok (.iconst n, 1)) (hv : Int32.ofInt n = v) (kk : GW L E N ad G cs ss (pc + 1) lo (.int v :: st)) : GW L E N ad G cs ss pc lo st :=
  fun hD H locs ls hl hP hS => lv_iconst C.1 C.2.1 hdg hv (kk hD H locs ls hl hP hS)
theorem G_bipush (C : gC L E cc own nL R) {n : Int} {v : Int32} (hdg : decode cc pc = .ok (.bipush n, 2)) (hv : (Int8.ofInt n).toInt32 = v) (kk : GW L E N ad G cs ss (pc + 2) lo (.int v :: st)) : GW L E N ad G cs ss pc lo st :=
  fun hD H locs ls hl hP hS => lv_bipush C.1 C.2.1 hdg hv (kk hD H locs ls hl hP hS)
theorem G_sipush (C : gC L E cc own nL R) {n : Int} {v : Int32} (hdg : decode cc pc = .ok (.sipush n, 3)) (hv : (Int16.ofInt n).toInt32 = v) (kk : GW L E N ad G cs ss (pc + 3) lo (.int v :: st)) : GW L E N ad G cs ss pc lo st :=
  fun hD H locs ls hl hP hS => lv_sipush C.1 C.2.1 hdg hv (kk hD H locs ls hl hP hS)
theorem G_lconst (C : gC L E cc own nL R) {n : Fin 2} {v : Int64} (hdg : decode cc pc = .ok (.lconst n, 1)) (hv : Int64.ofNat (n : Nat) = v) (kk : GW L E N ad G cs ss (pc + 1) lo (.long v :: st)) : GW L E N ad G cs ss pc lo st :=
  fun hD H locs ls hl hP hS => lv_lconst C.1 C.2.1 hdg hv (kk hD H locs ls hl hP hS)
theorem G_fconst0 (C : gC L E cc own nL R)  (hdg : decode cc pc = .ok (.fconst 0, 1))  (kk : GW L E N ad G cs ss (pc + 1) lo (.float FP.fconst0 :: st)) : GW L E N ad G cs ss pc lo st :=
  fun hD H locs ls hl hP hS => lv_fconst0 C.1 C.2.1 hdg (kk hD H locs ls hl hP hS)
theorem G_iadd (C : gC L E cc own nL R) {x y : Int32} (hdg : decode cc pc = .ok (.iadd, 1))  (kk : GW L E N ad G cs ss (pc + 1) lo (.int (x + y) :: st)) : GW L E N ad G cs ss pc lo (.int y :: .int x :: st) :=
  fun hD H locs ls hl hP hS => lv_iadd C.1 C.2.1 hdg (kk hD H locs ls hl hP hS)
theorem G_isub (C : gC L E cc own nL R) {x y : Int32} (hdg : decode cc pc = .ok (.isub, 1))  (kk : GW L E N ad G cs ss (pc + 1) lo (.int (x - y) :: st)) : GW L E N ad G cs ss pc lo (.int y :: .int x :: st) :=
  fun hD H locs ls hl hP hS => lv_isub C.1 C.2.1 hdg (kk hD H locs ls hl hP hS)
theorem G_imul (C : gC L E cc own nL R) {x y : Int32} (hdg : decode cc pc = .ok (.imul, 1))  (kk : GW L E N ad G cs ss (pc + 1) lo (.int (x * y) :: st)) : GW L E N ad G cs ss pc lo (.int y :: .int x :: st) :=
  fun hD H locs ls hl hP hS => lv_imul C.1 C.2.1 hdg (kk hD H locs ls hl hP hS)
theorem G_iand (C : gC L E cc own nL R) {x y : Int32} (hdg : decode cc pc = .ok (.iand, 1))  (kk : GW L E N ad G cs ss (pc + 1) lo (.int (x &&& y) :: st)) : GW L E N ad G cs ss pc lo (.int y :: .int x :: st) :=
  fun hD H locs ls hl hP hS => lv_iand C.1 C.2.1 hdg (kk hD H locs ls hl hP hS)
theorem G_idiv (C : gC L E cc own nL R) {x y : Int32} (hdg : decode cc pc = .ok (.idiv, 1)) (hne : ¬ y = 0) (kk : GW L E N ad G cs ss (pc + 1) lo (.int (x / y) :: st)) : GW L E N ad G cs ss pc lo (.int y :: .int x :: st) :=
  fun hD H locs ls hl hP hS => lv_idiv C.1 C.2.1 hdg hne (kk hD H locs ls hl hP hS)
theorem G_irem (C : gC L E cc own nL R) {x y : Int32} (hdg : decode cc pc = .ok (.irem, 1)) (hne : ¬ y = 0) (kk : GW L E N ad G cs ss (pc + 1) lo (.int (x - x / y * y) :: st)) : GW L E N ad G cs ss pc lo (.int y :: .int x :: st) :=
  fun hD H locs ls hl hP hS => lv_irem C.1 C.2.1 hdg hne (kk hD H locs ls hl hP hS)
theorem G_ladd (C : gC L E cc own nL R) {x y : Int64} (hdg : decode cc pc = .ok (.ladd, 1))  (kk : GW L E N ad G cs ss (pc + 1) lo (.long (x + y) :: st)) : GW L E N ad G cs ss pc lo (.long y :: .long x :: st) :=
  fun hD H locs ls hl hP hS => lv_ladd C.1 C.2.1 hdg (kk hD H locs ls hl hP hS)
theorem G_lsub (C : gC L E cc own nL R) {x y : Int64} (hdg : decode cc pc = .ok (.lsub, 1))  (kk : GW L E N ad G cs ss (pc + 1) lo (.long (x - y) :: st)) : GW L E N ad G cs ss pc lo (.long y :: .long x :: st) :=
  fun hD H locs ls hl hP hS => lv_lsub C.1 C.2.1 hdg (kk hD H locs ls hl hP hS)
theorem G_lmul (C : gC L E cc own nL R) {x y : Int64} (hdg : decode cc pc = .ok (.lmul, 1))  (kk : GW L E N ad G cs ss (pc + 1) lo (.long (x * y) :: st)) : GW L E N ad G cs ss pc lo (.long y :: .long x :: st) :=
  fun hD H locs ls hl hP hS => lv_lmul C.1 C.2.1 hdg (kk hD H locs ls hl hP hS)
theorem G_land (C : gC L E cc own nL R) {x y : Int64} (hdg : decode cc pc = .ok (.land, 1))  (kk : GW L E N ad G cs ss (pc + 1) lo (.long (x &&& y) :: st)) : GW L E N ad G cs ss pc lo (.long y :: .long x :: st) :=
  fun hD H locs ls hl hP hS => lv_land C.1 C.2.1 hdg (kk hD H locs ls hl hP hS)
theorem G_lor (C : gC L E cc own nL R) {x y : Int64} (hdg : decode cc pc = .ok (.lor, 1))  (kk : GW L E N ad G cs ss (pc + 1) lo (.long (x ||| y) :: st)) : GW L E N ad G cs ss pc lo (.long y :: .long x :: st) :=
  fun hD H locs ls hl hP hS => lv_lor C.1 C.2.1 hdg (kk hD H locs ls hl hP hS)
theorem G_lxor (C : gC L E cc own nL R) {x y : Int64} (hdg : decode cc pc = .ok (.lxor, 1))  (kk : GW L E N ad G cs ss (pc + 1) lo (.long (x ^^^ y) :: st)) : GW L E N ad G cs ss pc lo (.long y :: .long x :: st) :=
  fun hD H locs ls hl hP hS => lv_lxor C.1 C.2.1 hdg (kk hD H locs ls hl hP hS)
theorem G_ldiv (C : gC L E cc own nL R) {x y : Int64} (hdg : decode cc pc = .ok (.ldiv, 1)) (hne : ¬ y = 0) (kk : GW L E N ad G cs ss (pc + 1) lo (.long (x / y) :: st)) : GW L E N ad G cs ss pc lo (.long y :: .long x :: st) :=
  fun hD H locs ls hl hP hS => lv_ldiv C.1 C.2.1 hdg hne (kk hD H locs ls hl hP hS)
theorem G_lrem (C : gC L E cc own nL R) {x y : Int64} (hdg : decode cc pc = .ok (.lrem, 1)) (hne : ¬ y = 0) (kk : GW L E N ad G cs ss (pc + 1) lo (.long (x - x / y * y) :: st)) : GW L E N ad G cs ss pc lo (.long y :: .long x :: st) :=
  fun hD H locs ls hl hP hS => lv_lrem C.1 C.2.1 hdg hne (kk hD H locs ls hl hP hS)
theorem G_lshl (C : gC L E cc own nL R) {x v : Int64} {y : Int32} (hdg : decode cc pc = .ok (.lshl, 1)) (hv : x <<< (y.toInt64 &&& 63) = v) (kk : GW L E N ad G cs ss (pc + 1) lo (.long v :: st)) : GW L E N ad G cs ss pc lo (.int y :: .long x :: st) :=
  fun hD H locs ls hl hP hS => lv_lshl C.1 C.2.1 hdg hv (kk hD H locs ls hl hP hS)
theorem G_i2l (C : gC L E cc own nL R) {x : Int32} {v : Int64} (hdg : decode cc pc = .ok (.i2l, 1)) (hv : x.toInt64 = v) (kk : GW L E N ad G cs ss (pc + 1) lo (.long v :: st)) : GW L E N ad G cs ss pc lo (.int x :: st) :=
  fun hD H locs ls hl hP hS => lv_i2l C.1 C.2.1 hdg hv (kk hD H locs ls hl hP hS)
theorem G_l2i (C : gC L E cc own nL R) {x : Int64} {v : Int32} (hdg : decode cc pc = .ok (.l2i, 1)) (hv : x.toInt32 = v) (kk : GW L E N ad G cs ss (pc + 1) lo (.int v :: st)) : GW L E N ad G cs ss pc lo (.long x :: st) :=
  fun hD H locs ls hl hP hS => lv_l2i C.1 C.2.1 hdg hv (kk hD H locs ls hl hP hS)
theorem G_i2c (C : gC L E cc own nL R) {x v : Int32} (hdg : decode cc pc = .ok (.i2c, 1)) (hv : (x.toUInt32 % 65536).toInt32 = v) (kk : GW L E N ad G cs ss (pc + 1) lo (.int v :: st)) : GW L E N ad G cs ss pc lo (.int x :: st) :=
  fun hD H locs ls hl hP hS => lv_i2c C.1 C.2.1 hdg hv (kk hD H locs ls hl hP hS)
theorem G_l2f (C : gC L E cc own nL R) {x : Int64} (hdg : decode cc pc = .ok (.l2f, 1))  (kk : GW L E N ad G cs ss (pc + 1) lo (.float (FP.l2f x) :: st)) : GW L E N ad G cs ss pc lo (.long x :: st) :=
  fun hD H locs ls hl hP hS => lv_l2f C.1 C.2.1 hdg (kk hD H locs ls hl hP hS)
theorem G_f2d (C : gC L E cc own nL R) {x : UInt32} (hdg : decode cc pc = .ok (.f2d, 1)) (hne : vf_n64 (FP.f2d x)) (kk : GW L E N ad G cs ss (pc + 1) lo (.double (FP.f2d x) :: st)) : GW L E N ad G cs ss pc lo (.float x :: st) :=
  fun hD H locs ls hl hP hS => lv_f2d C.1 C.2.1 hdg hne (kk hD H locs ls hl hP hS)
theorem G_fdiv (C : gC L E cc own nL R) {x y : UInt32} (hdg : decode cc pc = .ok (.fdiv, 1)) (hne : vf_n32 (FP.fdiv x y)) (kk : GW L E N ad G cs ss (pc + 1) lo (.float (FP.fdiv x y) :: st)) : GW L E N ad G cs ss pc lo (.float y :: .float x :: st) :=
  fun hD H locs ls hl hP hS => lv_fdiv C.1 C.2.1 hdg hne (kk hD H locs ls hl hP hS)
theorem G_dcmp (C : gC L E cc own nL R) {x y : UInt64} {op : CmpOp} (hdg : decode cc pc = .ok (.dcmp op, 1))  (kk : GW L E N ad G cs ss (pc + 1) lo (.int (Op.cmpValue (FP.dcmp x y) op) :: st)) : GW L E N ad G cs ss pc lo (.double y :: .double x :: st) :=
  fun hD H locs ls hl hP hS => lv_dcmp C.1 C.2.1 hdg (kk hD H locs ls hl hP hS)
theorem G_lcmp (C : gC L E cc own nL R) {x y : Int64} (hdg : decode cc pc = .ok (.lcmp, 1))  (kk : GW L E N ad G cs ss (pc + 1) lo (.int (lg_cmp x y) :: st)) : GW L E N ad G cs ss pc lo (.long y :: .long x :: st) :=
  fun hD H locs ls hl hP hS => W.lcmp C.1 C.2.1 hdg (kk hD H locs ls hl hP hS)
theorem G_dup (C : gC L E cc own nL R) {va : Value} (hdg : decode cc pc = .ok (.dup, 1)) (hva : va.category = 1) (kk : GW L E N ad G cs ss (pc + 1) lo (va :: va :: st)) : GW L E N ad G cs ss pc lo (va :: st) :=
  fun hD H locs ls hl hP hS => lv_dup C.1 C.2.1 hdg hva (kk hD H locs ls hl hP hS)
theorem G_dup2 (C : gC L E cc own nL R) {va vb : Value} (hdg : decode cc pc = .ok (.dup2, 1)) (hva : va.category = 1) (hvb : vb.category = 1) (kk : GW L E N ad G cs ss (pc + 1) lo (va :: vb :: va :: vb :: st)) : GW L E N ad G cs ss pc lo (va :: vb :: st) :=
  fun hD H locs ls hl hP hS => lv_dup2_11 C.1 C.2.1 hdg hva hvb (kk hD H locs ls hl hP hS)
theorem G_pop (C : gC L E cc own nL R) {va : Value} (hdg : decode cc pc = .ok (.pop, 1)) (hva : va.category = 1) (kk : GW L E N ad G cs ss (pc + 1) lo st) : GW L E N ad G cs ss pc lo (va :: st) :=
  fun hD H locs ls hl hP hS => lv_pop C.1 C.2.1 hdg hva (kk hD H locs ls hl hP hS)
theorem G_goto (C : gC L E cc own nL R) {off : Int} (tgt : Nat) (hdg : decode cc pc = .ok (.goto off, 3)) (ht : (pc : Int) + off = (tgt : Int)) (kk : GW L E N ad G cs ss tgt lo st) : GW L E N ad G cs ss pc lo st :=
  fun hD H locs ls hl hP hS => lv_goto C.1 C.2.1 hdg ht (kk hD H locs ls hl hP hS)
theorem G_null (C : gC L E cc own nL R)  (hdg : decode cc pc = .ok (.aconst_null, 1))  (kk : GW L E N ad G cs ss (pc + 1) lo (.null :: st)) : GW L E N ad G cs ss pc lo st :=
  fun hD H locs ls hl hP hS => lv_null C.1 C.2.1 hdg (kk hD H locs ls hl hP hS)
theorem G_nonnull (C : gC L E cc own nL R) {x : Nat} {off : Int} (tgt : Nat) (hdg : decode cc pc = .ok (.ifnonnull off, 3)) (ht : (pc : Int) + off = (tgt : Int)) (kk : GW L E N ad G cs ss tgt lo st) : GW L E N ad G cs ss pc lo (.ref x :: st) :=
  fun hD H locs ls hl hP hS => lv_ifnonnull C.1 C.2.1 hdg ht (kk hD H locs ls hl hP hS)
theorem G_nonnullN (C : gC L E cc own nL R) {off : Int} (hdg : decode cc pc = .ok (.ifnonnull off, 3))  (kk : GW L E N ad G cs ss (pc + 3) lo st) : GW L E N ad G cs ss pc lo (.null :: st) :=
  fun hD H locs ls hl hP hS => lv_ifnonnullN C.1 C.2.1 hdg (kk hD H locs ls hl hP hS)
theorem G_ldc (C : gC L E cc own nL R) {index : Nat} {v : Int32} (hdg : decode cc pc = .ok (.ldc index, 2)) (hw : Cond.constant own index v ∈ AW) (kk : GW L E N ad G cs ss (pc + 2) lo (.int v :: st)) : GW L E N ad G cs ss pc lo st :=
  fun hD H locs ls hl hP hS => lv_ldc C.1 C.2.1 C.2.2.2.2.2.1 (C.2.2.2.2.2.2.1 _ hw) hdg (kk hD H locs ls hl hP hS)
theorem G_ldcw (C : gC L E cc own nL R) {index : Nat} {v : Int32} (hdg : decode cc pc = .ok (.ldc_w index, 3)) (hw : Cond.constant own index v ∈ AW) (kk : GW L E N ad G cs ss (pc + 3) lo (.int v :: st)) : GW L E N ad G cs ss pc lo st :=
  fun hD H locs ls hl hP hS => lv_ldcw C.1 C.2.1 C.2.2.2.2.2.1 (C.2.2.2.2.2.2.1 _ hw) hdg (kk hD H locs ls hl hP hS)
theorem G_ldc2 (C : gC L E cc own nL R) {index : Nat} {v : Int64} (hdg : decode cc pc = .ok (.ldc2_w index, 3)) (hw : Cond.constantLong own index v ∈ AW) (kk : GW L E N ad G cs ss (pc + 3) lo (.long v :: st)) : GW L E N ad G cs ss pc lo st :=
  fun hD H locs ls hl hP hS => lv_ldc2 C.1 C.2.1 C.2.2.2.2.2.1 (C.2.2.2.2.2.2.1 _ hw) hdg (kk hD H locs ls hl hP hS)
theorem G_if_eq (C : gC L E cc own nL R) {x : Int32} {off : Int} (tgt : Nat) (hdg : decode cc pc = .ok (.ifCond .eq off, 3)) (ht : (pc : Int) + off = (tgt : Int)) (kt : x = 0 → GW L E N ad G cs ss tgt lo st) (kf : ¬ x = 0 → GW L E N ad G cs ss (pc + 3) lo st) : GW L E N ad G cs ss pc lo (.int x :: st) :=
  fun hD H locs ls hl hP hS => lv_if_eq C.1 C.2.1 hdg ht (fun h => kt h hD H locs ls hl hP hS) (fun h => kf h hD H locs ls hl hP hS)
theorem G_icmp_eq (C : gC L E cc own nL R) {x y : Int32} {off : Int} (tgt : Nat) (hdg : decode cc pc = .ok (.if_icmp .eq off, 3)) (ht : (pc : Int) + off = (tgt : Int)) (kt : x = y → GW L E N ad G cs ss tgt lo st) (kf : ¬ x = y → GW L E N ad G cs ss (pc + 3) lo st) : GW L E N ad G cs ss pc lo (.int y :: .int x :: st) :=
  fun hD H locs ls hl hP hS => lv_icmp_eq C.1 C.2.1 hdg ht (fun h => kt h hD H locs ls hl hP hS) (fun h => kf h hD H locs ls hl hP hS)
theorem G_if_ne (C : gC L E cc own nL R) {x : Int32} {off : Int} (tgt : Nat) (hdg : decode cc pc = .ok (.ifCond .ne off, 3)) (ht : (pc : Int) + off = (tgt : Int)) (kt : ¬ x = 0 → GW L E N ad G cs ss tgt lo st) (kf : x = 0 → GW L E N ad G cs ss (pc + 3) lo st) : GW L E N ad G cs ss pc lo (.int x :: st) :=
  fun hD H locs ls hl hP hS => lv_if_ne C.1 C.2.1 hdg ht (fun h => kt h hD H locs ls hl hP hS) (fun h => kf h hD H locs ls hl hP hS)
theorem G_icmp_ne (C : gC L E cc own nL R) {x y : Int32} {off : Int} (tgt : Nat) (hdg : decode cc pc = .ok (.if_icmp .ne off, 3)) (ht : (pc : Int) + off = (tgt : Int)) (kt : ¬ x = y → GW L E N ad G cs ss tgt lo st) (kf : x = y → GW L E N ad G cs ss (pc + 3) lo st) : GW L E N ad G cs ss pc lo (.int y :: .int x :: st) :=
  fun hD H locs ls hl hP hS => lv_icmp_ne C.1 C.2.1 hdg ht (fun h => kt h hD H locs ls hl hP hS) (fun h => kf h hD H locs ls hl hP hS)
theorem G_if_lt (C : gC L E cc own nL R) {x : Int32} {off : Int} (tgt : Nat) (hdg : decode cc pc = .ok (.ifCond .lt off, 3)) (ht : (pc : Int) + off = (tgt : Int)) (kt : x < 0 → GW L E N ad G cs ss tgt lo st) (kf : ¬ x < 0 → GW L E N ad G cs ss (pc + 3) lo st) : GW L E N ad G cs ss pc lo (.int x :: st) :=
  fun hD H locs ls hl hP hS => lv_if_lt C.1 C.2.1 hdg ht (fun h => kt h hD H locs ls hl hP hS) (fun h => kf h hD H locs ls hl hP hS)
theorem G_icmp_lt (C : gC L E cc own nL R) {x y : Int32} {off : Int} (tgt : Nat) (hdg : decode cc pc = .ok (.if_icmp .lt off, 3)) (ht : (pc : Int) + off = (tgt : Int)) (kt : x < y → GW L E N ad G cs ss tgt lo st) (kf : ¬ x < y → GW L E N ad G cs ss (pc + 3) lo st) : GW L E N ad G cs ss pc lo (.int y :: .int x :: st) :=
  fun hD H locs ls hl hP hS => lv_icmp_lt C.1 C.2.1 hdg ht (fun h => kt h hD H locs ls hl hP hS) (fun h => kf h hD H locs ls hl hP hS)
theorem G_if_ge (C : gC L E cc own nL R) {x : Int32} {off : Int} (tgt : Nat) (hdg : decode cc pc = .ok (.ifCond .ge off, 3)) (ht : (pc : Int) + off = (tgt : Int)) (kt : 0 ≤ x → GW L E N ad G cs ss tgt lo st) (kf : ¬ 0 ≤ x → GW L E N ad G cs ss (pc + 3) lo st) : GW L E N ad G cs ss pc lo (.int x :: st) :=
  fun hD H locs ls hl hP hS => lv_if_ge C.1 C.2.1 hdg ht (fun h => kt h hD H locs ls hl hP hS) (fun h => kf h hD H locs ls hl hP hS)
theorem G_icmp_ge (C : gC L E cc own nL R) {x y : Int32} {off : Int} (tgt : Nat) (hdg : decode cc pc = .ok (.if_icmp .ge off, 3)) (ht : (pc : Int) + off = (tgt : Int)) (kt : y ≤ x → GW L E N ad G cs ss tgt lo st) (kf : ¬ y ≤ x → GW L E N ad G cs ss (pc + 3) lo st) : GW L E N ad G cs ss pc lo (.int y :: .int x :: st) :=
  fun hD H locs ls hl hP hS => lv_icmp_ge C.1 C.2.1 hdg ht (fun h => kt h hD H locs ls hl hP hS) (fun h => kf h hD H locs ls hl hP hS)
theorem G_if_gt (C : gC L E cc own nL R) {x : Int32} {off : Int} (tgt : Nat) (hdg : decode cc pc = .ok (.ifCond .gt off, 3)) (ht : (pc : Int) + off = (tgt : Int)) (kt : 0 < x → GW L E N ad G cs ss tgt lo st) (kf : ¬ 0 < x → GW L E N ad G cs ss (pc + 3) lo st) : GW L E N ad G cs ss pc lo (.int x :: st) :=
  fun hD H locs ls hl hP hS => lv_if_gt C.1 C.2.1 hdg ht (fun h => kt h hD H locs ls hl hP hS) (fun h => kf h hD H locs ls hl hP hS)
theorem G_icmp_gt (C : gC L E cc own nL R) {x y : Int32} {off : Int} (tgt : Nat) (hdg : decode cc pc = .ok (.if_icmp .gt off, 3)) (ht : (pc : Int) + off = (tgt : Int)) (kt : y < x → GW L E N ad G cs ss tgt lo st) (kf : ¬ y < x → GW L E N ad G cs ss (pc + 3) lo st) : GW L E N ad G cs ss pc lo (.int y :: .int x :: st) :=
  fun hD H locs ls hl hP hS => lv_icmp_gt C.1 C.2.1 hdg ht (fun h => kt h hD H locs ls hl hP hS) (fun h => kf h hD H locs ls hl hP hS)
theorem G_if_le (C : gC L E cc own nL R) {x : Int32} {off : Int} (tgt : Nat) (hdg : decode cc pc = .ok (.ifCond .le off, 3)) (ht : (pc : Int) + off = (tgt : Int)) (kt : x ≤ 0 → GW L E N ad G cs ss tgt lo st) (kf : ¬ x ≤ 0 → GW L E N ad G cs ss (pc + 3) lo st) : GW L E N ad G cs ss pc lo (.int x :: st) :=
  fun hD H locs ls hl hP hS => lv_if_le C.1 C.2.1 hdg ht (fun h => kt h hD H locs ls hl hP hS) (fun h => kf h hD H locs ls hl hP hS)
theorem G_icmp_le (C : gC L E cc own nL R) {x y : Int32} {off : Int} (tgt : Nat) (hdg : decode cc pc = .ok (.if_icmp .le off, 3)) (ht : (pc : Int) + off = (tgt : Int)) (kt : x ≤ y → GW L E N ad G cs ss tgt lo st) (kf : ¬ x ≤ y → GW L E N ad G cs ss (pc + 3) lo st) : GW L E N ad G cs ss pc lo (.int y :: .int x :: st) :=
  fun hD H locs ls hl hP hS => lv_icmp_le C.1 C.2.1 hdg ht (fun h => kt h hD H locs ls hl hP hS) (fun h => kf h hD H locs ls hl hP hS)
theorem G_lookup (C : gC L E cc own nL R) {dflt : Int} {ps : Array (Int × Int)} {len : Nat} {x : Int32} {off : Int} (tgt : Nat) (hdg : decode cc pc = .ok (.lookupswitch dflt ps, len)) (hp : (ps.toList.zip (ps.toList.drop 1)).all (fun (a, next) => a.1 < next.1) = true) (ho : Op.lookupswitch.offset ps.toList dflt x.toInt = off) (ht : (pc : Int) + off = (tgt : Int)) (kk : GW L E N ad G cs ss tgt lo st) : GW L E N ad G cs ss pc lo (.int x :: st) :=
  fun hD H locs ls hl hP hS => lv_lookup C.1 C.2.1 hdg hp ho ht (kk hD H locs ls hl hP hS)
theorem G_tableIn (C : gC L E cc own nL R) {dflt lo0 hi : Int} {offs : Array Int} {len : Nat} {x : Int32} {off : Int} (tgt : Nat) (hdg : decode cc pc = .ok (.tableswitch dflt lo0 hi offs, len)) (h1 : ¬ x.toInt < lo0) (h2 : ¬ hi < x.toInt) (ho : offs[(x.toInt - lo0).toNat]? = some off) (ht : (pc : Int) + off = (tgt : Int)) (kk : GW L E N ad G cs ss tgt lo st) : GW L E N ad G cs ss pc lo (.int x :: st) :=
  fun hD H locs ls hl hP hS => lv_tableIn C.1 C.2.1 hdg h1 h2 ho ht (kk hD H locs ls hl hP hS)
theorem G_tableOut (C : gC L E cc own nL R) {dflt lo0 hi : Int} {offs : Array Int} {len : Nat} {x : Int32} (tgt : Nat) (hdg : decode cc pc = .ok (.tableswitch dflt lo0 hi offs, len)) (h : x.toInt < lo0 ∨ hi < x.toInt) (ht : (pc : Int) + dflt = (tgt : Int)) (kk : GW L E N ad G cs ss tgt lo st) : GW L E N ad G cs ss pc lo (.int x :: st) :=
  fun hD H locs ls hl hP hS => lv_tableOut C.1 C.2.1 hdg h ht (kk hD H locs ls hl hP hS)
theorem G_fcmp (C : gC L E cc own nL R) {x y : UInt32} {op : CmpOp} (hdg : decode cc pc = .ok (.fcmp op, 1))  (kk : GW L E N ad G cs ss (pc + 1) lo (.int (Op.cmpValue (FP.fcmp x y) op) :: st)) : GW L E N ad G cs ss pc lo (.float y :: .float x :: st) :=
  fun hD H locs ls hl hP hS => lv_fcmp C.1 C.2.1 hdg (kk hD H locs ls hl hP hS)
theorem G_get (C : gC L E cc own nL R) (k : Nat) (hk : k < N) {ci Nf index : Nat} {C' : String} {T : u_T} {fs : List Value} {v : Value} (hG : G k = .inr (ci, fs)) (hc : vwCl[ci]? = some (C', T, Nf)) (hin : ∀ w ∈ u_ws C' T Nf, w ∈ AW) (j : Nat) (hj : j < Nf) (hT : (T j).1 = C') (hw : Cond.fieldLink own index C' (T j).2.1 (T j).2.2.1 ∈ AW) (hv : fs[j]? = some v) (hdg : decode cc pc = .ok (.getfield index, 3)) (kk : GW L E N ad G cs ss (pc + 3) lo (v :: st)) : GW L E N ad G cs ss pc lo (.ref (ad k) :: st) :=
  fun hD H locs ls hl hP hS => va_get C.1 C.2.1 C.2.2.2.2.2.2.1 hin C.2.2.2.2.2.1 C.2.2.2.2.2.2.2.1.1 hP k (gw_get' hk hG) hc j hj (C.2.2.2.2.2.2.1 _ hw) (fun _ h => hT ▸ h) hv hdg (kk hD H locs ls hl hP hS)
theorem G_put (C : gC L E cc own nL R) (k : Nat) (hk : k < N) {ci Nf index : Nat} {C' : String} {T : u_T} {ty0 : Nat → FieldType} {fs fs' : List Value} {v : Value} (hG : G k = .inr (ci, fs)) (hc : vwCl[ci]? = some (C', T, Nf)) (hin : ∀ w ∈ u_ws C' T Nf, w ∈ AW) (hty : ∀ k, k < Nf → parseFieldDescriptor (T k).2.2.1 = some (ty0 k)) (hnm : ∀ a, a < Nf → ∀ b, b < Nf → a ≠ b → (T a).2.1 ≠ (T b).2.1) (j : Nat) (hj : j < Nf) (hT : (T j).1 = C') (hw : Cond.fieldLink own index C' (T j).2.1 (T j).2.2.1 ∈ AW) (hfin : (T j).2.2.2 = false) (hn : narrow (ty0 j) v = v) (hfit : fits (ty0 j) v = true) (hl0 : j < fs.length) (hfs : fs.set j v = fs') (hdg : decode cc pc = .ok (.putfield index, 3)) (kk : GW L E N ad (va_up G k (.inr (ci, fs'))) cs ss (pc + 3) lo st) : GW L E N ad G cs ss pc lo (v :: .ref (ad k) :: st) :=
  fun hD H locs ls hl hP hS => va_put C.1 C.2.1 C.2.2.2.2.2.2.1 hin ty0 hty hnm C.2.2.2.2.2.1 C.2.2.2.2.2.2.2.1.1 hP (hD.va G) hS k (gw_get' hk hG) hc j hj (C.2.2.2.2.2.2.1 _ hw) (fun _ h => hT ▸ h) hfin (hty j hj) hn hfit hl0 hdg (fun H1 locs1 hP1 _ hS1 => kk hD H1 locs1 ls hl (by rw [hfs, gw_set hk] at hP1; exact hP1) hS1)
theorem G_putF (C : gC L E cc own nL R) (hin2 : E.meth.name = "<init>") (k : Nat) (hk : k < N) {ci Nf index : Nat} {C' : String} {T : u_T} {ty0 : Nat → FieldType} {fs fs' : List Value} {v : Value} (hG : G k = .inr (ci, fs)) (hc : vwCl[ci]? = some (C', T, Nf)) (hin : ∀ w ∈ u_ws C' T Nf, w ∈ AW) (hty : ∀ k, k < Nf → parseFieldDescriptor (T k).2.2.1 = some (ty0 k)) (hnm : ∀ a, a < Nf → ∀ b, b < Nf → a ≠ b → (T a).2.1 ≠ (T b).2.1) (j : Nat) (hj : j < Nf) (hT : (T j).1 = C') (hT2 : (T j).1 = own) (hw : Cond.fieldLink own index C' (T j).2.1 (T j).2.2.1 ∈ AW) (hfin : (T j).2.2.2 = true) (hn : narrow (ty0 j) v = v) (hfit : fits (ty0 j) v = true) (hl0 : j < fs.length) (hfs : fs.set j v = fs') (hdg : decode cc pc = .ok (.putfield index, 3)) (kk : GW L E N ad (va_up G k (.inr (ci, fs'))) cs ss (pc + 3) lo st) : GW L E N ad G cs ss pc lo (v :: .ref (ad k) :: st) :=
  fun hD H locs ls hl hP hS => va_putF C.1 C.2.1 C.2.2.2.2.2.2.1 hin ty0 hty hnm C.2.2.2.2.2.1 C.2.2.2.2.2.2.2.1.1 hP (hD.va G) hS k (gw_get' hk hG) hc j hj (C.2.2.2.2.2.2.1 _ hw) (fun _ h => hT ▸ h) hfin hin2 hT2 (hty j hj) hn hfit hl0 hdg (fun H1 locs1 hP1 _ hS1 => kk hD H1 locs1 ls hl (by rw [hfs, gw_set hk] at hP1; exact hP1) hS1)
theorem G_alen (C : gC L E cc own nL R) (k : Nat) (hk : k < N) {x : vp_A} {ty : FieldType} (t0 : Nat) (hG : G k = .inl (L.ac t0, x)) (ht : (gTy L)[t0]? = some (L.ac t0, ty)) {v : Int32} (hv : Int32.ofNat x.1 = v) (hdg : decode cc pc = .ok (.arraylength, 1)) (kk : GW L E N ad G cs ss (pc + 1) lo (.int v :: st)) : GW L E N ad G cs ss pc lo (.ref (ad k) :: st) :=
  fun hD H locs ls hl hP hS => va_alen C.1 C.2.1 C.2.2.2.2.2.2.2.1.1 hP k t0 (gw_get' hk hG) ht hv hdg (kk hD H locs ls hl hP hS)
theorem G_iald (C : gC L E cc own nL R) (k : Nat) (hk : k < N) {n : Nat} {f : Nat → Int32} {i : Int32} (hG : G k = .inl (L.ac 0, n, .inl f)) (hin : vp_in i n) (hdg : decode cc pc = .ok (.iaload, 1)) (kk : GW L E N ad G cs ss (pc + 1) lo (.int (f i.toNatClampNeg) :: st)) : GW L E N ad G cs ss pc lo (.int i :: .ref (ad k) :: st) :=
  fun hD H locs ls hl hP hS => va_iald C.1 C.2.1 C.2.2.2.2.2.2.2.1.1 hP k 0 (gw_get' hk hG) rfl hin hdg (kk hD H locs ls hl hP hS)
theorem G_cald (C : gC L E cc own nL R) (k : Nat) (hk : k < N) {n : Nat} {f : Nat → Int32} {i : Int32} (hG : G k = .inl (L.ac 2, n, .inl f)) (hin : vp_in i n) (hdg : decode cc pc = .ok (.caload, 1)) (kk : GW L E N ad G cs ss (pc + 1) lo (.int (f i.toNatClampNeg) :: st)) : GW L E N ad G cs ss pc lo (.int i :: .ref (ad k) :: st) :=
  fun hD H locs ls hl hP hS => va_cald C.1 C.2.1 C.2.2.2.2.2.2.2.1.1 hP k 2 (gw_get' hk hG) rfl hin hdg (kk hD H locs ls hl hP hS)
theorem G_lald (C : gC L E cc own nL R) (k : Nat) (hk : k < N) {n : Nat} {f : Nat → Int64} {i : Int32} (hG : G k = .inl (L.ac 1, n, .inr (.inl f))) (hin : vp_in i n) (hdg : decode cc pc = .ok (.laload, 1)) (kk : GW L E N ad G cs ss (pc + 1) lo (.long (f i.toNatClampNeg) :: st)) : GW L E N ad G cs ss pc lo (.int i :: .ref (ad k) :: st) :=
  fun hD H locs ls hl hP hS => va_lald C.1 C.2.1 C.2.2.2.2.2.2.2.1.1 hP k 1 (gw_get' hk hG) rfl hin hdg (kk hD H locs ls hl hP hS)
theorem G_dald (C : gC L E cc own nL R) (k : Nat) (hk : k < N) {n : Nat} {f : Nat → UInt64} {i : Int32} (hG : G k = .inl (L.ac 3, n, .inr (.inr (.inr (.inl f))))) (hin : vp_in i n) (hdg : decode cc pc = .ok (.daload, 1)) (kk : GW L E N ad G cs ss (pc + 1) lo (.double (f i.toNatClampNeg) :: st)) : GW L E N ad G cs ss pc lo (.int i :: .ref (ad k) :: st) :=
  fun hD H locs ls hl hP hS => va_dald C.1 C.2.1 C.2.2.2.2.2.2.2.1.1 hP k 3 (gw_get' hk hG) rfl hin hdg (kk hD H locs ls hl hP hS)
theorem G_iast (C : gC L E cc own nL R) (k : Nat) (hk : k < N) {n : Nat} {f : Nat → Int32} {i : Int32} {x : Int32} (hG : G k = .inl (L.ac 0, n, .inl f)) (hin : vp_in i n) (hdg : decode cc pc = .ok (.iastore, 1)) (kk : GW L E N ad (va_up G k (.inl (L.ac 0, n, .inl (upd f i.toNatClampNeg x)))) cs ss (pc + 1) lo st) : GW L E N ad G cs ss pc lo (.int x :: .int i :: .ref (ad k) :: st) :=
  fun hD H locs ls hl hP hS => va_iast C.1 C.2.1 C.2.2.2.2.2.2.2.1.1 hP (hD.va G) hS k 0 (gw_get' hk hG) rfl hin hdg (fun H1 locs1 hP1 _ hS1 => kk hD H1 locs1 ls hl (by rw [gw_set hk] at hP1; exact hP1) hS1)
theorem G_cast (C : gC L E cc own nL R) (k : Nat) (hk : k < N) {n : Nat} {f : Nat → Int32} {i : Int32} {x : Int32} (hG : G k = .inl (L.ac 2, n, .inl f)) (hin : vp_in i n) (hdg : decode cc pc = .ok (.castore, 1)) (kk : GW L E N ad (va_up G k (.inl (L.ac 2, n, .inl (upd f i.toNatClampNeg (vp_nar .char x))))) cs ss (pc + 1) lo st) : GW L E N ad G cs ss pc lo (.int x :: .int i :: .ref (ad k) :: st) :=
  fun hD H locs ls hl hP hS => va_cast C.1 C.2.1 C.2.2.2.2.2.2.2.1.1 hP (hD.va G) hS k 2 (gw_get' hk hG) rfl hin hdg (fun H1 locs1 hP1 _ hS1 => kk hD H1 locs1 ls hl (by rw [gw_set hk] at hP1; exact hP1) hS1)
theorem G_last (C : gC L E cc own nL R) (k : Nat) (hk : k < N) {n : Nat} {f : Nat → Int64} {i : Int32} {x : Int64} (hG : G k = .inl (L.ac 1, n, .inr (.inl f))) (hin : vp_in i n) (hdg : decode cc pc = .ok (.lastore, 1)) (kk : GW L E N ad (va_up G k (.inl (L.ac 1, n, .inr (.inl (vp_updL f i.toNatClampNeg x))))) cs ss (pc + 1) lo st) : GW L E N ad G cs ss pc lo (.long x :: .int i :: .ref (ad k) :: st) :=
  fun hD H locs ls hl hP hS => va_last C.1 C.2.1 C.2.2.2.2.2.2.2.1.1 hP (hD.va G) hS k 1 (gw_get' hk hG) rfl hin hdg (fun H1 locs1 hP1 _ hS1 => kk hD H1 locs1 ls hl (by rw [gw_set hk] at hP1; exact hP1) hS1)
theorem G_dast (C : gC L E cc own nL R) (k : Nat) (hk : k < N) {n : Nat} {f : Nat → UInt64} {i : Int32} {x : UInt64} (hG : G k = .inl (L.ac 3, n, .inr (.inr (.inr (.inl f))))) (hin : vp_in i n) (hdg : decode cc pc = .ok (.dastore, 1)) (kk : GW L E N ad (va_up G k (.inl (L.ac 3, n, .inr (.inr (.inr (.inl (vf_upd f i.toNatClampNeg x))))))) cs ss (pc + 1) lo st) : GW L E N ad G cs ss pc lo (.double x :: .int i :: .ref (ad k) :: st) :=
  fun hD H locs ls hl hP hS => va_dast C.1 C.2.1 C.2.2.2.2.2.2.2.1.1 hP (hD.va G) hS k 3 (gw_get' hk hG) rfl hin hdg (fun H1 locs1 hP1 _ hS1 => kk hD H1 locs1 ls hl (by rw [gw_set hk] at hP1; exact hP1) hS1)
theorem G_aldq (C : gC L E cc own nL R) (k : Nat) (hk : k < N) {n m : Nat} {f : Nat → Option Nat} {i : Int32} (t0 : Nat) {Cn : String} (ht : (gTy L)[t0]? = some (L.ac t0, .object Cn)) (hG : G k = .inl (L.ac t0, n, .inr (.inr (.inr (.inr f))))) (hin : vp_in i n) (hf : f i.toNatClampNeg = some m) (hdg : decode cc pc = .ok (.aaload, 1)) (kk : GW L E N ad G cs ss (pc + 1) lo (.ref m :: st)) : GW L E N ad G cs ss pc lo (.int i :: .ref (ad k) :: st) :=
  fun hD H locs ls hl hP hS => va_aldq C.1 C.2.1 C.2.2.2.2.2.2.2.1.1 hP k t0 (gw_get' hk hG) ht hin hdg (by rw [hf]; exact kk hD H locs ls hl hP hS)
theorem G_astq (C : gC L E cc own nL R) (k : Nat) (hk : k < N) {n : Nat} {f : Nat → Option Nat} {i : Int32} (t0 : Nat) {r : vw_C} (ht : (gTy L)[t0]? = some (L.ac t0, .object r.1)) (hG : G k = .inl (L.ac t0, n, .inr (.inr (.inr (.inr f))))) (j : Nat) (hj : j < N) {ci : Nat} {vs : List Value} (hv : G j = .inr (ci, vs)) (hc : vwCl[ci]? = some r) (hin : vp_in i n) (hdg : decode cc pc = .ok (.aastore, 1)) (kk : GW L E N ad (va_up G k (.inl (L.ac t0, n, .inr (.inr (.inr (.inr (va_up f i.toNatClampNeg (some (ad j))))))))) cs ss (pc + 1) lo st) : GW L E N ad G cs ss pc lo (.ref (ad j) :: .int i :: .ref (ad k) :: st) :=
  fun hD H locs ls hl hP hS => va_astq C.1 C.2.1 C.2.2.2.2.2.2.2.1.1 hP (hD.va G) hS k t0 j ci (gw_get' hk hG) ht (gw_get' hj hv) hc hin hdg (fun H1 locs1 hP1 _ hS1 => kk hD H1 locs1 ls hl (by rw [gw_set hk] at hP1; exact hP1) hS1)
theorem G_copyi (C : gC L E cc own nL R) {index : Nat} (hw1 : Cond.methodLink own index arraycopyName ∈ AW) (hw2 : Cond.native arraycopyName ∈ AW) (hw3 : Cond.static arraycopyName ∈ AW) (hw4 : Cond.initialized "java/lang/System" ∈ AW) (k0 k1 : Nat) (hk0 : k0 < N) (hk : k1 < N) {n0 n1 : Nat} {f g : Nat → Int32} (hG0 : G k0 = .inl (L.ac 0, n0, .inl f)) (hG1 : G k1 = .inl (L.ac 0, n1, .inl g)) {sp dp n : Int32} (h1 : ¬ sp < 0) (h2 : ¬ dp < 0) (h3 : ¬ n < 0) (h4 : sp.toNatClampNeg + n.toNatClampNeg ≤ n0) (h5 : dp.toNatClampNeg + n.toNatClampNeg ≤ n1) (hfr : 1 ≤ R.frames) (hlo : (st.map fun v => v.category).sum + (nativeFrameWords "java/lang/System" "arraycopy" 5 + 11) ≤ R.locals) (hdg : decode cc pc = .ok (.invokestatic index, 3)) (kk : GW L E N ad (va_up G k1 (.inl (L.ac 0, n1, .inl (va_cpy f g sp.toNatClampNeg dp.toNatClampNeg n.toNatClampNeg)))) cs ss (pc + 3) lo st) : GW L E N ad G cs ss pc lo (.int n :: .int dp :: .ref (ad k1) :: .int sp :: .ref (ad k0) :: st) :=
  fun hD H locs ls hl hP hS => va_copyi (ty := .int) C.1 C.2.1 (by rw [hl.1]; exact C.2.2.1) C.2.2.2.2.2.1 (C.2.2.2.2.2.2.1 _ hw1) (C.2.2.2.2.2.2.1 _ hw2) (C.2.2.2.2.2.2.1 _ hw3) (C.2.2.2.2.2.2.1 _ hw4) C.2.2.2.2.2.2.2.1.1 hP (hD.va G) hS k0 k1 0 0 (gw_get' hk0 hG0) (gw_get' hk hG1) rfl rfl rfl h1 h2 h3 h4 h5 (fun _ _ => rfl) (by rw [C.2.2.2.2.1]; exact hfr) (by rw [C.2.2.2.2.1]; exact hlo) hdg (fun H1 locs1 hP1 _ hS1 => kk hD H1 locs1 ls hl (by rw [gw_set hk] at hP1; exact hP1) hS1)
theorem ac_uniq {L : GL} {U : State} {t0 : Nat} {cA : ClassId} {ty : FieldType} {tys : List (ClassId × FieldType)} (hK : va_K L.D vwCl (gTy L) U) (hK2 : va_K L.D vwCl (tys ++ [(cA, ty)]) U) (ht : (gTy L)[t0]? = some (L.ac t0, ty)) : cA = L.ac t0 := by
  have h1 := (hK.2 t0 _ ht).2
  have h2 := (hK2.2 tys.length (cA, ty) (by rw [List.getElem?_append_right (Nat.le_refl _), Nat.sub_self]; rfl)).2
  cases ty with
  | object Cn =>
    obtain ⟨k1, c1, -, -, -, a1⟩ := h1
    obtain ⟨k2, c2, -, -, -, a2⟩ := h2
    exact Option.some.inj (a2.symm.trans a1)
  | _ => exact Option.some.inj (Eq.trans (Eq.symm h2) h1)
theorem G_newa (C : gC L E cc own nL R) (t0 : Nat) {atype : ArrayType} {ty : FieldType} (hw : Cond.arrayClass (newarray.typeOf atype) ∈ AW) (hty : newarray.typeOf atype = ty) (ht : (gTy L)[t0]? = some (L.ac t0, ty)) {n : Int32} {N' : Nat} {a0 : vp_A} (ha : ∀ cA : ClassId, vp_cell cA a0 = arrV cA N' (fun _ => defaultValue ty)) (hn : ¬ n < 0) (hN : n.toNatClampNeg = N') (hby : N' * componentBytes ty ≤ 536870912) (hc1 : cs + 1 ≤ R.cells) (hs1 : ss + N' ≤ R.slots) (hdg : decode cc pc = .ok (.newarray atype, 2)) (kk : ∀ q : Nat, GW L E (N + 1) (va_up ad N q) (va_up G N (.inl (L.ac t0, a0))) (cs + 1) (ss + N') (pc + 2) lo (.ref q :: st)) : GW L E N ad G cs ss pc lo (.int n :: st) :=
  fun hD H locs ls hl hP hS => va_newa C.1 C.2.1 (C.2.2.2.2.2.2.1 _ hw) hty C.2.2.2.2.2.2.2.1.1 hP (hD.va G) hS (fun q h => Nat.le_trans C.2.2.2.2.2.2.2.1.2.2.2.2.2.2.1 h) ha hn hN hby (by rw [C.2.2.2.2.1]; exact hc1) (by rw [C.2.2.2.2.1]; exact hs1) hdg (fun q cA H1 hK1 hP1 hD1 hS1 => by
    have e := ac_uniq C.2.2.2.2.2.2.2.1.1 hK1 ht
    subst e
    rw [gw_push] at hP1 hD1
    exact kk q (gD.of hD1) H1 locs ls hl hP1 hS1)
theorem G_newq (C : gC L E cc own nL R) (t0 : Nat) {Cn : String} {index : Nat} (hw : Cond.classLink own index Cn ∈ AW) (hao : va_AO Cn E.s) (ht : (gTy L)[t0]? = some (L.ac t0, .object Cn)) {n : Int32} {N' : Nat} (hn : ¬ n < 0) (hN : n.toNatClampNeg = N') (hby : N' * 4 ≤ 536870912) (hc1 : cs + 1 ≤ R.cells) (hs1 : ss + N' ≤ R.slots) (hdg : decode cc pc = .ok (.anewarray index, 3)) (kk : ∀ q : Nat, GW L E (N + 1) (va_up ad N q) (va_up G N (.inl (L.ac t0, N', .inr (.inr (.inr (.inr (fun _ => none))))))) (cs + 1) (ss + N') (pc + 3) lo (.ref q :: st)) : GW L E N ad G cs ss pc lo (.int n :: st) :=
  fun hD H locs ls hl hP hS => va_newq C.1 C.2.1 C.2.2.2.2.2.1 (C.2.2.2.2.2.2.1 _ hw) hao C.2.2.2.2.2.2.2.1.1 hP (hD.va G) hS (fun q h => Nat.le_trans C.2.2.2.2.2.2.2.1.2.2.2.2.2.2.1 h) hn hN hby (by rw [C.2.2.2.2.1]; exact hc1) (by rw [C.2.2.2.2.1]; exact hs1) hdg (fun q cA H1 hK1 hP1 hD1 hS1 => by
    have e := ac_uniq C.2.2.2.2.2.2.2.1.1 hK1 ht
    subst e
    rw [gw_push] at hP1 hD1
    exact kk q (gD.of hD1) H1 locs ls hl hP1 hS1)
theorem G_new (C : gC L E cc own nL R) {ci Nf index : Nat} {C' : String} {T : u_T} {ty0 : Nat → FieldType} {fs : List Value} (hc : vwCl[ci]? = some (C', T, Nf)) (hin : ∀ w ∈ u_ws C' T Nf, w ∈ AW) (hty : ∀ k, k < Nf → parseFieldDescriptor (T k).2.2.1 = some (ty0 k)) (hw1 : Cond.classLink own index C' ∈ AW) (hw2 : Cond.instantiable C' Nf ∈ AW) (hw3 : Cond.initialized C' ∈ AW) (hfs : ∀ j, j < Nf → defaultValue (ty0 j) = vp_V fs j) (hc1 : cs + 1 ≤ R.cells) (hs1 : ss + Nf ≤ R.slots) (hdg : decode cc pc = .ok (.new index, 3)) (kk : ∀ q : Nat, GW L E (N + 1) (va_up ad N q) (va_up G N (.inr (ci, fs))) (cs + 1) (ss + Nf) (pc + 3) lo (.ref q :: st)) : GW L E N ad G cs ss pc lo st :=
  fun hD H locs ls hl hP hS => va_new C.1 C.2.1 C.2.2.2.2.2.2.1 hin ty0 hty C.2.2.2.2.2.1 (C.2.2.2.2.2.2.1 _ hw1) (C.2.2.2.2.2.2.1 _ hw2) (C.2.2.2.2.2.2.1 _ hw3) C.2.2.2.2.2.2.2.1.1 hP (hD.va G) hS (fun q h => Nat.le_trans C.2.2.2.2.2.2.2.1.2.2.2.2.2.2.1 h) hc hfs (by rw [C.2.2.2.2.1]; exact hc1) (by rw [C.2.2.2.2.1]; exact hs1) hdg (fun q H1 hP1 hD1 hS1 => by
    rw [gw_push] at hP1 hD1
    exact kk q (gD.of hD1) H1 locs ls hl hP1 hS1)
theorem G_objInit (C : gC L E cc own nL R) {idx a : Nat} (hw1 : Cond.methodLink own idx Lib.objectInit ∈ AW) (hw2 : Cond.instanceMethod Lib.objectInit ∈ AW) (hw3 : Cond.code Lib.objectInit ⟨#[0xb1]⟩ 1 none ∈ AW) (hd : decode cc pc = .ok (.invokespecial idx, 3)) (hfr : 1 ≤ R.frames) (hlo : (st.map fun v => v.category).sum + 12 ≤ R.locals) (kk : GW L E N ad G cs ss (pc + 3) lo st) : GW L E N ad G cs ss pc lo (.ref a :: st) :=
  fun hD H locs ls hl hP hS => W.objInit C.1 C.2.1 C.2.2.2.2.2.1 (C.2.2.2.2.2.2.1 _ hw1) (C.2.2.2.2.2.2.1 _ hw2) (C.2.2.2.2.2.2.1 _ hw3) rfl (by show ls.size = _; rw [hl.1]; exact C.2.2.1.symm) rfl hd (by rw [C.2.2.2.2.1]; exact hfr) (by rw [C.2.2.2.2.1]; show 2 * 0 + _ + 12 ≤ _; omega) (kk hD H locs ls hl hP hS)
/-- what a method owes at its end -/
def gR (L : GL) (E : GE) (ret : Option FieldType) (mc ms N : Nat) (ad : Nat → Nat) (Q : Option Value → (Nat → va_E) → Prop) : Prop :=
  E.meth.sig.returnType = ret ∧ ∀ t, MQ E.below (gQ L N ad Q) E.args E.s mc ms (gA L) t → E.Q t
def gRn (L : GL) (E : GE) (mc ms : Nat) (Q : Nat → (Nat → Nat) → (Nat → va_E) → Prop) : Prop :=
  E.meth.sig.returnType = none ∧ E.meth.name = "<init>" ∧ ∀ t, MQ E.below (gQn L Q) E.args E.s mc ms (gA L) t → E.Q t
def gRx (L : GL) (E : GE) (mc ms N : Nat) (ad : Nat → Nat) (X : String → (Nat → va_E) → Prop) : Prop :=
  (∀ x ∈ E.c.exceptionTable.toList, False) ∧ ∀ t, vx_MQ E.below (fun _ _ _ _ => False) (gX L N ad X) E.args E.s mc ms (gA L) t → E.Q t
theorem W_mono {p : Program} {l : Launch} {e : Env} {R : Room} {s : State} {m : MethodId} {args : Array Value} {below : List Frame} {meth : Method} {c : Code} {H : Heap} {locs : List Loc} {cells slots : Nat} {Q Q' : State → Prop} {g : JFrame} (h : ∀ t, Q t → Q' t) (k : W p l e R s m args below meth c H locs cells slots Q g) : W p l e R s m args below meth c H locs cells slots Q' g := by
  intro T hT X
  obtain ⟨t, a, b⟩ := k T hT X
  exact ⟨t, a, h t b⟩
theorem G_iret (C : gC L E cc own nL R) {Q : Option Value → (Nat → va_E) → Prop} (hr : gR L E (some .int) cs ss N ad Q) {v : Int32} (hdg : decode cc pc = .ok (.ireturn, 1)) (hq : Q (some (.int v)) G) : GW L E N ad G cs ss pc lo [.int v] :=
  fun hD H locs ls hl hP hS => W_mono hr.2 (W.iret (hlocks := C.2.2.2.2.2.2.2.2) C.1 C.2.1 hr.1 (fun t ht hW => ⟨⟨_, G, rfl, hq, by rw [ht]; exact hP⟩, hS.F ht⟩) hS.2.2 hdg)
theorem G_lret (C : gC L E cc own nL R) {Q : Option Value → (Nat → va_E) → Prop} (hr : gR L E (some .long) cs ss N ad Q) {v : Int64} (hdg : decode cc pc = .ok (.lreturn, 1)) (hq : Q (some (.long v)) G) : GW L E N ad G cs ss pc lo [.long v] :=
  fun hD H locs ls hl hP hS => W_mono hr.2 (W.lret (hlocks := C.2.2.2.2.2.2.2.2) C.1 C.2.1 hr.1 (fun t ht hW => ⟨⟨_, G, rfl, hq, by rw [ht]; exact hP⟩, hS.F ht⟩) hS.2.2 hdg)
theorem G_fret (C : gC L E cc own nL R) {Q : Option Value → (Nat → va_E) → Prop} (hr : gR L E (some .float) cs ss N ad Q) {v : UInt32} (hdg : decode cc pc = .ok (.freturn, 1)) (hq : Q (some (.float v)) G) : GW L E N ad G cs ss pc lo [.float v] :=
  fun hD H locs ls hl hP hS => W_mono hr.2 (W.fret (hlocks := C.2.2.2.2.2.2.2.2) C.1 C.2.1 hr.1 (fun t ht hW => ⟨⟨_, G, rfl, hq, by rw [ht]; exact hP⟩, hS.F ht⟩) hS.2.2 hdg)
theorem G_zret (C : gC L E cc own nL R) {Q : Option Value → (Nat → va_E) → Prop} {ty : FieldType} (hr : gR L E (some ty) cs ss N ad Q) {v : Int32} (hn : narrow ty (.int v) = .int v) (hdg : decode cc pc = .ok (.ireturn, 1)) (hq : Q (some (.int v)) G) : GW L E N ad G cs ss pc lo [.int v] :=
  fun hD H locs ls hl hP hS => W_mono hr.2 (W.zret (hlocks := C.2.2.2.2.2.2.2.2) C.1 C.2.1 hr.1 hn (fun t ht hW => ⟨⟨_, G, rfl, hq, by rw [ht]; exact hP⟩, hS.F ht⟩) hS.2.2 hdg)
theorem G_vret (C : gC L E cc own nL R) {Q : Option Value → (Nat → va_E) → Prop} (hr : gR L E none cs ss N ad Q) (hdg : decode cc pc = .ok (.return_, 1)) (hq : Q none G) : GW L E N ad G cs ss pc lo [] :=
  fun hD H locs ls hl hP hS => W_mono hr.2 (W.vret (hlocks := C.2.2.2.2.2.2.2.2) C.1 C.2.1 hr.1 (fun t ht hW => ⟨⟨_, G, rfl, hq, by rw [ht]; exact hP⟩, hS.F ht⟩) hS.2.2 hdg)
theorem G_nret (C : gC L E cc own nL R) {Q : Nat → (Nat → Nat) → (Nat → va_E) → Prop} (hr : gRn L E cs ss Q) (hdg : decode cc pc = .ok (.return_, 1)) (hq : Q N ad G) : GW L E N ad G cs ss pc lo [] :=
  fun hD H locs ls hl hP hS => W_mono hr.2.2 (W.vret (hlocks := C.2.2.2.2.2.2.2.2) C.1 C.2.1 hr.1 (fun t ht hW => ⟨⟨N, ad, G, rfl, hq, hD, by rw [ht]; exact hP⟩, hS.F ht⟩) hS.2.2 hdg)
theorem G_aret (C : gC L E cc own nL R) {Q : Option Value → (Nat → va_E) → Prop} {rt : FieldType} (hr : gR L E (some rt) cs ss N ad Q) (hrt : (∃ n, rt = .object n) ∨ ∃ t, rt = .array t) {v : Value} (hv : v = .null ∨ ∃ a, v = .ref a) (hdg : decode cc pc = .ok (.areturn, 1)) (hq : Q (some v) G) : GW L E N ad G cs ss pc lo [v] :=
  fun hD H locs ls hl hP hS => W_mono hr.2 (W.aret (hlocks := C.2.2.2.2.2.2.2.2) C.1 C.2.1 hr.1 hrt hv (fun t ht hW => ⟨⟨_, G, rfl, hq, by rw [ht]; exact hP⟩, hS.F ht⟩) hS.2.2 hdg)
end GR
section GCALL
variable {p : Program} {l : Launch} {e : Env} {R : Room} {s : State} {m : MethodId} {args : Array Value} {below : List Frame} {meth : Method} {c : Code} {H H0 : Heap} {locs : List Loc} {cells slots mc ms : Nat} {Q0 : State → Prop} {pc : Nat} {ls : Array Slot} {st0 rest : List Value} {a : Array Value} {L : GL} {N : Nat} {ad : Nat → Nat}
theorem g_keep {st₀ t T' : State} {Lc : List Loc} (h0 : st₀.heap = H) (e1 : T'.heap = t.heap) (hS : va_S (gA L) H0 H locs) (hL : ∀ q ∈ Lc, gA L q.base) (hF : va_F (gA L) st₀ t) : va_S (gA L) H0 T'.heap (locs ++ Lc) := by
  obtain ⟨hz, hk⟩ := hF
  rw [h0] at hz hk
  exact ⟨Nat.le_trans hS.1 (by rw [e1]; exact hz), fun q h1 h2 => by rw [e1, hk q (Nat.lt_of_lt_of_le h1 hS.1) h2]; exact hS.2.1 q h1 h2, fun q hq => by
    rcases List.mem_append.mp hq with h | h
    · exact hS.2.2 q h
    · exact hL q h⟩
theorem g_call {Q : Option Value → (Nat → va_E) → Prop} (hr : va_Run p l e R s m args below meth c H locs cells slots mc ms (F0 m pc ls st0) rest (gQ L N ad Q a) (gA L)) (hS : va_S (gA L) H0 H locs)
    (kk : ∀ (v : Option Value) (G' : Nat → va_E) (H1 : Heap) (locs1 : List Loc), Q v G' → va_P L.D vwCl (gw ad N G') H1 → va_S (gA L) H0 H1 locs1 → W p l e R s m args below meth c H1 locs1 (cells + mc) (slots + ms) Q0 (F0 m (pc + 3) ls (v.toList ++ rest))) : W p l e R s m args below meth c H locs cells slots Q0 (F0 m pc ls st0) := by
  intro T hT X
  obtain ⟨v, st₀, t, T', Lc, h0, X', hL, e1, e2, ⟨⟨v', G', hv, hq, hP'⟩, hF⟩, st⟩ := hr T hT X
  cases hv
  obtain ⟨t2, a1, b1⟩ := kk v G' T'.heap (locs ++ Lc) hq (by rw [e1]; exact hP') (g_keep h0 e1 hS hL hF) T' rfl X'
  exact ⟨t2, st t2 a1, b1⟩
theorem g_calln {Q : Nat → (Nat → Nat) → (Nat → va_E) → Prop} (hr : va_Run p l e R s m args below meth c H locs cells slots mc ms (F0 m pc ls st0) rest (gQn L Q a) (gA L)) (hS : va_S (gA L) H0 H locs)
    (kk : ∀ (N' : Nat) (ad' : Nat → Nat) (G' : Nat → va_E) (H1 : Heap) (locs1 : List Loc), Q N' ad' G' → gD L ad' N' → va_P L.D vwCl (gw ad' N' G') H1 → va_S (gA L) H0 H1 locs1 → W p l e R s m args below meth c H1 locs1 (cells + mc) (slots + ms) Q0 (F0 m (pc + 3) ls rest)) : W p l e R s m args below meth c H locs cells slots Q0 (F0 m pc ls st0) := by
  intro T hT X
  obtain ⟨v, st₀, t, T', Lc, h0, X', hL, e1, e2, ⟨⟨N', ad', G', hv, hq, hD', hP'⟩, hF⟩, st⟩ := hr T hT X
  cases hv
  obtain ⟨t2, a1, b1⟩ := kk N' ad' G' T'.heap (locs ++ Lc) hq hD' (by rw [e1]; exact hP') (g_keep h0 e1 hS hL hF) T' rfl X'
  exact ⟨t2, st t2 a1, b1⟩
theorem g_callx {Q : Option Value → (Nat → va_E) → Prop} {X : String → (Nat → va_E) → Prop} (hr : vx_Run p l e R s m args below meth c H locs cells slots mc ms (F0 m pc ls st0) rest (gQ L N ad Q a) (gX L N ad X) (gA L)) (hS : va_S (gA L) H0 H locs)
    (kx : ∀ (E : String) (ce : Cell) (q9 : Addr) (G' : Nat → va_E) (H1 : Heap) (locs1 : List Loc), X E G' → va_P L.D vwCl (gw ad N G') H1 → va_S (gA L) H0 H1 locs1 → H1[q9]? = some ce → ce.vm = .none → s.vm.findClass E = some ce.cls → vx_W p l e R s m args below meth c H1 locs1 (cells + mc) (slots + ms) Q0 (F0 m pc ls rest) q9)
    (kk : ∀ (v : Option Value) (G' : Nat → va_E) (H1 : Heap) (locs1 : List Loc), Q v G' → va_P L.D vwCl (gw ad N G') H1 → va_S (gA L) H0 H1 locs1 → W p l e R s m args below meth c H1 locs1 (cells + mc) (slots + ms) Q0 (F0 m (pc + 3) ls (v.toList ++ rest))) : W p l e R s m args below meth c H locs cells slots Q0 (F0 m pc ls st0) := by
  intro T hT Z
  rcases hr T hT Z with ⟨v, st₀, t, T', Lc, h0, X', hL, e1, e2, ⟨⟨v', G', hv, hq, hP'⟩, hF⟩, st⟩ | ⟨q, st₀, t, T', Lc, E, ce, h0, X', hL, e1, e2, ⟨G', hx, hP', hF⟩, hce, hcv, hcl, st⟩
  · cases hv
    obtain ⟨t2, a1, b1⟩ := kk v G' T'.heap (locs ++ Lc) hq (by rw [e1]; exact hP') (g_keep h0 e1 hS hL hF) T' rfl X'
    exact ⟨t2, st t2 a1, b1⟩
  · obtain ⟨t2, a1, b1⟩ := kx E ce q G' T'.heap (locs ++ Lc) hx (by rw [e1]; exact hP') (g_keep h0 e1 hS hL hF) (by rw [e1]; exact hce) hcv hcl T' rfl X'
    exact ⟨t2, st.trans a1, b1⟩
end GCALL
/-- the words that any call of y wants -/
def CalV (Cn : String) (y : MethodName) (cy : ByteArray) (mL : Nat) (rt : Option FieldType) (n : Nat) : Prop :=
  Cond.instanceMethod y ∈ AW ∧ Cond.selects Cn y y ∈ AW ∧ Cond.initialized Cn ∈ AW ∧ Cond.code y cy mL rt ∈ AW ∧ y.cls = Cn ∧ y.cls ≠ "java/lang/invoke/MethodHandle" ∧ y.cls ≠ "java/lang/invoke/VarHandle" ∧ (parseMethodDescriptor y.desc).map (fun d => d.parameters.length) = some n
def CalS (y : MethodName) (cy : ByteArray) (mL : Nat) (rt : Option FieldType) (n : Nat) : Prop :=
  Cond.static y ∈ AW ∧ Cond.initialized y.cls ∈ AW ∧ Cond.code y cy mL rt ∈ AW ∧ y.cls ≠ "java/lang/invoke/MethodHandle" ∧ y.cls ≠ "java/lang/invoke/VarHandle" ∧ (parseMethodDescriptor y.desc).map (fun d => d.parameters.length) = some n
def CalI (y : MethodName) (cy : ByteArray) (mL : Nat) (n : Nat) : Prop :=
  y.name = "<init>" ∧ Cond.instanceMethod y ∈ AW ∧ Cond.initialized y.cls ∈ AW ∧ Cond.code y cy mL none ∈ AW ∧ y.cls ≠ "java/lang/invoke/MethodHandle" ∧ y.cls ≠ "java/lang/invoke/VarHandle" ∧ (parseMethodDescriptor y.desc).map (fun d => d.parameters.length) = some n
theorem CalV.good {own Cn : String} {y : MethodName} {cy : ByteArray} {mL n index : Nat} {rt : Option FieldType} (h : CalV Cn y cy mL rt n) (hl : Cond.methodLink own index y ∈ AW) : GoodIn AW (wsV own index Cn y (.code y cy mL rt :: AW)) :=
  goodIn_app (GI_cons hl (GI_cons h.1 (GI_cons h.2.1 (GI_cons h.2.2.1 GI_nil)))) (GI_cons h.2.2.2.1 AW_good)
theorem CalS.good {own : String} {y : MethodName} {cy : ByteArray} {mL n index : Nat} {rt : Option FieldType} (h : CalS y cy mL rt n) (hl : Cond.methodLink own index y ∈ AW) : GoodIn AW (va_wsS own index y (.code y cy mL rt :: AW)) :=
  goodIn_app (GI_cons hl (GI_cons h.1 (GI_cons h.2.1 GI_nil))) (GI_cons h.2.2.1 AW_good)
section GCR
variable {L : GL} {E : GE} {cc : ByteArray} {own : String} {nL N cs ss pc : Nat} {R : Room} {ad : Nat → Nat} {G : Nat → va_E} {lo : List (Nat × Value)} {st : List Value} {y : MethodName} {cy : ByteArray} {mL n : Nat} {rt : Option FieldType} {rm : Room}
theorem gC.fix (C : gC L E cc own nL R) : CallFix E.p E.m E.c cc E.nL E.s E.args AW own := ⟨C.1, C.2.1, C.2.2.1, C.2.2.2.2.2.1, C.2.2.2.2.2.2.1⟩
theorem gC.pre (C : gC L E cc own nL R) (hD : gD L ad N) {H : Heap} {locs : List Loc} (hP : va_P L.D vwCl (gw ad N G) H) (hS : va_S (gA L) E.s.heap H locs) (av : List Value) : PreS E.s H (va_Pc av (gS L N ad G)) av :=
  ⟨gS.blind, fun U hU hW => ⟨rfl, by rw [hU]; exact hP, hD, gK.warm hW (by rw [hU]; exact hS.1) (fun q h1 h2 => by rw [hU]; exact hS.2.1 q h1 h2) C.2.2.2.2.2.2.2.1⟩⟩
theorem gC.preV (C : gC L E cc own nL R) (hD : gD L ad N) {H : Heap} {locs : List Loc} (hP : va_P L.D vwCl (gw ad N G) H) (hS : va_S (gA L) E.s.heap H locs) {Cn : String} {k ci : Nat} {fs : List Value} {q : vw_C} (hk : k < N) (hG : G k = .inr (ci, fs)) (hc : vwCl[ci]? = some q) (hq : q.1 = Cn) (As : List Value) : PreV E.s H Cn (ad k) (va_Pc (.ref (ad k) :: As) (gS L N ad G)) As :=
  ⟨gS.blind, hq ▸ va_recv C.2.2.2.2.2.2.2.1.1 hP hc (gw_get' hk hG), (C.pre hD hP hS _).2⟩
theorem gC.goV (C : gC L E cc own nL R) {Cn : String} {index : Nat} (hcal : CalV Cn y cy mL rt n) (hl : Cond.methodLink own index y ∈ AW) (hR : rm.frames + 1 ≤ R.frames ∧ 8 + (mL + 11) + rm.locals ≤ R.locals) : CallW E.R E.s E.args own Cn index y cy mL rt (.code y cy mL rt :: AW) rm rm.cells rm.slots n :=
  cwV n C.2.2.2.2.2.2.1 (hcal.good hl) rfl rfl rfl ⟨hcal.2.2.2.2.1, hcal.2.2.2.2.2.1, hcal.2.2.2.2.2.2.1, hcal.2.2.2.2.2.2.2⟩ (by rw [C.2.2.2.2.1]; exact hR)
theorem G_callV (C : gC L E cc own nL R) {Cn : String} {Q : Option Value → (Nat → va_E) → Prop} {index k ci : Nat} {fs As rest : List Value} {q : vw_C} (hM : GM L y cy mL rt rm N ad G (.ref (ad k) :: As) Q) (hcal : CalV Cn y cy mL rt n) (hl : Cond.methodLink own index y ∈ AW) (hk : k < N) (hG : G k = .inr (ci, fs)) (hc : vwCl[ci]? = some q) (hq : q.1 = Cn) (hn : As.length = n) (hst : st = As.reverse ++ .ref (ad k) :: rest) (hR : rm.frames + 1 ≤ R.frames ∧ 8 + (mL + 11) + rm.locals ≤ R.locals) (hcat : (rest.map fun v => v.category).sum ≤ 8) (hf : cs + rm.cells ≤ R.cells ∧ ss + rm.slots ≤ R.slots) (hdg : decode cc pc = .ok (.invokevirtual index, 3)) (kk : ∀ v G', Q v G' → GW L E N ad G' (cs + rm.cells) (ss + rm.slots) (pc + 3) lo (v.toList ++ rest)) : GW L E N ad G cs ss pc lo st :=
  fun hD H locs ls hl' hP hS => g_call (va_runV (As := As) (rest := rest) C.fix hM (C.goV hcal hl hR) (C.preV hD hP hS hk hG hc hq As) rfl hn hl'.1 hst (lv_room hcat) hdg (by rw [C.2.2.2.2.1]; exact hf)) hS (fun v G' H1 locs1 hQ hP1 hS1 => kk v G' hQ hD H1 locs1 ls hl' hP1 hS1)
theorem G_callVX (C : gC L E cc own nL R) {Cn : String} {Q : Option Value → (Nat → va_E) → Prop} {X X0 : String → (Nat → va_E) → Prop} {mc ms index k ci : Nat} {fs As rest : List Value} {q : vw_C} (hM : GX L y cy mL rt rm N ad G (.ref (ad k) :: As) Q X) (hcal : CalV Cn y cy mL rt n) (hl : Cond.methodLink own index y ∈ AW) (hk : k < N) (hG : G k = .inr (ci, fs)) (hc : vwCl[ci]? = some q) (hq : q.1 = Cn) (hn : As.length = n) (hst : st = As.reverse ++ .ref (ad k) :: rest) (hR : rm.frames + 1 ≤ R.frames ∧ 8 + (mL + 11) + rm.locals ≤ R.locals) (hcat : (rest.map fun v => v.category).sum ≤ 8) (hf : cs + rm.cells ≤ R.cells ∧ ss + rm.slots ≤ R.slots) (hdg : decode cc pc = .ok (.invokevirtual index, 3)) (hx : gRx L E mc ms N ad X0) (hcs : cs + rm.cells ≤ mc ∧ ss + rm.slots ≤ ms) (hX : ∀ e G', X e G' → X0 e G') (kk : ∀ v G', Q v G' → GW L E N ad G' (cs + rm.cells) (ss + rm.slots) (pc + 3) lo (v.toList ++ rest)) : GW L E N ad G cs ss pc lo st :=
  fun hD H locs ls hl' hP hS => g_callx (vx_runV (As := As) (rest := rest) C.fix hM (C.goV hcal hl hR) (C.preV hD hP hS hk hG hc hq As) rfl hn hl'.1 hst (lv_room hcat) hdg (by rw [C.2.2.2.2.1]; exact hf)) hS
    (fun e ce q9 G' H1 locs1 hXe hP1 hS1 hce hcv hcl => fun T hT Z => by
      obtain ⟨t2, a1, b1⟩ := vx_out (Qc := fun _ _ _ _ => False) (XC := gX L N ad X0) (mc := mc) (ms := ms) (free := gA L) (fun x hx' => (hx.1 x hx').elim) C.2.2.2.2.2.2.2.2 hce hcv hcl (fun t ht _ => ⟨G', hX _ _ hXe, by rw [ht]; exact hP1, hS1.F ht⟩) hS1.2.2 hcs.1 hcs.2 T hT Z
      exact ⟨t2, a1, hx.2 _ b1⟩)
    (fun v G' H1 locs1 hQ hP1 hS1 => kk v G' hQ hD H1 locs1 ls hl' hP1 hS1)
theorem gC.cwS (C : gC L E cc own nL R) {index : Nat} (hcal : CalS y cy mL rt n) (hl : Cond.methodLink own index y ∈ AW) (hR : rm.frames + 1 ≤ R.frames ∧ 8 + (mL + 11) + rm.locals ≤ R.locals) : CallB E.R E.s E.args own index y cy mL rt (.code y cy mL rt :: AW) rm rm.cells rm.slots n ∧ (Cond.static y).before E.args E.s = true :=
  va_cwS n C.2.2.2.2.2.2.1 (hcal.good hl) rfl rfl rfl ⟨hcal.2.2.2.1, hcal.2.2.2.2.1, hcal.2.2.2.2.2⟩ (by rw [C.2.2.2.2.1]; exact hR)
theorem G_callS (C : gC L E cc own nL R) {Q : Option Value → (Nat → va_E) → Prop} {index : Nat} {As rest : List Value} (hM : GM L y cy mL rt rm N ad G As Q) (hcal : CalS y cy mL rt n) (hl : Cond.methodLink own index y ∈ AW) (hn : As.length = n) (hst : st = As.reverse ++ rest) (hR : rm.frames + 1 ≤ R.frames ∧ 8 + (mL + 11) + rm.locals ≤ R.locals) (hcat : (rest.map fun v => v.category).sum ≤ 8) (hf : cs + rm.cells ≤ R.cells ∧ ss + rm.slots ≤ R.slots) (hdg : decode cc pc = .ok (.invokestatic index, 3)) (kk : ∀ v G', Q v G' → GW L E N ad G' (cs + rm.cells) (ss + rm.slots) (pc + 3) lo (v.toList ++ rest)) : GW L E N ad G cs ss pc lo st :=
  fun hD H locs ls hl' hP hS => g_call (va_runS (As := As) (rest := rest) C.fix hM (C.cwS hcal hl hR) (C.pre hD hP hS As) rfl hn hl'.1 hst (lv_room hcat) hdg (by rw [C.2.2.2.2.1]; exact hf)) hS (fun v G' H1 locs1 hQ hP1 hS1 => kk v G' hQ hD H1 locs1 ls hl' hP1 hS1)
theorem G_callSX (C : gC L E cc own nL R) {Q : Option Value → (Nat → va_E) → Prop} {X X0 : String → (Nat → va_E) → Prop} {mc ms index : Nat} {As rest : List Value} (hM : GX L y cy mL rt rm N ad G As Q X) (hcal : CalS y cy mL rt n) (hl : Cond.methodLink own index y ∈ AW) (hn : As.length = n) (hst : st = As.reverse ++ rest) (hR : rm.frames + 1 ≤ R.frames ∧ 8 + (mL + 11) + rm.locals ≤ R.locals) (hcat : (rest.map fun v => v.category).sum ≤ 8) (hf : cs + rm.cells ≤ R.cells ∧ ss + rm.slots ≤ R.slots) (hdg : decode cc pc = .ok (.invokestatic index, 3)) (hx : gRx L E mc ms N ad X0) (hcs : cs + rm.cells ≤ mc ∧ ss + rm.slots ≤ ms) (hX : ∀ e G', X e G' → X0 e G') (kk : ∀ v G', Q v G' → GW L E N ad G' (cs + rm.cells) (ss + rm.slots) (pc + 3) lo (v.toList ++ rest)) : GW L E N ad G cs ss pc lo st :=
  fun hD H locs ls hl' hP hS => g_callx (vx_runS (As := As) (rest := rest) C.fix hM (C.cwS hcal hl hR) (C.pre hD hP hS As) rfl hn hl'.1 hst (lv_room hcat) hdg (by rw [C.2.2.2.2.1]; exact hf)) hS
    (fun e ce q9 G' H1 locs1 hXe hP1 hS1 hce hcv hcl => fun T hT Z => by
      obtain ⟨t2, a1, b1⟩ := vx_out (Qc := fun _ _ _ _ => False) (XC := gX L N ad X0) (mc := mc) (ms := ms) (free := gA L) (fun x hx' => (hx.1 x hx').elim) C.2.2.2.2.2.2.2.2 hce hcv hcl (fun t ht _ => ⟨G', hX _ _ hXe, by rw [ht]; exact hP1, hS1.F ht⟩) hS1.2.2 hcs.1 hcs.2 T hT Z
      exact ⟨t2, a1, hx.2 _ b1⟩)
    (fun v G' H1 locs1 hQ hP1 hS1 => kk v G' hQ hD H1 locs1 ls hl' hP1 hS1)
theorem gC.goI (C : gC L E cc own nL R) {index : Nat} (hcal : CalI y cy mL n) (hl : Cond.methodLink own index y ∈ AW) (hR : rm.frames + 1 ≤ R.frames ∧ 8 + (mL + 11) + rm.locals ≤ R.locals) : CallB E.R E.s E.args own index y cy mL none (.code y cy mL none :: AW) rm rm.cells rm.slots n ∧ y.name = "<init>" ∧ (Cond.instanceMethod y).before E.args E.s = true :=
  cwI n C.2.2.2.2.2.2.1 (GI_cons hcal.2.2.2.1 AW_good) rfl rfl rfl (C.2.2.2.2.2.2.1 _ hcal.2.2.1) (C.2.2.2.2.2.2.1 _ hl) (C.2.2.2.2.2.2.1 _ hcal.2.1) hcal.1 ⟨hcal.2.2.2.2.1, hcal.2.2.2.2.2.1, hcal.2.2.2.2.2.2⟩ (by rw [C.2.2.2.2.1]; exact hR)
theorem G_callI (C : gC L E cc own nL R) {Q : Option Value → (Nat → va_E) → Prop} {index k : Nat} {As rest : List Value} (hM : GM L y cy mL none rm N ad G (.ref (ad k) :: As) Q) (hcal : CalI y cy mL n) (hl : Cond.methodLink own index y ∈ AW) (hn : As.length = n) (hst : st = As.reverse ++ .ref (ad k) :: rest) (hR : rm.frames + 1 ≤ R.frames ∧ 8 + (mL + 11) + rm.locals ≤ R.locals) (hcat : (rest.map fun v => v.category).sum ≤ 8) (hf : cs + rm.cells ≤ R.cells ∧ ss + rm.slots ≤ R.slots) (hdg : decode cc pc = .ok (.invokespecial index, 3)) (kk : ∀ v G', Q v G' → GW L E N ad G' (cs + rm.cells) (ss + rm.slots) (pc + 3) lo (v.toList ++ rest)) : GW L E N ad G cs ss pc lo st :=
  fun hD H locs ls hl' hP hS => g_call (va_runI (As := As) (rest := rest) C.fix hM (C.goI hcal hl hR) (C.pre hD hP hS _) rfl hn hl'.1 hst (lv_room hcat) hdg (by rw [C.2.2.2.2.1]; exact hf)) hS (fun v G' H1 locs1 hQ hP1 hS1 => kk v G' hQ hD H1 locs1 ls hl' hP1 hS1)
theorem G_callN (C : gC L E cc own nL R) {Q : Nat → (Nat → Nat) → (Nat → va_E) → Prop} {index k : Nat} {As rest : List Value} (hM : GN L y cy mL rm N ad G (.ref (ad k) :: As) Q) (hcal : CalI y cy mL n) (hl : Cond.methodLink own index y ∈ AW) (hn : As.length = n) (hst : st = As.reverse ++ .ref (ad k) :: rest) (hR : rm.frames + 1 ≤ R.frames ∧ 8 + (mL + 11) + rm.locals ≤ R.locals) (hcat : (rest.map fun v => v.category).sum ≤ 8) (hf : cs + rm.cells ≤ R.cells ∧ ss + rm.slots ≤ R.slots) (hdg : decode cc pc = .ok (.invokespecial index, 3)) (kk : ∀ N' ad' G', Q N' ad' G' → GW L E N' ad' G' (cs + rm.cells) (ss + rm.slots) (pc + 3) lo rest) : GW L E N ad G cs ss pc lo st :=
  fun hD H locs ls hl' hP hS => g_calln (va_runI (As := As) (rest := rest) C.fix hM (C.goI hcal hl hR) (C.pre hD hP hS _) rfl hn hl'.1 hst (lv_room hcat) hdg (by rw [C.2.2.2.2.1]; exact hf)) hS (fun N' ad' G' H1 locs1 hQ hD1 hP1 hS1 => kk N' ad' G' hQ hD1 H1 locs1 ls hl' hP1 hS1)
theorem gC.cnB (C : gC L E cc own nL R) {host : String} {index : Nat} (hg : Cond.code y cy mL rt ∈ AW) (hi : Cond.initialized y.cls ∈ AW) (hd : y.cls ≠ "java/lang/invoke/MethodHandle" ∧ y.cls ≠ "java/lang/invoke/VarHandle" ∧ (parseMethodDescriptor y.desc).map (fun d => d.parameters.length) = some n) (hl : Cond.methodLinkNest own index y host ∈ BW) (hR : rm.frames + 1 ≤ R.frames ∧ 8 + (mL + 11) + rm.locals ≤ R.locals) : va_CN E.R E.s E.args own index y host cy mL rt (.code y cy mL rt :: AW) rm rm.cells rm.slots n :=
  va_cnB n C.2.2.2.2.2.2.1 (GI_cons hg AW_good) rfl rfl rfl (C.2.2.2.2.2.2.2.1.2.2.2.2.1 _ hl) (C.2.2.2.2.2.2.1 _ hi) hd (by rw [C.2.2.2.2.1]; exact hR)
theorem G_callIN (C : gC L E cc own nL R) {Q : Option Value → (Nat → va_E) → Prop} {host : String} {index k : Nat} {As rest : List Value} (hM : GM L y cy mL none rm N ad G (.ref (ad k) :: As) Q) (hcal : CalI y cy mL n) (hl : Cond.methodLinkNest own index y host ∈ BW) (hn : As.length = n) (hst : st = As.reverse ++ .ref (ad k) :: rest) (hR : rm.frames + 1 ≤ R.frames ∧ 8 + (mL + 11) + rm.locals ≤ R.locals) (hcat : (rest.map fun v => v.category).sum ≤ 8) (hf : cs + rm.cells ≤ R.cells ∧ ss + rm.slots ≤ R.slots) (hdg : decode cc pc = .ok (.invokespecial index, 3)) (kk : ∀ v G', Q v G' → GW L E N ad G' (cs + rm.cells) (ss + rm.slots) (pc + 3) lo (v.toList ++ rest)) : GW L E N ad G cs ss pc lo st :=
  fun hD H locs ls hl' hP hS => g_call (va_runIN (As := As) (rest := rest) C.fix hM ⟨C.cnB hcal.2.2.2.1 hcal.2.2.1 ⟨hcal.2.2.2.2.1, hcal.2.2.2.2.2.1, hcal.2.2.2.2.2.2⟩ hl hR, hcal.1, C.2.2.2.2.2.2.1 _ hcal.2.1⟩ (C.pre hD hP hS _) rfl hn hl'.1 hst (lv_room hcat) hdg (by rw [C.2.2.2.2.1]; exact hf)) hS (fun v G' H1 locs1 hQ hP1 hS1 => kk v G' hQ hD H1 locs1 ls hl' hP1 hS1)
theorem G_callNN (C : gC L E cc own nL R) {Q : Nat → (Nat → Nat) → (Nat → va_E) → Prop} {host : String} {index k : Nat} {As rest : List Value} (hM : GN L y cy mL rm N ad G (.ref (ad k) :: As) Q) (hcal : CalI y cy mL n) (hl : Cond.methodLinkNest own index y host ∈ BW) (hn : As.length = n) (hst : st = As.reverse ++ .ref (ad k) :: rest) (hR : rm.frames + 1 ≤ R.frames ∧ 8 + (mL + 11) + rm.locals ≤ R.locals) (hcat : (rest.map fun v => v.category).sum ≤ 8) (hf : cs + rm.cells ≤ R.cells ∧ ss + rm.slots ≤ R.slots) (hdg : decode cc pc = .ok (.invokespecial index, 3)) (kk : ∀ N' ad' G', Q N' ad' G' → GW L E N' ad' G' (cs + rm.cells) (ss + rm.slots) (pc + 3) lo rest) : GW L E N ad G cs ss pc lo st :=
  fun hD H locs ls hl' hP hS => g_calln (va_runIN (As := As) (rest := rest) C.fix hM ⟨C.cnB hcal.2.2.2.1 hcal.2.2.1 ⟨hcal.2.2.2.2.1, hcal.2.2.2.2.2.1, hcal.2.2.2.2.2.2⟩ hl hR, hcal.1, C.2.2.2.2.2.2.1 _ hcal.2.1⟩ (C.pre hD hP hS _) rfl hn hl'.1 hst (lv_room hcat) hdg (by rw [C.2.2.2.2.1]; exact hf)) hS (fun N' ad' G' H1 locs1 hQ hD1 hP1 hS1 => kk N' ad' G' hQ hD1 H1 locs1 ls hl' hP1 hS1)
theorem G_callSN (C : gC L E cc own nL R) {Q : Option Value → (Nat → va_E) → Prop} {host : String} {index : Nat} {As rest : List Value} (hM : GM L y cy mL rt rm N ad G As Q) (hcal : CalS y cy mL rt n) (hl : Cond.methodLinkNest own index y host ∈ BW) (hn : As.length = n) (hst : st = As.reverse ++ rest) (hR : rm.frames + 1 ≤ R.frames ∧ 8 + (mL + 11) + rm.locals ≤ R.locals) (hcat : (rest.map fun v => v.category).sum ≤ 8) (hf : cs + rm.cells ≤ R.cells ∧ ss + rm.slots ≤ R.slots) (hdg : decode cc pc = .ok (.invokestatic index, 3)) (kk : ∀ v G', Q v G' → GW L E N ad G' (cs + rm.cells) (ss + rm.slots) (pc + 3) lo (v.toList ++ rest)) : GW L E N ad G cs ss pc lo st :=
  fun hD H locs ls hl' hP hS => g_call (va_runSN (As := As) (rest := rest) C.fix hM ⟨C.cnB hcal.2.2.1 hcal.2.1 hcal.2.2.2 hl hR, C.2.2.2.2.2.2.1 _ hcal.1, trivial⟩ (C.pre hD hP hS As) rfl hn hl'.1 hst (lv_room hcat) hdg (by rw [C.2.2.2.2.1]; exact hf)) hS (fun v G' H1 locs1 hQ hP1 hS1 => kk v G' hQ hD H1 locs1 ls hl' hP1 hS1)
end GCR
abbrev gNm : List String := ["java/lang/RuntimeException", "java/lang/Exception"]
/-- the words of 'throw new cls(..)' in the class own -/
def ThrB (own : String) (ik ic : Nat) (cls : String) : Prop :=
  Bundle.fit cls = true ∧ (∀ n ∈ gNm, Bundle.fit n = true) ∧ Cond.classLink own ik cls ∈ AW ∧ Cond.initialized cls ∈ AW ∧ (∀ w ∈ (vx_atS own ic cls gNm).filter goodWord, w ∈ AW) ∧ (∀ w ∈ (vx_atS own ic cls gNm).filter (fun w => !goodWord w), w ∈ BW) ∧ (∀ w ∈ Cond.classLink own ik cls :: Cond.initialized cls :: vx_atS own ic cls gNm, vx_ot w = true)
theorem bw_use {s : State} {args : Array Value} {w : Cond} (hw : w ∈ BW) (h : va_Nw w s) : w.before args s = true := by
  have hg : cnWord w = true := (List.mem_filter.mp hw).2
  exact va_Nw.use (by cases w <;> first | rfl | exact absurd hg Bool.false_ne_true) h
section GTH
variable {L : GL} {E : GE} {cc : ByteArray} {own : String} {nL N cs ss pc : Nat} {R : Room} {ad : Nat → Nat} {G : Nat → va_E} {lo : List (Nat × Value)} {st : List Value}
theorem G_throw (C : gC L E cc own nL R) {X : String → (Nat → va_E) → Prop} {mc ms : Nat} (hX : gRx L E mc ms N ad X) {cls text : String} {ik is ic : Nat} (hB : ThrB own ik ic cls) (hstr : (own, is, text) ∈ gStr)
    (d0 : decode cc pc = .ok (.new ik, 3)) (d3 : decode cc (pc + 3) = .ok (.dup, 1)) (d4 : decode cc (pc + 4) = .ok (.ldc is, 2)) (d6 : decode cc (pc + 6) = .ok (.invokespecial ic, 3)) (d9 : decode cc (pc + 9) = .ok (.athrow, 1))
    (hfr : 5 < R.frames) (hlo : (st.map fun v => v.category).sum + 82 ≤ R.locals) (hcs : cs + 1 ≤ mc ∧ ss + 6 ≤ ms) (hR : mc ≤ R.cells ∧ ms ≤ R.slots) (hx : X cls G) : GW L E N ad G cs ss pc lo st := by
  intro hD H locs ls hl hP hS
  obtain ⟨h1, h2, h3, h4, h5, h6, h7⟩ := hB
  obtain ⟨sa, hsa⟩ := C.2.2.2.2.2.2.2.1.2.2.2.1 _ hstr
  have hat : ∀ w ∈ vx_atS own ic cls gNm, w.before E.args E.s = true := vx_hat (fun w hw => C.2.2.2.2.2.2.1 _ (h5 w hw)) h6 (fun w hw => bw_use hw (C.2.2.2.2.2.2.2.1.2.2.2.2.1 w hw))
  have hRR := C.2.2.2.2.1
  refine W_mono hX.2 (vx_throwS (mc := mc) (ms := ms) (names := gNm) (A := gA L) (Qc := fun _ _ _ _ => False) C.1 C.2.1 C.2.2.2.2.2.2.2.1.2.2.2.2.2.2.2.2 C.2.2.2.2.2.1 h1 h2 (C.2.2.2.2.2.2.1 _ h3) (C.2.2.2.2.2.2.1 _ h4) hsa hat h7 C.2.2.2.2.2.2.2.1.2.1 C.2.2.2.2.2.2.2.1.2.2.1 hS (hl.1.trans C.2.2.1.symm) d0 d3 d4 d6 d9 (fun x hx' => (hX.1 x hx').elim) (by rw [hRR]; exact hfr) (by rw [hRR]; exact hlo) (by rw [hRR]; omega) (by rw [hRR]; omega) C.2.2.2.2.2.2.2.2 ?_ hS.2.2 hcs.1 hcs.2)
  intro t _ hz hk
  exact ⟨G, hx, hP.kept (fun k q hq => hk q.1 ((hP k q hq).lt)), Nat.le_trans hS.1 hz, fun q g1 g2 => (hk q (Nat.lt_of_lt_of_le g1 hS.1)).trans (hS.2.1 q g1 g2)⟩
theorem G_throwW (C : gC L E cc own nL R) {X : String → (Nat → va_E) → Prop} {mc ms : Nat} (hX : gRx L E mc ms N ad X) {cls text : String} {ik is ic : Nat} (hB : ThrB own ik ic cls) (hstr : (own, is, text) ∈ gStr)
    (d0 : decode cc pc = .ok (.new ik, 3)) (d3 : decode cc (pc + 3) = .ok (.dup, 1)) (d4 : decode cc (pc + 4) = .ok (.ldc_w is, 3)) (d6 : decode cc (pc + 7) = .ok (.invokespecial ic, 3)) (d9 : decode cc (pc + 10) = .ok (.athrow, 1))
    (hfr : 5 < R.frames) (hlo : (st.map fun v => v.category).sum + 82 ≤ R.locals) (hcs : cs + 1 ≤ mc ∧ ss + 6 ≤ ms) (hR : mc ≤ R.cells ∧ ms ≤ R.slots) (hx : X cls G) : GW L E N ad G cs ss pc lo st := by
  intro hD H locs ls hl hP hS
  obtain ⟨h1, h2, h3, h4, h5, h6, h7⟩ := hB
  obtain ⟨sa, hsa⟩ := C.2.2.2.2.2.2.2.1.2.2.2.1 _ hstr
  have hat : ∀ w ∈ vx_atS own ic cls gNm, w.before E.args E.s = true := vx_hat (fun w hw => C.2.2.2.2.2.2.1 _ (h5 w hw)) h6 (fun w hw => bw_use hw (C.2.2.2.2.2.2.2.1.2.2.2.2.1 w hw))
  have hRR := C.2.2.2.2.1
  refine W_mono hX.2 (vx_throwSW (mc := mc) (ms := ms) (names := gNm) (A := gA L) (Qc := fun _ _ _ _ => False) C.1 C.2.1 C.2.2.2.2.2.2.2.1.2.2.2.2.2.2.2.2 C.2.2.2.2.2.1 h1 h2 (C.2.2.2.2.2.2.1 _ h3) (C.2.2.2.2.2.2.1 _ h4) hsa hat h7 C.2.2.2.2.2.2.2.1.2.1 C.2.2.2.2.2.2.2.1.2.2.1 hS (hl.1.trans C.2.2.1.symm) d0 d3 d4 d6 d9 (fun x hx' => (hX.1 x hx').elim) (by rw [hRR]; exact hfr) (by rw [hRR]; exact hlo) (by rw [hRR]; omega) (by rw [hRR]; omega) C.2.2.2.2.2.2.2.2 ?_ hS.2.2 hcs.1 hcs.2)
  intro t _ hz hk
  exact ⟨G, hx, hP.kept (fun k q hq => hk q.1 ((hP k q hq).lt)), Nat.le_trans hS.1 hz, fun q g1 g2 => (hk q (Nat.lt_of_lt_of_le g1 hS.1)).trans (hS.2.1 q g1 g2)⟩
end GTH
theorem GM.of {L : GL} {y : MethodName} {cc : ByteArray} {mL : Nat} {rt : Option FieldType} {rm : Room} {N : Nat} {ad : Nat → Nat} {G : Nat → va_E} {av : List Value} {Q : Option Value → (Nat → va_E) → Prop} {own : String} {lo : List (Nat × Value)} (hy : plainName y.cls = true) (hown : y.cls = own) (hlo : lv_args 0 av = lo) (hsl : (lg_sl av).length ≤ mL)
    (body : ∀ E : GE, gC L E cc own mL rm → gR L E rt rm.cells rm.slots N ad Q → GW L E N ad G 0 0 0 lo []) : GM L y cc mL rt rm N ad G av Q := by
  refine Met.ofW (cc := cc) (maxL := mL) (ret := rt) hy rfl ?_
  intro p e s m args below meth c s₁ B hml hv
  obtain ⟨rfl, hP, hD, hK⟩ := hv
  have hts := atoms_spec (ws := .code y cc mL rt :: AW) B.pre
  have K := body (p, e, rm, s, m, av.toArray, below, meth, c, MQ below (gQ L N ad Q) av.toArray s rm.cells rm.slots (gA L), mL)
    ⟨B.exec, B.bytes, hml, rfl, rfl, hown ▸ findClass_of_methodNamed B.named, fun w hw => hts w (List.mem_cons_of_mem _ hw), hK, B.notSynchronized⟩ ⟨B.returns, fun t h => h⟩
    hD s.heap [] _ (hlo ▸ lv_entry av hsl) hP va_S.rf
  rw [lg_entry_eq]
  exact K
theorem GN.of {L : GL} {y : MethodName} {cc : ByteArray} {mL : Nat} {rm : Room} {N : Nat} {ad : Nat → Nat} {G : Nat → va_E} {av : List Value} {Q : Nat → (Nat → Nat) → (Nat → va_E) → Prop} {own : String} {lo : List (Nat × Value)} (hy : plainName y.cls = true) (hown : y.cls = own) (hin : y.name = "<init>") (hlo : lv_args 0 av = lo) (hsl : (lg_sl av).length ≤ mL)
    (body : ∀ E : GE, gC L E cc own mL rm → gRn L E rm.cells rm.slots Q → GW L E N ad G 0 0 0 lo []) : GN L y cc mL rm N ad G av Q := by
  refine Met.ofW (cc := cc) (maxL := mL) (ret := none) hy rfl ?_
  intro p e s m args below meth c s₁ B hml hv
  obtain ⟨rfl, hP, hD, hK⟩ := hv
  have hts := atoms_spec (ws := .code y cc mL none :: AW) B.pre
  have hnm : meth.name = y.name := (name_of_methodNamed B.named B.method).1
  have K := body (p, e, rm, s, m, av.toArray, below, meth, c, MQ below (gQn L Q) av.toArray s rm.cells rm.slots (gA L), mL)
    ⟨B.exec, B.bytes, hml, rfl, rfl, hown ▸ findClass_of_methodNamed B.named, fun w hw => hts w (List.mem_cons_of_mem _ hw), hK, B.notSynchronized⟩ ⟨B.returns, hnm.trans hin, fun t h => h⟩
    hD s.heap [] _ (hlo ▸ lv_entry av hsl) hP va_S.rf
  rw [lg_entry_eq]
  exact K
theorem GX.of {L : GL} {y : MethodName} {cc : ByteArray} {mL : Nat} {rt : Option FieldType} {rm : Room} {N : Nat} {ad : Nat → Nat} {G : Nat → va_E} {av : List Value} {Q : Option Value → (Nat → va_E) → Prop} {X : String → (Nat → va_E) → Prop} {own : String} {lo : List (Nat × Value)} (hy : plainName y.cls = true) (hown : y.cls = own) (hlo : lv_args 0 av = lo) (hsl : (lg_sl av).length ≤ mL)
    (body : ∀ E : GE, gC L E cc own mL rm → gR L E rt rm.cells rm.slots N ad Q → gRx L E rm.cells rm.slots N ad X → GW L E N ad G 0 0 0 lo []) : GX L y cc mL rt rm N ad G av Q X := by
  refine vx_ofW (cc := cc) (maxL := mL) (ret := rt) hy rfl ?_
  intro p e s m args below meth c s₁ B hml ht hv
  obtain ⟨rfl, hP, hD, hK⟩ := hv
  have hts := atoms_spec (ws := .code y cc mL rt :: AW) B.pre
  have K := body (p, e, rm, s, m, av.toArray, below, meth, c, vx_MQ below (gQ L N ad Q) (gX L N ad X) av.toArray s rm.cells rm.slots (gA L), mL)
    ⟨B.exec, B.bytes, hml, rfl, rfl, hown ▸ findClass_of_methodNamed B.named, fun w hw => hts w (List.mem_cons_of_mem _ hw), hK, B.notSynchronized⟩
    ⟨B.returns, fun t ⟨o, h1, h2, h3, h4⟩ => ⟨o, h1, h2, Or.inl ⟨h3, h4⟩⟩⟩
    ⟨ht, fun t ⟨o, h1, h2, h3⟩ => ⟨o, h1, h2, h3.elim (fun h => h.1.elim) Or.inr⟩⟩
    hD s.heap [] _ (hlo ▸ lv_entry av hsl) hP va_S.rf
  rw [lg_entry_eq]
  exact K
def Agr {α : Type} (S : List Nat) (G G' : Nat → α) : Prop := ∀ j, j ∉ S → G' j = G j
theorem Agr.rf {α : Type} {S : List Nat} {G : Nat → α} : Agr S G G := fun _ _ => rfl
theorem Agr.up {α : Type} {k : Nat} {G : Nat → α} {e : α} : Agr [k] G (va_up G k e) := fun j hj => by
  simp only [List.mem_singleton] at hj
  simp [va_up, hj]
theorem Agr.tr {α : Type} {S S1 S2 : List Nat} {G G1 G2 : Nat → α} (h1 : Agr S1 G G1) (h2 : Agr S2 G1 G2) (i1 : ∀ j ∈ S1, j ∈ S) (i2 : ∀ j ∈ S2, j ∈ S) : Agr S G G2 := fun j hj => (h2 j (fun h => hj (i2 j h))).trans (h1 j (fun h => hj (i1 j h)))
theorem Agr.wk {α : Type} {S S1 : List Nat} {G G1 : Nat → α} (h1 : Agr S1 G G1) (i1 : ∀ j ∈ S1, j ∈ S) : Agr S G G1 := fun j hj => h1 j (fun h => hj (i1 j h))
theorem up_same {α : Type} {k : Nat} {G : Nat → α} {e : α} : va_up G k e k = e := by simp [va_up]
theorem up_ne {α : Type} {k j : Nat} {G : Nat → α} {e : α} (h : j ≠ k) : va_up G k e j = G j := by simp [va_up, h]
theorem up_up {α : Type} {k : Nat} {G : Nat → α} {e e' : α} : va_up (va_up G k e) k e' = va_up G k e' := by funext j; by_cases h : j = k <;> simp [va_up, h]
end
section
/-! a thrown exception whose constructor links its class above at another place (java.util.NoSuchElementException of this JDK: 13): g_ctorX, g_throwX, g_throwXW follow the proofs of Stand.ctorThrowS (library) and vx_throwS, vx_throwSW (kit/laws) with that one link changed -/
def gAtX (own : String) (ic : Nat) (X : String) (ix : Nat) (rx : ByteArray) (Y : String) (r : List String) : List Cond :=
  Bundle.throwableAtoms ++ Bundle.throwableSAtoms ++ (Bundle.passSAtoms X Y ix rx ++ Bundle.chainSAtoms Y r) ++
  [.methodLink own ic (Bundle.initS X), .instantiable X 6, .castable X X, .selects X Bundle.tFill0 Bundle.tFill0, .selects X Bundle.tFill Bundle.tFill,
   .lays X Bundle.tN "cause" "Ljava/lang/Throwable;", .lays X Bundle.tN "stackTrace" Bundle.steD, .lays X Bundle.tN "suppressedExceptions" Bundle.listD, .lays X Bundle.tN "detailMessage" "Ljava/lang/String;",
   .isRef (.static Bundle.tN "UNASSIGNED_STACK" Bundle.steD), .isRef (.static Bundle.tN "SUPPRESSED_SENTINEL" Bundle.listD),
   .fieldLink Bundle.tN 198 Bundle.tN "backtrace" "Ljava/lang/Object;", .lays Bundle.tN Bundle.tN "backtrace" "Ljava/lang/Object;", .lays X Bundle.tN "backtrace" "Ljava/lang/Object;"]
theorem g_chainX {args : Array Value} {s : State} {pl : Platform} (hpl : pl.magicAccessors = ({} : Platform).magicAccessors) {top : MethodId} (htop : s.methodNamed? (Bundle.initS Bundle.tN) = some top)
    {ix : Nat} {rx : ByteArray} (x0 : decode rx 0 = .ok (.aload_n 0, 1)) (x1 : decode rx 1 = .ok (.aload_n 1, 1)) (x2 : decode rx 2 = .ok (.invokespecial ix, 3)) (x5 : decode rx 5 = .ok (.return_, 1))
    {X Y : String} {r : List String} (hX : Bundle.fit X = true) (hY : Bundle.fit Y = true) (hn : ∀ n ∈ r, Bundle.fit n = true) (h : ∀ c ∈ Bundle.passSAtoms X Y ix rx ++ Bundle.chainSAtoms Y r, c.before args s = true) :
    ∃ (P1 : PassC) (Ps : List PassC), Ps.length = (Y :: r).length ∧ P1.LinksS pl s ∧ (∀ P, P ∈ Ps → P.LinksS pl s) ∧ s.methodNamed? (Bundle.initS X) = some P1.m ∧
      P1.sup = firstOf top (Ps.map (·.toPassT)) ∧ PassesOn top (Ps.map (·.toPassT)) := by
  obtain ⟨P, L, hm, hs⟩ := PassC.ofS_atoms (args := args) (s := s) hpl (X := X) (Y := Y) (Bundle.fit_spec hX).1 (Bundle.fit_spec hY).2 x0 x1 x2 x5 (fun c hc => h c (List.mem_append_left _ hc))
  obtain ⟨P', Ps, hlen, L', hL, hm', hsup, hpass⟩ := Bundle.chainS (args := args) hpl htop r Y hY hn (fun c hc => h c (List.mem_append_right _ hc))
  exact ⟨P, P' :: Ps, by simp [hlen], L, fun Q hQ => (List.mem_cons.mp hQ).elim (fun e => e ▸ L') (fun z => hL Q z), hm, Option.some.inj (hs.symm.trans hm'), hsup, hpass⟩
set_option maxHeartbeats 1000000 in
theorem g_ctorX {p : Program} {l : Launch} {e : Env} {R : Room} {s : State} {m₀ : MethodId} {args : Array Value} {below : List Frame} {meth : Method} {c : Code} {W : State} {locs : List Loc} {cells slots : Nat} (X : Stand p l e R s m₀ args below meth c W locs cells slots) (hexec : p.tables.exec = Jvm.exec) (htr : e.platform.stackTraces = false) {own cls Y : String} {r : List String} {ic ix : Nat} {rx : ByteArray} (x0 : decode rx 0 = .ok (.aload_n 0, 1)) (x1 : decode rx 1 = .ok (.aload_n 1, 1)) (x2 : decode rx 2 = .ok (.invokespecial ix, 3)) (x5 : decode rx 5 = .ok (.return_, 1))
    (hown : s.vm.findClass own = some m₀.cls) (hcls : Bundle.fit cls = true) (hY0 : Bundle.fit Y = true) (hnames : ∀ n ∈ r, Bundle.fit n = true)
    (h : ∀ a ∈ gAtX own ic cls ix rx Y r, a.before args s = true)
    (hlocs : ∀ x ∈ locs, ∀ cell, s.heap[x.base]? = some cell → cell.vm.isStatics = false)
    {a : Addr} {cX : ClassId} {kX : Class} (hfoundX : s.vm.findClass cls = some cX) (hkX : s.vm.classes[cX]? = some kX) (hcell : W.heap[a]? = some (freshCell cX kX)) (hnew : s.heap.size ≤ a)
    {msg : Value} (hmsg : msg.isRef = true)
    {g : JFrame} (hg : g.method = m₀) (hsize : g.locals.size = c.maxLocals) (hlocked : g.locked = none) (hentered : g.entered = []) {rest : List Value} (hstack : g.stack = msg :: .ref a :: .ref a :: rest)
    (hd6 : decode c.code g.pc = .ok (.invokespecial ic, 3)) (hd9 : decode c.code (g.pc + 3) = .ok (.athrow, 1)) (hout : ∀ x ∈ c.exceptionTable.toList, covers x (g.pc + 3) = false)
    (hRframes : (Y :: r).length + 3 < R.frames) (hRlocals : 2 * g.monitorRoom + ((Value.ref a :: rest).map fun v => v.category).sum + (13 * ((Y :: r).length + 1) + 42) ≤ R.locals) (hlocks : meth.locks = false) :
    ∃ U : State, Steps p.tables e below (W.setTop g) U ∧ U.status = .running ∧ Ended U below (.threw a) ∧ s.WarmedH U.vm ∧ s.sameButNew ({ U with vm := s.vm } : State) locs cells slots ∧
      ∃ ce, U.heap[a]? = some ce ∧ ce.vm = .none ∧ s.vm.findClass cls = some ce.cls := by
  have howns : e.platform.frameOwnsMonitors = true := by rw [X.admits.platform]
  have hfin : e.platform.finalization = false := by rw [X.admits.platform]
  have hpl : e.platform.magicAccessors = ({} : Platform).magicAccessors := by rw [X.admits.platform]
  have a' : ∀ x, x ∈ gAtX own ic cls ix rx Y r → x.holds args s none s [] = true := fun x hx => h x hx
  obtain ⟨T, Z0, L, -, Y⟩ := ThrowableC.of_atoms (args := args) howns hfin hpl (fun x hx => h x (by simp [gAtX, hx]))
  obtain ⟨Z, M, LZ, LM, hnZ⟩ := Init0T.ofS_atoms (args := args) hpl L Y (fun x hx => h x (by simp [gAtX, hx]))
  obtain ⟨P1, Ps, hlen, L1, hL, hP1m, hlink1, hlink⟩ := g_chainX (args := args) hpl hnZ x0 x1 x2 x5 hcls hY0 hnames (fun x hx => h x (List.mem_append_left _ (List.mem_append_right _ hx)))
  have hfound : s.vm.findClass cls = some P1.m.cls := findClass_of_methodNamed hP1m
  cases Option.some.inj (hfoundX.symm.trans hfound)
  obtain ⟨c1, kX', hc1, hk, hord, -, -, hn6⟩ := Cond.instantiable_spec (a' (.instantiable cls 6) (by simp [gAtX]))
  cases Option.some.inj (hc1.symm.trans hfound)
  cases Option.some.inj (hkX.symm.trans hk)
  have hsel0 : selectMethod e.platform s.vm P1.m.cls T.fill0 = .method T.fill0 := by
    obtain ⟨c2, r2, m2, q1, q2, q3, q4, -⟩ := Cond.selects_spec (a' (.selects cls Bundle.tFill0 Bundle.tFill0) (by simp [gAtX]))
    cases Option.some.inj (q1.symm.trans hfound)
    cases Option.some.inj (q2.symm.trans (State.methodFound?_of_named Y.fill0 (by decide)))
    cases Option.some.inj (q3.symm.trans Y.fill0)
    rw [Launch.admits_selectMethod X.admits]; exact q4
  have hselF : selectMethod e.platform s.vm P1.m.cls T.fill = .method T.fill := by
    obtain ⟨c2, r2, m2, q1, q2, q3, q4, -⟩ := Cond.selects_spec (a' (.selects cls Bundle.tFill Bundle.tFill) (by simp [gAtX]))
    cases Option.some.inj (q1.symm.trans hfound)
    cases Option.some.inj (q2.symm.trans (State.methodFound?_of_named Y.fill (by decide)))
    cases Option.some.inj (q3.symm.trans Y.fill)
    rw [Launch.admits_selectMethod X.admits]; exact q4
  obtain ⟨cellS0, hcS0, hiss⟩ := Y.statics
  obtain ⟨u0, hu0⟩ := Cond.staticRefV Y.unassigned L.unassignedStatic L.statics hcS0 hiss (a' (.isRef (.static Bundle.tN "UNASSIGNED_STACK" Bundle.steD)) (by simp [gAtX]))
  obtain ⟨sen, hsen⟩ := Cond.staticRefV Y.sentinel L.sentinelStatic L.statics hcS0 hiss (a' (.isRef (.static Bundle.tN "SUPPRESSED_SENTINEL" Bundle.listD)) (by simp [gAtX]))
  obtain ⟨ci198, i198, fB, hk198, hg198, ha198, hsB, -, hnB, htB, hffB⟩ := Cond.ownField (t := .object "java/lang/Object") Y.found L.cls (by decide +kernel) (a' (.fieldLink Bundle.tN 198 Bundle.tN "backtrace" "Ljava/lang/Object;") (by simp [gAtX])) (a' (.lays Bundle.tN Bundle.tN "backtrace" "Ljava/lang/Object;") (by simp [gAtX])) e.platform hpl
  obtain ⟨cellS, hcS', heS, -, hkeep⟩ := X.same.2.2.2.2.2 T.aS cellS0 hcS0
  have hcellS : W.heap[T.aS]? = some cellS := hcS'
  have hout' : ∀ i, (⟨T.aS, i⟩ : Loc) ∉ locs := fun i hmem => by
    have := hlocs _ hmem cellS0 hcS0
    rw [hiss] at this; cases this
  have hknownS : cellS.vm ≠ .unknown := by
    rw [heS]; intro hu
    rw [show cellS0.vm = .unknown from hu] at hiss
    cases hiss
  have hneS : T.aS ≠ a := Nat.ne_of_lt (Nat.lt_of_lt_of_le (Array.getElem?_eq_some_iff.mp hcS0).1 hnew)
  obtain ⟨iM, hffM⟩ := Y.msg
  obtain ⟨tyC, dC, hdC, hdnC⟩ := Cond.laysAt hfound hk Y.cause (a' (.lays cls Bundle.tN "cause" "Ljava/lang/Throwable;") (by simp [gAtX]))
  obtain ⟨tyS, dS, hdS, hdnS⟩ := Cond.laysAt hfound hk Y.stack (a' (.lays cls Bundle.tN "stackTrace" Bundle.steD) (by simp [gAtX]))
  obtain ⟨tyP, dP, hdP, hdnP⟩ := Cond.laysAt hfound hk Y.supp (a' (.lays cls Bundle.tN "suppressedExceptions" Bundle.listD) (by simp [gAtX]))
  obtain ⟨tyM, dM, hdM, hdnM⟩ := Cond.laysAt hfound hk hffM (a' (.lays cls Bundle.tN "detailMessage" "Ljava/lang/String;") (by simp [gAtX]))
  obtain ⟨tyB, dB, hdB, hdnB⟩ := Cond.laysAt hfound hk hffB (a' (.lays cls Bundle.tN "backtrace" "Ljava/lang/Object;") (by simp [gAtX]))
  have bC := Cond.laysApart hdB hdC hdnB hdnC (by rw [hnB, Y.causeName]; decide)
  have bS := Cond.laysApart hdB hdS hdnB hdnS (by rw [hnB, Y.stackName]; decide)
  have bP := Cond.laysApart hdB hdP hdnB hdnP (by rw [hnB, Y.suppName]; decide)
  have hskip : SkipFacts T e.platform s (fun u => u) u0 ((preparedCellV T.toThrowableT (freshCell P1.m.cls kX) a u0 sen).withEntry W.cur) :=
    ⟨{ ci198 := ci198, i198 := i198, fBack := fB }, ⟨hk198, hg198, ha198, hsB⟩, by
      have := fresh_default (c := P1.m.cls) tyB
      rw [htB] at this
      simpa [preparedCellV, Cell.setSlot, Cell.withEntry, Array.getElem?_setIfInBounds, bC, bS, bP, bC.symm, bS.symm, bP.symm, defaultValue] using this, fun _ _ => rfl⟩
  obtain ⟨tm, methC, cdC, kC, vm₁, hnC, -, -, -, -, -, -, -, hW₁, st1⟩ := Steps.initColdS (tb := p.tables) (e := e) (below := below) (s := s) (U := W) X.here hexec X.warmed hpl hown (t := Bundle.initS cls) rfl rfl (Bundle.fit_spec hcls).2
    (a' (.methodLink own ic (Bundle.initS cls)) (by simp [gAtX])) (h (.instanceMethod (Bundle.initS cls)) (by simp [gAtX, Bundle.passSAtoms])) (bytes := rx) (maxL := 2) (h (.code (Bundle.initS cls) rx 2 none) (by simp [gAtX, Bundle.passSAtoms]))
    (f := g) hg (a := a) (msg := msg) (rest := .ref a :: rest) hstack hd6
  cases Option.some.inj (hnC.symm.trans hP1m)
  have X₁ := X.noted hW₁
  obtain ⟨vm₂, X₂, st2⟩ := X₁.ctorMessageOffV hexec (g := { g with stack := .ref a :: rest }) hg hsize T L Z LZ M LM (P1 :: Ps)
    (fun P hP => by rcases List.mem_cons.mp hP with rfl | hP; exact L1; exact hL P hP) ⟨hlink1, hlink⟩ (u0 := u0) (sen := sen) (self := a) hmsg (cell := freshCell P1.m.cls kX) (cellS := cellS)
    hcell (fun _ => by simp) (by simp) rfl rfl hsel0 hselF hcellS hneS hknownS (by rw [hkeep _ (hout' _)]; exact hu0) (by rw [hkeep _ (hout' _)]; exact hsen)
    (Takes.of_laid hk hord tyC (by rw [Y.causeType]; rfl)) (Takes.of_laid hk hord tyS (by rw [Y.stackType]; exact fits_refV_array _ u0)) (Takes.of_laid hk hord tyP (by rw [Y.suppType]; exact fits_refV_object _ sen))
    (Takes.of_laid hk hord tyM (by rw [Y.msgType]; exact fits_refV_object _ ⟨msg, hmsg⟩)) Y.objLocals hskip htr [] hd6
    (by simp only [List.length_cons, hlen]; omega) (by simp only [List.length_cons, hlen]; exact hRlocals)
  obtain ⟨hwalk, hrun, hended, hWU, hsame⟩ := X₂.athrowLeaves hexec (g := { g with stack := .ref a :: rest, pc := g.pc + 3 }) hg hlocked hentered hout (a := a) (rest := rest) rfl hd9
  have hlt : a < ((W.setVm vm₁).setVm vm₂).heap.size := (Array.getElem?_eq_some_iff.mp hcell).1
  have hU := heapAt_setCell_self (s := (W.setVm vm₁).setVm vm₂) (plainBareV T.toThrowableT (freshCell P1.m.cls kX) a u0 sen msg) hlt
  refine ⟨_, st1 _ (fun acts => ?_), hrun, hended, hWU, hsame.weaken (fun y hy hlt' => ?_) (Nat.le_refl _) (Nat.le_refl _), _, hU, rfl, hfound⟩
  · rw [doInvoke_state]
    exact st2 _ hwalk
  · rcases List.mem_append.mp hy with h1 | h1
    · exact h1
    · exfalso
      have hb : y.base = a := by
        simp only [List.mem_cons, List.not_mem_nil, or_false] at h1
        rcases h1 with rfl | rfl | rfl | rfl | rfl <;> rfl
      rw [hb] at hlt'
      exact Nat.not_lt.mpr hnew hlt'
theorem g_throwX {p : Program} {l : Launch} {e : Env} {R : Room} {s : State} {m : MethodId} {args : Array Value} {below : List Frame} {meth : Method} {c : Code} {H : Heap} {locs : List Loc} {cells slots : Nat} {free : Addr → Prop} {ls : Array Slot} {rest : List Value} {Qc : Array Value → State → Outcome → State → Prop} {XC : String → State → State → Prop} {cc : ByteArray} {pc : Nat} (hexec : p.tables.exec = Jvm.exec) (hb : c.code = cc) (hl : l.stackTraces = false) {own cls text Ys : String} {r : List String} {ik is ic mc ms sa ix : Nat} {rx : ByteArray} (x0 : decode rx 0 = .ok (.aload_n 0, 1)) (x1 : decode rx 1 = .ok (.aload_n 1, 1)) (x2 : decode rx 2 = .ok (.invokespecial ix, 3)) (x5 : decode rx 5 = .ok (.return_, 1)) {A : Nat → Prop}
    (hown : s.vm.findClass own = some m.cls) (hcls : Bundle.fit cls = true) (hY0 : Bundle.fit Ys = true) (hnames : ∀ n ∈ r, Bundle.fit n = true)
    (hk : (Cond.classLink own ik cls).before args s = true) (hini : (Cond.initialized cls).before args s = true) (hstr : vk_R own is text sa s) (hat : ∀ w ∈ (gAtX own ic cls ix rx Ys r).filter vx_no, w.before args s = true)
    (hgood : ∀ w ∈ Cond.classLink own ik cls :: Cond.initialized cls :: (gAtX own ic cls ix rx Ys r).filter vx_no, vx_ot w = true)
    (hU : vx_Zq Bundle.tN "UNASSIGNED_STACK" Bundle.steD A s s.heap) (hN : vx_Zq Bundle.tN "SUPPRESSED_SENTINEL" Bundle.listD A s s.heap) (hS : va_S A s.heap H locs) (hsize : ls.size = c.maxLocals)
    (d0 : decode cc pc = .ok (.new ik, 3)) (d3 : decode cc (pc + 3) = .ok (.dup, 1)) (d4 : decode cc (pc + 4) = .ok (.ldc is, 2)) (d6 : decode cc (pc + 6) = .ok (.invokespecial ic, 3)) (d9 : decode cc (pc + 9) = .ok (.athrow, 1))
    (hout : ∀ x ∈ c.exceptionTable.toList, covers x (pc + 9) = false)
    (hRframes : (Ys :: r).length + 3 < R.frames) (hRlocals : (rest.map fun v => v.category).sum + (13 * ((Ys :: r).length + 1) + 43) ≤ R.locals) (hRcells : cells + 1 ≤ R.cells) (hRslots : slots + 6 ≤ R.slots) (hlocks : meth.locks = false)
    (hx : ∀ t : State, s.vm.Alike t.vm → H.size ≤ t.heap.size → (∀ q : Nat, q < H.size → t.heap[q]? = H[q]?) → XC cls s t)
    (hf : ∀ z ∈ locs, free z.base) (hc : cells + 1 ≤ mc) (hs : slots + 6 ≤ ms) :
    W p l e R s m args below meth c H locs cells slots (vx_MQ below Qc XC args s mc ms free) (F0 m pc ls rest) := by
  intro T hT X
  have htr : e.platform.stackTraces = false := (show e.platform.stackTraces = l.stackTraces by rw [X.admits.platform]).trans hl
  have Y := vx_rebase X (R' := { frames := R.frames, locals := R.locals, cells := 1, slots := 6 }) (Nat.le_refl _) (Nat.le_refl _) hRcells hRslots
  obtain ⟨s', hA⟩ : ∃ z, z = (T.setVm s.vm).setFrames (.invoking m args :: below) := ⟨_, rfl⟩
  rw [← hA] at Y
  have hvm : s'.vm = s.vm := by rw [hA]; rfl
  have hhp : s'.heap = H := by rw [hA]; exact hT
  have hW0 : s.WarmedH s'.vm := by rw [hvm]; exact State.WarmedH.refl s
  have hat' : ∀ w ∈ (gAtX own ic cls ix rx Ys r).filter vx_no, w.before args s' = true := fun w hw => vx_ot_at hW0 hvm.symm (hgood w (List.mem_cons_of_mem _ (List.mem_cons_of_mem _ hw))) (hat w hw)
  have hk' : (Cond.classLink own ik cls).before args s' = true := vx_ot_at hW0 hvm.symm (hgood _ List.mem_cons_self) hk
  have hini' : (Cond.initialized cls).before args s' = true := vx_ot_at hW0 hvm.symm (hgood _ (List.mem_cons_of_mem _ List.mem_cons_self)) hini
  have hU' : vx_Zq Bundle.tN "UNASSIGNED_STACK" Bundle.steD A s' s'.heap := by rw [hhp]; exact vx_Zq.moved hW0.alike (hU.kept hS.2.1)
  have hN' : vx_Zq Bundle.tN "SUPPRESSED_SENTINEL" Bundle.listD A s' s'.heap := by rw [hhp]; exact vx_Zq.moved hW0.alike (hN.kept hS.2.1)
  have h : ∀ w ∈ gAtX own ic cls ix rx Ys r, w.before args s' = true := vx_own hat' (vx_isRefq hU'.1) (vx_isRefq hN'.1) hU'.2.word hN'.2.word
  have hown' : s'.vm.findClass own = some m.cls := by rw [hvm]; exact hown
  have hins : (Cond.instantiable cls 6).before args s' = true := h _ (by simp [gAtX])
  obtain ⟨vm₁, cX, kX, hfX, hkX, -, -, X₁, st1⟩ := Y.newCold hexec (own := own) (C := cls) (index := ik) (n := 6) hown' hk' hins hini'
    (g := F0 m pc ls rest) rfl (by rw [hb]; exact d0) (Nat.le_refl _) (Nat.le_refl _)
  generalize hT1 : (T.setVm vm₁).pushCell { cls := cX, slots := kX.instanceTypes.map defaultValue, vm := .none } = T1 at X₁ st1
  have hcat : (Value.ref T.heap.size).category = 1 := rfl
  have hcellA : T1.heap[T.heap.size]? = some (freshCell cX kX) := by rw [← hT1]; exact State.heap_pushCell_size _ _
  have d3' : decode c.code (pc + 3) = .ok (.dup, 1) := by rw [hb]; exact d3
  have d4' : decode c.code (pc + 4) = .ok (.ldc is, 2) := by rw [hb]; exact d4
  have hstr' : vk_R own is text sa s' := vk_R.warm hW0 hstr
  obtain ⟨U, hsteps, hrun, hend, hW, hsame, ce, hce, hOv, hOc⟩ := g_ctorX X₁ hexec htr x0 x1 x2 x5 (own := own) (cls := cls) (ic := ic) hown' hcls hY0 hnames h (fun x hx => nomatch hx) hfX hkX hcellA (by rw [hhp, hT]; exact Nat.le_refl _) (msg := .ref sa) rfl
    (g := { method := m, pc := pc + 6, locals := ls, stack := .ref sa :: .ref T.heap.size :: .ref T.heap.size :: rest, locked := none }) rfl hsize rfl rfl (rest := rest) rfl
    (by rw [hb]; exact d6) (by rw [hb]; exact d9) hout hRframes (by simp only [List.map_cons, List.sum_cons, hcat]; omega) hlocks
  obtain ⟨f1, f2⟩ := vx_frame hsame
  rw [hhp] at f1 f2
  have hWs : s.WarmedH U.vm := State.WarmedH.trans hW0 hW
  have hcl : s.vm.findClass cls = some ce.cls := by
    have h9 := hOc
    rw [hvm] at h9
    exact h9
  have hall : s.sameButNew ({ U with vm := s.vm } : State) locs mc ms := by
    subst hA
    obtain ⟨e1, e2⟩ := hsame
    rw [State.setFrames_setFrames] at e1
    have h2 : (T.setVm s.vm).sameButNew ({ U with vm := s.vm } : State) [] (0 + 1) (0 + 6) := ⟨e1, e2⟩
    have h3 := X.same.trans h2
    rw [List.append_nil] at h3
    exact h3.mono hc hs
  refine ⟨U, ?_, .threw T.heap.size, hrun, hend, Or.inr ⟨T.heap.size, rfl, cls, ce, locs, hx U hWs.alike f1 (fun q hq => f2 q hq (fun z hz => nomatch hz)), hce, hOv, hcl, hWs, hall, hf⟩⟩
  refine st1 _ ?_
  show Steps p.tables e below (T1.setTop { method := m, pc := pc + 3, locals := ls, stack := .ref T.heap.size :: rest, locked := none }) _
  jvm_step X₁.here [X₁.here.top, hexec, d3', Value.category]
  exact X₁.ldcString hexec (own := own) (text := text) (index := is) (a := sa) hown' hstr'.1 hstr'.2
    (g := { method := m, pc := pc + 4, locals := ls, stack := .ref T.heap.size :: .ref T.heap.size :: rest, locked := none }) rfl d4' _ hsteps
theorem g_throwXW {p : Program} {l : Launch} {e : Env} {R : Room} {s : State} {m : MethodId} {args : Array Value} {below : List Frame} {meth : Method} {c : Code} {H : Heap} {locs : List Loc} {cells slots : Nat} {free : Addr → Prop} {ls : Array Slot} {rest : List Value} {Qc : Array Value → State → Outcome → State → Prop} {XC : String → State → State → Prop} {cc : ByteArray} {pc : Nat} (hexec : p.tables.exec = Jvm.exec) (hb : c.code = cc) (hl : l.stackTraces = false) {own cls text Ys : String} {r : List String} {ik is ic mc ms sa ix : Nat} {rx : ByteArray} (x0 : decode rx 0 = .ok (.aload_n 0, 1)) (x1 : decode rx 1 = .ok (.aload_n 1, 1)) (x2 : decode rx 2 = .ok (.invokespecial ix, 3)) (x5 : decode rx 5 = .ok (.return_, 1)) {A : Nat → Prop}
    (hown : s.vm.findClass own = some m.cls) (hcls : Bundle.fit cls = true) (hY0 : Bundle.fit Ys = true) (hnames : ∀ n ∈ r, Bundle.fit n = true)
    (hk : (Cond.classLink own ik cls).before args s = true) (hini : (Cond.initialized cls).before args s = true) (hstr : vk_R own is text sa s) (hat : ∀ w ∈ (gAtX own ic cls ix rx Ys r).filter vx_no, w.before args s = true)
    (hgood : ∀ w ∈ Cond.classLink own ik cls :: Cond.initialized cls :: (gAtX own ic cls ix rx Ys r).filter vx_no, vx_ot w = true)
    (hU : vx_Zq Bundle.tN "UNASSIGNED_STACK" Bundle.steD A s s.heap) (hN : vx_Zq Bundle.tN "SUPPRESSED_SENTINEL" Bundle.listD A s s.heap) (hS : va_S A s.heap H locs) (hsize : ls.size = c.maxLocals)
    (d0 : decode cc pc = .ok (.new ik, 3)) (d3 : decode cc (pc + 3) = .ok (.dup, 1)) (d4 : decode cc (pc + 4) = .ok (.ldc_w is, 3)) (d7 : decode cc (pc + 7) = .ok (.invokespecial ic, 3)) (d10 : decode cc (pc + 10) = .ok (.athrow, 1))
    (hout : ∀ x ∈ c.exceptionTable.toList, covers x (pc + 10) = false)
    (hRframes : (Ys :: r).length + 3 < R.frames) (hRlocals : (rest.map fun v => v.category).sum + (13 * ((Ys :: r).length + 1) + 43) ≤ R.locals) (hRcells : cells + 1 ≤ R.cells) (hRslots : slots + 6 ≤ R.slots) (hlocks : meth.locks = false)
    (hx : ∀ t : State, s.vm.Alike t.vm → H.size ≤ t.heap.size → (∀ q : Nat, q < H.size → t.heap[q]? = H[q]?) → XC cls s t)
    (hf : ∀ z ∈ locs, free z.base) (hc : cells + 1 ≤ mc) (hs : slots + 6 ≤ ms) :
    W p l e R s m args below meth c H locs cells slots (vx_MQ below Qc XC args s mc ms free) (F0 m pc ls rest) := by
  intro T hT X
  have htr : e.platform.stackTraces = false := (show e.platform.stackTraces = l.stackTraces by rw [X.admits.platform]).trans hl
  have Y := vx_rebase X (R' := { frames := R.frames, locals := R.locals, cells := 1, slots := 6 }) (Nat.le_refl _) (Nat.le_refl _) hRcells hRslots
  obtain ⟨s', hA⟩ : ∃ z, z = (T.setVm s.vm).setFrames (.invoking m args :: below) := ⟨_, rfl⟩
  rw [← hA] at Y
  have hvm : s'.vm = s.vm := by rw [hA]; rfl
  have hhp : s'.heap = H := by rw [hA]; exact hT
  have hW0 : s.WarmedH s'.vm := by rw [hvm]; exact State.WarmedH.refl s
  have hat' : ∀ w ∈ (gAtX own ic cls ix rx Ys r).filter vx_no, w.before args s' = true := fun w hw => vx_ot_at hW0 hvm.symm (hgood w (List.mem_cons_of_mem _ (List.mem_cons_of_mem _ hw))) (hat w hw)
  have hk' : (Cond.classLink own ik cls).before args s' = true := vx_ot_at hW0 hvm.symm (hgood _ List.mem_cons_self) hk
  have hini' : (Cond.initialized cls).before args s' = true := vx_ot_at hW0 hvm.symm (hgood _ (List.mem_cons_of_mem _ List.mem_cons_self)) hini
  have hU' : vx_Zq Bundle.tN "UNASSIGNED_STACK" Bundle.steD A s' s'.heap := by rw [hhp]; exact vx_Zq.moved hW0.alike (hU.kept hS.2.1)
  have hN' : vx_Zq Bundle.tN "SUPPRESSED_SENTINEL" Bundle.listD A s' s'.heap := by rw [hhp]; exact vx_Zq.moved hW0.alike (hN.kept hS.2.1)
  have h : ∀ w ∈ gAtX own ic cls ix rx Ys r, w.before args s' = true := vx_own hat' (vx_isRefq hU'.1) (vx_isRefq hN'.1) hU'.2.word hN'.2.word
  have hown' : s'.vm.findClass own = some m.cls := by rw [hvm]; exact hown
  have hins : (Cond.instantiable cls 6).before args s' = true := h _ (by simp [gAtX])
  obtain ⟨vm₁, cX, kX, hfX, hkX, -, -, X₁, st1⟩ := Y.newCold hexec (own := own) (C := cls) (index := ik) (n := 6) hown' hk' hins hini'
    (g := F0 m pc ls rest) rfl (by rw [hb]; exact d0) (Nat.le_refl _) (Nat.le_refl _)
  generalize hT1 : (T.setVm vm₁).pushCell { cls := cX, slots := kX.instanceTypes.map defaultValue, vm := .none } = T1 at X₁ st1
  have hcat : (Value.ref T.heap.size).category = 1 := rfl
  have hcellA : T1.heap[T.heap.size]? = some (freshCell cX kX) := by rw [← hT1]; exact State.heap_pushCell_size _ _
  have d3' : decode c.code (pc + 3) = .ok (.dup, 1) := by rw [hb]; exact d3
  have d4' : decode c.code (pc + 4) = .ok (.ldc_w is, 3) := by rw [hb]; exact d4
  have hstr' : vk_R own is text sa s' := vk_R.warm hW0 hstr
  obtain ⟨U, hsteps, hrun, hend, hW, hsame, ce, hce, hOv, hOc⟩ := g_ctorX X₁ hexec htr x0 x1 x2 x5 (own := own) (cls := cls) (ic := ic) hown' hcls hY0 hnames h (fun x hx => nomatch hx) hfX hkX hcellA (by rw [hhp, hT]; exact Nat.le_refl _) (msg := .ref sa) rfl
    (g := { method := m, pc := pc + 7, locals := ls, stack := .ref sa :: .ref T.heap.size :: .ref T.heap.size :: rest, locked := none }) rfl hsize rfl rfl (rest := rest) rfl
    (by rw [hb]; exact d7) (by rw [hb]; exact d10) hout hRframes (by simp only [List.map_cons, List.sum_cons, hcat]; omega) hlocks
  obtain ⟨f1, f2⟩ := vx_frame hsame
  rw [hhp] at f1 f2
  have hWs : s.WarmedH U.vm := State.WarmedH.trans hW0 hW
  have hcl : s.vm.findClass cls = some ce.cls := by
    have h9 := hOc
    rw [hvm] at h9
    exact h9
  have hall : s.sameButNew ({ U with vm := s.vm } : State) locs mc ms := by
    subst hA
    obtain ⟨e1, e2⟩ := hsame
    rw [State.setFrames_setFrames] at e1
    have h2 : (T.setVm s.vm).sameButNew ({ U with vm := s.vm } : State) [] (0 + 1) (0 + 6) := ⟨e1, e2⟩
    have h3 := X.same.trans h2
    rw [List.append_nil] at h3
    exact h3.mono hc hs
  refine ⟨U, ?_, .threw T.heap.size, hrun, hend, Or.inr ⟨T.heap.size, rfl, cls, ce, locs, hx U hWs.alike f1 (fun q hq => f2 q hq (fun z hz => nomatch hz)), hce, hOv, hcl, hWs, hall, hf⟩⟩
  refine st1 _ ?_
  show Steps p.tables e below (T1.setTop { method := m, pc := pc + 3, locals := ls, stack := .ref T.heap.size :: rest, locked := none }) _
  jvm_step X₁.here [X₁.here.top, hexec, d3', Value.category]
  exact X₁.ldcStringW hexec (own := own) (text := text) (index := is) (a := sa) hown' hstr'.1 hstr'.2
    (g := { method := m, pc := pc + 4, locals := ls, stack := .ref T.heap.size :: .ref T.heap.size :: rest, locked := none }) rfl d4' _ hsteps
/-- the words of 'throw new cls(..)' of a class whose <init>(String) has the code rx, its link to the class above at place ix -/
def ThrX (own : String) (ik ic : Nat) (cls : String) (ix : Nat) (rx : ByteArray) : Prop :=
  Bundle.fit cls = true ∧ Bundle.fit "java/lang/RuntimeException" = true ∧ (∀ n ∈ ["java/lang/Exception"], Bundle.fit n = true) ∧ Cond.classLink own ik cls ∈ AW ∧ Cond.initialized cls ∈ AW ∧ (∀ w ∈ ((gAtX own ic cls ix rx "java/lang/RuntimeException" ["java/lang/Exception"]).filter vx_no).filter goodWord, w ∈ AW) ∧ (∀ w ∈ ((gAtX own ic cls ix rx "java/lang/RuntimeException" ["java/lang/Exception"]).filter vx_no).filter (fun w => !goodWord w), w ∈ BW) ∧ (∀ w ∈ Cond.classLink own ik cls :: Cond.initialized cls :: (gAtX own ic cls ix rx "java/lang/RuntimeException" ["java/lang/Exception"]).filter vx_no, vx_ot w = true) ∧ decode rx 0 = .ok (.aload_n 0, 1) ∧ decode rx 1 = .ok (.aload_n 1, 1) ∧ decode rx 2 = .ok (.invokespecial ix, 3) ∧ decode rx 5 = .ok (.return_, 1)
section GTX
variable {L : GL} {E : GE} {cc : ByteArray} {own : String} {nL N cs ss pc : Nat} {R : Room} {ad : Nat → Nat} {G : Nat → va_E} {lo : List (Nat × Value)} {st : List Value}
theorem G_throwX (C : gC L E cc own nL R) {X : String → (Nat → va_E) → Prop} {mc ms : Nat} (hX : gRx L E mc ms N ad X) {cls text : String} {ik is ic ix : Nat} {rx : ByteArray} (hB : ThrX own ik ic cls ix rx) (hstr : (own, is, text) ∈ gStr)
    (d0 : decode cc pc = .ok (.new ik, 3)) (d3 : decode cc (pc + 3) = .ok (.dup, 1)) (d4 : decode cc (pc + 4) = .ok (.ldc is, 2)) (d6 : decode cc (pc + 6) = .ok (.invokespecial ic, 3)) (d9 : decode cc (pc + 9) = .ok (.athrow, 1))
    (hfr : 5 < R.frames) (hlo : (st.map fun v => v.category).sum + 82 ≤ R.locals) (hcs : cs + 1 ≤ mc ∧ ss + 6 ≤ ms) (hR : mc ≤ R.cells ∧ ms ≤ R.slots) (hx : X cls G) : GW L E N ad G cs ss pc lo st := by
  intro hD H locs ls hl hP hS
  obtain ⟨h1, h2, h2b, h3, h4, h5, h6, h7, x0, x1, x2, x5⟩ := hB
  obtain ⟨sa, hsa⟩ := C.2.2.2.2.2.2.2.1.2.2.2.1 _ hstr
  have hat : ∀ w ∈ (gAtX own ic cls ix rx "java/lang/RuntimeException" ["java/lang/Exception"]).filter vx_no, w.before E.args E.s = true := vx_hat (fun w hw => C.2.2.2.2.2.2.1 _ (h5 w hw)) h6 (fun w hw => bw_use hw (C.2.2.2.2.2.2.2.1.2.2.2.2.1 w hw))
  have hRR := C.2.2.2.2.1
  refine W_mono hX.2 (g_throwX (mc := mc) (ms := ms) (r := ["java/lang/Exception"]) (A := gA L) (Qc := fun _ _ _ _ => False) C.1 C.2.1 C.2.2.2.2.2.2.2.1.2.2.2.2.2.2.2.2 x0 x1 x2 x5 C.2.2.2.2.2.1 h1 h2 h2b (C.2.2.2.2.2.2.1 _ h3) (C.2.2.2.2.2.2.1 _ h4) hsa hat h7 C.2.2.2.2.2.2.2.1.2.1 C.2.2.2.2.2.2.2.1.2.2.1 hS (hl.1.trans C.2.2.1.symm) d0 d3 d4 d6 d9 (fun x hx' => (hX.1 x hx').elim) (by rw [hRR]; exact hfr) (by rw [hRR]; exact hlo) (by rw [hRR]; omega) (by rw [hRR]; omega) C.2.2.2.2.2.2.2.2 ?_ hS.2.2 hcs.1 hcs.2)
  intro t _ hz hk
  exact ⟨G, hx, hP.kept (fun k q hq => hk q.1 ((hP k q hq).lt)), Nat.le_trans hS.1 hz, fun q g1 g2 => (hk q (Nat.lt_of_lt_of_le g1 hS.1)).trans (hS.2.1 q g1 g2)⟩
theorem G_throwXW (C : gC L E cc own nL R) {X : String → (Nat → va_E) → Prop} {mc ms : Nat} (hX : gRx L E mc ms N ad X) {cls text : String} {ik is ic ix : Nat} {rx : ByteArray} (hB : ThrX own ik ic cls ix rx) (hstr : (own, is, text) ∈ gStr)
    (d0 : decode cc pc = .ok (.new ik, 3)) (d3 : decode cc (pc + 3) = .ok (.dup, 1)) (d4 : decode cc (pc + 4) = .ok (.ldc_w is, 3)) (d6 : decode cc (pc + 7) = .ok (.invokespecial ic, 3)) (d9 : decode cc (pc + 10) = .ok (.athrow, 1))
    (hfr : 5 < R.frames) (hlo : (st.map fun v => v.category).sum + 82 ≤ R.locals) (hcs : cs + 1 ≤ mc ∧ ss + 6 ≤ ms) (hR : mc ≤ R.cells ∧ ms ≤ R.slots) (hx : X cls G) : GW L E N ad G cs ss pc lo st := by
  intro hD H locs ls hl hP hS
  obtain ⟨h1, h2, h2b, h3, h4, h5, h6, h7, x0, x1, x2, x5⟩ := hB
  obtain ⟨sa, hsa⟩ := C.2.2.2.2.2.2.2.1.2.2.2.1 _ hstr
  have hat : ∀ w ∈ (gAtX own ic cls ix rx "java/lang/RuntimeException" ["java/lang/Exception"]).filter vx_no, w.before E.args E.s = true := vx_hat (fun w hw => C.2.2.2.2.2.2.1 _ (h5 w hw)) h6 (fun w hw => bw_use hw (C.2.2.2.2.2.2.2.1.2.2.2.2.1 w hw))
  have hRR := C.2.2.2.2.1
  refine W_mono hX.2 (g_throwXW (mc := mc) (ms := ms) (r := ["java/lang/Exception"]) (A := gA L) (Qc := fun _ _ _ _ => False) C.1 C.2.1 C.2.2.2.2.2.2.2.1.2.2.2.2.2.2.2.2 x0 x1 x2 x5 C.2.2.2.2.2.1 h1 h2 h2b (C.2.2.2.2.2.2.1 _ h3) (C.2.2.2.2.2.2.1 _ h4) hsa hat h7 C.2.2.2.2.2.2.2.1.2.1 C.2.2.2.2.2.2.2.1.2.2.1 hS (hl.1.trans C.2.2.1.symm) d0 d3 d4 d6 d9 (fun x hx' => (hX.1 x hx').elim) (by rw [hRR]; exact hfr) (by rw [hRR]; exact hlo) (by rw [hRR]; omega) (by rw [hRR]; omega) C.2.2.2.2.2.2.2.2 ?_ hS.2.2 hcs.1 hcs.2)
  intro t _ hz hk
  exact ⟨G, hx, hP.kept (fun k q hq => hk q.1 ((hP k q hq).lt)), Nat.le_trans hS.1 hz, fun q g1 g2 => (hk q (Nat.lt_of_lt_of_le g1 hS.1)).trans (hS.2.1 q g1 g2)⟩
end GTX
end
section
/-! the same rows, the heap behind a write told by what it holds; long compares and their branch in one; objects of many fields by a function -/
theorem lg_le {x y : Int64} : lg_cmp x y ≤ 0 ↔ x ≤ y := by
  unfold lg_cmp
  by_cases h : x > y
  · simp only [h, if_true]
    exact ⟨fun z => absurd z (by decide), fun z => absurd h (Int64.not_lt.mpr z)⟩
  · simp only [h, if_false]
    refine ⟨fun _ => Int64.not_lt.mp h, fun _ => ?_⟩
    split <;> decide
theorem lg_lt {x y : Int64} : lg_cmp x y < 0 ↔ x < y := by
  unfold lg_cmp
  by_cases h : x > y
  · simp only [h, if_true]
    exact ⟨fun z => absurd z (by decide), fun z => (Int64.lt_irrefl (Int64.lt_trans z h)).elim⟩
  · by_cases e : x = y
    · subst e
      simp
    · simp only [h, e, if_false]
      exact ⟨fun _ => Int64.lt_of_le_of_ne (Int64.not_lt.mp h) e, fun _ => by decide⟩
theorem lg_eq {x y : Int64} : lg_cmp x y = 0 ↔ x = y := by
  unfold lg_cmp
  by_cases h : x > y
  · simp only [h, if_true]
    exact ⟨fun z => absurd z (by decide), fun z => (Int64.lt_irrefl (z ▸ h)).elim⟩
  · by_cases e : x = y
    · simp [e]
    · simp only [h, e, if_false]
      exact ⟨fun z => absurd z (by decide), fun z => z.elim⟩
theorem lg_ge {x y : Int64} : 0 ≤ lg_cmp x y ↔ y ≤ x := by
  rw [← Int32.not_lt, lg_lt, Int64.not_lt]
theorem lg_gt {x y : Int64} : 0 < lg_cmp x y ↔ y < x := by
  rw [← Int32.not_le, lg_le, Int64.not_le]
def ofn (n : Nat) (o : Nat → Value) : List Value := (List.range n).map o
theorem ofn_get {n j : Nat} {o : Nat → Value} (h : j < n) : (ofn n o)[j]? = some (o j) := by
  simp [ofn, List.getElem?_map, List.getElem?_range h]
theorem ofn_len {n : Nat} {o : Nat → Value} : (ofn n o).length = n := by simp [ofn]
theorem ofn_set {n j : Nat} {o : Nat → Value} {v : Value} (hj : j < n) : (ofn n o).set j v = ofn n (va_up o j v) := by
  apply List.ext_getElem?
  intro i
  by_cases hi : i < n
  · by_cases hij : i = j
    · subst hij
      rw [List.getElem?_set_self (by rw [ofn_len]; exact hi), ofn_get hi]
      simp [va_up]
    · rw [List.getElem?_set_ne (Ne.symm hij), ofn_get hi, ofn_get hi]
      simp [va_up, hij]
  · rw [List.getElem?_eq_none (by rw [List.length_set, ofn_len]; omega), List.getElem?_eq_none (by rw [ofn_len]; omega)]
section GR2
variable {L : GL} {E : GE} {cc : ByteArray} {own : String} {nL N cs ss pc : Nat} {R : Room} {ad : Nat → Nat} {G : Nat → va_E} {lo : List (Nat × Value)} {st : List Value}
theorem G_lc_le (C : gC L E cc own nL R) {x y : Int64} {off : Int} (tgt : Nat) (d1 : decode cc pc = .ok (.lcmp, 1)) (d2 : decode cc (pc + 1) = .ok (.ifCond .le off, 3)) (ht : ((pc + 1 : Nat) : Int) + off = (tgt : Int)) (kt : x ≤ y → GW L E N ad G cs ss tgt lo st) (kf : ¬ x ≤ y → GW L E N ad G cs ss (pc + 4) lo st) : GW L E N ad G cs ss pc lo (.long y :: .long x :: st) :=
  G_lcmp C d1 (G_if_le C tgt d2 ht (fun h => kt (lg_le.mp h)) (fun h => kf (fun z => h (lg_le.mpr z))))
theorem G_lc_lt (C : gC L E cc own nL R) {x y : Int64} {off : Int} (tgt : Nat) (d1 : decode cc pc = .ok (.lcmp, 1)) (d2 : decode cc (pc + 1) = .ok (.ifCond .lt off, 3)) (ht : ((pc + 1 : Nat) : Int) + off = (tgt : Int)) (kt : x < y → GW L E N ad G cs ss tgt lo st) (kf : ¬ x < y → GW L E N ad G cs ss (pc + 4) lo st) : GW L E N ad G cs ss pc lo (.long y :: .long x :: st) :=
  G_lcmp C d1 (G_if_lt C tgt d2 ht (fun h => kt (lg_lt.mp h)) (fun h => kf (fun z => h (lg_lt.mpr z))))
theorem G_lc_ge (C : gC L E cc own nL R) {x y : Int64} {off : Int} (tgt : Nat) (d1 : decode cc pc = .ok (.lcmp, 1)) (d2 : decode cc (pc + 1) = .ok (.ifCond .ge off, 3)) (ht : ((pc + 1 : Nat) : Int) + off = (tgt : Int)) (kt : y ≤ x → GW L E N ad G cs ss tgt lo st) (kf : ¬ y ≤ x → GW L E N ad G cs ss (pc + 4) lo st) : GW L E N ad G cs ss pc lo (.long y :: .long x :: st) :=
  G_lcmp C d1 (G_if_ge C tgt d2 ht (fun h => kt (lg_ge.mp h)) (fun h => kf (fun z => h (lg_ge.mpr z))))
theorem G_lc_gt (C : gC L E cc own nL R) {x y : Int64} {off : Int} (tgt : Nat) (d1 : decode cc pc = .ok (.lcmp, 1)) (d2 : decode cc (pc + 1) = .ok (.ifCond .gt off, 3)) (ht : ((pc + 1 : Nat) : Int) + off = (tgt : Int)) (kt : y < x → GW L E N ad G cs ss tgt lo st) (kf : ¬ y < x → GW L E N ad G cs ss (pc + 4) lo st) : GW L E N ad G cs ss pc lo (.long y :: .long x :: st) :=
  G_lcmp C d1 (G_if_gt C tgt d2 ht (fun h => kt (lg_gt.mp h)) (fun h => kf (fun z => h (lg_gt.mpr z))))
theorem G_lc_eq (C : gC L E cc own nL R) {x y : Int64} {off : Int} (tgt : Nat) (d1 : decode cc pc = .ok (.lcmp, 1)) (d2 : decode cc (pc + 1) = .ok (.ifCond .eq off, 3)) (ht : ((pc + 1 : Nat) : Int) + off = (tgt : Int)) (kt : x = y → GW L E N ad G cs ss tgt lo st) (kf : ¬ x = y → GW L E N ad G cs ss (pc + 4) lo st) : GW L E N ad G cs ss pc lo (.long y :: .long x :: st) :=
  G_lcmp C d1 (G_if_eq C tgt d2 ht (fun h => kt (lg_eq.mp h)) (fun h => kf (fun z => h (lg_eq.mpr z))))
theorem G_lc_ne (C : gC L E cc own nL R) {x y : Int64} {off : Int} (tgt : Nat) (d1 : decode cc pc = .ok (.lcmp, 1)) (d2 : decode cc (pc + 1) = .ok (.ifCond .ne off, 3)) (ht : ((pc + 1 : Nat) : Int) + off = (tgt : Int)) (kt : ¬ x = y → GW L E N ad G cs ss tgt lo st) (kf : x = y → GW L E N ad G cs ss (pc + 4) lo st) : GW L E N ad G cs ss pc lo (.long y :: .long x :: st) :=
  G_lcmp C d1 (G_if_ne C tgt d2 ht (fun h => kt (fun z => h (lg_eq.mpr z))) (fun h => kf (lg_eq.mp h)))
theorem G_putp (C : gC L E cc own nL R) (k : Nat) (hk : k < N) {ci Nf index : Nat} {C' : String} {T : u_T} {ty0 : Nat → FieldType} {fs fs' : List Value} {v : Value} (hG : G k = .inr (ci, fs)) (hc : vwCl[ci]? = some (C', T, Nf)) (hin : ∀ w ∈ u_ws C' T Nf, w ∈ AW) (hty : ∀ k, k < Nf → parseFieldDescriptor (T k).2.2.1 = some (ty0 k)) (hnm : ∀ a, a < Nf → ∀ b, b < Nf → a ≠ b → (T a).2.1 ≠ (T b).2.1) (j : Nat) (hj : j < Nf) (hT : (T j).1 = C') (hw : Cond.fieldLink own index C' (T j).2.1 (T j).2.2.1 ∈ AW) (hfin : (T j).2.2.2 = false) (hn : narrow (ty0 j) v = v) (hfit : fits (ty0 j) v = true) (hl0 : j < fs.length) (hfs : fs.set j v = fs') (hdg : decode cc pc = .ok (.putfield index, 3)) (kk : ∀ G', G' k = .inr (ci, fs') → Agr [k] G G' → GW L E N ad G' cs ss (pc + 3) lo st) : GW L E N ad G cs ss pc lo (v :: .ref (ad k) :: st) :=
  G_put C k hk hG hc hin hty hnm j hj hT hw hfin hn hfit hl0 hfs hdg (kk _ up_same Agr.up)
theorem G_putFp (C : gC L E cc own nL R) (hin2 : E.meth.name = "<init>") (k : Nat) (hk : k < N) {ci Nf index : Nat} {C' : String} {T : u_T} {ty0 : Nat → FieldType} {fs fs' : List Value} {v : Value} (hG : G k = .inr (ci, fs)) (hc : vwCl[ci]? = some (C', T, Nf)) (hin : ∀ w ∈ u_ws C' T Nf, w ∈ AW) (hty : ∀ k, k < Nf → parseFieldDescriptor (T k).2.2.1 = some (ty0 k)) (hnm : ∀ a, a < Nf → ∀ b, b < Nf → a ≠ b → (T a).2.1 ≠ (T b).2.1) (j : Nat) (hj : j < Nf) (hT : (T j).1 = C') (hT2 : (T j).1 = own) (hw : Cond.fieldLink own index C' (T j).2.1 (T j).2.2.1 ∈ AW) (hfin : (T j).2.2.2 = true) (hn : narrow (ty0 j) v = v) (hfit : fits (ty0 j) v = true) (hl0 : j < fs.length) (hfs : fs.set j v = fs') (hdg : decode cc pc = .ok (.putfield index, 3)) (kk : ∀ G', G' k = .inr (ci, fs') → Agr [k] G G' → GW L E N ad G' cs ss (pc + 3) lo st) : GW L E N ad G cs ss pc lo (v :: .ref (ad k) :: st) :=
  G_putF C hin2 k hk hG hc hin hty hnm j hj hT hT2 hw hfin hn hfit hl0 hfs hdg (kk _ up_same Agr.up)
theorem G_puto (C : gC L E cc own nL R) (k : Nat) (hk : k < N) {ci Nf index : Nat} {C' : String} {T : u_T} {ty0 : Nat → FieldType} {o : Nat → Value} {v : Value} (hG : G k = .inr (ci, ofn Nf o)) (hc : vwCl[ci]? = some (C', T, Nf)) (hin : ∀ w ∈ u_ws C' T Nf, w ∈ AW) (hty : ∀ k, k < Nf → parseFieldDescriptor (T k).2.2.1 = some (ty0 k)) (hnm : ∀ a, a < Nf → ∀ b, b < Nf → a ≠ b → (T a).2.1 ≠ (T b).2.1) (j : Nat) (hj : j < Nf) (hT : (T j).1 = C') (hw : Cond.fieldLink own index C' (T j).2.1 (T j).2.2.1 ∈ AW) (hfin : (T j).2.2.2 = false) (hn : narrow (ty0 j) v = v) (hfit : fits (ty0 j) v = true) (hdg : decode cc pc = .ok (.putfield index, 3)) (kk : ∀ (G' : Nat → va_E) (o' : Nat → Value), G' k = .inr (ci, ofn Nf o') → o' j = v → Agr [j] o o' → Agr [k] G G' → GW L E N ad G' cs ss (pc + 3) lo st) : GW L E N ad G cs ss pc lo (v :: .ref (ad k) :: st) :=
  G_put C k hk hG hc hin hty hnm j hj hT hw hfin hn hfit (by rw [ofn_len]; exact hj) (ofn_set hj) hdg (kk _ (va_up o j v) up_same up_same Agr.up Agr.up)
theorem G_putFo (C : gC L E cc own nL R) (hin2 : E.meth.name = "<init>") (k : Nat) (hk : k < N) {ci Nf index : Nat} {C' : String} {T : u_T} {ty0 : Nat → FieldType} {o : Nat → Value} {v : Value} (hG : G k = .inr (ci, ofn Nf o)) (hc : vwCl[ci]? = some (C', T, Nf)) (hin : ∀ w ∈ u_ws C' T Nf, w ∈ AW) (hty : ∀ k, k < Nf → parseFieldDescriptor (T k).2.2.1 = some (ty0 k)) (hnm : ∀ a, a < Nf → ∀ b, b < Nf → a ≠ b → (T a).2.1 ≠ (T b).2.1) (j : Nat) (hj : j < Nf) (hT : (T j).1 = C') (hT2 : (T j).1 = own) (hw : Cond.fieldLink own index C' (T j).2.1 (T j).2.2.1 ∈ AW) (hfin : (T j).2.2.2 = true) (hn : narrow (ty0 j) v = v) (hfit : fits (ty0 j) v = true) (hdg : decode cc pc = .ok (.putfield index, 3)) (kk : ∀ (G' : Nat → va_E) (o' : Nat → Value), G' k = .inr (ci, ofn Nf o') → o' j = v → Agr [j] o o' → Agr [k] G G' → GW L E N ad G' cs ss (pc + 3) lo st) : GW L E N ad G cs ss pc lo (v :: .ref (ad k) :: st) :=
  G_putF C hin2 k hk hG hc hin hty hnm j hj hT hT2 hw hfin hn hfit (by rw [ofn_len]; exact hj) (ofn_set hj) hdg (kk _ (va_up o j v) up_same up_same Agr.up Agr.up)
theorem ix_in {i : Int32} {j n : Nat} (hi : i = nI j) (hj : j < n) (hn : n < 2147483648) : vp_in i n := by rw [hi]; exact vp_in_nI hj hn
theorem ix_cl {i : Int32} {j n : Nat} (hi : i = nI j) (hj : j < n) (hn : n < 2147483648) : i.toNatClampNeg = j := by rw [hi]; exact nI_clamp (by omega)
theorem G_ialdN (C : gC L E cc own nL R) (k : Nat) (hk : k < N) {n : Nat} {f : Nat → Int32} {i : Int32} (j : Nat) (hG : G k = .inl (L.ac 0, n, .inl f)) (hi : i = nI j) (hj : j < n) (hn : n < 2147483648) (hdg : decode cc pc = .ok (.iaload, 1)) (kk : GW L E N ad G cs ss (pc + 1) lo (.int (f j) :: st)) : GW L E N ad G cs ss pc lo (.int i :: .ref (ad k) :: st) :=
  G_iald C k hk hG (ix_in hi hj hn) hdg (by rw [ix_cl hi hj hn]; exact kk)
theorem G_caldN (C : gC L E cc own nL R) (k : Nat) (hk : k < N) {n : Nat} {f : Nat → Int32} {i : Int32} (j : Nat) (hG : G k = .inl (L.ac 2, n, .inl f)) (hi : i = nI j) (hj : j < n) (hn : n < 2147483648) (hdg : decode cc pc = .ok (.caload, 1)) (kk : GW L E N ad G cs ss (pc + 1) lo (.int (f j) :: st)) : GW L E N ad G cs ss pc lo (.int i :: .ref (ad k) :: st) :=
  G_cald C k hk hG (ix_in hi hj hn) hdg (by rw [ix_cl hi hj hn]; exact kk)
theorem G_laldN (C : gC L E cc own nL R) (k : Nat) (hk : k < N) {n : Nat} {f : Nat → Int64} {i : Int32} (j : Nat) (hG : G k = .inl (L.ac 1, n, .inr (.inl f))) (hi : i = nI j) (hj : j < n) (hn : n < 2147483648) (hdg : decode cc pc = .ok (.laload, 1)) (kk : GW L E N ad G cs ss (pc + 1) lo (.long (f j) :: st)) : GW L E N ad G cs ss pc lo (.int i :: .ref (ad k) :: st) :=
  G_lald C k hk hG (ix_in hi hj hn) hdg (by rw [ix_cl hi hj hn]; exact kk)
theorem G_daldN (C : gC L E cc own nL R) (k : Nat) (hk : k < N) {n : Nat} {f : Nat → UInt64} {i : Int32} (j : Nat) (hG : G k = .inl (L.ac 3, n, .inr (.inr (.inr (.inl f))))) (hi : i = nI j) (hj : j < n) (hn : n < 2147483648) (hdg : decode cc pc = .ok (.daload, 1)) (kk : GW L E N ad G cs ss (pc + 1) lo (.double (f j) :: st)) : GW L E N ad G cs ss pc lo (.int i :: .ref (ad k) :: st) :=
  G_dald C k hk hG (ix_in hi hj hn) hdg (by rw [ix_cl hi hj hn]; exact kk)
theorem G_iastp (C : gC L E cc own nL R) (k : Nat) (hk : k < N) {n : Nat} {f : Nat → Int32} {i : Int32} {x : Int32} (hG : G k = .inl (L.ac 0, n, .inl f)) (hin : vp_in i n) (hdg : decode cc pc = .ok (.iastore, 1)) (kk : ∀ G', G' k = .inl (L.ac 0, n, .inl (upd f i.toNatClampNeg x)) → Agr [k] G G' → GW L E N ad G' cs ss (pc + 1) lo st) : GW L E N ad G cs ss pc lo (.int x :: .int i :: .ref (ad k) :: st) :=
  G_iast C k hk hG hin hdg (kk _ up_same Agr.up)
theorem G_iastN (C : gC L E cc own nL R) (k : Nat) (hk : k < N) {n : Nat} {f : Nat → Int32} {i : Int32} {x : Int32} (j : Nat) (hG : G k = .inl (L.ac 0, n, .inl f)) (hi : i = nI j) (hj : j < n) (hn : n < 2147483648) (hdg : decode cc pc = .ok (.iastore, 1)) (kk : ∀ G', G' k = .inl (L.ac 0, n, .inl (upd f j x)) → Agr [k] G G' → GW L E N ad G' cs ss (pc + 1) lo st) : GW L E N ad G cs ss pc lo (.int x :: .int i :: .ref (ad k) :: st) :=
  G_iastp C k hk hG (ix_in hi hj hn) hdg (fun G' h a => kk G' (by rw [ix_cl hi hj hn] at h; exact h) a)
theorem G_castp (C : gC L E cc own nL R) (k : Nat) (hk : k < N) {n : Nat} {f : Nat → Int32} {i : Int32} {x : Int32} (hG : G k = .inl (L.ac 2, n, .inl f)) (hin : vp_in i n) (hdg : decode cc pc = .ok (.castore, 1)) (kk : ∀ G', G' k = .inl (L.ac 2, n, .inl (upd f i.toNatClampNeg (vp_nar .char x))) → Agr [k] G G' → GW L E N ad G' cs ss (pc + 1) lo st) : GW L E N ad G cs ss pc lo (.int x :: .int i :: .ref (ad k) :: st) :=
  G_cast C k hk hG hin hdg (kk _ up_same Agr.up)
theorem G_castN (C : gC L E cc own nL R) (k : Nat) (hk : k < N) {n : Nat} {f : Nat → Int32} {i : Int32} {x : Int32} (j : Nat) (hG : G k = .inl (L.ac 2, n, .inl f)) (hi : i = nI j) (hj : j < n) (hn : n < 2147483648) (hdg : decode cc pc = .ok (.castore, 1)) (kk : ∀ G', G' k = .inl (L.ac 2, n, .inl (upd f j (vp_nar .char x))) → Agr [k] G G' → GW L E N ad G' cs ss (pc + 1) lo st) : GW L E N ad G cs ss pc lo (.int x :: .int i :: .ref (ad k) :: st) :=
  G_castp C k hk hG (ix_in hi hj hn) hdg (fun G' h a => kk G' (by rw [ix_cl hi hj hn] at h; exact h) a)
theorem G_lastp (C : gC L E cc own nL R) (k : Nat) (hk : k < N) {n : Nat} {f : Nat → Int64} {i : Int32} {x : Int64} (hG : G k = .inl (L.ac 1, n, .inr (.inl f))) (hin : vp_in i n) (hdg : decode cc pc = .ok (.lastore, 1)) (kk : ∀ G', G' k = .inl (L.ac 1, n, .inr (.inl (vp_updL f i.toNatClampNeg x))) → Agr [k] G G' → GW L E N ad G' cs ss (pc + 1) lo st) : GW L E N ad G cs ss pc lo (.long x :: .int i :: .ref (ad k) :: st) :=
  G_last C k hk hG hin hdg (kk _ up_same Agr.up)
theorem G_lastN (C : gC L E cc own nL R) (k : Nat) (hk : k < N) {n : Nat} {f : Nat → Int64} {i : Int32} {x : Int64} (j : Nat) (hG : G k = .inl (L.ac 1, n, .inr (.inl f))) (hi : i = nI j) (hj : j < n) (hn : n < 2147483648) (hdg : decode cc pc = .ok (.lastore, 1)) (kk : ∀ G', G' k = .inl (L.ac 1, n, .inr (.inl (vp_updL f j x))) → Agr [k] G G' → GW L E N ad G' cs ss (pc + 1) lo st) : GW L E N ad G cs ss pc lo (.long x :: .int i :: .ref (ad k) :: st) :=
  G_lastp C k hk hG (ix_in hi hj hn) hdg (fun G' h a => kk G' (by rw [ix_cl hi hj hn] at h; exact h) a)
theorem G_dastp (C : gC L E cc own nL R) (k : Nat) (hk : k < N) {n : Nat} {f : Nat → UInt64} {i : Int32} {x : UInt64} (hG : G k = .inl (L.ac 3, n, .inr (.inr (.inr (.inl f))))) (hin : vp_in i n) (hdg : decode cc pc = .ok (.dastore, 1)) (kk : ∀ G', G' k = .inl (L.ac 3, n, .inr (.inr (.inr (.inl (vf_upd f i.toNatClampNeg x))))) → Agr [k] G G' → GW L E N ad G' cs ss (pc + 1) lo st) : GW L E N ad G cs ss pc lo (.double x :: .int i :: .ref (ad k) :: st) :=
  G_dast C k hk hG hin hdg (kk _ up_same Agr.up)
theorem G_dastN (C : gC L E cc own nL R) (k : Nat) (hk : k < N) {n : Nat} {f : Nat → UInt64} {i : Int32} {x : UInt64} (j : Nat) (hG : G k = .inl (L.ac 3, n, .inr (.inr (.inr (.inl f))))) (hi : i = nI j) (hj : j < n) (hn : n < 2147483648) (hdg : decode cc pc = .ok (.dastore, 1)) (kk : ∀ G', G' k = .inl (L.ac 3, n, .inr (.inr (.inr (.inl (vf_upd f j x))))) → Agr [k] G G' → GW L E N ad G' cs ss (pc + 1) lo st) : GW L E N ad G cs ss pc lo (.double x :: .int i :: .ref (ad k) :: st) :=
  G_dastp C k hk hG (ix_in hi hj hn) hdg (fun G' h a => kk G' (by rw [ix_cl hi hj hn] at h; exact h) a)
theorem G_astqp (C : gC L E cc own nL R) (k : Nat) (hk : k < N) {n : Nat} {f : Nat → Option Nat} {i : Int32} (t0 : Nat) {r : vw_C} (ht : (gTy L)[t0]? = some (L.ac t0, .object r.1)) (hG : G k = .inl (L.ac t0, n, .inr (.inr (.inr (.inr f))))) (j : Nat) (hj : j < N) {ci : Nat} {vs : List Value} (hv : G j = .inr (ci, vs)) (hc : vwCl[ci]? = some r) (hin : vp_in i n) (hdg : decode cc pc = .ok (.aastore, 1)) (kk : ∀ G', G' k = .inl (L.ac t0, n, .inr (.inr (.inr (.inr (va_up f i.toNatClampNeg (some (ad j))))))) → Agr [k] G G' → GW L E N ad G' cs ss (pc + 1) lo st) : GW L E N ad G cs ss pc lo (.ref (ad j) :: .int i :: .ref (ad k) :: st) :=
  G_astq C k hk t0 ht hG j hj hv hc hin hdg (kk _ up_same Agr.up)
theorem G_copyip (C : gC L E cc own nL R) {index : Nat} (hw1 : Cond.methodLink own index arraycopyName ∈ AW) (hw2 : Cond.native arraycopyName ∈ AW) (hw3 : Cond.static arraycopyName ∈ AW) (hw4 : Cond.initialized "java/lang/System" ∈ AW) (k0 k1 : Nat) (hk0 : k0 < N) (hk : k1 < N) {n0 n1 : Nat} {f g : Nat → Int32} (hG0 : G k0 = .inl (L.ac 0, n0, .inl f)) (hG1 : G k1 = .inl (L.ac 0, n1, .inl g)) {sp dp n : Int32} (h1 : ¬ sp < 0) (h2 : ¬ dp < 0) (h3 : ¬ n < 0) (h4 : sp.toNatClampNeg + n.toNatClampNeg ≤ n0) (h5 : dp.toNatClampNeg + n.toNatClampNeg ≤ n1) (hfr : 1 ≤ R.frames) (hlo : (st.map fun v => v.category).sum + (nativeFrameWords "java/lang/System" "arraycopy" 5 + 11) ≤ R.locals) (hdg : decode cc pc = .ok (.invokestatic index, 3)) (kk : ∀ G', G' k1 = .inl (L.ac 0, n1, .inl (va_cpy f g sp.toNatClampNeg dp.toNatClampNeg n.toNatClampNeg)) → Agr [k1] G G' → GW L E N ad G' cs ss (pc + 3) lo st) : GW L E N ad G cs ss pc lo (.int n :: .int dp :: .ref (ad k1) :: .int sp :: .ref (ad k0) :: st) :=
  G_copyi C hw1 hw2 hw3 hw4 k0 k1 hk0 hk hG0 hG1 h1 h2 h3 h4 h5 hfr hlo hdg (kk _ up_same Agr.up)
end GR2
end
section
/-! an array's content told by another function that agrees with it below the length -/
theorem arrV_agr {cA : ClassId} {n : Nat} {f g : Nat → Value} (h : ∀ j, j < n → f j = g j) : arrV cA n f = arrV cA n g := by
  unfold arrV
  have : (Array.ofFn (n := n) fun j => f j.val) = Array.ofFn (n := n) fun j => g j.val := by
    congr 1
    funext j
    exact h j.val j.isLt
  rw [this]
theorem va_P_ren {D : va_G} {ad : Nat → Nat} {N k : Nat} {G : Nat → va_E} {H : Heap} {cA : ClassId} {a b : vp_A} (hk : k < N) (hG : G k = .inl (cA, a)) (he : vp_cell cA a = vp_cell cA b) (hP : va_P D vwCl (gw ad N G) H) : va_P D vwCl (gw ad N (va_up G k (.inl (cA, b)))) H := by
  intro i q hq
  obtain ⟨hi, rfl⟩ := gw_some hq
  have h := hP i _ (gw_get hi)
  by_cases hik : i = k
  · subst hik
    rw [hG] at h
    show va_at D vwCl (ad i, va_up G i (.inl (cA, b)) i) H
    rw [up_same]
    exact Eq.trans h (congrArg some he)
  · rw [up_ne hik]
    exact h
section GR3
variable {L : GL} {E : GE} {N cs ss pc : Nat} {ad : Nat → Nat} {G : Nat → va_E} {lo : List (Nat × Value)} {st : List Value}
theorem GW.ren (k : Nat) (hk : k < N) {n t0 : Nat} {f : Nat → Int32} (f' : Nat → Int32) (hG : G k = .inl (L.ac t0, n, .inl f)) (h : ∀ j, j < n → f j = f' j) (kk : ∀ G', G' k = .inl (L.ac t0, n, .inl f') → Agr [k] G G' → GW L E N ad G' cs ss pc lo st) : GW L E N ad G cs ss pc lo st :=
  fun hD H locs ls hl hP hS => kk _ up_same Agr.up hD H locs ls hl (va_P_ren hk hG (by rw [vp_cell_i, vp_cell_i]; exact arrV_agr fun j hj => by rw [h j hj]) hP) hS
theorem GW.renl (k : Nat) (hk : k < N) {n t0 : Nat} {f : Nat → Int64} (f' : Nat → Int64) (hG : G k = .inl (L.ac t0, n, .inr (.inl f))) (h : ∀ j, j < n → f j = f' j) (kk : ∀ G', G' k = .inl (L.ac t0, n, .inr (.inl f')) → Agr [k] G G' → GW L E N ad G' cs ss pc lo st) : GW L E N ad G cs ss pc lo st :=
  fun hD H locs ls hl hP hS => kk _ up_same Agr.up hD H locs ls hl (va_P_ren hk hG (by rw [vp_cell_l, vp_cell_l]; exact arrV_agr fun j hj => by rw [h j hj]) hP) hS
end GR3
/-- an index that was looked at -/
theorem vin {x M : Int32} {n : Nat} (hM : M = nI n) (hn : n < 2147483648) (h1 : ¬ x < 0) (h2 : ¬ M ≤ x) : vp_in x n := by
  rcases pk_ix x hn with h | h | ⟨j, hj, rfl⟩
  · exact absurd h h1
  · exact absurd (hM ▸ h) h2
  · exact vp_in_nI hj hn
theorem cI_lt {x y : Int32} {a b : Nat} (hx : x = nI a) (hy : y = nI b) (ha : a < 2147483648) (hb : b < 2147483648) : x < y ↔ a < b := by rw [hx, hy]; exact nI_ltI ha hb
theorem cI_le {x y : Int32} {a b : Nat} (hx : x = nI a) (hy : y = nI b) (ha : a < 2147483648) (hb : b < 2147483648) : x ≤ y ↔ a ≤ b := by rw [hx, hy]; exact nI_leI ha hb
theorem cI_eq {x y : Int32} {a b : Nat} (hx : x = nI a) (hy : y = nI b) (ha : a < 2147483648) (hb : b < 2147483648) : x = y ↔ a = b := by rw [hx, hy]; exact nI_eq ha hb
theorem cI_add {x y : Int32} {a b : Nat} (hx : x = nI a) (hy : y = nI b) : x + y = nI (a + b) := by rw [hx, hy]; exact nI_add a b
theorem cI_mul {x y : Int32} {a b : Nat} (hx : x = nI a) (hy : y = nI b) : x * y = nI (a * b) := by rw [hx, hy]; exact pk_mul a b
section GR4
variable {L : GL} {E : GE} {N cs ss pc : Nat} {ad : Nat → Nat} {G : Nat → va_E} {lo : List (Nat × Value)} {st : List Value}
theorem GW.topr {x y : Int32} (h : x = y) (k : GW L E N ad G cs ss pc lo (.int y :: st)) : GW L E N ad G cs ss pc lo (.int x :: st) := h ▸ k
theorem GW.toprl {x y : Int64} (h : x = y) (k : GW L E N ad G cs ss pc lo (.long y :: st)) : GW L E N ad G cs ss pc lo (.long x :: st) := h ▸ k
theorem GW.pick (ks : List Nat) (lo' : List (Nat × Value)) (h : ks.filterMap (fun k => lo[k]?) = lo') (k : GW L E N ad G cs ss pc lo' st) : GW L E N ad G cs ss pc lo st := by
  refine GW.sub lo' (fun q hq => ?_) k
  rw [← h] at hq
  obtain ⟨i, -, hi⟩ := List.mem_filterMap.mp hq
  exact List.mem_of_getElem? hi
end GR4
end
section
theorem kc_L_8 : Cond.classLink RL 8 RX8 ∈ AW := AW_of 79 (by decide +kernel) rfl
theorem km_L_112 : Cond.methodLink RL 112 yX8_init ∈ AW := AW_of 81 (by decide +kernel) rfl
theorem km_X8_3 : Cond.methodLink RX8 3 Lib.objectInit ∈ AW := AW_of 84 (by decide +kernel) rfl
theorem kc_X8_9 : Cond.classLink RX8 9 RX4 ∈ AW := AW_of 87 (by decide +kernel) rfl
theorem km_X8_11 : Cond.methodLink RX8 11 yX4_init ∈ AW := AW_of 89 (by decide +kernel) rfl
theorem km_X4_3 : Cond.methodLink RX4 3 Lib.objectInit ∈ AW := AW_of 92 (by decide +kernel) rfl
theorem kc_X4_9 : Cond.classLink RX4 9 RX6 ∈ AW := AW_of 93 (by decide +kernel) rfl
theorem kn_X4_11 : Cond.methodLinkNest RX4 11 yX6_init "PellMills" ∈ BW := BW_of 95 (by decide +kernel) rfl
theorem km_X6_1 : Cond.methodLink RX6 1 Lib.objectInit ∈ AW := AW_of 98 (by decide +kernel) rfl
theorem kf_X6_7 : Cond.fieldLink RX6 7 RX6 "number" "I" ∈ AW := AW_of 99 (by decide +kernel) rfl
theorem kf_X6_19 : Cond.fieldLink RX6 19 RX6 "whole" "I" ∈ AW := AW_of 100 (by decide +kernel) rfl
theorem kf_X6_22 : Cond.fieldLink RX6 22 RX6 "m" "I" ∈ AW := AW_of 101 (by decide +kernel) rfl
theorem kf_X6_25 : Cond.fieldLink RX6 25 RX6 "q" "I" ∈ AW := AW_of 102 (by decide +kernel) rfl
theorem kf_X4_49 : Cond.fieldLink RX4 49 RX6 "term" "I" ∈ AW := AW_of 103 (by decide +kernel) rfl
theorem kf_X6_28 : Cond.fieldLink RX6 28 RX6 "term" "I" ∈ AW := AW_of 104 (by decide +kernel) rfl
theorem kc_X4_31 : Cond.classLink RX4 31 RX1 ∈ AW := AW_of 116 (by decide +kernel) rfl
theorem kn_X4_33 : Cond.methodLinkNest RX4 33 yX1_init "PellMills" ∈ BW := BW_of 118 (by decide +kernel) rfl
theorem km_X1_3 : Cond.methodLink RX1 3 Lib.objectInit ∈ AW := AW_of 121 (by decide +kernel) rfl
theorem kf_X1_15 : Cond.fieldLink RX1 15 RX1 "unitX" "I" ∈ AW := AW_of 122 (by decide +kernel) rfl
theorem kf_X1_18 : Cond.fieldLink RX1 18 RX1 "unitY" "I" ∈ AW := AW_of 123 (by decide +kernel) rfl
theorem kf_X1_9 : Cond.fieldLink RX1 9 RX1 "number" "I" ∈ AW := AW_of 124 (by decide +kernel) rfl
theorem kf_X8_173 : Cond.fieldLink RX8 173 RX1 "number" "I" ∈ AW := AW_of 125 (by decide +kernel) rfl
theorem kf_X1_21 : Cond.fieldLink RX1 21 RX1 "x" "J" ∈ AW := AW_of 126 (by decide +kernel) rfl
theorem kf_X8_82 : Cond.fieldLink RX8 82 RX1 "x" "J" ∈ AW := AW_of 127 (by decide +kernel) rfl
theorem kf_X2_51 : Cond.fieldLink RX2 51 RX1 "x" "J" ∈ AW := AW_of 128 (by decide +kernel) rfl
theorem kf_X1_25 : Cond.fieldLink RX1 25 RX1 "y" "J" ∈ AW := AW_of 129 (by decide +kernel) rfl
theorem kf_X8_134 : Cond.fieldLink RX8 134 RX1 "y" "J" ∈ AW := AW_of 130 (by decide +kernel) rfl
theorem km_X4_34 : Cond.methodLink RX4 34 yX6_begin ∈ AW := AW_of 143 (by decide +kernel) rfl
theorem kn_X6_13 : Cond.methodLinkNest RX6 13 yX8_wholeRoot "PellMills" ∈ BW := BW_of 147 (by decide +kernel) rfl
theorem km_X4_38 : Cond.methodLink RX4 38 yX6_isSquare ∈ AW := AW_of 150 (by decide +kernel) rfl
theorem km_X4_42 : Cond.methodLink RX4 42 yX4_findUnit ∈ AW := AW_of 154 (by decide +kernel) rfl
theorem km_X4_53 : Cond.methodLink RX4 53 yX6_next ∈ AW := AW_of 158 (by decide +kernel) rfl
theorem km_X4_56 : Cond.methodLink RX4 56 yX6_endsPeriod ∈ AW := AW_of 162 (by decide +kernel) rfl
theorem km_X4_45 : Cond.methodLink RX4 45 yX4_findGreatestPower ∈ AW := AW_of 166 (by decide +kernel) rfl
theorem km_X4_59 : Cond.methodLink RX4 59 yX4_begin ∈ AW := AW_of 170 (by decide +kernel) rfl
theorem km_X4_66 : Cond.methodLink RX4 66 yX4_xOfUnit ∈ AW := AW_of 174 (by decide +kernel) rfl
theorem km_X4_70 : Cond.methodLink RX4 70 yX4_yOfUnit ∈ AW := AW_of 178 (by decide +kernel) rfl
theorem km_X4_73 : Cond.methodLink RX4 73 yX1_begin ∈ AW := AW_of 182 (by decide +kernel) rfl
theorem ki_X4_62 : Cond.constant RX4 62 (1000000) ∈ AW := AW_of 186 (by decide +kernel) rfl
theorem km_X4_63 : Cond.methodLink RX4 63 yX1_climb ∈ AW := AW_of 187 (by decide +kernel) rfl
theorem kl_X1_28 : Cond.constantLong RX1 28 (1000000000000000) ∈ AW := AW_of 191 (by decide +kernel) rfl
theorem kf_X4_12 : Cond.fieldLink RX4 12 RX4 "terms" "LPellMills$Terms;" ∈ AW := AW_of 192 (by decide +kernel) rfl
theorem kf_X4_18 : Cond.fieldLink RX4 18 RX4 "periods" "[I" ∈ AW := AW_of 193 (by decide +kernel) rfl
theorem kf_X4_22 : Cond.fieldLink RX4 22 RX4 "unitXs" "[I" ∈ AW := AW_of 194 (by decide +kernel) rfl
theorem kf_X4_25 : Cond.fieldLink RX4 25 RX4 "unitYs" "[I" ∈ AW := AW_of 195 (by decide +kernel) rfl
theorem kf_X4_28 : Cond.fieldLink RX4 28 RX4 "greatestPowers" "[I" ∈ AW := AW_of 196 (by decide +kernel) rfl
theorem kc_X8_16 : Cond.classLink RX8 16 RX1 ∈ AW := AW_of 208 (by decide +kernel) rfl
theorem kn_X8_18 : Cond.methodLinkNest RX8 18 yX1_init "PellMills" ∈ BW := BW_of 209 (by decide +kernel) rfl
theorem kc_X8_23 : Cond.classLink RX8 23 RX3 ∈ AW := AW_of 210 (by decide +kernel) rfl
theorem km_X8_25 : Cond.methodLink RX8 25 yX3_init ∈ AW := AW_of 212 (by decide +kernel) rfl
theorem km_X3_3 : Cond.methodLink RX3 3 Lib.objectInit ∈ AW := AW_of 215 (by decide +kernel) rfl
theorem kc_X3_9 : Cond.classLink RX3 9 RX1 ∈ AW := AW_of 216 (by decide +kernel) rfl
theorem kn_X3_21 : Cond.methodLinkNest RX3 21 yX1_init "PellMills" ∈ BW := BW_of 218 (by decide +kernel) rfl
theorem kf_X3_17 : Cond.fieldLink RX3 17 RX3 "roots" "LPellMills$Roots;" ∈ AW := AW_of 219 (by decide +kernel) rfl
theorem kf_X3_11 : Cond.fieldLink RX3 11 RX3 "waiting" "[LPellMills$Power;" ∈ AW := AW_of 220 (by decide +kernel) rfl
theorem kf_X3_22 : Cond.fieldLink RX3 22 RX3 "size" "I" ∈ AW := AW_of 221 (by decide +kernel) rfl
theorem kc_X8_32 : Cond.classLink RX8 32 RX2 ∈ AW := AW_of 229 (by decide +kernel) rfl
theorem km_X8_34 : Cond.methodLink RX8 34 yX2_init ∈ AW := AW_of 231 (by decide +kernel) rfl
theorem km_X2_3 : Cond.methodLink RX2 3 Lib.objectInit ∈ AW := AW_of 234 (by decide +kernel) rfl
theorem kc_X2_9 : Cond.classLink RX2 9 RX1 ∈ AW := AW_of 235 (by decide +kernel) rfl
theorem kn_X2_11 : Cond.methodLinkNest RX2 11 yX1_init "PellMills" ∈ BW := BW_of 236 (by decide +kernel) rfl
theorem kf_X2_22 : Cond.fieldLink RX2 22 RX2 "roots" "LPellMills$Roots;" ∈ AW := AW_of 237 (by decide +kernel) rfl
theorem kf_X2_12 : Cond.fieldLink RX2 12 RX2 "power" "LPellMills$Power;" ∈ AW := AW_of 238 (by decide +kernel) rfl
theorem kf_X2_18 : Cond.fieldLink RX2 18 RX2 "xs" "[J" ∈ AW := AW_of 239 (by decide +kernel) rfl
theorem kf_X2_26 : Cond.fieldLink RX2 26 RX2 "size" "I" ∈ AW := AW_of 240 (by decide +kernel) rfl
theorem kf_X8_165 : Cond.fieldLink RX8 165 RX2 "size" "I" ∈ AW := AW_of 241 (by decide +kernel) rfl
theorem kc_X8_39 : Cond.classLink RX8 39 RX5 ∈ AW := AW_of 252 (by decide +kernel) rfl
theorem km_X8_41 : Cond.methodLink RX8 41 yX5_init ∈ AW := AW_of 254 (by decide +kernel) rfl
theorem km_X5_3 : Cond.methodLink RX5 3 Lib.objectInit ∈ AW := AW_of 257 (by decide +kernel) rfl
theorem km_X5_19 : Cond.methodLink RX5 19 yJ7_fill_53178 ∈ AW := AW_of 258 (by decide +kernel) rfl
theorem kf_X5_15 : Cond.fieldLink RX5 15 RX5 "roots" "LPellMills$Roots;" ∈ AW := AW_of 261 (by decide +kernel) rfl
theorem kf_X5_9 : Cond.fieldLink RX5 9 RX5 "heights" "[I" ∈ AW := AW_of 262 (by decide +kernel) rfl
theorem kf_X8_70 : Cond.fieldLink RX8 70 RX5 "laid" "I" ∈ AW := AW_of 263 (by decide +kernel) rfl
theorem kf_X5_31 : Cond.fieldLink RX5 31 RX5 "laid" "I" ∈ AW := AW_of 264 (by decide +kernel) rfl
theorem kf_X5_35 : Cond.fieldLink RX5 35 RX5 "millings" "I" ∈ AW := AW_of 265 (by decide +kernel) rfl
theorem kf_X8_178 : Cond.fieldLink RX8 178 RX5 "millings" "I" ∈ AW := AW_of 266 (by decide +kernel) rfl
theorem kc_X8_52 : Cond.classLink RX8 52 RX0 ∈ AW := AW_of 276 (by decide +kernel) rfl
theorem km_X8_54 : Cond.methodLink RX8 54 yX0_init ∈ AW := AW_of 278 (by decide +kernel) rfl
theorem km_X0_3 : Cond.methodLink RX0 3 Lib.objectInit ∈ AW := AW_of 281 (by decide +kernel) rfl
theorem kc_X0_9 : Cond.classLink RX0 9 RX5 ∈ AW := AW_of 282 (by decide +kernel) rfl
theorem km_X0_17 : Cond.methodLink RX0 17 yX5_init ∈ AW := AW_of 284 (by decide +kernel) rfl
theorem kf_X0_11 : Cond.fieldLink RX0 11 RX0 "rows" "[LPellMills$State;" ∈ AW := AW_of 285 (by decide +kernel) rfl
theorem kf_X0_20 : Cond.fieldLink RX0 20 RX0 "size" "I" ∈ AW := AW_of 286 (by decide +kernel) rfl
theorem kf_X8_196 : Cond.fieldLink RX8 196 RX0 "size" "I" ∈ AW := AW_of 287 (by decide +kernel) rfl
theorem kc_X8_59 : Cond.classLink RX8 59 RX7 ∈ AW := AW_of 293 (by decide +kernel) rfl
theorem kn_X8_61 : Cond.methodLinkNest RX8 61 yX7_init "PellMills" ∈ BW := BW_of 295 (by decide +kernel) rfl
theorem km_X7_3 : Cond.methodLink RX7 3 Lib.objectInit ∈ AW := AW_of 298 (by decide +kernel) rfl
theorem kf_X7_9 : Cond.fieldLink RX7 9 RX7 "characters" "[C" ∈ AW := AW_of 299 (by decide +kernel) rfl
theorem kf_X7_15 : Cond.fieldLink RX7 15 RX7 "length" "I" ∈ AW := AW_of 300 (by decide +kernel) rfl
theorem kf_X8_211 : Cond.fieldLink RX8 211 RX7 "length" "I" ∈ AW := AW_of 301 (by decide +kernel) rfl
theorem kf_X7_25 : Cond.fieldLink RX7 25 RX7 "orders" "I" ∈ AW := AW_of 302 (by decide +kernel) rfl
theorem kf_X8_232 : Cond.fieldLink RX8 232 RX7 "orders" "I" ∈ AW := AW_of 303 (by decide +kernel) rfl
theorem kf_X7_28 : Cond.fieldLink RX7 28 RX7 "position" "I" ∈ AW := AW_of 304 (by decide +kernel) rfl
theorem kf_X8_217 : Cond.fieldLink RX8 217 RX7 "position" "I" ∈ AW := AW_of 305 (by decide +kernel) rfl
theorem kf_X7_31 : Cond.fieldLink RX7 31 RX7 "reason" "I" ∈ AW := AW_of 306 (by decide +kernel) rfl
theorem kf_X8_220 : Cond.fieldLink RX8 220 RX7 "reason" "I" ∈ AW := AW_of 307 (by decide +kernel) rfl
theorem kf_X7_34 : Cond.fieldLink RX7 34 RX7 "cause" "I" ∈ AW := AW_of 308 (by decide +kernel) rfl
theorem kf_X8_223 : Cond.fieldLink RX8 223 RX7 "cause" "I" ∈ AW := AW_of 309 (by decide +kernel) rfl
theorem kf_X8_12 : Cond.fieldLink RX8 12 RX8 "roots" "LPellMills$Roots;" ∈ AW := AW_of 324 (by decide +kernel) rfl
theorem kf_X8_19 : Cond.fieldLink RX8 19 RX8 "power" "LPellMills$Power;" ∈ AW := AW_of 325 (by decide +kernel) rfl
theorem kf_X8_28 : Cond.fieldLink RX8 28 RX8 "queue" "LPellMills$Queue;" ∈ AW := AW_of 326 (by decide +kernel) rfl
theorem kf_X8_35 : Cond.fieldLink RX8 35 RX8 "powerSet" "LPellMills$PowerSet;" ∈ AW := AW_of 327 (by decide +kernel) rfl
theorem kf_X8_42 : Cond.fieldLink RX8 42 RX8 "now" "LPellMills$State;" ∈ AW := AW_of 328 (by decide +kernel) rfl
theorem kf_X8_46 : Cond.fieldLink RX8 46 RX8 "trial" "LPellMills$State;" ∈ AW := AW_of 329 (by decide +kernel) rfl
theorem kf_X8_49 : Cond.fieldLink RX8 49 RX8 "snapshot" "LPellMills$State;" ∈ AW := AW_of 330 (by decide +kernel) rfl
theorem kf_X8_55 : Cond.fieldLink RX8 55 RX8 "history" "LPellMills$History;" ∈ AW := AW_of 331 (by decide +kernel) rfl
theorem kf_X8_62 : Cond.fieldLink RX8 62 RX8 "text" "LPellMills$Text;" ∈ AW := AW_of 332 (by decide +kernel) rfl
theorem kf_X8_184 : Cond.fieldLink RX8 184 RX8 "hasSnapshot" "Z" ∈ AW := AW_of 333 (by decide +kernel) rfl
theorem km_L_156 : Cond.methodLink RL 156 yX8_stones ∈ AW := AW_of 355 (by decide +kernel) rfl
theorem km_L_185 : Cond.methodLink RL 185 yX8_solutions ∈ AW := AW_of 359 (by decide +kernel) rfl
theorem kl_X8_150 : Cond.constantLong RX8 150 (1000000000000000) ∈ AW := AW_of 363 (by decide +kernel) rfl
theorem km_X8_152 : Cond.methodLink RX8 152 yX8_countUpTo ∈ AW := AW_of 364 (by decide +kernel) rfl
theorem km_X8_122 : Cond.methodLink RX8 122 yX5_has ∈ AW := AW_of 368 (by decide +kernel) rfl
theorem km_X5_38 : Cond.methodLink RX5 38 yX5_heightOf ∈ AW := AW_of 372 (by decide +kernel) rfl
theorem km_X8_275 : Cond.methodLink RX8 275 yX8_countPowersUpTo ∈ AW := AW_of 376 (by decide +kernel) rfl
theorem km_X8_258 : Cond.methodLink RX8 258 yX4_begin ∈ AW := AW_of 380 (by decide +kernel) rfl
theorem ki_X8_262 : Cond.constant RX8 262 (1000000) ∈ AW := AW_of 381 (by decide +kernel) rfl
theorem km_X8_263 : Cond.methodLink RX8 263 yX1_climb ∈ AW := AW_of 382 (by decide +kernel) rfl
theorem km_L_204 : Cond.methodLink RL 204 yX8_milled ∈ AW := AW_of 383 (by decide +kernel) rfl
theorem km_L_208 : Cond.methodLink RL 208 yX8_minusStones ∈ AW := AW_of 387 (by decide +kernel) rfl
theorem km_X8_137 : Cond.methodLink RX8 137 yX5_sign ∈ AW := AW_of 391 (by decide +kernel) rfl
theorem km_X5_42 : Cond.methodLink RX5 42 yX4_signOfUnit ∈ AW := AW_of 395 (by decide +kernel) rfl
theorem km_X4_76 : Cond.methodLink RX4 76 yX4_period ∈ AW := AW_of 399 (by decide +kernel) rfl
theorem km_L_212 : Cond.methodLink RL 212 yX8_keep ∈ AW := AW_of 403 (by decide +kernel) rfl
theorem km_X8_181 : Cond.methodLink RX8 181 yX5_copyFrom ∈ AW := AW_of 407 (by decide +kernel) rfl
theorem km_X5_25 : Cond.methodLink RX5 25 arraycopyName ∈ AW := AW_of 411 (by decide +kernel) rfl
theorem km_L_220 : Cond.methodLink RL 220 yX8_states ∈ AW := AW_of 414 (by decide +kernel) rfl
theorem km_L_230 : Cond.methodLink RL 230 yX8_clearText ∈ AW := AW_of 418 (by decide +kernel) rfl
theorem km_L_116 : Cond.methodLink RL 116 yL_lay ∈ AW := AW_of 422 (by decide +kernel) rfl
theorem kc_L_13 : Cond.classLink RL 13 "java/lang/IllegalArgumentException" ∈ AW := AW_of 425 (by decide +kernel) rfl
theorem kc_L_15 : Cond.classLink RL 15 "java/lang/IllegalStateException" ∈ AW := AW_of 426 (by decide +kernel) rfl
theorem km_L_7 : Cond.methodLink RL 7 yX8_lay ∈ AW := AW_of 427 (by decide +kernel) rfl
theorem km_X8_66 : Cond.methodLink RX8 66 yX8_change ∈ AW := AW_of 431 (by decide +kernel) rfl
theorem km_X8_249 : Cond.methodLink RX8 249 yX5_causeAgainst ∈ AW := AW_of 435 (by decide +kernel) rfl
theorem kn_X5_51 : Cond.methodLinkNest RX5 51 yX8_isNumber "PellMills" ∈ BW := BW_of 439 (by decide +kernel) rfl
theorem km_X5_54 : Cond.methodLink RX5 54 yX5_reasonAgainstLaying ∈ AW := AW_of 442 (by decide +kernel) rfl
theorem km_X5_47 : Cond.methodLink RX5 47 yX4_isSquare ∈ AW := AW_of 446 (by decide +kernel) rfl
theorem km_X5_57 : Cond.methodLink RX5 57 yX4_greatestPower ∈ AW := AW_of 450 (by decide +kernel) rfl
theorem kc_X8_99 : Cond.classLink RX8 99 "java/lang/IllegalArgumentException" ∈ AW := AW_of 454 (by decide +kernel) rfl
theorem kc_X8_188 : Cond.classLink RX8 188 "java/lang/IllegalStateException" ∈ AW := AW_of 522 (by decide +kernel) rfl
theorem km_X8_193 : Cond.methodLink RX8 193 yX0_record ∈ AW := AW_of 538 (by decide +kernel) rfl
theorem km_X0_24 : Cond.methodLink RX0 24 yX0_moveOldestToEnd ∈ AW := AW_of 542 (by decide +kernel) rfl
theorem km_X0_27 : Cond.methodLink RX0 27 yX5_copyFrom ∈ AW := AW_of 546 (by decide +kernel) rfl
theorem km_X8_255 : Cond.methodLink RX8 255 yX5_carryOut ∈ AW := AW_of 547 (by decide +kernel) rfl
theorem km_X5_60 : Cond.methodLink RX5 60 yX5_setHeight ∈ AW := AW_of 551 (by decide +kernel) rfl
theorem km_L_125 : Cond.methodLink RL 125 yL_take ∈ AW := AW_of 555 (by decide +kernel) rfl
theorem km_L_17 : Cond.methodLink RL 17 yX8_take ∈ AW := AW_of 558 (by decide +kernel) rfl
theorem km_X8_74 : Cond.methodLink RX8 74 yX5_heightOf ∈ AW := AW_of 562 (by decide +kernel) rfl
theorem km_L_128 : Cond.methodLink RL 128 yL_mill ∈ AW := AW_of 563 (by decide +kernel) rfl
theorem km_L_20 : Cond.methodLink RL 20 yX8_mill ∈ AW := AW_of 566 (by decide +kernel) rfl
theorem km_X8_78 : Cond.methodLink RX8 78 yX8_powerOfLaid ∈ AW := AW_of 570 (by decide +kernel) rfl
theorem km_L_131 : Cond.methodLink RL 131 yL_millBack ∈ AW := AW_of 574 (by decide +kernel) rfl
theorem km_L_24 : Cond.methodLink RL 24 yX8_millBack ∈ AW := AW_of 577 (by decide +kernel) rfl
theorem km_L_134 : Cond.methodLink RL 134 yL_whyNot ∈ AW := AW_of 581 (by decide +kernel) rfl
theorem km_L_27 : Cond.methodLink RL 27 yX8_whyNot ∈ AW := AW_of 584 (by decide +kernel) rfl
theorem km_X8_86 : Cond.methodLink RX8 86 yX8_requireNumber ∈ AW := AW_of 588 (by decide +kernel) rfl
theorem km_X8_235 : Cond.methodLink RX8 235 yX8_isNumber ∈ AW := AW_of 591 (by decide +kernel) rfl
theorem km_X8_90 : Cond.methodLink RX8 90 yX5_reasonAgainstLaying ∈ AW := AW_of 592 (by decide +kernel) rfl
theorem km_L_137 : Cond.methodLink RL 137 yL_periodOf ∈ AW := AW_of 593 (by decide +kernel) rfl
theorem kc_L_33 : Cond.classLink RL 33 "java/util/NoSuchElementException" ∈ AW := AW_of 596 (by decide +kernel) rfl
theorem km_L_30 : Cond.methodLink RL 30 yX8_periodOf ∈ AW := AW_of 597 (by decide +kernel) rfl
theorem km_X8_93 : Cond.methodLink RX8 93 yX8_requireRoot ∈ AW := AW_of 601 (by decide +kernel) rfl
theorem km_X8_240 : Cond.methodLink RX8 240 yX4_isSquare ∈ AW := AW_of 605 (by decide +kernel) rfl
theorem kc_X8_126 : Cond.classLink RX8 126 "java/util/NoSuchElementException" ∈ AW := AW_of 606 (by decide +kernel) rfl
theorem km_X8_96 : Cond.methodLink RX8 96 yX4_period ∈ AW := AW_of 622 (by decide +kernel) rfl
theorem km_L_140 : Cond.methodLink RL 140 yL_termAt ∈ AW := AW_of 623 (by decide +kernel) rfl
theorem km_L_35 : Cond.methodLink RL 35 yX8_termAt ∈ AW := AW_of 626 (by decide +kernel) rfl
theorem km_X8_106 : Cond.methodLink RX8 106 yX4_term ∈ AW := AW_of 631 (by decide +kernel) rfl
theorem km_L_144 : Cond.methodLink RL 144 yL_unitX ∈ AW := AW_of 635 (by decide +kernel) rfl
theorem km_L_39 : Cond.methodLink RL 39 yX8_unitX ∈ AW := AW_of 638 (by decide +kernel) rfl
theorem km_X8_110 : Cond.methodLink RX8 110 yX4_xOfUnit ∈ AW := AW_of 642 (by decide +kernel) rfl
theorem km_L_147 : Cond.methodLink RL 147 yL_unitY ∈ AW := AW_of 643 (by decide +kernel) rfl
theorem km_L_42 : Cond.methodLink RL 42 yX8_unitY ∈ AW := AW_of 646 (by decide +kernel) rfl
theorem km_X8_113 : Cond.methodLink RX8 113 yX4_yOfUnit ∈ AW := AW_of 650 (by decide +kernel) rfl
theorem km_L_150 : Cond.methodLink RL 150 yL_leastY ∈ AW := AW_of 651 (by decide +kernel) rfl
theorem km_L_45 : Cond.methodLink RL 45 yX8_leastY ∈ AW := AW_of 654 (by decide +kernel) rfl
theorem km_X8_116 : Cond.methodLink RX8 116 yX4_signOfUnit ∈ AW := AW_of 658 (by decide +kernel) rfl
theorem km_L_153 : Cond.methodLink RL 153 yL_leastYBySearch ∈ AW := AW_of 659 (by decide +kernel) rfl
theorem km_L_48 : Cond.methodLink RL 48 yX8_leastYBySearch ∈ AW := AW_of 662 (by decide +kernel) rfl
theorem km_X8_119 : Cond.methodLink RX8 119 yX8_searchLeastY ∈ AW := AW_of 666 (by decide +kernel) rfl
theorem km_X8_279 : Cond.methodLink RX8 279 yX8_wholeRoot ∈ AW := AW_of 669 (by decide +kernel) rfl
theorem km_L_160 : Cond.methodLink RL 160 yL_isLaid ∈ AW := AW_of 670 (by decide +kernel) rfl
theorem km_L_51 : Cond.methodLink RL 51 yX8_isLaid ∈ AW := AW_of 673 (by decide +kernel) rfl
theorem km_L_163 : Cond.methodLink RL 163 yL_stoneFrom ∈ AW := AW_of 677 (by decide +kernel) rfl
theorem km_L_55 : Cond.methodLink RL 55 yX8_stoneFrom ∈ AW := AW_of 680 (by decide +kernel) rfl
theorem km_L_166 : Cond.methodLink RL 166 yL_powerOf ∈ AW := AW_of 685 (by decide +kernel) rfl
theorem km_L_58 : Cond.methodLink RL 58 yX8_powerOf ∈ AW := AW_of 688 (by decide +kernel) rfl
theorem km_X8_131 : Cond.methodLink RX8 131 yX8_requireLaid ∈ AW := AW_of 692 (by decide +kernel) rfl
theorem km_L_169 : Cond.methodLink RL 169 yL_xOf ∈ AW := AW_of 697 (by decide +kernel) rfl
theorem km_L_61 : Cond.methodLink RL 61 yX8_xOf ∈ AW := AW_of 700 (by decide +kernel) rfl
theorem km_L_172 : Cond.methodLink RL 172 yL_yOf ∈ AW := AW_of 704 (by decide +kernel) rfl
theorem km_L_64 : Cond.methodLink RL 64 yX8_yOf ∈ AW := AW_of 707 (by decide +kernel) rfl
theorem km_L_175 : Cond.methodLink RL 175 yL_signOf ∈ AW := AW_of 711 (by decide +kernel) rfl
theorem km_L_67 : Cond.methodLink RL 67 yX8_signOf ∈ AW := AW_of 714 (by decide +kernel) rfl
theorem km_L_178 : Cond.methodLink RL 178 yL_signByRemainders ∈ AW := AW_of 718 (by decide +kernel) rfl
theorem km_L_70 : Cond.methodLink RL 70 yX8_signByRemainders ∈ AW := AW_of 721 (by decide +kernel) rfl
theorem kl_X8_140 : Cond.constantLong RX8 140 (1000003) ∈ AW := AW_of 725 (by decide +kernel) rfl
theorem km_X8_142 : Cond.methodLink RX8 142 yJ9_floorMod_f86c9 ∈ AW := AW_of 726 (by decide +kernel) rfl
theorem km_L_181 : Cond.methodLink RL 181 yL_nearRoot ∈ AW := AW_of 729 (by decide +kernel) rfl
theorem km_L_73 : Cond.methodLink RL 73 yX8_nearRoot ∈ AW := AW_of 732 (by decide +kernel) rfl
theorem km_L_189 : Cond.methodLink RL 189 yL_xAt ∈ AW := AW_of 737 (by decide +kernel) rfl
theorem km_L_77 : Cond.methodLink RL 77 yX8_xAt ∈ AW := AW_of 740 (by decide +kernel) rfl
theorem km_X8_156 : Cond.methodLink RX8 156 yX8_solutionByQueue ∈ AW := AW_of 744 (by decide +kernel) rfl
theorem km_X8_267 : Cond.methodLink RX8 267 yX3_fill ∈ AW := AW_of 749 (by decide +kernel) rfl
theorem km_X3_26 : Cond.methodLink RX3 26 yX5_has ∈ AW := AW_of 753 (by decide +kernel) rfl
theorem km_X3_32 : Cond.methodLink RX3 32 yX4_begin ∈ AW := AW_of 754 (by decide +kernel) rfl
theorem km_X3_38 : Cond.methodLink RX3 38 yX1_climb ∈ AW := AW_of 755 (by decide +kernel) rfl
theorem km_X8_268 : Cond.methodLink RX8 268 yX3_pass ∈ AW := AW_of 756 (by decide +kernel) rfl
theorem km_X3_42 : Cond.methodLink RX3 42 yX3_passFirst ∈ AW := AW_of 760 (by decide +kernel) rfl
theorem km_X3_45 : Cond.methodLink RX3 45 yX3_firstIndex ∈ AW := AW_of 764 (by decide +kernel) rfl
theorem km_X3_49 : Cond.methodLink RX3 49 yX1_isAheadOf ∈ AW := AW_of 768 (by decide +kernel) rfl
theorem km_X8_271 : Cond.methodLink RX8 271 yX3_first ∈ AW := AW_of 772 (by decide +kernel) rfl
theorem km_L_192 : Cond.methodLink RL 192 yL_xAtBySet ∈ AW := AW_of 777 (by decide +kernel) rfl
theorem km_L_80 : Cond.methodLink RL 80 yX8_xAtBySet ∈ AW := AW_of 780 (by decide +kernel) rfl
theorem km_X8_161 : Cond.methodLink RX8 161 yX2_fill ∈ AW := AW_of 784 (by decide +kernel) rfl
theorem km_X2_30 : Cond.methodLink RX2 30 yX5_has ∈ AW := AW_of 788 (by decide +kernel) rfl
theorem km_X2_36 : Cond.methodLink RX2 36 yX2_addPowers ∈ AW := AW_of 789 (by decide +kernel) rfl
theorem km_X2_40 : Cond.methodLink RX2 40 yX4_begin ∈ AW := AW_of 793 (by decide +kernel) rfl
theorem ki_X2_46 : Cond.constant RX2 46 (1000000) ∈ AW := AW_of 794 (by decide +kernel) rfl
theorem km_X2_47 : Cond.methodLink RX2 47 yX1_climb ∈ AW := AW_of 795 (by decide +kernel) rfl
theorem km_X2_55 : Cond.methodLink RX2 55 yX2_add ∈ AW := AW_of 796 (by decide +kernel) rfl
theorem km_X8_170 : Cond.methodLink RX8 170 yX2_x ∈ AW := AW_of 800 (by decide +kernel) rfl
theorem km_L_195 : Cond.methodLink RL 195 yL_stoneAt ∈ AW := AW_of 804 (by decide +kernel) rfl
theorem km_L_83 : Cond.methodLink RL 83 yX8_stoneAt ∈ AW := AW_of 807 (by decide +kernel) rfl
theorem km_L_200 : Cond.methodLink RL 200 yL_solutionsUpTo ∈ AW := AW_of 811 (by decide +kernel) rfl
theorem km_L_86 : Cond.methodLink RL 86 yX8_solutionsUpTo ∈ AW := AW_of 814 (by decide +kernel) rfl
theorem km_L_216 : Cond.methodLink RL 216 yL_goBack ∈ AW := AW_of 819 (by decide +kernel) rfl
theorem km_L_90 : Cond.methodLink RL 90 yX8_goBack ∈ AW := AW_of 822 (by decide +kernel) rfl
theorem km_L_224 : Cond.methodLink RL 224 yL_undo ∈ AW := AW_of 827 (by decide +kernel) rfl
theorem km_L_94 : Cond.methodLink RL 94 yX8_undo ∈ AW := AW_of 830 (by decide +kernel) rfl
theorem km_X8_197 : Cond.methodLink RX8 197 yX0_restoreLatest ∈ AW := AW_of 834 (by decide +kernel) rfl
theorem km_L_227 : Cond.methodLink RL 227 yL_type ∈ AW := AW_of 839 (by decide +kernel) rfl
theorem km_L_97 : Cond.methodLink RL 97 yX8_type ∈ AW := AW_of 842 (by decide +kernel) rfl
theorem km_X8_205 : Cond.methodLink RX8 205 yX7_append ∈ AW := AW_of 847 (by decide +kernel) rfl
theorem km_L_234 : Cond.methodLink RL 234 yL_faultPosition ∈ AW := AW_of 852 (by decide +kernel) rfl
theorem km_L_100 : Cond.methodLink RL 100 yX8_faultPosition ∈ AW := AW_of 855 (by decide +kernel) rfl
theorem km_X8_214 : Cond.methodLink RX8 214 yX8_requireFault ∈ AW := AW_of 859 (by decide +kernel) rfl
theorem km_X8_226 : Cond.methodLink RX8 226 yX7_findsFault ∈ AW := AW_of 863 (by decide +kernel) rfl
theorem km_X7_19 : Cond.methodLink RX7 19 yX5_copyFrom ∈ AW := AW_of 867 (by decide +kernel) rfl
theorem km_X7_37 : Cond.methodLink RX7 37 yX7_readOrder ∈ AW := AW_of 868 (by decide +kernel) rfl
theorem km_X7_40 : Cond.methodLink RX7 40 yX7_isDigit ∈ AW := AW_of 872 (by decide +kernel) rfl
theorem km_X7_48 : Cond.methodLink RX7 48 yX7_characterAt ∈ AW := AW_of 876 (by decide +kernel) rfl
theorem km_X7_44 : Cond.methodLink RX7 44 yX7_breaksOffAt ∈ AW := AW_of 880 (by decide +kernel) rfl
theorem km_X7_64 : Cond.methodLink RX7 64 yX7_isOrder ∈ AW := AW_of 884 (by decide +kernel) rfl
theorem km_X7_52 : Cond.methodLink RX7 52 yX7_numberAt ∈ AW := AW_of 887 (by decide +kernel) rfl
theorem km_X7_56 : Cond.methodLink RX7 56 yX5_causeAgainst ∈ AW := AW_of 891 (by decide +kernel) rfl
theorem km_X7_60 : Cond.methodLink RX7 60 yX5_carryOut ∈ AW := AW_of 892 (by decide +kernel) rfl
theorem km_L_237 : Cond.methodLink RL 237 yL_faultReason ∈ AW := AW_of 894 (by decide +kernel) rfl
theorem km_L_103 : Cond.methodLink RL 103 yX8_faultReason ∈ AW := AW_of 897 (by decide +kernel) rfl
theorem km_L_240 : Cond.methodLink RL 240 yL_faultCause ∈ AW := AW_of 901 (by decide +kernel) rfl
theorem km_L_106 : Cond.methodLink RL 106 yX8_faultCause ∈ AW := AW_of 904 (by decide +kernel) rfl
theorem km_L_243 : Cond.methodLink RL 243 yL_play ∈ AW := AW_of 908 (by decide +kernel) rfl
theorem km_L_109 : Cond.methodLink RL 109 yX8_play ∈ AW := AW_of 911 (by decide +kernel) rfl
theorem kc_L_113 : Cond.classLink RL 113 RX9 ∈ AW := AW_of 916 (by decide +kernel) rfl
theorem km_L_115 : Cond.methodLink RL 115 yX9_init ∈ AW := AW_of 918 (by decide +kernel) rfl
theorem km_X9_1 : Cond.methodLink RX9 1 Lib.objectInit ∈ AW := AW_of 921 (by decide +kernel) rfl
theorem kf_X9_7 : Cond.fieldLink RX9 7 RX9 "s" "[I" ∈ AW := AW_of 922 (by decide +kernel) rfl
theorem kf_X9_13 : Cond.fieldLink RX9 13 RX9 "before" "[I" ∈ AW := AW_of 923 (by decide +kernel) rfl
theorem kf_X9_16 : Cond.fieldLink RX9 16 RX9 "kept" "[I" ∈ AW := AW_of 924 (by decide +kernel) rfl
theorem kf_X9_157 : Cond.fieldLink RX9 157 RX9 "isKept" "Z" ∈ AW := AW_of 925 (by decide +kernel) rfl
theorem kf_X9_19 : Cond.fieldLink RX9 19 RX9 "past" "[I" ∈ AW := AW_of 926 (by decide +kernel) rfl
theorem kf_X9_40 : Cond.fieldLink RX9 40 RX9 "known" "I" ∈ AW := AW_of 927 (by decide +kernel) rfl
theorem kf_X9_22 : Cond.fieldLink RX9 22 RX9 "text" "[I" ∈ AW := AW_of 928 (by decide +kernel) rfl
theorem kf_X9_200 : Cond.fieldLink RX9 200 RX9 "length" "I" ∈ AW := AW_of 929 (by decide +kernel) rfl
theorem kf_X9_32 : Cond.fieldLink RX9 32 RX9 "thrown" "I" ∈ AW := AW_of 930 (by decide +kernel) rfl
theorem kf_X9_57 : Cond.fieldLink RX9 57 RX9 "m" "I" ∈ AW := AW_of 931 (by decide +kernel) rfl
theorem kf_X9_60 : Cond.fieldLink RX9 60 RX9 "q" "I" ∈ AW := AW_of 932 (by decide +kernel) rfl
theorem kf_X9_63 : Cond.fieldLink RX9 63 RX9 "term" "I" ∈ AW := AW_of 933 (by decide +kernel) rfl
theorem kf_X9_66 : Cond.fieldLink RX9 66 RX9 "formerX" "J" ∈ AW := AW_of 934 (by decide +kernel) rfl
theorem kf_X9_70 : Cond.fieldLink RX9 70 RX9 "formerY" "J" ∈ AW := AW_of 935 (by decide +kernel) rfl
theorem kf_X9_73 : Cond.fieldLink RX9 73 RX9 "nowX" "J" ∈ AW := AW_of 936 (by decide +kernel) rfl
theorem kf_X9_76 : Cond.fieldLink RX9 76 RX9 "nowY" "J" ∈ AW := AW_of 937 (by decide +kernel) rfl
theorem kf_X9_98 : Cond.fieldLink RX9 98 RX9 "unitOfX" "J" ∈ AW := AW_of 938 (by decide +kernel) rfl
theorem kf_X9_101 : Cond.fieldLink RX9 101 RX9 "unitOfY" "J" ∈ AW := AW_of 939 (by decide +kernel) rfl
theorem kf_X9_95 : Cond.fieldLink RX9 95 RX9 "unitSign" "I" ∈ AW := AW_of 940 (by decide +kernel) rfl
theorem kf_X9_104 : Cond.fieldLink RX9 104 RX9 "powerX" "J" ∈ AW := AW_of 941 (by decide +kernel) rfl
theorem kf_X9_107 : Cond.fieldLink RX9 107 RX9 "powerY" "J" ∈ AW := AW_of 942 (by decide +kernel) rfl
theorem kf_X9_25 : Cond.fieldLink RX9 25 RX9 "nextX" "[J" ∈ AW := AW_of 943 (by decide +kernel) rfl
theorem kf_X9_29 : Cond.fieldLink RX9 29 RX9 "nextY" "[J" ∈ AW := AW_of 944 (by decide +kernel) rfl
theorem kf_X9_203 : Cond.fieldLink RX9 203 RX9 "spot" "I" ∈ AW := AW_of 945 (by decide +kernel) rfl
theorem kf_X9_212 : Cond.fieldLink RX9 212 RX9 "begin" "I" ∈ AW := AW_of 946 (by decide +kernel) rfl
theorem kf_X9_206 : Cond.fieldLink RX9 206 RX9 "isForm" "Z" ∈ AW := AW_of 947 (by decide +kernel) rfl
theorem kf_X9_215 : Cond.fieldLink RX9 215 RX9 "letter" "I" ∈ AW := AW_of 948 (by decide +kernel) rfl
theorem kf_X9_225 : Cond.fieldLink RX9 225 RX9 "first" "I" ∈ AW := AW_of 949 (by decide +kernel) rfl
theorem kf_X9_228 : Cond.fieldLink RX9 228 RX9 "reason" "I" ∈ AW := AW_of 950 (by decide +kernel) rfl
theorem kf_X9_236 : Cond.fieldLink RX9 236 RX9 "cause" "I" ∈ AW := AW_of 951 (by decide +kernel) rfl
theorem km_L_122 : Cond.methodLink RL 122 yX9_thrown ∈ AW := AW_of 1013 (by decide +kernel) rfl
theorem km_L_121 : Cond.methodLink RL 121 yX9_lay ∈ AW := AW_of 1017 (by decide +kernel) rfl
theorem km_X9_139 : Cond.methodLink RX9 139 yX9_begins ∈ AW := AW_of 1021 (by decide +kernel) rfl
theorem km_X9_36 : Cond.methodLink RX9 36 yX9_copies ∈ AW := AW_of 1025 (by decide +kernel) rfl
theorem km_X9_142 : Cond.methodLink RX9 142 yX9_goLay ∈ AW := AW_of 1028 (by decide +kernel) rfl
theorem km_X9_126 : Cond.methodLink RX9 126 yX9_isNumber ∈ AW := AW_of 1032 (by decide +kernel) rfl
theorem km_X9_50 : Cond.methodLink RX9 50 yX9_in ∈ AW := AW_of 1035 (by decide +kernel) rfl
theorem km_X9_129 : Cond.methodLink RX9 129 yX9_reason ∈ AW := AW_of 1038 (by decide +kernel) rfl
theorem km_X9_119 : Cond.methodLink RX9 119 yX9_isSquare ∈ AW := AW_of 1042 (by decide +kernel) rfl
theorem km_X9_54 : Cond.methodLink RX9 54 yX9_root ∈ AW := AW_of 1045 (by decide +kernel) rfl
theorem km_X9_89 : Cond.methodLink RX9 89 yX9_stand ∈ AW := AW_of 1048 (by decide +kernel) rfl
theorem km_X9_122 : Cond.methodLink RX9 122 yX9_many ∈ AW := AW_of 1052 (by decide +kernel) rfl
theorem km_X9_132 : Cond.methodLink RX9 132 yX9_puts ∈ AW := AW_of 1056 (by decide +kernel) rfl
theorem km_X9_145 : Cond.methodLink RX9 145 yX9_ends ∈ AW := AW_of 1060 (by decide +kernel) rfl
theorem km_X9_43 : Cond.methodLink RX9 43 yX9_fails ∈ AW := AW_of 1064 (by decide +kernel) rfl
theorem km_X9_47 : Cond.methodLink RX9 47 yX9_records ∈ AW := AW_of 1068 (by decide +kernel) rfl
theorem km_L_127 : Cond.methodLink RL 127 yX9_take ∈ AW := AW_of 1072 (by decide +kernel) rfl
theorem km_X9_148 : Cond.methodLink RX9 148 yX9_goTake ∈ AW := AW_of 1076 (by decide +kernel) rfl
theorem km_L_130 : Cond.methodLink RL 130 yX9_mill ∈ AW := AW_of 1080 (by decide +kernel) rfl
theorem km_X9_151 : Cond.methodLink RX9 151 yX9_goMill ∈ AW := AW_of 1084 (by decide +kernel) rfl
theorem km_X9_136 : Cond.methodLink RX9 136 yX9_reaches ∈ AW := AW_of 1088 (by decide +kernel) rfl
theorem km_X9_112 : Cond.methodLink RX9 112 yX9_beginsPowers ∈ AW := AW_of 1092 (by decide +kernel) rfl
theorem km_X9_92 : Cond.methodLink RX9 92 yX9_period ∈ AW := AW_of 1096 (by decide +kernel) rfl
theorem km_X9_79 : Cond.methodLink RX9 79 yX9_beginsTerms ∈ AW := AW_of 1100 (by decide +kernel) rfl
theorem km_X9_83 : Cond.methodLink RX9 83 yX9_nextTerm ∈ AW := AW_of 1104 (by decide +kernel) rfl
theorem km_X9_86 : Cond.methodLink RX9 86 yX9_adds ∈ AW := AW_of 1108 (by decide +kernel) rfl
theorem km_X9_115 : Cond.methodLink RX9 115 yX9_grows ∈ AW := AW_of 1112 (by decide +kernel) rfl
theorem kl_X9_110 : Cond.constantLong RX9 110 (1000000000000000) ∈ AW := AW_of 1116 (by decide +kernel) rfl
theorem km_L_133 : Cond.methodLink RL 133 yX9_millBack ∈ AW := AW_of 1117 (by decide +kernel) rfl
theorem km_X9_154 : Cond.methodLink RX9 154 yX9_goBackward ∈ AW := AW_of 1121 (by decide +kernel) rfl
theorem km_L_226 : Cond.methodLink RL 226 yX9_undo ∈ AW := AW_of 1125 (by decide +kernel) rfl
theorem km_L_215 : Cond.methodLink RL 215 yX9_keep ∈ AW := AW_of 1129 (by decide +kernel) rfl
theorem km_L_219 : Cond.methodLink RL 219 yX9_goBack ∈ AW := AW_of 1133 (by decide +kernel) rfl
theorem km_L_136 : Cond.methodLink RL 136 yX9_whyNot ∈ AW := AW_of 1137 (by decide +kernel) rfl
theorem km_X9_161 : Cond.methodLink RX9 161 yX9_asks ∈ AW := AW_of 1141 (by decide +kernel) rfl
theorem km_L_139 : Cond.methodLink RL 139 yX9_periodOf ∈ AW := AW_of 1145 (by decide +kernel) rfl
theorem km_X9_165 : Cond.methodLink RX9 165 yX9_asksRoot ∈ AW := AW_of 1149 (by decide +kernel) rfl
theorem km_L_143 : Cond.methodLink RL 143 yX9_termAt ∈ AW := AW_of 1153 (by decide +kernel) rfl
theorem km_L_146 : Cond.methodLink RL 146 yX9_unitX ∈ AW := AW_of 1157 (by decide +kernel) rfl
theorem km_L_149 : Cond.methodLink RL 149 yX9_unitY ∈ AW := AW_of 1161 (by decide +kernel) rfl
theorem km_L_152 : Cond.methodLink RL 152 yX9_leastY ∈ AW := AW_of 1165 (by decide +kernel) rfl
theorem km_X9_171 : Cond.methodLink RX9 171 yX9_least ∈ AW := AW_of 1169 (by decide +kernel) rfl
theorem kl_X9_169 : Cond.constantLong RX9 169 (2) ∈ AW := AW_of 1173 (by decide +kernel) rfl
theorem km_L_155 : Cond.methodLink RL 155 yX9_leastYBySearch ∈ AW := AW_of 1174 (by decide +kernel) rfl
theorem km_L_159 : Cond.methodLink RL 159 yX9_stones ∈ AW := AW_of 1178 (by decide +kernel) rfl
theorem km_L_162 : Cond.methodLink RL 162 yX9_isLaid ∈ AW := AW_of 1182 (by decide +kernel) rfl
theorem km_L_165 : Cond.methodLink RL 165 yX9_stoneFrom ∈ AW := AW_of 1186 (by decide +kernel) rfl
theorem km_L_168 : Cond.methodLink RL 168 yX9_powerOf ∈ AW := AW_of 1190 (by decide +kernel) rfl
theorem km_X9_174 : Cond.methodLink RX9 174 yX9_asksStone ∈ AW := AW_of 1194 (by decide +kernel) rfl
theorem km_L_171 : Cond.methodLink RL 171 yX9_xOf ∈ AW := AW_of 1198 (by decide +kernel) rfl
theorem km_L_174 : Cond.methodLink RL 174 yX9_yOf ∈ AW := AW_of 1202 (by decide +kernel) rfl
theorem km_L_177 : Cond.methodLink RL 177 yX9_signOf ∈ AW := AW_of 1206 (by decide +kernel) rfl
theorem km_X9_177 : Cond.methodLink RX9 177 yX9_sign ∈ AW := AW_of 1210 (by decide +kernel) rfl
theorem km_L_180 : Cond.methodLink RL 180 yX9_signByRemainders ∈ AW := AW_of 1214 (by decide +kernel) rfl
theorem km_L_184 : Cond.methodLink RL 184 yX9_nearRoot ∈ AW := AW_of 1218 (by decide +kernel) rfl
theorem km_L_188 : Cond.methodLink RL 188 yX9_solutions ∈ AW := AW_of 1222 (by decide +kernel) rfl
theorem km_X9_189 : Cond.methodLink RX9 189 yX9_countTo ∈ AW := AW_of 1226 (by decide +kernel) rfl
theorem km_X9_183 : Cond.methodLink RX9 183 yX9_beginsSolutions ∈ AW := AW_of 1230 (by decide +kernel) rfl
theorem km_X9_180 : Cond.methodLink RX9 180 yX9_goesOn ∈ AW := AW_of 1234 (by decide +kernel) rfl
theorem km_X9_186 : Cond.methodLink RX9 186 yX9_leastNext ∈ AW := AW_of 1238 (by decide +kernel) rfl
theorem km_L_191 : Cond.methodLink RL 191 yX9_xAt ∈ AW := AW_of 1242 (by decide +kernel) rfl
theorem km_X9_196 : Cond.methodLink RX9 196 yX9_solutionX ∈ AW := AW_of 1246 (by decide +kernel) rfl
theorem km_X9_193 : Cond.methodLink RX9 193 yX9_solution ∈ AW := AW_of 1250 (by decide +kernel) rfl
theorem km_L_194 : Cond.methodLink RL 194 yX9_xAtBySet ∈ AW := AW_of 1254 (by decide +kernel) rfl
theorem km_L_197 : Cond.methodLink RL 197 yX9_stoneAt ∈ AW := AW_of 1258 (by decide +kernel) rfl
theorem km_L_203 : Cond.methodLink RL 203 yX9_solutionsUpTo ∈ AW := AW_of 1262 (by decide +kernel) rfl
theorem km_L_207 : Cond.methodLink RL 207 yX9_milled ∈ AW := AW_of 1266 (by decide +kernel) rfl
theorem km_L_211 : Cond.methodLink RL 211 yX9_minusStones ∈ AW := AW_of 1270 (by decide +kernel) rfl
theorem km_L_223 : Cond.methodLink RL 223 yX9_states ∈ AW := AW_of 1274 (by decide +kernel) rfl
theorem km_L_229 : Cond.methodLink RL 229 yX9_type ∈ AW := AW_of 1278 (by decide +kernel) rfl
theorem km_L_233 : Cond.methodLink RL 233 yX9_clearText ∈ AW := AW_of 1282 (by decide +kernel) rfl
theorem km_L_236 : Cond.methodLink RL 236 yX9_faultPosition ∈ AW := AW_of 1286 (by decide +kernel) rfl
theorem km_X9_242 : Cond.methodLink RX9 242 yX9_faultTold ∈ AW := AW_of 1290 (by decide +kernel) rfl
theorem km_X9_239 : Cond.methodLink RX9 239 yX9_doesAll ∈ AW := AW_of 1294 (by decide +kernel) rfl
theorem km_X9_230 : Cond.methodLink RX9 230 yX9_takesOrder ∈ AW := AW_of 1298 (by decide +kernel) rfl
theorem km_X9_209 : Cond.methodLink RX9 209 yX9_here ∈ AW := AW_of 1302 (by decide +kernel) rfl
theorem km_X9_218 : Cond.methodLink RX9 218 yX9_takes ∈ AW := AW_of 1306 (by decide +kernel) rfl
theorem km_X9_222 : Cond.methodLink RX9 222 yX9_takesNumber ∈ AW := AW_of 1310 (by decide +kernel) rfl
theorem km_X9_233 : Cond.methodLink RX9 233 yX9_doesOrder ∈ AW := AW_of 1314 (by decide +kernel) rfl
theorem km_L_239 : Cond.methodLink RL 239 yX9_faultReason ∈ AW := AW_of 1318 (by decide +kernel) rfl
theorem km_L_242 : Cond.methodLink RL 242 yX9_faultCause ∈ AW := AW_of 1322 (by decide +kernel) rfl
theorem km_L_245 : Cond.methodLink RL 245 yX9_play ∈ AW := AW_of 1326 (by decide +kernel) rfl
theorem kl_L_198 : Cond.constantLong RL 198 (4294967295) ∈ AW := AW_of 1330 (by decide +kernel) rfl
theorem w_init_X0 : Cond.initialized RX0 ∈ AW := AW_of 68 (by decide +kernel) rfl
theorem w_inst_X0 : Cond.instantiable RX0 2 ∈ AW := AW_of 277 (by decide +kernel) rfl
theorem w_init_X1 : Cond.initialized RX1 ∈ AW := AW_of 63 (by decide +kernel) rfl
theorem w_inst_X1 : Cond.instantiable RX1 5 ∈ AW := AW_of 117 (by decide +kernel) rfl
theorem w_init_X2 : Cond.initialized RX2 ∈ AW := AW_of 65 (by decide +kernel) rfl
theorem w_inst_X2 : Cond.instantiable RX2 4 ∈ AW := AW_of 230 (by decide +kernel) rfl
theorem w_init_X3 : Cond.initialized RX3 ∈ AW := AW_of 64 (by decide +kernel) rfl
theorem w_inst_X3 : Cond.instantiable RX3 3 ∈ AW := AW_of 211 (by decide +kernel) rfl
theorem w_init_X4 : Cond.initialized RX4 ∈ AW := AW_of 61 (by decide +kernel) rfl
theorem w_inst_X4 : Cond.instantiable RX4 5 ∈ AW := AW_of 88 (by decide +kernel) rfl
theorem w_init_X5 : Cond.initialized RX5 ∈ AW := AW_of 66 (by decide +kernel) rfl
theorem w_inst_X5 : Cond.instantiable RX5 4 ∈ AW := AW_of 253 (by decide +kernel) rfl
theorem w_init_X6 : Cond.initialized RX6 ∈ AW := AW_of 62 (by decide +kernel) rfl
theorem w_inst_X6 : Cond.instantiable RX6 5 ∈ AW := AW_of 94 (by decide +kernel) rfl
theorem w_init_X7 : Cond.initialized RX7 ∈ AW := AW_of 69 (by decide +kernel) rfl
theorem w_inst_X7 : Cond.instantiable RX7 6 ∈ AW := AW_of 294 (by decide +kernel) rfl
theorem w_init_X8 : Cond.initialized RX8 ∈ AW := AW_of 60 (by decide +kernel) rfl
theorem w_inst_X8 : Cond.instantiable RX8 10 ∈ AW := AW_of 80 (by decide +kernel) rfl
theorem w_init_X9 : Cond.initialized RX9 ∈ AW := AW_of 70 (by decide +kernel) rfl
theorem w_inst_X9 : Cond.instantiable RX9 30 ∈ AW := AW_of 917 (by decide +kernel) rfl
theorem w_init_J9 : Cond.initialized RJ9 ∈ AW := AW_of 78 (by decide +kernel) rfl
theorem w_init_J10 : Cond.initialized RJ10 ∈ AW := AW_of 76 (by decide +kernel) rfl
theorem w_init_J7 : Cond.initialized RJ7 ∈ AW := AW_of 67 (by decide +kernel) rfl
theorem w_init_L : Cond.initialized RL ∈ AW := AW_of 59 (by decide +kernel) rfl
theorem w_arr_int : Cond.arrayClass .int ∈ AW := AW_of 142 (by decide +kernel) rfl
theorem w_arr_long : Cond.arrayClass .long ∈ AW := AW_of 251 (by decide +kernel) rfl
theorem w_arr_char : Cond.arrayClass .char ∈ AW := AW_of 323 (by decide +kernel) rfl
theorem w_arr_double : Cond.arrayClass .double ∈ AW := AW_of 1331 (by decide +kernel) rfl
theorem w_oi1 : Cond.instanceMethod Lib.objectInit ∈ AW := AW_of 85 (by decide +kernel) rfl
theorem w_oi2 : Cond.code Lib.objectInit ⟨#[0xb1]⟩ 1 none ∈ AW := AW_of 86 (by decide +kernel) rfl
theorem w_ac1 : Cond.native arraycopyName ∈ AW := AW_of 413 (by decide +kernel) rfl
theorem w_ac2 : Cond.static arraycopyName ∈ AW := AW_of 412 (by decide +kernel) rfl
theorem w_ac3 : Cond.initialized "java/lang/System" ∈ AW := AW_of 76 (by decide +kernel) rfl
theorem inA0 : ∀ w ∈ u_ws RX0 TX0 2, w ∈ AW := AW_sub _ [288, 290] (by decide +kernel) (by decide +kernel)
theorem inA1 : ∀ w ∈ u_ws RX1 TX1 5, w ∈ AW := AW_sub _ [131, 133, 135, 137, 139] (by decide +kernel) (by decide +kernel)
theorem inA2 : ∀ w ∈ u_ws RX2 TX2 4, w ∈ AW := AW_sub _ [242, 244, 246, 248] (by decide +kernel) (by decide +kernel)
theorem inA3 : ∀ w ∈ u_ws RX3 TX3 3, w ∈ AW := AW_sub _ [222, 224, 226] (by decide +kernel) (by decide +kernel)
theorem inA4 : ∀ w ∈ u_ws RX4 TX4 5, w ∈ AW := AW_sub _ [197, 199, 201, 203, 205] (by decide +kernel) (by decide +kernel)
theorem inA5 : ∀ w ∈ u_ws RX5 TX5 4, w ∈ AW := AW_sub _ [267, 269, 271, 273] (by decide +kernel) (by decide +kernel)
theorem inA6 : ∀ w ∈ u_ws RX6 TX6 5, w ∈ AW := AW_sub _ [105, 107, 109, 111, 113] (by decide +kernel) (by decide +kernel)
theorem inA7 : ∀ w ∈ u_ws RX7 TX7 6, w ∈ AW := AW_sub _ [310, 312, 314, 316, 318, 320] (by decide +kernel) (by decide +kernel)
theorem inA8 : ∀ w ∈ u_ws RX8 TX8 10, w ∈ AW := AW_sub _ [334, 336, 338, 340, 342, 344, 346, 348, 350, 352] (by decide +kernel) (by decide +kernel)
theorem inA9 : ∀ w ∈ u_ws RX9 TX9 30, w ∈ AW := AW_sub _ [952, 954, 956, 958, 960, 962, 964, 966, 968, 970, 972, 974, 976, 978, 980, 982, 984, 986, 988, 990, 992, 994, 996, 998, 1000, 1002, 1004, 1006, 1008, 1010] (by decide +kernel) (by decide +kernel)
theorem ca_X0_init : CalI yX0_init cX0_init 3 1 := ⟨rfl, AW_of 279 (by decide +kernel) rfl, AW_of 68 (by decide +kernel) rfl, AW_of 280 (by decide +kernel) rfl, by decide +kernel⟩
theorem ca_X0_record : CalV RX0 yX0_record cX0_record 2 (none) 1 := ⟨AW_of 539 (by decide +kernel) rfl, AW_of 540 (by decide +kernel) rfl, AW_of 68 (by decide +kernel) rfl, AW_of 541 (by decide +kernel) rfl, rfl, by decide +kernel⟩
theorem ca_X0_restoreLatest : CalV RX0 yX0_restoreLatest cX0_restoreLatest 2 ((some .boolean)) 1 := ⟨AW_of 835 (by decide +kernel) rfl, AW_of 836 (by decide +kernel) rfl, AW_of 68 (by decide +kernel) rfl, AW_of 837 (by decide +kernel) rfl, rfl, by decide +kernel⟩
theorem ca_X0_moveOldestToEnd : CalV RX0 yX0_moveOldestToEnd cX0_moveOldestToEnd 3 (none) 0 := ⟨AW_of 544 (by decide +kernel) rfl, AW_of 6 (by decide +kernel) rfl, AW_of 68 (by decide +kernel) rfl, AW_of 545 (by decide +kernel) rfl, rfl, by decide +kernel⟩
theorem ca_X1_init : CalI yX1_init cX1_init 1 0 := ⟨rfl, AW_of 119 (by decide +kernel) rfl, AW_of 63 (by decide +kernel) rfl, AW_of 120 (by decide +kernel) rfl, by decide +kernel⟩
theorem ca_X1_begin : CalV RX1 yX1_begin cX1_begin 4 (none) 3 := ⟨AW_of 183 (by decide +kernel) rfl, AW_of 184 (by decide +kernel) rfl, AW_of 63 (by decide +kernel) rfl, AW_of 185 (by decide +kernel) rfl, rfl, by decide +kernel⟩
theorem ca_X1_climb : CalV RX1 yX1_climb cX1_climb 3 ((some .boolean)) 0 := ⟨AW_of 188 (by decide +kernel) rfl, AW_of 189 (by decide +kernel) rfl, AW_of 63 (by decide +kernel) rfl, AW_of 190 (by decide +kernel) rfl, rfl, by decide +kernel⟩
theorem ca_X1_isAheadOf : CalV RX1 yX1_isAheadOf cX1_isAheadOf 2 ((some .boolean)) 1 := ⟨AW_of 769 (by decide +kernel) rfl, AW_of 770 (by decide +kernel) rfl, AW_of 63 (by decide +kernel) rfl, AW_of 771 (by decide +kernel) rfl, rfl, by decide +kernel⟩
theorem ca_X2_init : CalI yX2_init cX2_init 2 1 := ⟨rfl, AW_of 232 (by decide +kernel) rfl, AW_of 65 (by decide +kernel) rfl, AW_of 233 (by decide +kernel) rfl, by decide +kernel⟩
theorem ca_X2_fill : CalV RX2 yX2_fill cX2_fill 3 (none) 1 := ⟨AW_of 785 (by decide +kernel) rfl, AW_of 786 (by decide +kernel) rfl, AW_of 65 (by decide +kernel) rfl, AW_of 787 (by decide +kernel) rfl, rfl, by decide +kernel⟩
theorem ca_X2_x : CalV RX2 yX2_x cX2_x 2 ((some .long)) 1 := ⟨AW_of 801 (by decide +kernel) rfl, AW_of 802 (by decide +kernel) rfl, AW_of 65 (by decide +kernel) rfl, AW_of 803 (by decide +kernel) rfl, rfl, by decide +kernel⟩
theorem ca_X2_addPowers : CalV RX2 yX2_addPowers cX2_addPowers 3 (none) 1 := ⟨AW_of 791 (by decide +kernel) rfl, AW_of 14 (by decide +kernel) rfl, AW_of 65 (by decide +kernel) rfl, AW_of 792 (by decide +kernel) rfl, rfl, by decide +kernel⟩
theorem ca_X2_add : CalV RX2 yX2_add cX2_add 4 (none) 1 := ⟨AW_of 798 (by decide +kernel) rfl, AW_of 15 (by decide +kernel) rfl, AW_of 65 (by decide +kernel) rfl, AW_of 799 (by decide +kernel) rfl, rfl, by decide +kernel⟩
theorem ca_X3_init : CalI yX3_init cX3_init 3 1 := ⟨rfl, AW_of 213 (by decide +kernel) rfl, AW_of 64 (by decide +kernel) rfl, AW_of 214 (by decide +kernel) rfl, by decide +kernel⟩
theorem ca_X3_fill : CalV RX3 yX3_fill cX3_fill 3 (none) 1 := ⟨AW_of 750 (by decide +kernel) rfl, AW_of 751 (by decide +kernel) rfl, AW_of 64 (by decide +kernel) rfl, AW_of 752 (by decide +kernel) rfl, rfl, by decide +kernel⟩
theorem ca_X3_pass : CalV RX3 yX3_pass cX3_pass 3 (none) 1 := ⟨AW_of 757 (by decide +kernel) rfl, AW_of 758 (by decide +kernel) rfl, AW_of 64 (by decide +kernel) rfl, AW_of 759 (by decide +kernel) rfl, rfl, by decide +kernel⟩
theorem ca_X3_first : CalV RX3 yX3_first cX3_first 1 ((some (.object "PellMills$Power"))) 0 := ⟨AW_of 773 (by decide +kernel) rfl, AW_of 774 (by decide +kernel) rfl, AW_of 64 (by decide +kernel) rfl, AW_of 775 (by decide +kernel) rfl, rfl, by decide +kernel⟩
theorem ca_X3_passFirst : CalV RX3 yX3_passFirst cX3_passFirst 3 (none) 0 := ⟨AW_of 762 (by decide +kernel) rfl, AW_of 12 (by decide +kernel) rfl, AW_of 64 (by decide +kernel) rfl, AW_of 763 (by decide +kernel) rfl, rfl, by decide +kernel⟩
theorem ca_X3_firstIndex : CalV RX3 yX3_firstIndex cX3_firstIndex 3 ((some .int)) 0 := ⟨AW_of 766 (by decide +kernel) rfl, AW_of 13 (by decide +kernel) rfl, AW_of 64 (by decide +kernel) rfl, AW_of 767 (by decide +kernel) rfl, rfl, by decide +kernel⟩
theorem ca_X4_init : CalI yX4_init cX4_init 3 0 := ⟨rfl, AW_of 90 (by decide +kernel) rfl, AW_of 61 (by decide +kernel) rfl, AW_of 91 (by decide +kernel) rfl, by decide +kernel⟩
theorem ca_X4_findUnit : CalV RX4 yX4_findUnit cX4_findUnit 9 (none) 1 := ⟨AW_of 156 (by decide +kernel) rfl, AW_of 0 (by decide +kernel) rfl, AW_of 61 (by decide +kernel) rfl, AW_of 157 (by decide +kernel) rfl, rfl, by decide +kernel⟩
theorem ca_X4_findGreatestPower : CalV RX4 yX4_findGreatestPower cX4_findGreatestPower 4 (none) 2 := ⟨AW_of 168 (by decide +kernel) rfl, AW_of 1 (by decide +kernel) rfl, AW_of 61 (by decide +kernel) rfl, AW_of 169 (by decide +kernel) rfl, rfl, by decide +kernel⟩
theorem ca_X4_begin : CalV RX4 yX4_begin cX4_begin 3 (none) 2 := ⟨AW_of 171 (by decide +kernel) rfl, AW_of 172 (by decide +kernel) rfl, AW_of 61 (by decide +kernel) rfl, AW_of 173 (by decide +kernel) rfl, rfl, by decide +kernel⟩
theorem ca_X4_term : CalV RX4 yX4_term cX4_term 4 ((some .int)) 2 := ⟨AW_of 632 (by decide +kernel) rfl, AW_of 633 (by decide +kernel) rfl, AW_of 61 (by decide +kernel) rfl, AW_of 634 (by decide +kernel) rfl, rfl, by decide +kernel⟩
theorem ca_X4_isSquare : CalV RX4 yX4_isSquare cX4_isSquare 2 ((some .boolean)) 1 := ⟨AW_of 447 (by decide +kernel) rfl, AW_of 448 (by decide +kernel) rfl, AW_of 61 (by decide +kernel) rfl, AW_of 449 (by decide +kernel) rfl, rfl, by decide +kernel⟩
theorem ca_X4_period : CalV RX4 yX4_period cX4_period 2 ((some .int)) 1 := ⟨AW_of 400 (by decide +kernel) rfl, AW_of 401 (by decide +kernel) rfl, AW_of 61 (by decide +kernel) rfl, AW_of 402 (by decide +kernel) rfl, rfl, by decide +kernel⟩
theorem ca_X4_xOfUnit : CalV RX4 yX4_xOfUnit cX4_xOfUnit 2 ((some .int)) 1 := ⟨AW_of 175 (by decide +kernel) rfl, AW_of 176 (by decide +kernel) rfl, AW_of 61 (by decide +kernel) rfl, AW_of 177 (by decide +kernel) rfl, rfl, by decide +kernel⟩
theorem ca_X4_yOfUnit : CalV RX4 yX4_yOfUnit cX4_yOfUnit 2 ((some .int)) 1 := ⟨AW_of 179 (by decide +kernel) rfl, AW_of 180 (by decide +kernel) rfl, AW_of 61 (by decide +kernel) rfl, AW_of 181 (by decide +kernel) rfl, rfl, by decide +kernel⟩
theorem ca_X4_signOfUnit : CalV RX4 yX4_signOfUnit cX4_signOfUnit 2 ((some .int)) 1 := ⟨AW_of 396 (by decide +kernel) rfl, AW_of 397 (by decide +kernel) rfl, AW_of 61 (by decide +kernel) rfl, AW_of 398 (by decide +kernel) rfl, rfl, by decide +kernel⟩
theorem ca_X4_greatestPower : CalV RX4 yX4_greatestPower cX4_greatestPower 2 ((some .int)) 1 := ⟨AW_of 451 (by decide +kernel) rfl, AW_of 452 (by decide +kernel) rfl, AW_of 61 (by decide +kernel) rfl, AW_of 453 (by decide +kernel) rfl, rfl, by decide +kernel⟩
theorem ca_X5_init : CalI yX5_init cX5_init 2 1 := ⟨rfl, AW_of 255 (by decide +kernel) rfl, AW_of 66 (by decide +kernel) rfl, AW_of 256 (by decide +kernel) rfl, by decide +kernel⟩
theorem ca_X5_copyFrom : CalV RX5 yX5_copyFrom cX5_copyFrom 2 (none) 1 := ⟨AW_of 408 (by decide +kernel) rfl, AW_of 409 (by decide +kernel) rfl, AW_of 66 (by decide +kernel) rfl, AW_of 410 (by decide +kernel) rfl, rfl, by decide +kernel⟩
theorem ca_X5_has : CalV RX5 yX5_has cX5_has 2 ((some .boolean)) 1 := ⟨AW_of 369 (by decide +kernel) rfl, AW_of 370 (by decide +kernel) rfl, AW_of 66 (by decide +kernel) rfl, AW_of 371 (by decide +kernel) rfl, rfl, by decide +kernel⟩
theorem ca_X5_heightOf : CalV RX5 yX5_heightOf cX5_heightOf 2 ((some .int)) 1 := ⟨AW_of 373 (by decide +kernel) rfl, AW_of 374 (by decide +kernel) rfl, AW_of 66 (by decide +kernel) rfl, AW_of 375 (by decide +kernel) rfl, rfl, by decide +kernel⟩
theorem ca_X5_sign : CalV RX5 yX5_sign cX5_sign 2 ((some .int)) 1 := ⟨AW_of 392 (by decide +kernel) rfl, AW_of 393 (by decide +kernel) rfl, AW_of 66 (by decide +kernel) rfl, AW_of 394 (by decide +kernel) rfl, rfl, by decide +kernel⟩
theorem ca_X5_reasonAgainstLaying : CalV RX5 yX5_reasonAgainstLaying cX5_reasonAgainstLaying 2 ((some .int)) 1 := ⟨AW_of 443 (by decide +kernel) rfl, AW_of 444 (by decide +kernel) rfl, AW_of 66 (by decide +kernel) rfl, AW_of 445 (by decide +kernel) rfl, rfl, by decide +kernel⟩
theorem ca_X5_causeAgainst : CalV RX5 yX5_causeAgainst cX5_causeAgainst 5 ((some .int)) 2 := ⟨AW_of 436 (by decide +kernel) rfl, AW_of 437 (by decide +kernel) rfl, AW_of 66 (by decide +kernel) rfl, AW_of 438 (by decide +kernel) rfl, rfl, by decide +kernel⟩
theorem ca_X5_carryOut : CalV RX5 yX5_carryOut cX5_carryOut 3 (none) 2 := ⟨AW_of 548 (by decide +kernel) rfl, AW_of 549 (by decide +kernel) rfl, AW_of 66 (by decide +kernel) rfl, AW_of 550 (by decide +kernel) rfl, rfl, by decide +kernel⟩
theorem ca_X5_setHeight : CalV RX5 yX5_setHeight cX5_setHeight 3 (none) 2 := ⟨AW_of 553 (by decide +kernel) rfl, AW_of 7 (by decide +kernel) rfl, AW_of 66 (by decide +kernel) rfl, AW_of 554 (by decide +kernel) rfl, rfl, by decide +kernel⟩
theorem ca_X6_init : CalI yX6_init cX6_init 1 0 := ⟨rfl, AW_of 96 (by decide +kernel) rfl, AW_of 62 (by decide +kernel) rfl, AW_of 97 (by decide +kernel) rfl, by decide +kernel⟩
theorem ca_X6_begin : CalV RX6 yX6_begin cX6_begin 2 (none) 1 := ⟨AW_of 144 (by decide +kernel) rfl, AW_of 145 (by decide +kernel) rfl, AW_of 62 (by decide +kernel) rfl, AW_of 146 (by decide +kernel) rfl, rfl, by decide +kernel⟩
theorem ca_X6_next : CalV RX6 yX6_next cX6_next 1 (none) 0 := ⟨AW_of 159 (by decide +kernel) rfl, AW_of 160 (by decide +kernel) rfl, AW_of 62 (by decide +kernel) rfl, AW_of 161 (by decide +kernel) rfl, rfl, by decide +kernel⟩
theorem ca_X6_isSquare : CalV RX6 yX6_isSquare cX6_isSquare 1 ((some .boolean)) 0 := ⟨AW_of 151 (by decide +kernel) rfl, AW_of 152 (by decide +kernel) rfl, AW_of 62 (by decide +kernel) rfl, AW_of 153 (by decide +kernel) rfl, rfl, by decide +kernel⟩
theorem ca_X6_endsPeriod : CalV RX6 yX6_endsPeriod cX6_endsPeriod 1 ((some .boolean)) 0 := ⟨AW_of 163 (by decide +kernel) rfl, AW_of 164 (by decide +kernel) rfl, AW_of 62 (by decide +kernel) rfl, AW_of 165 (by decide +kernel) rfl, rfl, by decide +kernel⟩
theorem ca_X7_init : CalI yX7_init cX7_init 1 0 := ⟨rfl, AW_of 296 (by decide +kernel) rfl, AW_of 69 (by decide +kernel) rfl, AW_of 297 (by decide +kernel) rfl, by decide +kernel⟩
theorem ca_X7_append : CalV RX7 yX7_append cX7_append 2 ((some .boolean)) 1 := ⟨AW_of 848 (by decide +kernel) rfl, AW_of 849 (by decide +kernel) rfl, AW_of 69 (by decide +kernel) rfl, AW_of 850 (by decide +kernel) rfl, rfl, by decide +kernel⟩
theorem ca_X7_findsFault : CalV RX7 yX7_findsFault cX7_findsFault 4 ((some .boolean)) 2 := ⟨AW_of 864 (by decide +kernel) rfl, AW_of 865 (by decide +kernel) rfl, AW_of 69 (by decide +kernel) rfl, AW_of 866 (by decide +kernel) rfl, rfl, by decide +kernel⟩
theorem ca_X7_readOrder : CalV RX7 yX7_readOrder cX7_readOrder 6 (none) 1 := ⟨AW_of 870 (by decide +kernel) rfl, AW_of 17 (by decide +kernel) rfl, AW_of 69 (by decide +kernel) rfl, AW_of 871 (by decide +kernel) rfl, rfl, by decide +kernel⟩
theorem ca_X7_breaksOffAt : CalV RX7 yX7_breaksOffAt cX7_breaksOffAt 2 ((some .int)) 1 := ⟨AW_of 882 (by decide +kernel) rfl, AW_of 20 (by decide +kernel) rfl, AW_of 69 (by decide +kernel) rfl, AW_of 883 (by decide +kernel) rfl, rfl, by decide +kernel⟩
theorem ca_X7_numberAt : CalV RX7 yX7_numberAt cX7_numberAt 5 ((some .int)) 2 := ⟨AW_of 889 (by decide +kernel) rfl, AW_of 21 (by decide +kernel) rfl, AW_of 69 (by decide +kernel) rfl, AW_of 890 (by decide +kernel) rfl, rfl, by decide +kernel⟩
theorem ca_X7_characterAt : CalV RX7 yX7_characterAt cX7_characterAt 2 ((some .char)) 1 := ⟨AW_of 878 (by decide +kernel) rfl, AW_of 19 (by decide +kernel) rfl, AW_of 69 (by decide +kernel) rfl, AW_of 879 (by decide +kernel) rfl, rfl, by decide +kernel⟩
theorem ca_X7_isDigit : CalV RX7 yX7_isDigit cX7_isDigit 3 ((some .boolean)) 1 := ⟨AW_of 874 (by decide +kernel) rfl, AW_of 18 (by decide +kernel) rfl, AW_of 69 (by decide +kernel) rfl, AW_of 875 (by decide +kernel) rfl, rfl, by decide +kernel⟩
theorem ca_X7_isOrder : CalS yX7_isOrder cX7_isOrder 1 ((some .boolean)) 1 := ⟨AW_of 885 (by decide +kernel) rfl, AW_of 69 (by decide +kernel) rfl, AW_of 886 (by decide +kernel) rfl, by decide +kernel⟩
theorem ca_X8_init : CalI yX8_init cX8_init 1 0 := ⟨rfl, AW_of 82 (by decide +kernel) rfl, AW_of 60 (by decide +kernel) rfl, AW_of 83 (by decide +kernel) rfl, by decide +kernel⟩
theorem ca_X8_lay : CalV RX8 yX8_lay cX8_lay 2 ((some .int)) 1 := ⟨AW_of 428 (by decide +kernel) rfl, AW_of 429 (by decide +kernel) rfl, AW_of 60 (by decide +kernel) rfl, AW_of 430 (by decide +kernel) rfl, rfl, by decide +kernel⟩
theorem ca_X8_take : CalV RX8 yX8_take cX8_take 3 ((some .int)) 1 := ⟨AW_of 559 (by decide +kernel) rfl, AW_of 560 (by decide +kernel) rfl, AW_of 60 (by decide +kernel) rfl, AW_of 561 (by decide +kernel) rfl, rfl, by decide +kernel⟩
theorem ca_X8_mill : CalV RX8 yX8_mill cX8_mill 2 ((some .long)) 1 := ⟨AW_of 567 (by decide +kernel) rfl, AW_of 568 (by decide +kernel) rfl, AW_of 60 (by decide +kernel) rfl, AW_of 569 (by decide +kernel) rfl, rfl, by decide +kernel⟩
theorem ca_X8_millBack : CalV RX8 yX8_millBack cX8_millBack 2 ((some .long)) 1 := ⟨AW_of 578 (by decide +kernel) rfl, AW_of 579 (by decide +kernel) rfl, AW_of 60 (by decide +kernel) rfl, AW_of 580 (by decide +kernel) rfl, rfl, by decide +kernel⟩
theorem ca_X8_whyNot : CalV RX8 yX8_whyNot cX8_whyNot 2 ((some .int)) 1 := ⟨AW_of 585 (by decide +kernel) rfl, AW_of 586 (by decide +kernel) rfl, AW_of 60 (by decide +kernel) rfl, AW_of 587 (by decide +kernel) rfl, rfl, by decide +kernel⟩
theorem ca_X8_periodOf : CalV RX8 yX8_periodOf cX8_periodOf 2 ((some .int)) 1 := ⟨AW_of 598 (by decide +kernel) rfl, AW_of 599 (by decide +kernel) rfl, AW_of 60 (by decide +kernel) rfl, AW_of 600 (by decide +kernel) rfl, rfl, by decide +kernel⟩
theorem ca_X8_termAt : CalV RX8 yX8_termAt cX8_termAt 3 ((some .int)) 2 := ⟨AW_of 627 (by decide +kernel) rfl, AW_of 628 (by decide +kernel) rfl, AW_of 60 (by decide +kernel) rfl, AW_of 629 (by decide +kernel) rfl, rfl, by decide +kernel⟩
theorem ca_X8_unitX : CalV RX8 yX8_unitX cX8_unitX 2 ((some .int)) 1 := ⟨AW_of 639 (by decide +kernel) rfl, AW_of 640 (by decide +kernel) rfl, AW_of 60 (by decide +kernel) rfl, AW_of 641 (by decide +kernel) rfl, rfl, by decide +kernel⟩
theorem ca_X8_unitY : CalV RX8 yX8_unitY cX8_unitY 2 ((some .int)) 1 := ⟨AW_of 647 (by decide +kernel) rfl, AW_of 648 (by decide +kernel) rfl, AW_of 60 (by decide +kernel) rfl, AW_of 649 (by decide +kernel) rfl, rfl, by decide +kernel⟩
theorem ca_X8_leastY : CalV RX8 yX8_leastY cX8_leastY 4 ((some .int)) 1 := ⟨AW_of 655 (by decide +kernel) rfl, AW_of 656 (by decide +kernel) rfl, AW_of 60 (by decide +kernel) rfl, AW_of 657 (by decide +kernel) rfl, rfl, by decide +kernel⟩
theorem ca_X8_leastYBySearch : CalV RX8 yX8_leastYBySearch cX8_leastYBySearch 2 ((some .int)) 1 := ⟨AW_of 663 (by decide +kernel) rfl, AW_of 664 (by decide +kernel) rfl, AW_of 60 (by decide +kernel) rfl, AW_of 665 (by decide +kernel) rfl, rfl, by decide +kernel⟩
theorem ca_X8_stones : CalV RX8 yX8_stones cX8_stones 1 ((some .int)) 0 := ⟨AW_of 356 (by decide +kernel) rfl, AW_of 357 (by decide +kernel) rfl, AW_of 60 (by decide +kernel) rfl, AW_of 358 (by decide +kernel) rfl, rfl, by decide +kernel⟩
theorem ca_X8_isLaid : CalV RX8 yX8_isLaid cX8_isLaid 2 ((some .boolean)) 1 := ⟨AW_of 674 (by decide +kernel) rfl, AW_of 675 (by decide +kernel) rfl, AW_of 60 (by decide +kernel) rfl, AW_of 676 (by decide +kernel) rfl, rfl, by decide +kernel⟩
theorem ca_X8_stoneFrom : CalV RX8 yX8_stoneFrom cX8_stoneFrom 3 ((some .int)) 1 := ⟨AW_of 681 (by decide +kernel) rfl, AW_of 682 (by decide +kernel) rfl, AW_of 60 (by decide +kernel) rfl, AW_of 683 (by decide +kernel) rfl, rfl, by decide +kernel⟩
theorem ca_X8_powerOf : CalV RX8 yX8_powerOf cX8_powerOf 2 ((some .int)) 1 := ⟨AW_of 689 (by decide +kernel) rfl, AW_of 690 (by decide +kernel) rfl, AW_of 60 (by decide +kernel) rfl, AW_of 691 (by decide +kernel) rfl, rfl, by decide +kernel⟩
theorem ca_X8_xOf : CalV RX8 yX8_xOf cX8_xOf 2 ((some .long)) 1 := ⟨AW_of 701 (by decide +kernel) rfl, AW_of 702 (by decide +kernel) rfl, AW_of 60 (by decide +kernel) rfl, AW_of 703 (by decide +kernel) rfl, rfl, by decide +kernel⟩
theorem ca_X8_yOf : CalV RX8 yX8_yOf cX8_yOf 2 ((some .long)) 1 := ⟨AW_of 708 (by decide +kernel) rfl, AW_of 709 (by decide +kernel) rfl, AW_of 60 (by decide +kernel) rfl, AW_of 710 (by decide +kernel) rfl, rfl, by decide +kernel⟩
theorem ca_X8_signOf : CalV RX8 yX8_signOf cX8_signOf 2 ((some .int)) 1 := ⟨AW_of 715 (by decide +kernel) rfl, AW_of 716 (by decide +kernel) rfl, AW_of 60 (by decide +kernel) rfl, AW_of 717 (by decide +kernel) rfl, rfl, by decide +kernel⟩
theorem ca_X8_signByRemainders : CalV RX8 yX8_signByRemainders cX8_signByRemainders 9 ((some .int)) 1 := ⟨AW_of 722 (by decide +kernel) rfl, AW_of 723 (by decide +kernel) rfl, AW_of 60 (by decide +kernel) rfl, AW_of 724 (by decide +kernel) rfl, rfl, by decide +kernel⟩
theorem ca_X8_nearRoot : CalV RX8 yX8_nearRoot cX8_nearRoot 3 ((some .float)) 1 := ⟨AW_of 733 (by decide +kernel) rfl, AW_of 734 (by decide +kernel) rfl, AW_of 60 (by decide +kernel) rfl, AW_of 735 (by decide +kernel) rfl, rfl, by decide +kernel⟩
theorem ca_X8_solutions : CalV RX8 yX8_solutions cX8_solutions 1 ((some .int)) 0 := ⟨AW_of 360 (by decide +kernel) rfl, AW_of 361 (by decide +kernel) rfl, AW_of 60 (by decide +kernel) rfl, AW_of 362 (by decide +kernel) rfl, rfl, by decide +kernel⟩
theorem ca_X8_xAt : CalV RX8 yX8_xAt cX8_xAt 2 ((some .long)) 1 := ⟨AW_of 741 (by decide +kernel) rfl, AW_of 742 (by decide +kernel) rfl, AW_of 60 (by decide +kernel) rfl, AW_of 743 (by decide +kernel) rfl, rfl, by decide +kernel⟩
theorem ca_X8_xAtBySet : CalV RX8 yX8_xAtBySet cX8_xAtBySet 2 ((some .long)) 1 := ⟨AW_of 781 (by decide +kernel) rfl, AW_of 782 (by decide +kernel) rfl, AW_of 60 (by decide +kernel) rfl, AW_of 783 (by decide +kernel) rfl, rfl, by decide +kernel⟩
theorem ca_X8_stoneAt : CalV RX8 yX8_stoneAt cX8_stoneAt 2 ((some .int)) 1 := ⟨AW_of 808 (by decide +kernel) rfl, AW_of 809 (by decide +kernel) rfl, AW_of 60 (by decide +kernel) rfl, AW_of 810 (by decide +kernel) rfl, rfl, by decide +kernel⟩
theorem ca_X8_solutionsUpTo : CalV RX8 yX8_solutionsUpTo cX8_solutionsUpTo 3 ((some .int)) 1 := ⟨AW_of 815 (by decide +kernel) rfl, AW_of 816 (by decide +kernel) rfl, AW_of 60 (by decide +kernel) rfl, AW_of 817 (by decide +kernel) rfl, rfl, by decide +kernel⟩
theorem ca_X8_milled : CalV RX8 yX8_milled cX8_milled 1 ((some .int)) 0 := ⟨AW_of 384 (by decide +kernel) rfl, AW_of 385 (by decide +kernel) rfl, AW_of 60 (by decide +kernel) rfl, AW_of 386 (by decide +kernel) rfl, rfl, by decide +kernel⟩
theorem ca_X8_minusStones : CalV RX8 yX8_minusStones cX8_minusStones 3 ((some .int)) 0 := ⟨AW_of 388 (by decide +kernel) rfl, AW_of 389 (by decide +kernel) rfl, AW_of 60 (by decide +kernel) rfl, AW_of 390 (by decide +kernel) rfl, rfl, by decide +kernel⟩
theorem ca_X8_keep : CalV RX8 yX8_keep cX8_keep 1 ((some .int)) 0 := ⟨AW_of 404 (by decide +kernel) rfl, AW_of 405 (by decide +kernel) rfl, AW_of 60 (by decide +kernel) rfl, AW_of 406 (by decide +kernel) rfl, rfl, by decide +kernel⟩
theorem ca_X8_goBack : CalV RX8 yX8_goBack cX8_goBack 1 ((some .int)) 0 := ⟨AW_of 823 (by decide +kernel) rfl, AW_of 824 (by decide +kernel) rfl, AW_of 60 (by decide +kernel) rfl, AW_of 825 (by decide +kernel) rfl, rfl, by decide +kernel⟩
theorem ca_X8_states : CalV RX8 yX8_states cX8_states 1 ((some .int)) 0 := ⟨AW_of 415 (by decide +kernel) rfl, AW_of 416 (by decide +kernel) rfl, AW_of 60 (by decide +kernel) rfl, AW_of 417 (by decide +kernel) rfl, rfl, by decide +kernel⟩
theorem ca_X8_undo : CalV RX8 yX8_undo cX8_undo 1 ((some .int)) 0 := ⟨AW_of 831 (by decide +kernel) rfl, AW_of 832 (by decide +kernel) rfl, AW_of 60 (by decide +kernel) rfl, AW_of 833 (by decide +kernel) rfl, rfl, by decide +kernel⟩
theorem ca_X8_type : CalV RX8 yX8_type cX8_type 2 ((some .int)) 1 := ⟨AW_of 843 (by decide +kernel) rfl, AW_of 844 (by decide +kernel) rfl, AW_of 60 (by decide +kernel) rfl, AW_of 845 (by decide +kernel) rfl, rfl, by decide +kernel⟩
theorem ca_X8_clearText : CalV RX8 yX8_clearText cX8_clearText 2 ((some .int)) 0 := ⟨AW_of 419 (by decide +kernel) rfl, AW_of 420 (by decide +kernel) rfl, AW_of 60 (by decide +kernel) rfl, AW_of 421 (by decide +kernel) rfl, rfl, by decide +kernel⟩
theorem ca_X8_faultPosition : CalV RX8 yX8_faultPosition cX8_faultPosition 1 ((some .int)) 0 := ⟨AW_of 856 (by decide +kernel) rfl, AW_of 857 (by decide +kernel) rfl, AW_of 60 (by decide +kernel) rfl, AW_of 858 (by decide +kernel) rfl, rfl, by decide +kernel⟩
theorem ca_X8_faultReason : CalV RX8 yX8_faultReason cX8_faultReason 1 ((some .int)) 0 := ⟨AW_of 898 (by decide +kernel) rfl, AW_of 899 (by decide +kernel) rfl, AW_of 60 (by decide +kernel) rfl, AW_of 900 (by decide +kernel) rfl, rfl, by decide +kernel⟩
theorem ca_X8_faultCause : CalV RX8 yX8_faultCause cX8_faultCause 1 ((some .int)) 0 := ⟨AW_of 905 (by decide +kernel) rfl, AW_of 906 (by decide +kernel) rfl, AW_of 60 (by decide +kernel) rfl, AW_of 907 (by decide +kernel) rfl, rfl, by decide +kernel⟩
theorem ca_X8_play : CalV RX8 yX8_play cX8_play 1 ((some .int)) 0 := ⟨AW_of 912 (by decide +kernel) rfl, AW_of 913 (by decide +kernel) rfl, AW_of 60 (by decide +kernel) rfl, AW_of 914 (by decide +kernel) rfl, rfl, by decide +kernel⟩
theorem ca_X8_isNumber : CalS yX8_isNumber cX8_isNumber 1 ((some .boolean)) 1 := ⟨AW_of 440 (by decide +kernel) rfl, AW_of 60 (by decide +kernel) rfl, AW_of 441 (by decide +kernel) rfl, by decide +kernel⟩
theorem ca_X8_requireNumber : CalS yX8_requireNumber cX8_requireNumber 1 (none) 1 := ⟨AW_of 589 (by decide +kernel) rfl, AW_of 60 (by decide +kernel) rfl, AW_of 590 (by decide +kernel) rfl, by decide +kernel⟩
theorem ca_X8_requireRoot : CalV RX8 yX8_requireRoot cX8_requireRoot 2 (none) 1 := ⟨AW_of 603 (by decide +kernel) rfl, AW_of 9 (by decide +kernel) rfl, AW_of 60 (by decide +kernel) rfl, AW_of 604 (by decide +kernel) rfl, rfl, by decide +kernel⟩
theorem ca_X8_requireLaid : CalV RX8 yX8_requireLaid cX8_requireLaid 2 (none) 1 := ⟨AW_of 694 (by decide +kernel) rfl, AW_of 10 (by decide +kernel) rfl, AW_of 60 (by decide +kernel) rfl, AW_of 695 (by decide +kernel) rfl, rfl, by decide +kernel⟩
theorem ca_X8_requireFault : CalV RX8 yX8_requireFault cX8_requireFault 1 (none) 0 := ⟨AW_of 861 (by decide +kernel) rfl, AW_of 16 (by decide +kernel) rfl, AW_of 60 (by decide +kernel) rfl, AW_of 862 (by decide +kernel) rfl, rfl, by decide +kernel⟩
theorem ca_X8_change : CalV RX8 yX8_change cX8_change 4 (none) 2 := ⟨AW_of 433 (by decide +kernel) rfl, AW_of 4 (by decide +kernel) rfl, AW_of 60 (by decide +kernel) rfl, AW_of 434 (by decide +kernel) rfl, rfl, by decide +kernel⟩
theorem ca_X8_powerOfLaid : CalV RX8 yX8_powerOfLaid cX8_powerOfLaid 4 ((some (.object "PellMills$Power"))) 1 := ⟨AW_of 572 (by decide +kernel) rfl, AW_of 8 (by decide +kernel) rfl, AW_of 60 (by decide +kernel) rfl, AW_of 573 (by decide +kernel) rfl, rfl, by decide +kernel⟩
theorem ca_X8_solutionByQueue : CalV RX8 yX8_solutionByQueue cX8_solutionByQueue 3 ((some (.object "PellMills$Power"))) 1 := ⟨AW_of 746 (by decide +kernel) rfl, AW_of 11 (by decide +kernel) rfl, AW_of 60 (by decide +kernel) rfl, AW_of 747 (by decide +kernel) rfl, rfl, by decide +kernel⟩
theorem ca_X8_countUpTo : CalV RX8 yX8_countUpTo cX8_countUpTo 5 ((some .int)) 1 := ⟨AW_of 366 (by decide +kernel) rfl, AW_of 2 (by decide +kernel) rfl, AW_of 60 (by decide +kernel) rfl, AW_of 367 (by decide +kernel) rfl, rfl, by decide +kernel⟩
theorem ca_X8_countPowersUpTo : CalV RX8 yX8_countPowersUpTo cX8_countPowersUpTo 5 ((some .int)) 2 := ⟨AW_of 378 (by decide +kernel) rfl, AW_of 3 (by decide +kernel) rfl, AW_of 60 (by decide +kernel) rfl, AW_of 379 (by decide +kernel) rfl, rfl, by decide +kernel⟩
theorem ca_X8_searchLeastY : CalS yX8_searchLeastY cX8_searchLeastY 7 ((some .int)) 1 := ⟨AW_of 667 (by decide +kernel) rfl, AW_of 60 (by decide +kernel) rfl, AW_of 668 (by decide +kernel) rfl, by decide +kernel⟩
theorem ca_X8_wholeRoot : CalS yX8_wholeRoot cX8_wholeRoot 3 ((some .int)) 1 := ⟨AW_of 148 (by decide +kernel) rfl, AW_of 60 (by decide +kernel) rfl, AW_of 149 (by decide +kernel) rfl, by decide +kernel⟩
theorem ca_X9_init : CalI yX9_init cX9_init 1 0 := ⟨rfl, AW_of 919 (by decide +kernel) rfl, AW_of 70 (by decide +kernel) rfl, AW_of 920 (by decide +kernel) rfl, by decide +kernel⟩
theorem ca_X9_thrown : CalV RX9 yX9_thrown cX9_thrown 1 ((some .int)) 0 := ⟨AW_of 1014 (by decide +kernel) rfl, AW_of 1015 (by decide +kernel) rfl, AW_of 70 (by decide +kernel) rfl, AW_of 1016 (by decide +kernel) rfl, rfl, by decide +kernel⟩
theorem ca_X9_fails : CalV RX9 yX9_fails cX9_fails 2 ((some .int)) 1 := ⟨AW_of 1066 (by decide +kernel) rfl, AW_of 29 (by decide +kernel) rfl, AW_of 70 (by decide +kernel) rfl, AW_of 1067 (by decide +kernel) rfl, rfl, by decide +kernel⟩
theorem ca_X9_in : CalS yX9_in cX9_in 3 ((some .boolean)) 3 := ⟨AW_of 1036 (by decide +kernel) rfl, AW_of 70 (by decide +kernel) rfl, AW_of 1037 (by decide +kernel) rfl, by decide +kernel⟩
theorem ca_X9_copies : CalS yX9_copies cX9_copies 5 (none) 4 := ⟨AW_of 1026 (by decide +kernel) rfl, AW_of 70 (by decide +kernel) rfl, AW_of 1027 (by decide +kernel) rfl, by decide +kernel⟩
theorem ca_X9_begins : CalV RX9 yX9_begins cX9_begins 1 (none) 0 := ⟨AW_of 1023 (by decide +kernel) rfl, AW_of 22 (by decide +kernel) rfl, AW_of 70 (by decide +kernel) rfl, AW_of 1024 (by decide +kernel) rfl, rfl, by decide +kernel⟩
theorem ca_X9_records : CalV RX9 yX9_records cX9_records 2 (none) 0 := ⟨AW_of 1070 (by decide +kernel) rfl, AW_of 30 (by decide +kernel) rfl, AW_of 70 (by decide +kernel) rfl, AW_of 1071 (by decide +kernel) rfl, rfl, by decide +kernel⟩
theorem ca_X9_ends : CalV RX9 yX9_ends cX9_ends 2 ((some .int)) 1 := ⟨AW_of 1062 (by decide +kernel) rfl, AW_of 28 (by decide +kernel) rfl, AW_of 70 (by decide +kernel) rfl, AW_of 1063 (by decide +kernel) rfl, rfl, by decide +kernel⟩
theorem ca_X9_isNumber : CalS yX9_isNumber cX9_isNumber 1 ((some .boolean)) 1 := ⟨AW_of 1033 (by decide +kernel) rfl, AW_of 70 (by decide +kernel) rfl, AW_of 1034 (by decide +kernel) rfl, by decide +kernel⟩
theorem ca_X9_root : CalS yX9_root cX9_root 2 ((some .int)) 1 := ⟨AW_of 1046 (by decide +kernel) rfl, AW_of 70 (by decide +kernel) rfl, AW_of 1047 (by decide +kernel) rfl, by decide +kernel⟩
theorem ca_X9_isSquare : CalS yX9_isSquare cX9_isSquare 1 ((some .boolean)) 1 := ⟨AW_of 1043 (by decide +kernel) rfl, AW_of 70 (by decide +kernel) rfl, AW_of 1044 (by decide +kernel) rfl, by decide +kernel⟩
theorem ca_X9_beginsTerms : CalV RX9 yX9_beginsTerms cX9_beginsTerms 2 (none) 1 := ⟨AW_of 1102 (by decide +kernel) rfl, AW_of 36 (by decide +kernel) rfl, AW_of 70 (by decide +kernel) rfl, AW_of 1103 (by decide +kernel) rfl, rfl, by decide +kernel⟩
theorem ca_X9_nextTerm : CalV RX9 yX9_nextTerm cX9_nextTerm 2 (none) 1 := ⟨AW_of 1106 (by decide +kernel) rfl, AW_of 37 (by decide +kernel) rfl, AW_of 70 (by decide +kernel) rfl, AW_of 1107 (by decide +kernel) rfl, rfl, by decide +kernel⟩
theorem ca_X9_adds : CalV RX9 yX9_adds cX9_adds 5 (none) 0 := ⟨AW_of 1110 (by decide +kernel) rfl, AW_of 38 (by decide +kernel) rfl, AW_of 70 (by decide +kernel) rfl, AW_of 1111 (by decide +kernel) rfl, rfl, by decide +kernel⟩
theorem ca_X9_period : CalV RX9 yX9_period cX9_period 3 ((some .int)) 1 := ⟨AW_of 1098 (by decide +kernel) rfl, AW_of 35 (by decide +kernel) rfl, AW_of 70 (by decide +kernel) rfl, AW_of 1099 (by decide +kernel) rfl, rfl, by decide +kernel⟩
theorem ca_X9_stand : CalV RX9 yX9_stand cX9_stand 2 ((some .int)) 1 := ⟨AW_of 1050 (by decide +kernel) rfl, AW_of 25 (by decide +kernel) rfl, AW_of 70 (by decide +kernel) rfl, AW_of 1051 (by decide +kernel) rfl, rfl, by decide +kernel⟩
theorem ca_X9_puts : CalV RX9 yX9_puts cX9_puts 3 (none) 2 := ⟨AW_of 1058 (by decide +kernel) rfl, AW_of 27 (by decide +kernel) rfl, AW_of 70 (by decide +kernel) rfl, AW_of 1059 (by decide +kernel) rfl, rfl, by decide +kernel⟩
theorem ca_X9_many : CalV RX9 yX9_many cX9_many 3 ((some .int)) 0 := ⟨AW_of 1054 (by decide +kernel) rfl, AW_of 26 (by decide +kernel) rfl, AW_of 70 (by decide +kernel) rfl, AW_of 1055 (by decide +kernel) rfl, rfl, by decide +kernel⟩
theorem ca_X9_beginsPowers : CalV RX9 yX9_beginsPowers cX9_beginsPowers 2 (none) 1 := ⟨AW_of 1094 (by decide +kernel) rfl, AW_of 34 (by decide +kernel) rfl, AW_of 70 (by decide +kernel) rfl, AW_of 1095 (by decide +kernel) rfl, rfl, by decide +kernel⟩
theorem ca_X9_grows : CalV RX9 yX9_grows cX9_grows 4 ((some .boolean)) 1 := ⟨AW_of 1114 (by decide +kernel) rfl, AW_of 39 (by decide +kernel) rfl, AW_of 70 (by decide +kernel) rfl, AW_of 1115 (by decide +kernel) rfl, rfl, by decide +kernel⟩
theorem ca_X9_reaches : CalV RX9 yX9_reaches cX9_reaches 4 (none) 2 := ⟨AW_of 1090 (by decide +kernel) rfl, AW_of 33 (by decide +kernel) rfl, AW_of 70 (by decide +kernel) rfl, AW_of 1091 (by decide +kernel) rfl, rfl, by decide +kernel⟩
theorem ca_X9_reason : CalV RX9 yX9_reason cX9_reason 2 ((some .int)) 1 := ⟨AW_of 1040 (by decide +kernel) rfl, AW_of 24 (by decide +kernel) rfl, AW_of 70 (by decide +kernel) rfl, AW_of 1041 (by decide +kernel) rfl, rfl, by decide +kernel⟩
theorem ca_X9_goLay : CalV RX9 yX9_goLay cX9_goLay 2 ((some .int)) 1 := ⟨AW_of 1030 (by decide +kernel) rfl, AW_of 23 (by decide +kernel) rfl, AW_of 70 (by decide +kernel) rfl, AW_of 1031 (by decide +kernel) rfl, rfl, by decide +kernel⟩
theorem ca_X9_goTake : CalV RX9 yX9_goTake cX9_goTake 3 ((some .int)) 1 := ⟨AW_of 1078 (by decide +kernel) rfl, AW_of 31 (by decide +kernel) rfl, AW_of 70 (by decide +kernel) rfl, AW_of 1079 (by decide +kernel) rfl, rfl, by decide +kernel⟩
theorem ca_X9_goMill : CalV RX9 yX9_goMill cX9_goMill 3 ((some .int)) 1 := ⟨AW_of 1086 (by decide +kernel) rfl, AW_of 32 (by decide +kernel) rfl, AW_of 70 (by decide +kernel) rfl, AW_of 1087 (by decide +kernel) rfl, rfl, by decide +kernel⟩
theorem ca_X9_goBackward : CalV RX9 yX9_goBackward cX9_goBackward 3 ((some .int)) 1 := ⟨AW_of 1123 (by decide +kernel) rfl, AW_of 40 (by decide +kernel) rfl, AW_of 70 (by decide +kernel) rfl, AW_of 1124 (by decide +kernel) rfl, rfl, by decide +kernel⟩
theorem ca_X9_lay : CalV RX9 yX9_lay cX9_lay 2 ((some .int)) 1 := ⟨AW_of 1018 (by decide +kernel) rfl, AW_of 1019 (by decide +kernel) rfl, AW_of 70 (by decide +kernel) rfl, AW_of 1020 (by decide +kernel) rfl, rfl, by decide +kernel⟩
theorem ca_X9_take : CalV RX9 yX9_take cX9_take 2 ((some .int)) 1 := ⟨AW_of 1073 (by decide +kernel) rfl, AW_of 1074 (by decide +kernel) rfl, AW_of 70 (by decide +kernel) rfl, AW_of 1075 (by decide +kernel) rfl, rfl, by decide +kernel⟩
theorem ca_X9_mill : CalV RX9 yX9_mill cX9_mill 3 ((some .long)) 1 := ⟨AW_of 1081 (by decide +kernel) rfl, AW_of 1082 (by decide +kernel) rfl, AW_of 70 (by decide +kernel) rfl, AW_of 1083 (by decide +kernel) rfl, rfl, by decide +kernel⟩
theorem ca_X9_millBack : CalV RX9 yX9_millBack cX9_millBack 3 ((some .long)) 1 := ⟨AW_of 1118 (by decide +kernel) rfl, AW_of 1119 (by decide +kernel) rfl, AW_of 70 (by decide +kernel) rfl, AW_of 1120 (by decide +kernel) rfl, rfl, by decide +kernel⟩
theorem ca_X9_undo : CalV RX9 yX9_undo cX9_undo 1 ((some .int)) 0 := ⟨AW_of 1126 (by decide +kernel) rfl, AW_of 1127 (by decide +kernel) rfl, AW_of 70 (by decide +kernel) rfl, AW_of 1128 (by decide +kernel) rfl, rfl, by decide +kernel⟩
theorem ca_X9_keep : CalV RX9 yX9_keep cX9_keep 1 ((some .int)) 0 := ⟨AW_of 1130 (by decide +kernel) rfl, AW_of 1131 (by decide +kernel) rfl, AW_of 70 (by decide +kernel) rfl, AW_of 1132 (by decide +kernel) rfl, rfl, by decide +kernel⟩
theorem ca_X9_goBack : CalV RX9 yX9_goBack cX9_goBack 1 ((some .int)) 0 := ⟨AW_of 1134 (by decide +kernel) rfl, AW_of 1135 (by decide +kernel) rfl, AW_of 70 (by decide +kernel) rfl, AW_of 1136 (by decide +kernel) rfl, rfl, by decide +kernel⟩
theorem ca_X9_asks : CalV RX9 yX9_asks cX9_asks 2 ((some .boolean)) 1 := ⟨AW_of 1143 (by decide +kernel) rfl, AW_of 41 (by decide +kernel) rfl, AW_of 70 (by decide +kernel) rfl, AW_of 1144 (by decide +kernel) rfl, rfl, by decide +kernel⟩
theorem ca_X9_whyNot : CalV RX9 yX9_whyNot cX9_whyNot 2 ((some .int)) 1 := ⟨AW_of 1138 (by decide +kernel) rfl, AW_of 1139 (by decide +kernel) rfl, AW_of 70 (by decide +kernel) rfl, AW_of 1140 (by decide +kernel) rfl, rfl, by decide +kernel⟩
theorem ca_X9_asksRoot : CalV RX9 yX9_asksRoot cX9_asksRoot 3 ((some .boolean)) 2 := ⟨AW_of 1151 (by decide +kernel) rfl, AW_of 42 (by decide +kernel) rfl, AW_of 70 (by decide +kernel) rfl, AW_of 1152 (by decide +kernel) rfl, rfl, by decide +kernel⟩
theorem ca_X9_periodOf : CalV RX9 yX9_periodOf cX9_periodOf 2 ((some .int)) 1 := ⟨AW_of 1146 (by decide +kernel) rfl, AW_of 1147 (by decide +kernel) rfl, AW_of 70 (by decide +kernel) rfl, AW_of 1148 (by decide +kernel) rfl, rfl, by decide +kernel⟩
theorem ca_X9_termAt : CalV RX9 yX9_termAt cX9_termAt 4 ((some .int)) 2 := ⟨AW_of 1154 (by decide +kernel) rfl, AW_of 1155 (by decide +kernel) rfl, AW_of 70 (by decide +kernel) rfl, AW_of 1156 (by decide +kernel) rfl, rfl, by decide +kernel⟩
theorem ca_X9_unitX : CalV RX9 yX9_unitX cX9_unitX 2 ((some .int)) 1 := ⟨AW_of 1158 (by decide +kernel) rfl, AW_of 1159 (by decide +kernel) rfl, AW_of 70 (by decide +kernel) rfl, AW_of 1160 (by decide +kernel) rfl, rfl, by decide +kernel⟩
theorem ca_X9_unitY : CalV RX9 yX9_unitY cX9_unitY 2 ((some .int)) 1 := ⟨AW_of 1162 (by decide +kernel) rfl, AW_of 1163 (by decide +kernel) rfl, AW_of 70 (by decide +kernel) rfl, AW_of 1164 (by decide +kernel) rfl, rfl, by decide +kernel⟩
theorem ca_X9_least : CalV RX9 yX9_least cX9_least 2 ((some .int)) 1 := ⟨AW_of 1171 (by decide +kernel) rfl, AW_of 43 (by decide +kernel) rfl, AW_of 70 (by decide +kernel) rfl, AW_of 1172 (by decide +kernel) rfl, rfl, by decide +kernel⟩
theorem ca_X9_leastY : CalV RX9 yX9_leastY cX9_leastY 2 ((some .int)) 1 := ⟨AW_of 1166 (by decide +kernel) rfl, AW_of 1167 (by decide +kernel) rfl, AW_of 70 (by decide +kernel) rfl, AW_of 1168 (by decide +kernel) rfl, rfl, by decide +kernel⟩
theorem ca_X9_leastYBySearch : CalV RX9 yX9_leastYBySearch cX9_leastYBySearch 2 ((some .int)) 1 := ⟨AW_of 1175 (by decide +kernel) rfl, AW_of 1176 (by decide +kernel) rfl, AW_of 70 (by decide +kernel) rfl, AW_of 1177 (by decide +kernel) rfl, rfl, by decide +kernel⟩
theorem ca_X9_stones : CalV RX9 yX9_stones cX9_stones 1 ((some .int)) 0 := ⟨AW_of 1179 (by decide +kernel) rfl, AW_of 1180 (by decide +kernel) rfl, AW_of 70 (by decide +kernel) rfl, AW_of 1181 (by decide +kernel) rfl, rfl, by decide +kernel⟩
theorem ca_X9_isLaid : CalV RX9 yX9_isLaid cX9_isLaid 2 ((some .boolean)) 1 := ⟨AW_of 1183 (by decide +kernel) rfl, AW_of 1184 (by decide +kernel) rfl, AW_of 70 (by decide +kernel) rfl, AW_of 1185 (by decide +kernel) rfl, rfl, by decide +kernel⟩
theorem ca_X9_stoneFrom : CalV RX9 yX9_stoneFrom cX9_stoneFrom 3 ((some .int)) 1 := ⟨AW_of 1187 (by decide +kernel) rfl, AW_of 1188 (by decide +kernel) rfl, AW_of 70 (by decide +kernel) rfl, AW_of 1189 (by decide +kernel) rfl, rfl, by decide +kernel⟩
theorem ca_X9_asksStone : CalV RX9 yX9_asksStone cX9_asksStone 2 ((some .boolean)) 1 := ⟨AW_of 1196 (by decide +kernel) rfl, AW_of 44 (by decide +kernel) rfl, AW_of 70 (by decide +kernel) rfl, AW_of 1197 (by decide +kernel) rfl, rfl, by decide +kernel⟩
theorem ca_X9_powerOf : CalV RX9 yX9_powerOf cX9_powerOf 2 ((some .int)) 1 := ⟨AW_of 1191 (by decide +kernel) rfl, AW_of 1192 (by decide +kernel) rfl, AW_of 70 (by decide +kernel) rfl, AW_of 1193 (by decide +kernel) rfl, rfl, by decide +kernel⟩
theorem ca_X9_xOf : CalV RX9 yX9_xOf cX9_xOf 2 ((some .long)) 1 := ⟨AW_of 1199 (by decide +kernel) rfl, AW_of 1200 (by decide +kernel) rfl, AW_of 70 (by decide +kernel) rfl, AW_of 1201 (by decide +kernel) rfl, rfl, by decide +kernel⟩
theorem ca_X9_yOf : CalV RX9 yX9_yOf cX9_yOf 2 ((some .long)) 1 := ⟨AW_of 1203 (by decide +kernel) rfl, AW_of 1204 (by decide +kernel) rfl, AW_of 70 (by decide +kernel) rfl, AW_of 1205 (by decide +kernel) rfl, rfl, by decide +kernel⟩
theorem ca_X9_sign : CalV RX9 yX9_sign cX9_sign 2 ((some .int)) 1 := ⟨AW_of 1212 (by decide +kernel) rfl, AW_of 45 (by decide +kernel) rfl, AW_of 70 (by decide +kernel) rfl, AW_of 1213 (by decide +kernel) rfl, rfl, by decide +kernel⟩
theorem ca_X9_signOf : CalV RX9 yX9_signOf cX9_signOf 2 ((some .int)) 1 := ⟨AW_of 1207 (by decide +kernel) rfl, AW_of 1208 (by decide +kernel) rfl, AW_of 70 (by decide +kernel) rfl, AW_of 1209 (by decide +kernel) rfl, rfl, by decide +kernel⟩
theorem ca_X9_signByRemainders : CalV RX9 yX9_signByRemainders cX9_signByRemainders 2 ((some .int)) 1 := ⟨AW_of 1215 (by decide +kernel) rfl, AW_of 1216 (by decide +kernel) rfl, AW_of 70 (by decide +kernel) rfl, AW_of 1217 (by decide +kernel) rfl, rfl, by decide +kernel⟩
theorem ca_X9_nearRoot : CalV RX9 yX9_nearRoot cX9_nearRoot 2 ((some .float)) 1 := ⟨AW_of 1219 (by decide +kernel) rfl, AW_of 1220 (by decide +kernel) rfl, AW_of 70 (by decide +kernel) rfl, AW_of 1221 (by decide +kernel) rfl, rfl, by decide +kernel⟩
theorem ca_X9_goesOn : CalV RX9 yX9_goesOn cX9_goesOn 3 (none) 1 := ⟨AW_of 1236 (by decide +kernel) rfl, AW_of 48 (by decide +kernel) rfl, AW_of 70 (by decide +kernel) rfl, AW_of 1237 (by decide +kernel) rfl, rfl, by decide +kernel⟩
theorem ca_X9_beginsSolutions : CalV RX9 yX9_beginsSolutions cX9_beginsSolutions 3 (none) 0 := ⟨AW_of 1232 (by decide +kernel) rfl, AW_of 47 (by decide +kernel) rfl, AW_of 70 (by decide +kernel) rfl, AW_of 1233 (by decide +kernel) rfl, rfl, by decide +kernel⟩
theorem ca_X9_leastNext : CalV RX9 yX9_leastNext cX9_leastNext 4 ((some .int)) 0 := ⟨AW_of 1240 (by decide +kernel) rfl, AW_of 49 (by decide +kernel) rfl, AW_of 70 (by decide +kernel) rfl, AW_of 1241 (by decide +kernel) rfl, rfl, by decide +kernel⟩
theorem ca_X9_countTo : CalV RX9 yX9_countTo cX9_countTo 5 ((some .int)) 1 := ⟨AW_of 1228 (by decide +kernel) rfl, AW_of 46 (by decide +kernel) rfl, AW_of 70 (by decide +kernel) rfl, AW_of 1229 (by decide +kernel) rfl, rfl, by decide +kernel⟩
theorem ca_X9_solutions : CalV RX9 yX9_solutions cX9_solutions 1 ((some .int)) 0 := ⟨AW_of 1223 (by decide +kernel) rfl, AW_of 1224 (by decide +kernel) rfl, AW_of 70 (by decide +kernel) rfl, AW_of 1225 (by decide +kernel) rfl, rfl, by decide +kernel⟩
theorem ca_X9_solution : CalV RX9 yX9_solution cX9_solution 4 ((some .int)) 1 := ⟨AW_of 1252 (by decide +kernel) rfl, AW_of 51 (by decide +kernel) rfl, AW_of 70 (by decide +kernel) rfl, AW_of 1253 (by decide +kernel) rfl, rfl, by decide +kernel⟩
theorem ca_X9_solutionX : CalV RX9 yX9_solutionX cX9_solutionX 3 ((some .long)) 1 := ⟨AW_of 1248 (by decide +kernel) rfl, AW_of 50 (by decide +kernel) rfl, AW_of 70 (by decide +kernel) rfl, AW_of 1249 (by decide +kernel) rfl, rfl, by decide +kernel⟩
theorem ca_X9_xAt : CalV RX9 yX9_xAt cX9_xAt 2 ((some .long)) 1 := ⟨AW_of 1243 (by decide +kernel) rfl, AW_of 1244 (by decide +kernel) rfl, AW_of 70 (by decide +kernel) rfl, AW_of 1245 (by decide +kernel) rfl, rfl, by decide +kernel⟩
theorem ca_X9_xAtBySet : CalV RX9 yX9_xAtBySet cX9_xAtBySet 2 ((some .long)) 1 := ⟨AW_of 1255 (by decide +kernel) rfl, AW_of 1256 (by decide +kernel) rfl, AW_of 70 (by decide +kernel) rfl, AW_of 1257 (by decide +kernel) rfl, rfl, by decide +kernel⟩
theorem ca_X9_stoneAt : CalV RX9 yX9_stoneAt cX9_stoneAt 2 ((some .int)) 1 := ⟨AW_of 1259 (by decide +kernel) rfl, AW_of 1260 (by decide +kernel) rfl, AW_of 70 (by decide +kernel) rfl, AW_of 1261 (by decide +kernel) rfl, rfl, by decide +kernel⟩
theorem ca_X9_solutionsUpTo : CalV RX9 yX9_solutionsUpTo cX9_solutionsUpTo 3 ((some .int)) 1 := ⟨AW_of 1263 (by decide +kernel) rfl, AW_of 1264 (by decide +kernel) rfl, AW_of 70 (by decide +kernel) rfl, AW_of 1265 (by decide +kernel) rfl, rfl, by decide +kernel⟩
theorem ca_X9_milled : CalV RX9 yX9_milled cX9_milled 1 ((some .int)) 0 := ⟨AW_of 1267 (by decide +kernel) rfl, AW_of 1268 (by decide +kernel) rfl, AW_of 70 (by decide +kernel) rfl, AW_of 1269 (by decide +kernel) rfl, rfl, by decide +kernel⟩
theorem ca_X9_minusStones : CalV RX9 yX9_minusStones cX9_minusStones 3 ((some .int)) 0 := ⟨AW_of 1271 (by decide +kernel) rfl, AW_of 1272 (by decide +kernel) rfl, AW_of 70 (by decide +kernel) rfl, AW_of 1273 (by decide +kernel) rfl, rfl, by decide +kernel⟩
theorem ca_X9_states : CalV RX9 yX9_states cX9_states 1 ((some .int)) 0 := ⟨AW_of 1275 (by decide +kernel) rfl, AW_of 1276 (by decide +kernel) rfl, AW_of 70 (by decide +kernel) rfl, AW_of 1277 (by decide +kernel) rfl, rfl, by decide +kernel⟩
theorem ca_X9_type : CalV RX9 yX9_type cX9_type 2 ((some .int)) 1 := ⟨AW_of 1279 (by decide +kernel) rfl, AW_of 1280 (by decide +kernel) rfl, AW_of 70 (by decide +kernel) rfl, AW_of 1281 (by decide +kernel) rfl, rfl, by decide +kernel⟩
theorem ca_X9_clearText : CalV RX9 yX9_clearText cX9_clearText 2 ((some .int)) 0 := ⟨AW_of 1283 (by decide +kernel) rfl, AW_of 1284 (by decide +kernel) rfl, AW_of 70 (by decide +kernel) rfl, AW_of 1285 (by decide +kernel) rfl, rfl, by decide +kernel⟩
theorem ca_X9_here : CalV RX9 yX9_here cX9_here 1 ((some .int)) 0 := ⟨AW_of 1304 (by decide +kernel) rfl, AW_of 55 (by decide +kernel) rfl, AW_of 70 (by decide +kernel) rfl, AW_of 1305 (by decide +kernel) rfl, rfl, by decide +kernel⟩
theorem ca_X9_takes : CalV RX9 yX9_takes cX9_takes 2 (none) 1 := ⟨AW_of 1308 (by decide +kernel) rfl, AW_of 56 (by decide +kernel) rfl, AW_of 70 (by decide +kernel) rfl, AW_of 1309 (by decide +kernel) rfl, rfl, by decide +kernel⟩
theorem ca_X9_takesNumber : CalV RX9 yX9_takesNumber cX9_takesNumber 3 ((some .int)) 0 := ⟨AW_of 1312 (by decide +kernel) rfl, AW_of 57 (by decide +kernel) rfl, AW_of 70 (by decide +kernel) rfl, AW_of 1313 (by decide +kernel) rfl, rfl, by decide +kernel⟩
theorem ca_X9_takesOrder : CalV RX9 yX9_takesOrder cX9_takesOrder 1 (none) 0 := ⟨AW_of 1300 (by decide +kernel) rfl, AW_of 54 (by decide +kernel) rfl, AW_of 70 (by decide +kernel) rfl, AW_of 1301 (by decide +kernel) rfl, rfl, by decide +kernel⟩
theorem ca_X9_doesOrder : CalV RX9 yX9_doesOrder cX9_doesOrder 1 ((some .int)) 0 := ⟨AW_of 1316 (by decide +kernel) rfl, AW_of 58 (by decide +kernel) rfl, AW_of 70 (by decide +kernel) rfl, AW_of 1317 (by decide +kernel) rfl, rfl, by decide +kernel⟩
theorem ca_X9_doesAll : CalV RX9 yX9_doesAll cX9_doesAll 3 ((some .int)) 0 := ⟨AW_of 1296 (by decide +kernel) rfl, AW_of 53 (by decide +kernel) rfl, AW_of 70 (by decide +kernel) rfl, AW_of 1297 (by decide +kernel) rfl, rfl, by decide +kernel⟩
theorem ca_X9_faultTold : CalV RX9 yX9_faultTold cX9_faultTold 3 ((some .int)) 1 := ⟨AW_of 1292 (by decide +kernel) rfl, AW_of 52 (by decide +kernel) rfl, AW_of 70 (by decide +kernel) rfl, AW_of 1293 (by decide +kernel) rfl, rfl, by decide +kernel⟩
theorem ca_X9_faultPosition : CalV RX9 yX9_faultPosition cX9_faultPosition 1 ((some .int)) 0 := ⟨AW_of 1287 (by decide +kernel) rfl, AW_of 1288 (by decide +kernel) rfl, AW_of 70 (by decide +kernel) rfl, AW_of 1289 (by decide +kernel) rfl, rfl, by decide +kernel⟩
theorem ca_X9_faultReason : CalV RX9 yX9_faultReason cX9_faultReason 1 ((some .int)) 0 := ⟨AW_of 1319 (by decide +kernel) rfl, AW_of 1320 (by decide +kernel) rfl, AW_of 70 (by decide +kernel) rfl, AW_of 1321 (by decide +kernel) rfl, rfl, by decide +kernel⟩
theorem ca_X9_faultCause : CalV RX9 yX9_faultCause cX9_faultCause 1 ((some .int)) 0 := ⟨AW_of 1323 (by decide +kernel) rfl, AW_of 1324 (by decide +kernel) rfl, AW_of 70 (by decide +kernel) rfl, AW_of 1325 (by decide +kernel) rfl, rfl, by decide +kernel⟩
theorem ca_X9_play : CalV RX9 yX9_play cX9_play 2 ((some .int)) 0 := ⟨AW_of 1327 (by decide +kernel) rfl, AW_of 1328 (by decide +kernel) rfl, AW_of 70 (by decide +kernel) rfl, AW_of 1329 (by decide +kernel) rfl, rfl, by decide +kernel⟩
theorem ca_J9_floorMod_f86c9 : CalS yJ9_floorMod_f86c9 cJ9_floorMod_f86c9 6 ((some .long)) 2 := ⟨AW_of 727 (by decide +kernel) rfl, AW_of 78 (by decide +kernel) rfl, AW_of 728 (by decide +kernel) rfl, by decide +kernel⟩
theorem ca_J7_fill_53178 : CalS yJ7_fill_53178 cJ7_fill_53178 4 (none) 2 := ⟨AW_of 259 (by decide +kernel) rfl, AW_of 67 (by decide +kernel) rfl, AW_of 260 (by decide +kernel) rfl, by decide +kernel⟩
set_option maxRecDepth 20000 in
theorem th_IAE : ThrB RX8 99 103 eIAE := ⟨by decide +kernel, by decide +kernel, AW_of 454 (by decide +kernel) rfl, AW_of 74 (by decide +kernel) rfl, by decide +kernel, by decide +kernel, by decide +kernel⟩
set_option maxRecDepth 20000 in
theorem th_ISE : ThrB RX8 188 192 eISE := ⟨by decide +kernel, by decide +kernel, AW_of 522 (by decide +kernel) rfl, AW_of 75 (by decide +kernel) rfl, by decide +kernel, by decide +kernel, by decide +kernel⟩
set_option maxRecDepth 20000 in
theorem th_NSE : ThrX RX8 126 130 eNSE 13 prog_22_method_4_code := ⟨by decide +kernel, by decide +kernel, by decide +kernel, AW_of 606 (by decide +kernel) rfl, AW_of 77 (by decide +kernel) rfl, by decide +kernel, by decide +kernel, by decide +kernel, by decide +kernel, by decide +kernel, by decide +kernel, by decide +kernel⟩
end
section
/-! the numbers that the document tells of the roots of 2 to 60 (0 where it is a square), and what the reads of the class say of them -/
def perL : List Nat := [0, 0, 1, 2, 0, 1, 2, 4, 2, 0, 1, 2, 2, 5, 4, 2, 0, 1, 2, 6, 2, 6, 6, 4, 2, 0, 1, 2, 4, 5, 2, 8, 4, 4, 4, 2, 0, 1, 2, 2, 2, 3, 2, 10, 8, 6, 12, 4, 2, 0, 1, 2, 6, 5, 6, 4, 2, 6, 7, 6, 4]
def uxL : List Nat := [0, 0, 1, 2, 0, 2, 5, 8, 3, 0, 3, 10, 7, 18, 15, 4, 0, 4, 17, 170, 9, 55, 197, 24, 5, 0, 5, 26, 127, 70, 11, 1520, 17, 23, 35, 6, 0, 6, 37, 25, 19, 32, 13, 3482, 199, 161, 24335, 48, 7, 0, 7, 50, 649, 182, 485, 89, 15, 151, 99, 530, 31]
def uyL : List Nat := [0, 0, 1, 1, 0, 1, 2, 3, 1, 0, 1, 3, 2, 5, 4, 1, 0, 1, 4, 39, 2, 12, 42, 5, 1, 0, 1, 5, 24, 13, 2, 273, 3, 4, 6, 1, 0, 1, 6, 4, 3, 5, 2, 531, 30, 24, 3588, 7, 1, 0, 1, 7, 90, 25, 66, 12, 2, 20, 13, 69, 4]
def gpL : List Nat := [0, 0, 39, 26, 0, 24, 15, 12, 19, 0, 19, 11, 13, 9, 10, 17, 0, 16, 9, 6, 12, 7, 5, 9, 15, 0, 15, 8, 6, 7, 11, 4, 9, 9, 8, 14, 0, 14, 8, 9, 9, 8, 10, 3, 5, 6, 3, 7, 13, 0, 13, 7, 4, 5, 5, 6, 10, 6, 6, 5, 8]
def wrL : List Nat := [0, 1, 1, 1, 2, 2, 2, 2, 2, 3, 3, 3, 3, 3, 3, 3, 4, 4, 4, 4, 4, 4, 4, 4, 4, 5, 5, 5, 5, 5, 5, 5, 5, 5, 5, 5, 6, 6, 6, 6, 6, 6, 6, 6, 6, 6, 6, 6, 6, 7, 7, 7, 7, 7, 7, 7, 7, 7, 7, 7, 7]
def tPer : Nat → Int32 := fun k => nI (perL.getD k 0)
def tUx : Nat → Int32 := fun k => nI (uxL.getD k 0)
def tUy : Nat → Int32 := fun k => nI (uyL.getD k 0)
def tGp : Nat → Int32 := fun k => nI (gpL.getD k 0)
def wr (d : Nat) : Nat := wrL.getD d 0
def numF (n : Int32) : Int32 := if n < 2 then 0 else if 60 < n then 0 else 1
def tabF (t : Nat → Int32) (n : Int32) : Int32 := if n < 0 then 0 else if 61 ≤ n then 0 else t n.toNatClampNeg
def sqF (n : Int32) : Int32 := if n < 0 then 0 else if 61 ≤ n then 0 else if tPer n.toNatClampNeg = 0 then 1 else 0
def sgF (n : Int32) : Int32 := if tabF tPer n - tabF tPer n / 2 * 2 = 0 then 1 else -1
def hOf (f : Nat → Int32) (n : Int32) : Int32 := if n < 0 then -1 else if 61 ≤ n then -1 else f n.toNatClampNeg
def hasF (f : Nat → Int32) (n : Int32) : Int32 := if hOf f n = -1 then 0 else 1
def signF (f : Nat → Int32) (n : Int32) : Int32 := if sgF n = -1 then (if hOf f n - hOf f n / 2 * 2 = 1 then -1 else 1) else 1
def rsnF (f : Nat → Int32) (l n : Int32) : Int32 := if sqF n = 0 then (if hOf f n = -1 then (if l < 8 then 0 else 3) else 2) else 1
def causeF (f : Nat → Int32) (l ch n : Int32) : Int32 :=
  if numF n = 0 then 1 else if ch = 108 then (if rsnF f l n = 0 then 0 else 2) else if ch = 109 then (if hOf f n = -1 then 2 else if tabF tGp n ≤ hOf f n then 2 else 0)
  else if ch = 98 then (if hOf f n ≤ 0 then 2 else 0) else (if hOf f n = -1 then 2 else 0)
def setH (f : Nat → Int32) (n v : Int32) : Nat → Int32 := if n < 0 then f else if 61 ≤ n then f else upd f n.toNatClampNeg v
def coF (f : Nat → Int32) (l m ch n : Int32) : (Nat → Int32) × Int32 × Int32 :=
  if ch = 108 then (setH f n 0, l + 1, m) else if ch = 116 then (setH f n (-1), l - 1, m) else if ch = 109 then (setH f n (hOf f n + 1), l, m + 1)
  else if ch = 98 then (setH f n (hOf f n - 1), l, m) else (f, l, m)
/-- one step of the terms: m, q, a -/
def tnF (nu wh m q t : Int32) : Int32 × Int32 × Int32 :=
  if q = 0 then (m, q, t) else if (nu - (q * t - m) * (q * t - m)) / q = 0 then (q * t - m, (nu - (q * t - m) * (q * t - m)) / q, t)
  else (q * t - m, (nu - (q * t - m) * (q * t - m)) / q, (wh + (q * t - m)) / ((nu - (q * t - m) * (q * t - m)) / q))
end
section
theorem i64_0 {x : Int32} (h : x.toInt64 = 0) : x = 0 := Int32.toInt_inj.mp (by have := congrArg Int64.toInt h; simpa using this)
def climbF (ux uy n : Int32) (x y : Int64) : Int32 × Int64 × Int64 :=
  if ux ≤ 0 then (0, x, y) else if x ≤ 1000000000000000 / ux.toInt64 then
    (if x * ux.toInt64 + n.toInt64 * y * uy.toInt64 ≤ 1000000000000000 then (1, x * ux.toInt64 + n.toInt64 * y * uy.toInt64, x * uy.toInt64 + y * ux.toInt64) else (0, x, y))
  else (0, x, y)
abbrev rm_X1_init : Room := ({ frames := 1, cells := 0, slots := 0, locals := 12 } : Room)
set_option maxRecDepth 100000 in
set_option maxHeartbeats 4000000 in
theorem c_X1_init {L : GL} {N : Nat} {ad : Nat → Nat} {G : Nat → va_E} {k : Nat}    : GM L yX1_init cX1_init 1 (none) rm_X1_init N ad G [.ref (ad k)] (fun vo G' => vo = none ∧ G = G') := by
  refine GM.of (own := RX1) (lo := [(0, .ref (ad k))]) (by decide +kernel) rfl rfl (Nat.le_of_ble_eq_true rfl) (fun E C hr => ?_)
  refine G_aload_n C 0 dX1_init_0 rfl rfl ?_
  refine G_objInit C km_X1_3 w_oi1 w_oi2 dX1_init_1 (by decide) (Nat.le_of_ble_eq_true rfl) ?_
  exact G_vret C hr dX1_init_4 ⟨rfl, rfl⟩

abbrev rm_X1_begin : Room := ({ frames := 0, cells := 0, slots := 0, locals := 0 } : Room)
set_option maxRecDepth 100000 in
set_option maxHeartbeats 4000000 in
theorem c_X1_begin {L : GL} {N : Nat} {ad : Nat → Nat} {G : Nat → va_E} {k : Nat} {ux uy n : Int32} {x y : Int64} {d a b : Int32} (lt_k : k < N) (g0 : G k = .inr (1, [.int ux, .int uy, .int n, .long x, .long y]))  : GM L yX1_begin cX1_begin 4 (none) rm_X1_begin N ad G [.ref (ad k), .int d, .int a, .int b] (fun vo G' => vo = none ∧ G' k = .inr (1, [.int a, .int b, .int d, .long 1, .long 0]) ∧ Agr [k] G G') := by
  refine GM.of (own := RX1) (lo := [(0, .ref (ad k)), (1, .int d), (2, .int a), (3, .int b)]) (by decide +kernel) rfl rfl (Nat.le_of_ble_eq_true rfl) (fun E C hr => ?_)
  refine G_aload_n C 0 dX1_begin_0 rfl rfl ?_
  refine G_iload_n C 1 dX1_begin_1 rfl rfl ?_
  refine G_putp C k lt_k g0 rfl inA1 tyX1_ok nmX1 2 (by decide) rfl kf_X1_9 rfl rfl rfl (fs' := [.int ux, .int uy, .int d, .long x, .long y]) (Nat.le_of_ble_eq_true rfl) rfl dX1_begin_2 (fun gg1 hh2 aa3 => ?_)
  have AA4 : Agr [k] G gg1 := aa3.wk (by simp)
  refine G_aload_n C 0 dX1_begin_5 rfl rfl ?_
  refine G_iload_n C 2 dX1_begin_6 rfl rfl ?_
  refine G_putp C k lt_k hh2 rfl inA1 tyX1_ok nmX1 0 (by decide) rfl kf_X1_15 rfl rfl rfl (fs' := [.int a, .int uy, .int d, .long x, .long y]) (Nat.le_of_ble_eq_true rfl) rfl dX1_begin_7 (fun gg5 hh6 aa7 => ?_)
  have AA8 : Agr [k] G gg5 := AA4.tr aa7 (by simp) (by simp)
  refine G_aload_n C 0 dX1_begin_10 rfl rfl ?_
  refine G_iload_n C 3 dX1_begin_11 rfl rfl ?_
  refine G_putp C k lt_k hh6 rfl inA1 tyX1_ok nmX1 1 (by decide) rfl kf_X1_18 rfl rfl rfl (fs' := [.int a, .int b, .int d, .long x, .long y]) (Nat.le_of_ble_eq_true rfl) rfl dX1_begin_12 (fun gg9 hh10 aa11 => ?_)
  have AA12 : Agr [k] G gg9 := AA8.tr aa11 (by simp) (by simp)
  refine G_aload_n C 0 dX1_begin_15 rfl rfl ?_
  refine G_lconst C (v := 1) dX1_begin_16 (by decide) ?_
  refine G_putp C k lt_k hh10 rfl inA1 tyX1_ok nmX1 3 (by decide) rfl kf_X1_21 rfl rfl rfl (fs' := [.int a, .int b, .int d, .long 1, .long y]) (Nat.le_of_ble_eq_true rfl) rfl dX1_begin_17 (fun gg13 hh14 aa15 => ?_)
  have AA16 : Agr [k] G gg13 := AA12.tr aa15 (by simp) (by simp)
  refine G_aload_n C 0 dX1_begin_20 rfl rfl ?_
  refine G_lconst C (v := 0) dX1_begin_21 (by decide) ?_
  refine G_putp C k lt_k hh14 rfl inA1 tyX1_ok nmX1 4 (by decide) rfl kf_X1_25 rfl rfl rfl (fs' := [.int a, .int b, .int d, .long 1, .long 0]) (Nat.le_of_ble_eq_true rfl) rfl dX1_begin_22 (fun gg17 hh18 aa19 => ?_)
  have AA20 : Agr [k] G gg17 := AA16.tr aa19 (by simp) (by simp)
  exact G_vret C hr dX1_begin_25 ⟨rfl, hh18, AA20⟩

abbrev rm_X1_climb : Room := ({ frames := 0, cells := 0, slots := 0, locals := 0 } : Room)
set_option maxRecDepth 100000 in
set_option maxHeartbeats 4000000 in
theorem c_X1_climb {L : GL} {N : Nat} {ad : Nat → Nat} {G : Nat → va_E} {k : Nat} {ux uy n : Int32} {x y : Int64} (lt_k : k < N) (g0 : G k = .inr (1, [.int ux, .int uy, .int n, .long x, .long y]))  : GM L yX1_climb cX1_climb 3 ((some .boolean)) rm_X1_climb N ad G [.ref (ad k)] (fun vo G' => vo = some (.int ((climbF ux uy n x y).1)) ∧ G' k = .inr (1, [.int ux, .int uy, .int n, .long ((climbF ux uy n x y).2.1), .long ((climbF ux uy n x y).2.2)]) ∧ Agr [k] G G') := by
  refine GM.of (own := RX1) (lo := [(0, .ref (ad k))]) (by decide +kernel) rfl rfl (Nat.le_of_ble_eq_true rfl) (fun E C hr => ?_)
  refine G_aload_n C 0 dX1_climb_0 rfl rfl ?_
  refine G_get C k lt_k g0 rfl inA1 0 (by decide) rfl kf_X1_15 rfl dX1_climb_1 ?_
  refine G_if_le C 24 dX1_climb_4 (by decide) (fun c4 => ?_) (fun c4 => ?_)
  · refine G_iconst C (v := 0) dX1_climb_24 (by decide) ?_
    exact G_zret C hr rfl dX1_climb_25 ⟨(by rw [climbF, if_pos c4]), (by rw [g0, climbF, if_pos c4]), Agr.rf⟩
  · refine G_aload_n C 0 dX1_climb_7 rfl rfl ?_
    refine G_get C k lt_k g0 rfl inA1 3 (by decide) rfl kf_X1_21 rfl dX1_climb_8 ?_
    refine G_ldc2 C dX1_climb_11 kl_X1_28 ?_
    refine G_aload_n C 0 dX1_climb_14 rfl rfl ?_
    refine G_get C k lt_k g0 rfl inA1 0 (by decide) rfl kf_X1_15 rfl dX1_climb_15 ?_
    refine G_i2l C dX1_climb_18 rfl ?_
    refine G_ldiv C dX1_climb_19 (fun h => c4 (by rw [i64_0 h]; decide)) ?_
    refine G_lc_le C 26 dX1_climb_20 dX1_climb_21 (by decide) (fun c20 => ?_) (fun c20 => ?_)
    · refine G_aload_n C 0 dX1_climb_26 rfl rfl ?_
      refine G_get C k lt_k g0 rfl inA1 3 (by decide) rfl kf_X1_21 rfl dX1_climb_27 ?_
      refine G_aload_n C 0 dX1_climb_30 rfl rfl ?_
      refine G_get C k lt_k g0 rfl inA1 0 (by decide) rfl kf_X1_15 rfl dX1_climb_31 ?_
      refine G_i2l C dX1_climb_34 rfl ?_
      refine G_lmul C dX1_climb_35 ?_
      refine G_aload_n C 0 dX1_climb_36 rfl rfl ?_
      refine G_get C k lt_k g0 rfl inA1 2 (by decide) rfl kf_X1_9 rfl dX1_climb_37 ?_
      refine G_i2l C dX1_climb_40 rfl ?_
      refine G_aload_n C 0 dX1_climb_41 rfl rfl ?_
      refine G_get C k lt_k g0 rfl inA1 4 (by decide) rfl kf_X1_25 rfl dX1_climb_42 ?_
      refine G_lmul C dX1_climb_45 ?_
      refine G_aload_n C 0 dX1_climb_46 rfl rfl ?_
      refine G_get C k lt_k g0 rfl inA1 1 (by decide) rfl kf_X1_18 rfl dX1_climb_47 ?_
      refine G_i2l C dX1_climb_50 rfl ?_
      refine G_lmul C dX1_climb_51 ?_
      refine G_ladd C dX1_climb_52 ?_
      refine G_lstore_n C 1 (lo' := [(1, .long ((x * ux.toInt64) + ((n.toInt64 * y) * uy.toInt64))), (0, .ref (ad k))]) dX1_climb_53 rfl (by decide) rfl ?_
      refine G_lload_n C 1 dX1_climb_54 rfl rfl ?_
      refine G_ldc2 C dX1_climb_55 kl_X1_28 ?_
      refine G_lc_le C 64 dX1_climb_58 dX1_climb_59 (by decide) (fun c58 => ?_) (fun c58 => ?_)
      · refine G_aload_n C 0 dX1_climb_64 rfl rfl ?_
        refine G_aload_n C 0 dX1_climb_65 rfl rfl ?_
        refine G_get C k lt_k g0 rfl inA1 3 (by decide) rfl kf_X1_21 rfl dX1_climb_66 ?_
        refine G_aload_n C 0 dX1_climb_69 rfl rfl ?_
        refine G_get C k lt_k g0 rfl inA1 1 (by decide) rfl kf_X1_18 rfl dX1_climb_70 ?_
        refine G_i2l C dX1_climb_73 rfl ?_
        refine G_lmul C dX1_climb_74 ?_
        refine G_aload_n C 0 dX1_climb_75 rfl rfl ?_
        refine G_get C k lt_k g0 rfl inA1 4 (by decide) rfl kf_X1_25 rfl dX1_climb_76 ?_
        refine G_aload_n C 0 dX1_climb_79 rfl rfl ?_
        refine G_get C k lt_k g0 rfl inA1 0 (by decide) rfl kf_X1_15 rfl dX1_climb_80 ?_
        refine G_i2l C dX1_climb_83 rfl ?_
        refine G_lmul C dX1_climb_84 ?_
        refine G_ladd C dX1_climb_85 ?_
        refine G_putp C k lt_k g0 rfl inA1 tyX1_ok nmX1 4 (by decide) rfl kf_X1_25 rfl rfl rfl (fs' := [.int ux, .int uy, .int n, .long x, .long ((x * uy.toInt64) + (y * ux.toInt64))]) (Nat.le_of_ble_eq_true rfl) rfl dX1_climb_86 (fun gg1 hh2 aa3 => ?_)
        have AA4 : Agr [k] G gg1 := aa3.wk (by simp)
        refine G_aload_n C 0 dX1_climb_89 rfl rfl ?_
        refine G_lload_n C 1 dX1_climb_90 rfl rfl ?_
        refine G_putp C k lt_k hh2 rfl inA1 tyX1_ok nmX1 3 (by decide) rfl kf_X1_21 rfl rfl rfl (fs' := [.int ux, .int uy, .int n, .long ((x * ux.toInt64) + ((n.toInt64 * y) * uy.toInt64)), .long ((x * uy.toInt64) + (y * ux.toInt64))]) (Nat.le_of_ble_eq_true rfl) rfl dX1_climb_91 (fun gg5 hh6 aa7 => ?_)
        have AA8 : Agr [k] G gg5 := AA4.tr aa7 (by simp) (by simp)
        refine G_iconst C (v := 1) dX1_climb_94 (by decide) ?_
        exact G_zret C hr rfl dX1_climb_95 ⟨(by rw [climbF, if_neg c4, if_pos c20, if_pos c58]), (by rw [hh6, climbF, if_neg c4, if_pos c20, if_pos c58]), AA8⟩
      · refine G_iconst C (v := 0) dX1_climb_62 (by decide) ?_
        exact G_zret C hr rfl dX1_climb_63 ⟨(by rw [climbF, if_neg c4, if_pos c20, if_neg c58]), (by rw [g0, climbF, if_neg c4, if_pos c20, if_neg c58]), Agr.rf⟩
    · refine G_iconst C (v := 0) dX1_climb_24 (by decide) ?_
      exact G_zret C hr rfl dX1_climb_25 ⟨(by rw [climbF, if_neg c4, if_neg c20]), (by rw [g0, climbF, if_neg c4, if_neg c20]), Agr.rf⟩

abbrev rm_X1_isAheadOf : Room := ({ frames := 0, cells := 0, slots := 0, locals := 0 } : Room)
set_option maxRecDepth 100000 in
set_option maxHeartbeats 4000000 in
theorem c_X1_isAheadOf {L : GL} {N : Nat} {ad : Nat → Nat} {G : Nat → va_E} {k k2 : Nat} {ux uy n ux2 uy2 n2 : Int32} {x y x2 y2 : Int64} (lt_k : k < N) (lt_k2 : k2 < N) (g0 : G k = .inr (1, [.int ux, .int uy, .int n, .long x, .long y])) (g1 : G k2 = .inr (1, [.int ux2, .int uy2, .int n2, .long x2, .long y2]))  : GM L yX1_isAheadOf cX1_isAheadOf 2 ((some .boolean)) rm_X1_isAheadOf N ad G [.ref (ad k), .ref (ad k2)] (fun vo G' => vo = some (.int (if x = x2 then (if n2 ≤ n then 0 else 1) else (if x2 ≤ x then 0 else 1))) ∧ G = G') := by
  refine GM.of (own := RX1) (lo := [(0, .ref (ad k)), (1, .ref (ad k2))]) (by decide +kernel) rfl rfl (Nat.le_of_ble_eq_true rfl) (fun E C hr => ?_)
  refine G_aload_n C 0 dX1_isAheadOf_0 rfl rfl ?_
  refine G_get C k lt_k g0 rfl inA1 3 (by decide) rfl kf_X1_21 rfl dX1_isAheadOf_1 ?_
  refine G_aload_n C 1 dX1_isAheadOf_4 rfl rfl ?_
  refine G_get C k2 lt_k2 g1 rfl inA1 3 (by decide) rfl kf_X1_21 rfl dX1_isAheadOf_5 ?_
  refine G_lc_eq C 32 dX1_isAheadOf_8 dX1_isAheadOf_9 (by decide) (fun c8 => ?_) (fun c8 => ?_)
  · refine G_aload_n C 0 dX1_isAheadOf_32 rfl rfl ?_
    refine G_get C k lt_k g0 rfl inA1 2 (by decide) rfl kf_X1_9 rfl dX1_isAheadOf_33 ?_
    refine G_aload_n C 1 dX1_isAheadOf_36 rfl rfl ?_
    refine G_get C k2 lt_k2 g1 rfl inA1 2 (by decide) rfl kf_X1_9 rfl dX1_isAheadOf_37 ?_
    refine G_icmp_ge C 47 dX1_isAheadOf_40 (by decide) (fun c40 => ?_) (fun c40 => ?_)
    · refine G_iconst C (v := 0) dX1_isAheadOf_47 (by decide) ?_
      exact G_zret C hr rfl dX1_isAheadOf_48 ⟨(by rw [if_pos c8, if_pos c40]), rfl⟩
    · refine G_iconst C (v := 1) dX1_isAheadOf_43 (by decide) ?_
      refine G_goto C 48 dX1_isAheadOf_44 (by decide) ?_
      exact G_zret C hr rfl dX1_isAheadOf_48 ⟨(by rw [if_pos c8, if_neg c40]), rfl⟩
  · refine G_aload_n C 0 dX1_isAheadOf_12 rfl rfl ?_
    refine G_get C k lt_k g0 rfl inA1 3 (by decide) rfl kf_X1_21 rfl dX1_isAheadOf_13 ?_
    refine G_aload_n C 1 dX1_isAheadOf_16 rfl rfl ?_
    refine G_get C k2 lt_k2 g1 rfl inA1 3 (by decide) rfl kf_X1_21 rfl dX1_isAheadOf_17 ?_
    refine G_lc_ge C 28 dX1_isAheadOf_20 dX1_isAheadOf_21 (by decide) (fun c20 => ?_) (fun c20 => ?_)
    · refine G_iconst C (v := 0) dX1_isAheadOf_28 (by decide) ?_
      refine G_goto C 48 dX1_isAheadOf_29 (by decide) ?_
      exact G_zret C hr rfl dX1_isAheadOf_48 ⟨(by rw [if_neg c8, if_pos c20]), rfl⟩
    · refine G_iconst C (v := 1) dX1_isAheadOf_24 (by decide) ?_
      refine G_goto C 48 dX1_isAheadOf_25 (by decide) ?_
      exact G_zret C hr rfl dX1_isAheadOf_48 ⟨(by rw [if_neg c8, if_neg c20]), rfl⟩
end
section
abbrev rm_X8_isNumber : Room := ({ frames := 0, cells := 0, slots := 0, locals := 0 } : Room)
set_option maxRecDepth 100000 in
set_option maxHeartbeats 4000000 in
theorem c_X8_isNumber {L : GL} {N : Nat} {ad : Nat → Nat} {G : Nat → va_E} {n : Int32}    : GM L yX8_isNumber cX8_isNumber 1 ((some .boolean)) rm_X8_isNumber N ad G [.int n] (fun vo G' => vo = some (.int (numF n)) ∧ G = G') := by
  refine GM.of (own := RX8) (lo := [(0, .int n)]) (by decide +kernel) rfl rfl (Nat.le_of_ble_eq_true rfl) (fun E C hr => ?_)
  refine G_iload_n C 0 dX8_isNumber_0 rfl rfl ?_
  refine G_iconst C (v := 2) dX8_isNumber_1 (by decide) ?_
  refine G_icmp_lt C 15 dX8_isNumber_2 (by decide) (fun c2 => ?_) (fun c2 => ?_)
  · refine G_iconst C (v := 0) dX8_isNumber_15 (by decide) ?_
    exact G_zret C hr rfl dX8_isNumber_16 ⟨by simp only [numF, if_pos c2], rfl⟩
  · refine G_iload_n C 0 dX8_isNumber_5 rfl rfl ?_
    refine G_bipush C (v := 60) dX8_isNumber_6 (by decide) ?_
    refine G_icmp_gt C 15 dX8_isNumber_8 (by decide) (fun c8 => ?_) (fun c8 => ?_)
    · refine G_iconst C (v := 0) dX8_isNumber_15 (by decide) ?_
      exact G_zret C hr rfl dX8_isNumber_16 ⟨by simp only [numF, if_neg c2, if_pos c8], rfl⟩
    · refine G_iconst C (v := 1) dX8_isNumber_11 (by decide) ?_
      refine G_goto C 16 dX8_isNumber_12 (by decide) ?_
      exact G_zret C hr rfl dX8_isNumber_16 ⟨by simp only [numF, if_neg c2, if_neg c8], rfl⟩

theorem cpy61 {f g : Nat → Int32} {j : Nat} (hj : j < 61) : va_cpy g f (0 : Int32).toNatClampNeg (0 : Int32).toNatClampNeg (61 : Int32).toNatClampNeg j = g j := by
  have e0 : (0 : Int32).toNatClampNeg = 0 := rfl
  have e1 : (61 : Int32).toNatClampNeg = 61 := rfl
  rw [e0, e1]
  unfold va_cpy
  rw [if_pos ⟨Nat.zero_le _, by omega⟩]
  congr 1
  omega
theorem wr_ok : ∀ d, d < 61 → ∀ i, i < 9 → 2 ≤ i → (i - 1) * (i - 1) ≤ d → d < i * i → wr d = i - 1 := by decide +kernel
theorem nI_mul (a b : Nat) : nI a * nI b = nI (a * b) := pk_mul a b
abbrev rm_X8_wholeRoot : Room := ({ frames := 0, cells := 0, slots := 0, locals := 0 } : Room)
set_option maxRecDepth 100000 in
set_option maxHeartbeats 4000000 in
theorem c_X8_wholeRoot {L : GL} {N : Nat} {ad : Nat → Nat} {G : Nat → va_E} {d : Nat}   (h2 : 2 ≤ d) (h60 : d ≤ 60) : GM L yX8_wholeRoot cX8_wholeRoot 3 ((some .int)) rm_X8_wholeRoot N ad G [.int (nI d)] (fun vo G' => vo = some (.int (nI (wr d))) ∧ G = G') := by
  refine GM.of (own := RX8) (lo := [(0, .int (nI d))]) (by decide +kernel) rfl rfl (Nat.le_of_ble_eq_true rfl) (fun E C hr => ?_)
  refine G_iconst C (v := 1) dX8_wholeRoot_0 (by decide) ?_
  refine G_istore_n C 1 (lo' := [(1, .int 1), (0, .int (nI d))]) dX8_wholeRoot_1 rfl (by decide) rfl ?_
  refine G_iconst C (v := 2) dX8_wholeRoot_2 (by decide) ?_
  refine G_istore_n C 2 (lo' := [(2, .int 2), (1, .int 1), (0, .int (nI d))]) dX8_wholeRoot_3 rfl (by decide) rfl ?_
  have key4 : ∀ (n : Nat) (i : Nat)  (hn : 9 - i < n) (hi : 2 ≤ i ∧ i ≤ 8) (hs : (i - 1) * (i - 1) ≤ d), GW L E N ad G 0 0 4 [(2, .int (nI i)), (1, .int (nI (i - 1))), (0, .int (nI d))] [] := by
    intro n
    induction n with
    | zero =>
      intro i  hn hi hs
      exact absurd hn (Nat.not_lt_zero _)
    | succ n ih =>
      intro i  hn hi hs
      have him : i * i ≤ 64 := Nat.mul_le_mul hi.2 hi.2
      refine G_iload_n C 2 dX8_wholeRoot_4 rfl rfl ?_
      refine G_bipush C (v := 60) dX8_wholeRoot_5 (by decide) ?_
      refine G_icmp_gt C 25 dX8_wholeRoot_7 (by decide) (fun c7 => False.elim (by have := (cI_lt (a := 60) (b := i) rfl rfl (by omega) (by omega)).mp c7; omega)) (fun c7 => ?_)
      have c7n : ¬ 60 < i := fun z => c7 ((cI_lt (a := 60) (b := i) rfl rfl (by omega) (by omega)).mpr z)
      refine G_iload_n C 2 dX8_wholeRoot_10 rfl rfl ?_
      refine G_iload_n C 2 dX8_wholeRoot_11 rfl rfl ?_
      refine G_imul C dX8_wholeRoot_12 ?_
      refine GW.topr (cI_mul (a := i) (b := i) rfl rfl) ?_
      refine G_iload_n C 0 dX8_wholeRoot_13 rfl rfl ?_
      refine G_icmp_gt C 25 dX8_wholeRoot_14 (by decide) (fun c14 => ?_) (fun c14 => ?_)
      · have c14n : d < (i * i) := (cI_lt (a := d) (b := (i * i)) rfl rfl (by omega) (by omega)).mp c14
        refine G_iload_n C 1 dX8_wholeRoot_25 rfl rfl ?_
        exact G_zret C hr rfl dX8_wholeRoot_26 ⟨(by rw [wr_ok d (by omega) i (by omega) hi.1 hs (by omega)]), rfl⟩
      · have c14n : ¬ d < (i * i) := fun z => c14 ((cI_lt (a := d) (b := (i * i)) rfl rfl (by omega) (by omega)).mpr z)
        refine G_iload_n C 2 dX8_wholeRoot_17 rfl rfl ?_
        refine G_istore_n C 1 (lo' := [(1, .int (nI i)), (2, .int (nI i)), (0, .int (nI d))]) dX8_wholeRoot_18 rfl (by decide) rfl ?_
        refine G_iinc C (v := nI (i + 1)) (lo' := [(2, .int (nI (i + 1))), (1, .int (nI i)), (0, .int (nI d))]) dX8_wholeRoot_19 rfl (nI_add _ _) (by decide) rfl ?_
        refine G_goto C 4 dX8_wholeRoot_22 (by decide) ?_
        exact ih (i + 1) (by omega) (by have : i < 8 := (Nat.lt_or_ge i 8).elim id (fun z => by have := Nat.mul_le_mul z z; omega); omega) (by rw [Nat.add_sub_cancel]; omega)
  exact key4 9 2 (by omega) (by omega) (by omega)

abbrev rm_X6_init : Room := ({ frames := 1, cells := 0, slots := 0, locals := 12 } : Room)
set_option maxRecDepth 100000 in
set_option maxHeartbeats 4000000 in
theorem c_X6_init {L : GL} {N : Nat} {ad : Nat → Nat} {G : Nat → va_E} {k : Nat}    : GM L yX6_init cX6_init 1 (none) rm_X6_init N ad G [.ref (ad k)] (fun vo G' => vo = none ∧ G = G') := by
  refine GM.of (own := RX6) (lo := [(0, .ref (ad k))]) (by decide +kernel) rfl rfl (Nat.le_of_ble_eq_true rfl) (fun E C hr => ?_)
  refine G_aload_n C 0 dX6_init_0 rfl rfl ?_
  refine G_objInit C km_X6_1 w_oi1 w_oi2 dX6_init_1 (by decide) (Nat.le_of_ble_eq_true rfl) ?_
  exact G_vret C hr dX6_init_4 ⟨rfl, rfl⟩

abbrev rm_X6_begin : Room := ({ frames := 1, cells := 0, slots := 0, locals := 22 } : Room)
set_option maxRecDepth 100000 in
set_option maxHeartbeats 4000000 in
theorem c_X6_begin {L : GL} {N : Nat} {ad : Nat → Nat} {G : Nat → va_E} {k d : Nat} {nu wh m q t : Int32} (lt_k : k < N) (g0 : G k = .inr (6, [.int nu, .int wh, .int m, .int q, .int t])) (h2 : 2 ≤ d) (h60 : d ≤ 60) : GM L yX6_begin cX6_begin 2 (none) rm_X6_begin N ad G [.ref (ad k), .int (nI d)] (fun vo G' => vo = none ∧ G' k = .inr (6, [.int (nI d), .int (nI (wr d)), .int 0, .int 1, .int (nI (wr d))]) ∧ Agr [k] G G') := by
  refine GM.of (own := RX6) (lo := [(0, .ref (ad k)), (1, .int (nI d))]) (by decide +kernel) rfl rfl (Nat.le_of_ble_eq_true rfl) (fun E C hr => ?_)
  refine G_aload_n C 0 dX6_begin_0 rfl rfl ?_
  refine G_iload_n C 1 dX6_begin_1 rfl rfl ?_
  refine G_putp C k lt_k g0 rfl inA6 tyX6_ok nmX6 0 (by decide) rfl kf_X6_7 rfl rfl rfl (fs' := [.int (nI d), .int wh, .int m, .int q, .int t]) (Nat.le_of_ble_eq_true rfl) rfl dX6_begin_2 (fun gg1 hh2 aa3 => ?_)
  have AA4 : Agr [k] G gg1 := aa3.wk (by simp)
  refine G_aload_n C 0 dX6_begin_5 rfl rfl ?_
  refine G_iload_n C 1 dX6_begin_6 rfl rfl ?_
  refine G_callSN C (As := [.int (nI d)]) (rest := [.ref (ad k)]) (c_X8_wholeRoot h2 h60) ca_X8_wholeRoot kn_X6_13 rfl rfl (by decide) (Nat.le_of_ble_eq_true rfl) (by decide) dX6_begin_7 (fun vv5 gg6 qq7 => ?_)
  obtain ⟨rfl, rfl⟩ := qq7
  refine G_putp C k lt_k hh2 rfl inA6 tyX6_ok nmX6 1 (by decide) rfl kf_X6_19 rfl rfl rfl (fs' := [.int (nI d), .int (nI (wr d)), .int m, .int q, .int t]) (Nat.le_of_ble_eq_true rfl) rfl dX6_begin_10 (fun gg8 hh9 aa10 => ?_)
  have AA11 : Agr [k] G gg8 := AA4.tr aa10 (by simp) (by simp)
  refine G_aload_n C 0 dX6_begin_13 rfl rfl ?_
  refine G_iconst C (v := 0) dX6_begin_14 (by decide) ?_
  refine G_putp C k lt_k hh9 rfl inA6 tyX6_ok nmX6 2 (by decide) rfl kf_X6_22 rfl rfl rfl (fs' := [.int (nI d), .int (nI (wr d)), .int 0, .int q, .int t]) (Nat.le_of_ble_eq_true rfl) rfl dX6_begin_15 (fun gg12 hh13 aa14 => ?_)
  have AA15 : Agr [k] G gg12 := AA11.tr aa14 (by simp) (by simp)
  refine G_aload_n C 0 dX6_begin_18 rfl rfl ?_
  refine G_iconst C (v := 1) dX6_begin_19 (by decide) ?_
  refine G_putp C k lt_k hh13 rfl inA6 tyX6_ok nmX6 3 (by decide) rfl kf_X6_25 rfl rfl rfl (fs' := [.int (nI d), .int (nI (wr d)), .int 0, .int 1, .int t]) (Nat.le_of_ble_eq_true rfl) rfl dX6_begin_20 (fun gg16 hh17 aa18 => ?_)
  have AA19 : Agr [k] G gg16 := AA15.tr aa18 (by simp) (by simp)
  refine G_aload_n C 0 dX6_begin_23 rfl rfl ?_
  refine G_aload_n C 0 dX6_begin_24 rfl rfl ?_
  refine G_get C k lt_k hh17 rfl inA6 1 (by decide) rfl kf_X6_19 rfl dX6_begin_25 ?_
  refine G_putp C k lt_k hh17 rfl inA6 tyX6_ok nmX6 4 (by decide) rfl kf_X6_28 rfl rfl rfl (fs' := [.int (nI d), .int (nI (wr d)), .int 0, .int 1, .int (nI (wr d))]) (Nat.le_of_ble_eq_true rfl) rfl dX6_begin_28 (fun gg20 hh21 aa22 => ?_)
  have AA23 : Agr [k] G gg20 := AA19.tr aa22 (by simp) (by simp)
  exact G_vret C hr dX6_begin_31 ⟨rfl, hh21, AA23⟩

abbrev rm_X6_next : Room := ({ frames := 0, cells := 0, slots := 0, locals := 0 } : Room)
set_option maxRecDepth 100000 in
set_option maxHeartbeats 4000000 in
theorem c_X6_next {L : GL} {N : Nat} {ad : Nat → Nat} {G : Nat → va_E} {k : Nat} {nu wh m q t : Int32} (lt_k : k < N) (g0 : G k = .inr (6, [.int nu, .int wh, .int m, .int q, .int t]))  : GM L yX6_next cX6_next 1 (none) rm_X6_next N ad G [.ref (ad k)] (fun vo G' => vo = none ∧ G' k = .inr (6, [.int nu, .int wh, .int ((tnF nu wh m q t).1), .int ((tnF nu wh m q t).2.1), .int ((tnF nu wh m q t).2.2)]) ∧ Agr [k] G G') := by
  refine GM.of (own := RX6) (lo := [(0, .ref (ad k))]) (by decide +kernel) rfl rfl (Nat.le_of_ble_eq_true rfl) (fun E C hr => ?_)
  refine G_aload_n C 0 dX6_next_0 rfl rfl ?_
  refine G_get C k lt_k g0 rfl inA6 3 (by decide) rfl kf_X6_25 rfl dX6_next_1 ?_
  refine G_if_ne C 8 dX6_next_4 (by decide) (fun c4 => ?_) (fun c4 => ?_)
  · refine G_aload_n C 0 dX6_next_8 rfl rfl ?_
    refine G_aload_n C 0 dX6_next_9 rfl rfl ?_
    refine G_get C k lt_k g0 rfl inA6 3 (by decide) rfl kf_X6_25 rfl dX6_next_10 ?_
    refine G_aload_n C 0 dX6_next_13 rfl rfl ?_
    refine G_get C k lt_k g0 rfl inA6 4 (by decide) rfl kf_X6_28 rfl dX6_next_14 ?_
    refine G_imul C dX6_next_17 ?_
    refine G_aload_n C 0 dX6_next_18 rfl rfl ?_
    refine G_get C k lt_k g0 rfl inA6 2 (by decide) rfl kf_X6_22 rfl dX6_next_19 ?_
    refine G_isub C dX6_next_22 ?_
    refine G_putp C k lt_k g0 rfl inA6 tyX6_ok nmX6 2 (by decide) rfl kf_X6_22 rfl rfl rfl (fs' := [.int nu, .int wh, .int ((q * t) - m), .int q, .int t]) (Nat.le_of_ble_eq_true rfl) rfl dX6_next_23 (fun gg1 hh2 aa3 => ?_)
    have AA4 : Agr [k] G gg1 := aa3.wk (by simp)
    refine G_aload_n C 0 dX6_next_26 rfl rfl ?_
    refine G_aload_n C 0 dX6_next_27 rfl rfl ?_
    refine G_get C k lt_k hh2 rfl inA6 0 (by decide) rfl kf_X6_7 rfl dX6_next_28 ?_
    refine G_aload_n C 0 dX6_next_31 rfl rfl ?_
    refine G_get C k lt_k hh2 rfl inA6 2 (by decide) rfl kf_X6_22 rfl dX6_next_32 ?_
    refine G_aload_n C 0 dX6_next_35 rfl rfl ?_
    refine G_get C k lt_k hh2 rfl inA6 2 (by decide) rfl kf_X6_22 rfl dX6_next_36 ?_
    refine G_imul C dX6_next_39 ?_
    refine G_isub C dX6_next_40 ?_
    refine G_aload_n C 0 dX6_next_41 rfl rfl ?_
    refine G_get C k lt_k hh2 rfl inA6 3 (by decide) rfl kf_X6_25 rfl dX6_next_42 ?_
    refine G_idiv C dX6_next_45 c4 ?_
    refine G_putp C k lt_k hh2 rfl inA6 tyX6_ok nmX6 3 (by decide) rfl kf_X6_25 rfl rfl rfl (fs' := [.int nu, .int wh, .int ((q * t) - m), .int ((nu - (((q * t) - m) * ((q * t) - m))) / q), .int t]) (Nat.le_of_ble_eq_true rfl) rfl dX6_next_46 (fun gg5 hh6 aa7 => ?_)
    have AA8 : Agr [k] G gg5 := AA4.tr aa7 (by simp) (by simp)
    refine G_aload_n C 0 dX6_next_49 rfl rfl ?_
    refine G_get C k lt_k hh6 rfl inA6 3 (by decide) rfl kf_X6_25 rfl dX6_next_50 ?_
    refine G_if_eq C 74 dX6_next_53 (by decide) (fun c53 => ?_) (fun c53 => ?_)
    · exact G_vret C hr dX6_next_74 ⟨rfl, (by rw [hh6]; simp only [tnF, if_neg c4, if_pos c53]), AA8⟩
    · refine G_aload_n C 0 dX6_next_56 rfl rfl ?_
      refine G_aload_n C 0 dX6_next_57 rfl rfl ?_
      refine G_get C k lt_k hh6 rfl inA6 1 (by decide) rfl kf_X6_19 rfl dX6_next_58 ?_
      refine G_aload_n C 0 dX6_next_61 rfl rfl ?_
      refine G_get C k lt_k hh6 rfl inA6 2 (by decide) rfl kf_X6_22 rfl dX6_next_62 ?_
      refine G_iadd C dX6_next_65 ?_
      refine G_aload_n C 0 dX6_next_66 rfl rfl ?_
      refine G_get C k lt_k hh6 rfl inA6 3 (by decide) rfl kf_X6_25 rfl dX6_next_67 ?_
      refine G_idiv C dX6_next_70 c53 ?_
      refine G_putp C k lt_k hh6 rfl inA6 tyX6_ok nmX6 4 (by decide) rfl kf_X6_28 rfl rfl rfl (fs' := [.int nu, .int wh, .int ((q * t) - m), .int ((nu - (((q * t) - m) * ((q * t) - m))) / q), .int ((wh + ((q * t) - m)) / ((nu - (((q * t) - m) * ((q * t) - m))) / q))]) (Nat.le_of_ble_eq_true rfl) rfl dX6_next_71 (fun gg9 hh10 aa11 => ?_)
      have AA12 : Agr [k] G gg9 := AA8.tr aa11 (by simp) (by simp)
      exact G_vret C hr dX6_next_74 ⟨rfl, (by rw [hh10]; simp only [tnF, if_neg c4, if_neg c53]), AA12⟩
  · exact G_vret C hr dX6_next_7 ⟨rfl, (by rw [g0]; simp only [tnF, if_pos c4]), Agr.rf⟩

abbrev rm_X6_isSquare : Room := ({ frames := 0, cells := 0, slots := 0, locals := 0 } : Room)
set_option maxRecDepth 100000 in
set_option maxHeartbeats 4000000 in
theorem c_X6_isSquare {L : GL} {N : Nat} {ad : Nat → Nat} {G : Nat → va_E} {k : Nat} {nu wh m q t : Int32} (lt_k : k < N) (g0 : G k = .inr (6, [.int nu, .int wh, .int m, .int q, .int t]))  : GM L yX6_isSquare cX6_isSquare 1 ((some .boolean)) rm_X6_isSquare N ad G [.ref (ad k)] (fun vo G' => vo = some (.int (if wh * wh = nu then 1 else 0)) ∧ G = G') := by
  refine GM.of (own := RX6) (lo := [(0, .ref (ad k))]) (by decide +kernel) rfl rfl (Nat.le_of_ble_eq_true rfl) (fun E C hr => ?_)
  refine G_aload_n C 0 dX6_isSquare_0 rfl rfl ?_
  refine G_get C k lt_k g0 rfl inA6 1 (by decide) rfl kf_X6_19 rfl dX6_isSquare_1 ?_
  refine G_aload_n C 0 dX6_isSquare_4 rfl rfl ?_
  refine G_get C k lt_k g0 rfl inA6 1 (by decide) rfl kf_X6_19 rfl dX6_isSquare_5 ?_
  refine G_imul C dX6_isSquare_8 ?_
  refine G_aload_n C 0 dX6_isSquare_9 rfl rfl ?_
  refine G_get C k lt_k g0 rfl inA6 0 (by decide) rfl kf_X6_7 rfl dX6_isSquare_10 ?_
  refine G_icmp_ne C 20 dX6_isSquare_13 (by decide) (fun c13 => ?_) (fun c13 => ?_)
  · refine G_iconst C (v := 0) dX6_isSquare_20 (by decide) ?_
    exact G_zret C hr rfl dX6_isSquare_21 ⟨(by simp only [if_neg c13]), rfl⟩
  · refine G_iconst C (v := 1) dX6_isSquare_16 (by decide) ?_
    refine G_goto C 21 dX6_isSquare_17 (by decide) ?_
    exact G_zret C hr rfl dX6_isSquare_21 ⟨(by simp only [if_pos c13]), rfl⟩

abbrev rm_X6_endsPeriod : Room := ({ frames := 0, cells := 0, slots := 0, locals := 0 } : Room)
set_option maxRecDepth 100000 in
set_option maxHeartbeats 4000000 in
theorem c_X6_endsPeriod {L : GL} {N : Nat} {ad : Nat → Nat} {G : Nat → va_E} {k : Nat} {nu wh m q t : Int32} (lt_k : k < N) (g0 : G k = .inr (6, [.int nu, .int wh, .int m, .int q, .int t]))  : GM L yX6_endsPeriod cX6_endsPeriod 1 ((some .boolean)) rm_X6_endsPeriod N ad G [.ref (ad k)] (fun vo G' => vo = some (.int (if t = 2 * wh then 1 else 0)) ∧ G = G') := by
  refine GM.of (own := RX6) (lo := [(0, .ref (ad k))]) (by decide +kernel) rfl rfl (Nat.le_of_ble_eq_true rfl) (fun E C hr => ?_)
  refine G_aload_n C 0 dX6_endsPeriod_0 rfl rfl ?_
  refine G_get C k lt_k g0 rfl inA6 4 (by decide) rfl kf_X6_28 rfl dX6_endsPeriod_1 ?_
  refine G_iconst C (v := 2) dX6_endsPeriod_4 (by decide) ?_
  refine G_aload_n C 0 dX6_endsPeriod_5 rfl rfl ?_
  refine G_get C k lt_k g0 rfl inA6 1 (by decide) rfl kf_X6_19 rfl dX6_endsPeriod_6 ?_
  refine G_imul C dX6_endsPeriod_9 ?_
  refine G_icmp_ne C 17 dX6_endsPeriod_10 (by decide) (fun c10 => ?_) (fun c10 => ?_)
  · refine G_iconst C (v := 0) dX6_endsPeriod_17 (by decide) ?_
    exact G_zret C hr rfl dX6_endsPeriod_18 ⟨(by simp only [if_neg c10]), rfl⟩
  · refine G_iconst C (v := 1) dX6_endsPeriod_13 (by decide) ?_
    refine G_goto C 18 dX6_endsPeriod_14 (by decide) ?_
    exact G_zret C hr rfl dX6_endsPeriod_18 ⟨(by simp only [if_pos c10]), rfl⟩

abbrev rm_X5_heightOf : Room := ({ frames := 0, cells := 0, slots := 0, locals := 0 } : Room)
set_option maxRecDepth 100000 in
set_option maxHeartbeats 4000000 in
theorem c_X5_heightOf {L : GL} {N : Nat} {ad : Nat → Nat} {G : Nat → va_E} {k ha : Nat} {l ml : Int32} {vr : Value} {f : Nat → Int32} {n : Int32} (lt_k : k < N) (lt_ha : ha < N) (gk : G k = .inr (5, [vr, .ref (ad ha), .int l, .int ml])) (gh : G ha = .inl (L.ac 0, 61, .inl f))  : GM L yX5_heightOf cX5_heightOf 2 ((some .int)) rm_X5_heightOf N ad G [.ref (ad k), .int n] (fun vo G' => vo = some (.int (hOf f n)) ∧ G = G') := by
  refine GM.of (own := RX5) (lo := [(0, .ref (ad k)), (1, .int n)]) (by decide +kernel) rfl rfl (Nat.le_of_ble_eq_true rfl) (fun E C hr => ?_)
  have ne_0_1 : k ≠ ha := fun h => by have h9 := gk; rw [h, gh] at h9; cases h9
  have ne_1_0 : ha ≠ k := Ne.symm ne_0_1
  refine G_iload_n C 1 dX5_heightOf_0 rfl rfl ?_
  refine G_if_lt C 22 dX5_heightOf_1 (by decide) (fun c1 => ?_) (fun c1 => ?_)
  · refine G_iconst C (v := (-1)) dX5_heightOf_22 (by decide) ?_
    exact G_zret C hr rfl dX5_heightOf_23 ⟨(by simp only [hOf, if_pos c1]), rfl⟩
  · refine G_iload_n C 1 dX5_heightOf_4 rfl rfl ?_
    refine G_aload_n C 0 dX5_heightOf_5 rfl rfl ?_
    refine G_get C k lt_k gk rfl inA5 1 (by decide) rfl kf_X5_9 rfl dX5_heightOf_6 ?_
    refine G_alen C ha lt_ha 0 gh rfl (v := 61) rfl dX5_heightOf_9 ?_
    refine G_icmp_ge C 22 dX5_heightOf_10 (by decide) (fun c10 => ?_) (fun c10 => ?_)
    · refine G_iconst C (v := (-1)) dX5_heightOf_22 (by decide) ?_
      exact G_zret C hr rfl dX5_heightOf_23 ⟨(by simp only [hOf, if_neg c1, if_pos c10]), rfl⟩
    · refine G_aload_n C 0 dX5_heightOf_13 rfl rfl ?_
      refine G_get C k lt_k gk rfl inA5 1 (by decide) rfl kf_X5_9 rfl dX5_heightOf_14 ?_
      refine G_iload_n C 1 dX5_heightOf_17 rfl rfl ?_
      refine G_iald C ha lt_ha gh (vin (M := 61) rfl (by decide) c1 c10) dX5_heightOf_18 ?_
      refine G_goto C 23 dX5_heightOf_19 (by decide) ?_
      exact G_zret C hr rfl dX5_heightOf_23 ⟨(by simp only [hOf, if_neg c1, if_neg c10]), rfl⟩

abbrev rm_X5_has : Room := ({ frames := 1, cells := 0, slots := 0, locals := 21 } : Room)
set_option maxRecDepth 100000 in
set_option maxHeartbeats 4000000 in
theorem c_X5_has {L : GL} {N : Nat} {ad : Nat → Nat} {G : Nat → va_E} {k ha : Nat} {l ml : Int32} {vr : Value} {f : Nat → Int32} {n : Int32} (lt_k : k < N) (lt_ha : ha < N) (gk : G k = .inr (5, [vr, .ref (ad ha), .int l, .int ml])) (gh : G ha = .inl (L.ac 0, 61, .inl f))  : GM L yX5_has cX5_has 2 ((some .boolean)) rm_X5_has N ad G [.ref (ad k), .int n] (fun vo G' => vo = some (.int (hasF f n)) ∧ G = G') := by
  refine GM.of (own := RX5) (lo := [(0, .ref (ad k)), (1, .int n)]) (by decide +kernel) rfl rfl (Nat.le_of_ble_eq_true rfl) (fun E C hr => ?_)
  have ne_0_1 : k ≠ ha := fun h => by have h9 := gk; rw [h, gh] at h9; cases h9
  have ne_1_0 : ha ≠ k := Ne.symm ne_0_1
  refine G_aload_n C 0 dX5_has_0 rfl rfl ?_
  refine G_iload_n C 1 dX5_has_1 rfl rfl ?_
  refine G_callV C (As := [.int n]) (rest := []) (c_X5_heightOf lt_k lt_ha gk gh) ca_X5_heightOf km_X5_38 lt_k gk rfl rfl rfl rfl (by decide) (Nat.le_of_ble_eq_true rfl) (by decide) dX5_has_2 (fun vv1 gg2 qq3 => ?_)
  obtain ⟨rfl, rfl⟩ := qq3
  refine G_iconst C (v := (-1)) dX5_has_5 (by decide) ?_
  refine G_icmp_eq C 13 dX5_has_6 (by decide) (fun c6 => ?_) (fun c6 => ?_)
  · refine G_iconst C (v := 0) dX5_has_13 (by decide) ?_
    exact G_zret C hr rfl dX5_has_14 ⟨(by simp only [hasF, if_pos c6]), rfl⟩
  · refine G_iconst C (v := 1) dX5_has_9 (by decide) ?_
    refine G_goto C 14 dX5_has_10 (by decide) ?_
    exact G_zret C hr rfl dX5_has_14 ⟨(by simp only [hasF, if_neg c6]), rfl⟩

abbrev rm_X4_isSquare : Room := ({ frames := 0, cells := 0, slots := 0, locals := 0 } : Room)
set_option maxRecDepth 100000 in
set_option maxHeartbeats 4000000 in
theorem c_X4_isSquare {L : GL} {N : Nat} {ad : Nat → Nat} {G : Nat → va_E} {r : Nat} {rt rp rx ry rg : Nat} {n : Int32} (lt_r : r < N) (lt_rp : rp < N) (gr : G r = .inr (4, [.ref (ad rt), .ref (ad rp), .ref (ad rx), .ref (ad ry), .ref (ad rg)])) (grp : G rp = .inl (L.ac 0, 61, .inl tPer))  : GM L yX4_isSquare cX4_isSquare 2 ((some .boolean)) rm_X4_isSquare N ad G [.ref (ad r), .int n] (fun vo G' => vo = some (.int (sqF n)) ∧ G = G') := by
  refine GM.of (own := RX4) (lo := [(0, .ref (ad r)), (1, .int n)]) (by decide +kernel) rfl rfl (Nat.le_of_ble_eq_true rfl) (fun E C hr => ?_)
  have ne_0_1 : r ≠ rp := fun h => by have h9 := gr; rw [h, grp] at h9; cases h9
  have ne_1_0 : rp ≠ r := Ne.symm ne_0_1
  refine G_iload_n C 1 dX4_isSquare_0 rfl rfl ?_
  refine G_if_lt C 26 dX4_isSquare_1 (by decide) (fun c1 => ?_) (fun c1 => ?_)
  · refine G_iconst C (v := 0) dX4_isSquare_26 (by decide) ?_
    exact G_zret C hr rfl dX4_isSquare_27 ⟨(by simp only [sqF, if_pos c1]), rfl⟩
  · refine G_iload_n C 1 dX4_isSquare_4 rfl rfl ?_
    refine G_aload_n C 0 dX4_isSquare_5 rfl rfl ?_
    refine G_get C r lt_r gr rfl inA4 1 (by decide) rfl kf_X4_18 rfl dX4_isSquare_6 ?_
    refine G_alen C rp lt_rp 0 grp rfl (v := 61) rfl dX4_isSquare_9 ?_
    refine G_icmp_ge C 26 dX4_isSquare_10 (by decide) (fun c10 => ?_) (fun c10 => ?_)
    · refine G_iconst C (v := 0) dX4_isSquare_26 (by decide) ?_
      exact G_zret C hr rfl dX4_isSquare_27 ⟨(by simp only [sqF, if_neg c1, if_pos c10]), rfl⟩
    · refine G_aload_n C 0 dX4_isSquare_13 rfl rfl ?_
      refine G_get C r lt_r gr rfl inA4 1 (by decide) rfl kf_X4_18 rfl dX4_isSquare_14 ?_
      refine G_iload_n C 1 dX4_isSquare_17 rfl rfl ?_
      refine G_iald C rp lt_rp grp (vin (M := 61) rfl (by decide) c1 c10) dX4_isSquare_18 ?_
      refine G_if_ne C 26 dX4_isSquare_19 (by decide) (fun c19 => ?_) (fun c19 => ?_)
      · refine G_iconst C (v := 0) dX4_isSquare_26 (by decide) ?_
        exact G_zret C hr rfl dX4_isSquare_27 ⟨(by simp only [sqF, if_neg c1, if_neg c10, if_neg c19]), rfl⟩
      · refine G_iconst C (v := 1) dX4_isSquare_22 (by decide) ?_
        refine G_goto C 27 dX4_isSquare_23 (by decide) ?_
        exact G_zret C hr rfl dX4_isSquare_27 ⟨(by simp only [sqF, if_neg c1, if_neg c10, if_pos c19]), rfl⟩

abbrev rm_X4_period : Room := ({ frames := 0, cells := 0, slots := 0, locals := 0 } : Room)
set_option maxRecDepth 100000 in
set_option maxHeartbeats 4000000 in
theorem c_X4_period {L : GL} {N : Nat} {ad : Nat → Nat} {G : Nat → va_E} {r : Nat} {rt rp rx ry rg : Nat} {n : Int32} (lt_r : r < N) (lt_rp : rp < N) (gr : G r = .inr (4, [.ref (ad rt), .ref (ad rp), .ref (ad rx), .ref (ad ry), .ref (ad rg)])) (grp : G rp = .inl (L.ac 0, 61, .inl tPer))  : GM L yX4_period cX4_period 2 ((some .int)) rm_X4_period N ad G [.ref (ad r), .int n] (fun vo G' => vo = some (.int (tabF tPer n)) ∧ G = G') := by
  refine GM.of (own := RX4) (lo := [(0, .ref (ad r)), (1, .int n)]) (by decide +kernel) rfl rfl (Nat.le_of_ble_eq_true rfl) (fun E C hr => ?_)
  have ne_0_1 : r ≠ rp := fun h => by have h9 := gr; rw [h, grp] at h9; cases h9
  have ne_1_0 : rp ≠ r := Ne.symm ne_0_1
  refine G_iload_n C 1 dX4_period_0 rfl rfl ?_
  refine G_if_lt C 22 dX4_period_1 (by decide) (fun c1 => ?_) (fun c1 => ?_)
  · refine G_iconst C (v := 0) dX4_period_22 (by decide) ?_
    exact G_zret C hr rfl dX4_period_23 ⟨(by simp only [tabF, if_pos c1]), rfl⟩
  · refine G_iload_n C 1 dX4_period_4 rfl rfl ?_
    refine G_aload_n C 0 dX4_period_5 rfl rfl ?_
    refine G_get C r lt_r gr rfl inA4 1 (by decide) rfl kf_X4_18 rfl dX4_period_6 ?_
    refine G_alen C rp lt_rp 0 grp rfl (v := 61) rfl dX4_period_9 ?_
    refine G_icmp_ge C 22 dX4_period_10 (by decide) (fun c10 => ?_) (fun c10 => ?_)
    · refine G_iconst C (v := 0) dX4_period_22 (by decide) ?_
      exact G_zret C hr rfl dX4_period_23 ⟨(by simp only [tabF, if_neg c1, if_pos c10]), rfl⟩
    · refine G_aload_n C 0 dX4_period_13 rfl rfl ?_
      refine G_get C r lt_r gr rfl inA4 1 (by decide) rfl kf_X4_18 rfl dX4_period_14 ?_
      refine G_iload_n C 1 dX4_period_17 rfl rfl ?_
      refine G_iald C rp lt_rp grp (vin (M := 61) rfl (by decide) c1 c10) dX4_period_18 ?_
      refine G_goto C 23 dX4_period_19 (by decide) ?_
      exact G_zret C hr rfl dX4_period_23 ⟨(by simp only [tabF, if_neg c1, if_neg c10]), rfl⟩

abbrev rm_X4_xOfUnit : Room := ({ frames := 0, cells := 0, slots := 0, locals := 0 } : Room)
set_option maxRecDepth 100000 in
set_option maxHeartbeats 4000000 in
theorem c_X4_xOfUnit {L : GL} {N : Nat} {ad : Nat → Nat} {G : Nat → va_E} {r : Nat} {rt rp rx ry rg : Nat} {n : Int32} {tx : Nat → Int32} (lt_r : r < N) (lt_rx : rx < N) (gr : G r = .inr (4, [.ref (ad rt), .ref (ad rp), .ref (ad rx), .ref (ad ry), .ref (ad rg)])) (grx : G rx = .inl (L.ac 0, 61, .inl tx))  : GM L yX4_xOfUnit cX4_xOfUnit 2 ((some .int)) rm_X4_xOfUnit N ad G [.ref (ad r), .int n] (fun vo G' => vo = some (.int (tabF tx n)) ∧ G = G') := by
  refine GM.of (own := RX4) (lo := [(0, .ref (ad r)), (1, .int n)]) (by decide +kernel) rfl rfl (Nat.le_of_ble_eq_true rfl) (fun E C hr => ?_)
  have ne_0_1 : r ≠ rx := fun h => by have h9 := gr; rw [h, grx] at h9; cases h9
  have ne_1_0 : rx ≠ r := Ne.symm ne_0_1
  refine G_iload_n C 1 dX4_xOfUnit_0 rfl rfl ?_
  refine G_if_lt C 22 dX4_xOfUnit_1 (by decide) (fun c1 => ?_) (fun c1 => ?_)
  · refine G_iconst C (v := 0) dX4_xOfUnit_22 (by decide) ?_
    exact G_zret C hr rfl dX4_xOfUnit_23 ⟨(by simp only [tabF, if_pos c1]), rfl⟩
  · refine G_iload_n C 1 dX4_xOfUnit_4 rfl rfl ?_
    refine G_aload_n C 0 dX4_xOfUnit_5 rfl rfl ?_
    refine G_get C r lt_r gr rfl inA4 2 (by decide) rfl kf_X4_22 rfl dX4_xOfUnit_6 ?_
    refine G_alen C rx lt_rx 0 grx rfl (v := 61) rfl dX4_xOfUnit_9 ?_
    refine G_icmp_ge C 22 dX4_xOfUnit_10 (by decide) (fun c10 => ?_) (fun c10 => ?_)
    · refine G_iconst C (v := 0) dX4_xOfUnit_22 (by decide) ?_
      exact G_zret C hr rfl dX4_xOfUnit_23 ⟨(by simp only [tabF, if_neg c1, if_pos c10]), rfl⟩
    · refine G_aload_n C 0 dX4_xOfUnit_13 rfl rfl ?_
      refine G_get C r lt_r gr rfl inA4 2 (by decide) rfl kf_X4_22 rfl dX4_xOfUnit_14 ?_
      refine G_iload_n C 1 dX4_xOfUnit_17 rfl rfl ?_
      refine G_iald C rx lt_rx grx (vin (M := 61) rfl (by decide) c1 c10) dX4_xOfUnit_18 ?_
      refine G_goto C 23 dX4_xOfUnit_19 (by decide) ?_
      exact G_zret C hr rfl dX4_xOfUnit_23 ⟨(by simp only [tabF, if_neg c1, if_neg c10]), rfl⟩

abbrev rm_X4_yOfUnit : Room := ({ frames := 0, cells := 0, slots := 0, locals := 0 } : Room)
set_option maxRecDepth 100000 in
set_option maxHeartbeats 4000000 in
theorem c_X4_yOfUnit {L : GL} {N : Nat} {ad : Nat → Nat} {G : Nat → va_E} {r : Nat} {rt rp rx ry rg : Nat} {n : Int32} {ty : Nat → Int32} (lt_r : r < N) (lt_ry : ry < N) (gr : G r = .inr (4, [.ref (ad rt), .ref (ad rp), .ref (ad rx), .ref (ad ry), .ref (ad rg)])) (gry : G ry = .inl (L.ac 0, 61, .inl ty))  : GM L yX4_yOfUnit cX4_yOfUnit 2 ((some .int)) rm_X4_yOfUnit N ad G [.ref (ad r), .int n] (fun vo G' => vo = some (.int (tabF ty n)) ∧ G = G') := by
  refine GM.of (own := RX4) (lo := [(0, .ref (ad r)), (1, .int n)]) (by decide +kernel) rfl rfl (Nat.le_of_ble_eq_true rfl) (fun E C hr => ?_)
  have ne_0_1 : r ≠ ry := fun h => by have h9 := gr; rw [h, gry] at h9; cases h9
  have ne_1_0 : ry ≠ r := Ne.symm ne_0_1
  refine G_iload_n C 1 dX4_yOfUnit_0 rfl rfl ?_
  refine G_if_lt C 22 dX4_yOfUnit_1 (by decide) (fun c1 => ?_) (fun c1 => ?_)
  · refine G_iconst C (v := 0) dX4_yOfUnit_22 (by decide) ?_
    exact G_zret C hr rfl dX4_yOfUnit_23 ⟨(by simp only [tabF, if_pos c1]), rfl⟩
  · refine G_iload_n C 1 dX4_yOfUnit_4 rfl rfl ?_
    refine G_aload_n C 0 dX4_yOfUnit_5 rfl rfl ?_
    refine G_get C r lt_r gr rfl inA4 3 (by decide) rfl kf_X4_25 rfl dX4_yOfUnit_6 ?_
    refine G_alen C ry lt_ry 0 gry rfl (v := 61) rfl dX4_yOfUnit_9 ?_
    refine G_icmp_ge C 22 dX4_yOfUnit_10 (by decide) (fun c10 => ?_) (fun c10 => ?_)
    · refine G_iconst C (v := 0) dX4_yOfUnit_22 (by decide) ?_
      exact G_zret C hr rfl dX4_yOfUnit_23 ⟨(by simp only [tabF, if_neg c1, if_pos c10]), rfl⟩
    · refine G_aload_n C 0 dX4_yOfUnit_13 rfl rfl ?_
      refine G_get C r lt_r gr rfl inA4 3 (by decide) rfl kf_X4_25 rfl dX4_yOfUnit_14 ?_
      refine G_iload_n C 1 dX4_yOfUnit_17 rfl rfl ?_
      refine G_iald C ry lt_ry gry (vin (M := 61) rfl (by decide) c1 c10) dX4_yOfUnit_18 ?_
      refine G_goto C 23 dX4_yOfUnit_19 (by decide) ?_
      exact G_zret C hr rfl dX4_yOfUnit_23 ⟨(by simp only [tabF, if_neg c1, if_neg c10]), rfl⟩

abbrev rm_X4_greatestPower : Room := ({ frames := 0, cells := 0, slots := 0, locals := 0 } : Room)
set_option maxRecDepth 100000 in
set_option maxHeartbeats 4000000 in
theorem c_X4_greatestPower {L : GL} {N : Nat} {ad : Nat → Nat} {G : Nat → va_E} {r : Nat} {rt rp rx ry rg : Nat} {n : Int32} (lt_r : r < N) (lt_rg : rg < N) (gr : G r = .inr (4, [.ref (ad rt), .ref (ad rp), .ref (ad rx), .ref (ad ry), .ref (ad rg)])) (grg : G rg = .inl (L.ac 0, 61, .inl tGp))  : GM L yX4_greatestPower cX4_greatestPower 2 ((some .int)) rm_X4_greatestPower N ad G [.ref (ad r), .int n] (fun vo G' => vo = some (.int (tabF tGp n)) ∧ G = G') := by
  refine GM.of (own := RX4) (lo := [(0, .ref (ad r)), (1, .int n)]) (by decide +kernel) rfl rfl (Nat.le_of_ble_eq_true rfl) (fun E C hr => ?_)
  have ne_0_1 : r ≠ rg := fun h => by have h9 := gr; rw [h, grg] at h9; cases h9
  have ne_1_0 : rg ≠ r := Ne.symm ne_0_1
  refine G_iload_n C 1 dX4_greatestPower_0 rfl rfl ?_
  refine G_if_lt C 22 dX4_greatestPower_1 (by decide) (fun c1 => ?_) (fun c1 => ?_)
  · refine G_iconst C (v := 0) dX4_greatestPower_22 (by decide) ?_
    exact G_zret C hr rfl dX4_greatestPower_23 ⟨(by simp only [tabF, if_pos c1]), rfl⟩
  · refine G_iload_n C 1 dX4_greatestPower_4 rfl rfl ?_
    refine G_aload_n C 0 dX4_greatestPower_5 rfl rfl ?_
    refine G_get C r lt_r gr rfl inA4 4 (by decide) rfl kf_X4_28 rfl dX4_greatestPower_6 ?_
    refine G_alen C rg lt_rg 0 grg rfl (v := 61) rfl dX4_greatestPower_9 ?_
    refine G_icmp_ge C 22 dX4_greatestPower_10 (by decide) (fun c10 => ?_) (fun c10 => ?_)
    · refine G_iconst C (v := 0) dX4_greatestPower_22 (by decide) ?_
      exact G_zret C hr rfl dX4_greatestPower_23 ⟨(by simp only [tabF, if_neg c1, if_pos c10]), rfl⟩
    · refine G_aload_n C 0 dX4_greatestPower_13 rfl rfl ?_
      refine G_get C r lt_r gr rfl inA4 4 (by decide) rfl kf_X4_28 rfl dX4_greatestPower_14 ?_
      refine G_iload_n C 1 dX4_greatestPower_17 rfl rfl ?_
      refine G_iald C rg lt_rg grg (vin (M := 61) rfl (by decide) c1 c10) dX4_greatestPower_18 ?_
      refine G_goto C 23 dX4_greatestPower_19 (by decide) ?_
      exact G_zret C hr rfl dX4_greatestPower_23 ⟨(by simp only [tabF, if_neg c1, if_neg c10]), rfl⟩

abbrev rm_X4_signOfUnit : Room := ({ frames := 1, cells := 0, slots := 0, locals := 21 } : Room)
set_option maxRecDepth 100000 in
set_option maxHeartbeats 4000000 in
theorem c_X4_signOfUnit {L : GL} {N : Nat} {ad : Nat → Nat} {G : Nat → va_E} {r : Nat} {rt rp rx ry rg : Nat} {n : Int32} (lt_r : r < N) (lt_rp : rp < N) (gr : G r = .inr (4, [.ref (ad rt), .ref (ad rp), .ref (ad rx), .ref (ad ry), .ref (ad rg)])) (grp : G rp = .inl (L.ac 0, 61, .inl tPer))  : GM L yX4_signOfUnit cX4_signOfUnit 2 ((some .int)) rm_X4_signOfUnit N ad G [.ref (ad r), .int n] (fun vo G' => vo = some (.int (sgF n)) ∧ G = G') := by
  refine GM.of (own := RX4) (lo := [(0, .ref (ad r)), (1, .int n)]) (by decide +kernel) rfl rfl (Nat.le_of_ble_eq_true rfl) (fun E C hr => ?_)
  have ne_0_1 : r ≠ rp := fun h => by have h9 := gr; rw [h, grp] at h9; cases h9
  have ne_1_0 : rp ≠ r := Ne.symm ne_0_1
  refine G_aload_n C 0 dX4_signOfUnit_0 rfl rfl ?_
  refine G_iload_n C 1 dX4_signOfUnit_1 rfl rfl ?_
  refine G_callV C (As := [.int n]) (rest := []) (c_X4_period lt_r lt_rp gr grp) ca_X4_period km_X4_76 lt_r gr rfl rfl rfl rfl (by decide) (Nat.le_of_ble_eq_true rfl) (by decide) dX4_signOfUnit_2 (fun vv1 gg2 qq3 => ?_)
  obtain ⟨rfl, rfl⟩ := qq3
  refine G_iconst C (v := 2) dX4_signOfUnit_5 (by decide) ?_
  refine G_irem C dX4_signOfUnit_6 (by decide) ?_
  refine G_if_ne C 14 dX4_signOfUnit_7 (by decide) (fun c7 => ?_) (fun c7 => ?_)
  · refine G_iconst C (v := (-1)) dX4_signOfUnit_14 (by decide) ?_
    exact G_zret C hr rfl dX4_signOfUnit_15 ⟨(by simp only [sgF, if_neg c7]), rfl⟩
  · refine G_iconst C (v := 1) dX4_signOfUnit_10 (by decide) ?_
    refine G_goto C 15 dX4_signOfUnit_11 (by decide) ?_
    exact G_zret C hr rfl dX4_signOfUnit_15 ⟨(by simp only [sgF, if_pos c7]), rfl⟩

abbrev rm_X5_sign : Room := ({ frames := 2, cells := 0, slots := 0, locals := 42 } : Room)
set_option maxRecDepth 100000 in
set_option maxHeartbeats 4000000 in
theorem c_X5_sign {L : GL} {N : Nat} {ad : Nat → Nat} {G : Nat → va_E} {k r ha : Nat} {rt rp rx ry rg : Nat} {l ml : Int32} {f : Nat → Int32} {n : Int32} (lt_k : k < N) (lt_ha : ha < N) (lt_r : r < N) (lt_rp : rp < N) (gk : G k = .inr (5, [.ref (ad r), .ref (ad ha), .int l, .int ml])) (gh : G ha = .inl (L.ac 0, 61, .inl f)) (gr : G r = .inr (4, [.ref (ad rt), .ref (ad rp), .ref (ad rx), .ref (ad ry), .ref (ad rg)])) (grp : G rp = .inl (L.ac 0, 61, .inl tPer))  : GM L yX5_sign cX5_sign 2 ((some .int)) rm_X5_sign N ad G [.ref (ad k), .int n] (fun vo G' => vo = some (.int (signF f n)) ∧ G = G') := by
  refine GM.of (own := RX5) (lo := [(0, .ref (ad k)), (1, .int n)]) (by decide +kernel) rfl rfl (Nat.le_of_ble_eq_true rfl) (fun E C hr => ?_)
  have ne_0_1 : k ≠ ha := fun h => by have h9 := gk; rw [h, gh] at h9; cases h9
  have ne_0_2 : k ≠ r := fun h => by have h9 := gk; rw [h, gr] at h9; cases h9
  have ne_0_3 : k ≠ rp := fun h => by have h9 := gk; rw [h, grp] at h9; cases h9
  have ne_1_0 : ha ≠ k := Ne.symm ne_0_1
  have ne_1_2 : ha ≠ r := fun h => by have h9 := gh; rw [h, gr] at h9; cases h9
  have ne_2_0 : r ≠ k := Ne.symm ne_0_2
  have ne_2_1 : r ≠ ha := Ne.symm ne_1_2
  have ne_2_3 : r ≠ rp := fun h => by have h9 := gr; rw [h, grp] at h9; cases h9
  have ne_3_0 : rp ≠ k := Ne.symm ne_0_3
  have ne_3_2 : rp ≠ r := Ne.symm ne_2_3
  refine G_aload_n C 0 dX5_sign_0 rfl rfl ?_
  refine G_get C k lt_k gk rfl inA5 0 (by decide) rfl kf_X5_15 rfl dX5_sign_1 ?_
  refine G_iload_n C 1 dX5_sign_4 rfl rfl ?_
  refine G_callV C (As := [.int n]) (rest := []) (c_X4_signOfUnit lt_r lt_rp gr grp) ca_X4_signOfUnit km_X5_42 lt_r gr rfl rfl rfl rfl (by decide) (Nat.le_of_ble_eq_true rfl) (by decide) dX5_sign_5 (fun vv1 gg2 qq3 => ?_)
  obtain ⟨rfl, rfl⟩ := qq3
  refine G_iconst C (v := (-1)) dX5_sign_8 (by decide) ?_
  refine G_icmp_ne C 27 dX5_sign_9 (by decide) (fun c9 => ?_) (fun c9 => ?_)
  · refine G_iconst C (v := 1) dX5_sign_27 (by decide) ?_
    exact G_zret C hr rfl dX5_sign_28 ⟨(by simp only [signF, if_neg c9]), rfl⟩
  · refine G_aload_n C 0 dX5_sign_12 rfl rfl ?_
    refine G_iload_n C 1 dX5_sign_13 rfl rfl ?_
    refine G_callV C (As := [.int n]) (rest := []) (c_X5_heightOf lt_k lt_ha gk gh) ca_X5_heightOf km_X5_38 lt_k gk rfl rfl rfl rfl (by decide) (Nat.le_of_ble_eq_true rfl) (by decide) dX5_sign_14 (fun vv4 gg5 qq6 => ?_)
    obtain ⟨rfl, rfl⟩ := qq6
    refine G_iconst C (v := 2) dX5_sign_17 (by decide) ?_
    refine G_irem C dX5_sign_18 (by decide) ?_
    refine G_iconst C (v := 1) dX5_sign_19 (by decide) ?_
    refine G_icmp_ne C 27 dX5_sign_20 (by decide) (fun c20 => ?_) (fun c20 => ?_)
    · refine G_iconst C (v := 1) dX5_sign_27 (by decide) ?_
      exact G_zret C hr rfl dX5_sign_28 ⟨(by simp only [signF, if_pos c9, if_neg c20]), rfl⟩
    · refine G_iconst C (v := (-1)) dX5_sign_23 (by decide) ?_
      refine G_goto C 28 dX5_sign_24 (by decide) ?_
      exact G_zret C hr rfl dX5_sign_28 ⟨(by simp only [signF, if_pos c9, if_pos c20]), rfl⟩

abbrev rm_X5_reasonAgainstLaying : Room := ({ frames := 1, cells := 0, slots := 0, locals := 21 } : Room)
set_option maxRecDepth 100000 in
set_option maxHeartbeats 4000000 in
theorem c_X5_reasonAgainstLaying {L : GL} {N : Nat} {ad : Nat → Nat} {G : Nat → va_E} {k r ha : Nat} {rt rp rx ry rg : Nat} {l ml : Int32} {f : Nat → Int32} {n : Int32} (lt_k : k < N) (lt_ha : ha < N) (lt_r : r < N) (lt_rp : rp < N) (gk : G k = .inr (5, [.ref (ad r), .ref (ad ha), .int l, .int ml])) (gh : G ha = .inl (L.ac 0, 61, .inl f)) (gr : G r = .inr (4, [.ref (ad rt), .ref (ad rp), .ref (ad rx), .ref (ad ry), .ref (ad rg)])) (grp : G rp = .inl (L.ac 0, 61, .inl tPer))  : GM L yX5_reasonAgainstLaying cX5_reasonAgainstLaying 2 ((some .int)) rm_X5_reasonAgainstLaying N ad G [.ref (ad k), .int n] (fun vo G' => vo = some (.int (rsnF f l n)) ∧ G = G') := by
  refine GM.of (own := RX5) (lo := [(0, .ref (ad k)), (1, .int n)]) (by decide +kernel) rfl rfl (Nat.le_of_ble_eq_true rfl) (fun E C hr => ?_)
  have ne_0_1 : k ≠ ha := fun h => by have h9 := gk; rw [h, gh] at h9; cases h9
  have ne_0_2 : k ≠ r := fun h => by have h9 := gk; rw [h, gr] at h9; cases h9
  have ne_0_3 : k ≠ rp := fun h => by have h9 := gk; rw [h, grp] at h9; cases h9
  have ne_1_0 : ha ≠ k := Ne.symm ne_0_1
  have ne_1_2 : ha ≠ r := fun h => by have h9 := gh; rw [h, gr] at h9; cases h9
  have ne_2_0 : r ≠ k := Ne.symm ne_0_2
  have ne_2_1 : r ≠ ha := Ne.symm ne_1_2
  have ne_2_3 : r ≠ rp := fun h => by have h9 := gr; rw [h, grp] at h9; cases h9
  have ne_3_0 : rp ≠ k := Ne.symm ne_0_3
  have ne_3_2 : rp ≠ r := Ne.symm ne_2_3
  refine G_aload_n C 0 dX5_reasonAgainstLaying_0 rfl rfl ?_
  refine G_get C k lt_k gk rfl inA5 0 (by decide) rfl kf_X5_15 rfl dX5_reasonAgainstLaying_1 ?_
  refine G_iload_n C 1 dX5_reasonAgainstLaying_4 rfl rfl ?_
  refine G_callV C (As := [.int n]) (rest := []) (c_X4_isSquare lt_r lt_rp gr grp) ca_X4_isSquare km_X5_47 lt_r gr rfl rfl rfl rfl (by decide) (Nat.le_of_ble_eq_true rfl) (by decide) dX5_reasonAgainstLaying_5 (fun vv1 gg2 qq3 => ?_)
  obtain ⟨rfl, rfl⟩ := qq3
  refine G_if_eq C 13 dX5_reasonAgainstLaying_8 (by decide) (fun c8 => ?_) (fun c8 => ?_)
  · refine G_aload_n C 0 dX5_reasonAgainstLaying_13 rfl rfl ?_
    refine G_iload_n C 1 dX5_reasonAgainstLaying_14 rfl rfl ?_
    refine G_callV C (As := [.int n]) (rest := []) (c_X5_heightOf lt_k lt_ha gk gh) ca_X5_heightOf km_X5_38 lt_k gk rfl rfl rfl rfl (by decide) (Nat.le_of_ble_eq_true rfl) (by decide) dX5_reasonAgainstLaying_15 (fun vv4 gg5 qq6 => ?_)
    obtain ⟨rfl, rfl⟩ := qq6
    refine G_iconst C (v := (-1)) dX5_reasonAgainstLaying_18 (by decide) ?_
    refine G_icmp_eq C 24 dX5_reasonAgainstLaying_19 (by decide) (fun c19 => ?_) (fun c19 => ?_)
    · refine G_aload_n C 0 dX5_reasonAgainstLaying_24 rfl rfl ?_
      refine G_get C k lt_k gk rfl inA5 2 (by decide) rfl kf_X5_31 rfl dX5_reasonAgainstLaying_25 ?_
      refine G_bipush C (v := 8) dX5_reasonAgainstLaying_28 (by decide) ?_
      refine G_icmp_lt C 37 dX5_reasonAgainstLaying_30 (by decide) (fun c30 => ?_) (fun c30 => ?_)
      · refine G_iconst C (v := 0) dX5_reasonAgainstLaying_37 (by decide) ?_
        exact G_zret C hr rfl dX5_reasonAgainstLaying_38 ⟨(by simp only [rsnF, if_pos c8, if_pos c19, if_pos c30]), rfl⟩
      · refine G_iconst C (v := 3) dX5_reasonAgainstLaying_33 (by decide) ?_
        refine G_goto C 38 dX5_reasonAgainstLaying_34 (by decide) ?_
        exact G_zret C hr rfl dX5_reasonAgainstLaying_38 ⟨(by simp only [rsnF, if_pos c8, if_pos c19, if_neg c30]), rfl⟩
    · refine G_iconst C (v := 2) dX5_reasonAgainstLaying_22 (by decide) ?_
      exact G_zret C hr rfl dX5_reasonAgainstLaying_23 ⟨(by simp only [rsnF, if_pos c8, if_neg c19]), rfl⟩
  · refine G_iconst C (v := 1) dX5_reasonAgainstLaying_11 (by decide) ?_
    exact G_zret C hr rfl dX5_reasonAgainstLaying_12 ⟨(by simp only [rsnF, if_neg c8]), rfl⟩

abbrev rm_X5_causeAgainst : Room := ({ frames := 2, cells := 0, slots := 0, locals := 42 } : Room)
set_option maxRecDepth 100000 in
set_option maxHeartbeats 4000000 in
theorem c_X5_causeAgainst {L : GL} {N : Nat} {ad : Nat → Nat} {G : Nat → va_E} {k r ha : Nat} {rt rp rx ry rg : Nat} {l ml : Int32} {f : Nat → Int32} {ch n : Int32} (lt_k : k < N) (lt_ha : ha < N) (lt_r : r < N) (lt_rp : rp < N) (lt_rg : rg < N) (gk : G k = .inr (5, [.ref (ad r), .ref (ad ha), .int l, .int ml])) (gh : G ha = .inl (L.ac 0, 61, .inl f)) (gr : G r = .inr (4, [.ref (ad rt), .ref (ad rp), .ref (ad rx), .ref (ad ry), .ref (ad rg)])) (grp : G rp = .inl (L.ac 0, 61, .inl tPer)) (grg : G rg = .inl (L.ac 0, 61, .inl tGp))  : GM L yX5_causeAgainst cX5_causeAgainst 5 ((some .int)) rm_X5_causeAgainst N ad G [.ref (ad k), .int ch, .int n] (fun vo G' => vo = some (.int (causeF f l ch n)) ∧ G = G') := by
  refine GM.of (own := RX5) (lo := [(0, .ref (ad k)), (1, .int ch), (2, .int n)]) (by decide +kernel) rfl rfl (Nat.le_of_ble_eq_true rfl) (fun E C hr => ?_)
  have ne_0_1 : k ≠ ha := fun h => by have h9 := gk; rw [h, gh] at h9; cases h9
  have ne_0_2 : k ≠ r := fun h => by have h9 := gk; rw [h, gr] at h9; cases h9
  have ne_0_3 : k ≠ rp := fun h => by have h9 := gk; rw [h, grp] at h9; cases h9
  have ne_0_4 : k ≠ rg := fun h => by have h9 := gk; rw [h, grg] at h9; cases h9
  have ne_1_0 : ha ≠ k := Ne.symm ne_0_1
  have ne_1_2 : ha ≠ r := fun h => by have h9 := gh; rw [h, gr] at h9; cases h9
  have ne_2_0 : r ≠ k := Ne.symm ne_0_2
  have ne_2_1 : r ≠ ha := Ne.symm ne_1_2
  have ne_2_3 : r ≠ rp := fun h => by have h9 := gr; rw [h, grp] at h9; cases h9
  have ne_2_4 : r ≠ rg := fun h => by have h9 := gr; rw [h, grg] at h9; cases h9
  have ne_3_0 : rp ≠ k := Ne.symm ne_0_3
  have ne_3_2 : rp ≠ r := Ne.symm ne_2_3
  have ne_4_0 : rg ≠ k := Ne.symm ne_0_4
  have ne_4_2 : rg ≠ r := Ne.symm ne_2_4
  refine G_iload_n C 2 dX5_causeAgainst_0 rfl rfl ?_
  refine G_callSN C (As := [.int n]) (rest := []) c_X8_isNumber ca_X8_isNumber kn_X5_51 rfl rfl (by decide) (Nat.le_of_ble_eq_true rfl) (by decide) dX5_causeAgainst_1 (fun vv1 gg2 qq3 => ?_)
  obtain ⟨rfl, rfl⟩ := qq3
  refine G_if_ne C 9 dX5_causeAgainst_4 (by decide) (fun c4 => ?_) (fun c4 => ?_)
  · refine G_aload_n C 0 dX5_causeAgainst_9 rfl rfl ?_
    refine G_iload_n C 2 dX5_causeAgainst_10 rfl rfl ?_
    refine G_callV C (As := [.int n]) (rest := []) (c_X5_heightOf lt_k lt_ha gk gh) ca_X5_heightOf km_X5_38 lt_k gk rfl rfl rfl rfl (by decide) (Nat.le_of_ble_eq_true rfl) (by decide) dX5_causeAgainst_11 (fun vv4 gg5 qq6 => ?_)
    obtain ⟨rfl, rfl⟩ := qq6
    refine G_istore_n C 3 (lo' := [(3, .int (hOf f n)), (0, .ref (ad k)), (1, .int ch), (2, .int n)]) dX5_causeAgainst_14 rfl (by decide) rfl ?_
    refine G_iload_n C 3 dX5_causeAgainst_15 rfl rfl ?_
    refine G_iconst C (v := (-1)) dX5_causeAgainst_16 (by decide) ?_
    refine G_icmp_eq C 24 dX5_causeAgainst_17 (by decide) (fun c17 => ?_) (fun c17 => ?_)
    · refine G_iconst C (v := 0) dX5_causeAgainst_24 (by decide) ?_
      refine G_istore C (lo' := [(4, .int 0), (3, .int (hOf f n)), (0, .ref (ad k)), (1, .int ch), (2, .int n)]) dX5_causeAgainst_25 (by decide) rfl ?_
      refine G_iload_n C 1 dX5_causeAgainst_27 rfl rfl ?_
      refine G_bipush C (v := 108) dX5_causeAgainst_28 (by decide) ?_
      refine G_icmp_ne C 51 dX5_causeAgainst_30 (by decide) (fun c30 => ?_) (fun c30 => ?_)
      · refine G_iload_n C 1 dX5_causeAgainst_51 rfl rfl ?_
        refine G_bipush C (v := 109) dX5_causeAgainst_52 (by decide) ?_
        refine G_icmp_ne C 84 dX5_causeAgainst_54 (by decide) (fun c54 => ?_) (fun c54 => ?_)
        · refine G_iload_n C 1 dX5_causeAgainst_84 rfl rfl ?_
          refine G_bipush C (v := 98) dX5_causeAgainst_85 (by decide) ?_
          refine G_icmp_ne C 101 dX5_causeAgainst_87 (by decide) (fun c87 => ?_) (fun c87 => ?_)
          · refine G_iload C dX5_causeAgainst_101 rfl ?_
            refine G_if_eq C 110 dX5_causeAgainst_103 (by decide) (fun _ => ?_) (fun h => absurd h (by decide))
            refine G_iconst C (v := 2) dX5_causeAgainst_110 (by decide) ?_
            exact G_zret C hr rfl dX5_causeAgainst_111 ⟨(by first | contradiction | simp only [causeF, if_neg c4, if_pos c17, if_neg c30, if_neg c54, if_neg c87]), rfl⟩
          · refine G_iload_n C 3 dX5_causeAgainst_90 rfl rfl ?_
            refine G_if_le C 98 dX5_causeAgainst_91 (by decide) (fun c91 => ?_) (fun c91 => ?_)
            · refine G_iconst C (v := 0) dX5_causeAgainst_98 (by decide) ?_
              refine G_istore C (lo' := [(4, .int 0), (3, .int (hOf f n)), (0, .ref (ad k)), (1, .int ch), (2, .int n)]) dX5_causeAgainst_99 (by decide) rfl ?_
              refine G_iload C dX5_causeAgainst_101 rfl ?_
              refine G_if_eq C 110 dX5_causeAgainst_103 (by decide) (fun _ => ?_) (fun h => absurd h (by decide))
              refine G_iconst C (v := 2) dX5_causeAgainst_110 (by decide) ?_
              exact G_zret C hr rfl dX5_causeAgainst_111 ⟨(by first | contradiction | simp only [causeF, if_neg c4, if_pos c17, if_neg c30, if_neg c54, if_pos c87, if_pos c91]), rfl⟩
            · refine G_iconst C (v := 1) dX5_causeAgainst_94 (by decide) ?_
              refine G_goto C 99 dX5_causeAgainst_95 (by decide) ?_
              refine G_istore C (lo' := [(4, .int 1), (3, .int (hOf f n)), (0, .ref (ad k)), (1, .int ch), (2, .int n)]) dX5_causeAgainst_99 (by decide) rfl ?_
              refine G_iload C dX5_causeAgainst_101 rfl ?_
              refine G_if_eq C 110 dX5_causeAgainst_103 (by decide) (fun h => absurd h (by decide)) (fun _ => ?_)
              refine G_iconst C (v := 0) dX5_causeAgainst_106 (by decide) ?_
              refine G_goto C 111 dX5_causeAgainst_107 (by decide) ?_
              exact G_zret C hr rfl dX5_causeAgainst_111 ⟨(by first | contradiction | simp only [causeF, if_neg c4, if_pos c17, if_neg c30, if_neg c54, if_pos c87, if_neg c91]), rfl⟩
        · refine G_iload_n C 3 dX5_causeAgainst_57 rfl rfl ?_
          refine G_iconst C (v := (-1)) dX5_causeAgainst_58 (by decide) ?_
          refine G_icmp_eq C 78 dX5_causeAgainst_59 (by decide) (fun c59 => ?_) (fun c59 => ?_)
          · refine G_iconst C (v := 0) dX5_causeAgainst_78 (by decide) ?_
            refine G_istore C (lo' := [(4, .int 0), (3, .int (hOf f n)), (0, .ref (ad k)), (1, .int ch), (2, .int n)]) dX5_causeAgainst_79 (by decide) rfl ?_
            refine G_goto C 101 dX5_causeAgainst_81 (by decide) ?_
            refine G_iload C dX5_causeAgainst_101 rfl ?_
            refine G_if_eq C 110 dX5_causeAgainst_103 (by decide) (fun _ => ?_) (fun h => absurd h (by decide))
            refine G_iconst C (v := 2) dX5_causeAgainst_110 (by decide) ?_
            exact G_zret C hr rfl dX5_causeAgainst_111 ⟨(by first | contradiction | simp only [causeF, if_neg c4, if_pos c17, if_neg c30, if_pos c54, if_pos c59]), rfl⟩
          · refine G_iload_n C 3 dX5_causeAgainst_62 rfl rfl ?_
            refine G_aload_n C 0 dX5_causeAgainst_63 rfl rfl ?_
            refine G_get C k lt_k gk rfl inA5 0 (by decide) rfl kf_X5_15 rfl dX5_causeAgainst_64 ?_
            refine G_iload_n C 2 dX5_causeAgainst_67 rfl rfl ?_
            refine G_callV C (As := [.int n]) (rest := [.int (hOf f n)]) (c_X4_greatestPower lt_r lt_rg gr grg) ca_X4_greatestPower km_X5_57 lt_r gr rfl rfl rfl rfl (by decide) (Nat.le_of_ble_eq_true rfl) (by decide) dX5_causeAgainst_68 (fun vv7 gg8 qq9 => ?_)
            obtain ⟨rfl, rfl⟩ := qq9
            refine G_icmp_ge C 78 dX5_causeAgainst_71 (by decide) (fun c71 => ?_) (fun c71 => ?_)
            · refine G_iconst C (v := 0) dX5_causeAgainst_78 (by decide) ?_
              refine G_istore C (lo' := [(4, .int 0), (3, .int (hOf f n)), (0, .ref (ad k)), (1, .int ch), (2, .int n)]) dX5_causeAgainst_79 (by decide) rfl ?_
              refine G_goto C 101 dX5_causeAgainst_81 (by decide) ?_
              refine G_iload C dX5_causeAgainst_101 rfl ?_
              refine G_if_eq C 110 dX5_causeAgainst_103 (by decide) (fun _ => ?_) (fun h => absurd h (by decide))
              refine G_iconst C (v := 2) dX5_causeAgainst_110 (by decide) ?_
              exact G_zret C hr rfl dX5_causeAgainst_111 ⟨(by first | contradiction | simp only [causeF, if_neg c4, if_pos c17, if_neg c30, if_pos c54, if_neg c59, if_pos c71]), rfl⟩
            · refine G_iconst C (v := 1) dX5_causeAgainst_74 (by decide) ?_
              refine G_goto C 79 dX5_causeAgainst_75 (by decide) ?_
              refine G_istore C (lo' := [(4, .int 1), (3, .int (hOf f n)), (0, .ref (ad k)), (1, .int ch), (2, .int n)]) dX5_causeAgainst_79 (by decide) rfl ?_
              refine G_goto C 101 dX5_causeAgainst_81 (by decide) ?_
              refine G_iload C dX5_causeAgainst_101 rfl ?_
              refine G_if_eq C 110 dX5_causeAgainst_103 (by decide) (fun h => absurd h (by decide)) (fun _ => ?_)
              refine G_iconst C (v := 0) dX5_causeAgainst_106 (by decide) ?_
              refine G_goto C 111 dX5_causeAgainst_107 (by decide) ?_
              exact G_zret C hr rfl dX5_causeAgainst_111 ⟨(by first | contradiction | simp only [causeF, if_neg c4, if_pos c17, if_neg c30, if_pos c54, if_neg c59, if_neg c71]), rfl⟩
      · refine G_aload_n C 0 dX5_causeAgainst_33 rfl rfl ?_
        refine G_iload_n C 2 dX5_causeAgainst_34 rfl rfl ?_
        refine G_callV C (As := [.int n]) (rest := []) (c_X5_reasonAgainstLaying lt_k lt_ha lt_r lt_rp gk gh gr grp) ca_X5_reasonAgainstLaying km_X5_54 lt_k gk rfl rfl rfl rfl (by decide) (Nat.le_of_ble_eq_true rfl) (by decide) dX5_causeAgainst_35 (fun vv10 gg11 qq12 => ?_)
        obtain ⟨rfl, rfl⟩ := qq12
        refine G_if_ne C 45 dX5_causeAgainst_38 (by decide) (fun c38 => ?_) (fun c38 => ?_)
        · refine G_iconst C (v := 0) dX5_causeAgainst_45 (by decide) ?_
          refine G_istore C (lo' := [(4, .int 0), (3, .int (hOf f n)), (0, .ref (ad k)), (1, .int ch), (2, .int n)]) dX5_causeAgainst_46 (by decide) rfl ?_
          refine G_goto C 101 dX5_causeAgainst_48 (by decide) ?_
          refine G_iload C dX5_causeAgainst_101 rfl ?_
          refine G_if_eq C 110 dX5_causeAgainst_103 (by decide) (fun _ => ?_) (fun h => absurd h (by decide))
          refine G_iconst C (v := 2) dX5_causeAgainst_110 (by decide) ?_
          exact G_zret C hr rfl dX5_causeAgainst_111 ⟨(by first | contradiction | simp only [causeF, if_neg c4, if_pos c17, if_pos c30, if_neg c38]), rfl⟩
        · refine G_iconst C (v := 1) dX5_causeAgainst_41 (by decide) ?_
          refine G_goto C 46 dX5_causeAgainst_42 (by decide) ?_
          refine G_istore C (lo' := [(4, .int 1), (3, .int (hOf f n)), (0, .ref (ad k)), (1, .int ch), (2, .int n)]) dX5_causeAgainst_46 (by decide) rfl ?_
          refine G_goto C 101 dX5_causeAgainst_48 (by decide) ?_
          refine G_iload C dX5_causeAgainst_101 rfl ?_
          refine G_if_eq C 110 dX5_causeAgainst_103 (by decide) (fun h => absurd h (by decide)) (fun _ => ?_)
          refine G_iconst C (v := 0) dX5_causeAgainst_106 (by decide) ?_
          refine G_goto C 111 dX5_causeAgainst_107 (by decide) ?_
          exact G_zret C hr rfl dX5_causeAgainst_111 ⟨(by first | contradiction | simp only [causeF, if_neg c4, if_pos c17, if_pos c30, if_pos c38]), rfl⟩
    · refine G_iconst C (v := 1) dX5_causeAgainst_20 (by decide) ?_
      refine G_goto C 25 dX5_causeAgainst_21 (by decide) ?_
      refine G_istore C (lo' := [(4, .int 1), (3, .int (hOf f n)), (0, .ref (ad k)), (1, .int ch), (2, .int n)]) dX5_causeAgainst_25 (by decide) rfl ?_
      refine G_iload_n C 1 dX5_causeAgainst_27 rfl rfl ?_
      refine G_bipush C (v := 108) dX5_causeAgainst_28 (by decide) ?_
      refine G_icmp_ne C 51 dX5_causeAgainst_30 (by decide) (fun c30 => ?_) (fun c30 => ?_)
      · refine G_iload_n C 1 dX5_causeAgainst_51 rfl rfl ?_
        refine G_bipush C (v := 109) dX5_causeAgainst_52 (by decide) ?_
        refine G_icmp_ne C 84 dX5_causeAgainst_54 (by decide) (fun c54 => ?_) (fun c54 => ?_)
        · refine G_iload_n C 1 dX5_causeAgainst_84 rfl rfl ?_
          refine G_bipush C (v := 98) dX5_causeAgainst_85 (by decide) ?_
          refine G_icmp_ne C 101 dX5_causeAgainst_87 (by decide) (fun c87 => ?_) (fun c87 => ?_)
          · refine G_iload C dX5_causeAgainst_101 rfl ?_
            refine G_if_eq C 110 dX5_causeAgainst_103 (by decide) (fun h => absurd h (by decide)) (fun _ => ?_)
            refine G_iconst C (v := 0) dX5_causeAgainst_106 (by decide) ?_
            refine G_goto C 111 dX5_causeAgainst_107 (by decide) ?_
            exact G_zret C hr rfl dX5_causeAgainst_111 ⟨(by first | contradiction | simp only [causeF, if_neg c4, if_neg c17, if_neg c30, if_neg c54, if_neg c87]), rfl⟩
          · refine G_iload_n C 3 dX5_causeAgainst_90 rfl rfl ?_
            refine G_if_le C 98 dX5_causeAgainst_91 (by decide) (fun c91 => ?_) (fun c91 => ?_)
            · refine G_iconst C (v := 0) dX5_causeAgainst_98 (by decide) ?_
              refine G_istore C (lo' := [(4, .int 0), (3, .int (hOf f n)), (0, .ref (ad k)), (1, .int ch), (2, .int n)]) dX5_causeAgainst_99 (by decide) rfl ?_
              refine G_iload C dX5_causeAgainst_101 rfl ?_
              refine G_if_eq C 110 dX5_causeAgainst_103 (by decide) (fun _ => ?_) (fun h => absurd h (by decide))
              refine G_iconst C (v := 2) dX5_causeAgainst_110 (by decide) ?_
              exact G_zret C hr rfl dX5_causeAgainst_111 ⟨(by first | contradiction | simp only [causeF, if_neg c4, if_neg c17, if_neg c30, if_neg c54, if_pos c87, if_pos c91]), rfl⟩
            · refine G_iconst C (v := 1) dX5_causeAgainst_94 (by decide) ?_
              refine G_goto C 99 dX5_causeAgainst_95 (by decide) ?_
              refine G_istore C (lo' := [(4, .int 1), (3, .int (hOf f n)), (0, .ref (ad k)), (1, .int ch), (2, .int n)]) dX5_causeAgainst_99 (by decide) rfl ?_
              refine G_iload C dX5_causeAgainst_101 rfl ?_
              refine G_if_eq C 110 dX5_causeAgainst_103 (by decide) (fun h => absurd h (by decide)) (fun _ => ?_)
              refine G_iconst C (v := 0) dX5_causeAgainst_106 (by decide) ?_
              refine G_goto C 111 dX5_causeAgainst_107 (by decide) ?_
              exact G_zret C hr rfl dX5_causeAgainst_111 ⟨(by first | contradiction | simp only [causeF, if_neg c4, if_neg c17, if_neg c30, if_neg c54, if_pos c87, if_neg c91]), rfl⟩
        · refine G_iload_n C 3 dX5_causeAgainst_57 rfl rfl ?_
          refine G_iconst C (v := (-1)) dX5_causeAgainst_58 (by decide) ?_
          refine G_icmp_eq C 78 dX5_causeAgainst_59 (by decide) (fun c59 => ?_) (fun c59 => ?_)
          · refine G_iconst C (v := 0) dX5_causeAgainst_78 (by decide) ?_
            refine G_istore C (lo' := [(4, .int 0), (3, .int (hOf f n)), (0, .ref (ad k)), (1, .int ch), (2, .int n)]) dX5_causeAgainst_79 (by decide) rfl ?_
            refine G_goto C 101 dX5_causeAgainst_81 (by decide) ?_
            refine G_iload C dX5_causeAgainst_101 rfl ?_
            refine G_if_eq C 110 dX5_causeAgainst_103 (by decide) (fun _ => ?_) (fun h => absurd h (by decide))
            refine G_iconst C (v := 2) dX5_causeAgainst_110 (by decide) ?_
            exact G_zret C hr rfl dX5_causeAgainst_111 ⟨(by first | contradiction | simp only [causeF, if_neg c4, if_neg c17, if_neg c30, if_pos c54, if_pos c59]), rfl⟩
          · refine G_iload_n C 3 dX5_causeAgainst_62 rfl rfl ?_
            refine G_aload_n C 0 dX5_causeAgainst_63 rfl rfl ?_
            refine G_get C k lt_k gk rfl inA5 0 (by decide) rfl kf_X5_15 rfl dX5_causeAgainst_64 ?_
            refine G_iload_n C 2 dX5_causeAgainst_67 rfl rfl ?_
            refine G_callV C (As := [.int n]) (rest := [.int (hOf f n)]) (c_X4_greatestPower lt_r lt_rg gr grg) ca_X4_greatestPower km_X5_57 lt_r gr rfl rfl rfl rfl (by decide) (Nat.le_of_ble_eq_true rfl) (by decide) dX5_causeAgainst_68 (fun vv13 gg14 qq15 => ?_)
            obtain ⟨rfl, rfl⟩ := qq15
            refine G_icmp_ge C 78 dX5_causeAgainst_71 (by decide) (fun c71 => ?_) (fun c71 => ?_)
            · refine G_iconst C (v := 0) dX5_causeAgainst_78 (by decide) ?_
              refine G_istore C (lo' := [(4, .int 0), (3, .int (hOf f n)), (0, .ref (ad k)), (1, .int ch), (2, .int n)]) dX5_causeAgainst_79 (by decide) rfl ?_
              refine G_goto C 101 dX5_causeAgainst_81 (by decide) ?_
              refine G_iload C dX5_causeAgainst_101 rfl ?_
              refine G_if_eq C 110 dX5_causeAgainst_103 (by decide) (fun _ => ?_) (fun h => absurd h (by decide))
              refine G_iconst C (v := 2) dX5_causeAgainst_110 (by decide) ?_
              exact G_zret C hr rfl dX5_causeAgainst_111 ⟨(by first | contradiction | simp only [causeF, if_neg c4, if_neg c17, if_neg c30, if_pos c54, if_neg c59, if_pos c71]), rfl⟩
            · refine G_iconst C (v := 1) dX5_causeAgainst_74 (by decide) ?_
              refine G_goto C 79 dX5_causeAgainst_75 (by decide) ?_
              refine G_istore C (lo' := [(4, .int 1), (3, .int (hOf f n)), (0, .ref (ad k)), (1, .int ch), (2, .int n)]) dX5_causeAgainst_79 (by decide) rfl ?_
              refine G_goto C 101 dX5_causeAgainst_81 (by decide) ?_
              refine G_iload C dX5_causeAgainst_101 rfl ?_
              refine G_if_eq C 110 dX5_causeAgainst_103 (by decide) (fun h => absurd h (by decide)) (fun _ => ?_)
              refine G_iconst C (v := 0) dX5_causeAgainst_106 (by decide) ?_
              refine G_goto C 111 dX5_causeAgainst_107 (by decide) ?_
              exact G_zret C hr rfl dX5_causeAgainst_111 ⟨(by first | contradiction | simp only [causeF, if_neg c4, if_neg c17, if_neg c30, if_pos c54, if_neg c59, if_neg c71]), rfl⟩
      · refine G_aload_n C 0 dX5_causeAgainst_33 rfl rfl ?_
        refine G_iload_n C 2 dX5_causeAgainst_34 rfl rfl ?_
        refine G_callV C (As := [.int n]) (rest := []) (c_X5_reasonAgainstLaying lt_k lt_ha lt_r lt_rp gk gh gr grp) ca_X5_reasonAgainstLaying km_X5_54 lt_k gk rfl rfl rfl rfl (by decide) (Nat.le_of_ble_eq_true rfl) (by decide) dX5_causeAgainst_35 (fun vv16 gg17 qq18 => ?_)
        obtain ⟨rfl, rfl⟩ := qq18
        refine G_if_ne C 45 dX5_causeAgainst_38 (by decide) (fun c38 => ?_) (fun c38 => ?_)
        · refine G_iconst C (v := 0) dX5_causeAgainst_45 (by decide) ?_
          refine G_istore C (lo' := [(4, .int 0), (3, .int (hOf f n)), (0, .ref (ad k)), (1, .int ch), (2, .int n)]) dX5_causeAgainst_46 (by decide) rfl ?_
          refine G_goto C 101 dX5_causeAgainst_48 (by decide) ?_
          refine G_iload C dX5_causeAgainst_101 rfl ?_
          refine G_if_eq C 110 dX5_causeAgainst_103 (by decide) (fun _ => ?_) (fun h => absurd h (by decide))
          refine G_iconst C (v := 2) dX5_causeAgainst_110 (by decide) ?_
          exact G_zret C hr rfl dX5_causeAgainst_111 ⟨(by first | contradiction | simp only [causeF, if_neg c4, if_neg c17, if_pos c30, if_neg c38]), rfl⟩
        · refine G_iconst C (v := 1) dX5_causeAgainst_41 (by decide) ?_
          refine G_goto C 46 dX5_causeAgainst_42 (by decide) ?_
          refine G_istore C (lo' := [(4, .int 1), (3, .int (hOf f n)), (0, .ref (ad k)), (1, .int ch), (2, .int n)]) dX5_causeAgainst_46 (by decide) rfl ?_
          refine G_goto C 101 dX5_causeAgainst_48 (by decide) ?_
          refine G_iload C dX5_causeAgainst_101 rfl ?_
          refine G_if_eq C 110 dX5_causeAgainst_103 (by decide) (fun h => absurd h (by decide)) (fun _ => ?_)
          refine G_iconst C (v := 0) dX5_causeAgainst_106 (by decide) ?_
          refine G_goto C 111 dX5_causeAgainst_107 (by decide) ?_
          exact G_zret C hr rfl dX5_causeAgainst_111 ⟨(by first | contradiction | simp only [causeF, if_neg c4, if_neg c17, if_pos c30, if_pos c38]), rfl⟩
  · refine G_iconst C (v := 1) dX5_causeAgainst_7 (by decide) ?_
    exact G_zret C hr rfl dX5_causeAgainst_8 ⟨(by first | contradiction | simp only [causeF, if_pos c4]), rfl⟩

abbrev rm_X5_setHeight : Room := ({ frames := 0, cells := 0, slots := 0, locals := 0 } : Room)
set_option maxRecDepth 100000 in
set_option maxHeartbeats 4000000 in
theorem c_X5_setHeight {L : GL} {N : Nat} {ad : Nat → Nat} {G : Nat → va_E} {k ha : Nat} {l ml : Int32} {vr : Value} {f : Nat → Int32} {n v : Int32} (lt_k : k < N) (lt_ha : ha < N) (gk : G k = .inr (5, [vr, .ref (ad ha), .int l, .int ml])) (gh : G ha = .inl (L.ac 0, 61, .inl f))  : GM L yX5_setHeight cX5_setHeight 3 (none) rm_X5_setHeight N ad G [.ref (ad k), .int n, .int v] (fun vo G' => vo = none ∧ G' ha = .inl (L.ac 0, 61, .inl (setH f n v)) ∧ Agr [ha] G G') := by
  refine GM.of (own := RX5) (lo := [(0, .ref (ad k)), (1, .int n), (2, .int v)]) (by decide +kernel) rfl rfl (Nat.le_of_ble_eq_true rfl) (fun E C hr => ?_)
  have ne_0_1 : k ≠ ha := fun h => by have h9 := gk; rw [h, gh] at h9; cases h9
  have ne_1_0 : ha ≠ k := Ne.symm ne_0_1
  refine G_iload_n C 1 dX5_setHeight_0 rfl rfl ?_
  refine G_if_lt C 20 dX5_setHeight_1 (by decide) (fun c1 => ?_) (fun c1 => ?_)
  · exact G_vret C hr dX5_setHeight_20 ⟨rfl, (by rw [gh]; simp only [setH, if_pos c1]), Agr.rf⟩
  · refine G_iload_n C 1 dX5_setHeight_4 rfl rfl ?_
    refine G_aload_n C 0 dX5_setHeight_5 rfl rfl ?_
    refine G_get C k lt_k gk rfl inA5 1 (by decide) rfl kf_X5_9 rfl dX5_setHeight_6 ?_
    refine G_alen C ha lt_ha 0 gh rfl (v := 61) rfl dX5_setHeight_9 ?_
    refine G_icmp_ge C 20 dX5_setHeight_10 (by decide) (fun c10 => ?_) (fun c10 => ?_)
    · exact G_vret C hr dX5_setHeight_20 ⟨rfl, (by rw [gh]; simp only [setH, if_neg c1, if_pos c10]), Agr.rf⟩
    · refine G_aload_n C 0 dX5_setHeight_13 rfl rfl ?_
      refine G_get C k lt_k gk rfl inA5 1 (by decide) rfl kf_X5_9 rfl dX5_setHeight_14 ?_
      refine G_iload_n C 1 dX5_setHeight_17 rfl rfl ?_
      refine G_iload_n C 2 dX5_setHeight_18 rfl rfl ?_
      refine G_iastp C ha lt_ha gh (vin (M := 61) rfl (by decide) c1 c10) dX5_setHeight_19 (fun gg1 hh2 aa3 => ?_)
      have AA4 : Agr [ha] G gg1 := aa3.wk (by simp)
      exact G_vret C hr dX5_setHeight_20 ⟨rfl, (by rw [hh2]; simp only [setH, if_neg c1, if_neg c10]), AA4⟩

abbrev rm_X5_carryOut : Room := ({ frames := 1, cells := 0, slots := 0, locals := 22 } : Room)
set_option maxRecDepth 100000 in
set_option maxHeartbeats 4000000 in
theorem c_X5_carryOut {L : GL} {N : Nat} {ad : Nat → Nat} {G : Nat → va_E} {k ha : Nat} {l ml : Int32} {vr : Value} {f : Nat → Int32} {ch n : Int32} (lt_k : k < N) (lt_ha : ha < N) (gk : G k = .inr (5, [vr, .ref (ad ha), .int l, .int ml])) (gh : G ha = .inl (L.ac 0, 61, .inl f))  : GM L yX5_carryOut cX5_carryOut 3 (none) rm_X5_carryOut N ad G [.ref (ad k), .int ch, .int n] (fun vo G' => vo = none ∧ G' k = .inr (5, [vr, .ref (ad ha), .int ((coF f l ml ch n).2.1), .int ((coF f l ml ch n).2.2)]) ∧ G' ha = .inl (L.ac 0, 61, .inl ((coF f l ml ch n).1)) ∧ Agr [k, ha] G G') := by
  refine GM.of (own := RX5) (lo := [(0, .ref (ad k)), (1, .int ch), (2, .int n)]) (by decide +kernel) rfl rfl (Nat.le_of_ble_eq_true rfl) (fun E C hr => ?_)
  have ne_0_1 : k ≠ ha := fun h => by have h9 := gk; rw [h, gh] at h9; cases h9
  have ne_1_0 : ha ≠ k := Ne.symm ne_0_1
  refine G_iload_n C 1 dX5_carryOut_0 rfl rfl ?_
  refine G_bipush C (v := 108) dX5_carryOut_1 (by decide) ?_
  refine G_icmp_ne C 25 dX5_carryOut_3 (by decide) (fun c3 => ?_) (fun c3 => ?_)
  · refine G_iload_n C 1 dX5_carryOut_25 rfl rfl ?_
    refine G_bipush C (v := 116) dX5_carryOut_26 (by decide) ?_
    refine G_icmp_ne C 50 dX5_carryOut_28 (by decide) (fun c28 => ?_) (fun c28 => ?_)
    · refine G_iload_n C 1 dX5_carryOut_50 rfl rfl ?_
      refine G_bipush C (v := 109) dX5_carryOut_51 (by decide) ?_
      refine G_icmp_ne C 81 dX5_carryOut_53 (by decide) (fun c53 => ?_) (fun c53 => ?_)
      · refine G_iload_n C 1 dX5_carryOut_81 rfl rfl ?_
        refine G_bipush C (v := 98) dX5_carryOut_82 (by decide) ?_
        refine G_icmp_ne C 99 dX5_carryOut_84 (by decide) (fun c84 => ?_) (fun c84 => ?_)
        · exact G_vret C hr dX5_carryOut_99 ⟨rfl, (by rw [gk]; simp only [coF, if_neg c3, if_neg c28, if_neg c53, if_neg c84]), (by rw [gh]; simp only [coF, if_neg c3, if_neg c28, if_neg c53, if_neg c84]), Agr.rf⟩
        · refine G_aload_n C 0 dX5_carryOut_87 rfl rfl ?_
          refine G_iload_n C 2 dX5_carryOut_88 rfl rfl ?_
          refine G_aload_n C 0 dX5_carryOut_89 rfl rfl ?_
          refine G_iload_n C 2 dX5_carryOut_90 rfl rfl ?_
          refine G_callV C (As := [.int n]) (rest := [.int n, .ref (ad k)]) (c_X5_heightOf lt_k lt_ha gk gh) ca_X5_heightOf km_X5_38 lt_k gk rfl rfl rfl rfl (by decide) (Nat.le_of_ble_eq_true rfl) (by decide) dX5_carryOut_91 (fun vv1 gg2 qq3 => ?_)
          obtain ⟨rfl, rfl⟩ := qq3
          refine G_iconst C (v := 1) dX5_carryOut_94 (by decide) ?_
          refine G_isub C dX5_carryOut_95 ?_
          refine G_callV C (As := [.int n, .int ((hOf f n) - 1)]) (rest := []) (c_X5_setHeight lt_k lt_ha gk gh) ca_X5_setHeight km_X5_60 lt_k gk rfl rfl rfl rfl (by decide) (Nat.le_of_ble_eq_true rfl) (by decide) dX5_carryOut_96 (fun vv4 gg5 qq6 => ?_)
          obtain ⟨rfl, hh7, aa8⟩ := qq6
          have AA9 : Agr [ha] G gg5 := aa8.wk (by simp)
          exact G_vret C hr dX5_carryOut_99 ⟨rfl, (by rw [((aa8 k (by simp [ne_0_1])).trans gk)]; simp only [coF, if_neg c3, if_neg c28, if_neg c53, if_pos c84]), (by rw [hh7]; simp only [coF, if_neg c3, if_neg c28, if_neg c53, if_pos c84]), (AA9.wk (by simp))⟩
      · refine G_aload_n C 0 dX5_carryOut_56 rfl rfl ?_
        refine G_iload_n C 2 dX5_carryOut_57 rfl rfl ?_
        refine G_aload_n C 0 dX5_carryOut_58 rfl rfl ?_
        refine G_iload_n C 2 dX5_carryOut_59 rfl rfl ?_
        refine G_callV C (As := [.int n]) (rest := [.int n, .ref (ad k)]) (c_X5_heightOf lt_k lt_ha gk gh) ca_X5_heightOf km_X5_38 lt_k gk rfl rfl rfl rfl (by decide) (Nat.le_of_ble_eq_true rfl) (by decide) dX5_carryOut_60 (fun vv10 gg11 qq12 => ?_)
        obtain ⟨rfl, rfl⟩ := qq12
        refine G_iconst C (v := 1) dX5_carryOut_63 (by decide) ?_
        refine G_iadd C dX5_carryOut_64 ?_
        refine G_callV C (As := [.int n, .int ((hOf f n) + 1)]) (rest := []) (c_X5_setHeight lt_k lt_ha gk gh) ca_X5_setHeight km_X5_60 lt_k gk rfl rfl rfl rfl (by decide) (Nat.le_of_ble_eq_true rfl) (by decide) dX5_carryOut_65 (fun vv13 gg14 qq15 => ?_)
        obtain ⟨rfl, hh16, aa17⟩ := qq15
        have AA18 : Agr [ha] G gg14 := aa17.wk (by simp)
        refine G_aload_n C 0 dX5_carryOut_68 rfl rfl ?_
        refine G_dup C dX5_carryOut_69 rfl ?_
        refine G_get C k lt_k ((aa17 k (by simp [ne_0_1])).trans gk) rfl inA5 3 (by decide) rfl kf_X5_35 rfl dX5_carryOut_70 ?_
        refine G_iconst C (v := 1) dX5_carryOut_73 (by decide) ?_
        refine G_iadd C dX5_carryOut_74 ?_
        refine G_putp C k lt_k ((aa17 k (by simp [ne_0_1])).trans gk) rfl inA5 tyX5_ok nmX5 3 (by decide) rfl kf_X5_35 rfl rfl rfl (fs' := [vr, .ref (ad ha), .int l, .int (ml + 1)]) (Nat.le_of_ble_eq_true rfl) rfl dX5_carryOut_75 (fun gg19 hh20 aa21 => ?_)
        have AA22 : Agr [ha, k] G gg19 := AA18.tr aa21 (by simp) (by simp)
        refine G_goto C 99 dX5_carryOut_78 (by decide) ?_
        exact G_vret C hr dX5_carryOut_99 ⟨rfl, (by rw [hh20]; simp only [coF, if_neg c3, if_neg c28, if_pos c53]), (by rw [((aa21 ha (by simp [ne_1_0])).trans hh16)]; simp only [coF, if_neg c3, if_neg c28, if_pos c53]), (AA22.wk (by simp))⟩
    · refine G_aload_n C 0 dX5_carryOut_31 rfl rfl ?_
      refine G_iload_n C 2 dX5_carryOut_32 rfl rfl ?_
      refine G_iconst C (v := (-1)) dX5_carryOut_33 (by decide) ?_
      refine G_callV C (As := [.int n, .int (-1)]) (rest := []) (c_X5_setHeight lt_k lt_ha gk gh) ca_X5_setHeight km_X5_60 lt_k gk rfl rfl rfl rfl (by decide) (Nat.le_of_ble_eq_true rfl) (by decide) dX5_carryOut_34 (fun vv23 gg24 qq25 => ?_)
      obtain ⟨rfl, hh26, aa27⟩ := qq25
      have AA28 : Agr [ha] G gg24 := aa27.wk (by simp)
      refine G_aload_n C 0 dX5_carryOut_37 rfl rfl ?_
      refine G_dup C dX5_carryOut_38 rfl ?_
      refine G_get C k lt_k ((aa27 k (by simp [ne_0_1])).trans gk) rfl inA5 2 (by decide) rfl kf_X5_31 rfl dX5_carryOut_39 ?_
      refine G_iconst C (v := 1) dX5_carryOut_42 (by decide) ?_
      refine G_isub C dX5_carryOut_43 ?_
      refine G_putp C k lt_k ((aa27 k (by simp [ne_0_1])).trans gk) rfl inA5 tyX5_ok nmX5 2 (by decide) rfl kf_X5_31 rfl rfl rfl (fs' := [vr, .ref (ad ha), .int (l - 1), .int ml]) (Nat.le_of_ble_eq_true rfl) rfl dX5_carryOut_44 (fun gg29 hh30 aa31 => ?_)
      have AA32 : Agr [ha, k] G gg29 := AA28.tr aa31 (by simp) (by simp)
      refine G_goto C 99 dX5_carryOut_47 (by decide) ?_
      exact G_vret C hr dX5_carryOut_99 ⟨rfl, (by rw [hh30]; simp only [coF, if_neg c3, if_pos c28]), (by rw [((aa31 ha (by simp [ne_1_0])).trans hh26)]; simp only [coF, if_neg c3, if_pos c28]), (AA32.wk (by simp))⟩
  · refine G_aload_n C 0 dX5_carryOut_6 rfl rfl ?_
    refine G_iload_n C 2 dX5_carryOut_7 rfl rfl ?_
    refine G_iconst C (v := 0) dX5_carryOut_8 (by decide) ?_
    refine G_callV C (As := [.int n, .int 0]) (rest := []) (c_X5_setHeight lt_k lt_ha gk gh) ca_X5_setHeight km_X5_60 lt_k gk rfl rfl rfl rfl (by decide) (Nat.le_of_ble_eq_true rfl) (by decide) dX5_carryOut_9 (fun vv33 gg34 qq35 => ?_)
    obtain ⟨rfl, hh36, aa37⟩ := qq35
    have AA38 : Agr [ha] G gg34 := aa37.wk (by simp)
    refine G_aload_n C 0 dX5_carryOut_12 rfl rfl ?_
    refine G_dup C dX5_carryOut_13 rfl ?_
    refine G_get C k lt_k ((aa37 k (by simp [ne_0_1])).trans gk) rfl inA5 2 (by decide) rfl kf_X5_31 rfl dX5_carryOut_14 ?_
    refine G_iconst C (v := 1) dX5_carryOut_17 (by decide) ?_
    refine G_iadd C dX5_carryOut_18 ?_
    refine G_putp C k lt_k ((aa37 k (by simp [ne_0_1])).trans gk) rfl inA5 tyX5_ok nmX5 2 (by decide) rfl kf_X5_31 rfl rfl rfl (fs' := [vr, .ref (ad ha), .int (l + 1), .int ml]) (Nat.le_of_ble_eq_true rfl) rfl dX5_carryOut_19 (fun gg39 hh40 aa41 => ?_)
    have AA42 : Agr [ha, k] G gg39 := AA38.tr aa41 (by simp) (by simp)
    refine G_goto C 99 dX5_carryOut_22 (by decide) ?_
    exact G_vret C hr dX5_carryOut_99 ⟨rfl, (by rw [hh40]; simp only [coF, if_pos c3]), (by rw [((aa41 ha (by simp [ne_1_0])).trans hh36)]; simp only [coF, if_pos c3]), (AA42.wk (by simp))⟩

abbrev rm_X5_copyFrom : Room := ({ frames := 1, cells := 0, slots := 0, locals := 60 } : Room)
set_option maxRecDepth 100000 in
set_option maxHeartbeats 4000000 in
theorem c_X5_copyFrom {L : GL} {N : Nat} {ad : Nat → Nat} {G : Nat → va_E} {k k2 ha hb : Nat} {l ml l2 ml2 : Int32} {vr vr2 : Value} {f g : Nat → Int32} (lt_k : k < N) (lt_ha : ha < N) (lt_k2 : k2 < N) (lt_hb : hb < N) (gk : G k = .inr (5, [vr, .ref (ad ha), .int l, .int ml])) (gh : G ha = .inl (L.ac 0, 61, .inl f)) (gk2 : G k2 = .inr (5, [vr2, .ref (ad hb), .int l2, .int ml2])) (gh2 : G hb = .inl (L.ac 0, 61, .inl g)) (hkk : k ≠ k2) (hhh : ha ≠ hb) : GM L yX5_copyFrom cX5_copyFrom 2 (none) rm_X5_copyFrom N ad G [.ref (ad k), .ref (ad k2)] (fun vo G' => vo = none ∧ G' k = .inr (5, [vr, .ref (ad ha), .int l2, .int ml2]) ∧ G' ha = .inl (L.ac 0, 61, .inl g) ∧ Agr [k, ha] G G') := by
  refine GM.of (own := RX5) (lo := [(0, .ref (ad k)), (1, .ref (ad k2))]) (by decide +kernel) rfl rfl (Nat.le_of_ble_eq_true rfl) (fun E C hr => ?_)
  have ne_0_1 : k ≠ ha := fun h => by have h9 := gk; rw [h, gh] at h9; cases h9
  have ne_0_3 : k ≠ hb := fun h => by have h9 := gk; rw [h, gh2] at h9; cases h9
  have ne_1_0 : ha ≠ k := Ne.symm ne_0_1
  have ne_1_2 : ha ≠ k2 := fun h => by have h9 := gh; rw [h, gk2] at h9; cases h9
  have ne_2_1 : k2 ≠ ha := Ne.symm ne_1_2
  have ne_2_3 : k2 ≠ hb := fun h => by have h9 := gk2; rw [h, gh2] at h9; cases h9
  have ne_3_0 : hb ≠ k := Ne.symm ne_0_3
  have ne_3_2 : hb ≠ k2 := Ne.symm ne_2_3
  refine G_aload_n C 1 dX5_copyFrom_0 rfl rfl ?_
  refine G_get C k2 lt_k2 gk2 rfl inA5 1 (by decide) rfl kf_X5_9 rfl dX5_copyFrom_1 ?_
  refine G_iconst C (v := 0) dX5_copyFrom_4 (by decide) ?_
  refine G_aload_n C 0 dX5_copyFrom_5 rfl rfl ?_
  refine G_get C k lt_k gk rfl inA5 1 (by decide) rfl kf_X5_9 rfl dX5_copyFrom_6 ?_
  refine G_iconst C (v := 0) dX5_copyFrom_9 (by decide) ?_
  refine G_aload_n C 0 dX5_copyFrom_10 rfl rfl ?_
  refine G_get C k lt_k gk rfl inA5 1 (by decide) rfl kf_X5_9 rfl dX5_copyFrom_11 ?_
  refine G_alen C ha lt_ha 0 gh rfl (v := 61) rfl dX5_copyFrom_14 ?_
  refine G_copyip C km_X5_25 w_ac1 w_ac2 w_ac3 hb ha lt_hb lt_ha gh2 gh (by decide) (by decide) (by decide) (by decide) (by decide) (by decide) (by decide) dX5_copyFrom_15 (fun gg1 hh2 aa3 => ?_)
  have AA4 : Agr [ha] G gg1 := aa3.wk (by simp)
  refine GW.ren ha lt_ha (t0 := 0) g hh2 (fun j hj => cpy61 hj) (fun gg5 hh6 aa7 => ?_)
  have AA8 : Agr [ha] G gg5 := AA4.tr aa7 (by simp) (by simp)
  refine G_aload_n C 0 dX5_copyFrom_18 rfl rfl ?_
  refine G_aload_n C 1 dX5_copyFrom_19 rfl rfl ?_
  refine G_get C k2 lt_k2 ((aa7 k2 (by simp [ne_2_1])).trans ((aa3 k2 (by simp [ne_2_1])).trans gk2)) rfl inA5 2 (by decide) rfl kf_X5_31 rfl dX5_copyFrom_20 ?_
  refine G_putp C k lt_k ((aa7 k (by simp [ne_0_1])).trans ((aa3 k (by simp [ne_0_1])).trans gk)) rfl inA5 tyX5_ok nmX5 2 (by decide) rfl kf_X5_31 rfl rfl rfl (fs' := [vr, .ref (ad ha), .int l2, .int ml]) (Nat.le_of_ble_eq_true rfl) rfl dX5_copyFrom_23 (fun gg9 hh10 aa11 => ?_)
  have AA12 : Agr [ha, k] G gg9 := AA8.tr aa11 (by simp) (by simp)
  refine G_aload_n C 0 dX5_copyFrom_26 rfl rfl ?_
  refine G_aload_n C 1 dX5_copyFrom_27 rfl rfl ?_
  refine G_get C k2 lt_k2 ((aa11 k2 (by simp [(Ne.symm hkk)])).trans ((aa7 k2 (by simp [ne_2_1])).trans ((aa3 k2 (by simp [ne_2_1])).trans gk2))) rfl inA5 3 (by decide) rfl kf_X5_35 rfl dX5_copyFrom_28 ?_
  refine G_putp C k lt_k hh10 rfl inA5 tyX5_ok nmX5 3 (by decide) rfl kf_X5_35 rfl rfl rfl (fs' := [vr, .ref (ad ha), .int l2, .int ml2]) (Nat.le_of_ble_eq_true rfl) rfl dX5_copyFrom_31 (fun gg13 hh14 aa15 => ?_)
  have AA16 : Agr [ha, k] G gg13 := AA12.tr aa15 (by simp) (by simp)
  exact G_vret C hr dX5_copyFrom_34 ⟨rfl, hh14, ((aa15 ha (by simp [ne_1_0])).trans ((aa11 ha (by simp [ne_1_0])).trans hh6)), (AA16.wk (by simp))⟩

abbrev rm_X4_begin : Room := ({ frames := 1, cells := 0, slots := 0, locals := 23 } : Room)
set_option maxRecDepth 100000 in
set_option maxHeartbeats 4000000 in
theorem c_X4_begin {L : GL} {N : Nat} {ad : Nat → Nat} {G : Nat → va_E} {r p : Nat} {rt rp rx ry rg : Nat} {tx ty : Nat → Int32} {a1 a2 a3 : Int32} {a4 a5 : Int64} {n : Int32} (lt_r : r < N) (lt_rx : rx < N) (lt_ry : ry < N) (lt_p : p < N) (gr : G r = .inr (4, [.ref (ad rt), .ref (ad rp), .ref (ad rx), .ref (ad ry), .ref (ad rg)])) (grx : G rx = .inl (L.ac 0, 61, .inl tx)) (gry : G ry = .inl (L.ac 0, 61, .inl ty)) (gp : G p = .inr (1, [.int a1, .int a2, .int a3, .long a4, .long a5]))  : GM L yX4_begin cX4_begin 3 (none) rm_X4_begin N ad G [.ref (ad r), .ref (ad p), .int n] (fun vo G' => vo = none ∧ G' p = .inr (1, [.int (tabF tx n), .int (tabF ty n), .int n, .long 1, .long 0]) ∧ Agr [p] G G') := by
  refine GM.of (own := RX4) (lo := [(0, .ref (ad r)), (1, .ref (ad p)), (2, .int n)]) (by decide +kernel) rfl rfl (Nat.le_of_ble_eq_true rfl) (fun E C hr => ?_)
  have ne_0_1 : r ≠ rx := fun h => by have h9 := gr; rw [h, grx] at h9; cases h9
  have ne_0_2 : r ≠ ry := fun h => by have h9 := gr; rw [h, gry] at h9; cases h9
  have ne_0_3 : r ≠ p := fun h => by have h9 := gr; rw [h, gp] at h9; cases h9
  have ne_1_0 : rx ≠ r := Ne.symm ne_0_1
  have ne_1_3 : rx ≠ p := fun h => by have h9 := grx; rw [h, gp] at h9; cases h9
  have ne_2_0 : ry ≠ r := Ne.symm ne_0_2
  have ne_2_3 : ry ≠ p := fun h => by have h9 := gry; rw [h, gp] at h9; cases h9
  have ne_3_0 : p ≠ r := Ne.symm ne_0_3
  have ne_3_1 : p ≠ rx := Ne.symm ne_1_3
  have ne_3_2 : p ≠ ry := Ne.symm ne_2_3
  refine G_aload_n C 1 dX4_begin_0 rfl rfl ?_
  refine G_iload_n C 2 dX4_begin_1 rfl rfl ?_
  refine G_aload_n C 0 dX4_begin_2 rfl rfl ?_
  refine G_iload_n C 2 dX4_begin_3 rfl rfl ?_
  refine G_callV C (As := [.int n]) (rest := [.int n, .ref (ad p)]) (c_X4_xOfUnit lt_r lt_rx gr grx) ca_X4_xOfUnit km_X4_66 lt_r gr rfl rfl rfl rfl (by decide) (Nat.le_of_ble_eq_true rfl) (by decide) dX4_begin_4 (fun vv1 gg2 qq3 => ?_)
  obtain ⟨rfl, rfl⟩ := qq3
  refine G_aload_n C 0 dX4_begin_7 rfl rfl ?_
  refine G_iload_n C 2 dX4_begin_8 rfl rfl ?_
  refine G_callV C (As := [.int n]) (rest := [.int (tabF tx n), .int n, .ref (ad p)]) (c_X4_yOfUnit lt_r lt_ry gr gry) ca_X4_yOfUnit km_X4_70 lt_r gr rfl rfl rfl rfl (by decide) (Nat.le_of_ble_eq_true rfl) (by decide) dX4_begin_9 (fun vv4 gg5 qq6 => ?_)
  obtain ⟨rfl, rfl⟩ := qq6
  refine G_callV C (As := [.int n, .int (tabF tx n), .int (tabF ty n)]) (rest := []) (c_X1_begin lt_p gp) ca_X1_begin km_X4_73 lt_p gp rfl rfl rfl rfl (by decide) (Nat.le_of_ble_eq_true rfl) (by decide) dX4_begin_12 (fun vv7 gg8 qq9 => ?_)
  obtain ⟨rfl, hh10, aa11⟩ := qq9
  have AA12 : Agr [p] G gg8 := aa11.wk (by simp)
  exact G_vret C hr dX4_begin_15 ⟨rfl, hh10, AA12⟩
end
section
/-! sequences of numbers that both sides walk through -/
def sqd (d : Nat) : Prop := perL.getD d 0 = 0
/-- m, q and the term, i steps behind the start -/
def tsq (d : Nat) : Nat → Int32 × Int32 × Int32
  | 0 => (0, 1, nI (wr d))
  | i + 1 => tnF (nI d) (nI (wr d)) (tsq d i).1 (tsq d i).2.1 (tsq d i).2.2
/-- x and y before, x and y, i terms behind the term 0 -/
def uSeq (d : Nat) : Nat → Int32 × Int32 × Int32 × Int32
  | 0 => (1, 0, nI (wr d), 1)
  | i + 1 => ((uSeq d i).2.2.1, (uSeq d i).2.2.2, (tsq d (i + 1)).2.2 * (uSeq d i).2.2.1 + (uSeq d i).1, (tsq d (i + 1)).2.2 * (uSeq d i).2.2.2 + (uSeq d i).2.1)
/-- the power k of the unit of d -/
def pwr (d : Nat) : Nat → Int64 × Int64
  | 0 => (1, 0)
  | k + 1 => (climbF (tUx d) (tUy d) (nI d) (pwr d k).1 (pwr d k).2).2
def gpn (d : Nat) : Nat := gpL.getD d 0
def pern (d : Nat) : Nat := perL.getD d 0
theorem per_end : ∀ d, d < 61 → ∀ i, i < 12 → i < pern d → ((tsq d (i + 1)).2.2 = 2 * nI (wr d) ↔ i + 1 = pern d) := by decide +kernel
theorem unit_ok : ∀ d, d < 61 → pern d ≠ 0 → (uSeq d (pern d - 1)).2.2.1 = tUx d ∧ (uSeq d (pern d - 1)).2.2.2 = tUy d := by decide +kernel
theorem sq_ok : ∀ d, d < 61 → 2 ≤ d → (nI (wr d) * nI (wr d) = nI d ↔ pern d = 0) := by decide +kernel
theorem per_lt : ∀ d, d < 61 → pern d ≤ 12 := by decide +kernel
theorem gp_lt : ∀ d, d < 61 → gpn d ≤ 39 := by decide +kernel
theorem tab_d (t : Nat → Int32) {d : Nat} (hd : d < 61) : tabF t (nI d) = t d := by
  unfold tabF
  rw [if_neg (nI_pos (by omega)), if_neg (show ¬ (61 : Int32) ≤ nI d from nI_ge hd (by decide)), nI_clamp (by omega)]
theorem climb_keep {ux uy n : Int32} {x y : Int64} (h : (climbF ux uy n x y).1 = 0) : (climbF ux uy n x y).2 = (x, y) := by
  by_cases h1 : ux ≤ 0
  · rw [climbF, if_pos h1]
  · by_cases h2 : x ≤ 1000000000000000 / ux.toInt64
    · by_cases h3 : x * ux.toInt64 + n.toInt64 * y * uy.toInt64 ≤ 1000000000000000
      · rw [climbF, if_neg h1, if_pos h2, if_pos h3] at h
        exact absurd h (show ¬ (1 : Int32) = 0 by decide)
      · rw [climbF, if_neg h1, if_pos h2, if_neg h3]
    · rw [climbF, if_neg h1, if_neg h2]
theorem climb_ok : ∀ d, d < 61 → pern d ≠ 0 → ∀ k, k < 40 → k ≤ gpn d → (climbF (tUx d) (tUy d) (nI d) (pwr d k).1 (pwr d k).2).1 = if k < gpn d then 1 else 0 := by decide +kernel
end
section
abbrev rm_X4_term : Room := ({ frames := 2, cells := 0, slots := 0, locals := 43 } : Room)
set_option maxRecDepth 100000 in
set_option maxHeartbeats 4000000 in
theorem c_X4_term {L : GL} {N : Nat} {ad : Nat → Nat} {G : Nat → va_E} {r rt rp rx ry rg d pl : Nat} {nu wh m q t : Int32} (lt_r : r < N) (lt_rt : rt < N) (gr : G r = .inr (4, [.ref (ad rt), .ref (ad rp), .ref (ad rx), .ref (ad ry), .ref (ad rg)])) (gt : G rt = .inr (6, [.int nu, .int wh, .int m, .int q, .int t])) (h2 : 2 ≤ d) (h60 : d ≤ 60) (hp : pl ≤ 99) : GM L yX4_term cX4_term 4 ((some .int)) rm_X4_term N ad G [.ref (ad r), .int (nI d), .int (nI pl)] (fun vo G' => vo = some (.int ((tsq d pl).2.2)) ∧ Agr [rt] G G') := by
  refine GM.of (own := RX4) (lo := [(0, .ref (ad r)), (1, .int (nI d)), (2, .int (nI pl))]) (by decide +kernel) rfl rfl (Nat.le_of_ble_eq_true rfl) (fun E C hr => ?_)
  have ne_0_1 : r ≠ rt := fun h => by have h9 := gr; rw [h, gt] at h9; cases h9
  have ne_1_0 : rt ≠ r := Ne.symm ne_0_1
  refine G_aload_n C 0 dX4_term_0 rfl rfl ?_
  refine G_get C r lt_r gr rfl inA4 0 (by decide) rfl kf_X4_12 rfl dX4_term_1 ?_
  refine G_iload_n C 1 dX4_term_4 rfl rfl ?_
  refine G_callV C (As := [.int (nI d)]) (rest := []) (c_X6_begin lt_rt gt h2 h60) ca_X6_begin km_X4_34 lt_rt gt rfl rfl rfl rfl (by decide) (Nat.le_of_ble_eq_true rfl) (by decide) dX4_term_5 (fun vv1 gg2 qq3 => ?_)
  obtain ⟨rfl, hh4, aa5⟩ := qq3
  have AA6 : Agr [rt] G gg2 := aa5.wk (by simp)
  refine G_iconst C (v := 0) dX4_term_8 (by decide) ?_
  refine G_istore_n C 3 (lo' := [(3, .int 0), (0, .ref (ad r)), (1, .int (nI d)), (2, .int (nI pl))]) dX4_term_9 rfl (by decide) rfl ?_
  have key10 : ∀ (n : Nat) (i : Nat) (G1 : Nat → va_E) (hf10_rt : G1 rt = .inr (6, [.int (nI d), .int (nI (wr d)), .int ((tsq d i).1), .int ((tsq d i).2.1), .int ((tsq d i).2.2)])) (ha10 : Agr [rt] G G1) (hn : pl - i < n) (hi : i ≤ pl), GW L E N ad G1 0 0 10 [(3, .int (nI i)), (0, .ref (ad r)), (1, .int (nI d)), (2, .int (nI pl))] [] := by
    intro n
    induction n with
    | zero =>
      intro i G1 hf10_rt ha10 hn hi
      exact absurd hn (Nat.not_lt_zero _)
    | succ n ih =>
      intro i G1 hf10_rt ha10 hn hi
      refine G_iload_n C 3 dX4_term_10 rfl rfl ?_
      refine G_iload_n C 2 dX4_term_11 rfl rfl ?_
      refine G_icmp_ge C 34 dX4_term_12 (by decide) (fun c12 => ?_) (fun c12 => ?_)
      · have c12n : pl ≤ i := (cI_le (a := pl) (b := i) rfl rfl (by omega) (by omega)).mp c12
        refine G_aload_n C 0 dX4_term_34 rfl rfl ?_
        refine G_get C r lt_r ((ha10 r (by simp [ne_0_1])).trans gr) rfl inA4 0 (by decide) rfl kf_X4_12 rfl dX4_term_35 ?_
        refine G_get C rt lt_rt hf10_rt rfl inA6 4 (by decide) rfl kf_X4_49 rfl dX4_term_38 ?_
        exact G_zret C hr rfl dX4_term_41 ⟨(by rw [show i = pl by omega]), ha10⟩
      · have c12n : ¬ pl ≤ i := fun z => c12 ((cI_le (a := pl) (b := i) rfl rfl (by omega) (by omega)).mpr z)
        refine G_iload_n C 3 dX4_term_15 rfl rfl ?_
        refine G_bipush C (v := 99) dX4_term_16 (by decide) ?_
        refine G_icmp_ge C 34 dX4_term_18 (by decide) (fun c18 => False.elim (by have := (cI_le (a := 99) (b := i) rfl rfl (by omega) (by omega)).mp c18; omega)) (fun c18 => ?_)
        have c18n : ¬ 99 ≤ i := fun z => c18 ((cI_le (a := 99) (b := i) rfl rfl (by omega) (by omega)).mpr z)
        refine G_aload_n C 0 dX4_term_21 rfl rfl ?_
        refine G_get C r lt_r ((ha10 r (by simp [ne_0_1])).trans gr) rfl inA4 0 (by decide) rfl kf_X4_12 rfl dX4_term_22 ?_
        refine G_callV C (As := []) (rest := []) (c_X6_next lt_rt hf10_rt) ca_X6_next km_X4_53 lt_rt hf10_rt rfl rfl rfl rfl (by decide) (Nat.le_of_ble_eq_true rfl) (by decide) dX4_term_25 (fun vv7 gg8 qq9 => ?_)
        obtain ⟨rfl, hh10, aa11⟩ := qq9
        have AA12 : Agr [rt] G gg8 := ha10.tr aa11 (by simp) (by simp)
        refine G_iinc C (v := nI (i + 1)) (lo' := [(3, .int (nI (i + 1))), (0, .ref (ad r)), (1, .int (nI d)), (2, .int (nI pl))]) dX4_term_28 rfl (nI_add _ _) (by decide) rfl ?_
        refine G_goto C 10 dX4_term_31 (by decide) ?_
        exact ih (i + 1) gg8 hh10 AA12 (by omega) (by omega)
  exact key10 (pl + 1) 0 gg2 hh4 AA6 (by omega) (by omega)

abbrev rm_X4_findUnit : Room := ({ frames := 1, cells := 0, slots := 0, locals := 20 } : Room)
set_option maxRecDepth 100000 in
set_option maxHeartbeats 4000000 in
theorem c_X4_findUnit {L : GL} {N : Nat} {ad : Nat → Nat} {G : Nat → va_E} {r rt rp rx ry rg d : Nat} {fp fx fy fg : Nat → Int32} (lt_r : r < N) (lt_rt : rt < N) (lt_rp : rp < N) (lt_rx : rx < N) (lt_ry : ry < N) (gr : G r = .inr (4, [.ref (ad rt), .ref (ad rp), .ref (ad rx), .ref (ad ry), .ref (ad rg)])) (gt : G rt = .inr (6, [.int (nI d), .int (nI (wr d)), .int ((tsq d 0).1), .int ((tsq d 0).2.1), .int ((tsq d 0).2.2)])) (grp : G rp = .inl (L.ac 0, 61, .inl fp)) (grx : G rx = .inl (L.ac 0, 61, .inl fx)) (gry : G ry = .inl (L.ac 0, 61, .inl fy)) (h2 : 2 ≤ d) (h60 : d ≤ 60) (hs : pern d ≠ 0) (n_rp_rx : rp ≠ rx) (n_rp_ry : rp ≠ ry) (n_rx_ry : rx ≠ ry) : GM L yX4_findUnit cX4_findUnit 9 (none) rm_X4_findUnit N ad G [.ref (ad r), .int (nI d)] (fun vo G' => vo = none ∧ G' rp = .inl (L.ac 0, 61, .inl (upd fp d (tPer d))) ∧ G' rx = .inl (L.ac 0, 61, .inl (upd fx d (tUx d))) ∧ G' ry = .inl (L.ac 0, 61, .inl (upd fy d (tUy d))) ∧ Agr [rt, rp, rx, ry] G G') := by
  refine GM.of (own := RX4) (lo := [(0, .ref (ad r)), (1, .int (nI d))]) (by decide +kernel) rfl rfl (Nat.le_of_ble_eq_true rfl) (fun E C hr => ?_)
  have ne_0_1 : r ≠ rt := fun h => by have h9 := gr; rw [h, gt] at h9; cases h9
  have ne_0_2 : r ≠ rp := fun h => by have h9 := gr; rw [h, grp] at h9; cases h9
  have ne_0_3 : r ≠ rx := fun h => by have h9 := gr; rw [h, grx] at h9; cases h9
  have ne_0_4 : r ≠ ry := fun h => by have h9 := gr; rw [h, gry] at h9; cases h9
  have ne_1_0 : rt ≠ r := Ne.symm ne_0_1
  have ne_1_2 : rt ≠ rp := fun h => by have h9 := gt; rw [h, grp] at h9; cases h9
  have ne_1_3 : rt ≠ rx := fun h => by have h9 := gt; rw [h, grx] at h9; cases h9
  have ne_1_4 : rt ≠ ry := fun h => by have h9 := gt; rw [h, gry] at h9; cases h9
  have ne_2_0 : rp ≠ r := Ne.symm ne_0_2
  have ne_2_1 : rp ≠ rt := Ne.symm ne_1_2
  have ne_3_0 : rx ≠ r := Ne.symm ne_0_3
  have ne_3_1 : rx ≠ rt := Ne.symm ne_1_3
  have ne_4_0 : ry ≠ r := Ne.symm ne_0_4
  have ne_4_1 : ry ≠ rt := Ne.symm ne_1_4
  refine G_iconst C (v := 1) dX4_findUnit_0 (by decide) ?_
  refine G_istore_n C 2 (lo' := [(2, .int 1), (0, .ref (ad r)), (1, .int (nI d))]) dX4_findUnit_1 rfl (by decide) rfl ?_
  refine G_iconst C (v := 0) dX4_findUnit_2 (by decide) ?_
  refine G_istore_n C 3 (lo' := [(3, .int 0), (2, .int 1), (0, .ref (ad r)), (1, .int (nI d))]) dX4_findUnit_3 rfl (by decide) rfl ?_
  refine G_aload_n C 0 dX4_findUnit_4 rfl rfl ?_
  refine G_get C r lt_r gr rfl inA4 0 (by decide) rfl kf_X4_12 rfl dX4_findUnit_5 ?_
  refine G_get C rt lt_rt gt rfl inA6 4 (by decide) rfl kf_X4_49 rfl dX4_findUnit_8 ?_
  refine G_istore C (lo' := [(4, .int ((tsq d 0).2.2)), (3, .int 0), (2, .int 1), (0, .ref (ad r)), (1, .int (nI d))]) dX4_findUnit_11 (by decide) rfl ?_
  refine G_iconst C (v := 1) dX4_findUnit_13 (by decide) ?_
  refine G_istore C (lo' := [(5, .int 1), (4, .int ((tsq d 0).2.2)), (3, .int 0), (2, .int 1), (0, .ref (ad r)), (1, .int (nI d))]) dX4_findUnit_14 (by decide) rfl ?_
  refine G_iconst C (v := 1) dX4_findUnit_16 (by decide) ?_
  refine G_istore C (lo' := [(6, .int 1), (5, .int 1), (4, .int ((tsq d 0).2.2)), (3, .int 0), (2, .int 1), (0, .ref (ad r)), (1, .int (nI d))]) dX4_findUnit_17 (by decide) rfl ?_
  have key19 : ∀ (n : Nat) (i : Nat) (G1 : Nat → va_E) (hf19_rt : G1 rt = .inr (6, [.int (nI d), .int (nI (wr d)), .int ((tsq d i).1), .int ((tsq d i).2.1), .int ((tsq d i).2.2)])) (ha19 : Agr [rt] G G1) (hn : pern d - i < n) (hi : i < pern d), GW L E N ad G1 0 0 19 [(6, .int (nI (i + 1))), (5, .int ((uSeq d i).2.2.2)), (4, .int ((uSeq d i).2.2.1)), (3, .int ((uSeq d i).2.1)), (2, .int ((uSeq d i).1)), (0, .ref (ad r)), (1, .int (nI d))] [] := by
    intro n
    induction n with
    | zero =>
      intro i G1 hf19_rt ha19 hn hi
      exact absurd hn (Nat.not_lt_zero _)
    | succ n ih =>
      intro i G1 hf19_rt ha19 hn hi
      have h12 := per_lt d (by omega)
      have hpe := per_end d (by omega) i (by omega) hi
      refine G_iload C dX4_findUnit_19 rfl ?_
      refine G_bipush C (v := 99) dX4_findUnit_21 (by decide) ?_
      refine G_icmp_gt C 116 dX4_findUnit_23 (by decide) (fun c23 => False.elim (by have := (cI_lt (a := 99) (b := i + 1) rfl rfl (by omega) (by omega)).mp c23; omega)) (fun c23 => ?_)
      have c23n : ¬ 99 < (i + 1) := fun z => c23 ((cI_lt (a := 99) (b := (i + 1)) rfl rfl (by omega) (by omega)).mpr z)
      refine G_aload_n C 0 dX4_findUnit_26 rfl rfl ?_
      refine G_get C r lt_r ((ha19 r (by simp [ne_0_1])).trans gr) rfl inA4 0 (by decide) rfl kf_X4_12 rfl dX4_findUnit_27 ?_
      refine G_callV C (As := []) (rest := []) (c_X6_next lt_rt hf19_rt) ca_X6_next km_X4_53 lt_rt hf19_rt rfl rfl rfl rfl (by decide) (Nat.le_of_ble_eq_true rfl) (by decide) dX4_findUnit_30 (fun vv1 gg2 qq3 => ?_)
      obtain ⟨rfl, hh4, aa5⟩ := qq3
      have AA6 : Agr [rt] G gg2 := ha19.tr aa5 (by simp) (by simp)
      refine G_aload_n C 0 dX4_findUnit_33 rfl rfl ?_
      refine G_get C r lt_r ((aa5 r (by simp [ne_0_1])).trans ((ha19 r (by simp [ne_0_1])).trans gr)) rfl inA4 0 (by decide) rfl kf_X4_12 rfl dX4_findUnit_34 ?_
      refine G_callV C (As := []) (rest := []) (c_X6_endsPeriod lt_rt hh4) ca_X6_endsPeriod km_X4_56 lt_rt hh4 rfl rfl rfl rfl (by decide) (Nat.le_of_ble_eq_true rfl) (by decide) dX4_findUnit_37 (fun vv7 gg8 qq9 => ?_)
      obtain ⟨rfl, rfl⟩ := qq9
      refine G_if_eq C 68 dX4_findUnit_40 (by decide) (fun c40 => ?_) (fun c40 => ?_)
      · refine G_aload_n C 0 dX4_findUnit_68 rfl rfl ?_
        refine G_get C r lt_r ((aa5 r (by simp [ne_0_1])).trans ((ha19 r (by simp [ne_0_1])).trans gr)) rfl inA4 0 (by decide) rfl kf_X4_12 rfl dX4_findUnit_69 ?_
        refine G_get C rt lt_rt hh4 rfl inA6 4 (by decide) rfl kf_X4_49 rfl dX4_findUnit_72 ?_
        refine G_iload C dX4_findUnit_75 rfl ?_
        refine G_imul C dX4_findUnit_77 ?_
        refine G_iload_n C 2 dX4_findUnit_78 rfl rfl ?_
        refine G_iadd C dX4_findUnit_79 ?_
        refine G_istore C (lo' := [(7, .int ((((tnF (nI d) (nI (wr d)) ((tsq d i).1) ((tsq d i).2.1) ((tsq d i).2.2)).2.2) * ((uSeq d i).2.2.1)) + ((uSeq d i).1))), (6, .int (nI (i + 1))), (5, .int ((uSeq d i).2.2.2)), (4, .int ((uSeq d i).2.2.1)), (3, .int ((uSeq d i).2.1)), (2, .int ((uSeq d i).1)), (0, .ref (ad r)), (1, .int (nI d))]) dX4_findUnit_80 (by decide) rfl ?_
        refine G_aload_n C 0 dX4_findUnit_82 rfl rfl ?_
        refine G_get C r lt_r ((aa5 r (by simp [ne_0_1])).trans ((ha19 r (by simp [ne_0_1])).trans gr)) rfl inA4 0 (by decide) rfl kf_X4_12 rfl dX4_findUnit_83 ?_
        refine G_get C rt lt_rt hh4 rfl inA6 4 (by decide) rfl kf_X4_49 rfl dX4_findUnit_86 ?_
        refine G_iload C dX4_findUnit_89 rfl ?_
        refine G_imul C dX4_findUnit_91 ?_
        refine G_iload_n C 3 dX4_findUnit_92 rfl rfl ?_
        refine G_iadd C dX4_findUnit_93 ?_
        refine G_istore C (lo' := [(8, .int ((((tnF (nI d) (nI (wr d)) ((tsq d i).1) ((tsq d i).2.1) ((tsq d i).2.2)).2.2) * ((uSeq d i).2.2.2)) + ((uSeq d i).2.1))), (7, .int ((((tnF (nI d) (nI (wr d)) ((tsq d i).1) ((tsq d i).2.1) ((tsq d i).2.2)).2.2) * ((uSeq d i).2.2.1)) + ((uSeq d i).1))), (6, .int (nI (i + 1))), (5, .int ((uSeq d i).2.2.2)), (4, .int ((uSeq d i).2.2.1)), (3, .int ((uSeq d i).2.1)), (2, .int ((uSeq d i).1)), (0, .ref (ad r)), (1, .int (nI d))]) dX4_findUnit_94 (by decide) rfl ?_
        refine G_iload C dX4_findUnit_96 rfl ?_
        refine G_istore_n C 2 (lo' := [(2, .int ((uSeq d i).2.2.1)), (8, .int ((((tnF (nI d) (nI (wr d)) ((tsq d i).1) ((tsq d i).2.1) ((tsq d i).2.2)).2.2) * ((uSeq d i).2.2.2)) + ((uSeq d i).2.1))), (7, .int ((((tnF (nI d) (nI (wr d)) ((tsq d i).1) ((tsq d i).2.1) ((tsq d i).2.2)).2.2) * ((uSeq d i).2.2.1)) + ((uSeq d i).1))), (6, .int (nI (i + 1))), (5, .int ((uSeq d i).2.2.2)), (4, .int ((uSeq d i).2.2.1)), (3, .int ((uSeq d i).2.1)), (0, .ref (ad r)), (1, .int (nI d))]) dX4_findUnit_98 rfl (by decide) rfl ?_
        refine G_iload C dX4_findUnit_99 rfl ?_
        refine G_istore_n C 3 (lo' := [(3, .int ((uSeq d i).2.2.2)), (2, .int ((uSeq d i).2.2.1)), (8, .int ((((tnF (nI d) (nI (wr d)) ((tsq d i).1) ((tsq d i).2.1) ((tsq d i).2.2)).2.2) * ((uSeq d i).2.2.2)) + ((uSeq d i).2.1))), (7, .int ((((tnF (nI d) (nI (wr d)) ((tsq d i).1) ((tsq d i).2.1) ((tsq d i).2.2)).2.2) * ((uSeq d i).2.2.1)) + ((uSeq d i).1))), (6, .int (nI (i + 1))), (5, .int ((uSeq d i).2.2.2)), (4, .int ((uSeq d i).2.2.1)), (0, .ref (ad r)), (1, .int (nI d))]) dX4_findUnit_101 rfl (by decide) rfl ?_
        refine G_iload C dX4_findUnit_102 rfl ?_
        refine G_istore C (lo' := [(4, .int ((((tnF (nI d) (nI (wr d)) ((tsq d i).1) ((tsq d i).2.1) ((tsq d i).2.2)).2.2) * ((uSeq d i).2.2.1)) + ((uSeq d i).1))), (3, .int ((uSeq d i).2.2.2)), (2, .int ((uSeq d i).2.2.1)), (8, .int ((((tnF (nI d) (nI (wr d)) ((tsq d i).1) ((tsq d i).2.1) ((tsq d i).2.2)).2.2) * ((uSeq d i).2.2.2)) + ((uSeq d i).2.1))), (7, .int ((((tnF (nI d) (nI (wr d)) ((tsq d i).1) ((tsq d i).2.1) ((tsq d i).2.2)).2.2) * ((uSeq d i).2.2.1)) + ((uSeq d i).1))), (6, .int (nI (i + 1))), (5, .int ((uSeq d i).2.2.2)), (0, .ref (ad r)), (1, .int (nI d))]) dX4_findUnit_104 (by decide) rfl ?_
        refine G_iload C dX4_findUnit_106 rfl ?_
        refine G_istore C (lo' := [(5, .int ((((tnF (nI d) (nI (wr d)) ((tsq d i).1) ((tsq d i).2.1) ((tsq d i).2.2)).2.2) * ((uSeq d i).2.2.2)) + ((uSeq d i).2.1))), (4, .int ((((tnF (nI d) (nI (wr d)) ((tsq d i).1) ((tsq d i).2.1) ((tsq d i).2.2)).2.2) * ((uSeq d i).2.2.1)) + ((uSeq d i).1))), (3, .int ((uSeq d i).2.2.2)), (2, .int ((uSeq d i).2.2.1)), (8, .int ((((tnF (nI d) (nI (wr d)) ((tsq d i).1) ((tsq d i).2.1) ((tsq d i).2.2)).2.2) * ((uSeq d i).2.2.2)) + ((uSeq d i).2.1))), (7, .int ((((tnF (nI d) (nI (wr d)) ((tsq d i).1) ((tsq d i).2.1) ((tsq d i).2.2)).2.2) * ((uSeq d i).2.2.1)) + ((uSeq d i).1))), (6, .int (nI (i + 1))), (0, .ref (ad r)), (1, .int (nI d))]) dX4_findUnit_108 (by decide) rfl ?_
        refine G_iinc C (v := nI ((i + 1) + 1)) (lo' := [(6, .int (nI ((i + 1) + 1))), (5, .int ((((tnF (nI d) (nI (wr d)) ((tsq d i).1) ((tsq d i).2.1) ((tsq d i).2.2)).2.2) * ((uSeq d i).2.2.2)) + ((uSeq d i).2.1))), (4, .int ((((tnF (nI d) (nI (wr d)) ((tsq d i).1) ((tsq d i).2.1) ((tsq d i).2.2)).2.2) * ((uSeq d i).2.2.1)) + ((uSeq d i).1))), (3, .int ((uSeq d i).2.2.2)), (2, .int ((uSeq d i).2.2.1)), (8, .int ((((tnF (nI d) (nI (wr d)) ((tsq d i).1) ((tsq d i).2.1) ((tsq d i).2.2)).2.2) * ((uSeq d i).2.2.2)) + ((uSeq d i).2.1))), (7, .int ((((tnF (nI d) (nI (wr d)) ((tsq d i).1) ((tsq d i).2.1) ((tsq d i).2.2)).2.2) * ((uSeq d i).2.2.1)) + ((uSeq d i).1))), (0, .ref (ad r)), (1, .int (nI d))]) dX4_findUnit_110 rfl (nI_add _ _) (by decide) rfl ?_
        refine G_goto C 19 dX4_findUnit_113 (by decide) ?_
        refine GW.pick [0, 1, 2, 3, 4, 7, 8] [(6, .int (nI ((i + 1) + 1))), (5, .int ((((tnF (nI d) (nI (wr d)) ((tsq d i).1) ((tsq d i).2.1) ((tsq d i).2.2)).2.2) * ((uSeq d i).2.2.2)) + ((uSeq d i).2.1))), (4, .int ((((tnF (nI d) (nI (wr d)) ((tsq d i).1) ((tsq d i).2.1) ((tsq d i).2.2)).2.2) * ((uSeq d i).2.2.1)) + ((uSeq d i).1))), (3, .int ((uSeq d i).2.2.2)), (2, .int ((uSeq d i).2.2.1)), (0, .ref (ad r)), (1, .int (nI d))] rfl ?_
        exact ih (i + 1) gg2 hh4 AA6 (by have : i + 1 ≠ pern d := fun z => absurd (Eq.trans (Eq.symm (if_pos (hpe.mpr z))) c40 : (1 : Int32) = 0) (by decide); omega) (by have : i + 1 ≠ pern d := fun z => absurd (Eq.trans (Eq.symm (if_pos (hpe.mpr z))) c40 : (1 : Int32) = 0) (by decide); omega)
      · have hq : i + 1 = pern d := Classical.byContradiction fun z => c40 (if_neg (fun y => z (hpe.mp y)))
        have hi1 : pern d - 1 = i := by omega
        refine G_aload_n C 0 dX4_findUnit_43 rfl rfl ?_
        refine G_get C r lt_r ((aa5 r (by simp [ne_0_1])).trans ((ha19 r (by simp [ne_0_1])).trans gr)) rfl inA4 1 (by decide) rfl kf_X4_18 rfl dX4_findUnit_44 ?_
        refine G_iload_n C 1 dX4_findUnit_47 rfl rfl ?_
        refine G_iload C dX4_findUnit_48 rfl ?_
        refine G_iastN C rp lt_rp d ((aa5 rp (by simp [ne_2_1])).trans ((ha19 rp (by simp [ne_2_1])).trans grp)) rfl (by omega) (by omega) dX4_findUnit_50 (fun gg10 hh11 aa12 => ?_)
        have AA13 : Agr [rt, rp] G gg10 := AA6.tr aa12 (by simp) (by simp)
        refine G_aload_n C 0 dX4_findUnit_51 rfl rfl ?_
        refine G_get C r lt_r ((aa12 r (by simp [ne_0_2])).trans ((aa5 r (by simp [ne_0_1])).trans ((ha19 r (by simp [ne_0_1])).trans gr))) rfl inA4 2 (by decide) rfl kf_X4_22 rfl dX4_findUnit_52 ?_
        refine G_iload_n C 1 dX4_findUnit_55 rfl rfl ?_
        refine G_iload C dX4_findUnit_56 rfl ?_
        refine G_iastN C rx lt_rx d ((aa12 rx (by simp [(Ne.symm n_rp_rx)])).trans ((aa5 rx (by simp [ne_3_1])).trans ((ha19 rx (by simp [ne_3_1])).trans grx))) rfl (by omega) (by omega) dX4_findUnit_58 (fun gg14 hh15 aa16 => ?_)
        have AA17 : Agr [rt, rp, rx] G gg14 := AA13.tr aa16 (by simp) (by simp)
        refine G_aload_n C 0 dX4_findUnit_59 rfl rfl ?_
        refine G_get C r lt_r ((aa16 r (by simp [ne_0_3])).trans ((aa12 r (by simp [ne_0_2])).trans ((aa5 r (by simp [ne_0_1])).trans ((ha19 r (by simp [ne_0_1])).trans gr)))) rfl inA4 3 (by decide) rfl kf_X4_25 rfl dX4_findUnit_60 ?_
        refine G_iload_n C 1 dX4_findUnit_63 rfl rfl ?_
        refine G_iload C dX4_findUnit_64 rfl ?_
        refine G_iastN C ry lt_ry d ((aa16 ry (by simp [(Ne.symm n_rx_ry)])).trans ((aa12 ry (by simp [(Ne.symm n_rp_ry)])).trans ((aa5 ry (by simp [ne_4_1])).trans ((ha19 ry (by simp [ne_4_1])).trans gry)))) rfl (by omega) (by omega) dX4_findUnit_66 (fun gg18 hh19 aa20 => ?_)
        have AA21 : Agr [rt, rp, rx, ry] G gg18 := AA17.tr aa20 (by simp) (by simp)
        exact G_vret C hr dX4_findUnit_67 ⟨rfl, (by rw [((aa20 rp (by simp [n_rp_ry])).trans ((aa16 rp (by simp [n_rp_rx])).trans hh11)), hq]; rfl), (by rw [((aa20 rx (by simp [n_rx_ry])).trans hh15), ← (unit_ok d (by omega) hs).1, hi1]), (by rw [hh19, ← (unit_ok d (by omega) hs).2, hi1]), AA21⟩
  exact key19 (pern d + 1) 0 G gt Agr.rf (by omega) (by omega)

abbrev rm_X4_findGreatestPower : Room := ({ frames := 2, cells := 0, slots := 0, locals := 45 } : Room)
set_option maxRecDepth 100000 in
set_option maxHeartbeats 4000000 in
theorem c_X4_findGreatestPower {L : GL} {N : Nat} {ad : Nat → Nat} {G : Nat → va_E} {r p rt rp rx ry rg d : Nat} {fx fy fg : Nat → Int32} {a1 a2 a3 : Int32} {a4 a5 : Int64} (lt_r : r < N) (lt_rx : rx < N) (lt_ry : ry < N) (lt_rg : rg < N) (lt_p : p < N) (gr : G r = .inr (4, [.ref (ad rt), .ref (ad rp), .ref (ad rx), .ref (ad ry), .ref (ad rg)])) (grx : G rx = .inl (L.ac 0, 61, .inl fx)) (gry : G ry = .inl (L.ac 0, 61, .inl fy)) (grg : G rg = .inl (L.ac 0, 61, .inl fg)) (gp : G p = .inr (1, [.int a1, .int a2, .int a3, .long a4, .long a5])) (h60 : d ≤ 60) (hs : pern d ≠ 0) (hx : fx d = tUx d) (hy : fy d = tUy d) (hg : fg d = 0) (n_rx_ry : rx ≠ ry) (n_rx_rg : rx ≠ rg) (n_ry_rg : ry ≠ rg) : GM L yX4_findGreatestPower cX4_findGreatestPower 4 (none) rm_X4_findGreatestPower N ad G [.ref (ad r), .int (nI d), .ref (ad p)] (fun vo G' => vo = none ∧ G' rg = .inl (L.ac 0, 61, .inl (upd fg d (tGp d))) ∧ G' p = .inr (1, [.int (tUx d), .int (tUy d), .int (nI d), .long ((pwr d (gpn d)).1), .long ((pwr d (gpn d)).2)]) ∧ Agr [p, rg] G G') := by
  refine GM.of (own := RX4) (lo := [(0, .ref (ad r)), (1, .int (nI d)), (2, .ref (ad p))]) (by decide +kernel) rfl rfl (Nat.le_of_ble_eq_true rfl) (fun E C hr => ?_)
  have ne_0_1 : r ≠ rx := fun h => by have h9 := gr; rw [h, grx] at h9; cases h9
  have ne_0_2 : r ≠ ry := fun h => by have h9 := gr; rw [h, gry] at h9; cases h9
  have ne_0_3 : r ≠ rg := fun h => by have h9 := gr; rw [h, grg] at h9; cases h9
  have ne_0_4 : r ≠ p := fun h => by have h9 := gr; rw [h, gp] at h9; cases h9
  have ne_1_0 : rx ≠ r := Ne.symm ne_0_1
  have ne_1_4 : rx ≠ p := fun h => by have h9 := grx; rw [h, gp] at h9; cases h9
  have ne_2_0 : ry ≠ r := Ne.symm ne_0_2
  have ne_2_4 : ry ≠ p := fun h => by have h9 := gry; rw [h, gp] at h9; cases h9
  have ne_3_0 : rg ≠ r := Ne.symm ne_0_3
  have ne_3_4 : rg ≠ p := fun h => by have h9 := grg; rw [h, gp] at h9; cases h9
  have ne_4_0 : p ≠ r := Ne.symm ne_0_4
  have ne_4_1 : p ≠ rx := Ne.symm ne_1_4
  have ne_4_2 : p ≠ ry := Ne.symm ne_2_4
  have ne_4_3 : p ≠ rg := Ne.symm ne_3_4
  refine G_aload_n C 0 dX4_findGreatestPower_0 rfl rfl ?_
  refine G_aload_n C 2 dX4_findGreatestPower_1 rfl rfl ?_
  refine G_iload_n C 1 dX4_findGreatestPower_2 rfl rfl ?_
  refine G_callV C (As := [.ref (ad p), .int (nI d)]) (rest := []) (c_X4_begin lt_r lt_rx lt_ry lt_p gr grx gry gp) ca_X4_begin km_X4_59 lt_r gr rfl rfl rfl rfl (by decide) (Nat.le_of_ble_eq_true rfl) (by decide) dX4_findGreatestPower_3 (fun vv1 gg2 qq3 => ?_)
  obtain ⟨rfl, hh4, aa5⟩ := qq3
  have AA6 : Agr [p] G gg2 := aa5.wk (by simp)
  rw [tab_d fx (by omega), tab_d fy (by omega), hx, hy] at hh4
  refine GW.ren rg lt_rg (t0 := 0) (upd fg d (nI 0)) ((aa5 rg (by simp [ne_3_4])).trans grg) (fun j _ => by by_cases h : j = d <;> simp [upd, h, hg, nI_0]) (fun gg7 hh8 aa9 => ?_)
  have AA10 : Agr [p, rg] G gg7 := AA6.tr aa9 (by simp) (by simp)
  refine G_iconst C (v := 1) dX4_findGreatestPower_6 (by decide) ?_
  refine G_istore_n C 3 (lo' := [(3, .int 1), (0, .ref (ad r)), (1, .int (nI d)), (2, .ref (ad p))]) dX4_findGreatestPower_7 rfl (by decide) rfl ?_
  have key8 : ∀ (n : Nat) (i : Nat) (G1 : Nat → va_E) (hf8_p : G1 p = .inr (1, [.int (tUx d), .int (tUy d), .int (nI d), .long ((pwr d i).1), .long ((pwr d i).2)])) (hf8_rg : G1 rg = .inl (L.ac 0, 61, .inl (upd fg d (nI i)))) (ha8 : Agr [p, rg] G G1) (hn : gpn d - i < n) (hi : i ≤ gpn d), GW L E N ad G1 0 0 8 [(3, .int (nI (i + 1))), (0, .ref (ad r)), (1, .int (nI d)), (2, .ref (ad p))] [] := by
    intro n
    induction n with
    | zero =>
      intro i G1 hf8_p hf8_rg ha8 hn hi
      exact absurd hn (Nat.not_lt_zero _)
    | succ n ih =>
      intro i G1 hf8_p hf8_rg ha8 hn hi
      have h39 := gp_lt d (by omega)
      have hck := climb_ok d (by omega) hs i (by omega) hi
      refine G_iload_n C 3 dX4_findGreatestPower_8 rfl rfl ?_
      refine G_ldc C dX4_findGreatestPower_9 ki_X4_62 ?_
      refine G_icmp_ge C 34 dX4_findGreatestPower_11 (by decide) (fun c11 => False.elim (by have := (cI_le (a := 1000000) (b := i + 1) rfl rfl (by omega) (by omega)).mp c11; omega)) (fun c11 => ?_)
      have c11n : ¬ 1000000 ≤ (i + 1) := fun z => c11 ((cI_le (a := 1000000) (b := (i + 1)) rfl rfl (by omega) (by omega)).mpr z)
      refine G_aload_n C 2 dX4_findGreatestPower_14 rfl rfl ?_
      refine G_callV C (As := []) (rest := []) (c_X1_climb lt_p hf8_p) ca_X1_climb km_X4_63 lt_p hf8_p rfl rfl rfl rfl (by decide) (Nat.le_of_ble_eq_true rfl) (by decide) dX4_findGreatestPower_15 (fun vv11 gg12 qq13 => ?_)
      obtain ⟨rfl, hh14, aa15⟩ := qq13
      have AA16 : Agr [p, rg] G gg12 := ha8.tr aa15 (by simp) (by simp)
      refine G_if_eq C 34 dX4_findGreatestPower_18 (by decide) (fun c18 => ?_) (fun c18 => ?_)
      · exact G_vret C hr dX4_findGreatestPower_34 ⟨rfl, (by have e : i = gpn d := Classical.byContradiction fun z => absurd (c18.symm.trans (hck.trans (if_pos (by omega)))) (by decide); rw [((aa15 rg (by simp [ne_3_4])).trans hf8_rg), e]; rfl), (by have e : i = gpn d := Classical.byContradiction fun z => absurd (c18.symm.trans (hck.trans (if_pos (by omega)))) (by decide); rw [hh14, climb_keep c18, e]), AA16⟩
      · refine G_aload_n C 0 dX4_findGreatestPower_21 rfl rfl ?_
        refine G_get C r lt_r ((aa15 r (by simp [ne_0_4])).trans ((ha8 r (by simp [ne_0_4, ne_0_3])).trans gr)) rfl inA4 4 (by decide) rfl kf_X4_28 rfl dX4_findGreatestPower_22 ?_
        refine G_iload_n C 1 dX4_findGreatestPower_25 rfl rfl ?_
        refine G_iload_n C 3 dX4_findGreatestPower_26 rfl rfl ?_
        refine G_iastN C rg lt_rg d ((aa15 rg (by simp [ne_3_4])).trans hf8_rg) rfl (by omega) (by omega) dX4_findGreatestPower_27 (fun gg17 hh18 aa19 => ?_)
        have AA20 : Agr [p, rg] G gg17 := AA16.tr aa19 (by simp) (by simp)
        refine GW.ren rg lt_rg (t0 := 0) (upd fg d (nI (i + 1))) hh18 (fun j _ => by by_cases h : j = d <;> simp [upd, h]) (fun gg21 hh22 aa23 => ?_)
        have AA24 : Agr [p, rg] G gg21 := AA20.tr aa23 (by simp) (by simp)
        refine G_iinc C (v := nI ((i + 1) + 1)) (lo' := [(3, .int (nI ((i + 1) + 1))), (0, .ref (ad r)), (1, .int (nI d)), (2, .ref (ad p))]) dX4_findGreatestPower_28 rfl (nI_add _ _) (by decide) rfl ?_
        refine G_goto C 8 dX4_findGreatestPower_31 (by decide) ?_
        exact ih (i + 1) gg21 ((aa23 p (by simp [ne_4_3])).trans ((aa19 p (by simp [ne_4_3])).trans hh14)) hh22 AA24 (by have : i ≠ gpn d := fun z => c18 (by rw [hck, if_neg (by omega)]); omega) (by have : i ≠ gpn d := fun z => c18 (by rw [hck, if_neg (by omega)]); omega)
  exact key8 (gpn d + 1) 0 gg7 ((aa9 p (by simp [ne_4_3])).trans hh4) hh8 AA10 (by omega) (by omega)
end
