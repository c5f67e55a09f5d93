-- ===== PART A: goes FIRST, ahead of the names: the tables' words, and 'selects' of the private methods out of them =====
/-- a private method of a class that the tables say can be made, by its rows of tables_1 -/
def lw_okq (q : MethodName × Nat) : Prop := (q.1.cls ≠ "java/lang/invoke/MethodHandle" ∧ q.1.cls ≠ "java/lang/invoke/VarHandle") ∧ Cond.instantiable q.1.cls q.2 ∈ tables_1 ∧ Cond.privateMethod q.1 ∈ tables_1 ∧ Cond.instanceMethod q.1 ∈ tables_1
theorem lw_p0 : lw_okq (⟨"SandLedger", "found", "(I)I"⟩, 8) := ⟨⟨by decide +kernel, by decide +kernel⟩, List.mem_of_getElem? (i := 15) (by decide +kernel), List.mem_of_getElem? (i := 158) (by decide +kernel), List.mem_of_getElem? (i := 159) (by decide +kernel)⟩
theorem lw_p1 : lw_okq (⟨"SandLedger", "isVisitor", "(I)Z"⟩, 8) := ⟨⟨by decide +kernel, by decide +kernel⟩, List.mem_of_getElem? (i := 15) (by decide +kernel), List.mem_of_getElem? (i := 211) (by decide +kernel), List.mem_of_getElem? (i := 212) (by decide +kernel)⟩
theorem lw_p2 : lw_okq (⟨"SandLedger", "waitFor", "(II)I"⟩, 8) := ⟨⟨by decide +kernel, by decide +kernel⟩, List.mem_of_getElem? (i := 15) (by decide +kernel), List.mem_of_getElem? (i := 341) (by decide +kernel), List.mem_of_getElem? (i := 342) (by decide +kernel)⟩
theorem lw_p3 : lw_okq (⟨"SandLedger", "isGranted", "(II)Z"⟩, 8) := ⟨⟨by decide +kernel, by decide +kernel⟩, List.mem_of_getElem? (i := 15) (by decide +kernel), List.mem_of_getElem? (i := 345) (by decide +kernel), List.mem_of_getElem? (i := 346) (by decide +kernel)⟩
theorem lw_p4 : lw_okq (⟨"SandLedger", "forLongestRoad", "(III)I"⟩, 8) := ⟨⟨by decide +kernel, by decide +kernel⟩, List.mem_of_getElem? (i := 15) (by decide +kernel), List.mem_of_getElem? (i := 365) (by decide +kernel), List.mem_of_getElem? (i := 366) (by decide +kernel)⟩
theorem lw_p5 : lw_okq (⟨"SandLedger", "tryTrait", "(IIII)V"⟩, 8) := ⟨⟨by decide +kernel, by decide +kernel⟩, List.mem_of_getElem? (i := 15) (by decide +kernel), List.mem_of_getElem? (i := 369) (by decide +kernel), List.mem_of_getElem? (i := 370) (by decide +kernel)⟩
theorem lw_p6 : lw_okq (⟨"SandLedger", "isUpWithout", "(III)Z"⟩, 8) := ⟨⟨by decide +kernel, by decide +kernel⟩, List.mem_of_getElem? (i := 15) (by decide +kernel), List.mem_of_getElem? (i := 399) (by decide +kernel), List.mem_of_getElem? (i := 400) (by decide +kernel)⟩
theorem lw_p7 : lw_okq (⟨"SandLedger", "toldBy", "(IIII)I"⟩, 8) := ⟨⟨by decide +kernel, by decide +kernel⟩, List.mem_of_getElem? (i := 15) (by decide +kernel), List.mem_of_getElem? (i := 407) (by decide +kernel), List.mem_of_getElem? (i := 408) (by decide +kernel)⟩
theorem lw_p8 : lw_okq (⟨"SandLedger", "findingsInAll", "()I"⟩, 8) := ⟨⟨by decide +kernel, by decide +kernel⟩, List.mem_of_getElem? (i := 15) (by decide +kernel), List.mem_of_getElem? (i := 656) (by decide +kernel), List.mem_of_getElem? (i := 657) (by decide +kernel)⟩
theorem lw_p9 : lw_okq (⟨"SandLedgerModel", "no", "(I)I"⟩, 20) := ⟨⟨by decide +kernel, by decide +kernel⟩, List.mem_of_getElem? (i := 660) (by decide +kernel), List.mem_of_getElem? (i := 738) (by decide +kernel), List.mem_of_getElem? (i := 739) (by decide +kernel)⟩
theorem lw_p10 : lw_okq (⟨"SandLedgerModel", "spanOf", "(I)I"⟩, 20) := ⟨⟨by decide +kernel, by decide +kernel⟩, List.mem_of_getElem? (i := 660) (by decide +kernel), List.mem_of_getElem? (i := 747) (by decide +kernel), List.mem_of_getElem? (i := 748) (by decide +kernel)⟩
theorem lw_p11 : lw_okq (⟨"SandLedgerModel", "get", "(II)I"⟩, 20) := ⟨⟨by decide +kernel, by decide +kernel⟩, List.mem_of_getElem? (i := 660) (by decide +kernel), List.mem_of_getElem? (i := 751) (by decide +kernel), List.mem_of_getElem? (i := 752) (by decide +kernel)⟩
theorem lw_p12 : lw_okq (⟨"SandLedgerModel", "adds", "(I)V"⟩, 20) := ⟨⟨by decide +kernel, by decide +kernel⟩, List.mem_of_getElem? (i := 660) (by decide +kernel), List.mem_of_getElem? (i := 763) (by decide +kernel), List.mem_of_getElem? (i := 764) (by decide +kernel)⟩
theorem lw_p13 : lw_okq (⟨"SandLedgerModel", "puts", "(III)V"⟩, 20) := ⟨⟨by decide +kernel, by decide +kernel⟩, List.mem_of_getElem? (i := 660) (by decide +kernel), List.mem_of_getElem? (i := 767) (by decide +kernel), List.mem_of_getElem? (i := 768) (by decide +kernel)⟩
theorem lw_p14 : lw_okq (⟨"SandLedgerModel", "isVisitor", "(I)Z"⟩, 20) := ⟨⟨by decide +kernel, by decide +kernel⟩, List.mem_of_getElem? (i := 660) (by decide +kernel), List.mem_of_getElem? (i := 775) (by decide +kernel), List.mem_of_getElem? (i := 776) (by decide +kernel)⟩
theorem lw_p15 : lw_okq (⟨"SandLedgerModel", "raisesOf", "(I)I"⟩, 20) := ⟨⟨by decide +kernel, by decide +kernel⟩, List.mem_of_getElem? (i := 660) (by decide +kernel), List.mem_of_getElem? (i := 779) (by decide +kernel), List.mem_of_getElem? (i := 780) (by decide +kernel)⟩
def lw_privs_1 : List (MethodName × Nat) := [(⟨"SandLedger", "found", "(I)I"⟩, 8), (⟨"SandLedger", "isVisitor", "(I)Z"⟩, 8), (⟨"SandLedger", "waitFor", "(II)I"⟩, 8), (⟨"SandLedger", "isGranted", "(II)Z"⟩, 8), (⟨"SandLedger", "forLongestRoad", "(III)I"⟩, 8), (⟨"SandLedger", "tryTrait", "(IIII)V"⟩, 8), (⟨"SandLedger", "isUpWithout", "(III)Z"⟩, 8), (⟨"SandLedger", "toldBy", "(IIII)I"⟩, 8), (⟨"SandLedger", "findingsInAll", "()I"⟩, 8), (⟨"SandLedgerModel", "no", "(I)I"⟩, 20), (⟨"SandLedgerModel", "spanOf", "(I)I"⟩, 20), (⟨"SandLedgerModel", "get", "(II)I"⟩, 20), (⟨"SandLedgerModel", "adds", "(I)V"⟩, 20), (⟨"SandLedgerModel", "puts", "(III)V"⟩, 20), (⟨"SandLedgerModel", "isVisitor", "(I)Z"⟩, 20), (⟨"SandLedgerModel", "raisesOf", "(I)I"⟩, 20)]
theorem lw_r1 : ∀ q ∈ lw_privs_1, lw_okq q := List.forall_mem_cons.mpr ⟨lw_p0, List.forall_mem_cons.mpr ⟨lw_p1, List.forall_mem_cons.mpr ⟨lw_p2, List.forall_mem_cons.mpr ⟨lw_p3, List.forall_mem_cons.mpr ⟨lw_p4, List.forall_mem_cons.mpr ⟨lw_p5, List.forall_mem_cons.mpr ⟨lw_p6, List.forall_mem_cons.mpr ⟨lw_p7, List.forall_mem_cons.mpr ⟨lw_p8, List.forall_mem_cons.mpr ⟨lw_p9, List.forall_mem_cons.mpr ⟨lw_p10, List.forall_mem_cons.mpr ⟨lw_p11, List.forall_mem_cons.mpr ⟨lw_p12, List.forall_mem_cons.mpr ⟨lw_p13, List.forall_mem_cons.mpr ⟨lw_p14, List.forall_mem_cons.mpr ⟨lw_p15, fun _ h => absurd h List.not_mem_nil⟩⟩⟩⟩⟩⟩⟩⟩⟩⟩⟩⟩⟩⟩⟩⟩
theorem lw_p16 : lw_okq (⟨"SandLedgerModel", "movesOf", "(I)I"⟩, 20) := ⟨⟨by decide +kernel, by decide +kernel⟩, List.mem_of_getElem? (i := 660) (by decide +kernel), List.mem_of_getElem? (i := 786) (by decide +kernel), List.mem_of_getElem? (i := 787) (by decide +kernel)⟩
theorem lw_p17 : lw_okq (⟨"SandLedgerModel", "standsNow", "(I)Z"⟩, 20) := ⟨⟨by decide +kernel, by decide +kernel⟩, List.mem_of_getElem? (i := 660) (by decide +kernel), List.mem_of_getElem? (i := 790) (by decide +kernel), List.mem_of_getElem? (i := 791) (by decide +kernel)⟩
theorem lw_p18 : lw_okq (⟨"SandLedgerModel", "comes", "(I)I"⟩, 20) := ⟨⟨by decide +kernel, by decide +kernel⟩, List.mem_of_getElem? (i := 660) (by decide +kernel), List.mem_of_getElem? (i := 808) (by decide +kernel), List.mem_of_getElem? (i := 809) (by decide +kernel)⟩
theorem lw_p19 : lw_okq (⟨"SandLedgerModel", "getsAt", "(III)I"⟩, 20) := ⟨⟨by decide +kernel, by decide +kernel⟩, List.mem_of_getElem? (i := 660) (by decide +kernel), List.mem_of_getElem? (i := 812) (by decide +kernel), List.mem_of_getElem? (i := 813) (by decide +kernel)⟩
theorem lw_p20 : lw_okq (⟨"SandLedgerModel", "goes", "(I)V"⟩, 20) := ⟨⟨by decide +kernel, by decide +kernel⟩, List.mem_of_getElem? (i := 660) (by decide +kernel), List.mem_of_getElem? (i := 821) (by decide +kernel), List.mem_of_getElem? (i := 822) (by decide +kernel)⟩
theorem lw_p21 : lw_okq (⟨"SandLedgerModel", "day", "()V"⟩, 20) := ⟨⟨by decide +kernel, by decide +kernel⟩, List.mem_of_getElem? (i := 660) (by decide +kernel), List.mem_of_getElem? (i := 825) (by decide +kernel), List.mem_of_getElem? (i := 826) (by decide +kernel)⟩
theorem lw_p22 : lw_okq (⟨"SandLedgerModel", "isDue", "(I)Z"⟩, 20) := ⟨⟨by decide +kernel, by decide +kernel⟩, List.mem_of_getElem? (i := 660) (by decide +kernel), List.mem_of_getElem? (i := 829) (by decide +kernel), List.mem_of_getElem? (i := 830) (by decide +kernel)⟩
theorem lw_p23 : lw_okq (⟨"SandLedgerModel", "slides", "(I)V"⟩, 20) := ⟨⟨by decide +kernel, by decide +kernel⟩, List.mem_of_getElem? (i := 660) (by decide +kernel), List.mem_of_getElem? (i := 833) (by decide +kernel), List.mem_of_getElem? (i := 834) (by decide +kernel)⟩
theorem lw_p24 : lw_okq (⟨"SandLedgerModel", "roadNow", "()I"⟩, 20) := ⟨⟨by decide +kernel, by decide +kernel⟩, List.mem_of_getElem? (i := 660) (by decide +kernel), List.mem_of_getElem? (i := 837) (by decide +kernel), List.mem_of_getElem? (i := 838) (by decide +kernel)⟩
theorem lw_p25 : lw_okq (⟨"SandLedgerModel", "sands", "()I"⟩, 20) := ⟨⟨by decide +kernel, by decide +kernel⟩, List.mem_of_getElem? (i := 660) (by decide +kernel), List.mem_of_getElem? (i := 845) (by decide +kernel), List.mem_of_getElem? (i := 846) (by decide +kernel)⟩
theorem lw_p26 : lw_okq (⟨"SandLedgerModel", "setOf", "(Z)I"⟩, 20) := ⟨⟨by decide +kernel, by decide +kernel⟩, List.mem_of_getElem? (i := 660) (by decide +kernel), List.mem_of_getElem? (i := 849) (by decide +kernel), List.mem_of_getElem? (i := 850) (by decide +kernel)⟩
theorem lw_p27 : lw_okq (⟨"SandLedgerModel", "highest", "()I"⟩, 20) := ⟨⟨by decide +kernel, by decide +kernel⟩, List.mem_of_getElem? (i := 660) (by decide +kernel), List.mem_of_getElem? (i := 853) (by decide +kernel), List.mem_of_getElem? (i := 854) (by decide +kernel)⟩
theorem lw_p28 : lw_okq (⟨"SandLedgerModel", "builds", "()I"⟩, 20) := ⟨⟨by decide +kernel, by decide +kernel⟩, List.mem_of_getElem? (i := 660) (by decide +kernel), List.mem_of_getElem? (i := 857) (by decide +kernel), List.mem_of_getElem? (i := 858) (by decide +kernel)⟩
theorem lw_p29 : lw_okq (⟨"SandLedgerModel", "thenAt", "(II)I"⟩, 20) := ⟨⟨by decide +kernel, by decide +kernel⟩, List.mem_of_getElem? (i := 660) (by decide +kernel), List.mem_of_getElem? (i := 865) (by decide +kernel), List.mem_of_getElem? (i := 866) (by decide +kernel)⟩
theorem lw_p30 : lw_okq (⟨"SandLedgerModel", "setsAside", "()V"⟩, 20) := ⟨⟨by decide +kernel, by decide +kernel⟩, List.mem_of_getElem? (i := 660) (by decide +kernel), List.mem_of_getElem? (i := 869) (by decide +kernel), List.mem_of_getElem? (i := 870) (by decide +kernel)⟩
theorem lw_p31 : lw_okq (⟨"SandLedgerModel", "laysBack", "()V"⟩, 20) := ⟨⟨by decide +kernel, by decide +kernel⟩, List.mem_of_getElem? (i := 660) (by decide +kernel), List.mem_of_getElem? (i := 873) (by decide +kernel), List.mem_of_getElem? (i := 874) (by decide +kernel)⟩
def lw_privs_2 : List (MethodName × Nat) := [(⟨"SandLedgerModel", "movesOf", "(I)I"⟩, 20), (⟨"SandLedgerModel", "standsNow", "(I)Z"⟩, 20), (⟨"SandLedgerModel", "comes", "(I)I"⟩, 20), (⟨"SandLedgerModel", "getsAt", "(III)I"⟩, 20), (⟨"SandLedgerModel", "goes", "(I)V"⟩, 20), (⟨"SandLedgerModel", "day", "()V"⟩, 20), (⟨"SandLedgerModel", "isDue", "(I)Z"⟩, 20), (⟨"SandLedgerModel", "slides", "(I)V"⟩, 20), (⟨"SandLedgerModel", "roadNow", "()I"⟩, 20), (⟨"SandLedgerModel", "sands", "()I"⟩, 20), (⟨"SandLedgerModel", "setOf", "(Z)I"⟩, 20), (⟨"SandLedgerModel", "highest", "()I"⟩, 20), (⟨"SandLedgerModel", "builds", "()I"⟩, 20), (⟨"SandLedgerModel", "thenAt", "(II)I"⟩, 20), (⟨"SandLedgerModel", "setsAside", "()V"⟩, 20), (⟨"SandLedgerModel", "laysBack", "()V"⟩, 20)]
theorem lw_r2 : ∀ q ∈ lw_privs_2, lw_okq q := List.forall_mem_cons.mpr ⟨lw_p16, List.forall_mem_cons.mpr ⟨lw_p17, List.forall_mem_cons.mpr ⟨lw_p18, List.forall_mem_cons.mpr ⟨lw_p19, List.forall_mem_cons.mpr ⟨lw_p20, List.forall_mem_cons.mpr ⟨lw_p21, List.forall_mem_cons.mpr ⟨lw_p22, List.forall_mem_cons.mpr ⟨lw_p23, List.forall_mem_cons.mpr ⟨lw_p24, List.forall_mem_cons.mpr ⟨lw_p25, List.forall_mem_cons.mpr ⟨lw_p26, List.forall_mem_cons.mpr ⟨lw_p27, List.forall_mem_cons.mpr ⟨lw_p28, List.forall_mem_cons.mpr ⟨lw_p29, List.forall_mem_cons.mpr ⟨lw_p30, List.forall_mem_cons.mpr ⟨lw_p31, fun _ h => absurd h List.not_mem_nil⟩⟩⟩⟩⟩⟩⟩⟩⟩⟩⟩⟩⟩⟩⟩⟩
theorem lw_p32 : lw_okq (⟨"SandLedgerModel", "firstBy", "(III)I"⟩, 20) := ⟨⟨by decide +kernel, by decide +kernel⟩, List.mem_of_getElem? (i := 660) (by decide +kernel), List.mem_of_getElem? (i := 885) (by decide +kernel), List.mem_of_getElem? (i := 886) (by decide +kernel)⟩
theorem lw_p33 : lw_okq (⟨"SandLedgerModel", "isSo", "(III)Z"⟩, 20) := ⟨⟨by decide +kernel, by decide +kernel⟩, List.mem_of_getElem? (i := 660) (by decide +kernel), List.mem_of_getElem? (i := 889) (by decide +kernel), List.mem_of_getElem? (i := 890) (by decide +kernel)⟩
theorem lw_p34 : lw_okq (⟨"SandLedgerModel", "longestBy", "(III)I"⟩, 20) := ⟨⟨by decide +kernel, by decide +kernel⟩, List.mem_of_getElem? (i := 660) (by decide +kernel), List.mem_of_getElem? (i := 912) (by decide +kernel), List.mem_of_getElem? (i := 913) (by decide +kernel)⟩
theorem lw_p35 : lw_okq (⟨"SandLedgerModel", "thenOf", "(II)I"⟩, 20) := ⟨⟨by decide +kernel, by decide +kernel⟩, List.mem_of_getElem? (i := 660) (by decide +kernel), List.mem_of_getElem? (i := 916) (by decide +kernel), List.mem_of_getElem? (i := 917) (by decide +kernel)⟩
theorem lw_p36 : lw_okq (⟨"SandLedgerModel", "standsWithout", "(III)Z"⟩, 20) := ⟨⟨by decide +kernel, by decide +kernel⟩, List.mem_of_getElem? (i := 660) (by decide +kernel), List.mem_of_getElem? (i := 943) (by decide +kernel), List.mem_of_getElem? (i := 944) (by decide +kernel)⟩
theorem lw_p37 : lw_okq (⟨"SandLedgerModel", "wrongTold", "(III)I"⟩, 20) := ⟨⟨by decide +kernel, by decide +kernel⟩, List.mem_of_getElem? (i := 660) (by decide +kernel), List.mem_of_getElem? (i := 951) (by decide +kernel), List.mem_of_getElem? (i := 952) (by decide +kernel)⟩
theorem lw_p38 : lw_okq (⟨"SandLedgerModel", "wrongSheet", "(I)I"⟩, 20) := ⟨⟨by decide +kernel, by decide +kernel⟩, List.mem_of_getElem? (i := 660) (by decide +kernel), List.mem_of_getElem? (i := 955) (by decide +kernel), List.mem_of_getElem? (i := 956) (by decide +kernel)⟩
theorem lw_p39 : lw_okq (⟨"SandLedgerModel", "allThatFit", "(IIII)I"⟩, 20) := ⟨⟨by decide +kernel, by decide +kernel⟩, List.mem_of_getElem? (i := 660) (by decide +kernel), List.mem_of_getElem? (i := 962) (by decide +kernel), List.mem_of_getElem? (i := 963) (by decide +kernel)⟩
theorem lw_p40 : lw_okq (⟨"SandLedgerModel", "fitsAs", "(IIIII)Z"⟩, 20) := ⟨⟨by decide +kernel, by decide +kernel⟩, List.mem_of_getElem? (i := 660) (by decide +kernel), List.mem_of_getElem? (i := 966) (by decide +kernel), List.mem_of_getElem? (i := 967) (by decide +kernel)⟩
theorem lw_p41 : lw_okq (⟨"SandLedgerModel", "told", "(II)I"⟩, 20) := ⟨⟨by decide +kernel, by decide +kernel⟩, List.mem_of_getElem? (i := 660) (by decide +kernel), List.mem_of_getElem? (i := 970) (by decide +kernel), List.mem_of_getElem? (i := 971) (by decide +kernel)⟩
theorem lw_p42 : lw_okq (⟨"SandLedgerModel", "draw", "()I"⟩, 20) := ⟨⟨by decide +kernel, by decide +kernel⟩, List.mem_of_getElem? (i := 660) (by decide +kernel), List.mem_of_getElem? (i := 982) (by decide +kernel), List.mem_of_getElem? (i := 983) (by decide +kernel)⟩
theorem lw_p43 : lw_okq (⟨"SandLedgerModel", "nextToken", "()V"⟩, 20) := ⟨⟨by decide +kernel, by decide +kernel⟩, List.mem_of_getElem? (i := 660) (by decide +kernel), List.mem_of_getElem? (i := 1008) (by decide +kernel), List.mem_of_getElem? (i := 1009) (by decide +kernel)⟩
theorem lw_p44 : lw_okq (⟨"SandLedgerModel", "readsItem", "()Z"⟩, 20) := ⟨⟨by decide +kernel, by decide +kernel⟩, List.mem_of_getElem? (i := 660) (by decide +kernel), List.mem_of_getElem? (i := 1024) (by decide +kernel), List.mem_of_getElem? (i := 1025) (by decide +kernel)⟩
theorem lw_p45 : lw_okq (⟨"SandLedgerModel", "wordOf", "([C)I"⟩, 20) := ⟨⟨by decide +kernel, by decide +kernel⟩, List.mem_of_getElem? (i := 660) (by decide +kernel), List.mem_of_getElem? (i := 1028) (by decide +kernel), List.mem_of_getElem? (i := 1029) (by decide +kernel)⟩
theorem lw_p46 : lw_okq (⟨"SandLedgerModel", "readsVisitor", "(I)Z"⟩, 20) := ⟨⟨by decide +kernel, by decide +kernel⟩, List.mem_of_getElem? (i := 660) (by decide +kernel), List.mem_of_getElem? (i := 1032) (by decide +kernel), List.mem_of_getElem? (i := 1033) (by decide +kernel)⟩
theorem lw_p47 : lw_okq (⟨"SandLedgerModel", "takesNumber", "(II)I"⟩, 20) := ⟨⟨by decide +kernel, by decide +kernel⟩, List.mem_of_getElem? (i := 660) (by decide +kernel), List.mem_of_getElem? (i := 1036) (by decide +kernel), List.mem_of_getElem? (i := 1037) (by decide +kernel)⟩
def lw_privs_3 : List (MethodName × Nat) := [(⟨"SandLedgerModel", "firstBy", "(III)I"⟩, 20), (⟨"SandLedgerModel", "isSo", "(III)Z"⟩, 20), (⟨"SandLedgerModel", "longestBy", "(III)I"⟩, 20), (⟨"SandLedgerModel", "thenOf", "(II)I"⟩, 20), (⟨"SandLedgerModel", "standsWithout", "(III)Z"⟩, 20), (⟨"SandLedgerModel", "wrongTold", "(III)I"⟩, 20), (⟨"SandLedgerModel", "wrongSheet", "(I)I"⟩, 20), (⟨"SandLedgerModel", "allThatFit", "(IIII)I"⟩, 20), (⟨"SandLedgerModel", "fitsAs", "(IIIII)Z"⟩, 20), (⟨"SandLedgerModel", "told", "(II)I"⟩, 20), (⟨"SandLedgerModel", "draw", "()I"⟩, 20), (⟨"SandLedgerModel", "nextToken", "()V"⟩, 20), (⟨"SandLedgerModel", "readsItem", "()Z"⟩, 20), (⟨"SandLedgerModel", "wordOf", "([C)I"⟩, 20), (⟨"SandLedgerModel", "readsVisitor", "(I)Z"⟩, 20), (⟨"SandLedgerModel", "takesNumber", "(II)I"⟩, 20)]
theorem lw_r3 : ∀ q ∈ lw_privs_3, lw_okq q := List.forall_mem_cons.mpr ⟨lw_p32, List.forall_mem_cons.mpr ⟨lw_p33, List.forall_mem_cons.mpr ⟨lw_p34, List.forall_mem_cons.mpr ⟨lw_p35, List.forall_mem_cons.mpr ⟨lw_p36, List.forall_mem_cons.mpr ⟨lw_p37, List.forall_mem_cons.mpr ⟨lw_p38, List.forall_mem_cons.mpr ⟨lw_p39, List.forall_mem_cons.mpr ⟨lw_p40, List.forall_mem_cons.mpr ⟨lw_p41, List.forall_mem_cons.mpr ⟨lw_p42, List.forall_mem_cons.mpr ⟨lw_p43, List.forall_mem_cons.mpr ⟨lw_p44, List.forall_mem_cons.mpr ⟨lw_p45, List.forall_mem_cons.mpr ⟨lw_p46, List.forall_mem_cons.mpr ⟨lw_p47, fun _ h => absurd h List.not_mem_nil⟩⟩⟩⟩⟩⟩⟩⟩⟩⟩⟩⟩⟩⟩⟩⟩
def lw_privs : List (MethodName × Nat) := lw_privs_1 ++ (lw_privs_2 ++ (lw_privs_3))
def lw_tbl : List Cond := k2_sels lw_privs ++ tables_1
theorem lw_privs_ok : ∀ q ∈ lw_privs, lw_okq q := by
  show ∀ q ∈ lw_privs_1 ++ (lw_privs_2 ++ (lw_privs_3)), lw_okq q
  exact List.forall_mem_append.mpr ⟨lw_r1, List.forall_mem_append.mpr ⟨lw_r2, lw_r3⟩⟩

def RX0 : String := "SandLedger$Pit"
def TX0 : u_T := fun k => match k with
  | 0 => ("SandLedger$Pit", "heaps", "[I", true)
  | 1 => ("SandLedger$Pit", "settings", "[I", true)
  | 2 => ("SandLedger$Pit", "traits", "[[I", true)
  | 3 => ("SandLedger$Pit", "spots", "[I", true)
  | 4 => ("SandLedger$Pit", "visitors", "I", false)
  | 5 => ("SandLedger$Pit", "day", "I", false)
  | _ => ("SandLedger$Pit", "z", "I", false)
def tyX0 : Nat → FieldType := fun k => match k with
  | 0 => .array .int
  | 1 => .array .int
  | 2 => .array (.array .int)
  | 3 => .array .int
  | 4 => .int
  | 5 => .int
  | _ => .int
abbrev wsX00 : List Cond := u_ws RX0 TX0 7
theorem nmX0 : ∀ a, a < 7 → ∀ b, b < 7 → a ≠ b → (TX0 a).2.1 ≠ (TX0 b).2.1 := by decide +kernel
theorem tyX0_ok : ∀ k, k < 7 → parseFieldDescriptor (TX0 k).2.2.1 = some (tyX0 k) := by decide +kernel
abbrev cX0_init : ByteArray := prog_2_method_1_code
def yX0_init : MethodName := ⟨RX0, "<init>", "()V"⟩
abbrev cX0_become : ByteArray := prog_2_method_2_code
def yX0_become : MethodName := ⟨RX0, "become", "(LSandLedger$Pit;)V"⟩
abbrev cX0_isFull : ByteArray := prog_2_method_3_code
def yX0_isFull : MethodName := ⟨RX0, "isFull", "()Z"⟩
abbrev cX0_admit : ByteArray := prog_2_method_4_code
def yX0_admit : MethodName := ⟨RX0, "\x61dmit", "(II)I"⟩
abbrev cX0_leastCell : ByteArray := prog_2_method_5_code
def yX0_leastCell : MethodName := ⟨RX0, "leastCell", "(I)I"⟩
abbrev cX0_greatestCell : ByteArray := prog_2_method_6_code
def yX0_greatestCell : MethodName := ⟨RX0, "greatestCell", "(I)I"⟩
abbrev cX0_spanOf : ByteArray := prog_2_method_7_code
def yX0_spanOf : MethodName := ⟨RX0, "spanOf", "(I)I"⟩
abbrev cX0_raisesOf : ByteArray := prog_2_method_8_code
def yX0_raisesOf : MethodName := ⟨RX0, "raisesOf", "(I)I"⟩
abbrev cX0_movesOf : ByteArray := prog_2_method_9_code
def yX0_movesOf : MethodName := ⟨RX0, "movesOf", "(I)I"⟩
abbrev cX0_isDigger : ByteArray := prog_2_method_10_code
def yX0_isDigger : MethodName := ⟨RX0, "isDigger", "(I)Z"⟩
abbrev cX0_isUp : ByteArray := prog_2_method_11_code
def yX0_isUp : MethodName := ⟨RX0, "isUp", "(I)Z"⟩
abbrev cX0_receive : ByteArray := prog_2_method_12_code
def yX0_receive : MethodName := ⟨RX0, "receive", "(I)I"⟩
abbrev cX0_heapUp : ByteArray := prog_2_method_13_code
def yX0_heapUp : MethodName := ⟨RX0, "heapUp", "(I)I"⟩
abbrev cX0_dig : ByteArray := prog_2_method_14_code
def yX0_dig : MethodName := ⟨RX0, "dig", "(I)I"⟩
abbrev cX0_comesToday : ByteArray := prog_2_method_15_code
def yX0_comesToday : MethodName := ⟨RX0, "comesToday", "(I)Z"⟩
abbrev cX0_passDays : ByteArray := prog_2_method_16_code
def yX0_passDays : MethodName := ⟨RX0, "passDays", "(II)V"⟩
abbrev cX0_ageByADay : ByteArray := prog_2_method_17_code
def yX0_ageByADay : MethodName := ⟨RX0, "ageByADay", "()V"⟩
abbrev cX0_blow : ByteArray := prog_2_method_18_code
def yX0_blow : MethodName := ⟨RX0, "blow", "()V"⟩
abbrev cX0_slide : ByteArray := prog_2_method_19_code
def yX0_slide : MethodName := ⟨RX0, "slide", "(II)I"⟩
abbrev cX0_roadLength : ByteArray := prog_2_method_20_code
def yX0_roadLength : MethodName := ⟨RX0, "roadLength", "()I"⟩
abbrev cX0_roadCells : ByteArray := prog_2_method_21_code
def yX0_roadCells : MethodName := ⟨RX0, "roadCells", "()I"⟩
abbrev cX0_highestCell : ByteArray := prog_2_method_22_code
def yX0_highestCell : MethodName := ⟨RX0, "highestCell", "()I"⟩
abbrev cX0_sandInAll : ByteArray := prog_2_method_23_code
def yX0_sandInAll : MethodName := ⟨RX0, "sandInAll", "()I"⟩
abbrev cX0_builtInAll : ByteArray := prog_2_method_24_code
def yX0_builtInAll : MethodName := ⟨RX0, "builtInAll", "()I"⟩
abbrev cX0_spotsHolding : ByteArray := prog_2_method_25_code
def yX0_spotsHolding : MethodName := ⟨RX0, "spotsHolding", "()I"⟩
abbrev cX0_visitorsAt : ByteArray := prog_2_method_26_code
def yX0_visitorsAt : MethodName := ⟨RX0, "visitorsAt", "(I)I"⟩
abbrev cX0_standing : ByteArray := prog_2_method_27_code
def yX0_standing : MethodName := ⟨RX0, "standing", "()I"⟩
abbrev cX0_comingToday : ByteArray := prog_2_method_28_code
def yX0_comingToday : MethodName := ⟨RX0, "comingToday", "()I"⟩
abbrev cX0_draw : ByteArray := prog_2_method_29_code
def yX0_draw : MethodName := ⟨RX0, "draw", "()I"⟩
def RX1 : String := "SandLedger$Sheet"
def TX1 : u_T := fun k => match k with
  | 0 => ("SandLedger$Sheet", "numbers", "[I", true)
  | 1 => ("SandLedger$Sheet", "bits", "I", false)
  | _ => ("SandLedger$Sheet", "size", "I", false)
def tyX1 : Nat → FieldType := fun k => match k with
  | 0 => .array .int
  | 1 => .int
  | _ => .int
abbrev wsX10 : List Cond := u_ws RX1 TX1 3
theorem nmX1 : ∀ a, a < 3 → ∀ b, b < 3 → a ≠ b → (TX1 a).2.1 ≠ (TX1 b).2.1 := by decide +kernel
theorem tyX1_ok : ∀ k, k < 3 → parseFieldDescriptor (TX1 k).2.2.1 = some (tyX1 k) := by decide +kernel
abbrev cX1_init : ByteArray := prog_3_method_1_code
def yX1_init : MethodName := ⟨RX1, "<init>", "()V"⟩
abbrev cX1_isMissing : ByteArray := prog_3_method_2_code
def yX1_isMissing : MethodName := ⟨RX1, "isMissing", "()Z"⟩
abbrev cX1_layOut : ByteArray := prog_3_method_3_code
def yX1_layOut : MethodName := ⟨RX1, "layOut", "(II)V"⟩
abbrev cX1_put : ByteArray := prog_3_method_4_code
def yX1_put : MethodName := ⟨RX1, "put", "(II)V"⟩
abbrev cX1_hasPart : ByteArray := prog_3_method_5_code
def yX1_hasPart : MethodName := ⟨RX1, "hasPart", "(II)Z"⟩
abbrev cX1_tells : ByteArray := prog_3_method_6_code
def yX1_tells : MethodName := ⟨RX1, "tells", "([I)Z"⟩
def RX2 : String := "SandLedger$Tape"
def TX2 : u_T := fun k => match k with
  | 0 => ("SandLedger$Tape", "bytes", "[B", true)
  | _ => ("SandLedger$Tape", "length", "I", false)
def tyX2 : Nat → FieldType := fun k => match k with
  | 0 => .array .byte
  | _ => .int
abbrev wsX20 : List Cond := u_ws RX2 TX2 2
theorem nmX2 : ∀ a, a < 2 → ∀ b, b < 2 → a ≠ b → (TX2 a).2.1 ≠ (TX2 b).2.1 := by decide +kernel
theorem tyX2_ok : ∀ k, k < 2 → parseFieldDescriptor (TX2 k).2.2.1 = some (tyX2 k) := by decide +kernel
abbrev cX2_init : ByteArray := prog_4_method_1_code
def yX2_init : MethodName := ⟨RX2, "<init>", "()V"⟩
abbrev cX2_append : ByteArray := prog_4_method_2_code
def yX2_append : MethodName := ⟨RX2, "append", "(II)V"⟩
def RX3 : String := "SandLedger$TextReader"
def TX3 : u_T := fun k => match k with
  | 0 => ("SandLedger$TextReader", "tape", "LSandLedger$Tape;", true)
  | 1 => ("SandLedger$TextReader", "token", "I", false)
  | 2 => ("SandLedger$TextReader", "begin", "I", false)
  | 3 => ("SandLedger$TextReader", "end", "I", false)
  | _ => ("SandLedger$TextReader", "value", "I", false)
def tyX3 : Nat → FieldType := fun k => match k with
  | 0 => .object "SandLedger$Tape"
  | 1 => .int
  | 2 => .int
  | 3 => .int
  | _ => .int
abbrev wsX30 : List Cond := u_ws RX3 TX3 5
theorem nmX3 : ∀ a, a < 5 → ∀ b, b < 5 → a ≠ b → (TX3 a).2.1 ≠ (TX3 b).2.1 := by decide +kernel
theorem tyX3_ok : ∀ k, k < 5 → parseFieldDescriptor (TX3 k).2.2.1 = some (tyX3 k) := by decide +kernel
abbrev cX3_init : ByteArray := prog_5_method_1_code
def yX3_init : MethodName := ⟨RX3, "<init>", "()V"⟩
abbrev cX3_readText : ByteArray := prog_5_method_2_code
def yX3_readText : MethodName := ⟨RX3, "readText", "(LSandLedger$Pit;)I"⟩
abbrev cX3_readItem : ByteArray := prog_5_method_3_code
def yX3_readItem : MethodName := ⟨RX3, "readItem", "(LSandLedger$Pit;)Z"⟩
abbrev cX3_wordOf : ByteArray := prog_5_method_4_code
def yX3_wordOf : MethodName := ⟨RX3, "wordOf", "(I)Ljava/lang/String;"⟩
abbrev cX3_readVisitor : ByteArray := prog_5_method_5_code
def yX3_readVisitor : MethodName := ⟨RX3, "readVisitor", "(LSandLedger$Pit;I)Z"⟩
abbrev cX3_readTrait : ByteArray := prog_5_method_6_code
def yX3_readTrait : MethodName := ⟨RX3, "readTrait", "(LSandLedger$Pit;ILjava/lang/String;I)Z"⟩
abbrev cX3_readSand : ByteArray := prog_5_method_7_code
def yX3_readSand : MethodName := ⟨RX3, "readSand", "(LSandLedger$Pit;)Z"⟩
abbrev cX3_readSetting : ByteArray := prog_5_method_8_code
def yX3_readSetting : MethodName := ⟨RX3, "readSetting", "(LSandLedger$Pit;I)Z"⟩
abbrev cX3_isNumber : ByteArray := prog_5_method_9_code
def yX3_isNumber : MethodName := ⟨RX3, "isNumber", "(II)Z"⟩
abbrev cX3_isWord : ByteArray := prog_5_method_10_code
def yX3_isWord : MethodName := ⟨RX3, "isWord", "(Ljava/lang/String;)Z"⟩
abbrev cX3_readToken : ByteArray := prog_5_method_11_code
def yX3_readToken : MethodName := ⟨RX3, "readToken", "()V"⟩
abbrev cX3_tokenAt : ByteArray := prog_5_method_12_code
def yX3_tokenAt : MethodName := ⟨RX3, "tokenAt", "(I)I"⟩
abbrev cX3_readValue : ByteArray := prog_5_method_13_code
def yX3_readValue : MethodName := ⟨RX3, "readValue", "()V"⟩
def RX4 : String := "SandLedger"
def TX4 : u_T := fun k => match k with
  | 0 => ("SandLedger", "pit", "LSandLedger$Pit;", true)
  | 1 => ("SandLedger", "kept", "LSandLedger$Pit;", true)
  | 2 => ("SandLedger", "trial", "LSandLedger$Pit;", true)
  | 3 => ("SandLedger", "reader", "LSandLedger$TextReader;", true)
  | 4 => ("SandLedger", "tape", "LSandLedger$Tape;", true)
  | 5 => ("SandLedger", "sheets", "[LSandLedger$Sheet;", true)
  | 6 => ("SandLedger", "findings", "[I", true)
  | _ => ("SandLedger", "isKept", "Z", false)
def tyX4 : Nat → FieldType := fun k => match k with
  | 0 => .object "SandLedger$Pit"
  | 1 => .object "SandLedger$Pit"
  | 2 => .object "SandLedger$Pit"
  | 3 => .object "SandLedger$TextReader"
  | 4 => .object "SandLedger$Tape"
  | 5 => .array (.object "SandLedger$Sheet")
  | 6 => .array .int
  | _ => .boolean
abbrev wsX40 : List Cond := u_ws RX4 TX4 8
theorem nmX4 : ∀ a, a < 8 → ∀ b, b < 8 → a ≠ b → (TX4 a).2.1 ≠ (TX4 b).2.1 := by decide +kernel
theorem tyX4_ok : ∀ k, k < 8 → parseFieldDescriptor (TX4 k).2.2.1 = some (tyX4 k) := by decide +kernel
abbrev cX4_init : ByteArray := prog_1_method_1_code
def yX4_init : MethodName := ⟨RX4, "<init>", "()V"⟩
abbrev cX4_sand : ByteArray := prog_1_method_2_code
def yX4_sand : MethodName := ⟨RX4, "sand", "(II)I"⟩
abbrev cX4_cell : ByteArray := prog_1_method_3_code
def yX4_cell : MethodName := ⟨RX4, "cell", "(II)I"⟩
abbrev cX4_set : ByteArray := prog_1_method_4_code
def yX4_set : MethodName := ⟨RX4, "set", "(II)I"⟩
abbrev cX4_visitor : ByteArray := prog_1_method_5_code
def yX4_visitor : MethodName := ⟨RX4, "visitor", "(II)I"⟩
abbrev cX4_of : ByteArray := prog_1_method_6_code
def yX4_of : MethodName := ⟨RX4, "of", "(II)I"⟩
abbrev cX4_change : ByteArray := prog_1_method_7_code
def yX4_change : MethodName := ⟨RX4, "change", "(III)I"⟩
abbrev cX4_come : ByteArray := prog_1_method_8_code
def yX4_come : MethodName := ⟨RX4, "come", "(I)I"⟩
abbrev cX4_go : ByteArray := prog_1_method_9_code
def yX4_go : MethodName := ⟨RX4, "go", "(I)I"⟩
abbrev cX4_now : ByteArray := prog_1_method_10_code
def yX4_now : MethodName := ⟨RX4, "now", "(I)I"⟩
abbrev cX4_high : ByteArray := prog_1_method_11_code
def yX4_high : MethodName := ⟨RX4, "high", "(II)I"⟩
abbrev cX4_built : ByteArray := prog_1_method_12_code
def yX4_built : MethodName := ⟨RX4, "built", "(II)I"⟩
abbrev cX4_stands : ByteArray := prog_1_method_13_code
def yX4_stands : MethodName := ⟨RX4, "stands", "(I)I"⟩
abbrev cX4_road : ByteArray := prog_1_method_14_code
def yX4_road : MethodName := ⟨RX4, "road", "(I)I"⟩
abbrev cX4_both : ByteArray := prog_1_method_15_code
def yX4_both : MethodName := ⟨RX4, "both", "(II)I"⟩
abbrev cX4_empty : ByteArray := prog_1_method_16_code
def yX4_empty : MethodName := ⟨RX4, "empty", "()I"⟩
abbrev cX4_fromFor : ByteArray := prog_1_method_17_code
def yX4_fromFor : MethodName := ⟨RX4, "fromFor", "(II)I"⟩
abbrev cX4_wideFor : ByteArray := prog_1_method_18_code
def yX4_wideFor : MethodName := ⟨RX4, "wideFor", "(III)I"⟩
abbrev cX4_eachFor : ByteArray := prog_1_method_19_code
def yX4_eachFor : MethodName := ⟨RX4, "eachFor", "(II)I"⟩
abbrev cX4_kindFor : ByteArray := prog_1_method_20_code
def yX4_kindFor : MethodName := ⟨RX4, "kindFor", "(II)I"⟩
abbrev cX4_windFor : ByteArray := prog_1_method_21_code
def yX4_windFor : MethodName := ⟨RX4, "windFor", "(II)I"⟩
abbrev cX4_away : ByteArray := prog_1_method_22_code
def yX4_away : MethodName := ⟨RX4, "away", "(II)I"⟩
abbrev cX4_fits : ByteArray := prog_1_method_23_code
def yX4_fits : MethodName := ⟨RX4, "fits", "(III)I"⟩
abbrev cX4_kinds : ByteArray := prog_1_method_24_code
def yX4_kinds : MethodName := ⟨RX4, "kinds", "(III)I"⟩
abbrev cX4_comings : ByteArray := prog_1_method_25_code
def yX4_comings : MethodName := ⟨RX4, "comings", "(I)I"⟩
abbrev cX4_odds : ByteArray := prog_1_method_26_code
def yX4_odds : MethodName := ⟨RX4, "odds", "(II)J"⟩
abbrev cX4_seed : ByteArray := prog_1_method_27_code
def yX4_seed : MethodName := ⟨RX4, "seed", "(I)I"⟩
abbrev cX4_feed : ByteArray := prog_1_method_28_code
def yX4_feed : MethodName := ⟨RX4, "feed", "(II)I"⟩
abbrev cX4_wipe : ByteArray := prog_1_method_29_code
def yX4_wipe : MethodName := ⟨RX4, "wipe", "()I"⟩
abbrev cX4_text : ByteArray := prog_1_method_30_code
def yX4_text : MethodName := ⟨RX4, "text", "()I"⟩
abbrev cX4_hold : ByteArray := prog_1_method_31_code
def yX4_hold : MethodName := ⟨RX4, "hold", "(II)I"⟩
abbrev cX4_as : ByteArray := prog_1_method_32_code
def yX4_as : MethodName := ⟨RX4, "as", "(II)I"⟩
abbrev cX4_sheet : ByteArray := prog_1_method_33_code
def yX4_sheet : MethodName := ⟨RX4, "sheet", "(III)I"⟩
abbrev cX4_write : ByteArray := prog_1_method_34_code
def yX4_write : MethodName := ⟨RX4, "write", "(III)I"⟩
abbrev cX4_copy : ByteArray := prog_1_method_35_code
def yX4_copy : MethodName := ⟨RX4, "copy", "(IIIII)I"⟩
abbrev cX4_load : ByteArray := prog_1_method_36_code
def yX4_load : MethodName := ⟨RX4, "load", "(I)I"⟩
abbrev cX4_judge : ByteArray := prog_1_method_37_code
def yX4_judge : MethodName := ⟨RX4, "judge", "(I)I"⟩
abbrev cX4_image : ByteArray := prog_1_method_38_code
def yX4_image : MethodName := ⟨RX4, "image", "()I"⟩
abbrev cX4_undo : ByteArray := prog_1_method_39_code
def yX4_undo : MethodName := ⟨RX4, "undo", "()I"⟩
abbrev cX4_tear : ByteArray := prog_1_method_40_code
def yX4_tear : MethodName := ⟨RX4, "tear", "()I"⟩
abbrev cX4_count : ByteArray := prog_1_method_41_code
def yX4_count : MethodName := ⟨RX4, "count", "(I)I"⟩
abbrev cX4_status : ByteArray := prog_1_method_42_code
def yX4_status : MethodName := ⟨RX4, "status", "(I)I"⟩
abbrev cX4_within : ByteArray := prog_1_method_43_code
def yX4_within : MethodName := ⟨RX4, "within", "(III)Z"⟩
abbrev cX4_isTrait : ByteArray := prog_1_method_44_code
def yX4_isTrait : MethodName := ⟨RX4, "isTrait", "(II)Z"⟩
abbrev cX4_isSheet : ByteArray := prog_1_method_45_code
def yX4_isSheet : MethodName := ⟨RX4, "isSheet", "(I)Z"⟩
abbrev cX4_isOfKind : ByteArray := prog_1_method_46_code
def yX4_isOfKind : MethodName := ⟨RX4, "isOfKind", "(II)Z"⟩
abbrev cX4_power : ByteArray := prog_1_method_47_code
def yX4_power : MethodName := ⟨RX4, "power", "(II)J"⟩
abbrev cX4_isVisitor : ByteArray := prog_1_method_48_code
def yX4_isVisitor : MethodName := ⟨RX4, "isVisitor", "(I)Z"⟩
abbrev cX4_found : ByteArray := prog_1_method_49_code
def yX4_found : MethodName := ⟨RX4, "found", "(I)I"⟩
abbrev cX4_findingsInAll : ByteArray := prog_1_method_50_code
def yX4_findingsInAll : MethodName := ⟨RX4, "findingsInAll", "()I"⟩
abbrev cX4_waitFor : ByteArray := prog_1_method_51_code
def yX4_waitFor : MethodName := ⟨RX4, "waitFor", "(II)I"⟩
abbrev cX4_isGranted : ByteArray := prog_1_method_52_code
def yX4_isGranted : MethodName := ⟨RX4, "isGranted", "(II)Z"⟩
abbrev cX4_tryTrait : ByteArray := prog_1_method_53_code
def yX4_tryTrait : MethodName := ⟨RX4, "tryTrait", "(IIII)V"⟩
abbrev cX4_forLongestRoad : ByteArray := prog_1_method_54_code
def yX4_forLongestRoad : MethodName := ⟨RX4, "forLongestRoad", "(III)I"⟩
abbrev cX4_isUpWithout : ByteArray := prog_1_method_55_code
def yX4_isUpWithout : MethodName := ⟨RX4, "isUpWithout", "(III)Z"⟩
abbrev cX4_toldBy : ByteArray := prog_1_method_56_code
def yX4_toldBy : MethodName := ⟨RX4, "toldBy", "(IIII)I"⟩
def RX5 : String := "SandLedgerModel"
def TX5 : u_T := fun k => match k with
  | 0 => ("SandLedgerModel", "s", "[I", true)
  | 1 => ("SandLedgerModel", "kept", "[I", true)
  | 2 => ("SandLedgerModel", "aside", "[I", true)
  | 3 => ("SandLedgerModel", "isKept", "Z", false)
  | 4 => ("SandLedgerModel", "found", "[I", true)
  | 5 => ("SandLedgerModel", "gone", "I", false)
  | 6 => ("SandLedgerModel", "over", "[I", true)
  | 7 => ("SandLedgerModel", "tape", "[I", true)
  | 8 => ("SandLedgerModel", "taped", "I", false)
  | 9 => ("SandLedgerModel", "token", "I", false)
  | 10 => ("SandLedgerModel", "begun", "I", false)
  | 11 => ("SandLedgerModel", "ended", "I", false)
  | 12 => ("SandLedgerModel", "value", "J", false)
  | 13 => ("SandLedgerModel", "letters", "[C", true)
  | 14 => ("SandLedgerModel", "more", "[C", true)
  | 15 => ("SandLedgerModel", "others", "[C", true)
  | 16 => ("SandLedgerModel", "widths", "[I", true)
  | 17 => ("SandLedgerModel", "sizes", "[I", true)
  | 18 => ("SandLedgerModel", "cells", "[I", true)
  | _ => ("SandLedgerModel", "carried", "[I", true)
def tyX5 : Nat → FieldType := fun k => match k with
  | 0 => .array .int
  | 1 => .array .int
  | 2 => .array .int
  | 3 => .boolean
  | 4 => .array .int
  | 5 => .int
  | 6 => .array .int
  | 7 => .array .int
  | 8 => .int
  | 9 => .int
  | 10 => .int
  | 11 => .int
  | 12 => .long
  | 13 => .array .char
  | 14 => .array .char
  | 15 => .array .char
  | 16 => .array .int
  | 17 => .array .int
  | 18 => .array .int
  | _ => .array .int
abbrev wsX50 : List Cond := u_ws RX5 TX5 20
theorem nmX5 : ∀ a, a < 20 → ∀ b, b < 20 → a ≠ b → (TX5 a).2.1 ≠ (TX5 b).2.1 := by decide +kernel
theorem tyX5_ok : ∀ k, k < 20 → parseFieldDescriptor (TX5 k).2.2.1 = some (tyX5 k) := by decide +kernel
abbrev cX5_init : ByteArray := prog_7_method_1_code
def yX5_init : MethodName := ⟨RX5, "<init>", "()V"⟩
abbrev cX5_no : ByteArray := prog_7_method_2_code
def yX5_no : MethodName := ⟨RX5, "no", "(I)I"⟩
abbrev cX5_in1 : ByteArray := prog_7_method_3_code
def yX5_in1 : MethodName := ⟨RX5, "in1", "(III)Z"⟩
abbrev cX5_less : ByteArray := prog_7_method_4_code
def yX5_less : MethodName := ⟨RX5, "less", "(II)I"⟩
abbrev cX5_bits : ByteArray := prog_7_method_5_code
def yX5_bits : MethodName := ⟨RX5, "bits", "(I)I"⟩
abbrev cX5_isCell : ByteArray := prog_7_method_6_code
def yX5_isCell : MethodName := ⟨RX5, "isCell", "(I)Z"⟩
abbrev cX5_isVisitor : ByteArray := prog_7_method_7_code
def yX5_isVisitor : MethodName := ⟨RX5, "isVisitor", "(I)Z"⟩
abbrev cX5_get : ByteArray := prog_7_method_8_code
def yX5_get : MethodName := ⟨RX5, "get", "(II)I"⟩
abbrev cX5_puts : ByteArray := prog_7_method_9_code
def yX5_puts : MethodName := ⟨RX5, "puts", "(III)V"⟩
abbrev cX5_setsAside : ByteArray := prog_7_method_10_code
def yX5_setsAside : MethodName := ⟨RX5, "setsAside", "()V"⟩
abbrev cX5_laysBack : ByteArray := prog_7_method_11_code
def yX5_laysBack : MethodName := ⟨RX5, "laysBack", "()V"⟩
abbrev cX5_spanOf : ByteArray := prog_7_method_12_code
def yX5_spanOf : MethodName := ⟨RX5, "spanOf", "(I)I"⟩
abbrev cX5_raisesOf : ByteArray := prog_7_method_13_code
def yX5_raisesOf : MethodName := ⟨RX5, "raisesOf", "(I)I"⟩
abbrev cX5_movesOf : ByteArray := prog_7_method_14_code
def yX5_movesOf : MethodName := ⟨RX5, "movesOf", "(I)I"⟩
abbrev cX5_standsNow : ByteArray := prog_7_method_15_code
def yX5_standsNow : MethodName := ⟨RX5, "standsNow", "(I)Z"⟩
abbrev cX5_roadNow : ByteArray := prog_7_method_16_code
def yX5_roadNow : MethodName := ⟨RX5, "roadNow", "()I"⟩
abbrev cX5_getsAt : ByteArray := prog_7_method_17_code
def yX5_getsAt : MethodName := ⟨RX5, "getsAt", "(III)I"⟩
abbrev cX5_comes : ByteArray := prog_7_method_18_code
def yX5_comes : MethodName := ⟨RX5, "comes", "(I)I"⟩
abbrev cX5_slides : ByteArray := prog_7_method_19_code
def yX5_slides : MethodName := ⟨RX5, "slides", "(I)V"⟩
abbrev cX5_isDue : ByteArray := prog_7_method_20_code
def yX5_isDue : MethodName := ⟨RX5, "isDue", "(I)Z"⟩
abbrev cX5_day : ByteArray := prog_7_method_21_code
def yX5_day : MethodName := ⟨RX5, "day", "()V"⟩
abbrev cX5_goes : ByteArray := prog_7_method_22_code
def yX5_goes : MethodName := ⟨RX5, "goes", "(I)V"⟩
abbrev cX5_sand : ByteArray := prog_7_method_23_code
def yX5_sand : MethodName := ⟨RX5, "sand", "(II)I"⟩
abbrev cX5_cell : ByteArray := prog_7_method_24_code
def yX5_cell : MethodName := ⟨RX5, "cell", "(II)I"⟩
abbrev cX5_set : ByteArray := prog_7_method_25_code
def yX5_set : MethodName := ⟨RX5, "set", "(II)I"⟩
abbrev cX5_adds : ByteArray := prog_7_method_26_code
def yX5_adds : MethodName := ⟨RX5, "adds", "(I)V"⟩
abbrev cX5_visitor : ByteArray := prog_7_method_27_code
def yX5_visitor : MethodName := ⟨RX5, "visitor", "(II)I"⟩
abbrev cX5_of : ByteArray := prog_7_method_28_code
def yX5_of : MethodName := ⟨RX5, "of", "(II)I"⟩
abbrev cX5_mostOf : ByteArray := prog_7_method_29_code
def yX5_mostOf : MethodName := ⟨RX5, "mostOf", "(I)I"⟩
abbrev cX5_leastOf : ByteArray := prog_7_method_30_code
def yX5_leastOf : MethodName := ⟨RX5, "leastOf", "(I)I"⟩
abbrev cX5_change : ByteArray := prog_7_method_31_code
def yX5_change : MethodName := ⟨RX5, "change", "(III)I"⟩
abbrev cX5_come : ByteArray := prog_7_method_32_code
def yX5_come : MethodName := ⟨RX5, "come", "(I)I"⟩
abbrev cX5_go : ByteArray := prog_7_method_33_code
def yX5_go : MethodName := ⟨RX5, "go", "(I)I"⟩
abbrev cX5_sands : ByteArray := prog_7_method_34_code
def yX5_sands : MethodName := ⟨RX5, "sands", "()I"⟩
abbrev cX5_highest : ByteArray := prog_7_method_35_code
def yX5_highest : MethodName := ⟨RX5, "highest", "()I"⟩
abbrev cX5_builds : ByteArray := prog_7_method_36_code
def yX5_builds : MethodName := ⟨RX5, "builds", "()I"⟩
abbrev cX5_setOf : ByteArray := prog_7_method_37_code
def yX5_setOf : MethodName := ⟨RX5, "setOf", "(Z)I"⟩
abbrev cX5_now : ByteArray := prog_7_method_38_code
def yX5_now : MethodName := ⟨RX5, "now", "(I)I"⟩
abbrev cX5_thenAt : ByteArray := prog_7_method_39_code
def yX5_thenAt : MethodName := ⟨RX5, "thenAt", "(II)I"⟩
abbrev cX5_high : ByteArray := prog_7_method_40_code
def yX5_high : MethodName := ⟨RX5, "high", "(II)I"⟩
abbrev cX5_built : ByteArray := prog_7_method_41_code
def yX5_built : MethodName := ⟨RX5, "built", "(II)I"⟩
abbrev cX5_isSo : ByteArray := prog_7_method_42_code
def yX5_isSo : MethodName := ⟨RX5, "isSo", "(III)Z"⟩
abbrev cX5_firstBy : ByteArray := prog_7_method_43_code
def yX5_firstBy : MethodName := ⟨RX5, "firstBy", "(III)I"⟩
abbrev cX5_stands : ByteArray := prog_7_method_44_code
def yX5_stands : MethodName := ⟨RX5, "stands", "(I)I"⟩
abbrev cX5_road : ByteArray := prog_7_method_45_code
def yX5_road : MethodName := ⟨RX5, "road", "(I)I"⟩
abbrev cX5_both : ByteArray := prog_7_method_46_code
def yX5_both : MethodName := ⟨RX5, "both", "(II)I"⟩
abbrev cX5_empty : ByteArray := prog_7_method_47_code
def yX5_empty : MethodName := ⟨RX5, "empty", "()I"⟩
abbrev cX5_isSoon : ByteArray := prog_7_method_48_code
def yX5_isSoon : MethodName := ⟨RX5, "isSoon", "(I)Z"⟩
abbrev cX5_thenOf : ByteArray := prog_7_method_49_code
def yX5_thenOf : MethodName := ⟨RX5, "thenOf", "(II)I"⟩
abbrev cX5_longestBy : ByteArray := prog_7_method_50_code
def yX5_longestBy : MethodName := ⟨RX5, "longestBy", "(III)I"⟩
abbrev cX5_fromFor : ByteArray := prog_7_method_51_code
def yX5_fromFor : MethodName := ⟨RX5, "fromFor", "(II)I"⟩
abbrev cX5_wideFor : ByteArray := prog_7_method_52_code
def yX5_wideFor : MethodName := ⟨RX5, "wideFor", "(III)I"⟩
abbrev cX5_eachFor : ByteArray := prog_7_method_53_code
def yX5_eachFor : MethodName := ⟨RX5, "eachFor", "(II)I"⟩
abbrev cX5_kindFor : ByteArray := prog_7_method_54_code
def yX5_kindFor : MethodName := ⟨RX5, "kindFor", "(II)I"⟩
abbrev cX5_windFor : ByteArray := prog_7_method_55_code
def yX5_windFor : MethodName := ⟨RX5, "windFor", "(II)I"⟩
abbrev cX5_standsWithout : ByteArray := prog_7_method_56_code
def yX5_standsWithout : MethodName := ⟨RX5, "standsWithout", "(III)Z"⟩
abbrev cX5_away : ByteArray := prog_7_method_57_code
def yX5_away : MethodName := ⟨RX5, "away", "(II)I"⟩
abbrev cX5_isSheet : ByteArray := prog_7_method_58_code
def yX5_isSheet : MethodName := ⟨RX5, "isSheet", "(I)Z"⟩
abbrev cX5_wrongSheet : ByteArray := prog_7_method_59_code
def yX5_wrongSheet : MethodName := ⟨RX5, "wrongSheet", "(I)I"⟩
abbrev cX5_wrongTold : ByteArray := prog_7_method_60_code
def yX5_wrongTold : MethodName := ⟨RX5, "wrongTold", "(III)I"⟩
abbrev cX5_told : ByteArray := prog_7_method_61_code
def yX5_told : MethodName := ⟨RX5, "told", "(II)I"⟩
abbrev cX5_fitsAs : ByteArray := prog_7_method_62_code
def yX5_fitsAs : MethodName := ⟨RX5, "fitsAs", "(IIIII)Z"⟩
abbrev cX5_allThatFit : ByteArray := prog_7_method_63_code
def yX5_allThatFit : MethodName := ⟨RX5, "allThatFit", "(IIII)I"⟩
abbrev cX5_fits : ByteArray := prog_7_method_64_code
def yX5_fits : MethodName := ⟨RX5, "fits", "(III)I"⟩
abbrev cX5_kinds : ByteArray := prog_7_method_65_code
def yX5_kinds : MethodName := ⟨RX5, "kinds", "(III)I"⟩
abbrev cX5_draw : ByteArray := prog_7_method_66_code
def yX5_draw : MethodName := ⟨RX5, "draw", "()I"⟩
abbrev cX5_comings : ByteArray := prog_7_method_67_code
def yX5_comings : MethodName := ⟨RX5, "comings", "(I)I"⟩
abbrev cX5_odds : ByteArray := prog_7_method_68_code
def yX5_odds : MethodName := ⟨RX5, "odds", "(II)J"⟩
abbrev cX5_seed : ByteArray := prog_7_method_69_code
def yX5_seed : MethodName := ⟨RX5, "seed", "(I)I"⟩
abbrev cX5_feed : ByteArray := prog_7_method_70_code
def yX5_feed : MethodName := ⟨RX5, "feed", "(II)I"⟩
abbrev cX5_wipe : ByteArray := prog_7_method_71_code
def yX5_wipe : MethodName := ⟨RX5, "wipe", "()I"⟩
abbrev cX5_isLetter : ByteArray := prog_7_method_72_code
def yX5_isLetter : MethodName := ⟨RX5, "isLetter", "(I)Z"⟩
abbrev cX5_isDigit : ByteArray := prog_7_method_73_code
def yX5_isDigit : MethodName := ⟨RX5, "isDigit", "(I)Z"⟩
abbrev cX5_nextToken : ByteArray := prog_7_method_74_code
def yX5_nextToken : MethodName := ⟨RX5, "nextToken", "()V"⟩
abbrev cX5_wordOf : ByteArray := prog_7_method_75_code
def yX5_wordOf : MethodName := ⟨RX5, "wordOf", "([C)I"⟩
abbrev cX5_takesNumber : ByteArray := prog_7_method_76_code
def yX5_takesNumber : MethodName := ⟨RX5, "takesNumber", "(II)I"⟩
abbrev cX5_readsVisitor : ByteArray := prog_7_method_77_code
def yX5_readsVisitor : MethodName := ⟨RX5, "readsVisitor", "(I)Z"⟩
abbrev cX5_readsItem : ByteArray := prog_7_method_78_code
def yX5_readsItem : MethodName := ⟨RX5, "readsItem", "()Z"⟩
abbrev cX5_text : ByteArray := prog_7_method_79_code
def yX5_text : MethodName := ⟨RX5, "text", "()I"⟩
abbrev cX5_isSpot : ByteArray := prog_7_method_80_code
def yX5_isSpot : MethodName := ⟨RX5, "isSpot", "(I)Z"⟩
abbrev cX5_hold : ByteArray := prog_7_method_81_code
def yX5_hold : MethodName := ⟨RX5, "hold", "(II)I"⟩
abbrev cX5_above : ByteArray := prog_7_method_82_code
def yX5_above : MethodName := ⟨RX5, "above", "(I)I"⟩
abbrev cX5_as : ByteArray := prog_7_method_83_code
def yX5_as : MethodName := ⟨RX5, "as", "(II)I"⟩
abbrev cX5_sheet : ByteArray := prog_7_method_84_code
def yX5_sheet : MethodName := ⟨RX5, "sheet", "(III)I"⟩
abbrev cX5_write : ByteArray := prog_7_method_85_code
def yX5_write : MethodName := ⟨RX5, "write", "(III)I"⟩
abbrev cX5_copy : ByteArray := prog_7_method_86_code
def yX5_copy : MethodName := ⟨RX5, "copy", "(IIIII)I"⟩
abbrev cX5_load : ByteArray := prog_7_method_87_code
def yX5_load : MethodName := ⟨RX5, "load", "(I)I"⟩
abbrev cX5_judge : ByteArray := prog_7_method_88_code
def yX5_judge : MethodName := ⟨RX5, "judge", "(I)I"⟩
abbrev cX5_image : ByteArray := prog_7_method_89_code
def yX5_image : MethodName := ⟨RX5, "image", "()I"⟩
abbrev cX5_undo : ByteArray := prog_7_method_90_code
def yX5_undo : MethodName := ⟨RX5, "undo", "()I"⟩
abbrev cX5_tear : ByteArray := prog_7_method_91_code
def yX5_tear : MethodName := ⟨RX5, "tear", "()I"⟩
abbrev cX5_count : ByteArray := prog_7_method_92_code
def yX5_count : MethodName := ⟨RX5, "count", "(I)I"⟩
abbrev cX5_status : ByteArray := prog_7_method_93_code
def yX5_status : MethodName := ⟨RX5, "status", "(I)I"⟩
def RJ6 : String := "java/lang/Integer"
def TJ6 : u_T := fun k => match k with
  | _ => ("", "", "", false)
def tyJ6 : Nat → FieldType := fun k => match k with
  | _ => .int
abbrev wsJ60 : List Cond := u_ws RJ6 TJ6 0
theorem nmJ6 : ∀ a, a < 0 → ∀ b, b < 0 → a ≠ b → (TJ6 a).2.1 ≠ (TJ6 b).2.1 := by decide +kernel
theorem tyJ6_ok : ∀ k, k < 0 → parseFieldDescriptor (TJ6 k).2.2.1 = some (tyJ6 k) := by decide +kernel
abbrev cJ6_bitCount_0f7a4 : ByteArray := prog_8_method_49_code
def yJ6_bitCount_0f7a4 : MethodName := ⟨RJ6, "bitCount", "(I)I"⟩
def RJ9 : String := "java/lang/Math"
def TJ9 : u_T := fun k => match k with
  | _ => ("", "", "", false)
def tyJ9 : Nat → FieldType := fun k => match k with
  | _ => .int
abbrev wsJ90 : List Cond := u_ws RJ9 TJ9 0
theorem nmJ9 : ∀ a, a < 0 → ∀ b, b < 0 → a ≠ b → (TJ9 a).2.1 ≠ (TJ9 b).2.1 := by decide +kernel
theorem tyJ9_ok : ∀ k, k < 0 → parseFieldDescriptor (TJ9 k).2.2.1 = some (tyJ9 k) := by decide +kernel
abbrev cJ9_max_7cf53 : ByteArray := prog_9_method_65_code
def yJ9_max_7cf53 : MethodName := ⟨RJ9, "max", "(II)I"⟩
abbrev cJ9_min_7cf53 : ByteArray := prog_9_method_69_code
def yJ9_min_7cf53 : MethodName := ⟨RJ9, "min", "(II)I"⟩
def RJ0 : String := "java/lang/String"
def TJ0 : u_T := fun k => match k with
  | _ => ("", "", "", false)
def tyJ0 : Nat → FieldType := fun k => match k with
  | _ => .int
abbrev wsJ00 : List Cond := u_ws RJ0 TJ0 0
theorem nmJ0 : ∀ a, a < 0 → ∀ b, b < 0 → a ≠ b → (TJ0 a).2.1 ≠ (TJ0 b).2.1 := by decide +kernel
theorem tyJ0_ok : ∀ k, k < 0 → parseFieldDescriptor (TJ0 k).2.2.1 = some (tyJ0 k) := by decide +kernel
abbrev cJ0_length_8abf5 : ByteArray := prog_10_method_54_code
def yJ0_length_8abf5 : MethodName := ⟨RJ0, "length", "()I"⟩
abbrev cJ0_charAt_5068e : ByteArray := prog_10_method_56_code
def yJ0_charAt_5068e : MethodName := ⟨RJ0, "charAt", "(I)C"⟩
abbrev cJ0_coder_7d493 : ByteArray := prog_10_method_152_code
def yJ0_coder_7d493 : MethodName := ⟨RJ0, "coder", "()B"⟩
abbrev cJ0_isLatin1_aae02 : ByteArray := prog_10_method_154_code
def yJ0_isLatin1_aae02 : MethodName := ⟨RJ0, "isLatin1", "()Z"⟩
abbrev cJ0_checkIndex_df160 : ByteArray := prog_10_method_155_code
def yJ0_checkIndex_df160 : MethodName := ⟨RJ0, "checkIndex", "(II)V"⟩
def RJ1 : String := "java/lang/StringLatin1"
def TJ1 : u_T := fun k => match k with
  | _ => ("", "", "", false)
def tyJ1 : Nat → FieldType := fun k => match k with
  | _ => .int
abbrev wsJ10 : List Cond := u_ws RJ1 TJ1 0
theorem nmJ1 : ∀ a, a < 0 → ∀ b, b < 0 → a ≠ b → (TJ1 a).2.1 ≠ (TJ1 b).2.1 := by decide +kernel
theorem tyJ1_ok : ∀ k, k < 0 → parseFieldDescriptor (TJ1 k).2.2.1 = some (tyJ1 k) := by decide +kernel
abbrev cJ1_charAt_3b067 : ByteArray := prog_11_method_2_code
def yJ1_charAt_3b067 : MethodName := ⟨RJ1, "charAt", "([BI)C"⟩
def RJ2 : String := "java/lang/StringUTF16"
def TJ2 : u_T := fun k => match k with
  | _ => ("", "", "", false)
def tyJ2 : Nat → FieldType := fun k => match k with
  | _ => .int
abbrev wsJ20 : List Cond := u_ws RJ2 TJ2 0
theorem nmJ2 : ∀ a, a < 0 → ∀ b, b < 0 → a ≠ b → (TJ2 a).2.1 ≠ (TJ2 b).2.1 := by decide +kernel
theorem tyJ2_ok : ∀ k, k < 0 → parseFieldDescriptor (TJ2 k).2.2.1 = some (tyJ2 k) := by decide +kernel
abbrev cJ2_getChar_3b067 : ByteArray := prog_12_method_5_code
def yJ2_getChar_3b067 : MethodName := ⟨RJ2, "getChar", "([BI)C"⟩
abbrev cJ2_length_9d52b : ByteArray := prog_12_method_6_code
def yJ2_length_9d52b : MethodName := ⟨RJ2, "length", "([B)I"⟩
abbrev cJ2_charAt_3b067 : ByteArray := prog_12_method_83_code
def yJ2_charAt_3b067 : MethodName := ⟨RJ2, "charAt", "([BI)C"⟩
abbrev cJ2_checkIndex_2214a : ByteArray := prog_12_method_91_code
def yJ2_checkIndex_2214a : MethodName := ⟨RJ2, "checkIndex", "(I[B)V"⟩
def RJ10 : String := "java/lang/System"
def TJ10 : u_T := fun k => match k with
  | _ => ("", "", "", false)
def tyJ10 : Nat → FieldType := fun k => match k with
  | _ => .int
abbrev wsJ100 : List Cond := u_ws RJ10 TJ10 0
theorem nmJ10 : ∀ a, a < 0 → ∀ b, b < 0 → a ≠ b → (TJ10 a).2.1 ≠ (TJ10 b).2.1 := by decide +kernel
theorem tyJ10_ok : ∀ k, k < 0 → parseFieldDescriptor (TJ10 k).2.2.1 = some (tyJ10 k) := by decide +kernel
def RJ3 : String := "jdk/internal/util/Preconditions"
def TJ3 : u_T := fun k => match k with
  | _ => ("", "", "", false)
def tyJ3 : Nat → FieldType := fun k => match k with
  | _ => .int
abbrev wsJ30 : List Cond := u_ws RJ3 TJ3 0
theorem nmJ3 : ∀ a, a < 0 → ∀ b, b < 0 → a ≠ b → (TJ3 a).2.1 ≠ (TJ3 b).2.1 := by decide +kernel
theorem tyJ3_ok : ∀ k, k < 0 → parseFieldDescriptor (TJ3 k).2.2.1 = some (tyJ3 k) := by decide +kernel
abbrev cJ3_checkIndex_8e157 : ByteArray := prog_14_method_11_code
def yJ3_checkIndex_8e157 : MethodName := ⟨RJ3, "checkIndex", "(IILjava/util/function/BiFunction;)I"⟩
def RL : String := "SandLedgerLaw"
abbrev cL_law : ByteArray := code
def yL_law : MethodName := ⟨RL, "law", "([I)Z"⟩
