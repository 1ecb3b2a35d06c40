-- ===== PART A: goes FIRST, ahead of the names: the tables' words, and 'selects' of the private methods out of them =====
/-- a private method of a class that the tables say can be made, by its rows of tables_1 -/
def lw_okq (q : MethodName × Nat) : Prop := (q.1.cls ≠ "java/lang/invoke/MethodHandle" ∧ q.1.cls ≠ "java/lang/invoke/VarHandle") ∧ Cond.instantiable q.1.cls q.2 ∈ tables_1 ∧ Cond.privateMethod q.1 ∈ tables_1 ∧ Cond.instanceMethod q.1 ∈ tables_1
theorem lw_p0 : lw_okq (⟨"PagePairs$History", "stateAt", "(I)LPagePairs$State;"⟩, 2) := ⟨⟨by decide +kernel, by decide +kernel⟩, List.mem_of_getElem? (i := 190) (by decide +kernel), List.mem_of_getElem? (i := 284) (by decide +kernel), List.mem_of_getElem? (i := 285) (by decide +kernel)⟩
theorem lw_p1 : lw_okq (⟨"PagePairs$Requests", "move", "(II)V"⟩, 5) := ⟨⟨by decide +kernel, by decide +kernel⟩, List.mem_of_getElem? (i := 49) (by decide +kernel), List.mem_of_getElem? (i := 327) (by decide +kernel), List.mem_of_getElem? (i := 328) (by decide +kernel)⟩
theorem lw_p2 : lw_okq (⟨"PagePairs$Requests", "put", "(IIIII)V"⟩, 5) := ⟨⟨by decide +kernel, by decide +kernel⟩, List.mem_of_getElem? (i := 49) (by decide +kernel), List.mem_of_getElem? (i := 331) (by decide +kernel), List.mem_of_getElem? (i := 332) (by decide +kernel)⟩
theorem lw_p3 : lw_okq (⟨"PagePairs", "keepChange", "(I)I"⟩, 5) := ⟨⟨by decide +kernel, by decide +kernel⟩, List.mem_of_getElem? (i := 15) (by decide +kernel), List.mem_of_getElem? (i := 335) (by decide +kernel), List.mem_of_getElem? (i := 336) (by decide +kernel)⟩
theorem lw_p4 : lw_okq (⟨"PagePairs$History", "dropOldest", "()V"⟩, 2) := ⟨⟨by decide +kernel, by decide +kernel⟩, List.mem_of_getElem? (i := 190) (by decide +kernel), List.mem_of_getElem? (i := 343) (by decide +kernel), List.mem_of_getElem? (i := 344) (by decide +kernel)⟩
theorem lw_p5 : lw_okq (⟨"PagePairs$State", "takeRequests", "()V"⟩, 11) := ⟨⟨by decide +kernel, by decide +kernel⟩, List.mem_of_getElem? (i := 23) (by decide +kernel), List.mem_of_getElem? (i := 359) (by decide +kernel), List.mem_of_getElem? (i := 360) (by decide +kernel)⟩
theorem lw_p6 : lw_okq (⟨"PagePairs$State", "isFull", "()Z"⟩, 11) := ⟨⟨by decide +kernel, by decide +kernel⟩, List.mem_of_getElem? (i := 23) (by decide +kernel), List.mem_of_getElem? (i := 363) (by decide +kernel), List.mem_of_getElem? (i := 364) (by decide +kernel)⟩
theorem lw_p7 : lw_okq (⟨"PagePairs$State", "isOutdated", "()Z"⟩, 11) := ⟨⟨by decide +kernel, by decide +kernel⟩, List.mem_of_getElem? (i := 23) (by decide +kernel), List.mem_of_getElem? (i := 367) (by decide +kernel), List.mem_of_getElem? (i := 368) (by decide +kernel)⟩
theorem lw_p8 : lw_okq (⟨"PagePairs$State", "beginWriting", "()V"⟩, 11) := ⟨⟨by decide +kernel, by decide +kernel⟩, List.mem_of_getElem? (i := 23) (by decide +kernel), List.mem_of_getElem? (i := 388) (by decide +kernel), List.mem_of_getElem? (i := 389) (by decide +kernel)⟩
theorem lw_p9 : lw_okq (⟨"PagePairs$State", "goOn", "(I)V"⟩, 11) := ⟨⟨by decide +kernel, by decide +kernel⟩, List.mem_of_getElem? (i := 23) (by decide +kernel), List.mem_of_getElem? (i := 433) (by decide +kernel), List.mem_of_getElem? (i := 434) (by decide +kernel)⟩
theorem lw_p10 : lw_okq (⟨"PagePairs$State", "finishWriting", "()V"⟩, 11) := ⟨⟨by decide +kernel, by decide +kernel⟩, List.mem_of_getElem? (i := 23) (by decide +kernel), List.mem_of_getElem? (i := 445) (by decide +kernel), List.mem_of_getElem? (i := 446) (by decide +kernel)⟩
theorem lw_p11 : lw_okq (⟨"PagePairs$State", "tearWriting", "()V"⟩, 11) := ⟨⟨by decide +kernel, by decide +kernel⟩, List.mem_of_getElem? (i := 23) (by decide +kernel), List.mem_of_getElem? (i := 475) (by decide +kernel), List.mem_of_getElem? (i := 476) (by decide +kernel)⟩
theorem lw_p12 : lw_okq (⟨"PagePairs$State", "askForCopy", "(II)V"⟩, 11) := ⟨⟨by decide +kernel, by decide +kernel⟩, List.mem_of_getElem? (i := 23) (by decide +kernel), List.mem_of_getElem? (i := 497) (by decide +kernel), List.mem_of_getElem? (i := 498) (by decide +kernel)⟩
theorem lw_p13 : lw_okq (⟨"PagePairs$State", "settingOrSlowness", "(I)I"⟩, 11) := ⟨⟨by decide +kernel, by decide +kernel⟩, List.mem_of_getElem? (i := 23) (by decide +kernel), List.mem_of_getElem? (i := 646) (by decide +kernel), List.mem_of_getElem? (i := 647) (by decide +kernel)⟩
theorem lw_p14 : lw_okq (⟨"PagePairs$Text", "sign", "()I"⟩, 6) := ⟨⟨by decide +kernel, by decide +kernel⟩, List.mem_of_getElem? (i := 206) (by decide +kernel), List.mem_of_getElem? (i := 715) (by decide +kernel), List.mem_of_getElem? (i := 716) (by decide +kernel)⟩
theorem lw_p15 : lw_okq (⟨"PagePairs$Text", "readNumber", "()I"⟩, 6) := ⟨⟨by decide +kernel, by decide +kernel⟩, List.mem_of_getElem? (i := 206) (by decide +kernel), List.mem_of_getElem? (i := 723) (by decide +kernel), List.mem_of_getElem? (i := 724) (by decide +kernel)⟩
def lw_privs_1 : List (MethodName × Nat) := [(⟨"PagePairs$History", "stateAt", "(I)LPagePairs$State;"⟩, 2), (⟨"PagePairs$Requests", "move", "(II)V"⟩, 5), (⟨"PagePairs$Requests", "put", "(IIIII)V"⟩, 5), (⟨"PagePairs", "keepChange", "(I)I"⟩, 5), (⟨"PagePairs$History", "dropOldest", "()V"⟩, 2), (⟨"PagePairs$State", "takeRequests", "()V"⟩, 11), (⟨"PagePairs$State", "isFull", "()Z"⟩, 11), (⟨"PagePairs$State", "isOutdated", "()Z"⟩, 11), (⟨"PagePairs$State", "beginWriting", "()V"⟩, 11), (⟨"PagePairs$State", "goOn", "(I)V"⟩, 11), (⟨"PagePairs$State", "finishWriting", "()V"⟩, 11), (⟨"PagePairs$State", "tearWriting", "()V"⟩, 11), (⟨"PagePairs$State", "askForCopy", "(II)V"⟩, 11), (⟨"PagePairs$State", "settingOrSlowness", "(I)I"⟩, 11), (⟨"PagePairs$Text", "sign", "()I"⟩, 6), (⟨"PagePairs$Text", "readNumber", "()I"⟩, 6)]
theorem lw_r1 : ∀ q ∈ lw_privs_1, lw_okq q := List.forall_mem_cons.mpr ⟨lw_p0, List.forall_mem_cons.mpr ⟨lw_p1, List.forall_mem_cons.mpr ⟨lw_p2, List.forall_mem_cons.mpr ⟨lw_p3, List.forall_mem_cons.mpr ⟨lw_p4, List.forall_mem_cons.mpr ⟨lw_p5, List.forall_mem_cons.mpr ⟨lw_p6, List.forall_mem_cons.mpr ⟨lw_p7, List.forall_mem_cons.mpr ⟨lw_p8, List.forall_mem_cons.mpr ⟨lw_p9, List.forall_mem_cons.mpr ⟨lw_p10, List.forall_mem_cons.mpr ⟨lw_p11, List.forall_mem_cons.mpr ⟨lw_p12, List.forall_mem_cons.mpr ⟨lw_p13, List.forall_mem_cons.mpr ⟨lw_p14, List.forall_mem_cons.mpr ⟨lw_p15, fun _ h => absurd h List.not_mem_nil⟩⟩⟩⟩⟩⟩⟩⟩⟩⟩⟩⟩⟩⟩⟩⟩
theorem lw_p16 : lw_okq (⟨"PagePairs$Text", "readSign", "(I)Z"⟩, 6) := ⟨⟨by decide +kernel, by decide +kernel⟩, List.mem_of_getElem? (i := 206) (by decide +kernel), List.mem_of_getElem? (i := 727) (by decide +kernel), List.mem_of_getElem? (i := 728) (by decide +kernel)⟩
theorem lw_p17 : lw_okq (⟨"PagePairs$Script", "tellFault", "(II)V"⟩, 5) := ⟨⟨by decide +kernel, by decide +kernel⟩, List.mem_of_getElem? (i := 235) (by decide +kernel), List.mem_of_getElem? (i := 731) (by decide +kernel), List.mem_of_getElem? (i := 732) (by decide +kernel)⟩
theorem lw_p18 : lw_okq (⟨"PagePairsModel", "begins", "()V"⟩, 11) := ⟨⟨by decide +kernel, by decide +kernel⟩, List.mem_of_getElem? (i := 761) (by decide +kernel), List.mem_of_getElem? (i := 805) (by decide +kernel), List.mem_of_getElem? (i := 806) (by decide +kernel)⟩
theorem lw_p19 : lw_okq (⟨"PagePairsModel", "asks", "(III)I"⟩, 11) := ⟨⟨by decide +kernel, by decide +kernel⟩, List.mem_of_getElem? (i := 761) (by decide +kernel), List.mem_of_getElem? (i := 809) (by decide +kernel), List.mem_of_getElem? (i := 810) (by decide +kernel)⟩
theorem lw_p20 : lw_okq (⟨"PagePairsModel", "isOff", "()Z"⟩, 11) := ⟨⟨by decide +kernel, by decide +kernel⟩, List.mem_of_getElem? (i := 761) (by decide +kernel), List.mem_of_getElem? (i := 816) (by decide +kernel), List.mem_of_getElem? (i := 817) (by decide +kernel)⟩
theorem lw_p21 : lw_okq (⟨"PagePairsModel", "comes", "(IIII)V"⟩, 11) := ⟨⟨by decide +kernel, by decide +kernel⟩, List.mem_of_getElem? (i := 761) (by decide +kernel), List.mem_of_getElem? (i := 820) (by decide +kernel), List.mem_of_getElem? (i := 821) (by decide +kernel)⟩
theorem lw_p22 : lw_okq (⟨"PagePairsModel", "acted", "(I)I"⟩, 11) := ⟨⟨by decide +kernel, by decide +kernel⟩, List.mem_of_getElem? (i := 761) (by decide +kernel), List.mem_of_getElem? (i := 824) (by decide +kernel), List.mem_of_getElem? (i := 825) (by decide +kernel)⟩
theorem lw_p23 : lw_okq (⟨"PagePairsModel", "returns", "()V"⟩, 11) := ⟨⟨by decide +kernel, by decide +kernel⟩, List.mem_of_getElem? (i := 761) (by decide +kernel), List.mem_of_getElem? (i := 828) (by decide +kernel), List.mem_of_getElem? (i := 829) (by decide +kernel)⟩
theorem lw_p24 : lw_okq (⟨"PagePairsModel", "lets", "(I)I"⟩, 11) := ⟨⟨by decide +kernel, by decide +kernel⟩, List.mem_of_getElem? (i := 761) (by decide +kernel), List.mem_of_getElem? (i := 836) (by decide +kernel), List.mem_of_getElem? (i := 837) (by decide +kernel)⟩
theorem lw_p25 : lw_okq (⟨"PagePairsModel", "goes", "(I)I"⟩, 11) := ⟨⟨by decide +kernel, by decide +kernel⟩, List.mem_of_getElem? (i := 761) (by decide +kernel), List.mem_of_getElem? (i := 840) (by decide +kernel), List.mem_of_getElem? (i := 841) (by decide +kernel)⟩
theorem lw_p26 : lw_okq (⟨"PagePairsModel", "ticks", "()V"⟩, 11) := ⟨⟨by decide +kernel, by decide +kernel⟩, List.mem_of_getElem? (i := 761) (by decide +kernel), List.mem_of_getElem? (i := 844) (by decide +kernel), List.mem_of_getElem? (i := 845) (by decide +kernel)⟩
theorem lw_p27 : lw_okq (⟨"PagePairsModel", "isWriting", "()Z"⟩, 11) := ⟨⟨by decide +kernel, by decide +kernel⟩, List.mem_of_getElem? (i := 761) (by decide +kernel), List.mem_of_getElem? (i := 848) (by decide +kernel), List.mem_of_getElem? (i := 849) (by decide +kernel)⟩
theorem lw_p28 : lw_okq (⟨"PagePairsModel", "now", "(I)I"⟩, 11) := ⟨⟨by decide +kernel, by decide +kernel⟩, List.mem_of_getElem? (i := 761) (by decide +kernel), List.mem_of_getElem? (i := 852) (by decide +kernel), List.mem_of_getElem? (i := 853) (by decide +kernel)⟩
theorem lw_p29 : lw_okq (⟨"PagePairsModel", "takes", "()V"⟩, 11) := ⟨⟨by decide +kernel, by decide +kernel⟩, List.mem_of_getElem? (i := 761) (by decide +kernel), List.mem_of_getElem? (i := 856) (by decide +kernel), List.mem_of_getElem? (i := 857) (by decide +kernel)⟩
theorem lw_p30 : lw_okq (⟨"PagePairsModel", "next", "()I"⟩, 11) := ⟨⟨by decide +kernel, by decide +kernel⟩, List.mem_of_getElem? (i := 761) (by decide +kernel), List.mem_of_getElem? (i := 860) (by decide +kernel), List.mem_of_getElem? (i := 861) (by decide +kernel)⟩
theorem lw_p31 : lw_okq (⟨"PagePairsModel", "pageAt", "(II)I"⟩, 11) := ⟨⟨by decide +kernel, by decide +kernel⟩, List.mem_of_getElem? (i := 761) (by decide +kernel), List.mem_of_getElem? (i := 864) (by decide +kernel), List.mem_of_getElem? (i := 865) (by decide +kernel)⟩
def lw_privs_2 : List (MethodName × Nat) := [(⟨"PagePairs$Text", "readSign", "(I)Z"⟩, 6), (⟨"PagePairs$Script", "tellFault", "(II)V"⟩, 5), (⟨"PagePairsModel", "begins", "()V"⟩, 11), (⟨"PagePairsModel", "asks", "(III)I"⟩, 11), (⟨"PagePairsModel", "isOff", "()Z"⟩, 11), (⟨"PagePairsModel", "comes", "(IIII)V"⟩, 11), (⟨"PagePairsModel", "acted", "(I)I"⟩, 11), (⟨"PagePairsModel", "returns", "()V"⟩, 11), (⟨"PagePairsModel", "lets", "(I)I"⟩, 11), (⟨"PagePairsModel", "goes", "(I)I"⟩, 11), (⟨"PagePairsModel", "ticks", "()V"⟩, 11), (⟨"PagePairsModel", "isWriting", "()Z"⟩, 11), (⟨"PagePairsModel", "now", "(I)I"⟩, 11), (⟨"PagePairsModel", "takes", "()V"⟩, 11), (⟨"PagePairsModel", "next", "()I"⟩, 11), (⟨"PagePairsModel", "pageAt", "(II)I"⟩, 11)]
theorem lw_r2 : ∀ q ∈ lw_privs_2, lw_okq q := List.forall_mem_cons.mpr ⟨lw_p16, List.forall_mem_cons.mpr ⟨lw_p17, List.forall_mem_cons.mpr ⟨lw_p18, List.forall_mem_cons.mpr ⟨lw_p19, List.forall_mem_cons.mpr ⟨lw_p20, List.forall_mem_cons.mpr ⟨lw_p21, List.forall_mem_cons.mpr ⟨lw_p22, List.forall_mem_cons.mpr ⟨lw_p23, List.forall_mem_cons.mpr ⟨lw_p24, List.forall_mem_cons.mpr ⟨lw_p25, List.forall_mem_cons.mpr ⟨lw_p26, List.forall_mem_cons.mpr ⟨lw_p27, List.forall_mem_cons.mpr ⟨lw_p28, List.forall_mem_cons.mpr ⟨lw_p29, List.forall_mem_cons.mpr ⟨lw_p30, List.forall_mem_cons.mpr ⟨lw_p31, fun _ h => absurd h List.not_mem_nil⟩⟩⟩⟩⟩⟩⟩⟩⟩⟩⟩⟩⟩⟩⟩⟩
theorem lw_p32 : lw_okq (⟨"PagePairsModel", "isPassed", "()Z"⟩, 11) := ⟨⟨by decide +kernel, by decide +kernel⟩, List.mem_of_getElem? (i := 761) (by decide +kernel), List.mem_of_getElem? (i := 868) (by decide +kernel), List.mem_of_getElem? (i := 869) (by decide +kernel)⟩
theorem lw_p33 : lw_okq (⟨"PagePairsModel", "stampOf", "(I)I"⟩, 11) := ⟨⟨by decide +kernel, by decide +kernel⟩, List.mem_of_getElem? (i := 761) (by decide +kernel), List.mem_of_getElem? (i := 872) (by decide +kernel), List.mem_of_getElem? (i := 873) (by decide +kernel)⟩
theorem lw_p34 : lw_okq (⟨"PagePairsModel", "placeOfKey", "(I)I"⟩, 11) := ⟨⟨by decide +kernel, by decide +kernel⟩, List.mem_of_getElem? (i := 761) (by decide +kernel), List.mem_of_getElem? (i := 876) (by decide +kernel), List.mem_of_getElem? (i := 877) (by decide +kernel)⟩
theorem lw_p35 : lw_okq (⟨"PagePairsModel", "atPlace", "(I)I"⟩, 11) := ⟨⟨by decide +kernel, by decide +kernel⟩, List.mem_of_getElem? (i := 761) (by decide +kernel), List.mem_of_getElem? (i := 880) (by decide +kernel), List.mem_of_getElem? (i := 881) (by decide +kernel)⟩
theorem lw_p36 : lw_okq (⟨"PagePairsModel", "backupAt", "(II)I"⟩, 11) := ⟨⟨by decide +kernel, by decide +kernel⟩, List.mem_of_getElem? (i := 761) (by decide +kernel), List.mem_of_getElem? (i := 884) (by decide +kernel), List.mem_of_getElem? (i := 885) (by decide +kernel)⟩
theorem lw_p37 : lw_okq (⟨"PagePairsModel", "goesFirst", "()V"⟩, 11) := ⟨⟨by decide +kernel, by decide +kernel⟩, List.mem_of_getElem? (i := 761) (by decide +kernel), List.mem_of_getElem? (i := 888) (by decide +kernel), List.mem_of_getElem? (i := 889) (by decide +kernel)⟩
theorem lw_p38 : lw_okq (⟨"PagePairsModel", "begin1", "(I)V"⟩, 11) := ⟨⟨by decide +kernel, by decide +kernel⟩, List.mem_of_getElem? (i := 761) (by decide +kernel), List.mem_of_getElem? (i := 892) (by decide +kernel), List.mem_of_getElem? (i := 893) (by decide +kernel)⟩
theorem lw_p39 : lw_okq (⟨"PagePairsModel", "ends", "()V"⟩, 11) := ⟨⟨by decide +kernel, by decide +kernel⟩, List.mem_of_getElem? (i := 761) (by decide +kernel), List.mem_of_getElem? (i := 905) (by decide +kernel), List.mem_of_getElem? (i := 906) (by decide +kernel)⟩
theorem lw_p40 : lw_okq (⟨"PagePairsModel", "clearsBackup", "(II)V"⟩, 11) := ⟨⟨by decide +kernel, by decide +kernel⟩, List.mem_of_getElem? (i := 761) (by decide +kernel), List.mem_of_getElem? (i := 909) (by decide +kernel), List.mem_of_getElem? (i := 910) (by decide +kernel)⟩
theorem lw_p41 : lw_okq (⟨"PagePairsModel", "clearsNow", "()V"⟩, 11) := ⟨⟨by decide +kernel, by decide +kernel⟩, List.mem_of_getElem? (i := 761) (by decide +kernel), List.mem_of_getElem? (i := 913) (by decide +kernel), List.mem_of_getElem? (i := 914) (by decide +kernel)⟩
theorem lw_p42 : lw_okq (⟨"PagePairsModel", "turnsOff", "()I"⟩, 11) := ⟨⟨by decide +kernel, by decide +kernel⟩, List.mem_of_getElem? (i := 761) (by decide +kernel), List.mem_of_getElem? (i := 921) (by decide +kernel), List.mem_of_getElem? (i := 922) (by decide +kernel)⟩
theorem lw_p43 : lw_okq (⟨"PagePairsModel", "breaks", "()I"⟩, 11) := ⟨⟨by decide +kernel, by decide +kernel⟩, List.mem_of_getElem? (i := 761) (by decide +kernel), List.mem_of_getElem? (i := 925) (by decide +kernel), List.mem_of_getElem? (i := 926) (by decide +kernel)⟩
theorem lw_p44 : lw_okq (⟨"PagePairsModel", "tears", "(II)V"⟩, 11) := ⟨⟨by decide +kernel, by decide +kernel⟩, List.mem_of_getElem? (i := 761) (by decide +kernel), List.mem_of_getElem? (i := 929) (by decide +kernel), List.mem_of_getElem? (i := 930) (by decide +kernel)⟩
theorem lw_p45 : lw_okq (⟨"PagePairsModel", "turnsOn", "()I"⟩, 11) := ⟨⟨by decide +kernel, by decide +kernel⟩, List.mem_of_getElem? (i := 761) (by decide +kernel), List.mem_of_getElem? (i := 940) (by decide +kernel), List.mem_of_getElem? (i := 941) (by decide +kernel)⟩
theorem lw_p46 : lw_okq (⟨"PagePairsModel", "isPlace", "(I)Z"⟩, 11) := ⟨⟨by decide +kernel, by decide +kernel⟩, List.mem_of_getElem? (i := 761) (by decide +kernel), List.mem_of_getElem? (i := 944) (by decide +kernel), List.mem_of_getElem? (i := 945) (by decide +kernel)⟩
theorem lw_p47 : lw_okq (⟨"PagePairsModel", "copies", "(II)V"⟩, 11) := ⟨⟨by decide +kernel, by decide +kernel⟩, List.mem_of_getElem? (i := 761) (by decide +kernel), List.mem_of_getElem? (i := 948) (by decide +kernel), List.mem_of_getElem? (i := 949) (by decide +kernel)⟩
def lw_privs_3 : List (MethodName × Nat) := [(⟨"PagePairsModel", "isPassed", "()Z"⟩, 11), (⟨"PagePairsModel", "stampOf", "(I)I"⟩, 11), (⟨"PagePairsModel", "placeOfKey", "(I)I"⟩, 11), (⟨"PagePairsModel", "atPlace", "(I)I"⟩, 11), (⟨"PagePairsModel", "backupAt", "(II)I"⟩, 11), (⟨"PagePairsModel", "goesFirst", "()V"⟩, 11), (⟨"PagePairsModel", "begin1", "(I)V"⟩, 11), (⟨"PagePairsModel", "ends", "()V"⟩, 11), (⟨"PagePairsModel", "clearsBackup", "(II)V"⟩, 11), (⟨"PagePairsModel", "clearsNow", "()V"⟩, 11), (⟨"PagePairsModel", "turnsOff", "()I"⟩, 11), (⟨"PagePairsModel", "breaks", "()I"⟩, 11), (⟨"PagePairsModel", "tears", "(II)V"⟩, 11), (⟨"PagePairsModel", "turnsOn", "()I"⟩, 11), (⟨"PagePairsModel", "isPlace", "(I)Z"⟩, 11), (⟨"PagePairsModel", "copies", "(II)V"⟩, 11)]
theorem lw_r3 : ∀ q ∈ lw_privs_3, lw_okq q := List.forall_mem_cons.mpr ⟨lw_p32, List.forall_mem_cons.mpr ⟨lw_p33, List.forall_mem_cons.mpr ⟨lw_p34, List.forall_mem_cons.mpr ⟨lw_p35, List.forall_mem_cons.mpr ⟨lw_p36, List.forall_mem_cons.mpr ⟨lw_p37, List.forall_mem_cons.mpr ⟨lw_p38, List.forall_mem_cons.mpr ⟨lw_p39, List.forall_mem_cons.mpr ⟨lw_p40, List.forall_mem_cons.mpr ⟨lw_p41, List.forall_mem_cons.mpr ⟨lw_p42, List.forall_mem_cons.mpr ⟨lw_p43, List.forall_mem_cons.mpr ⟨lw_p44, List.forall_mem_cons.mpr ⟨lw_p45, List.forall_mem_cons.mpr ⟨lw_p46, List.forall_mem_cons.mpr ⟨lw_p47, fun _ h => absurd h List.not_mem_nil⟩⟩⟩⟩⟩⟩⟩⟩⟩⟩⟩⟩⟩⟩⟩⟩
theorem lw_p48 : lw_okq (⟨"PagePairsModel", "changes", "()I"⟩, 11) := ⟨⟨by decide +kernel, by decide +kernel⟩, List.mem_of_getElem? (i := 761) (by decide +kernel), List.mem_of_getElem? (i := 956) (by decide +kernel), List.mem_of_getElem? (i := 957) (by decide +kernel)⟩
theorem lw_p49 : lw_okq (⟨"PagePairsModel", "isBlank", "(I)Z"⟩, 11) := ⟨⟨by decide +kernel, by decide +kernel⟩, List.mem_of_getElem? (i := 761) (by decide +kernel), List.mem_of_getElem? (i := 960) (by decide +kernel), List.mem_of_getElem? (i := 961) (by decide +kernel)⟩
theorem lw_p50 : lw_okq (⟨"PagePairsModel", "cleans", "(I)I"⟩, 11) := ⟨⟨by decide +kernel, by decide +kernel⟩, List.mem_of_getElem? (i := 761) (by decide +kernel), List.mem_of_getElem? (i := 968) (by decide +kernel), List.mem_of_getElem? (i := 969) (by decide +kernel)⟩
theorem lw_p51 : lw_okq (⟨"PagePairsModel", "erases", "(I)I"⟩, 11) := ⟨⟨by decide +kernel, by decide +kernel⟩, List.mem_of_getElem? (i := 761) (by decide +kernel), List.mem_of_getElem? (i := 979) (by decide +kernel), List.mem_of_getElem? (i := 980) (by decide +kernel)⟩
theorem lw_p52 : lw_okq (⟨"PagePairsModel", "puts", "(II)I"⟩, 11) := ⟨⟨by decide +kernel, by decide +kernel⟩, List.mem_of_getElem? (i := 761) (by decide +kernel), List.mem_of_getElem? (i := 987) (by decide +kernel), List.mem_of_getElem? (i := 988) (by decide +kernel)⟩
theorem lw_p53 : lw_okq (⟨"PagePairsModel", "counted", "(I)I"⟩, 11) := ⟨⟨by decide +kernel, by decide +kernel⟩, List.mem_of_getElem? (i := 761) (by decide +kernel), List.mem_of_getElem? (i := 1022) (by decide +kernel), List.mem_of_getElem? (i := 1023) (by decide +kernel)⟩
theorem lw_p54 : lw_okq (⟨"PagePairsModel", "torn", "()I"⟩, 11) := ⟨⟨by decide +kernel, by decide +kernel⟩, List.mem_of_getElem? (i := 761) (by decide +kernel), List.mem_of_getElem? (i := 1026) (by decide +kernel), List.mem_of_getElem? (i := 1027) (by decide +kernel)⟩
theorem lw_p55 : lw_okq (⟨"PagePairsModel", "keysThere", "()I"⟩, 11) := ⟨⟨by decide +kernel, by decide +kernel⟩, List.mem_of_getElem? (i := 761) (by decide +kernel), List.mem_of_getElem? (i := 1030) (by decide +kernel), List.mem_of_getElem? (i := 1031) (by decide +kernel)⟩
theorem lw_p56 : lw_okq (⟨"PagePairsModel", "does", "()I"⟩, 11) := ⟨⟨by decide +kernel, by decide +kernel⟩, List.mem_of_getElem? (i := 761) (by decide +kernel), List.mem_of_getElem? (i := 1058) (by decide +kernel), List.mem_of_getElem? (i := 1059) (by decide +kernel)⟩
theorem lw_p57 : lw_okq (⟨"PagePairsModel", "here", "()I"⟩, 11) := ⟨⟨by decide +kernel, by decide +kernel⟩, List.mem_of_getElem? (i := 761) (by decide +kernel), List.mem_of_getElem? (i := 1062) (by decide +kernel), List.mem_of_getElem? (i := 1063) (by decide +kernel)⟩
theorem lw_p58 : lw_okq (⟨"PagePairsModel", "number", "()I"⟩, 11) := ⟨⟨by decide +kernel, by decide +kernel⟩, List.mem_of_getElem? (i := 761) (by decide +kernel), List.mem_of_getElem? (i := 1072) (by decide +kernel), List.mem_of_getElem? (i := 1073) (by decide +kernel)⟩
theorem lw_p59 : lw_okq (⟨"PagePairsModel", "isDigit", "()Z"⟩, 11) := ⟨⟨by decide +kernel, by decide +kernel⟩, List.mem_of_getElem? (i := 761) (by decide +kernel), List.mem_of_getElem? (i := 1076) (by decide +kernel), List.mem_of_getElem? (i := 1077) (by decide +kernel)⟩
theorem lw_p60 : lw_okq (⟨"PagePairsModel", "takesSign", "(I)V"⟩, 11) := ⟨⟨by decide +kernel, by decide +kernel⟩, List.mem_of_getElem? (i := 761) (by decide +kernel), List.mem_of_getElem? (i := 1080) (by decide +kernel), List.mem_of_getElem? (i := 1081) (by decide +kernel)⟩
theorem lw_p61 : lw_okq (⟨"PagePairsModel", "called", "(III)I"⟩, 11) := ⟨⟨by decide +kernel, by decide +kernel⟩, List.mem_of_getElem? (i := 761) (by decide +kernel), List.mem_of_getElem? (i := 1084) (by decide +kernel), List.mem_of_getElem? (i := 1085) (by decide +kernel)⟩
def lw_privs_4 : List (MethodName × Nat) := [(⟨"PagePairsModel", "changes", "()I"⟩, 11), (⟨"PagePairsModel", "isBlank", "(I)Z"⟩, 11), (⟨"PagePairsModel", "cleans", "(I)I"⟩, 11), (⟨"PagePairsModel", "erases", "(I)I"⟩, 11), (⟨"PagePairsModel", "puts", "(II)I"⟩, 11), (⟨"PagePairsModel", "counted", "(I)I"⟩, 11), (⟨"PagePairsModel", "torn", "()I"⟩, 11), (⟨"PagePairsModel", "keysThere", "()I"⟩, 11), (⟨"PagePairsModel", "does", "()I"⟩, 11), (⟨"PagePairsModel", "here", "()I"⟩, 11), (⟨"PagePairsModel", "number", "()I"⟩, 11), (⟨"PagePairsModel", "isDigit", "()Z"⟩, 11), (⟨"PagePairsModel", "takesSign", "(I)V"⟩, 11), (⟨"PagePairsModel", "called", "(III)I"⟩, 11)]
theorem lw_r4 : ∀ q ∈ lw_privs_4, lw_okq q := List.forall_mem_cons.mpr ⟨lw_p48, List.forall_mem_cons.mpr ⟨lw_p49, List.forall_mem_cons.mpr ⟨lw_p50, List.forall_mem_cons.mpr ⟨lw_p51, List.forall_mem_cons.mpr ⟨lw_p52, List.forall_mem_cons.mpr ⟨lw_p53, List.forall_mem_cons.mpr ⟨lw_p54, List.forall_mem_cons.mpr ⟨lw_p55, List.forall_mem_cons.mpr ⟨lw_p56, List.forall_mem_cons.mpr ⟨lw_p57, List.forall_mem_cons.mpr ⟨lw_p58, List.forall_mem_cons.mpr ⟨lw_p59, List.forall_mem_cons.mpr ⟨lw_p60, List.forall_mem_cons.mpr ⟨lw_p61, fun _ h => absurd h List.not_mem_nil⟩⟩⟩⟩⟩⟩⟩⟩⟩⟩⟩⟩⟩⟩
def lw_privs : List (MethodName × Nat) := lw_privs_1 ++ (lw_privs_2 ++ (lw_privs_3 ++ (lw_privs_4)))
def lw_tbl : List Cond := k2_sels lw_privs ++ tables_1
theorem lw_privs_ok : ∀ q ∈ lw_privs, lw_okq q := by
  show ∀ q ∈ lw_privs_1 ++ (lw_privs_2 ++ (lw_privs_3 ++ (lw_privs_4))), lw_okq q
  exact List.forall_mem_append.mpr ⟨lw_r1, List.forall_mem_append.mpr ⟨lw_r2, List.forall_mem_append.mpr ⟨lw_r3, lw_r4⟩⟩⟩
def RX0 : String := "PagePairs$Cells"
def TX0 : u_T := fun k => match k with
  | 0 => ("PagePairs$Cells", "kinds", "[I", true)
  | 1 => ("PagePairs$Cells", "keys", "[I", true)
  | 2 => ("PagePairs$Cells", "values", "[I", true)
  | _ => ("PagePairs$Cells", "stamps", "[I", true)
def tyX0 : Nat → FieldType := fun k => match k with
  | 0 => .array .int
  | 1 => .array .int
  | 2 => .array .int
  | _ => .array .int
theorem nmX0 : ∀ a, a < 4 → ∀ b, b < 4 → a ≠ b → (TX0 a).2.1 ≠ (TX0 b).2.1 := by decide +kernel
theorem tyX0_ok : ∀ k, k < 4 → parseFieldDescriptor (TX0 k).2.2.1 = some (tyX0 k) := by decide +kernel
abbrev cX0_init : ByteArray := prog_2_method_1_code
def yX0_init : MethodName := ⟨RX0, "<init>", "()V"⟩
abbrev cX0_copyFrom : ByteArray := prog_2_method_2_code
def yX0_copyFrom : MethodName := ⟨RX0, "copyFrom", "(LPagePairs$Cells;)V"⟩
abbrev cX0_kind : ByteArray := prog_2_method_3_code
def yX0_kind : MethodName := ⟨RX0, "kind", "(I)I"⟩
abbrev cX0_key : ByteArray := prog_2_method_4_code
def yX0_key : MethodName := ⟨RX0, "key", "(I)I"⟩
abbrev cX0_value : ByteArray := prog_2_method_5_code
def yX0_value : MethodName := ⟨RX0, "value", "(I)I"⟩
abbrev cX0_stamp : ByteArray := prog_2_method_6_code
def yX0_stamp : MethodName := ⟨RX0, "stamp", "(I)I"⟩
abbrev cX0_fact : ByteArray := prog_2_method_7_code
def yX0_fact : MethodName := ⟨RX0, "fact", "(II)I"⟩
abbrev cX0_begin : ByteArray := prog_2_method_8_code
def yX0_begin : MethodName := ⟨RX0, "begin", "(IIII)V"⟩
abbrev cX0_beginBackup : ByteArray := prog_2_method_9_code
def yX0_beginBackup : MethodName := ⟨RX0, "beginBackup", "(II)V"⟩
abbrev cX0_mark : ByteArray := prog_2_method_10_code
def yX0_mark : MethodName := ⟨RX0, "mark", "(II)V"⟩
abbrev cX0_blankBlock : ByteArray := prog_2_method_11_code
def yX0_blankBlock : MethodName := ⟨RX0, "blankBlock", "(I)V"⟩
abbrev cX0_isBlankBlock : ByteArray := prog_2_method_12_code
def yX0_isBlankBlock : MethodName := ⟨RX0, "isBlankBlock", "(I)Z"⟩
abbrev cX0_place : ByteArray := prog_2_method_13_code
def yX0_place : MethodName := ⟨RX0, "place", "(I)I"⟩
abbrev cX0_isPlace : ByteArray := prog_2_method_14_code
def yX0_isPlace : MethodName := ⟨RX0, "isPlace", "(I)Z"⟩
abbrev cX0_placeStamp : ByteArray := prog_2_method_15_code
def yX0_placeStamp : MethodName := ⟨RX0, "placeStamp", "(I)I"⟩
abbrev cX0_placesInBlock : ByteArray := prog_2_method_16_code
def yX0_placesInBlock : MethodName := ⟨RX0, "placesInBlock", "(I)I"⟩
abbrev cX0_tornPages : ByteArray := prog_2_method_17_code
def yX0_tornPages : MethodName := ⟨RX0, "tornPages", "()I"⟩
abbrev cX0_keysWithPlace : ByteArray := prog_2_method_18_code
def yX0_keysWithPlace : MethodName := ⟨RX0, "keysWithPlace", "()I"⟩
def RX1 : String := "PagePairs$History"
def TX1 : u_T := fun k => match k with
  | 0 => ("PagePairs$History", "states", "[LPagePairs$State;", true)
  | _ => ("PagePairs$History", "size", "I", false)
def tyX1 : Nat → FieldType := fun k => match k with
  | 0 => .array (.object "PagePairs$State")
  | _ => .int
theorem nmX1 : ∀ a, a < 2 → ∀ b, b < 2 → a ≠ b → (TX1 a).2.1 ≠ (TX1 b).2.1 := by decide +kernel
theorem tyX1_ok : ∀ k, k < 2 → parseFieldDescriptor (TX1 k).2.2.1 = some (tyX1 k) := by decide +kernel
abbrev cX1_init : ByteArray := prog_3_method_1_code
def yX1_init : MethodName := ⟨RX1, "<init>", "()V"⟩
abbrev cX1_size : ByteArray := prog_3_method_2_code
def yX1_size : MethodName := ⟨RX1, "size", "()I"⟩
abbrev cX1_note : ByteArray := prog_3_method_3_code
def yX1_note : MethodName := ⟨RX1, "note", "(LPagePairs$State;)V"⟩
abbrev cX1_keep : ByteArray := prog_3_method_4_code
def yX1_keep : MethodName := ⟨RX1, "keep", "()V"⟩
abbrev cX1_restore : ByteArray := prog_3_method_5_code
def yX1_restore : MethodName := ⟨RX1, "restore", "(LPagePairs$State;)I"⟩
abbrev cX1_stateAt : ByteArray := prog_3_method_6_code
def yX1_stateAt : MethodName := ⟨RX1, "stateAt", "(I)LPagePairs$State;"⟩
abbrev cX1_dropOldest : ByteArray := prog_3_method_7_code
def yX1_dropOldest : MethodName := ⟨RX1, "dropOldest", "()V"⟩
def RX2 : String := "PagePairs$Requests"
def TX2 : u_T := fun k => match k with
  | 0 => ("PagePairs$Requests", "keys", "[I", true)
  | 1 => ("PagePairs$Requests", "values", "[I", true)
  | 2 => ("PagePairs$Requests", "urgencies", "[I", true)
  | 3 => ("PagePairs$Requests", "stamps", "[I", true)
  | _ => ("PagePairs$Requests", "size", "I", false)
def tyX2 : Nat → FieldType := fun k => match k with
  | 0 => .array .int
  | 1 => .array .int
  | 2 => .array .int
  | 3 => .array .int
  | _ => .int
theorem nmX2 : ∀ a, a < 5 → ∀ b, b < 5 → a ≠ b → (TX2 a).2.1 ≠ (TX2 b).2.1 := by decide +kernel
theorem tyX2_ok : ∀ k, k < 5 → parseFieldDescriptor (TX2 k).2.2.1 = some (tyX2 k) := by decide +kernel
abbrev cX2_init : ByteArray := prog_4_method_1_code
def yX2_init : MethodName := ⟨RX2, "<init>", "()V"⟩
abbrev cX2_copyFrom : ByteArray := prog_4_method_2_code
def yX2_copyFrom : MethodName := ⟨RX2, "copyFrom", "(LPagePairs$Requests;)V"⟩
abbrev cX2_size : ByteArray := prog_4_method_3_code
def yX2_size : MethodName := ⟨RX2, "size", "()I"⟩
abbrev cX2_key : ByteArray := prog_4_method_4_code
def yX2_key : MethodName := ⟨RX2, "key", "(I)I"⟩
abbrev cX2_value : ByteArray := prog_4_method_5_code
def yX2_value : MethodName := ⟨RX2, "value", "(I)I"⟩
abbrev cX2_urgency : ByteArray := prog_4_method_6_code
def yX2_urgency : MethodName := ⟨RX2, "urgency", "(I)I"⟩
abbrev cX2_stamp : ByteArray := prog_4_method_7_code
def yX2_stamp : MethodName := ⟨RX2, "stamp", "(I)I"⟩
abbrev cX2_add : ByteArray := prog_4_method_8_code
def yX2_add : MethodName := ⟨RX2, "add", "(IIII)V"⟩
abbrev cX2_dropFirst : ByteArray := prog_4_method_9_code
def yX2_dropFirst : MethodName := ⟨RX2, "dropFirst", "()V"⟩
abbrev cX2_makeEmpty : ByteArray := prog_4_method_10_code
def yX2_makeEmpty : MethodName := ⟨RX2, "makeEmpty", "()V"⟩
abbrev cX2_move : ByteArray := prog_4_method_11_code
def yX2_move : MethodName := ⟨RX2, "move", "(II)V"⟩
abbrev cX2_put : ByteArray := prog_4_method_12_code
def yX2_put : MethodName := ⟨RX2, "put", "(IIIII)V"⟩
def RX3 : String := "PagePairs$Script"
def TX3 : u_T := fun k => match k with
  | 0 => ("PagePairs$Script", "done", "I", false)
  | 1 => ("PagePairs$Script", "faulty", "Z", false)
  | 2 => ("PagePairs$Script", "position", "I", false)
  | 3 => ("PagePairs$Script", "reason", "I", false)
  | _ => ("PagePairs$Script", "cause", "I", false)
def tyX3 : Nat → FieldType := fun k => match k with
  | 0 => .int
  | 1 => .boolean
  | 2 => .int
  | 3 => .int
  | _ => .int
theorem nmX3 : ∀ a, a < 5 → ∀ b, b < 5 → a ≠ b → (TX3 a).2.1 ≠ (TX3 b).2.1 := by decide +kernel
theorem tyX3_ok : ∀ k, k < 5 → parseFieldDescriptor (TX3 k).2.2.1 = some (tyX3 k) := by decide +kernel
abbrev cX3_init : ByteArray := prog_5_method_1_code
def yX3_init : MethodName := ⟨RX3, "<init>", "()V"⟩
abbrev cX3_run : ByteArray := prog_5_method_2_code
def yX3_run : MethodName := ⟨RX3, "run", "(LPagePairs$Text;LPagePairs$State;)V"⟩
abbrev cX3_hasFault : ByteArray := prog_5_method_3_code
def yX3_hasFault : MethodName := ⟨RX3, "hasFault", "()Z"⟩
abbrev cX3_commandsDone : ByteArray := prog_5_method_4_code
def yX3_commandsDone : MethodName := ⟨RX3, "commandsDone", "()I"⟩
abbrev cX3_faultFact : ByteArray := prog_5_method_5_code
def yX3_faultFact : MethodName := ⟨RX3, "faultFact", "(I)I"⟩
abbrev cX3_tellFault : ByteArray := prog_5_method_6_code
def yX3_tellFault : MethodName := ⟨RX3, "tellFault", "(II)V"⟩
abbrev cX3_perform : ByteArray := prog_5_method_7_code
def yX3_perform : MethodName := ⟨RX3, "perform", "(LPagePairs$Text;LPagePairs$State;)I"⟩
def RX4 : String := "PagePairs$State"
def TX4 : u_T := fun k => match k with
  | 0 => ("PagePairs$State", "cells", "LPagePairs$Cells;", true)
  | 1 => ("PagePairs$State", "requests", "LPagePairs$Requests;", true)
  | 2 => ("PagePairs$State", "writing", "LPagePairs$Writing;", true)
  | 3 => ("PagePairs$State", "tallies", "LPagePairs$Tallies;", true)
  | 4 => ("PagePairs$State", "settings", "[I", true)
  | 5 => ("PagePairs$State", "slowness", "[I", true)
  | 6 => ("PagePairs$State", "erased", "[I", true)
  | 7 => ("PagePairs$State", "stampsAhead", "[I", true)
  | 8 => ("PagePairs$State", "power", "Z", false)
  | 9 => ("PagePairs$State", "active", "I", false)
  | _ => ("PagePairs$State", "next", "I", false)
def tyX4 : Nat → FieldType := fun k => match k with
  | 0 => .object "PagePairs$Cells"
  | 1 => .object "PagePairs$Requests"
  | 2 => .object "PagePairs$Writing"
  | 3 => .object "PagePairs$Tallies"
  | 4 => .array .int
  | 5 => .array .int
  | 6 => .array .int
  | 7 => .array .int
  | 8 => .boolean
  | 9 => .int
  | _ => .int
theorem nmX4 : ∀ a, a < 11 → ∀ b, b < 11 → a ≠ b → (TX4 a).2.1 ≠ (TX4 b).2.1 := by decide +kernel
theorem tyX4_ok : ∀ k, k < 11 → parseFieldDescriptor (TX4 k).2.2.1 = some (tyX4 k) := by decide +kernel
abbrev cX4_init : ByteArray := prog_6_method_1_code
def yX4_init : MethodName := ⟨RX4, "<init>", "()V"⟩
abbrev cX4_copyFrom : ByteArray := prog_6_method_2_code
def yX4_copyFrom : MethodName := ⟨RX4, "copyFrom", "(LPagePairs$State;)V"⟩
abbrev cX4_hasPower : ByteArray := prog_6_method_3_code
def yX4_hasPower : MethodName := ⟨RX4, "hasPower", "()Z"⟩
abbrev cX4_askFor : ByteArray := prog_6_method_4_code
def yX4_askFor : MethodName := ⟨RX4, "askFor", "(III)I"⟩
abbrev cX4_letTicks : ByteArray := prog_6_method_5_code
def yX4_letTicks : MethodName := ⟨RX4, "letTicks", "(I)I"⟩
abbrev cX4_pass : ByteArray := prog_6_method_6_code
def yX4_pass : MethodName := ⟨RX4, "pass", "(I)V"⟩
abbrev cX4_passUntilDone : ByteArray := prog_6_method_7_code
def yX4_passUntilDone : MethodName := ⟨RX4, "passUntilDone", "()I"⟩
abbrev cX4_isFull : ByteArray := prog_6_method_8_code
def yX4_isFull : MethodName := ⟨RX4, "isFull", "()Z"⟩
abbrev cX4_takeRequests : ByteArray := prog_6_method_9_code
def yX4_takeRequests : MethodName := ⟨RX4, "takeRequests", "()V"⟩
abbrev cX4_isOutdated : ByteArray := prog_6_method_10_code
def yX4_isOutdated : MethodName := ⟨RX4, "isOutdated", "()Z"⟩
abbrev cX4_beginWriting : ByteArray := prog_6_method_11_code
def yX4_beginWriting : MethodName := ⟨RX4, "beginWriting", "()V"⟩
abbrev cX4_goOn : ByteArray := prog_6_method_12_code
def yX4_goOn : MethodName := ⟨RX4, "goOn", "(I)V"⟩
abbrev cX4_finishWriting : ByteArray := prog_6_method_13_code
def yX4_finishWriting : MethodName := ⟨RX4, "finishWriting", "()V"⟩
abbrev cX4_cutPower : ByteArray := prog_6_method_14_code
def yX4_cutPower : MethodName := ⟨RX4, "cutPower", "()I"⟩
abbrev cX4_loseByCut : ByteArray := prog_6_method_15_code
def yX4_loseByCut : MethodName := ⟨RX4, "loseByCut", "()I"⟩
abbrev cX4_tearWriting : ByteArray := prog_6_method_16_code
def yX4_tearWriting : MethodName := ⟨RX4, "tearWriting", "()V"⟩
abbrev cX4_restorePower : ByteArray := prog_6_method_17_code
def yX4_restorePower : MethodName := ⟨RX4, "restorePower", "()I"⟩
abbrev cX4_askForCopy : ByteArray := prog_6_method_18_code
def yX4_askForCopy : MethodName := ⟨RX4, "askForCopy", "(II)V"⟩
abbrev cX4_turnToOther : ByteArray := prog_6_method_19_code
def yX4_turnToOther : MethodName := ⟨RX4, "turnToOther", "()I"⟩
abbrev cX4_cleanBlock : ByteArray := prog_6_method_20_code
def yX4_cleanBlock : MethodName := ⟨RX4, "cleanBlock", "(I)I"⟩
abbrev cX4_eraseBlock : ByteArray := prog_6_method_21_code
def yX4_eraseBlock : MethodName := ⟨RX4, "eraseBlock", "(I)I"⟩
abbrev cX4_changeSlowness : ByteArray := prog_6_method_22_code
def yX4_changeSlowness : MethodName := ⟨RX4, "changeSlowness", "(II)I"⟩
abbrev cX4_changeSetting : ByteArray := prog_6_method_23_code
def yX4_changeSetting : MethodName := ⟨RX4, "changeSetting", "(II)I"⟩
abbrev cX4_valueOfKey : ByteArray := prog_6_method_24_code
def yX4_valueOfKey : MethodName := ⟨RX4, "valueOfKey", "(I)I"⟩
abbrev cX4_placeFact : ByteArray := prog_6_method_25_code
def yX4_placeFact : MethodName := ⟨RX4, "placeFact", "(II)I"⟩
abbrev cX4_pageFact : ByteArray := prog_6_method_26_code
def yX4_pageFact : MethodName := ⟨RX4, "pageFact", "(III)I"⟩
abbrev cX4_backupFact : ByteArray := prog_6_method_27_code
def yX4_backupFact : MethodName := ⟨RX4, "backupFact", "(III)I"⟩
abbrev cX4_requestFact : ByteArray := prog_6_method_28_code
def yX4_requestFact : MethodName := ⟨RX4, "requestFact", "(II)I"⟩
abbrev cX4_numberOf : ByteArray := prog_6_method_29_code
def yX4_numberOf : MethodName := ⟨RX4, "numberOf", "(I)I"⟩
abbrev cX4_settingOrSlowness : ByteArray := prog_6_method_30_code
def yX4_settingOrSlowness : MethodName := ⟨RX4, "settingOrSlowness", "(I)I"⟩
def RX5 : String := "PagePairs$Tallies"
def TX5 : u_T := fun k => match k with
  | 0 => ("PagePairs$Tallies", "time", "I", false)
  | 1 => ("PagePairs$Tallies", "stamps", "I", false)
  | 2 => ("PagePairs$Tallies", "acknowledged", "I", false)
  | 3 => ("PagePairs$Tallies", "goneByCuts", "I", false)
  | 4 => ("PagePairs$Tallies", "lostKeys", "I", false)
  | 5 => ("PagePairs$Tallies", "cuts", "I", false)
  | _ => ("PagePairs$Tallies", "backups", "I", false)
def tyX5 : Nat → FieldType := fun k => match k with
  | 0 => .int
  | 1 => .int
  | 2 => .int
  | 3 => .int
  | 4 => .int
  | 5 => .int
  | _ => .int
theorem nmX5 : ∀ a, a < 7 → ∀ b, b < 7 → a ≠ b → (TX5 a).2.1 ≠ (TX5 b).2.1 := by decide +kernel
theorem tyX5_ok : ∀ k, k < 7 → parseFieldDescriptor (TX5 k).2.2.1 = some (tyX5 k) := by decide +kernel
abbrev cX5_init : ByteArray := prog_7_method_1_code
def yX5_init : MethodName := ⟨RX5, "<init>", "()V"⟩
abbrev cX5_copyFrom : ByteArray := prog_7_method_2_code
def yX5_copyFrom : MethodName := ⟨RX5, "copyFrom", "(LPagePairs$Tallies;)V"⟩
def RX6 : String := "PagePairs$Text"
def TX6 : u_T := fun k => match k with
  | 0 => ("PagePairs$Text", "signs", "[I", true)
  | 1 => ("PagePairs$Text", "length", "I", false)
  | 2 => ("PagePairs$Text", "cursor", "I", false)
  | 3 => ("PagePairs$Text", "command", "I", false)
  | 4 => ("PagePairs$Text", "first", "I", false)
  | _ => ("PagePairs$Text", "second", "I", false)
def tyX6 : Nat → FieldType := fun k => match k with
  | 0 => .array .int
  | 1 => .int
  | 2 => .int
  | 3 => .int
  | 4 => .int
  | _ => .int
theorem nmX6 : ∀ a, a < 6 → ∀ b, b < 6 → a ≠ b → (TX6 a).2.1 ≠ (TX6 b).2.1 := by decide +kernel
theorem tyX6_ok : ∀ k, k < 6 → parseFieldDescriptor (TX6 k).2.2.1 = some (tyX6 k) := by decide +kernel
abbrev cX6_init : ByteArray := prog_8_method_1_code
def yX6_init : MethodName := ⟨RX6, "<init>", "()V"⟩
abbrev cX6_length : ByteArray := prog_8_method_2_code
def yX6_length : MethodName := ⟨RX6, "length", "()I"⟩
abbrev cX6_append : ByteArray := prog_8_method_3_code
def yX6_append : MethodName := ⟨RX6, "append", "(I)I"⟩
abbrev cX6_makeEmpty : ByteArray := prog_8_method_4_code
def yX6_makeEmpty : MethodName := ⟨RX6, "makeEmpty", "()I"⟩
abbrev cX6_rewind : ByteArray := prog_8_method_5_code
def yX6_rewind : MethodName := ⟨RX6, "rewind", "()V"⟩
abbrev cX6_hasMore : ByteArray := prog_8_method_6_code
def yX6_hasMore : MethodName := ⟨RX6, "hasMore", "()Z"⟩
abbrev cX6_readCommand : ByteArray := prog_8_method_7_code
def yX6_readCommand : MethodName := ⟨RX6, "readCommand", "()Z"⟩
abbrev cX6_numbersOf : ByteArray := prog_8_method_8_code
def yX6_numbersOf : MethodName := ⟨RX6, "numbersOf", "(I)I"⟩
abbrev cX6_readNumber : ByteArray := prog_8_method_9_code
def yX6_readNumber : MethodName := ⟨RX6, "readNumber", "()I"⟩
abbrev cX6_readSign : ByteArray := prog_8_method_10_code
def yX6_readSign : MethodName := ⟨RX6, "readSign", "(I)Z"⟩
abbrev cX6_sign : ByteArray := prog_8_method_11_code
def yX6_sign : MethodName := ⟨RX6, "sign", "()I"⟩
def RX7 : String := "PagePairs$Writing"
def TX7 : u_T := fun k => match k with
  | 0 => ("PagePairs$Writing", "busy", "Z", false)
  | 1 => ("PagePairs$Writing", "late", "Z", false)
  | 2 => ("PagePairs$Writing", "urgency", "I", false)
  | 3 => ("PagePairs$Writing", "pageCell", "I", false)
  | 4 => ("PagePairs$Writing", "earlyCell", "I", false)
  | 5 => ("PagePairs$Writing", "backupCell", "I", false)
  | 6 => ("PagePairs$Writing", "ownTicks", "I", false)
  | _ => ("PagePairs$Writing", "left", "I", false)
def tyX7 : Nat → FieldType := fun k => match k with
  | 0 => .boolean
  | 1 => .boolean
  | 2 => .int
  | 3 => .int
  | 4 => .int
  | 5 => .int
  | 6 => .int
  | _ => .int
theorem nmX7 : ∀ a, a < 8 → ∀ b, b < 8 → a ≠ b → (TX7 a).2.1 ≠ (TX7 b).2.1 := by decide +kernel
theorem tyX7_ok : ∀ k, k < 8 → parseFieldDescriptor (TX7 k).2.2.1 = some (tyX7 k) := by decide +kernel
abbrev cX7_init : ByteArray := prog_9_method_1_code
def yX7_init : MethodName := ⟨RX7, "<init>", "()V"⟩
abbrev cX7_copyFrom : ByteArray := prog_9_method_2_code
def yX7_copyFrom : MethodName := ⟨RX7, "copyFrom", "(LPagePairs$Writing;)V"⟩
abbrev cX7_isBehindBackup : ByteArray := prog_9_method_3_code
def yX7_isBehindBackup : MethodName := ⟨RX7, "isBehindBackup", "()Z"⟩
abbrev cX7_hasBegunItself : ByteArray := prog_9_method_4_code
def yX7_hasBegunItself : MethodName := ⟨RX7, "hasBegunItself", "()Z"⟩
abbrev cX7_isAskedFor : ByteArray := prog_9_method_5_code
def yX7_isAskedFor : MethodName := ⟨RX7, "isAskedFor", "()Z"⟩
def RX8 : String := "PagePairs"
def TX8 : u_T := fun k => match k with
  | 0 => ("PagePairs", "now", "LPagePairs$State;", true)
  | 1 => ("PagePairs", "trial", "LPagePairs$State;", true)
  | 2 => ("PagePairs", "history", "LPagePairs$History;", true)
  | 3 => ("PagePairs", "text", "LPagePairs$Text;", true)
  | _ => ("PagePairs", "script", "LPagePairs$Script;", true)
def tyX8 : Nat → FieldType := fun k => match k with
  | 0 => .object "PagePairs$State"
  | 1 => .object "PagePairs$State"
  | 2 => .object "PagePairs$History"
  | 3 => .object "PagePairs$Text"
  | _ => .object "PagePairs$Script"
theorem nmX8 : ∀ a, a < 5 → ∀ b, b < 5 → a ≠ b → (TX8 a).2.1 ≠ (TX8 b).2.1 := by decide +kernel
theorem tyX8_ok : ∀ k, k < 5 → parseFieldDescriptor (TX8 k).2.2.1 = some (tyX8 k) := by decide +kernel
abbrev cX8_init : ByteArray := prog_1_method_1_code
def yX8_init : MethodName := ⟨RX8, "<init>", "()V"⟩
abbrev cX8_write : ByteArray := prog_1_method_2_code
def yX8_write : MethodName := ⟨RX8, "write", "(III)I"⟩
abbrev cX8_tick : ByteArray := prog_1_method_3_code
def yX8_tick : MethodName := ⟨RX8, "tick", "(I)I"⟩
abbrev cX8_cut : ByteArray := prog_1_method_4_code
def yX8_cut : MethodName := ⟨RX8, "cut", "()I"⟩
abbrev cX8_on : ByteArray := prog_1_method_5_code
def yX8_on : MethodName := ⟨RX8, "on", "()I"⟩
abbrev cX8_turn : ByteArray := prog_1_method_6_code
def yX8_turn : MethodName := ⟨RX8, "turn", "()I"⟩
abbrev cX8_clean : ByteArray := prog_1_method_7_code
def yX8_clean : MethodName := ⟨RX8, "clean", "(I)I"⟩
abbrev cX8_erase : ByteArray := prog_1_method_8_code
def yX8_erase : MethodName := ⟨RX8, "erase", "(I)I"⟩
abbrev cX8_slow : ByteArray := prog_1_method_9_code
def yX8_slow : MethodName := ⟨RX8, "slow", "(II)I"⟩
abbrev cX8_set : ByteArray := prog_1_method_10_code
def yX8_set : MethodName := ⟨RX8, "set", "(II)I"⟩
abbrev cX8_read : ByteArray := prog_1_method_11_code
def yX8_read : MethodName := ⟨RX8, "read", "(I)I"⟩
abbrev cX8_placeOf : ByteArray := prog_1_method_12_code
def yX8_placeOf : MethodName := ⟨RX8, "placeOf", "(II)I"⟩
abbrev cX8_pageOf : ByteArray := prog_1_method_13_code
def yX8_pageOf : MethodName := ⟨RX8, "pageOf", "(III)I"⟩
abbrev cX8_backupOf : ByteArray := prog_1_method_14_code
def yX8_backupOf : MethodName := ⟨RX8, "backupOf", "(III)I"⟩
abbrev cX8_waits : ByteArray := prog_1_method_15_code
def yX8_waits : MethodName := ⟨RX8, "waits", "(II)I"⟩
abbrev cX8_count : ByteArray := prog_1_method_16_code
def yX8_count : MethodName := ⟨RX8, "count", "(I)I"⟩
abbrev cX8_wouldLose : ByteArray := prog_1_method_17_code
def yX8_wouldLose : MethodName := ⟨RX8, "wouldLose", "(I)I"⟩
abbrev cX8_doneIn : ByteArray := prog_1_method_18_code
def yX8_doneIn : MethodName := ⟨RX8, "doneIn", "()I"⟩
abbrev cX8_undo : ByteArray := prog_1_method_19_code
def yX8_undo : MethodName := ⟨RX8, "undo", "()I"⟩
abbrev cX8_type : ByteArray := prog_1_method_20_code
def yX8_type : MethodName := ⟨RX8, "type", "(I)I"⟩
abbrev cX8_clearText : ByteArray := prog_1_method_21_code
def yX8_clearText : MethodName := ⟨RX8, "clearText", "()I"⟩
abbrev cX8_fault : ByteArray := prog_1_method_22_code
def yX8_fault : MethodName := ⟨RX8, "fault", "(I)I"⟩
abbrev cX8_play : ByteArray := prog_1_method_23_code
def yX8_play : MethodName := ⟨RX8, "play", "()I"⟩
abbrev cX8_keepChange : ByteArray := prog_1_method_24_code
def yX8_keepChange : MethodName := ⟨RX8, "keepChange", "(I)I"⟩
abbrev cX8_isIn : ByteArray := prog_1_method_25_code
def yX8_isIn : MethodName := ⟨RX8, "isIn", "(III)Z"⟩
abbrev cX8_valueAt : ByteArray := prog_1_method_26_code
def yX8_valueAt : MethodName := ⟨RX8, "valueAt", "([II)I"⟩
abbrev cX8_putAt : ByteArray := prog_1_method_27_code
def yX8_putAt : MethodName := ⟨RX8, "putAt", "([III)V"⟩
abbrev cX8_copyRow : ByteArray := prog_1_method_28_code
def yX8_copyRow : MethodName := ⟨RX8, "copyRow", "([I[I)V"⟩
abbrev cX8_quotient : ByteArray := prog_1_method_29_code
def yX8_quotient : MethodName := ⟨RX8, "quotient", "(II)I"⟩
abbrev cX8_cellOf : ByteArray := prog_1_method_30_code
def yX8_cellOf : MethodName := ⟨RX8, "cellOf", "(II)I"⟩
abbrev cX8_earlyPosition : ByteArray := prog_1_method_31_code
def yX8_earlyPosition : MethodName := ⟨RX8, "earlyPosition", "(I)I"⟩
def RX9 : String := "PagePairsModel"
def TX9 : u_T := fun k => match k with
  | 0 => ("PagePairsModel", "s", "[I", true)
  | 1 => ("PagePairsModel", "begun", "[I", true)
  | 2 => ("PagePairsModel", "past", "[I", true)
  | 3 => ("PagePairsModel", "states", "I", false)
  | 4 => ("PagePairsModel", "text", "[I", true)
  | 5 => ("PagePairsModel", "length", "I", false)
  | 6 => ("PagePairsModel", "stamps", "[I", true)
  | 7 => ("PagePairsModel", "at", "I", false)
  | 8 => ("PagePairsModel", "done", "I", false)
  | 9 => ("PagePairsModel", "told", "I", false)
  | _ => ("PagePairsModel", "isForm", "Z", false)
def tyX9 : Nat → FieldType := fun k => match k with
  | 0 => .array .int
  | 1 => .array .int
  | 2 => .array .int
  | 3 => .int
  | 4 => .array .int
  | 5 => .int
  | 6 => .array .int
  | 7 => .int
  | 8 => .int
  | 9 => .int
  | _ => .boolean
theorem nmX9 : ∀ a, a < 11 → ∀ b, b < 11 → a ≠ b → (TX9 a).2.1 ≠ (TX9 b).2.1 := by decide +kernel
theorem tyX9_ok : ∀ k, k < 11 → parseFieldDescriptor (TX9 k).2.2.1 = some (tyX9 k) := by decide +kernel
abbrev cX9_init : ByteArray := prog_11_method_1_code
def yX9_init : MethodName := ⟨RX9, "<init>", "()V"⟩
abbrev cX9_in : ByteArray := prog_11_method_3_code
def yX9_in : MethodName := ⟨RX9, "in", "(III)Z"⟩
abbrev cX9_begins : ByteArray := prog_11_method_4_code
def yX9_begins : MethodName := ⟨RX9, "begins", "()V"⟩
abbrev cX9_returns : ByteArray := prog_11_method_5_code
def yX9_returns : MethodName := ⟨RX9, "returns", "()V"⟩
abbrev cX9_acted : ByteArray := prog_11_method_6_code
def yX9_acted : MethodName := ⟨RX9, "acted", "(I)I"⟩
abbrev cX9_isBlock : ByteArray := prog_11_method_7_code
def yX9_isBlock : MethodName := ⟨RX9, "isBlock", "(I)Z"⟩
abbrev cX9_isOff : ByteArray := prog_11_method_8_code
def yX9_isOff : MethodName := ⟨RX9, "isOff", "()Z"⟩
abbrev cX9_isLate : ByteArray := prog_11_method_9_code
def yX9_isLate : MethodName := ⟨RX9, "isLate", "(I)Z"⟩
abbrev cX9_lineOf : ByteArray := prog_11_method_10_code
def yX9_lineOf : MethodName := ⟨RX9, "lineOf", "(I)I"⟩
abbrev cX9_earlyOf : ByteArray := prog_11_method_11_code
def yX9_earlyOf : MethodName := ⟨RX9, "earlyOf", "(I)I"⟩
abbrev cX9_pageAt : ByteArray := prog_11_method_12_code
def yX9_pageAt : MethodName := ⟨RX9, "pageAt", "(II)I"⟩
abbrev cX9_backupAt : ByteArray := prog_11_method_13_code
def yX9_backupAt : MethodName := ⟨RX9, "backupAt", "(II)I"⟩
abbrev cX9_next : ByteArray := prog_11_method_14_code
def yX9_next : MethodName := ⟨RX9, "next", "()I"⟩
abbrev cX9_isBlank : ByteArray := prog_11_method_15_code
def yX9_isBlank : MethodName := ⟨RX9, "isBlank", "(I)Z"⟩
abbrev cX9_placeOfKey : ByteArray := prog_11_method_16_code
def yX9_placeOfKey : MethodName := ⟨RX9, "placeOfKey", "(I)I"⟩
abbrev cX9_atPlace : ByteArray := prog_11_method_17_code
def yX9_atPlace : MethodName := ⟨RX9, "atPlace", "(I)I"⟩
abbrev cX9_stampOf : ByteArray := prog_11_method_18_code
def yX9_stampOf : MethodName := ⟨RX9, "stampOf", "(I)I"⟩
abbrev cX9_comes : ByteArray := prog_11_method_19_code
def yX9_comes : MethodName := ⟨RX9, "comes", "(IIII)V"⟩
abbrev cX9_copies : ByteArray := prog_11_method_20_code
def yX9_copies : MethodName := ⟨RX9, "copies", "(II)V"⟩
abbrev cX9_goesFirst : ByteArray := prog_11_method_21_code
def yX9_goesFirst : MethodName := ⟨RX9, "goesFirst", "()V"⟩
abbrev cX9_isPassed : ByteArray := prog_11_method_22_code
def yX9_isPassed : MethodName := ⟨RX9, "isPassed", "()Z"⟩
abbrev cX9_now : ByteArray := prog_11_method_23_code
def yX9_now : MethodName := ⟨RX9, "now", "(I)I"⟩
abbrev cX9_isWriting : ByteArray := prog_11_method_24_code
def yX9_isWriting : MethodName := ⟨RX9, "isWriting", "()Z"⟩
abbrev cX9_begin1 : ByteArray := prog_11_method_25_code
def yX9_begin1 : MethodName := ⟨RX9, "begin1", "(I)V"⟩
abbrev cX9_takes : ByteArray := prog_11_method_26_code
def yX9_takes : MethodName := ⟨RX9, "takes", "()V"⟩
abbrev cX9_clearsBackup : ByteArray := prog_11_method_27_code
def yX9_clearsBackup : MethodName := ⟨RX9, "clearsBackup", "(II)V"⟩
abbrev cX9_ends : ByteArray := prog_11_method_28_code
def yX9_ends : MethodName := ⟨RX9, "ends", "()V"⟩
abbrev cX9_clearsNow : ByteArray := prog_11_method_29_code
def yX9_clearsNow : MethodName := ⟨RX9, "clearsNow", "()V"⟩
abbrev cX9_ticks : ByteArray := prog_11_method_30_code
def yX9_ticks : MethodName := ⟨RX9, "ticks", "()V"⟩
abbrev cX9_goes : ByteArray := prog_11_method_31_code
def yX9_goes : MethodName := ⟨RX9, "goes", "(I)I"⟩
abbrev cX9_tears : ByteArray := prog_11_method_32_code
def yX9_tears : MethodName := ⟨RX9, "tears", "(II)V"⟩
abbrev cX9_breaks : ByteArray := prog_11_method_33_code
def yX9_breaks : MethodName := ⟨RX9, "breaks", "()I"⟩
abbrev cX9_ones : ByteArray := prog_11_method_34_code
def yX9_ones : MethodName := ⟨RX9, "ones", "(I)I"⟩
abbrev cX9_turnsOff : ByteArray := prog_11_method_35_code
def yX9_turnsOff : MethodName := ⟨RX9, "turnsOff", "()I"⟩
abbrev cX9_isPlace : ByteArray := prog_11_method_36_code
def yX9_isPlace : MethodName := ⟨RX9, "isPlace", "(I)Z"⟩
abbrev cX9_turnsOn : ByteArray := prog_11_method_37_code
def yX9_turnsOn : MethodName := ⟨RX9, "turnsOn", "()I"⟩
abbrev cX9_asks : ByteArray := prog_11_method_38_code
def yX9_asks : MethodName := ⟨RX9, "asks", "(III)I"⟩
abbrev cX9_lets : ByteArray := prog_11_method_39_code
def yX9_lets : MethodName := ⟨RX9, "lets", "(I)I"⟩
abbrev cX9_changes : ByteArray := prog_11_method_40_code
def yX9_changes : MethodName := ⟨RX9, "changes", "()I"⟩
abbrev cX9_cleans : ByteArray := prog_11_method_41_code
def yX9_cleans : MethodName := ⟨RX9, "cleans", "(I)I"⟩
abbrev cX9_erases : ByteArray := prog_11_method_42_code
def yX9_erases : MethodName := ⟨RX9, "erases", "(I)I"⟩
abbrev cX9_puts : ByteArray := prog_11_method_43_code
def yX9_puts : MethodName := ⟨RX9, "puts", "(II)I"⟩
abbrev cX9_write : ByteArray := prog_11_method_44_code
def yX9_write : MethodName := ⟨RX9, "write", "(III)I"⟩
abbrev cX9_tick : ByteArray := prog_11_method_45_code
def yX9_tick : MethodName := ⟨RX9, "tick", "(I)I"⟩
abbrev cX9_cut : ByteArray := prog_11_method_46_code
def yX9_cut : MethodName := ⟨RX9, "cut", "()I"⟩
abbrev cX9_on : ByteArray := prog_11_method_47_code
def yX9_on : MethodName := ⟨RX9, "on", "()I"⟩
abbrev cX9_turn : ByteArray := prog_11_method_48_code
def yX9_turn : MethodName := ⟨RX9, "turn", "()I"⟩
abbrev cX9_clean : ByteArray := prog_11_method_49_code
def yX9_clean : MethodName := ⟨RX9, "clean", "(I)I"⟩
abbrev cX9_erase : ByteArray := prog_11_method_50_code
def yX9_erase : MethodName := ⟨RX9, "erase", "(I)I"⟩
abbrev cX9_slow : ByteArray := prog_11_method_51_code
def yX9_slow : MethodName := ⟨RX9, "slow", "(II)I"⟩
abbrev cX9_set : ByteArray := prog_11_method_52_code
def yX9_set : MethodName := ⟨RX9, "set", "(II)I"⟩
abbrev cX9_isKey : ByteArray := prog_11_method_53_code
def yX9_isKey : MethodName := ⟨RX9, "isKey", "(I)Z"⟩
abbrev cX9_read : ByteArray := prog_11_method_54_code
def yX9_read : MethodName := ⟨RX9, "read", "(I)I"⟩
abbrev cX9_placeOf : ByteArray := prog_11_method_55_code
def yX9_placeOf : MethodName := ⟨RX9, "placeOf", "(II)I"⟩
abbrev cX9_pageOf : ByteArray := prog_11_method_56_code
def yX9_pageOf : MethodName := ⟨RX9, "pageOf", "(III)I"⟩
abbrev cX9_backupOf : ByteArray := prog_11_method_57_code
def yX9_backupOf : MethodName := ⟨RX9, "backupOf", "(III)I"⟩
abbrev cX9_waits : ByteArray := prog_11_method_58_code
def yX9_waits : MethodName := ⟨RX9, "waits", "(II)I"⟩
abbrev cX9_torn : ByteArray := prog_11_method_59_code
def yX9_torn : MethodName := ⟨RX9, "torn", "()I"⟩
abbrev cX9_keysThere : ByteArray := prog_11_method_60_code
def yX9_keysThere : MethodName := ⟨RX9, "keysThere", "()I"⟩
abbrev cX9_counted : ByteArray := prog_11_method_61_code
def yX9_counted : MethodName := ⟨RX9, "counted", "(I)I"⟩
abbrev cX9_count : ByteArray := prog_11_method_62_code
def yX9_count : MethodName := ⟨RX9, "count", "(I)I"⟩
abbrev cX9_wouldLose : ByteArray := prog_11_method_63_code
def yX9_wouldLose : MethodName := ⟨RX9, "wouldLose", "(I)I"⟩
abbrev cX9_doneIn : ByteArray := prog_11_method_64_code
def yX9_doneIn : MethodName := ⟨RX9, "doneIn", "()I"⟩
abbrev cX9_undo : ByteArray := prog_11_method_65_code
def yX9_undo : MethodName := ⟨RX9, "undo", "()I"⟩
abbrev cX9_type : ByteArray := prog_11_method_66_code
def yX9_type : MethodName := ⟨RX9, "type", "(I)I"⟩
abbrev cX9_clearText : ByteArray := prog_11_method_67_code
def yX9_clearText : MethodName := ⟨RX9, "clearText", "()I"⟩
abbrev cX9_here : ByteArray := prog_11_method_68_code
def yX9_here : MethodName := ⟨RX9, "here", "()I"⟩
abbrev cX9_isDigit : ByteArray := prog_11_method_69_code
def yX9_isDigit : MethodName := ⟨RX9, "isDigit", "()Z"⟩
abbrev cX9_takesSign : ByteArray := prog_11_method_70_code
def yX9_takesSign : MethodName := ⟨RX9, "takesSign", "(I)V"⟩
abbrev cX9_number : ByteArray := prog_11_method_71_code
def yX9_number : MethodName := ⟨RX9, "number", "()I"⟩
abbrev cX9_hasTwo : ByteArray := prog_11_method_72_code
def yX9_hasTwo : MethodName := ⟨RX9, "hasTwo", "(I)Z"⟩
abbrev cX9_hasOne : ByteArray := prog_11_method_73_code
def yX9_hasOne : MethodName := ⟨RX9, "hasOne", "(I)Z"⟩
abbrev cX9_called : ByteArray := prog_11_method_74_code
def yX9_called : MethodName := ⟨RX9, "called", "(III)I"⟩
abbrev cX9_does : ByteArray := prog_11_method_75_code
def yX9_does : MethodName := ⟨RX9, "does", "()I"⟩
abbrev cX9_fault : ByteArray := prog_11_method_76_code
def yX9_fault : MethodName := ⟨RX9, "fault", "(I)I"⟩
abbrev cX9_play : ByteArray := prog_11_method_77_code
def yX9_play : MethodName := ⟨RX9, "play", "()I"⟩
def RJ6 : String := "java/lang/Integer"
def TJ6 : u_T := fun k => match k with
  | _ => ("", "", "", false)
def tyJ6 : Nat → FieldType := fun k => match k with
  | _ => .int
theorem nmJ6 : ∀ a, a < 0 → ∀ b, b < 0 → a ≠ b → (TJ6 a).2.1 ≠ (TJ6 b).2.1 := by decide +kernel
theorem tyJ6_ok : ∀ k, k < 0 → parseFieldDescriptor (TJ6 k).2.2.1 = some (tyJ6 k) := by decide +kernel
abbrev cJ6_bitCount_0f7a4 : ByteArray := prog_12_method_49_code
def yJ6_bitCount_0f7a4 : MethodName := ⟨RJ6, "bitCount", "(I)I"⟩
def RJ9 : String := "java/lang/Math"
def TJ9 : u_T := fun k => match k with
  | _ => ("", "", "", false)
def tyJ9 : Nat → FieldType := fun k => match k with
  | _ => .int
theorem nmJ9 : ∀ a, a < 0 → ∀ b, b < 0 → a ≠ b → (TJ9 a).2.1 ≠ (TJ9 b).2.1 := by decide +kernel
theorem tyJ9_ok : ∀ k, k < 0 → parseFieldDescriptor (TJ9 k).2.2.1 = some (tyJ9 k) := by decide +kernel
abbrev cJ9_max_7cf53 : ByteArray := prog_13_method_65_code
def yJ9_max_7cf53 : MethodName := ⟨RJ9, "max", "(II)I"⟩
abbrev cJ9_min_7cf53 : ByteArray := prog_13_method_69_code
def yJ9_min_7cf53 : MethodName := ⟨RJ9, "min", "(II)I"⟩
def RJ10 : String := "java/lang/System"
def TJ10 : u_T := fun k => match k with
  | _ => ("", "", "", false)
def tyJ10 : Nat → FieldType := fun k => match k with
  | _ => .int
theorem nmJ10 : ∀ a, a < 0 → ∀ b, b < 0 → a ≠ b → (TJ10 a).2.1 ≠ (TJ10 b).2.1 := by decide +kernel
theorem tyJ10_ok : ∀ k, k < 0 → parseFieldDescriptor (TJ10 k).2.2.1 = some (tyJ10 k) := by decide +kernel
def RL : String := "PagePairsLaw"
abbrev cL_law : ByteArray := code
def yL_law : MethodName := ⟨RL, "law", "([I)Z"⟩
abbrev vwCl : List vw_C := [(RX0, TX0, 4), (RX1, TX1, 2), (RX2, TX2, 5), (RX3, TX3, 5), (RX4, TX4, 11), (RX5, TX5, 7), (RX6, TX6, 6), (RX7, TX7, 8), (RX8, TX8, 5), (RX9, TX9, 11)]
