section
-- ===== PART A: goes FIRST, ahead of the names: the tables' words, and 'selects' of the private methods out of them =====
/-- a private method of a class that the tables say can be made, by its rows of tables_1 -/
def lw_okq (q : MethodName × Nat) : Prop := (q.1.cls ≠ "java/lang/invoke/MethodHandle" ∧ q.1.cls ≠ "java/lang/invoke/VarHandle") ∧ Cond.instantiable q.1.cls q.2 ∈ tables_1 ∧ Cond.privateMethod q.1 ∈ tables_1 ∧ Cond.instanceMethod q.1 ∈ tables_1
theorem lw_p0 : lw_okq (⟨"PagePairs$History", "stateAt", "(I)LPagePairs$State;"⟩, 2) := ⟨⟨by decide +kernel, by decide +kernel⟩, List.mem_of_getElem? (i := 190) (by decide +kernel), List.mem_of_getElem? (i := 284) (by decide +kernel), List.mem_of_getElem? (i := 285) (by decide +kernel)⟩
theorem lw_p1 : lw_okq (⟨"PagePairs$Requests", "move", "(II)V"⟩, 5) := ⟨⟨by decide +kernel, by decide +kernel⟩, List.mem_of_getElem? (i := 49) (by decide +kernel), List.mem_of_getElem? (i := 327) (by decide +kernel), List.mem_of_getElem? (i := 328) (by decide +kernel)⟩
theorem lw_p2 : lw_okq (⟨"PagePairs$Requests", "put", "(IIIII)V"⟩, 5) := ⟨⟨by decide +kernel, by decide +kernel⟩, List.mem_of_getElem? (i := 49) (by decide +kernel), List.mem_of_getElem? (i := 331) (by decide +kernel), List.mem_of_getElem? (i := 332) (by decide +kernel)⟩
theorem lw_p3 : lw_okq (⟨"PagePairs", "keepChange", "(I)I"⟩, 5) := ⟨⟨by decide +kernel, by decide +kernel⟩, List.mem_of_getElem? (i := 15) (by decide +kernel), List.mem_of_getElem? (i := 335) (by decide +kernel), List.mem_of_getElem? (i := 336) (by decide +kernel)⟩
theorem lw_p4 : lw_okq (⟨"PagePairs$History", "dropOldest", "()V"⟩, 2) := ⟨⟨by decide +kernel, by decide +kernel⟩, List.mem_of_getElem? (i := 190) (by decide +kernel), List.mem_of_getElem? (i := 343) (by decide +kernel), List.mem_of_getElem? (i := 344) (by decide +kernel)⟩
theorem lw_p5 : lw_okq (⟨"PagePairs$State", "takeRequests", "()V"⟩, 11) := ⟨⟨by decide +kernel, by decide +kernel⟩, List.mem_of_getElem? (i := 23) (by decide +kernel), List.mem_of_getElem? (i := 359) (by decide +kernel), List.mem_of_getElem? (i := 360) (by decide +kernel)⟩
theorem lw_p6 : lw_okq (⟨"PagePairs$State", "isFull", "()Z"⟩, 11) := ⟨⟨by decide +kernel, by decide +kernel⟩, List.mem_of_getElem? (i := 23) (by decide +kernel), List.mem_of_getElem? (i := 363) (by decide +kernel), List.mem_of_getElem? (i := 364) (by decide +kernel)⟩
theorem lw_p7 : lw_okq (⟨"PagePairs$State", "isOutdated", "()Z"⟩, 11) := ⟨⟨by decide +kernel, by decide +kernel⟩, List.mem_of_getElem? (i := 23) (by decide +kernel), List.mem_of_getElem? (i := 367) (by decide +kernel), List.mem_of_getElem? (i := 368) (by decide +kernel)⟩
theorem lw_p8 : lw_okq (⟨"PagePairs$State", "beginWriting", "()V"⟩, 11) := ⟨⟨by decide +kernel, by decide +kernel⟩, List.mem_of_getElem? (i := 23) (by decide +kernel), List.mem_of_getElem? (i := 388) (by decide +kernel), List.mem_of_getElem? (i := 389) (by decide +kernel)⟩
theorem lw_p9 : lw_okq (⟨"PagePairs$State", "goOn", "(I)V"⟩, 11) := ⟨⟨by decide +kernel, by decide +kernel⟩, List.mem_of_getElem? (i := 23) (by decide +kernel), List.mem_of_getElem? (i := 433) (by decide +kernel), List.mem_of_getElem? (i := 434) (by decide +kernel)⟩
theorem lw_p10 : lw_okq (⟨"PagePairs$State", "finishWriting", "()V"⟩, 11) := ⟨⟨by decide +kernel, by decide +kernel⟩, List.mem_of_getElem? (i := 23) (by decide +kernel), List.mem_of_getElem? (i := 445) (by decide +kernel), List.mem_of_getElem? (i := 446) (by decide +kernel)⟩
theorem lw_p11 : lw_okq (⟨"PagePairs$State", "tearWriting", "()V"⟩, 11) := ⟨⟨by decide +kernel, by decide +kernel⟩, List.mem_of_getElem? (i := 23) (by decide +kernel), List.mem_of_getElem? (i := 475) (by decide +kernel), List.mem_of_getElem? (i := 476) (by decide +kernel)⟩
theorem lw_p12 : lw_okq (⟨"PagePairs$State", "askForCopy", "(II)V"⟩, 11) := ⟨⟨by decide +kernel, by decide +kernel⟩, List.mem_of_getElem? (i := 23) (by decide +kernel), List.mem_of_getElem? (i := 497) (by decide +kernel), List.mem_of_getElem? (i := 498) (by decide +kernel)⟩
theorem lw_p13 : lw_okq (⟨"PagePairs$State", "settingOrSlowness", "(I)I"⟩, 11) := ⟨⟨by decide +kernel, by decide +kernel⟩, List.mem_of_getElem? (i := 23) (by decide +kernel), List.mem_of_getElem? (i := 646) (by decide +kernel), List.mem_of_getElem? (i := 647) (by decide +kernel)⟩
theorem lw_p14 : lw_okq (⟨"PagePairs$Text", "sign", "()I"⟩, 6) := ⟨⟨by decide +kernel, by decide +kernel⟩, List.mem_of_getElem? (i := 206) (by decide +kernel), List.mem_of_getElem? (i := 715) (by decide +kernel), List.mem_of_getElem? (i := 716) (by decide +kernel)⟩
theorem lw_p15 : lw_okq (⟨"PagePairs$Text", "readNumber", "()I"⟩, 6) := ⟨⟨by decide +kernel, by decide +kernel⟩, List.mem_of_getElem? (i := 206) (by decide +kernel), List.mem_of_getElem? (i := 723) (by decide +kernel), List.mem_of_getElem? (i := 724) (by decide +kernel)⟩
def lw_privs_1 : List (MethodName × Nat) := [(⟨"PagePairs$History", "stateAt", "(I)LPagePairs$State;"⟩, 2), (⟨"PagePairs$Requests", "move", "(II)V"⟩, 5), (⟨"PagePairs$Requests", "put", "(IIIII)V"⟩, 5), (⟨"PagePairs", "keepChange", "(I)I"⟩, 5), (⟨"PagePairs$History", "dropOldest", "()V"⟩, 2), (⟨"PagePairs$State", "takeRequests", "()V"⟩, 11), (⟨"PagePairs$State", "isFull", "()Z"⟩, 11), (⟨"PagePairs$State", "isOutdated", "()Z"⟩, 11), (⟨"PagePairs$State", "beginWriting", "()V"⟩, 11), (⟨"PagePairs$State", "goOn", "(I)V"⟩, 11), (⟨"PagePairs$State", "finishWriting", "()V"⟩, 11), (⟨"PagePairs$State", "tearWriting", "()V"⟩, 11), (⟨"PagePairs$State", "askForCopy", "(II)V"⟩, 11), (⟨"PagePairs$State", "settingOrSlowness", "(I)I"⟩, 11), (⟨"PagePairs$Text", "sign", "()I"⟩, 6), (⟨"PagePairs$Text", "readNumber", "()I"⟩, 6)]
theorem lw_r1 : ∀ q ∈ lw_privs_1, lw_okq q := List.forall_mem_cons.mpr ⟨lw_p0, List.forall_mem_cons.mpr ⟨lw_p1, List.forall_mem_cons.mpr ⟨lw_p2, List.forall_mem_cons.mpr ⟨lw_p3, List.forall_mem_cons.mpr ⟨lw_p4, List.forall_mem_cons.mpr ⟨lw_p5, List.forall_mem_cons.mpr ⟨lw_p6, List.forall_mem_cons.mpr ⟨lw_p7, List.forall_mem_cons.mpr ⟨lw_p8, List.forall_mem_cons.mpr ⟨lw_p9, List.forall_mem_cons.mpr ⟨lw_p10, List.forall_mem_cons.mpr ⟨lw_p11, List.forall_mem_cons.mpr ⟨lw_p12, List.forall_mem_cons.mpr ⟨lw_p13, List.forall_mem_cons.mpr ⟨lw_p14, List.forall_mem_cons.mpr ⟨lw_p15, fun _ h => absurd h List.not_mem_nil⟩⟩⟩⟩⟩⟩⟩⟩⟩⟩⟩⟩⟩⟩⟩⟩
theorem lw_p16 : lw_okq (⟨"PagePairs$Text", "readSign", "(I)Z"⟩, 6) := ⟨⟨by decide +kernel, by decide +kernel⟩, List.mem_of_getElem? (i := 206) (by decide +kernel), List.mem_of_getElem? (i := 727) (by decide +kernel), List.mem_of_getElem? (i := 728) (by decide +kernel)⟩
theorem lw_p17 : lw_okq (⟨"PagePairs$Script", "tellFault", "(II)V"⟩, 5) := ⟨⟨by decide +kernel, by decide +kernel⟩, List.mem_of_getElem? (i := 235) (by decide +kernel), List.mem_of_getElem? (i := 731) (by decide +kernel), List.mem_of_getElem? (i := 732) (by decide +kernel)⟩
theorem lw_p18 : lw_okq (⟨"PagePairsModel", "begins", "()V"⟩, 11) := ⟨⟨by decide +kernel, by decide +kernel⟩, List.mem_of_getElem? (i := 761) (by decide +kernel), List.mem_of_getElem? (i := 805) (by decide +kernel), List.mem_of_getElem? (i := 806) (by decide +kernel)⟩
theorem lw_p19 : lw_okq (⟨"PagePairsModel", "asks", "(III)I"⟩, 11) := ⟨⟨by decide +kernel, by decide +kernel⟩, List.mem_of_getElem? (i := 761) (by decide +kernel), List.mem_of_getElem? (i := 809) (by decide +kernel), List.mem_of_getElem? (i := 810) (by decide +kernel)⟩
theorem lw_p20 : lw_okq (⟨"PagePairsModel", "isOff", "()Z"⟩, 11) := ⟨⟨by decide +kernel, by decide +kernel⟩, List.mem_of_getElem? (i := 761) (by decide +kernel), List.mem_of_getElem? (i := 816) (by decide +kernel), List.mem_of_getElem? (i := 817) (by decide +kernel)⟩
theorem lw_p21 : lw_okq (⟨"PagePairsModel", "comes", "(IIII)V"⟩, 11) := ⟨⟨by decide +kernel, by decide +kernel⟩, List.mem_of_getElem? (i := 761) (by decide +kernel), List.mem_of_getElem? (i := 820) (by decide +kernel), List.mem_of_getElem? (i := 821) (by decide +kernel)⟩
theorem lw_p22 : lw_okq (⟨"PagePairsModel", "acted", "(I)I"⟩, 11) := ⟨⟨by decide +kernel, by decide +kernel⟩, List.mem_of_getElem? (i := 761) (by decide +kernel), List.mem_of_getElem? (i := 824) (by decide +kernel), List.mem_of_getElem? (i := 825) (by decide +kernel)⟩
theorem lw_p23 : lw_okq (⟨"PagePairsModel", "returns", "()V"⟩, 11) := ⟨⟨by decide +kernel, by decide +kernel⟩, List.mem_of_getElem? (i := 761) (by decide +kernel), List.mem_of_getElem? (i := 828) (by decide +kernel), List.mem_of_getElem? (i := 829) (by decide +kernel)⟩
theorem lw_p24 : lw_okq (⟨"PagePairsModel", "lets", "(I)I"⟩, 11) := ⟨⟨by decide +kernel, by decide +kernel⟩, List.mem_of_getElem? (i := 761) (by decide +kernel), List.mem_of_getElem? (i := 836) (by decide +kernel), List.mem_of_getElem? (i := 837) (by decide +kernel)⟩
theorem lw_p25 : lw_okq (⟨"PagePairsModel", "goes", "(I)I"⟩, 11) := ⟨⟨by decide +kernel, by decide +kernel⟩, List.mem_of_getElem? (i := 761) (by decide +kernel), List.mem_of_getElem? (i := 840) (by decide +kernel), List.mem_of_getElem? (i := 841) (by decide +kernel)⟩
theorem lw_p26 : lw_okq (⟨"PagePairsModel", "ticks", "()V"⟩, 11) := ⟨⟨by decide +kernel, by decide +kernel⟩, List.mem_of_getElem? (i := 761) (by decide +kernel), List.mem_of_getElem? (i := 844) (by decide +kernel), List.mem_of_getElem? (i := 845) (by decide +kernel)⟩
theorem lw_p27 : lw_okq (⟨"PagePairsModel", "isWriting", "()Z"⟩, 11) := ⟨⟨by decide +kernel, by decide +kernel⟩, List.mem_of_getElem? (i := 761) (by decide +kernel), List.mem_of_getElem? (i := 848) (by decide +kernel), List.mem_of_getElem? (i := 849) (by decide +kernel)⟩
theorem lw_p28 : lw_okq (⟨"PagePairsModel", "now", "(I)I"⟩, 11) := ⟨⟨by decide +kernel, by decide +kernel⟩, List.mem_of_getElem? (i := 761) (by decide +kernel), List.mem_of_getElem? (i := 852) (by decide +kernel), List.mem_of_getElem? (i := 853) (by decide +kernel)⟩
theorem lw_p29 : lw_okq (⟨"PagePairsModel", "takes", "()V"⟩, 11) := ⟨⟨by decide +kernel, by decide +kernel⟩, List.mem_of_getElem? (i := 761) (by decide +kernel), List.mem_of_getElem? (i := 856) (by decide +kernel), List.mem_of_getElem? (i := 857) (by decide +kernel)⟩
theorem lw_p30 : lw_okq (⟨"PagePairsModel", "next", "()I"⟩, 11) := ⟨⟨by decide +kernel, by decide +kernel⟩, List.mem_of_getElem? (i := 761) (by decide +kernel), List.mem_of_getElem? (i := 860) (by decide +kernel), List.mem_of_getElem? (i := 861) (by decide +kernel)⟩
theorem lw_p31 : lw_okq (⟨"PagePairsModel", "pageAt", "(II)I"⟩, 11) := ⟨⟨by decide +kernel, by decide +kernel⟩, List.mem_of_getElem? (i := 761) (by decide +kernel), List.mem_of_getElem? (i := 864) (by decide +kernel), List.mem_of_getElem? (i := 865) (by decide +kernel)⟩
def lw_privs_2 : List (MethodName × Nat) := [(⟨"PagePairs$Text", "readSign", "(I)Z"⟩, 6), (⟨"PagePairs$Script", "tellFault", "(II)V"⟩, 5), (⟨"PagePairsModel", "begins", "()V"⟩, 11), (⟨"PagePairsModel", "asks", "(III)I"⟩, 11), (⟨"PagePairsModel", "isOff", "()Z"⟩, 11), (⟨"PagePairsModel", "comes", "(IIII)V"⟩, 11), (⟨"PagePairsModel", "acted", "(I)I"⟩, 11), (⟨"PagePairsModel", "returns", "()V"⟩, 11), (⟨"PagePairsModel", "lets", "(I)I"⟩, 11), (⟨"PagePairsModel", "goes", "(I)I"⟩, 11), (⟨"PagePairsModel", "ticks", "()V"⟩, 11), (⟨"PagePairsModel", "isWriting", "()Z"⟩, 11), (⟨"PagePairsModel", "now", "(I)I"⟩, 11), (⟨"PagePairsModel", "takes", "()V"⟩, 11), (⟨"PagePairsModel", "next", "()I"⟩, 11), (⟨"PagePairsModel", "pageAt", "(II)I"⟩, 11)]
theorem lw_r2 : ∀ q ∈ lw_privs_2, lw_okq q := List.forall_mem_cons.mpr ⟨lw_p16, List.forall_mem_cons.mpr ⟨lw_p17, List.forall_mem_cons.mpr ⟨lw_p18, List.forall_mem_cons.mpr ⟨lw_p19, List.forall_mem_cons.mpr ⟨lw_p20, List.forall_mem_cons.mpr ⟨lw_p21, List.forall_mem_cons.mpr ⟨lw_p22, List.forall_mem_cons.mpr ⟨lw_p23, List.forall_mem_cons.mpr ⟨lw_p24, List.forall_mem_cons.mpr ⟨lw_p25, List.forall_mem_cons.mpr ⟨lw_p26, List.forall_mem_cons.mpr ⟨lw_p27, List.forall_mem_cons.mpr ⟨lw_p28, List.forall_mem_cons.mpr ⟨lw_p29, List.forall_mem_cons.mpr ⟨lw_p30, List.forall_mem_cons.mpr ⟨lw_p31, fun _ h => absurd h List.not_mem_nil⟩⟩⟩⟩⟩⟩⟩⟩⟩⟩⟩⟩⟩⟩⟩⟩
theorem lw_p32 : lw_okq (⟨"PagePairsModel", "isPassed", "()Z"⟩, 11) := ⟨⟨by decide +kernel, by decide +kernel⟩, List.mem_of_getElem? (i := 761) (by decide +kernel), List.mem_of_getElem? (i := 868) (by decide +kernel), List.mem_of_getElem? (i := 869) (by decide +kernel)⟩
theorem lw_p33 : lw_okq (⟨"PagePairsModel", "stampOf", "(I)I"⟩, 11) := ⟨⟨by decide +kernel, by decide +kernel⟩, List.mem_of_getElem? (i := 761) (by decide +kernel), List.mem_of_getElem? (i := 872) (by decide +kernel), List.mem_of_getElem? (i := 873) (by decide +kernel)⟩
theorem lw_p34 : lw_okq (⟨"PagePairsModel", "placeOfKey", "(I)I"⟩, 11) := ⟨⟨by decide +kernel, by decide +kernel⟩, List.mem_of_getElem? (i := 761) (by decide +kernel), List.mem_of_getElem? (i := 876) (by decide +kernel), List.mem_of_getElem? (i := 877) (by decide +kernel)⟩
theorem lw_p35 : lw_okq (⟨"PagePairsModel", "atPlace", "(I)I"⟩, 11) := ⟨⟨by decide +kernel, by decide +kernel⟩, List.mem_of_getElem? (i := 761) (by decide +kernel), List.mem_of_getElem? (i := 880) (by decide +kernel), List.mem_of_getElem? (i := 881) (by decide +kernel)⟩
theorem lw_p36 : lw_okq (⟨"PagePairsModel", "backupAt", "(II)I"⟩, 11) := ⟨⟨by decide +kernel, by decide +kernel⟩, List.mem_of_getElem? (i := 761) (by decide +kernel), List.mem_of_getElem? (i := 884) (by decide +kernel), List.mem_of_getElem? (i := 885) (by decide +kernel)⟩
theorem lw_p37 : lw_okq (⟨"PagePairsModel", "goesFirst", "()V"⟩, 11) := ⟨⟨by decide +kernel, by decide +kernel⟩, List.mem_of_getElem? (i := 761) (by decide +kernel), List.mem_of_getElem? (i := 888) (by decide +kernel), List.mem_of_getElem? (i := 889) (by decide +kernel)⟩
theorem lw_p38 : lw_okq (⟨"PagePairsModel", "begin1", "(I)V"⟩, 11) := ⟨⟨by decide +kernel, by decide +kernel⟩, List.mem_of_getElem? (i := 761) (by decide +kernel), List.mem_of_getElem? (i := 892) (by decide +kernel), List.mem_of_getElem? (i := 893) (by decide +kernel)⟩
theorem lw_p39 : lw_okq (⟨"PagePairsModel", "ends", "()V"⟩, 11) := ⟨⟨by decide +kernel, by decide +kernel⟩, List.mem_of_getElem? (i := 761) (by decide +kernel), List.mem_of_getElem? (i := 905) (by decide +kernel), List.mem_of_getElem? (i := 906) (by decide +kernel)⟩
theorem lw_p40 : lw_okq (⟨"PagePairsModel", "clearsBackup", "(II)V"⟩, 11) := ⟨⟨by decide +kernel, by decide +kernel⟩, List.mem_of_getElem? (i := 761) (by decide +kernel), List.mem_of_getElem? (i := 909) (by decide +kernel), List.mem_of_getElem? (i := 910) (by decide +kernel)⟩
theorem lw_p41 : lw_okq (⟨"PagePairsModel", "clearsNow", "()V"⟩, 11) := ⟨⟨by decide +kernel, by decide +kernel⟩, List.mem_of_getElem? (i := 761) (by decide +kernel), List.mem_of_getElem? (i := 913) (by decide +kernel), List.mem_of_getElem? (i := 914) (by decide +kernel)⟩
theorem lw_p42 : lw_okq (⟨"PagePairsModel", "turnsOff", "()I"⟩, 11) := ⟨⟨by decide +kernel, by decide +kernel⟩, List.mem_of_getElem? (i := 761) (by decide +kernel), List.mem_of_getElem? (i := 921) (by decide +kernel), List.mem_of_getElem? (i := 922) (by decide +kernel)⟩
theorem lw_p43 : lw_okq (⟨"PagePairsModel", "breaks", "()I"⟩, 11) := ⟨⟨by decide +kernel, by decide +kernel⟩, List.mem_of_getElem? (i := 761) (by decide +kernel), List.mem_of_getElem? (i := 925) (by decide +kernel), List.mem_of_getElem? (i := 926) (by decide +kernel)⟩
theorem lw_p44 : lw_okq (⟨"PagePairsModel", "tears", "(II)V"⟩, 11) := ⟨⟨by decide +kernel, by decide +kernel⟩, List.mem_of_getElem? (i := 761) (by decide +kernel), List.mem_of_getElem? (i := 929) (by decide +kernel), List.mem_of_getElem? (i := 930) (by decide +kernel)⟩
theorem lw_p45 : lw_okq (⟨"PagePairsModel", "turnsOn", "()I"⟩, 11) := ⟨⟨by decide +kernel, by decide +kernel⟩, List.mem_of_getElem? (i := 761) (by decide +kernel), List.mem_of_getElem? (i := 940) (by decide +kernel), List.mem_of_getElem? (i := 941) (by decide +kernel)⟩
theorem lw_p46 : lw_okq (⟨"PagePairsModel", "isPlace", "(I)Z"⟩, 11) := ⟨⟨by decide +kernel, by decide +kernel⟩, List.mem_of_getElem? (i := 761) (by decide +kernel), List.mem_of_getElem? (i := 944) (by decide +kernel), List.mem_of_getElem? (i := 945) (by decide +kernel)⟩
theorem lw_p47 : lw_okq (⟨"PagePairsModel", "copies", "(II)V"⟩, 11) := ⟨⟨by decide +kernel, by decide +kernel⟩, List.mem_of_getElem? (i := 761) (by decide +kernel), List.mem_of_getElem? (i := 948) (by decide +kernel), List.mem_of_getElem? (i := 949) (by decide +kernel)⟩
def lw_privs_3 : List (MethodName × Nat) := [(⟨"PagePairsModel", "isPassed", "()Z"⟩, 11), (⟨"PagePairsModel", "stampOf", "(I)I"⟩, 11), (⟨"PagePairsModel", "placeOfKey", "(I)I"⟩, 11), (⟨"PagePairsModel", "atPlace", "(I)I"⟩, 11), (⟨"PagePairsModel", "backupAt", "(II)I"⟩, 11), (⟨"PagePairsModel", "goesFirst", "()V"⟩, 11), (⟨"PagePairsModel", "begin1", "(I)V"⟩, 11), (⟨"PagePairsModel", "ends", "()V"⟩, 11), (⟨"PagePairsModel", "clearsBackup", "(II)V"⟩, 11), (⟨"PagePairsModel", "clearsNow", "()V"⟩, 11), (⟨"PagePairsModel", "turnsOff", "()I"⟩, 11), (⟨"PagePairsModel", "breaks", "()I"⟩, 11), (⟨"PagePairsModel", "tears", "(II)V"⟩, 11), (⟨"PagePairsModel", "turnsOn", "()I"⟩, 11), (⟨"PagePairsModel", "isPlace", "(I)Z"⟩, 11), (⟨"PagePairsModel", "copies", "(II)V"⟩, 11)]
theorem lw_r3 : ∀ q ∈ lw_privs_3, lw_okq q := List.forall_mem_cons.mpr ⟨lw_p32, List.forall_mem_cons.mpr ⟨lw_p33, List.forall_mem_cons.mpr ⟨lw_p34, List.forall_mem_cons.mpr ⟨lw_p35, List.forall_mem_cons.mpr ⟨lw_p36, List.forall_mem_cons.mpr ⟨lw_p37, List.forall_mem_cons.mpr ⟨lw_p38, List.forall_mem_cons.mpr ⟨lw_p39, List.forall_mem_cons.mpr ⟨lw_p40, List.forall_mem_cons.mpr ⟨lw_p41, List.forall_mem_cons.mpr ⟨lw_p42, List.forall_mem_cons.mpr ⟨lw_p43, List.forall_mem_cons.mpr ⟨lw_p44, List.forall_mem_cons.mpr ⟨lw_p45, List.forall_mem_cons.mpr ⟨lw_p46, List.forall_mem_cons.mpr ⟨lw_p47, fun _ h => absurd h List.not_mem_nil⟩⟩⟩⟩⟩⟩⟩⟩⟩⟩⟩⟩⟩⟩⟩⟩
theorem lw_p48 : lw_okq (⟨"PagePairsModel", "changes", "()I"⟩, 11) := ⟨⟨by decide +kernel, by decide +kernel⟩, List.mem_of_getElem? (i := 761) (by decide +kernel), List.mem_of_getElem? (i := 956) (by decide +kernel), List.mem_of_getElem? (i := 957) (by decide +kernel)⟩
theorem lw_p49 : lw_okq (⟨"PagePairsModel", "isBlank", "(I)Z"⟩, 11) := ⟨⟨by decide +kernel, by decide +kernel⟩, List.mem_of_getElem? (i := 761) (by decide +kernel), List.mem_of_getElem? (i := 960) (by decide +kernel), List.mem_of_getElem? (i := 961) (by decide +kernel)⟩
theorem lw_p50 : lw_okq (⟨"PagePairsModel", "cleans", "(I)I"⟩, 11) := ⟨⟨by decide +kernel, by decide +kernel⟩, List.mem_of_getElem? (i := 761) (by decide +kernel), List.mem_of_getElem? (i := 968) (by decide +kernel), List.mem_of_getElem? (i := 969) (by decide +kernel)⟩
theorem lw_p51 : lw_okq (⟨"PagePairsModel", "erases", "(I)I"⟩, 11) := ⟨⟨by decide +kernel, by decide +kernel⟩, List.mem_of_getElem? (i := 761) (by decide +kernel), List.mem_of_getElem? (i := 979) (by decide +kernel), List.mem_of_getElem? (i := 980) (by decide +kernel)⟩
theorem lw_p52 : lw_okq (⟨"PagePairsModel", "puts", "(II)I"⟩, 11) := ⟨⟨by decide +kernel, by decide +kernel⟩, List.mem_of_getElem? (i := 761) (by decide +kernel), List.mem_of_getElem? (i := 987) (by decide +kernel), List.mem_of_getElem? (i := 988) (by decide +kernel)⟩
theorem lw_p53 : lw_okq (⟨"PagePairsModel", "counted", "(I)I"⟩, 11) := ⟨⟨by decide +kernel, by decide +kernel⟩, List.mem_of_getElem? (i := 761) (by decide +kernel), List.mem_of_getElem? (i := 1022) (by decide +kernel), List.mem_of_getElem? (i := 1023) (by decide +kernel)⟩
theorem lw_p54 : lw_okq (⟨"PagePairsModel", "torn", "()I"⟩, 11) := ⟨⟨by decide +kernel, by decide +kernel⟩, List.mem_of_getElem? (i := 761) (by decide +kernel), List.mem_of_getElem? (i := 1026) (by decide +kernel), List.mem_of_getElem? (i := 1027) (by decide +kernel)⟩
theorem lw_p55 : lw_okq (⟨"PagePairsModel", "keysThere", "()I"⟩, 11) := ⟨⟨by decide +kernel, by decide +kernel⟩, List.mem_of_getElem? (i := 761) (by decide +kernel), List.mem_of_getElem? (i := 1030) (by decide +kernel), List.mem_of_getElem? (i := 1031) (by decide +kernel)⟩
theorem lw_p56 : lw_okq (⟨"PagePairsModel", "does", "()I"⟩, 11) := ⟨⟨by decide +kernel, by decide +kernel⟩, List.mem_of_getElem? (i := 761) (by decide +kernel), List.mem_of_getElem? (i := 1058) (by decide +kernel), List.mem_of_getElem? (i := 1059) (by decide +kernel)⟩
theorem lw_p57 : lw_okq (⟨"PagePairsModel", "here", "()I"⟩, 11) := ⟨⟨by decide +kernel, by decide +kernel⟩, List.mem_of_getElem? (i := 761) (by decide +kernel), List.mem_of_getElem? (i := 1062) (by decide +kernel), List.mem_of_getElem? (i := 1063) (by decide +kernel)⟩
theorem lw_p58 : lw_okq (⟨"PagePairsModel", "number", "()I"⟩, 11) := ⟨⟨by decide +kernel, by decide +kernel⟩, List.mem_of_getElem? (i := 761) (by decide +kernel), List.mem_of_getElem? (i := 1072) (by decide +kernel), List.mem_of_getElem? (i := 1073) (by decide +kernel)⟩
theorem lw_p59 : lw_okq (⟨"PagePairsModel", "isDigit", "()Z"⟩, 11) := ⟨⟨by decide +kernel, by decide +kernel⟩, List.mem_of_getElem? (i := 761) (by decide +kernel), List.mem_of_getElem? (i := 1076) (by decide +kernel), List.mem_of_getElem? (i := 1077) (by decide +kernel)⟩
theorem lw_p60 : lw_okq (⟨"PagePairsModel", "takesSign", "(I)V"⟩, 11) := ⟨⟨by decide +kernel, by decide +kernel⟩, List.mem_of_getElem? (i := 761) (by decide +kernel), List.mem_of_getElem? (i := 1080) (by decide +kernel), List.mem_of_getElem? (i := 1081) (by decide +kernel)⟩
theorem lw_p61 : lw_okq (⟨"PagePairsModel", "called", "(III)I"⟩, 11) := ⟨⟨by decide +kernel, by decide +kernel⟩, List.mem_of_getElem? (i := 761) (by decide +kernel), List.mem_of_getElem? (i := 1084) (by decide +kernel), List.mem_of_getElem? (i := 1085) (by decide +kernel)⟩
def lw_privs_4 : List (MethodName × Nat) := [(⟨"PagePairsModel", "changes", "()I"⟩, 11), (⟨"PagePairsModel", "isBlank", "(I)Z"⟩, 11), (⟨"PagePairsModel", "cleans", "(I)I"⟩, 11), (⟨"PagePairsModel", "erases", "(I)I"⟩, 11), (⟨"PagePairsModel", "puts", "(II)I"⟩, 11), (⟨"PagePairsModel", "counted", "(I)I"⟩, 11), (⟨"PagePairsModel", "torn", "()I"⟩, 11), (⟨"PagePairsModel", "keysThere", "()I"⟩, 11), (⟨"PagePairsModel", "does", "()I"⟩, 11), (⟨"PagePairsModel", "here", "()I"⟩, 11), (⟨"PagePairsModel", "number", "()I"⟩, 11), (⟨"PagePairsModel", "isDigit", "()Z"⟩, 11), (⟨"PagePairsModel", "takesSign", "(I)V"⟩, 11), (⟨"PagePairsModel", "called", "(III)I"⟩, 11)]
theorem lw_r4 : ∀ q ∈ lw_privs_4, lw_okq q := List.forall_mem_cons.mpr ⟨lw_p48, List.forall_mem_cons.mpr ⟨lw_p49, List.forall_mem_cons.mpr ⟨lw_p50, List.forall_mem_cons.mpr ⟨lw_p51, List.forall_mem_cons.mpr ⟨lw_p52, List.forall_mem_cons.mpr ⟨lw_p53, List.forall_mem_cons.mpr ⟨lw_p54, List.forall_mem_cons.mpr ⟨lw_p55, List.forall_mem_cons.mpr ⟨lw_p56, List.forall_mem_cons.mpr ⟨lw_p57, List.forall_mem_cons.mpr ⟨lw_p58, List.forall_mem_cons.mpr ⟨lw_p59, List.forall_mem_cons.mpr ⟨lw_p60, List.forall_mem_cons.mpr ⟨lw_p61, fun _ h => absurd h List.not_mem_nil⟩⟩⟩⟩⟩⟩⟩⟩⟩⟩⟩⟩⟩⟩
def lw_privs : List (MethodName × Nat) := lw_privs_1 ++ (lw_privs_2 ++ (lw_privs_3 ++ (lw_privs_4)))
def lw_tbl : List Cond := k2_sels lw_privs ++ tables_1
theorem lw_privs_ok : ∀ q ∈ lw_privs, lw_okq q := by
  show ∀ q ∈ lw_privs_1 ++ (lw_privs_2 ++ (lw_privs_3 ++ (lw_privs_4))), lw_okq q
  exact List.forall_mem_append.mpr ⟨lw_r1, List.forall_mem_append.mpr ⟨lw_r2, List.forall_mem_append.mpr ⟨lw_r3, lw_r4⟩⟩⟩
def RX0 : String := "PagePairs$Cells"
def TX0 : u_T := fun k => match k with
  | 0 => ("PagePairs$Cells", "kinds", "[I", true)
  | 1 => ("PagePairs$Cells", "keys", "[I", true)
  | 2 => ("PagePairs$Cells", "values", "[I", true)
  | _ => ("PagePairs$Cells", "stamps", "[I", true)
def tyX0 : Nat → FieldType := fun k => match k with
  | 0 => .array .int
  | 1 => .array .int
  | 2 => .array .int
  | _ => .array .int
theorem nmX0 : ∀ a, a < 4 → ∀ b, b < 4 → a ≠ b → (TX0 a).2.1 ≠ (TX0 b).2.1 := by decide +kernel
theorem tyX0_ok : ∀ k, k < 4 → parseFieldDescriptor (TX0 k).2.2.1 = some (tyX0 k) := by decide +kernel
abbrev cX0_init : ByteArray := prog_2_method_1_code
def yX0_init : MethodName := ⟨RX0, "<init>", "()V"⟩
abbrev cX0_copyFrom : ByteArray := prog_2_method_2_code
def yX0_copyFrom : MethodName := ⟨RX0, "copyFrom", "(LPagePairs$Cells;)V"⟩
abbrev cX0_kind : ByteArray := prog_2_method_3_code
def yX0_kind : MethodName := ⟨RX0, "kind", "(I)I"⟩
abbrev cX0_key : ByteArray := prog_2_method_4_code
def yX0_key : MethodName := ⟨RX0, "key", "(I)I"⟩
abbrev cX0_value : ByteArray := prog_2_method_5_code
def yX0_value : MethodName := ⟨RX0, "value", "(I)I"⟩
abbrev cX0_stamp : ByteArray := prog_2_method_6_code
def yX0_stamp : MethodName := ⟨RX0, "stamp", "(I)I"⟩
abbrev cX0_fact : ByteArray := prog_2_method_7_code
def yX0_fact : MethodName := ⟨RX0, "fact", "(II)I"⟩
abbrev cX0_begin : ByteArray := prog_2_method_8_code
def yX0_begin : MethodName := ⟨RX0, "begin", "(IIII)V"⟩
abbrev cX0_beginBackup : ByteArray := prog_2_method_9_code
def yX0_beginBackup : MethodName := ⟨RX0, "beginBackup", "(II)V"⟩
abbrev cX0_mark : ByteArray := prog_2_method_10_code
def yX0_mark : MethodName := ⟨RX0, "mark", "(II)V"⟩
abbrev cX0_blankBlock : ByteArray := prog_2_method_11_code
def yX0_blankBlock : MethodName := ⟨RX0, "blankBlock", "(I)V"⟩
abbrev cX0_isBlankBlock : ByteArray := prog_2_method_12_code
def yX0_isBlankBlock : MethodName := ⟨RX0, "isBlankBlock", "(I)Z"⟩
abbrev cX0_place : ByteArray := prog_2_method_13_code
def yX0_place : MethodName := ⟨RX0, "place", "(I)I"⟩
abbrev cX0_isPlace : ByteArray := prog_2_method_14_code
def yX0_isPlace : MethodName := ⟨RX0, "isPlace", "(I)Z"⟩
abbrev cX0_placeStamp : ByteArray := prog_2_method_15_code
def yX0_placeStamp : MethodName := ⟨RX0, "placeStamp", "(I)I"⟩
abbrev cX0_placesInBlock : ByteArray := prog_2_method_16_code
def yX0_placesInBlock : MethodName := ⟨RX0, "placesInBlock", "(I)I"⟩
abbrev cX0_tornPages : ByteArray := prog_2_method_17_code
def yX0_tornPages : MethodName := ⟨RX0, "tornPages", "()I"⟩
abbrev cX0_keysWithPlace : ByteArray := prog_2_method_18_code
def yX0_keysWithPlace : MethodName := ⟨RX0, "keysWithPlace", "()I"⟩
def RX1 : String := "PagePairs$History"
def TX1 : u_T := fun k => match k with
  | 0 => ("PagePairs$History", "states", "[LPagePairs$State;", true)
  | _ => ("PagePairs$History", "size", "I", false)
def tyX1 : Nat → FieldType := fun k => match k with
  | 0 => .array (.object "PagePairs$State")
  | _ => .int
theorem nmX1 : ∀ a, a < 2 → ∀ b, b < 2 → a ≠ b → (TX1 a).2.1 ≠ (TX1 b).2.1 := by decide +kernel
theorem tyX1_ok : ∀ k, k < 2 → parseFieldDescriptor (TX1 k).2.2.1 = some (tyX1 k) := by decide +kernel
abbrev cX1_init : ByteArray := prog_3_method_1_code
def yX1_init : MethodName := ⟨RX1, "<init>", "()V"⟩
abbrev cX1_size : ByteArray := prog_3_method_2_code
def yX1_size : MethodName := ⟨RX1, "size", "()I"⟩
abbrev cX1_note : ByteArray := prog_3_method_3_code
def yX1_note : MethodName := ⟨RX1, "note", "(LPagePairs$State;)V"⟩
abbrev cX1_keep : ByteArray := prog_3_method_4_code
def yX1_keep : MethodName := ⟨RX1, "keep", "()V"⟩
abbrev cX1_restore : ByteArray := prog_3_method_5_code
def yX1_restore : MethodName := ⟨RX1, "restore", "(LPagePairs$State;)I"⟩
abbrev cX1_stateAt : ByteArray := prog_3_method_6_code
def yX1_stateAt : MethodName := ⟨RX1, "stateAt", "(I)LPagePairs$State;"⟩
abbrev cX1_dropOldest : ByteArray := prog_3_method_7_code
def yX1_dropOldest : MethodName := ⟨RX1, "dropOldest", "()V"⟩
def RX2 : String := "PagePairs$Requests"
def TX2 : u_T := fun k => match k with
  | 0 => ("PagePairs$Requests", "keys", "[I", true)
  | 1 => ("PagePairs$Requests", "values", "[I", true)
  | 2 => ("PagePairs$Requests", "urgencies", "[I", true)
  | 3 => ("PagePairs$Requests", "stamps", "[I", true)
  | _ => ("PagePairs$Requests", "size", "I", false)
def tyX2 : Nat → FieldType := fun k => match k with
  | 0 => .array .int
  | 1 => .array .int
  | 2 => .array .int
  | 3 => .array .int
  | _ => .int
theorem nmX2 : ∀ a, a < 5 → ∀ b, b < 5 → a ≠ b → (TX2 a).2.1 ≠ (TX2 b).2.1 := by decide +kernel
theorem tyX2_ok : ∀ k, k < 5 → parseFieldDescriptor (TX2 k).2.2.1 = some (tyX2 k) := by decide +kernel
abbrev cX2_init : ByteArray := prog_4_method_1_code
def yX2_init : MethodName := ⟨RX2, "<init>", "()V"⟩
abbrev cX2_copyFrom : ByteArray := prog_4_method_2_code
def yX2_copyFrom : MethodName := ⟨RX2, "copyFrom", "(LPagePairs$Requests;)V"⟩
abbrev cX2_size : ByteArray := prog_4_method_3_code
def yX2_size : MethodName := ⟨RX2, "size", "()I"⟩
abbrev cX2_key : ByteArray := prog_4_method_4_code
def yX2_key : MethodName := ⟨RX2, "key", "(I)I"⟩
abbrev cX2_value : ByteArray := prog_4_method_5_code
def yX2_value : MethodName := ⟨RX2, "value", "(I)I"⟩
abbrev cX2_urgency : ByteArray := prog_4_method_6_code
def yX2_urgency : MethodName := ⟨RX2, "urgency", "(I)I"⟩
abbrev cX2_stamp : ByteArray := prog_4_method_7_code
def yX2_stamp : MethodName := ⟨RX2, "stamp", "(I)I"⟩
abbrev cX2_add : ByteArray := prog_4_method_8_code
def yX2_add : MethodName := ⟨RX2, "add", "(IIII)V"⟩
abbrev cX2_dropFirst : ByteArray := prog_4_method_9_code
def yX2_dropFirst : MethodName := ⟨RX2, "dropFirst", "()V"⟩
abbrev cX2_makeEmpty : ByteArray := prog_4_method_10_code
def yX2_makeEmpty : MethodName := ⟨RX2, "makeEmpty", "()V"⟩
abbrev cX2_move : ByteArray := prog_4_method_11_code
def yX2_move : MethodName := ⟨RX2, "move", "(II)V"⟩
abbrev cX2_put : ByteArray := prog_4_method_12_code
def yX2_put : MethodName := ⟨RX2, "put", "(IIIII)V"⟩
def RX3 : String := "PagePairs$Script"
def TX3 : u_T := fun k => match k with
  | 0 => ("PagePairs$Script", "done", "I", false)
  | 1 => ("PagePairs$Script", "faulty", "Z", false)
  | 2 => ("PagePairs$Script", "position", "I", false)
  | 3 => ("PagePairs$Script", "reason", "I", false)
  | _ => ("PagePairs$Script", "cause", "I", false)
def tyX3 : Nat → FieldType := fun k => match k with
  | 0 => .int
  | 1 => .boolean
  | 2 => .int
  | 3 => .int
  | _ => .int
theorem nmX3 : ∀ a, a < 5 → ∀ b, b < 5 → a ≠ b → (TX3 a).2.1 ≠ (TX3 b).2.1 := by decide +kernel
theorem tyX3_ok : ∀ k, k < 5 → parseFieldDescriptor (TX3 k).2.2.1 = some (tyX3 k) := by decide +kernel
abbrev cX3_init : ByteArray := prog_5_method_1_code
def yX3_init : MethodName := ⟨RX3, "<init>", "()V"⟩
abbrev cX3_run : ByteArray := prog_5_method_2_code
def yX3_run : MethodName := ⟨RX3, "run", "(LPagePairs$Text;LPagePairs$State;)V"⟩
abbrev cX3_hasFault : ByteArray := prog_5_method_3_code
def yX3_hasFault : MethodName := ⟨RX3, "hasFault", "()Z"⟩
abbrev cX3_commandsDone : ByteArray := prog_5_method_4_code
def yX3_commandsDone : MethodName := ⟨RX3, "commandsDone", "()I"⟩
abbrev cX3_faultFact : ByteArray := prog_5_method_5_code
def yX3_faultFact : MethodName := ⟨RX3, "faultFact", "(I)I"⟩
abbrev cX3_tellFault : ByteArray := prog_5_method_6_code
def yX3_tellFault : MethodName := ⟨RX3, "tellFault", "(II)V"⟩
abbrev cX3_perform : ByteArray := prog_5_method_7_code
def yX3_perform : MethodName := ⟨RX3, "perform", "(LPagePairs$Text;LPagePairs$State;)I"⟩
def RX4 : String := "PagePairs$State"
def TX4 : u_T := fun k => match k with
  | 0 => ("PagePairs$State", "cells", "LPagePairs$Cells;", true)
  | 1 => ("PagePairs$State", "requests", "LPagePairs$Requests;", true)
  | 2 => ("PagePairs$State", "writing", "LPagePairs$Writing;", true)
  | 3 => ("PagePairs$State", "tallies", "LPagePairs$Tallies;", true)
  | 4 => ("PagePairs$State", "settings", "[I", true)
  | 5 => ("PagePairs$State", "slowness", "[I", true)
  | 6 => ("PagePairs$State", "erased", "[I", true)
  | 7 => ("PagePairs$State", "stampsAhead", "[I", true)
  | 8 => ("PagePairs$State", "power", "Z", false)
  | 9 => ("PagePairs$State", "active", "I", false)
  | _ => ("PagePairs$State", "next", "I", false)
def tyX4 : Nat → FieldType := fun k => match k with
  | 0 => .object "PagePairs$Cells"
  | 1 => .object "PagePairs$Requests"
  | 2 => .object "PagePairs$Writing"
  | 3 => .object "PagePairs$Tallies"
  | 4 => .array .int
  | 5 => .array .int
  | 6 => .array .int
  | 7 => .array .int
  | 8 => .boolean
  | 9 => .int
  | _ => .int
theorem nmX4 : ∀ a, a < 11 → ∀ b, b < 11 → a ≠ b → (TX4 a).2.1 ≠ (TX4 b).2.1 := by decide +kernel
theorem tyX4_ok : ∀ k, k < 11 → parseFieldDescriptor (TX4 k).2.2.1 = some (tyX4 k) := by decide +kernel
abbrev cX4_init : ByteArray := prog_6_method_1_code
def yX4_init : MethodName := ⟨RX4, "<init>", "()V"⟩
abbrev cX4_copyFrom : ByteArray := prog_6_method_2_code
def yX4_copyFrom : MethodName := ⟨RX4, "copyFrom", "(LPagePairs$State;)V"⟩
abbrev cX4_hasPower : ByteArray := prog_6_method_3_code
def yX4_hasPower : MethodName := ⟨RX4, "hasPower", "()Z"⟩
abbrev cX4_askFor : ByteArray := prog_6_method_4_code
def yX4_askFor : MethodName := ⟨RX4, "askFor", "(III)I"⟩
abbrev cX4_letTicks : ByteArray := prog_6_method_5_code
def yX4_letTicks : MethodName := ⟨RX4, "letTicks", "(I)I"⟩
abbrev cX4_pass : ByteArray := prog_6_method_6_code
def yX4_pass : MethodName := ⟨RX4, "pass", "(I)V"⟩
abbrev cX4_passUntilDone : ByteArray := prog_6_method_7_code
def yX4_passUntilDone : MethodName := ⟨RX4, "passUntilDone", "()I"⟩
abbrev cX4_isFull : ByteArray := prog_6_method_8_code
def yX4_isFull : MethodName := ⟨RX4, "isFull", "()Z"⟩
abbrev cX4_takeRequests : ByteArray := prog_6_method_9_code
def yX4_takeRequests : MethodName := ⟨RX4, "takeRequests", "()V"⟩
abbrev cX4_isOutdated : ByteArray := prog_6_method_10_code
def yX4_isOutdated : MethodName := ⟨RX4, "isOutdated", "()Z"⟩
abbrev cX4_beginWriting : ByteArray := prog_6_method_11_code
def yX4_beginWriting : MethodName := ⟨RX4, "beginWriting", "()V"⟩
abbrev cX4_goOn : ByteArray := prog_6_method_12_code
def yX4_goOn : MethodName := ⟨RX4, "goOn", "(I)V"⟩
abbrev cX4_finishWriting : ByteArray := prog_6_method_13_code
def yX4_finishWriting : MethodName := ⟨RX4, "finishWriting", "()V"⟩
abbrev cX4_cutPower : ByteArray := prog_6_method_14_code
def yX4_cutPower : MethodName := ⟨RX4, "cutPower", "()I"⟩
abbrev cX4_loseByCut : ByteArray := prog_6_method_15_code
def yX4_loseByCut : MethodName := ⟨RX4, "loseByCut", "()I"⟩
abbrev cX4_tearWriting : ByteArray := prog_6_method_16_code
def yX4_tearWriting : MethodName := ⟨RX4, "tearWriting", "()V"⟩
abbrev cX4_restorePower : ByteArray := prog_6_method_17_code
def yX4_restorePower : MethodName := ⟨RX4, "restorePower", "()I"⟩
abbrev cX4_askForCopy : ByteArray := prog_6_method_18_code
def yX4_askForCopy : MethodName := ⟨RX4, "askForCopy", "(II)V"⟩
abbrev cX4_turnToOther : ByteArray := prog_6_method_19_code
def yX4_turnToOther : MethodName := ⟨RX4, "turnToOther", "()I"⟩
abbrev cX4_cleanBlock : ByteArray := prog_6_method_20_code
def yX4_cleanBlock : MethodName := ⟨RX4, "cleanBlock", "(I)I"⟩
abbrev cX4_eraseBlock : ByteArray := prog_6_method_21_code
def yX4_eraseBlock : MethodName := ⟨RX4, "eraseBlock", "(I)I"⟩
abbrev cX4_changeSlowness : ByteArray := prog_6_method_22_code
def yX4_changeSlowness : MethodName := ⟨RX4, "changeSlowness", "(II)I"⟩
abbrev cX4_changeSetting : ByteArray := prog_6_method_23_code
def yX4_changeSetting : MethodName := ⟨RX4, "changeSetting", "(II)I"⟩
abbrev cX4_valueOfKey : ByteArray := prog_6_method_24_code
def yX4_valueOfKey : MethodName := ⟨RX4, "valueOfKey", "(I)I"⟩
abbrev cX4_placeFact : ByteArray := prog_6_method_25_code
def yX4_placeFact : MethodName := ⟨RX4, "placeFact", "(II)I"⟩
abbrev cX4_pageFact : ByteArray := prog_6_method_26_code
def yX4_pageFact : MethodName := ⟨RX4, "pageFact", "(III)I"⟩
abbrev cX4_backupFact : ByteArray := prog_6_method_27_code
def yX4_backupFact : MethodName := ⟨RX4, "backupFact", "(III)I"⟩
abbrev cX4_requestFact : ByteArray := prog_6_method_28_code
def yX4_requestFact : MethodName := ⟨RX4, "requestFact", "(II)I"⟩
abbrev cX4_numberOf : ByteArray := prog_6_method_29_code
def yX4_numberOf : MethodName := ⟨RX4, "numberOf", "(I)I"⟩
abbrev cX4_settingOrSlowness : ByteArray := prog_6_method_30_code
def yX4_settingOrSlowness : MethodName := ⟨RX4, "settingOrSlowness", "(I)I"⟩
def RX5 : String := "PagePairs$Tallies"
def TX5 : u_T := fun k => match k with
  | 0 => ("PagePairs$Tallies", "time", "I", false)
  | 1 => ("PagePairs$Tallies", "stamps", "I", false)
  | 2 => ("PagePairs$Tallies", "acknowledged", "I", false)
  | 3 => ("PagePairs$Tallies", "goneByCuts", "I", false)
  | 4 => ("PagePairs$Tallies", "lostKeys", "I", false)
  | 5 => ("PagePairs$Tallies", "cuts", "I", false)
  | _ => ("PagePairs$Tallies", "backups", "I", false)
def tyX5 : Nat → FieldType := fun k => match k with
  | 0 => .int
  | 1 => .int
  | 2 => .int
  | 3 => .int
  | 4 => .int
  | 5 => .int
  | _ => .int
theorem nmX5 : ∀ a, a < 7 → ∀ b, b < 7 → a ≠ b → (TX5 a).2.1 ≠ (TX5 b).2.1 := by decide +kernel
theorem tyX5_ok : ∀ k, k < 7 → parseFieldDescriptor (TX5 k).2.2.1 = some (tyX5 k) := by decide +kernel
abbrev cX5_init : ByteArray := prog_7_method_1_code
def yX5_init : MethodName := ⟨RX5, "<init>", "()V"⟩
abbrev cX5_copyFrom : ByteArray := prog_7_method_2_code
def yX5_copyFrom : MethodName := ⟨RX5, "copyFrom", "(LPagePairs$Tallies;)V"⟩
def RX6 : String := "PagePairs$Text"
def TX6 : u_T := fun k => match k with
  | 0 => ("PagePairs$Text", "signs", "[I", true)
  | 1 => ("PagePairs$Text", "length", "I", false)
  | 2 => ("PagePairs$Text", "cursor", "I", false)
  | 3 => ("PagePairs$Text", "command", "I", false)
  | 4 => ("PagePairs$Text", "first", "I", false)
  | _ => ("PagePairs$Text", "second", "I", false)
def tyX6 : Nat → FieldType := fun k => match k with
  | 0 => .array .int
  | 1 => .int
  | 2 => .int
  | 3 => .int
  | 4 => .int
  | _ => .int
theorem nmX6 : ∀ a, a < 6 → ∀ b, b < 6 → a ≠ b → (TX6 a).2.1 ≠ (TX6 b).2.1 := by decide +kernel
theorem tyX6_ok : ∀ k, k < 6 → parseFieldDescriptor (TX6 k).2.2.1 = some (tyX6 k) := by decide +kernel
abbrev cX6_init : ByteArray := prog_8_method_1_code
def yX6_init : MethodName := ⟨RX6, "<init>", "()V"⟩
abbrev cX6_length : ByteArray := prog_8_method_2_code
def yX6_length : MethodName := ⟨RX6, "length", "()I"⟩
abbrev cX6_append : ByteArray := prog_8_method_3_code
def yX6_append : MethodName := ⟨RX6, "append", "(I)I"⟩
abbrev cX6_makeEmpty : ByteArray := prog_8_method_4_code
def yX6_makeEmpty : MethodName := ⟨RX6, "makeEmpty", "()I"⟩
abbrev cX6_rewind : ByteArray := prog_8_method_5_code
def yX6_rewind : MethodName := ⟨RX6, "rewind", "()V"⟩
abbrev cX6_hasMore : ByteArray := prog_8_method_6_code
def yX6_hasMore : MethodName := ⟨RX6, "hasMore", "()Z"⟩
abbrev cX6_readCommand : ByteArray := prog_8_method_7_code
def yX6_readCommand : MethodName := ⟨RX6, "readCommand", "()Z"⟩
abbrev cX6_numbersOf : ByteArray := prog_8_method_8_code
def yX6_numbersOf : MethodName := ⟨RX6, "numbersOf", "(I)I"⟩
abbrev cX6_readNumber : ByteArray := prog_8_method_9_code
def yX6_readNumber : MethodName := ⟨RX6, "readNumber", "()I"⟩
abbrev cX6_readSign : ByteArray := prog_8_method_10_code
def yX6_readSign : MethodName := ⟨RX6, "readSign", "(I)Z"⟩
abbrev cX6_sign : ByteArray := prog_8_method_11_code
def yX6_sign : MethodName := ⟨RX6, "sign", "()I"⟩
def RX7 : String := "PagePairs$Writing"
def TX7 : u_T := fun k => match k with
  | 0 => ("PagePairs$Writing", "busy", "Z", false)
  | 1 => ("PagePairs$Writing", "late", "Z", false)
  | 2 => ("PagePairs$Writing", "urgency", "I", false)
  | 3 => ("PagePairs$Writing", "pageCell", "I", false)
  | 4 => ("PagePairs$Writing", "earlyCell", "I", false)
  | 5 => ("PagePairs$Writing", "backupCell", "I", false)
  | 6 => ("PagePairs$Writing", "ownTicks", "I", false)
  | _ => ("PagePairs$Writing", "left", "I", false)
def tyX7 : Nat → FieldType := fun k => match k with
  | 0 => .boolean
  | 1 => .boolean
  | 2 => .int
  | 3 => .int
  | 4 => .int
  | 5 => .int
  | 6 => .int
  | _ => .int
theorem nmX7 : ∀ a, a < 8 → ∀ b, b < 8 → a ≠ b → (TX7 a).2.1 ≠ (TX7 b).2.1 := by decide +kernel
theorem tyX7_ok : ∀ k, k < 8 → parseFieldDescriptor (TX7 k).2.2.1 = some (tyX7 k) := by decide +kernel
abbrev cX7_init : ByteArray := prog_9_method_1_code
def yX7_init : MethodName := ⟨RX7, "<init>", "()V"⟩
abbrev cX7_copyFrom : ByteArray := prog_9_method_2_code
def yX7_copyFrom : MethodName := ⟨RX7, "copyFrom", "(LPagePairs$Writing;)V"⟩
abbrev cX7_isBehindBackup : ByteArray := prog_9_method_3_code
def yX7_isBehindBackup : MethodName := ⟨RX7, "isBehindBackup", "()Z"⟩
abbrev cX7_hasBegunItself : ByteArray := prog_9_method_4_code
def yX7_hasBegunItself : MethodName := ⟨RX7, "hasBegunItself", "()Z"⟩
abbrev cX7_isAskedFor : ByteArray := prog_9_method_5_code
def yX7_isAskedFor : MethodName := ⟨RX7, "isAskedFor", "()Z"⟩
def RX8 : String := "PagePairs"
def TX8 : u_T := fun k => match k with
  | 0 => ("PagePairs", "now", "LPagePairs$State;", true)
  | 1 => ("PagePairs", "trial", "LPagePairs$State;", true)
  | 2 => ("PagePairs", "history", "LPagePairs$History;", true)
  | 3 => ("PagePairs", "text", "LPagePairs$Text;", true)
  | _ => ("PagePairs", "script", "LPagePairs$Script;", true)
def tyX8 : Nat → FieldType := fun k => match k with
  | 0 => .object "PagePairs$State"
  | 1 => .object "PagePairs$State"
  | 2 => .object "PagePairs$History"
  | 3 => .object "PagePairs$Text"
  | _ => .object "PagePairs$Script"
theorem nmX8 : ∀ a, a < 5 → ∀ b, b < 5 → a ≠ b → (TX8 a).2.1 ≠ (TX8 b).2.1 := by decide +kernel
theorem tyX8_ok : ∀ k, k < 5 → parseFieldDescriptor (TX8 k).2.2.1 = some (tyX8 k) := by decide +kernel
abbrev cX8_init : ByteArray := prog_1_method_1_code
def yX8_init : MethodName := ⟨RX8, "<init>", "()V"⟩
abbrev cX8_write : ByteArray := prog_1_method_2_code
def yX8_write : MethodName := ⟨RX8, "write", "(III)I"⟩
abbrev cX8_tick : ByteArray := prog_1_method_3_code
def yX8_tick : MethodName := ⟨RX8, "tick", "(I)I"⟩
abbrev cX8_cut : ByteArray := prog_1_method_4_code
def yX8_cut : MethodName := ⟨RX8, "cut", "()I"⟩
abbrev cX8_on : ByteArray := prog_1_method_5_code
def yX8_on : MethodName := ⟨RX8, "on", "()I"⟩
abbrev cX8_turn : ByteArray := prog_1_method_6_code
def yX8_turn : MethodName := ⟨RX8, "turn", "()I"⟩
abbrev cX8_clean : ByteArray := prog_1_method_7_code
def yX8_clean : MethodName := ⟨RX8, "clean", "(I)I"⟩
abbrev cX8_erase : ByteArray := prog_1_method_8_code
def yX8_erase : MethodName := ⟨RX8, "erase", "(I)I"⟩
abbrev cX8_slow : ByteArray := prog_1_method_9_code
def yX8_slow : MethodName := ⟨RX8, "slow", "(II)I"⟩
abbrev cX8_set : ByteArray := prog_1_method_10_code
def yX8_set : MethodName := ⟨RX8, "set", "(II)I"⟩
abbrev cX8_read : ByteArray := prog_1_method_11_code
def yX8_read : MethodName := ⟨RX8, "read", "(I)I"⟩
abbrev cX8_placeOf : ByteArray := prog_1_method_12_code
def yX8_placeOf : MethodName := ⟨RX8, "placeOf", "(II)I"⟩
abbrev cX8_pageOf : ByteArray := prog_1_method_13_code
def yX8_pageOf : MethodName := ⟨RX8, "pageOf", "(III)I"⟩
abbrev cX8_backupOf : ByteArray := prog_1_method_14_code
def yX8_backupOf : MethodName := ⟨RX8, "backupOf", "(III)I"⟩
abbrev cX8_waits : ByteArray := prog_1_method_15_code
def yX8_waits : MethodName := ⟨RX8, "waits", "(II)I"⟩
abbrev cX8_count : ByteArray := prog_1_method_16_code
def yX8_count : MethodName := ⟨RX8, "count", "(I)I"⟩
abbrev cX8_wouldLose : ByteArray := prog_1_method_17_code
def yX8_wouldLose : MethodName := ⟨RX8, "wouldLose", "(I)I"⟩
abbrev cX8_doneIn : ByteArray := prog_1_method_18_code
def yX8_doneIn : MethodName := ⟨RX8, "doneIn", "()I"⟩
abbrev cX8_undo : ByteArray := prog_1_method_19_code
def yX8_undo : MethodName := ⟨RX8, "undo", "()I"⟩
abbrev cX8_type : ByteArray := prog_1_method_20_code
def yX8_type : MethodName := ⟨RX8, "type", "(I)I"⟩
abbrev cX8_clearText : ByteArray := prog_1_method_21_code
def yX8_clearText : MethodName := ⟨RX8, "clearText", "()I"⟩
abbrev cX8_fault : ByteArray := prog_1_method_22_code
def yX8_fault : MethodName := ⟨RX8, "fault", "(I)I"⟩
abbrev cX8_play : ByteArray := prog_1_method_23_code
def yX8_play : MethodName := ⟨RX8, "play", "()I"⟩
abbrev cX8_keepChange : ByteArray := prog_1_method_24_code
def yX8_keepChange : MethodName := ⟨RX8, "keepChange", "(I)I"⟩
abbrev cX8_isIn : ByteArray := prog_1_method_25_code
def yX8_isIn : MethodName := ⟨RX8, "isIn", "(III)Z"⟩
abbrev cX8_valueAt : ByteArray := prog_1_method_26_code
def yX8_valueAt : MethodName := ⟨RX8, "valueAt", "([II)I"⟩
abbrev cX8_putAt : ByteArray := prog_1_method_27_code
def yX8_putAt : MethodName := ⟨RX8, "putAt", "([III)V"⟩
abbrev cX8_copyRow : ByteArray := prog_1_method_28_code
def yX8_copyRow : MethodName := ⟨RX8, "copyRow", "([I[I)V"⟩
abbrev cX8_quotient : ByteArray := prog_1_method_29_code
def yX8_quotient : MethodName := ⟨RX8, "quotient", "(II)I"⟩
abbrev cX8_cellOf : ByteArray := prog_1_method_30_code
def yX8_cellOf : MethodName := ⟨RX8, "cellOf", "(II)I"⟩
abbrev cX8_earlyPosition : ByteArray := prog_1_method_31_code
def yX8_earlyPosition : MethodName := ⟨RX8, "earlyPosition", "(I)I"⟩
def RX9 : String := "PagePairsModel"
def TX9 : u_T := fun k => match k with
  | 0 => ("PagePairsModel", "s", "[I", true)
  | 1 => ("PagePairsModel", "begun", "[I", true)
  | 2 => ("PagePairsModel", "past", "[I", true)
  | 3 => ("PagePairsModel", "states", "I", false)
  | 4 => ("PagePairsModel", "text", "[I", true)
  | 5 => ("PagePairsModel", "length", "I", false)
  | 6 => ("PagePairsModel", "stamps", "[I", true)
  | 7 => ("PagePairsModel", "at", "I", false)
  | 8 => ("PagePairsModel", "done", "I", false)
  | 9 => ("PagePairsModel", "told", "I", false)
  | _ => ("PagePairsModel", "isForm", "Z", false)
def tyX9 : Nat → FieldType := fun k => match k with
  | 0 => .array .int
  | 1 => .array .int
  | 2 => .array .int
  | 3 => .int
  | 4 => .array .int
  | 5 => .int
  | 6 => .array .int
  | 7 => .int
  | 8 => .int
  | 9 => .int
  | _ => .boolean
theorem nmX9 : ∀ a, a < 11 → ∀ b, b < 11 → a ≠ b → (TX9 a).2.1 ≠ (TX9 b).2.1 := by decide +kernel
theorem tyX9_ok : ∀ k, k < 11 → parseFieldDescriptor (TX9 k).2.2.1 = some (tyX9 k) := by decide +kernel
abbrev cX9_init : ByteArray := prog_11_method_1_code
def yX9_init : MethodName := ⟨RX9, "<init>", "()V"⟩
abbrev cX9_in : ByteArray := prog_11_method_3_code
def yX9_in : MethodName := ⟨RX9, "in", "(III)Z"⟩
abbrev cX9_begins : ByteArray := prog_11_method_4_code
def yX9_begins : MethodName := ⟨RX9, "begins", "()V"⟩
abbrev cX9_returns : ByteArray := prog_11_method_5_code
def yX9_returns : MethodName := ⟨RX9, "returns", "()V"⟩
abbrev cX9_acted : ByteArray := prog_11_method_6_code
def yX9_acted : MethodName := ⟨RX9, "acted", "(I)I"⟩
abbrev cX9_isBlock : ByteArray := prog_11_method_7_code
def yX9_isBlock : MethodName := ⟨RX9, "isBlock", "(I)Z"⟩
abbrev cX9_isOff : ByteArray := prog_11_method_8_code
def yX9_isOff : MethodName := ⟨RX9, "isOff", "()Z"⟩
abbrev cX9_isLate : ByteArray := prog_11_method_9_code
def yX9_isLate : MethodName := ⟨RX9, "isLate", "(I)Z"⟩
abbrev cX9_lineOf : ByteArray := prog_11_method_10_code
def yX9_lineOf : MethodName := ⟨RX9, "lineOf", "(I)I"⟩
abbrev cX9_earlyOf : ByteArray := prog_11_method_11_code
def yX9_earlyOf : MethodName := ⟨RX9, "earlyOf", "(I)I"⟩
abbrev cX9_pageAt : ByteArray := prog_11_method_12_code
def yX9_pageAt : MethodName := ⟨RX9, "pageAt", "(II)I"⟩
abbrev cX9_backupAt : ByteArray := prog_11_method_13_code
def yX9_backupAt : MethodName := ⟨RX9, "backupAt", "(II)I"⟩
abbrev cX9_next : ByteArray := prog_11_method_14_code
def yX9_next : MethodName := ⟨RX9, "next", "()I"⟩
abbrev cX9_isBlank : ByteArray := prog_11_method_15_code
def yX9_isBlank : MethodName := ⟨RX9, "isBlank", "(I)Z"⟩
abbrev cX9_placeOfKey : ByteArray := prog_11_method_16_code
def yX9_placeOfKey : MethodName := ⟨RX9, "placeOfKey", "(I)I"⟩
abbrev cX9_atPlace : ByteArray := prog_11_method_17_code
def yX9_atPlace : MethodName := ⟨RX9, "atPlace", "(I)I"⟩
abbrev cX9_stampOf : ByteArray := prog_11_method_18_code
def yX9_stampOf : MethodName := ⟨RX9, "stampOf", "(I)I"⟩
abbrev cX9_comes : ByteArray := prog_11_method_19_code
def yX9_comes : MethodName := ⟨RX9, "comes", "(IIII)V"⟩
abbrev cX9_copies : ByteArray := prog_11_method_20_code
def yX9_copies : MethodName := ⟨RX9, "copies", "(II)V"⟩
abbrev cX9_goesFirst : ByteArray := prog_11_method_21_code
def yX9_goesFirst : MethodName := ⟨RX9, "goesFirst", "()V"⟩
abbrev cX9_isPassed : ByteArray := prog_11_method_22_code
def yX9_isPassed : MethodName := ⟨RX9, "isPassed", "()Z"⟩
abbrev cX9_now : ByteArray := prog_11_method_23_code
def yX9_now : MethodName := ⟨RX9, "now", "(I)I"⟩
abbrev cX9_isWriting : ByteArray := prog_11_method_24_code
def yX9_isWriting : MethodName := ⟨RX9, "isWriting", "()Z"⟩
abbrev cX9_begin1 : ByteArray := prog_11_method_25_code
def yX9_begin1 : MethodName := ⟨RX9, "begin1", "(I)V"⟩
abbrev cX9_takes : ByteArray := prog_11_method_26_code
def yX9_takes : MethodName := ⟨RX9, "takes", "()V"⟩
abbrev cX9_clearsBackup : ByteArray := prog_11_method_27_code
def yX9_clearsBackup : MethodName := ⟨RX9, "clearsBackup", "(II)V"⟩
abbrev cX9_ends : ByteArray := prog_11_method_28_code
def yX9_ends : MethodName := ⟨RX9, "ends", "()V"⟩
abbrev cX9_clearsNow : ByteArray := prog_11_method_29_code
def yX9_clearsNow : MethodName := ⟨RX9, "clearsNow", "()V"⟩
abbrev cX9_ticks : ByteArray := prog_11_method_30_code
def yX9_ticks : MethodName := ⟨RX9, "ticks", "()V"⟩
abbrev cX9_goes : ByteArray := prog_11_method_31_code
def yX9_goes : MethodName := ⟨RX9, "goes", "(I)I"⟩
abbrev cX9_tears : ByteArray := prog_11_method_32_code
def yX9_tears : MethodName := ⟨RX9, "tears", "(II)V"⟩
abbrev cX9_breaks : ByteArray := prog_11_method_33_code
def yX9_breaks : MethodName := ⟨RX9, "breaks", "()I"⟩
abbrev cX9_ones : ByteArray := prog_11_method_34_code
def yX9_ones : MethodName := ⟨RX9, "ones", "(I)I"⟩
abbrev cX9_turnsOff : ByteArray := prog_11_method_35_code
def yX9_turnsOff : MethodName := ⟨RX9, "turnsOff", "()I"⟩
abbrev cX9_isPlace : ByteArray := prog_11_method_36_code
def yX9_isPlace : MethodName := ⟨RX9, "isPlace", "(I)Z"⟩
abbrev cX9_turnsOn : ByteArray := prog_11_method_37_code
def yX9_turnsOn : MethodName := ⟨RX9, "turnsOn", "()I"⟩
abbrev cX9_asks : ByteArray := prog_11_method_38_code
def yX9_asks : MethodName := ⟨RX9, "asks", "(III)I"⟩
abbrev cX9_lets : ByteArray := prog_11_method_39_code
def yX9_lets : MethodName := ⟨RX9, "lets", "(I)I"⟩
abbrev cX9_changes : ByteArray := prog_11_method_40_code
def yX9_changes : MethodName := ⟨RX9, "changes", "()I"⟩
abbrev cX9_cleans : ByteArray := prog_11_method_41_code
def yX9_cleans : MethodName := ⟨RX9, "cleans", "(I)I"⟩
abbrev cX9_erases : ByteArray := prog_11_method_42_code
def yX9_erases : MethodName := ⟨RX9, "erases", "(I)I"⟩
abbrev cX9_puts : ByteArray := prog_11_method_43_code
def yX9_puts : MethodName := ⟨RX9, "puts", "(II)I"⟩
abbrev cX9_write : ByteArray := prog_11_method_44_code
def yX9_write : MethodName := ⟨RX9, "write", "(III)I"⟩
abbrev cX9_tick : ByteArray := prog_11_method_45_code
def yX9_tick : MethodName := ⟨RX9, "tick", "(I)I"⟩
abbrev cX9_cut : ByteArray := prog_11_method_46_code
def yX9_cut : MethodName := ⟨RX9, "cut", "()I"⟩
abbrev cX9_on : ByteArray := prog_11_method_47_code
def yX9_on : MethodName := ⟨RX9, "on", "()I"⟩
abbrev cX9_turn : ByteArray := prog_11_method_48_code
def yX9_turn : MethodName := ⟨RX9, "turn", "()I"⟩
abbrev cX9_clean : ByteArray := prog_11_method_49_code
def yX9_clean : MethodName := ⟨RX9, "clean", "(I)I"⟩
abbrev cX9_erase : ByteArray := prog_11_method_50_code
def yX9_erase : MethodName := ⟨RX9, "erase", "(I)I"⟩
abbrev cX9_slow : ByteArray := prog_11_method_51_code
def yX9_slow : MethodName := ⟨RX9, "slow", "(II)I"⟩
abbrev cX9_set : ByteArray := prog_11_method_52_code
def yX9_set : MethodName := ⟨RX9, "set", "(II)I"⟩
abbrev cX9_isKey : ByteArray := prog_11_method_53_code
def yX9_isKey : MethodName := ⟨RX9, "isKey", "(I)Z"⟩
abbrev cX9_read : ByteArray := prog_11_method_54_code
def yX9_read : MethodName := ⟨RX9, "read", "(I)I"⟩
abbrev cX9_placeOf : ByteArray := prog_11_method_55_code
def yX9_placeOf : MethodName := ⟨RX9, "placeOf", "(II)I"⟩
abbrev cX9_pageOf : ByteArray := prog_11_method_56_code
def yX9_pageOf : MethodName := ⟨RX9, "pageOf", "(III)I"⟩
abbrev cX9_backupOf : ByteArray := prog_11_method_57_code
def yX9_backupOf : MethodName := ⟨RX9, "backupOf", "(III)I"⟩
abbrev cX9_waits : ByteArray := prog_11_method_58_code
def yX9_waits : MethodName := ⟨RX9, "waits", "(II)I"⟩
abbrev cX9_torn : ByteArray := prog_11_method_59_code
def yX9_torn : MethodName := ⟨RX9, "torn", "()I"⟩
abbrev cX9_keysThere : ByteArray := prog_11_method_60_code
def yX9_keysThere : MethodName := ⟨RX9, "keysThere", "()I"⟩
abbrev cX9_counted : ByteArray := prog_11_method_61_code
def yX9_counted : MethodName := ⟨RX9, "counted", "(I)I"⟩
abbrev cX9_count : ByteArray := prog_11_method_62_code
def yX9_count : MethodName := ⟨RX9, "count", "(I)I"⟩
abbrev cX9_wouldLose : ByteArray := prog_11_method_63_code
def yX9_wouldLose : MethodName := ⟨RX9, "wouldLose", "(I)I"⟩
abbrev cX9_doneIn : ByteArray := prog_11_method_64_code
def yX9_doneIn : MethodName := ⟨RX9, "doneIn", "()I"⟩
abbrev cX9_undo : ByteArray := prog_11_method_65_code
def yX9_undo : MethodName := ⟨RX9, "undo", "()I"⟩
abbrev cX9_type : ByteArray := prog_11_method_66_code
def yX9_type : MethodName := ⟨RX9, "type", "(I)I"⟩
abbrev cX9_clearText : ByteArray := prog_11_method_67_code
def yX9_clearText : MethodName := ⟨RX9, "clearText", "()I"⟩
abbrev cX9_here : ByteArray := prog_11_method_68_code
def yX9_here : MethodName := ⟨RX9, "here", "()I"⟩
abbrev cX9_isDigit : ByteArray := prog_11_method_69_code
def yX9_isDigit : MethodName := ⟨RX9, "isDigit", "()Z"⟩
abbrev cX9_takesSign : ByteArray := prog_11_method_70_code
def yX9_takesSign : MethodName := ⟨RX9, "takesSign", "(I)V"⟩
abbrev cX9_number : ByteArray := prog_11_method_71_code
def yX9_number : MethodName := ⟨RX9, "number", "()I"⟩
abbrev cX9_hasTwo : ByteArray := prog_11_method_72_code
def yX9_hasTwo : MethodName := ⟨RX9, "hasTwo", "(I)Z"⟩
abbrev cX9_hasOne : ByteArray := prog_11_method_73_code
def yX9_hasOne : MethodName := ⟨RX9, "hasOne", "(I)Z"⟩
abbrev cX9_called : ByteArray := prog_11_method_74_code
def yX9_called : MethodName := ⟨RX9, "called", "(III)I"⟩
abbrev cX9_does : ByteArray := prog_11_method_75_code
def yX9_does : MethodName := ⟨RX9, "does", "()I"⟩
abbrev cX9_fault : ByteArray := prog_11_method_76_code
def yX9_fault : MethodName := ⟨RX9, "fault", "(I)I"⟩
abbrev cX9_play : ByteArray := prog_11_method_77_code
def yX9_play : MethodName := ⟨RX9, "play", "()I"⟩
def RJ6 : String := "java/lang/Integer"
def TJ6 : u_T := fun k => match k with
  | _ => ("", "", "", false)
def tyJ6 : Nat → FieldType := fun k => match k with
  | _ => .int
theorem nmJ6 : ∀ a, a < 0 → ∀ b, b < 0 → a ≠ b → (TJ6 a).2.1 ≠ (TJ6 b).2.1 := by decide +kernel
theorem tyJ6_ok : ∀ k, k < 0 → parseFieldDescriptor (TJ6 k).2.2.1 = some (tyJ6 k) := by decide +kernel
abbrev cJ6_bitCount_0f7a4 : ByteArray := prog_12_method_49_code
def yJ6_bitCount_0f7a4 : MethodName := ⟨RJ6, "bitCount", "(I)I"⟩
def RJ9 : String := "java/lang/Math"
def TJ9 : u_T := fun k => match k with
  | _ => ("", "", "", false)
def tyJ9 : Nat → FieldType := fun k => match k with
  | _ => .int
theorem nmJ9 : ∀ a, a < 0 → ∀ b, b < 0 → a ≠ b → (TJ9 a).2.1 ≠ (TJ9 b).2.1 := by decide +kernel
theorem tyJ9_ok : ∀ k, k < 0 → parseFieldDescriptor (TJ9 k).2.2.1 = some (tyJ9 k) := by decide +kernel
abbrev cJ9_max_7cf53 : ByteArray := prog_13_method_65_code
def yJ9_max_7cf53 : MethodName := ⟨RJ9, "max", "(II)I"⟩
abbrev cJ9_min_7cf53 : ByteArray := prog_13_method_69_code
def yJ9_min_7cf53 : MethodName := ⟨RJ9, "min", "(II)I"⟩
def RJ10 : String := "java/lang/System"
def TJ10 : u_T := fun k => match k with
  | _ => ("", "", "", false)
def tyJ10 : Nat → FieldType := fun k => match k with
  | _ => .int
theorem nmJ10 : ∀ a, a < 0 → ∀ b, b < 0 → a ≠ b → (TJ10 a).2.1 ≠ (TJ10 b).2.1 := by decide +kernel
theorem tyJ10_ok : ∀ k, k < 0 → parseFieldDescriptor (TJ10 k).2.2.1 = some (tyJ10 k) := by decide +kernel
def RL : String := "PagePairsLaw"
abbrev cL_law : ByteArray := code
def yL_law : MethodName := ⟨RL, "law", "([I)Z"⟩
abbrev vwCl : List vw_C := [(RX0, TX0, 4), (RX1, TX1, 2), (RX2, TX2, 5), (RX3, TX3, 5), (RX4, TX4, 11), (RX5, TX5, 7), (RX6, TX6, 6), (RX7, TX7, 8), (RX8, TX8, 5), (RX9, TX9, 11)]
end
section
theorem dX0_init_0 : decode cX0_init 0 = .ok (.aload_n 0, 1) := by decide +kernel
theorem dX0_init_1 : decode cX0_init 1 = .ok (.invokespecial 3, 3) := by decide +kernel
theorem dX0_init_4 : decode cX0_init 4 = .ok (.aload_n 0, 1) := by decide +kernel
theorem dX0_init_5 : decode cX0_init 5 = .ok (.bipush 48, 2) := by decide +kernel
theorem dX0_init_7 : decode cX0_init 7 = .ok (.newarray .int, 2) := by decide +kernel
theorem dX0_init_9 : decode cX0_init 9 = .ok (.putfield 9, 3) := by decide +kernel
theorem dX0_init_12 : decode cX0_init 12 = .ok (.aload_n 0, 1) := by decide +kernel
theorem dX0_init_13 : decode cX0_init 13 = .ok (.bipush 48, 2) := by decide +kernel
theorem dX0_init_15 : decode cX0_init 15 = .ok (.newarray .int, 2) := by decide +kernel
theorem dX0_init_17 : decode cX0_init 17 = .ok (.putfield 15, 3) := by decide +kernel
theorem dX0_init_20 : decode cX0_init 20 = .ok (.aload_n 0, 1) := by decide +kernel
theorem dX0_init_21 : decode cX0_init 21 = .ok (.bipush 48, 2) := by decide +kernel
theorem dX0_init_23 : decode cX0_init 23 = .ok (.newarray .int, 2) := by decide +kernel
theorem dX0_init_25 : decode cX0_init 25 = .ok (.putfield 18, 3) := by decide +kernel
theorem dX0_init_28 : decode cX0_init 28 = .ok (.aload_n 0, 1) := by decide +kernel
theorem dX0_init_29 : decode cX0_init 29 = .ok (.bipush 48, 2) := by decide +kernel
theorem dX0_init_31 : decode cX0_init 31 = .ok (.newarray .int, 2) := by decide +kernel
theorem dX0_init_33 : decode cX0_init 33 = .ok (.putfield 21, 3) := by decide +kernel
theorem dX0_init_36 : decode cX0_init 36 = .ok (.return_, 1) := by decide +kernel
theorem dX0_copyFrom_0 : decode cX0_copyFrom 0 = .ok (.aload_n 1, 1) := by decide +kernel
theorem dX0_copyFrom_1 : decode cX0_copyFrom 1 = .ok (.getfield 9, 3) := by decide +kernel
theorem dX0_copyFrom_4 : decode cX0_copyFrom 4 = .ok (.aload_n 0, 1) := by decide +kernel
theorem dX0_copyFrom_5 : decode cX0_copyFrom 5 = .ok (.getfield 9, 3) := by decide +kernel
theorem dX0_copyFrom_8 : decode cX0_copyFrom 8 = .ok (.invokestatic 24, 3) := by decide +kernel
theorem dX0_copyFrom_11 : decode cX0_copyFrom 11 = .ok (.aload_n 1, 1) := by decide +kernel
theorem dX0_copyFrom_12 : decode cX0_copyFrom 12 = .ok (.getfield 15, 3) := by decide +kernel
theorem dX0_copyFrom_15 : decode cX0_copyFrom 15 = .ok (.aload_n 0, 1) := by decide +kernel
theorem dX0_copyFrom_16 : decode cX0_copyFrom 16 = .ok (.getfield 15, 3) := by decide +kernel
theorem dX0_copyFrom_19 : decode cX0_copyFrom 19 = .ok (.invokestatic 24, 3) := by decide +kernel
theorem dX0_copyFrom_22 : decode cX0_copyFrom 22 = .ok (.aload_n 1, 1) := by decide +kernel
theorem dX0_copyFrom_23 : decode cX0_copyFrom 23 = .ok (.getfield 18, 3) := by decide +kernel
theorem dX0_copyFrom_26 : decode cX0_copyFrom 26 = .ok (.aload_n 0, 1) := by decide +kernel
theorem dX0_copyFrom_27 : decode cX0_copyFrom 27 = .ok (.getfield 18, 3) := by decide +kernel
theorem dX0_copyFrom_30 : decode cX0_copyFrom 30 = .ok (.invokestatic 24, 3) := by decide +kernel
theorem dX0_copyFrom_33 : decode cX0_copyFrom 33 = .ok (.aload_n 1, 1) := by decide +kernel
theorem dX0_copyFrom_34 : decode cX0_copyFrom 34 = .ok (.getfield 21, 3) := by decide +kernel
theorem dX0_copyFrom_37 : decode cX0_copyFrom 37 = .ok (.aload_n 0, 1) := by decide +kernel
theorem dX0_copyFrom_38 : decode cX0_copyFrom 38 = .ok (.getfield 21, 3) := by decide +kernel
theorem dX0_copyFrom_41 : decode cX0_copyFrom 41 = .ok (.invokestatic 24, 3) := by decide +kernel
theorem dX0_copyFrom_44 : decode cX0_copyFrom 44 = .ok (.return_, 1) := by decide +kernel
theorem dX0_kind_0 : decode cX0_kind 0 = .ok (.iload_n 1, 1) := by decide +kernel
theorem dX0_kind_1 : decode cX0_kind 1 = .ok (.ifCond .lt 18, 3) := by decide +kernel
theorem dX0_kind_4 : decode cX0_kind 4 = .ok (.iload_n 1, 1) := by decide +kernel
theorem dX0_kind_5 : decode cX0_kind 5 = .ok (.bipush 48, 2) := by decide +kernel
theorem dX0_kind_7 : decode cX0_kind 7 = .ok (.if_icmp .ge 12, 3) := by decide +kernel
theorem dX0_kind_10 : decode cX0_kind 10 = .ok (.aload_n 0, 1) := by decide +kernel
theorem dX0_kind_11 : decode cX0_kind 11 = .ok (.getfield 9, 3) := by decide +kernel
theorem dX0_kind_14 : decode cX0_kind 14 = .ok (.iload_n 1, 1) := by decide +kernel
theorem dX0_kind_15 : decode cX0_kind 15 = .ok (.iaload, 1) := by decide +kernel
theorem dX0_kind_16 : decode cX0_kind 16 = .ok (.goto 4, 3) := by decide +kernel
theorem dX0_kind_19 : decode cX0_kind 19 = .ok (.iconst 0, 1) := by decide +kernel
theorem dX0_kind_20 : decode cX0_kind 20 = .ok (.ireturn, 1) := by decide +kernel
theorem dX0_key_0 : decode cX0_key 0 = .ok (.iload_n 1, 1) := by decide +kernel
theorem dX0_key_1 : decode cX0_key 1 = .ok (.ifCond .lt 18, 3) := by decide +kernel
theorem dX0_key_4 : decode cX0_key 4 = .ok (.iload_n 1, 1) := by decide +kernel
theorem dX0_key_5 : decode cX0_key 5 = .ok (.bipush 48, 2) := by decide +kernel
theorem dX0_key_7 : decode cX0_key 7 = .ok (.if_icmp .ge 12, 3) := by decide +kernel
theorem dX0_key_10 : decode cX0_key 10 = .ok (.aload_n 0, 1) := by decide +kernel
theorem dX0_key_11 : decode cX0_key 11 = .ok (.getfield 15, 3) := by decide +kernel
theorem dX0_key_14 : decode cX0_key 14 = .ok (.iload_n 1, 1) := by decide +kernel
theorem dX0_key_15 : decode cX0_key 15 = .ok (.iaload, 1) := by decide +kernel
theorem dX0_key_16 : decode cX0_key 16 = .ok (.goto 4, 3) := by decide +kernel
theorem dX0_key_19 : decode cX0_key 19 = .ok (.iconst (-1), 1) := by decide +kernel
theorem dX0_key_20 : decode cX0_key 20 = .ok (.ireturn, 1) := by decide +kernel
theorem dX0_value_0 : decode cX0_value 0 = .ok (.iload_n 1, 1) := by decide +kernel
theorem dX0_value_1 : decode cX0_value 1 = .ok (.ifCond .lt 18, 3) := by decide +kernel
theorem dX0_value_4 : decode cX0_value 4 = .ok (.iload_n 1, 1) := by decide +kernel
theorem dX0_value_5 : decode cX0_value 5 = .ok (.bipush 48, 2) := by decide +kernel
theorem dX0_value_7 : decode cX0_value 7 = .ok (.if_icmp .ge 12, 3) := by decide +kernel
theorem dX0_value_10 : decode cX0_value 10 = .ok (.aload_n 0, 1) := by decide +kernel
theorem dX0_value_11 : decode cX0_value 11 = .ok (.getfield 18, 3) := by decide +kernel
theorem dX0_value_14 : decode cX0_value 14 = .ok (.iload_n 1, 1) := by decide +kernel
theorem dX0_value_15 : decode cX0_value 15 = .ok (.iaload, 1) := by decide +kernel
theorem dX0_value_16 : decode cX0_value 16 = .ok (.goto 4, 3) := by decide +kernel
theorem dX0_value_19 : decode cX0_value 19 = .ok (.iconst 0, 1) := by decide +kernel
theorem dX0_value_20 : decode cX0_value 20 = .ok (.ireturn, 1) := by decide +kernel
theorem dX0_stamp_0 : decode cX0_stamp 0 = .ok (.iload_n 1, 1) := by decide +kernel
theorem dX0_stamp_1 : decode cX0_stamp 1 = .ok (.ifCond .lt 18, 3) := by decide +kernel
theorem dX0_stamp_4 : decode cX0_stamp 4 = .ok (.iload_n 1, 1) := by decide +kernel
theorem dX0_stamp_5 : decode cX0_stamp 5 = .ok (.bipush 48, 2) := by decide +kernel
theorem dX0_stamp_7 : decode cX0_stamp 7 = .ok (.if_icmp .ge 12, 3) := by decide +kernel
theorem dX0_stamp_10 : decode cX0_stamp 10 = .ok (.aload_n 0, 1) := by decide +kernel
theorem dX0_stamp_11 : decode cX0_stamp 11 = .ok (.getfield 21, 3) := by decide +kernel
theorem dX0_stamp_14 : decode cX0_stamp 14 = .ok (.iload_n 1, 1) := by decide +kernel
theorem dX0_stamp_15 : decode cX0_stamp 15 = .ok (.iaload, 1) := by decide +kernel
theorem dX0_stamp_16 : decode cX0_stamp 16 = .ok (.goto 4, 3) := by decide +kernel
theorem dX0_stamp_19 : decode cX0_stamp 19 = .ok (.iconst 0, 1) := by decide +kernel
theorem dX0_stamp_20 : decode cX0_stamp 20 = .ok (.ireturn, 1) := by decide +kernel
theorem dX0_fact_0 : decode cX0_fact 0 = .ok (.iload_n 2, 1) := by decide +kernel
theorem dX0_fact_1 : decode cX0_fact 1 = .ok (.iconst 1, 1) := by decide +kernel
theorem dX0_fact_2 : decode cX0_fact 2 = .ok (.if_icmp .ne 9, 3) := by decide +kernel
theorem dX0_fact_5 : decode cX0_fact 5 = .ok (.aload_n 0, 1) := by decide +kernel
theorem dX0_fact_6 : decode cX0_fact 6 = .ok (.iload_n 1, 1) := by decide +kernel
theorem dX0_fact_7 : decode cX0_fact 7 = .ok (.invokevirtual 28, 3) := by decide +kernel
theorem dX0_fact_10 : decode cX0_fact 10 = .ok (.ireturn, 1) := by decide +kernel
theorem dX0_fact_11 : decode cX0_fact 11 = .ok (.iload_n 2, 1) := by decide +kernel
theorem dX0_fact_12 : decode cX0_fact 12 = .ok (.iconst 2, 1) := by decide +kernel
theorem dX0_fact_13 : decode cX0_fact 13 = .ok (.if_icmp .ne 11, 3) := by decide +kernel
theorem dX0_fact_16 : decode cX0_fact 16 = .ok (.aload_n 0, 1) := by decide +kernel
theorem dX0_fact_17 : decode cX0_fact 17 = .ok (.iload_n 1, 1) := by decide +kernel
theorem dX0_fact_18 : decode cX0_fact 18 = .ok (.invokevirtual 32, 3) := by decide +kernel
theorem dX0_fact_21 : decode cX0_fact 21 = .ok (.goto 8, 3) := by decide +kernel
theorem dX0_fact_24 : decode cX0_fact 24 = .ok (.aload_n 0, 1) := by decide +kernel
theorem dX0_fact_25 : decode cX0_fact 25 = .ok (.iload_n 1, 1) := by decide +kernel
theorem dX0_fact_26 : decode cX0_fact 26 = .ok (.invokevirtual 35, 3) := by decide +kernel
theorem dX0_fact_29 : decode cX0_fact 29 = .ok (.ireturn, 1) := by decide +kernel
theorem dX0_begin_0 : decode cX0_begin 0 = .ok (.iload_n 1, 1) := by decide +kernel
theorem dX0_begin_1 : decode cX0_begin 1 = .ok (.ifCond .lt 38, 3) := by decide +kernel
theorem dX0_begin_4 : decode cX0_begin 4 = .ok (.iload_n 1, 1) := by decide +kernel
theorem dX0_begin_5 : decode cX0_begin 5 = .ok (.bipush 48, 2) := by decide +kernel
theorem dX0_begin_7 : decode cX0_begin 7 = .ok (.if_icmp .ge 32, 3) := by decide +kernel
theorem dX0_begin_10 : decode cX0_begin 10 = .ok (.aload_n 0, 1) := by decide +kernel
theorem dX0_begin_11 : decode cX0_begin 11 = .ok (.getfield 9, 3) := by decide +kernel
theorem dX0_begin_14 : decode cX0_begin 14 = .ok (.iload_n 1, 1) := by decide +kernel
theorem dX0_begin_15 : decode cX0_begin 15 = .ok (.iconst 1, 1) := by decide +kernel
theorem dX0_begin_16 : decode cX0_begin 16 = .ok (.iastore, 1) := by decide +kernel
theorem dX0_begin_17 : decode cX0_begin 17 = .ok (.aload_n 0, 1) := by decide +kernel
theorem dX0_begin_18 : decode cX0_begin 18 = .ok (.getfield 15, 3) := by decide +kernel
theorem dX0_begin_21 : decode cX0_begin 21 = .ok (.iload_n 1, 1) := by decide +kernel
theorem dX0_begin_22 : decode cX0_begin 22 = .ok (.iload_n 2, 1) := by decide +kernel
theorem dX0_begin_23 : decode cX0_begin 23 = .ok (.iastore, 1) := by decide +kernel
theorem dX0_begin_24 : decode cX0_begin 24 = .ok (.aload_n 0, 1) := by decide +kernel
theorem dX0_begin_25 : decode cX0_begin 25 = .ok (.getfield 18, 3) := by decide +kernel
theorem dX0_begin_28 : decode cX0_begin 28 = .ok (.iload_n 1, 1) := by decide +kernel
theorem dX0_begin_29 : decode cX0_begin 29 = .ok (.iload_n 3, 1) := by decide +kernel
theorem dX0_begin_30 : decode cX0_begin 30 = .ok (.iastore, 1) := by decide +kernel
theorem dX0_begin_31 : decode cX0_begin 31 = .ok (.aload_n 0, 1) := by decide +kernel
theorem dX0_begin_32 : decode cX0_begin 32 = .ok (.getfield 21, 3) := by decide +kernel
theorem dX0_begin_35 : decode cX0_begin 35 = .ok (.iload_n 1, 1) := by decide +kernel
theorem dX0_begin_36 : decode cX0_begin 36 = .ok (.iload 4, 2) := by decide +kernel
theorem dX0_begin_38 : decode cX0_begin 38 = .ok (.iastore, 1) := by decide +kernel
theorem dX0_begin_39 : decode cX0_begin 39 = .ok (.return_, 1) := by decide +kernel
theorem dX0_beginBackup_0 : decode cX0_beginBackup 0 = .ok (.iload_n 1, 1) := by decide +kernel
theorem dX0_beginBackup_1 : decode cX0_beginBackup 1 = .ok (.ifCond .lt 62, 3) := by decide +kernel
theorem dX0_beginBackup_4 : decode cX0_beginBackup 4 = .ok (.iload_n 1, 1) := by decide +kernel
theorem dX0_beginBackup_5 : decode cX0_beginBackup 5 = .ok (.bipush 48, 2) := by decide +kernel
theorem dX0_beginBackup_7 : decode cX0_beginBackup 7 = .ok (.if_icmp .ge 56, 3) := by decide +kernel
theorem dX0_beginBackup_10 : decode cX0_beginBackup 10 = .ok (.iload_n 2, 1) := by decide +kernel
theorem dX0_beginBackup_11 : decode cX0_beginBackup 11 = .ok (.ifCond .lt 52, 3) := by decide +kernel
theorem dX0_beginBackup_14 : decode cX0_beginBackup 14 = .ok (.iload_n 2, 1) := by decide +kernel
theorem dX0_beginBackup_15 : decode cX0_beginBackup 15 = .ok (.bipush 48, 2) := by decide +kernel
theorem dX0_beginBackup_17 : decode cX0_beginBackup 17 = .ok (.if_icmp .ge 46, 3) := by decide +kernel
theorem dX0_beginBackup_20 : decode cX0_beginBackup 20 = .ok (.aload_n 0, 1) := by decide +kernel
theorem dX0_beginBackup_21 : decode cX0_beginBackup 21 = .ok (.getfield 9, 3) := by decide +kernel
theorem dX0_beginBackup_24 : decode cX0_beginBackup 24 = .ok (.iload_n 2, 1) := by decide +kernel
theorem dX0_beginBackup_25 : decode cX0_beginBackup 25 = .ok (.iconst 1, 1) := by decide +kernel
theorem dX0_beginBackup_26 : decode cX0_beginBackup 26 = .ok (.iastore, 1) := by decide +kernel
theorem dX0_beginBackup_27 : decode cX0_beginBackup 27 = .ok (.aload_n 0, 1) := by decide +kernel
theorem dX0_beginBackup_28 : decode cX0_beginBackup 28 = .ok (.getfield 15, 3) := by decide +kernel
theorem dX0_beginBackup_31 : decode cX0_beginBackup 31 = .ok (.iload_n 2, 1) := by decide +kernel
theorem dX0_beginBackup_32 : decode cX0_beginBackup 32 = .ok (.aload_n 0, 1) := by decide +kernel
theorem dX0_beginBackup_33 : decode cX0_beginBackup 33 = .ok (.getfield 15, 3) := by decide +kernel
theorem dX0_beginBackup_36 : decode cX0_beginBackup 36 = .ok (.iload_n 1, 1) := by decide +kernel
theorem dX0_beginBackup_37 : decode cX0_beginBackup 37 = .ok (.iaload, 1) := by decide +kernel
theorem dX0_beginBackup_38 : decode cX0_beginBackup 38 = .ok (.iastore, 1) := by decide +kernel
theorem dX0_beginBackup_39 : decode cX0_beginBackup 39 = .ok (.aload_n 0, 1) := by decide +kernel
theorem dX0_beginBackup_40 : decode cX0_beginBackup 40 = .ok (.getfield 18, 3) := by decide +kernel
theorem dX0_beginBackup_43 : decode cX0_beginBackup 43 = .ok (.iload_n 2, 1) := by decide +kernel
theorem dX0_beginBackup_44 : decode cX0_beginBackup 44 = .ok (.aload_n 0, 1) := by decide +kernel
theorem dX0_beginBackup_45 : decode cX0_beginBackup 45 = .ok (.getfield 18, 3) := by decide +kernel
theorem dX0_beginBackup_48 : decode cX0_beginBackup 48 = .ok (.iload_n 1, 1) := by decide +kernel
theorem dX0_beginBackup_49 : decode cX0_beginBackup 49 = .ok (.iaload, 1) := by decide +kernel
theorem dX0_beginBackup_50 : decode cX0_beginBackup 50 = .ok (.iastore, 1) := by decide +kernel
theorem dX0_beginBackup_51 : decode cX0_beginBackup 51 = .ok (.aload_n 0, 1) := by decide +kernel
theorem dX0_beginBackup_52 : decode cX0_beginBackup 52 = .ok (.getfield 21, 3) := by decide +kernel
theorem dX0_beginBackup_55 : decode cX0_beginBackup 55 = .ok (.iload_n 2, 1) := by decide +kernel
theorem dX0_beginBackup_56 : decode cX0_beginBackup 56 = .ok (.aload_n 0, 1) := by decide +kernel
theorem dX0_beginBackup_57 : decode cX0_beginBackup 57 = .ok (.getfield 21, 3) := by decide +kernel
theorem dX0_beginBackup_60 : decode cX0_beginBackup 60 = .ok (.iload_n 1, 1) := by decide +kernel
theorem dX0_beginBackup_61 : decode cX0_beginBackup 61 = .ok (.iaload, 1) := by decide +kernel
theorem dX0_beginBackup_62 : decode cX0_beginBackup 62 = .ok (.iastore, 1) := by decide +kernel
theorem dX0_beginBackup_63 : decode cX0_beginBackup 63 = .ok (.return_, 1) := by decide +kernel
theorem dX0_mark_0 : decode cX0_mark 0 = .ok (.iload_n 1, 1) := by decide +kernel
theorem dX0_mark_1 : decode cX0_mark 1 = .ok (.ifCond .lt 16, 3) := by decide +kernel
theorem dX0_mark_4 : decode cX0_mark 4 = .ok (.iload_n 1, 1) := by decide +kernel
theorem dX0_mark_5 : decode cX0_mark 5 = .ok (.bipush 48, 2) := by decide +kernel
theorem dX0_mark_7 : decode cX0_mark 7 = .ok (.if_icmp .ge 10, 3) := by decide +kernel
theorem dX0_mark_10 : decode cX0_mark 10 = .ok (.aload_n 0, 1) := by decide +kernel
theorem dX0_mark_11 : decode cX0_mark 11 = .ok (.getfield 9, 3) := by decide +kernel
theorem dX0_mark_14 : decode cX0_mark 14 = .ok (.iload_n 1, 1) := by decide +kernel
theorem dX0_mark_15 : decode cX0_mark 15 = .ok (.iload_n 2, 1) := by decide +kernel
theorem dX0_mark_16 : decode cX0_mark 16 = .ok (.iastore, 1) := by decide +kernel
theorem dX0_mark_17 : decode cX0_mark 17 = .ok (.return_, 1) := by decide +kernel
theorem dX0_blankBlock_0 : decode cX0_blankBlock 0 = .ok (.iconst 0, 1) := by decide +kernel
theorem dX0_blankBlock_1 : decode cX0_blankBlock 1 = .ok (.istore_n 2, 1) := by decide +kernel
theorem dX0_blankBlock_2 : decode cX0_blankBlock 2 = .ok (.iload_n 2, 1) := by decide +kernel
theorem dX0_blankBlock_3 : decode cX0_blankBlock 3 = .ok (.bipush 24, 2) := by decide +kernel
theorem dX0_blankBlock_5 : decode cX0_blankBlock 5 = .ok (.if_icmp .ge 19, 3) := by decide +kernel
theorem dX0_blankBlock_8 : decode cX0_blankBlock 8 = .ok (.aload_n 0, 1) := by decide +kernel
theorem dX0_blankBlock_9 : decode cX0_blankBlock 9 = .ok (.iload_n 1, 1) := by decide +kernel
theorem dX0_blankBlock_10 : decode cX0_blankBlock 10 = .ok (.iload_n 2, 1) := by decide +kernel
theorem dX0_blankBlock_11 : decode cX0_blankBlock 11 = .ok (.invokestatic 38, 3) := by decide +kernel
theorem dX0_blankBlock_14 : decode cX0_blankBlock 14 = .ok (.iconst 0, 1) := by decide +kernel
theorem dX0_blankBlock_15 : decode cX0_blankBlock 15 = .ok (.invokevirtual 42, 3) := by decide +kernel
theorem dX0_blankBlock_18 : decode cX0_blankBlock 18 = .ok (.iinc 2 1, 3) := by decide +kernel
theorem dX0_blankBlock_21 : decode cX0_blankBlock 21 = .ok (.goto (-19), 3) := by decide +kernel
theorem dX0_blankBlock_24 : decode cX0_blankBlock 24 = .ok (.return_, 1) := by decide +kernel
theorem dX0_isBlankBlock_0 : decode cX0_isBlankBlock 0 = .ok (.iconst 0, 1) := by decide +kernel
theorem dX0_isBlankBlock_1 : decode cX0_isBlankBlock 1 = .ok (.istore_n 2, 1) := by decide +kernel
theorem dX0_isBlankBlock_2 : decode cX0_isBlankBlock 2 = .ok (.iload_n 2, 1) := by decide +kernel
theorem dX0_isBlankBlock_3 : decode cX0_isBlankBlock 3 = .ok (.bipush 16, 2) := by decide +kernel
theorem dX0_isBlankBlock_5 : decode cX0_isBlankBlock 5 = .ok (.if_icmp .ge 23, 3) := by decide +kernel
theorem dX0_isBlankBlock_8 : decode cX0_isBlankBlock 8 = .ok (.aload_n 0, 1) := by decide +kernel
theorem dX0_isBlankBlock_9 : decode cX0_isBlankBlock 9 = .ok (.iload_n 1, 1) := by decide +kernel
theorem dX0_isBlankBlock_10 : decode cX0_isBlankBlock 10 = .ok (.iload_n 2, 1) := by decide +kernel
theorem dX0_isBlankBlock_11 : decode cX0_isBlankBlock 11 = .ok (.invokestatic 38, 3) := by decide +kernel
theorem dX0_isBlankBlock_14 : decode cX0_isBlankBlock 14 = .ok (.invokevirtual 46, 3) := by decide +kernel
theorem dX0_isBlankBlock_17 : decode cX0_isBlankBlock 17 = .ok (.ifCond .eq 5, 3) := by decide +kernel
theorem dX0_isBlankBlock_20 : decode cX0_isBlankBlock 20 = .ok (.iconst 0, 1) := by decide +kernel
theorem dX0_isBlankBlock_21 : decode cX0_isBlankBlock 21 = .ok (.ireturn, 1) := by decide +kernel
theorem dX0_isBlankBlock_22 : decode cX0_isBlankBlock 22 = .ok (.iinc 2 1, 3) := by decide +kernel
theorem dX0_isBlankBlock_25 : decode cX0_isBlankBlock 25 = .ok (.goto (-23), 3) := by decide +kernel
theorem dX0_isBlankBlock_28 : decode cX0_isBlankBlock 28 = .ok (.iconst 1, 1) := by decide +kernel
theorem dX0_isBlankBlock_29 : decode cX0_isBlankBlock 29 = .ok (.ireturn, 1) := by decide +kernel
theorem dX0_place_0 : decode cX0_place 0 = .ok (.iconst (-1), 1) := by decide +kernel
theorem dX0_place_1 : decode cX0_place 1 = .ok (.istore_n 2, 1) := by decide +kernel
theorem dX0_place_2 : decode cX0_place 2 = .ok (.iconst 0, 1) := by decide +kernel
theorem dX0_place_3 : decode cX0_place 3 = .ok (.istore_n 3, 1) := by decide +kernel
theorem dX0_place_4 : decode cX0_place 4 = .ok (.iconst 0, 1) := by decide +kernel
theorem dX0_place_5 : decode cX0_place 5 = .ok (.istore 4, 2) := by decide +kernel
theorem dX0_place_7 : decode cX0_place 7 = .ok (.iload 4, 2) := by decide +kernel
theorem dX0_place_9 : decode cX0_place 9 = .ok (.bipush 48, 2) := by decide +kernel
theorem dX0_place_11 : decode cX0_place 11 = .ok (.if_icmp .ge 53, 3) := by decide +kernel
theorem dX0_place_14 : decode cX0_place 14 = .ok (.aload_n 0, 1) := by decide +kernel
theorem dX0_place_15 : decode cX0_place 15 = .ok (.getfield 9, 3) := by decide +kernel
theorem dX0_place_18 : decode cX0_place 18 = .ok (.iload 4, 2) := by decide +kernel
theorem dX0_place_20 : decode cX0_place 20 = .ok (.iaload, 1) := by decide +kernel
theorem dX0_place_21 : decode cX0_place 21 = .ok (.iconst 2, 1) := by decide +kernel
theorem dX0_place_22 : decode cX0_place 22 = .ok (.if_icmp .ne 36, 3) := by decide +kernel
theorem dX0_place_25 : decode cX0_place 25 = .ok (.aload_n 0, 1) := by decide +kernel
theorem dX0_place_26 : decode cX0_place 26 = .ok (.getfield 15, 3) := by decide +kernel
theorem dX0_place_29 : decode cX0_place 29 = .ok (.iload 4, 2) := by decide +kernel
theorem dX0_place_31 : decode cX0_place 31 = .ok (.iaload, 1) := by decide +kernel
theorem dX0_place_32 : decode cX0_place 32 = .ok (.iload_n 1, 1) := by decide +kernel
theorem dX0_place_33 : decode cX0_place 33 = .ok (.if_icmp .ne 25, 3) := by decide +kernel
theorem dX0_place_36 : decode cX0_place 36 = .ok (.aload_n 0, 1) := by decide +kernel
theorem dX0_place_37 : decode cX0_place 37 = .ok (.getfield 21, 3) := by decide +kernel
theorem dX0_place_40 : decode cX0_place 40 = .ok (.iload 4, 2) := by decide +kernel
theorem dX0_place_42 : decode cX0_place 42 = .ok (.iaload, 1) := by decide +kernel
theorem dX0_place_43 : decode cX0_place 43 = .ok (.iload_n 3, 1) := by decide +kernel
theorem dX0_place_44 : decode cX0_place 44 = .ok (.if_icmp .le 14, 3) := by decide +kernel
theorem dX0_place_47 : decode cX0_place 47 = .ok (.iload 4, 2) := by decide +kernel
theorem dX0_place_49 : decode cX0_place 49 = .ok (.istore_n 2, 1) := by decide +kernel
theorem dX0_place_50 : decode cX0_place 50 = .ok (.aload_n 0, 1) := by decide +kernel
theorem dX0_place_51 : decode cX0_place 51 = .ok (.getfield 21, 3) := by decide +kernel
theorem dX0_place_54 : decode cX0_place 54 = .ok (.iload 4, 2) := by decide +kernel
theorem dX0_place_56 : decode cX0_place 56 = .ok (.iaload, 1) := by decide +kernel
theorem dX0_place_57 : decode cX0_place 57 = .ok (.istore_n 3, 1) := by decide +kernel
theorem dX0_place_58 : decode cX0_place 58 = .ok (.iinc 4 1, 3) := by decide +kernel
theorem dX0_place_61 : decode cX0_place 61 = .ok (.goto (-54), 3) := by decide +kernel
theorem dX0_place_64 : decode cX0_place 64 = .ok (.iload_n 2, 1) := by decide +kernel
theorem dX0_place_65 : decode cX0_place 65 = .ok (.ireturn, 1) := by decide +kernel
theorem dX0_isPlace_0 : decode cX0_isPlace 0 = .ok (.aload_n 0, 1) := by decide +kernel
theorem dX0_isPlace_1 : decode cX0_isPlace 1 = .ok (.iload_n 1, 1) := by decide +kernel
theorem dX0_isPlace_2 : decode cX0_isPlace 2 = .ok (.invokevirtual 46, 3) := by decide +kernel
theorem dX0_isPlace_5 : decode cX0_isPlace 5 = .ok (.iconst 2, 1) := by decide +kernel
theorem dX0_isPlace_6 : decode cX0_isPlace 6 = .ok (.if_icmp .ne 20, 3) := by decide +kernel
theorem dX0_isPlace_9 : decode cX0_isPlace 9 = .ok (.aload_n 0, 1) := by decide +kernel
theorem dX0_isPlace_10 : decode cX0_isPlace 10 = .ok (.aload_n 0, 1) := by decide +kernel
theorem dX0_isPlace_11 : decode cX0_isPlace 11 = .ok (.iload_n 1, 1) := by decide +kernel
theorem dX0_isPlace_12 : decode cX0_isPlace 12 = .ok (.invokevirtual 28, 3) := by decide +kernel
theorem dX0_isPlace_15 : decode cX0_isPlace 15 = .ok (.invokevirtual 49, 3) := by decide +kernel
theorem dX0_isPlace_18 : decode cX0_isPlace 18 = .ok (.iload_n 1, 1) := by decide +kernel
theorem dX0_isPlace_19 : decode cX0_isPlace 19 = .ok (.if_icmp .ne 7, 3) := by decide +kernel
theorem dX0_isPlace_22 : decode cX0_isPlace 22 = .ok (.iconst 1, 1) := by decide +kernel
theorem dX0_isPlace_23 : decode cX0_isPlace 23 = .ok (.goto 4, 3) := by decide +kernel
theorem dX0_isPlace_26 : decode cX0_isPlace 26 = .ok (.iconst 0, 1) := by decide +kernel
theorem dX0_isPlace_27 : decode cX0_isPlace 27 = .ok (.ireturn, 1) := by decide +kernel
theorem dX0_placeStamp_0 : decode cX0_placeStamp 0 = .ok (.aload_n 0, 1) := by decide +kernel
theorem dX0_placeStamp_1 : decode cX0_placeStamp 1 = .ok (.iload_n 1, 1) := by decide +kernel
theorem dX0_placeStamp_2 : decode cX0_placeStamp 2 = .ok (.invokevirtual 49, 3) := by decide +kernel
theorem dX0_placeStamp_5 : decode cX0_placeStamp 5 = .ok (.istore_n 2, 1) := by decide +kernel
theorem dX0_placeStamp_6 : decode cX0_placeStamp 6 = .ok (.iload_n 2, 1) := by decide +kernel
theorem dX0_placeStamp_7 : decode cX0_placeStamp 7 = .ok (.iconst (-1), 1) := by decide +kernel
theorem dX0_placeStamp_8 : decode cX0_placeStamp 8 = .ok (.if_icmp .ne 7, 3) := by decide +kernel
theorem dX0_placeStamp_11 : decode cX0_placeStamp 11 = .ok (.iconst 0, 1) := by decide +kernel
theorem dX0_placeStamp_12 : decode cX0_placeStamp 12 = .ok (.goto 8, 3) := by decide +kernel
theorem dX0_placeStamp_15 : decode cX0_placeStamp 15 = .ok (.aload_n 0, 1) := by decide +kernel
theorem dX0_placeStamp_16 : decode cX0_placeStamp 16 = .ok (.iload_n 2, 1) := by decide +kernel
theorem dX0_placeStamp_17 : decode cX0_placeStamp 17 = .ok (.invokevirtual 35, 3) := by decide +kernel
theorem dX0_placeStamp_20 : decode cX0_placeStamp 20 = .ok (.ireturn, 1) := by decide +kernel
theorem dX0_placesInBlock_0 : decode cX0_placesInBlock 0 = .ok (.iconst 0, 1) := by decide +kernel
theorem dX0_placesInBlock_1 : decode cX0_placesInBlock 1 = .ok (.istore_n 2, 1) := by decide +kernel
theorem dX0_placesInBlock_2 : decode cX0_placesInBlock 2 = .ok (.iconst 0, 1) := by decide +kernel
theorem dX0_placesInBlock_3 : decode cX0_placesInBlock 3 = .ok (.istore_n 3, 1) := by decide +kernel
theorem dX0_placesInBlock_4 : decode cX0_placesInBlock 4 = .ok (.iload_n 3, 1) := by decide +kernel
theorem dX0_placesInBlock_5 : decode cX0_placesInBlock 5 = .ok (.bipush 24, 2) := by decide +kernel
theorem dX0_placesInBlock_7 : decode cX0_placesInBlock 7 = .ok (.if_icmp .ge 24, 3) := by decide +kernel
theorem dX0_placesInBlock_10 : decode cX0_placesInBlock 10 = .ok (.aload_n 0, 1) := by decide +kernel
theorem dX0_placesInBlock_11 : decode cX0_placesInBlock 11 = .ok (.iload_n 1, 1) := by decide +kernel
theorem dX0_placesInBlock_12 : decode cX0_placesInBlock 12 = .ok (.iload_n 3, 1) := by decide +kernel
theorem dX0_placesInBlock_13 : decode cX0_placesInBlock 13 = .ok (.invokestatic 38, 3) := by decide +kernel
theorem dX0_placesInBlock_16 : decode cX0_placesInBlock 16 = .ok (.invokevirtual 52, 3) := by decide +kernel
theorem dX0_placesInBlock_19 : decode cX0_placesInBlock 19 = .ok (.ifCond .eq 6, 3) := by decide +kernel
theorem dX0_placesInBlock_22 : decode cX0_placesInBlock 22 = .ok (.iinc 2 1, 3) := by decide +kernel
theorem dX0_placesInBlock_25 : decode cX0_placesInBlock 25 = .ok (.iinc 3 1, 3) := by decide +kernel
theorem dX0_placesInBlock_28 : decode cX0_placesInBlock 28 = .ok (.goto (-24), 3) := by decide +kernel
theorem dX0_placesInBlock_31 : decode cX0_placesInBlock 31 = .ok (.iload_n 2, 1) := by decide +kernel
theorem dX0_placesInBlock_32 : decode cX0_placesInBlock 32 = .ok (.ireturn, 1) := by decide +kernel
theorem dX0_tornPages_0 : decode cX0_tornPages 0 = .ok (.iconst 0, 1) := by decide +kernel
theorem dX0_tornPages_1 : decode cX0_tornPages 1 = .ok (.istore_n 1, 1) := by decide +kernel
theorem dX0_tornPages_2 : decode cX0_tornPages 2 = .ok (.iconst 0, 1) := by decide +kernel
theorem dX0_tornPages_3 : decode cX0_tornPages 3 = .ok (.istore_n 2, 1) := by decide +kernel
theorem dX0_tornPages_4 : decode cX0_tornPages 4 = .ok (.iload_n 2, 1) := by decide +kernel
theorem dX0_tornPages_5 : decode cX0_tornPages 5 = .ok (.bipush 48, 2) := by decide +kernel
theorem dX0_tornPages_7 : decode cX0_tornPages 7 = .ok (.if_icmp .ge 22, 3) := by decide +kernel
theorem dX0_tornPages_10 : decode cX0_tornPages 10 = .ok (.aload_n 0, 1) := by decide +kernel
theorem dX0_tornPages_11 : decode cX0_tornPages 11 = .ok (.getfield 9, 3) := by decide +kernel
theorem dX0_tornPages_14 : decode cX0_tornPages 14 = .ok (.iload_n 2, 1) := by decide +kernel
theorem dX0_tornPages_15 : decode cX0_tornPages 15 = .ok (.iaload, 1) := by decide +kernel
theorem dX0_tornPages_16 : decode cX0_tornPages 16 = .ok (.iconst 3, 1) := by decide +kernel
theorem dX0_tornPages_17 : decode cX0_tornPages 17 = .ok (.if_icmp .ne 6, 3) := by decide +kernel
theorem dX0_tornPages_20 : decode cX0_tornPages 20 = .ok (.iinc 1 1, 3) := by decide +kernel
theorem dX0_tornPages_23 : decode cX0_tornPages 23 = .ok (.iinc 2 1, 3) := by decide +kernel
theorem dX0_tornPages_26 : decode cX0_tornPages 26 = .ok (.goto (-22), 3) := by decide +kernel
theorem dX0_tornPages_29 : decode cX0_tornPages 29 = .ok (.iload_n 1, 1) := by decide +kernel
theorem dX0_tornPages_30 : decode cX0_tornPages 30 = .ok (.ireturn, 1) := by decide +kernel
theorem dX0_keysWithPlace_0 : decode cX0_keysWithPlace 0 = .ok (.iconst 0, 1) := by decide +kernel
theorem dX0_keysWithPlace_1 : decode cX0_keysWithPlace 1 = .ok (.istore_n 1, 1) := by decide +kernel
theorem dX0_keysWithPlace_2 : decode cX0_keysWithPlace 2 = .ok (.iconst 0, 1) := by decide +kernel
theorem dX0_keysWithPlace_3 : decode cX0_keysWithPlace 3 = .ok (.istore_n 2, 1) := by decide +kernel
theorem dX0_keysWithPlace_4 : decode cX0_keysWithPlace 4 = .ok (.iload_n 2, 1) := by decide +kernel
theorem dX0_keysWithPlace_5 : decode cX0_keysWithPlace 5 = .ok (.bipush 12, 2) := by decide +kernel
theorem dX0_keysWithPlace_7 : decode cX0_keysWithPlace 7 = .ok (.if_icmp .ge 21, 3) := by decide +kernel
theorem dX0_keysWithPlace_10 : decode cX0_keysWithPlace 10 = .ok (.aload_n 0, 1) := by decide +kernel
theorem dX0_keysWithPlace_11 : decode cX0_keysWithPlace 11 = .ok (.iload_n 2, 1) := by decide +kernel
theorem dX0_keysWithPlace_12 : decode cX0_keysWithPlace 12 = .ok (.invokevirtual 49, 3) := by decide +kernel
theorem dX0_keysWithPlace_15 : decode cX0_keysWithPlace 15 = .ok (.iconst (-1), 1) := by decide +kernel
theorem dX0_keysWithPlace_16 : decode cX0_keysWithPlace 16 = .ok (.if_icmp .eq 6, 3) := by decide +kernel
theorem dX0_keysWithPlace_19 : decode cX0_keysWithPlace 19 = .ok (.iinc 1 1, 3) := by decide +kernel
theorem dX0_keysWithPlace_22 : decode cX0_keysWithPlace 22 = .ok (.iinc 2 1, 3) := by decide +kernel
theorem dX0_keysWithPlace_25 : decode cX0_keysWithPlace 25 = .ok (.goto (-21), 3) := by decide +kernel
theorem dX0_keysWithPlace_28 : decode cX0_keysWithPlace 28 = .ok (.iload_n 1, 1) := by decide +kernel
theorem dX0_keysWithPlace_29 : decode cX0_keysWithPlace 29 = .ok (.ireturn, 1) := by decide +kernel
theorem dX1_init_0 : decode cX1_init 0 = .ok (.aload_n 0, 1) := by decide +kernel
theorem dX1_init_1 : decode cX1_init 1 = .ok (.invokespecial 3, 3) := by decide +kernel
theorem dX1_init_4 : decode cX1_init 4 = .ok (.aload_n 0, 1) := by decide +kernel
theorem dX1_init_5 : decode cX1_init 5 = .ok (.iconst 5, 1) := by decide +kernel
theorem dX1_init_6 : decode cX1_init 6 = .ok (.anewarray 9, 3) := by decide +kernel
theorem dX1_init_9 : decode cX1_init 9 = .ok (.putfield 11, 3) := by decide +kernel
theorem dX1_init_12 : decode cX1_init 12 = .ok (.iconst 0, 1) := by decide +kernel
theorem dX1_init_13 : decode cX1_init 13 = .ok (.istore_n 1, 1) := by decide +kernel
theorem dX1_init_14 : decode cX1_init 14 = .ok (.iload_n 1, 1) := by decide +kernel
theorem dX1_init_15 : decode cX1_init 15 = .ok (.aload_n 0, 1) := by decide +kernel
theorem dX1_init_16 : decode cX1_init 16 = .ok (.getfield 11, 3) := by decide +kernel
theorem dX1_init_19 : decode cX1_init 19 = .ok (.arraylength, 1) := by decide +kernel
theorem dX1_init_20 : decode cX1_init 20 = .ok (.if_icmp .ge 22, 3) := by decide +kernel
theorem dX1_init_23 : decode cX1_init 23 = .ok (.aload_n 0, 1) := by decide +kernel
theorem dX1_init_24 : decode cX1_init 24 = .ok (.getfield 11, 3) := by decide +kernel
theorem dX1_init_27 : decode cX1_init 27 = .ok (.iload_n 1, 1) := by decide +kernel
theorem dX1_init_28 : decode cX1_init 28 = .ok (.new 9, 3) := by decide +kernel
theorem dX1_init_31 : decode cX1_init 31 = .ok (.dup, 1) := by decide +kernel
theorem dX1_init_32 : decode cX1_init 32 = .ok (.invokespecial 17, 3) := by decide +kernel
theorem dX1_init_35 : decode cX1_init 35 = .ok (.aastore, 1) := by decide +kernel
theorem dX1_init_36 : decode cX1_init 36 = .ok (.iinc 1 1, 3) := by decide +kernel
theorem dX1_init_39 : decode cX1_init 39 = .ok (.goto (-25), 3) := by decide +kernel
theorem dX1_init_42 : decode cX1_init 42 = .ok (.return_, 1) := by decide +kernel
theorem dX1_size_0 : decode cX1_size 0 = .ok (.aload_n 0, 1) := by decide +kernel
theorem dX1_size_1 : decode cX1_size 1 = .ok (.getfield 18, 3) := by decide +kernel
theorem dX1_size_4 : decode cX1_size 4 = .ok (.ireturn, 1) := by decide +kernel
theorem dX1_note_0 : decode cX1_note 0 = .ok (.aload_n 0, 1) := by decide +kernel
theorem dX1_note_1 : decode cX1_note 1 = .ok (.aload_n 0, 1) := by decide +kernel
theorem dX1_note_2 : decode cX1_note 2 = .ok (.getfield 18, 3) := by decide +kernel
theorem dX1_note_5 : decode cX1_note 5 = .ok (.invokevirtual 22, 3) := by decide +kernel
theorem dX1_note_8 : decode cX1_note 8 = .ok (.astore_n 2, 1) := by decide +kernel
theorem dX1_note_9 : decode cX1_note 9 = .ok (.aload_n 2, 1) := by decide +kernel
theorem dX1_note_10 : decode cX1_note 10 = .ok (.ifnull 8, 3) := by decide +kernel
theorem dX1_note_13 : decode cX1_note 13 = .ok (.aload_n 2, 1) := by decide +kernel
theorem dX1_note_14 : decode cX1_note 14 = .ok (.aload_n 1, 1) := by decide +kernel
theorem dX1_note_15 : decode cX1_note 15 = .ok (.invokevirtual 26, 3) := by decide +kernel
theorem dX1_note_18 : decode cX1_note 18 = .ok (.return_, 1) := by decide +kernel
theorem dX1_keep_0 : decode cX1_keep 0 = .ok (.aload_n 0, 1) := by decide +kernel
theorem dX1_keep_1 : decode cX1_keep 1 = .ok (.dup, 1) := by decide +kernel
theorem dX1_keep_2 : decode cX1_keep 2 = .ok (.getfield 18, 3) := by decide +kernel
theorem dX1_keep_5 : decode cX1_keep 5 = .ok (.iconst 1, 1) := by decide +kernel
theorem dX1_keep_6 : decode cX1_keep 6 = .ok (.iadd, 1) := by decide +kernel
theorem dX1_keep_7 : decode cX1_keep 7 = .ok (.putfield 18, 3) := by decide +kernel
theorem dX1_keep_10 : decode cX1_keep 10 = .ok (.aload_n 0, 1) := by decide +kernel
theorem dX1_keep_11 : decode cX1_keep 11 = .ok (.getfield 18, 3) := by decide +kernel
theorem dX1_keep_14 : decode cX1_keep 14 = .ok (.iconst 4, 1) := by decide +kernel
theorem dX1_keep_15 : decode cX1_keep 15 = .ok (.if_icmp .le 7, 3) := by decide +kernel
theorem dX1_keep_18 : decode cX1_keep 18 = .ok (.aload_n 0, 1) := by decide +kernel
theorem dX1_keep_19 : decode cX1_keep 19 = .ok (.invokevirtual 30, 3) := by decide +kernel
theorem dX1_keep_22 : decode cX1_keep 22 = .ok (.return_, 1) := by decide +kernel
theorem dX1_restore_0 : decode cX1_restore 0 = .ok (.aload_n 0, 1) := by decide +kernel
theorem dX1_restore_1 : decode cX1_restore 1 = .ok (.getfield 18, 3) := by decide +kernel
theorem dX1_restore_4 : decode cX1_restore 4 = .ok (.ifCond .ne 6, 3) := by decide +kernel
theorem dX1_restore_7 : decode cX1_restore 7 = .ok (.bipush (-2), 2) := by decide +kernel
theorem dX1_restore_9 : decode cX1_restore 9 = .ok (.ireturn, 1) := by decide +kernel
theorem dX1_restore_10 : decode cX1_restore 10 = .ok (.aload_n 0, 1) := by decide +kernel
theorem dX1_restore_11 : decode cX1_restore 11 = .ok (.dup, 1) := by decide +kernel
theorem dX1_restore_12 : decode cX1_restore 12 = .ok (.getfield 18, 3) := by decide +kernel
theorem dX1_restore_15 : decode cX1_restore 15 = .ok (.iconst 1, 1) := by decide +kernel
theorem dX1_restore_16 : decode cX1_restore 16 = .ok (.isub, 1) := by decide +kernel
theorem dX1_restore_17 : decode cX1_restore 17 = .ok (.putfield 18, 3) := by decide +kernel
theorem dX1_restore_20 : decode cX1_restore 20 = .ok (.aload_n 0, 1) := by decide +kernel
theorem dX1_restore_21 : decode cX1_restore 21 = .ok (.aload_n 0, 1) := by decide +kernel
theorem dX1_restore_22 : decode cX1_restore 22 = .ok (.getfield 18, 3) := by decide +kernel
theorem dX1_restore_25 : decode cX1_restore 25 = .ok (.invokevirtual 22, 3) := by decide +kernel
theorem dX1_restore_28 : decode cX1_restore 28 = .ok (.astore_n 2, 1) := by decide +kernel
theorem dX1_restore_29 : decode cX1_restore 29 = .ok (.aload_n 2, 1) := by decide +kernel
theorem dX1_restore_30 : decode cX1_restore 30 = .ok (.ifnull 8, 3) := by decide +kernel
theorem dX1_restore_33 : decode cX1_restore 33 = .ok (.aload_n 1, 1) := by decide +kernel
theorem dX1_restore_34 : decode cX1_restore 34 = .ok (.aload_n 2, 1) := by decide +kernel
theorem dX1_restore_35 : decode cX1_restore 35 = .ok (.invokevirtual 26, 3) := by decide +kernel
theorem dX1_restore_38 : decode cX1_restore 38 = .ok (.aload_n 0, 1) := by decide +kernel
theorem dX1_restore_39 : decode cX1_restore 39 = .ok (.getfield 18, 3) := by decide +kernel
theorem dX1_restore_42 : decode cX1_restore 42 = .ok (.ireturn, 1) := by decide +kernel
theorem dX1_stateAt_0 : decode cX1_stateAt 0 = .ok (.iload_n 1, 1) := by decide +kernel
theorem dX1_stateAt_1 : decode cX1_stateAt 1 = .ok (.ifCond .lt 21, 3) := by decide +kernel
theorem dX1_stateAt_4 : decode cX1_stateAt 4 = .ok (.iload_n 1, 1) := by decide +kernel
theorem dX1_stateAt_5 : decode cX1_stateAt 5 = .ok (.aload_n 0, 1) := by decide +kernel
theorem dX1_stateAt_6 : decode cX1_stateAt 6 = .ok (.getfield 11, 3) := by decide +kernel
theorem dX1_stateAt_9 : decode cX1_stateAt 9 = .ok (.arraylength, 1) := by decide +kernel
theorem dX1_stateAt_10 : decode cX1_stateAt 10 = .ok (.if_icmp .ge 12, 3) := by decide +kernel
theorem dX1_stateAt_13 : decode cX1_stateAt 13 = .ok (.aload_n 0, 1) := by decide +kernel
theorem dX1_stateAt_14 : decode cX1_stateAt 14 = .ok (.getfield 11, 3) := by decide +kernel
theorem dX1_stateAt_17 : decode cX1_stateAt 17 = .ok (.iload_n 1, 1) := by decide +kernel
theorem dX1_stateAt_18 : decode cX1_stateAt 18 = .ok (.aaload, 1) := by decide +kernel
theorem dX1_stateAt_19 : decode cX1_stateAt 19 = .ok (.goto 4, 3) := by decide +kernel
theorem dX1_stateAt_22 : decode cX1_stateAt 22 = .ok (.aconst_null, 1) := by decide +kernel
theorem dX1_stateAt_23 : decode cX1_stateAt 23 = .ok (.areturn, 1) := by decide +kernel
theorem dX1_dropOldest_0 : decode cX1_dropOldest 0 = .ok (.aload_n 0, 1) := by decide +kernel
theorem dX1_dropOldest_1 : decode cX1_dropOldest 1 = .ok (.iconst 0, 1) := by decide +kernel
theorem dX1_dropOldest_2 : decode cX1_dropOldest 2 = .ok (.invokevirtual 22, 3) := by decide +kernel
theorem dX1_dropOldest_5 : decode cX1_dropOldest 5 = .ok (.astore_n 1, 1) := by decide +kernel
theorem dX1_dropOldest_6 : decode cX1_dropOldest 6 = .ok (.iconst 0, 1) := by decide +kernel
theorem dX1_dropOldest_7 : decode cX1_dropOldest 7 = .ok (.istore_n 2, 1) := by decide +kernel
theorem dX1_dropOldest_8 : decode cX1_dropOldest 8 = .ok (.iload_n 2, 1) := by decide +kernel
theorem dX1_dropOldest_9 : decode cX1_dropOldest 9 = .ok (.iconst 1, 1) := by decide +kernel
theorem dX1_dropOldest_10 : decode cX1_dropOldest 10 = .ok (.iadd, 1) := by decide +kernel
theorem dX1_dropOldest_11 : decode cX1_dropOldest 11 = .ok (.aload_n 0, 1) := by decide +kernel
theorem dX1_dropOldest_12 : decode cX1_dropOldest 12 = .ok (.getfield 11, 3) := by decide +kernel
theorem dX1_dropOldest_15 : decode cX1_dropOldest 15 = .ok (.arraylength, 1) := by decide +kernel
theorem dX1_dropOldest_16 : decode cX1_dropOldest 16 = .ok (.if_icmp .ge 23, 3) := by decide +kernel
theorem dX1_dropOldest_19 : decode cX1_dropOldest 19 = .ok (.aload_n 0, 1) := by decide +kernel
theorem dX1_dropOldest_20 : decode cX1_dropOldest 20 = .ok (.getfield 11, 3) := by decide +kernel
theorem dX1_dropOldest_23 : decode cX1_dropOldest 23 = .ok (.iload_n 2, 1) := by decide +kernel
theorem dX1_dropOldest_24 : decode cX1_dropOldest 24 = .ok (.aload_n 0, 1) := by decide +kernel
theorem dX1_dropOldest_25 : decode cX1_dropOldest 25 = .ok (.getfield 11, 3) := by decide +kernel
theorem dX1_dropOldest_28 : decode cX1_dropOldest 28 = .ok (.iload_n 2, 1) := by decide +kernel
theorem dX1_dropOldest_29 : decode cX1_dropOldest 29 = .ok (.iconst 1, 1) := by decide +kernel
theorem dX1_dropOldest_30 : decode cX1_dropOldest 30 = .ok (.iadd, 1) := by decide +kernel
theorem dX1_dropOldest_31 : decode cX1_dropOldest 31 = .ok (.aaload, 1) := by decide +kernel
theorem dX1_dropOldest_32 : decode cX1_dropOldest 32 = .ok (.aastore, 1) := by decide +kernel
theorem dX1_dropOldest_33 : decode cX1_dropOldest 33 = .ok (.iinc 2 1, 3) := by decide +kernel
theorem dX1_dropOldest_36 : decode cX1_dropOldest 36 = .ok (.goto (-28), 3) := by decide +kernel
theorem dX1_dropOldest_39 : decode cX1_dropOldest 39 = .ok (.aload_n 0, 1) := by decide +kernel
theorem dX1_dropOldest_40 : decode cX1_dropOldest 40 = .ok (.getfield 11, 3) := by decide +kernel
theorem dX1_dropOldest_43 : decode cX1_dropOldest 43 = .ok (.iconst 4, 1) := by decide +kernel
theorem dX1_dropOldest_44 : decode cX1_dropOldest 44 = .ok (.aload_n 1, 1) := by decide +kernel
theorem dX1_dropOldest_45 : decode cX1_dropOldest 45 = .ok (.aastore, 1) := by decide +kernel
theorem dX1_dropOldest_46 : decode cX1_dropOldest 46 = .ok (.aload_n 0, 1) := by decide +kernel
theorem dX1_dropOldest_47 : decode cX1_dropOldest 47 = .ok (.iconst 4, 1) := by decide +kernel
theorem dX1_dropOldest_48 : decode cX1_dropOldest 48 = .ok (.putfield 18, 3) := by decide +kernel
theorem dX1_dropOldest_51 : decode cX1_dropOldest 51 = .ok (.return_, 1) := by decide +kernel
theorem dX2_init_0 : decode cX2_init 0 = .ok (.aload_n 0, 1) := by decide +kernel
theorem dX2_init_1 : decode cX2_init 1 = .ok (.invokespecial 3, 3) := by decide +kernel
theorem dX2_init_4 : decode cX2_init 4 = .ok (.aload_n 0, 1) := by decide +kernel
theorem dX2_init_5 : decode cX2_init 5 = .ok (.bipush 8, 2) := by decide +kernel
theorem dX2_init_7 : decode cX2_init 7 = .ok (.newarray .int, 2) := by decide +kernel
theorem dX2_init_9 : decode cX2_init 9 = .ok (.putfield 9, 3) := by decide +kernel
theorem dX2_init_12 : decode cX2_init 12 = .ok (.aload_n 0, 1) := by decide +kernel
theorem dX2_init_13 : decode cX2_init 13 = .ok (.bipush 8, 2) := by decide +kernel
theorem dX2_init_15 : decode cX2_init 15 = .ok (.newarray .int, 2) := by decide +kernel
theorem dX2_init_17 : decode cX2_init 17 = .ok (.putfield 15, 3) := by decide +kernel
theorem dX2_init_20 : decode cX2_init 20 = .ok (.aload_n 0, 1) := by decide +kernel
theorem dX2_init_21 : decode cX2_init 21 = .ok (.bipush 8, 2) := by decide +kernel
theorem dX2_init_23 : decode cX2_init 23 = .ok (.newarray .int, 2) := by decide +kernel
theorem dX2_init_25 : decode cX2_init 25 = .ok (.putfield 18, 3) := by decide +kernel
theorem dX2_init_28 : decode cX2_init 28 = .ok (.aload_n 0, 1) := by decide +kernel
theorem dX2_init_29 : decode cX2_init 29 = .ok (.bipush 8, 2) := by decide +kernel
theorem dX2_init_31 : decode cX2_init 31 = .ok (.newarray .int, 2) := by decide +kernel
theorem dX2_init_33 : decode cX2_init 33 = .ok (.putfield 21, 3) := by decide +kernel
theorem dX2_init_36 : decode cX2_init 36 = .ok (.return_, 1) := by decide +kernel
theorem dX2_copyFrom_0 : decode cX2_copyFrom 0 = .ok (.aload_n 1, 1) := by decide +kernel
theorem dX2_copyFrom_1 : decode cX2_copyFrom 1 = .ok (.getfield 9, 3) := by decide +kernel
theorem dX2_copyFrom_4 : decode cX2_copyFrom 4 = .ok (.aload_n 0, 1) := by decide +kernel
theorem dX2_copyFrom_5 : decode cX2_copyFrom 5 = .ok (.getfield 9, 3) := by decide +kernel
theorem dX2_copyFrom_8 : decode cX2_copyFrom 8 = .ok (.invokestatic 24, 3) := by decide +kernel
theorem dX2_copyFrom_11 : decode cX2_copyFrom 11 = .ok (.aload_n 1, 1) := by decide +kernel
theorem dX2_copyFrom_12 : decode cX2_copyFrom 12 = .ok (.getfield 15, 3) := by decide +kernel
theorem dX2_copyFrom_15 : decode cX2_copyFrom 15 = .ok (.aload_n 0, 1) := by decide +kernel
theorem dX2_copyFrom_16 : decode cX2_copyFrom 16 = .ok (.getfield 15, 3) := by decide +kernel
theorem dX2_copyFrom_19 : decode cX2_copyFrom 19 = .ok (.invokestatic 24, 3) := by decide +kernel
theorem dX2_copyFrom_22 : decode cX2_copyFrom 22 = .ok (.aload_n 1, 1) := by decide +kernel
theorem dX2_copyFrom_23 : decode cX2_copyFrom 23 = .ok (.getfield 18, 3) := by decide +kernel
theorem dX2_copyFrom_26 : decode cX2_copyFrom 26 = .ok (.aload_n 0, 1) := by decide +kernel
theorem dX2_copyFrom_27 : decode cX2_copyFrom 27 = .ok (.getfield 18, 3) := by decide +kernel
theorem dX2_copyFrom_30 : decode cX2_copyFrom 30 = .ok (.invokestatic 24, 3) := by decide +kernel
theorem dX2_copyFrom_33 : decode cX2_copyFrom 33 = .ok (.aload_n 1, 1) := by decide +kernel
theorem dX2_copyFrom_34 : decode cX2_copyFrom 34 = .ok (.getfield 21, 3) := by decide +kernel
theorem dX2_copyFrom_37 : decode cX2_copyFrom 37 = .ok (.aload_n 0, 1) := by decide +kernel
theorem dX2_copyFrom_38 : decode cX2_copyFrom 38 = .ok (.getfield 21, 3) := by decide +kernel
theorem dX2_copyFrom_41 : decode cX2_copyFrom 41 = .ok (.invokestatic 24, 3) := by decide +kernel
theorem dX2_copyFrom_44 : decode cX2_copyFrom 44 = .ok (.aload_n 0, 1) := by decide +kernel
theorem dX2_copyFrom_45 : decode cX2_copyFrom 45 = .ok (.aload_n 1, 1) := by decide +kernel
theorem dX2_copyFrom_46 : decode cX2_copyFrom 46 = .ok (.getfield 28, 3) := by decide +kernel
theorem dX2_copyFrom_49 : decode cX2_copyFrom 49 = .ok (.putfield 28, 3) := by decide +kernel
theorem dX2_copyFrom_52 : decode cX2_copyFrom 52 = .ok (.return_, 1) := by decide +kernel
theorem dX2_size_0 : decode cX2_size 0 = .ok (.aload_n 0, 1) := by decide +kernel
theorem dX2_size_1 : decode cX2_size 1 = .ok (.getfield 28, 3) := by decide +kernel
theorem dX2_size_4 : decode cX2_size 4 = .ok (.ireturn, 1) := by decide +kernel
theorem dX2_key_0 : decode cX2_key 0 = .ok (.iload_n 1, 1) := by decide +kernel
theorem dX2_key_1 : decode cX2_key 1 = .ok (.ifCond .lt 18, 3) := by decide +kernel
theorem dX2_key_4 : decode cX2_key 4 = .ok (.iload_n 1, 1) := by decide +kernel
theorem dX2_key_5 : decode cX2_key 5 = .ok (.bipush 8, 2) := by decide +kernel
theorem dX2_key_7 : decode cX2_key 7 = .ok (.if_icmp .ge 12, 3) := by decide +kernel
theorem dX2_key_10 : decode cX2_key 10 = .ok (.aload_n 0, 1) := by decide +kernel
theorem dX2_key_11 : decode cX2_key 11 = .ok (.getfield 9, 3) := by decide +kernel
theorem dX2_key_14 : decode cX2_key 14 = .ok (.iload_n 1, 1) := by decide +kernel
theorem dX2_key_15 : decode cX2_key 15 = .ok (.iaload, 1) := by decide +kernel
theorem dX2_key_16 : decode cX2_key 16 = .ok (.goto 4, 3) := by decide +kernel
theorem dX2_key_19 : decode cX2_key 19 = .ok (.iconst 0, 1) := by decide +kernel
theorem dX2_key_20 : decode cX2_key 20 = .ok (.ireturn, 1) := by decide +kernel
theorem dX2_value_0 : decode cX2_value 0 = .ok (.iload_n 1, 1) := by decide +kernel
theorem dX2_value_1 : decode cX2_value 1 = .ok (.ifCond .lt 18, 3) := by decide +kernel
theorem dX2_value_4 : decode cX2_value 4 = .ok (.iload_n 1, 1) := by decide +kernel
theorem dX2_value_5 : decode cX2_value 5 = .ok (.bipush 8, 2) := by decide +kernel
theorem dX2_value_7 : decode cX2_value 7 = .ok (.if_icmp .ge 12, 3) := by decide +kernel
theorem dX2_value_10 : decode cX2_value 10 = .ok (.aload_n 0, 1) := by decide +kernel
theorem dX2_value_11 : decode cX2_value 11 = .ok (.getfield 15, 3) := by decide +kernel
theorem dX2_value_14 : decode cX2_value 14 = .ok (.iload_n 1, 1) := by decide +kernel
theorem dX2_value_15 : decode cX2_value 15 = .ok (.iaload, 1) := by decide +kernel
theorem dX2_value_16 : decode cX2_value 16 = .ok (.goto 4, 3) := by decide +kernel
theorem dX2_value_19 : decode cX2_value 19 = .ok (.iconst 0, 1) := by decide +kernel
theorem dX2_value_20 : decode cX2_value 20 = .ok (.ireturn, 1) := by decide +kernel
theorem dX2_urgency_0 : decode cX2_urgency 0 = .ok (.iload_n 1, 1) := by decide +kernel
theorem dX2_urgency_1 : decode cX2_urgency 1 = .ok (.ifCond .lt 18, 3) := by decide +kernel
theorem dX2_urgency_4 : decode cX2_urgency 4 = .ok (.iload_n 1, 1) := by decide +kernel
theorem dX2_urgency_5 : decode cX2_urgency 5 = .ok (.bipush 8, 2) := by decide +kernel
theorem dX2_urgency_7 : decode cX2_urgency 7 = .ok (.if_icmp .ge 12, 3) := by decide +kernel
theorem dX2_urgency_10 : decode cX2_urgency 10 = .ok (.aload_n 0, 1) := by decide +kernel
theorem dX2_urgency_11 : decode cX2_urgency 11 = .ok (.getfield 18, 3) := by decide +kernel
theorem dX2_urgency_14 : decode cX2_urgency 14 = .ok (.iload_n 1, 1) := by decide +kernel
theorem dX2_urgency_15 : decode cX2_urgency 15 = .ok (.iaload, 1) := by decide +kernel
theorem dX2_urgency_16 : decode cX2_urgency 16 = .ok (.goto 4, 3) := by decide +kernel
theorem dX2_urgency_19 : decode cX2_urgency 19 = .ok (.iconst 0, 1) := by decide +kernel
theorem dX2_urgency_20 : decode cX2_urgency 20 = .ok (.ireturn, 1) := by decide +kernel
theorem dX2_stamp_0 : decode cX2_stamp 0 = .ok (.iload_n 1, 1) := by decide +kernel
theorem dX2_stamp_1 : decode cX2_stamp 1 = .ok (.ifCond .lt 18, 3) := by decide +kernel
theorem dX2_stamp_4 : decode cX2_stamp 4 = .ok (.iload_n 1, 1) := by decide +kernel
theorem dX2_stamp_5 : decode cX2_stamp 5 = .ok (.bipush 8, 2) := by decide +kernel
theorem dX2_stamp_7 : decode cX2_stamp 7 = .ok (.if_icmp .ge 12, 3) := by decide +kernel
theorem dX2_stamp_10 : decode cX2_stamp 10 = .ok (.aload_n 0, 1) := by decide +kernel
theorem dX2_stamp_11 : decode cX2_stamp 11 = .ok (.getfield 21, 3) := by decide +kernel
theorem dX2_stamp_14 : decode cX2_stamp 14 = .ok (.iload_n 1, 1) := by decide +kernel
theorem dX2_stamp_15 : decode cX2_stamp 15 = .ok (.iaload, 1) := by decide +kernel
theorem dX2_stamp_16 : decode cX2_stamp 16 = .ok (.goto 4, 3) := by decide +kernel
theorem dX2_stamp_19 : decode cX2_stamp 19 = .ok (.iconst 0, 1) := by decide +kernel
theorem dX2_stamp_20 : decode cX2_stamp 20 = .ok (.ireturn, 1) := by decide +kernel
theorem dX2_add_0 : decode cX2_add 0 = .ok (.aload_n 0, 1) := by decide +kernel
theorem dX2_add_1 : decode cX2_add 1 = .ok (.getfield 28, 3) := by decide +kernel
theorem dX2_add_4 : decode cX2_add 4 = .ok (.bipush 8, 2) := by decide +kernel
theorem dX2_add_6 : decode cX2_add 6 = .ok (.if_icmp .lt 4, 3) := by decide +kernel
theorem dX2_add_9 : decode cX2_add 9 = .ok (.return_, 1) := by decide +kernel
theorem dX2_add_10 : decode cX2_add 10 = .ok (.aload_n 0, 1) := by decide +kernel
theorem dX2_add_11 : decode cX2_add 11 = .ok (.getfield 28, 3) := by decide +kernel
theorem dX2_add_14 : decode cX2_add 14 = .ok (.istore 5, 2) := by decide +kernel
theorem dX2_add_16 : decode cX2_add 16 = .ok (.iload 5, 2) := by decide +kernel
theorem dX2_add_18 : decode cX2_add 18 = .ok (.ifCond .le 21, 3) := by decide +kernel
theorem dX2_add_21 : decode cX2_add 21 = .ok (.aload_n 0, 1) := by decide +kernel
theorem dX2_add_22 : decode cX2_add 22 = .ok (.iload 5, 2) := by decide +kernel
theorem dX2_add_24 : decode cX2_add 24 = .ok (.iconst 1, 1) := by decide +kernel
theorem dX2_add_25 : decode cX2_add 25 = .ok (.isub, 1) := by decide +kernel
theorem dX2_add_26 : decode cX2_add 26 = .ok (.invokevirtual 32, 3) := by decide +kernel
theorem dX2_add_29 : decode cX2_add 29 = .ok (.iload_n 3, 1) := by decide +kernel
theorem dX2_add_30 : decode cX2_add 30 = .ok (.if_icmp .le 9, 3) := by decide +kernel
theorem dX2_add_33 : decode cX2_add 33 = .ok (.iinc 5 (-1), 3) := by decide +kernel
theorem dX2_add_36 : decode cX2_add 36 = .ok (.goto (-20), 3) := by decide +kernel
theorem dX2_add_39 : decode cX2_add 39 = .ok (.aload_n 0, 1) := by decide +kernel
theorem dX2_add_40 : decode cX2_add 40 = .ok (.getfield 28, 3) := by decide +kernel
theorem dX2_add_43 : decode cX2_add 43 = .ok (.istore 6, 2) := by decide +kernel
theorem dX2_add_45 : decode cX2_add 45 = .ok (.iload 6, 2) := by decide +kernel
theorem dX2_add_47 : decode cX2_add 47 = .ok (.iload 5, 2) := by decide +kernel
theorem dX2_add_49 : decode cX2_add 49 = .ok (.if_icmp .le 19, 3) := by decide +kernel
theorem dX2_add_52 : decode cX2_add 52 = .ok (.aload_n 0, 1) := by decide +kernel
theorem dX2_add_53 : decode cX2_add 53 = .ok (.iload 6, 2) := by decide +kernel
theorem dX2_add_55 : decode cX2_add 55 = .ok (.iconst 1, 1) := by decide +kernel
theorem dX2_add_56 : decode cX2_add 56 = .ok (.isub, 1) := by decide +kernel
theorem dX2_add_57 : decode cX2_add 57 = .ok (.iload 6, 2) := by decide +kernel
theorem dX2_add_59 : decode cX2_add 59 = .ok (.invokevirtual 36, 3) := by decide +kernel
theorem dX2_add_62 : decode cX2_add 62 = .ok (.iinc 6 (-1), 3) := by decide +kernel
theorem dX2_add_65 : decode cX2_add 65 = .ok (.goto (-20), 3) := by decide +kernel
theorem dX2_add_68 : decode cX2_add 68 = .ok (.aload_n 0, 1) := by decide +kernel
theorem dX2_add_69 : decode cX2_add 69 = .ok (.dup, 1) := by decide +kernel
theorem dX2_add_70 : decode cX2_add 70 = .ok (.getfield 28, 3) := by decide +kernel
theorem dX2_add_73 : decode cX2_add 73 = .ok (.iconst 1, 1) := by decide +kernel
theorem dX2_add_74 : decode cX2_add 74 = .ok (.iadd, 1) := by decide +kernel
theorem dX2_add_75 : decode cX2_add 75 = .ok (.putfield 28, 3) := by decide +kernel
theorem dX2_add_78 : decode cX2_add 78 = .ok (.aload_n 0, 1) := by decide +kernel
theorem dX2_add_79 : decode cX2_add 79 = .ok (.iload 5, 2) := by decide +kernel
theorem dX2_add_81 : decode cX2_add 81 = .ok (.iload_n 1, 1) := by decide +kernel
theorem dX2_add_82 : decode cX2_add 82 = .ok (.iload_n 2, 1) := by decide +kernel
theorem dX2_add_83 : decode cX2_add 83 = .ok (.iload_n 3, 1) := by decide +kernel
theorem dX2_add_84 : decode cX2_add 84 = .ok (.iload 4, 2) := by decide +kernel
theorem dX2_add_86 : decode cX2_add 86 = .ok (.invokevirtual 40, 3) := by decide +kernel
theorem dX2_add_89 : decode cX2_add 89 = .ok (.return_, 1) := by decide +kernel
theorem dX2_dropFirst_0 : decode cX2_dropFirst 0 = .ok (.iconst 0, 1) := by decide +kernel
theorem dX2_dropFirst_1 : decode cX2_dropFirst 1 = .ok (.istore_n 1, 1) := by decide +kernel
theorem dX2_dropFirst_2 : decode cX2_dropFirst 2 = .ok (.iload_n 1, 1) := by decide +kernel
theorem dX2_dropFirst_3 : decode cX2_dropFirst 3 = .ok (.iconst 1, 1) := by decide +kernel
theorem dX2_dropFirst_4 : decode cX2_dropFirst 4 = .ok (.iadd, 1) := by decide +kernel
theorem dX2_dropFirst_5 : decode cX2_dropFirst 5 = .ok (.aload_n 0, 1) := by decide +kernel
theorem dX2_dropFirst_6 : decode cX2_dropFirst 6 = .ok (.getfield 28, 3) := by decide +kernel
theorem dX2_dropFirst_9 : decode cX2_dropFirst 9 = .ok (.if_icmp .ge 17, 3) := by decide +kernel
theorem dX2_dropFirst_12 : decode cX2_dropFirst 12 = .ok (.aload_n 0, 1) := by decide +kernel
theorem dX2_dropFirst_13 : decode cX2_dropFirst 13 = .ok (.iload_n 1, 1) := by decide +kernel
theorem dX2_dropFirst_14 : decode cX2_dropFirst 14 = .ok (.iconst 1, 1) := by decide +kernel
theorem dX2_dropFirst_15 : decode cX2_dropFirst 15 = .ok (.iadd, 1) := by decide +kernel
theorem dX2_dropFirst_16 : decode cX2_dropFirst 16 = .ok (.iload_n 1, 1) := by decide +kernel
theorem dX2_dropFirst_17 : decode cX2_dropFirst 17 = .ok (.invokevirtual 36, 3) := by decide +kernel
theorem dX2_dropFirst_20 : decode cX2_dropFirst 20 = .ok (.iinc 1 1, 3) := by decide +kernel
theorem dX2_dropFirst_23 : decode cX2_dropFirst 23 = .ok (.goto (-21), 3) := by decide +kernel
theorem dX2_dropFirst_26 : decode cX2_dropFirst 26 = .ok (.aload_n 0, 1) := by decide +kernel
theorem dX2_dropFirst_27 : decode cX2_dropFirst 27 = .ok (.iconst 0, 1) := by decide +kernel
theorem dX2_dropFirst_28 : decode cX2_dropFirst 28 = .ok (.aload_n 0, 1) := by decide +kernel
theorem dX2_dropFirst_29 : decode cX2_dropFirst 29 = .ok (.getfield 28, 3) := by decide +kernel
theorem dX2_dropFirst_32 : decode cX2_dropFirst 32 = .ok (.iconst 1, 1) := by decide +kernel
theorem dX2_dropFirst_33 : decode cX2_dropFirst 33 = .ok (.isub, 1) := by decide +kernel
theorem dX2_dropFirst_34 : decode cX2_dropFirst 34 = .ok (.invokestatic 44, 3) := by decide +kernel
theorem dX2_dropFirst_37 : decode cX2_dropFirst 37 = .ok (.putfield 28, 3) := by decide +kernel
theorem dX2_dropFirst_40 : decode cX2_dropFirst 40 = .ok (.return_, 1) := by decide +kernel
theorem dX2_makeEmpty_0 : decode cX2_makeEmpty 0 = .ok (.aload_n 0, 1) := by decide +kernel
theorem dX2_makeEmpty_1 : decode cX2_makeEmpty 1 = .ok (.iconst 0, 1) := by decide +kernel
theorem dX2_makeEmpty_2 : decode cX2_makeEmpty 2 = .ok (.putfield 28, 3) := by decide +kernel
theorem dX2_makeEmpty_5 : decode cX2_makeEmpty 5 = .ok (.return_, 1) := by decide +kernel
theorem dX2_move_0 : decode cX2_move 0 = .ok (.iload_n 1, 1) := by decide +kernel
theorem dX2_move_1 : decode cX2_move 1 = .ok (.ifCond .lt 67, 3) := by decide +kernel
theorem dX2_move_4 : decode cX2_move 4 = .ok (.iload_n 1, 1) := by decide +kernel
theorem dX2_move_5 : decode cX2_move 5 = .ok (.bipush 8, 2) := by decide +kernel
theorem dX2_move_7 : decode cX2_move 7 = .ok (.if_icmp .ge 61, 3) := by decide +kernel
theorem dX2_move_10 : decode cX2_move 10 = .ok (.iload_n 2, 1) := by decide +kernel
theorem dX2_move_11 : decode cX2_move 11 = .ok (.ifCond .lt 57, 3) := by decide +kernel
theorem dX2_move_14 : decode cX2_move 14 = .ok (.iload_n 2, 1) := by decide +kernel
theorem dX2_move_15 : decode cX2_move 15 = .ok (.bipush 8, 2) := by decide +kernel
theorem dX2_move_17 : decode cX2_move 17 = .ok (.if_icmp .ge 51, 3) := by decide +kernel
theorem dX2_move_20 : decode cX2_move 20 = .ok (.aload_n 0, 1) := by decide +kernel
theorem dX2_move_21 : decode cX2_move 21 = .ok (.getfield 9, 3) := by decide +kernel
theorem dX2_move_24 : decode cX2_move 24 = .ok (.iload_n 2, 1) := by decide +kernel
theorem dX2_move_25 : decode cX2_move 25 = .ok (.aload_n 0, 1) := by decide +kernel
theorem dX2_move_26 : decode cX2_move 26 = .ok (.getfield 9, 3) := by decide +kernel
theorem dX2_move_29 : decode cX2_move 29 = .ok (.iload_n 1, 1) := by decide +kernel
theorem dX2_move_30 : decode cX2_move 30 = .ok (.iaload, 1) := by decide +kernel
theorem dX2_move_31 : decode cX2_move 31 = .ok (.iastore, 1) := by decide +kernel
theorem dX2_move_32 : decode cX2_move 32 = .ok (.aload_n 0, 1) := by decide +kernel
theorem dX2_move_33 : decode cX2_move 33 = .ok (.getfield 15, 3) := by decide +kernel
theorem dX2_move_36 : decode cX2_move 36 = .ok (.iload_n 2, 1) := by decide +kernel
theorem dX2_move_37 : decode cX2_move 37 = .ok (.aload_n 0, 1) := by decide +kernel
theorem dX2_move_38 : decode cX2_move 38 = .ok (.getfield 15, 3) := by decide +kernel
theorem dX2_move_41 : decode cX2_move 41 = .ok (.iload_n 1, 1) := by decide +kernel
theorem dX2_move_42 : decode cX2_move 42 = .ok (.iaload, 1) := by decide +kernel
theorem dX2_move_43 : decode cX2_move 43 = .ok (.iastore, 1) := by decide +kernel
theorem dX2_move_44 : decode cX2_move 44 = .ok (.aload_n 0, 1) := by decide +kernel
theorem dX2_move_45 : decode cX2_move 45 = .ok (.getfield 18, 3) := by decide +kernel
theorem dX2_move_48 : decode cX2_move 48 = .ok (.iload_n 2, 1) := by decide +kernel
theorem dX2_move_49 : decode cX2_move 49 = .ok (.aload_n 0, 1) := by decide +kernel
theorem dX2_move_50 : decode cX2_move 50 = .ok (.getfield 18, 3) := by decide +kernel
theorem dX2_move_53 : decode cX2_move 53 = .ok (.iload_n 1, 1) := by decide +kernel
theorem dX2_move_54 : decode cX2_move 54 = .ok (.iaload, 1) := by decide +kernel
theorem dX2_move_55 : decode cX2_move 55 = .ok (.iastore, 1) := by decide +kernel
theorem dX2_move_56 : decode cX2_move 56 = .ok (.aload_n 0, 1) := by decide +kernel
theorem dX2_move_57 : decode cX2_move 57 = .ok (.getfield 21, 3) := by decide +kernel
theorem dX2_move_60 : decode cX2_move 60 = .ok (.iload_n 2, 1) := by decide +kernel
theorem dX2_move_61 : decode cX2_move 61 = .ok (.aload_n 0, 1) := by decide +kernel
theorem dX2_move_62 : decode cX2_move 62 = .ok (.getfield 21, 3) := by decide +kernel
theorem dX2_move_65 : decode cX2_move 65 = .ok (.iload_n 1, 1) := by decide +kernel
theorem dX2_move_66 : decode cX2_move 66 = .ok (.iaload, 1) := by decide +kernel
theorem dX2_move_67 : decode cX2_move 67 = .ok (.iastore, 1) := by decide +kernel
theorem dX2_move_68 : decode cX2_move 68 = .ok (.return_, 1) := by decide +kernel
theorem dX2_put_0 : decode cX2_put 0 = .ok (.iload_n 1, 1) := by decide +kernel
theorem dX2_put_1 : decode cX2_put 1 = .ok (.ifCond .lt 39, 3) := by decide +kernel
theorem dX2_put_4 : decode cX2_put 4 = .ok (.iload_n 1, 1) := by decide +kernel
theorem dX2_put_5 : decode cX2_put 5 = .ok (.bipush 8, 2) := by decide +kernel
theorem dX2_put_7 : decode cX2_put 7 = .ok (.if_icmp .ge 33, 3) := by decide +kernel
theorem dX2_put_10 : decode cX2_put 10 = .ok (.aload_n 0, 1) := by decide +kernel
theorem dX2_put_11 : decode cX2_put 11 = .ok (.getfield 9, 3) := by decide +kernel
theorem dX2_put_14 : decode cX2_put 14 = .ok (.iload_n 1, 1) := by decide +kernel
theorem dX2_put_15 : decode cX2_put 15 = .ok (.iload_n 2, 1) := by decide +kernel
theorem dX2_put_16 : decode cX2_put 16 = .ok (.iastore, 1) := by decide +kernel
theorem dX2_put_17 : decode cX2_put 17 = .ok (.aload_n 0, 1) := by decide +kernel
theorem dX2_put_18 : decode cX2_put 18 = .ok (.getfield 15, 3) := by decide +kernel
theorem dX2_put_21 : decode cX2_put 21 = .ok (.iload_n 1, 1) := by decide +kernel
theorem dX2_put_22 : decode cX2_put 22 = .ok (.iload_n 3, 1) := by decide +kernel
theorem dX2_put_23 : decode cX2_put 23 = .ok (.iastore, 1) := by decide +kernel
theorem dX2_put_24 : decode cX2_put 24 = .ok (.aload_n 0, 1) := by decide +kernel
theorem dX2_put_25 : decode cX2_put 25 = .ok (.getfield 18, 3) := by decide +kernel
theorem dX2_put_28 : decode cX2_put 28 = .ok (.iload_n 1, 1) := by decide +kernel
theorem dX2_put_29 : decode cX2_put 29 = .ok (.iload 4, 2) := by decide +kernel
theorem dX2_put_31 : decode cX2_put 31 = .ok (.iastore, 1) := by decide +kernel
theorem dX2_put_32 : decode cX2_put 32 = .ok (.aload_n 0, 1) := by decide +kernel
theorem dX2_put_33 : decode cX2_put 33 = .ok (.getfield 21, 3) := by decide +kernel
theorem dX2_put_36 : decode cX2_put 36 = .ok (.iload_n 1, 1) := by decide +kernel
theorem dX2_put_37 : decode cX2_put 37 = .ok (.iload 5, 2) := by decide +kernel
theorem dX2_put_39 : decode cX2_put 39 = .ok (.iastore, 1) := by decide +kernel
theorem dX2_put_40 : decode cX2_put 40 = .ok (.return_, 1) := by decide +kernel
theorem dX3_init_0 : decode cX3_init 0 = .ok (.aload_n 0, 1) := by decide +kernel
theorem dX3_init_1 : decode cX3_init 1 = .ok (.invokespecial 3, 3) := by decide +kernel
theorem dX3_init_4 : decode cX3_init 4 = .ok (.return_, 1) := by decide +kernel
theorem dX3_run_0 : decode cX3_run 0 = .ok (.aload_n 0, 1) := by decide +kernel
theorem dX3_run_1 : decode cX3_run 1 = .ok (.iconst 0, 1) := by decide +kernel
theorem dX3_run_2 : decode cX3_run 2 = .ok (.putfield 9, 3) := by decide +kernel
theorem dX3_run_5 : decode cX3_run 5 = .ok (.aload_n 0, 1) := by decide +kernel
theorem dX3_run_6 : decode cX3_run 6 = .ok (.iconst 0, 1) := by decide +kernel
theorem dX3_run_7 : decode cX3_run 7 = .ok (.putfield 15, 3) := by decide +kernel
theorem dX3_run_10 : decode cX3_run 10 = .ok (.aload_n 1, 1) := by decide +kernel
theorem dX3_run_11 : decode cX3_run 11 = .ok (.invokevirtual 19, 3) := by decide +kernel
theorem dX3_run_14 : decode cX3_run 14 = .ok (.iconst 0, 1) := by decide +kernel
theorem dX3_run_15 : decode cX3_run 15 = .ok (.istore_n 3, 1) := by decide +kernel
theorem dX3_run_16 : decode cX3_run 16 = .ok (.iload_n 3, 1) := by decide +kernel
theorem dX3_run_17 : decode cX3_run 17 = .ok (.bipush 60, 2) := by decide +kernel
theorem dX3_run_19 : decode cX3_run 19 = .ok (.if_icmp .ge 69, 3) := by decide +kernel
theorem dX3_run_22 : decode cX3_run 22 = .ok (.aload_n 1, 1) := by decide +kernel
theorem dX3_run_23 : decode cX3_run 23 = .ok (.invokevirtual 24, 3) := by decide +kernel
theorem dX3_run_26 : decode cX3_run 26 = .ok (.ifCond .eq 62, 3) := by decide +kernel
theorem dX3_run_29 : decode cX3_run 29 = .ok (.aload_n 0, 1) := by decide +kernel
theorem dX3_run_30 : decode cX3_run 30 = .ok (.aload_n 1, 1) := by decide +kernel
theorem dX3_run_31 : decode cX3_run 31 = .ok (.getfield 28, 3) := by decide +kernel
theorem dX3_run_34 : decode cX3_run 34 = .ok (.putfield 31, 3) := by decide +kernel
theorem dX3_run_37 : decode cX3_run 37 = .ok (.aload_n 1, 1) := by decide +kernel
theorem dX3_run_38 : decode cX3_run 38 = .ok (.invokevirtual 34, 3) := by decide +kernel
theorem dX3_run_41 : decode cX3_run 41 = .ok (.ifCond .ne 11, 3) := by decide +kernel
theorem dX3_run_44 : decode cX3_run 44 = .ok (.aload_n 0, 1) := by decide +kernel
theorem dX3_run_45 : decode cX3_run 45 = .ok (.iconst 1, 1) := by decide +kernel
theorem dX3_run_46 : decode cX3_run 46 = .ok (.bipush (-4), 2) := by decide +kernel
theorem dX3_run_48 : decode cX3_run 48 = .ok (.invokevirtual 37, 3) := by decide +kernel
theorem dX3_run_51 : decode cX3_run 51 = .ok (.return_, 1) := by decide +kernel
theorem dX3_run_52 : decode cX3_run 52 = .ok (.aload_n 1, 1) := by decide +kernel
theorem dX3_run_53 : decode cX3_run 53 = .ok (.aload_n 2, 1) := by decide +kernel
theorem dX3_run_54 : decode cX3_run 54 = .ok (.invokestatic 41, 3) := by decide +kernel
theorem dX3_run_57 : decode cX3_run 57 = .ok (.istore 4, 2) := by decide +kernel
theorem dX3_run_59 : decode cX3_run 59 = .ok (.iload 4, 2) := by decide +kernel
theorem dX3_run_61 : decode cX3_run 61 = .ok (.ifCond .ge 11, 3) := by decide +kernel
theorem dX3_run_64 : decode cX3_run 64 = .ok (.aload_n 0, 1) := by decide +kernel
theorem dX3_run_65 : decode cX3_run 65 = .ok (.iconst 2, 1) := by decide +kernel
theorem dX3_run_66 : decode cX3_run 66 = .ok (.iload 4, 2) := by decide +kernel
theorem dX3_run_68 : decode cX3_run 68 = .ok (.invokevirtual 37, 3) := by decide +kernel
theorem dX3_run_71 : decode cX3_run 71 = .ok (.return_, 1) := by decide +kernel
theorem dX3_run_72 : decode cX3_run 72 = .ok (.aload_n 0, 1) := by decide +kernel
theorem dX3_run_73 : decode cX3_run 73 = .ok (.dup, 1) := by decide +kernel
theorem dX3_run_74 : decode cX3_run 74 = .ok (.getfield 9, 3) := by decide +kernel
theorem dX3_run_77 : decode cX3_run 77 = .ok (.iconst 1, 1) := by decide +kernel
theorem dX3_run_78 : decode cX3_run 78 = .ok (.iadd, 1) := by decide +kernel
theorem dX3_run_79 : decode cX3_run 79 = .ok (.putfield 9, 3) := by decide +kernel
theorem dX3_run_82 : decode cX3_run 82 = .ok (.iinc 3 1, 3) := by decide +kernel
theorem dX3_run_85 : decode cX3_run 85 = .ok (.goto (-69), 3) := by decide +kernel
theorem dX3_run_88 : decode cX3_run 88 = .ok (.return_, 1) := by decide +kernel
theorem dX3_hasFault_0 : decode cX3_hasFault 0 = .ok (.aload_n 0, 1) := by decide +kernel
theorem dX3_hasFault_1 : decode cX3_hasFault 1 = .ok (.getfield 15, 3) := by decide +kernel
theorem dX3_hasFault_4 : decode cX3_hasFault 4 = .ok (.ireturn, 1) := by decide +kernel
theorem dX3_commandsDone_0 : decode cX3_commandsDone 0 = .ok (.aload_n 0, 1) := by decide +kernel
theorem dX3_commandsDone_1 : decode cX3_commandsDone 1 = .ok (.getfield 9, 3) := by decide +kernel
theorem dX3_commandsDone_4 : decode cX3_commandsDone 4 = .ok (.ireturn, 1) := by decide +kernel
theorem dX3_faultFact_0 : decode cX3_faultFact 0 = .ok (.aload_n 0, 1) := by decide +kernel
theorem dX3_faultFact_1 : decode cX3_faultFact 1 = .ok (.getfield 15, 3) := by decide +kernel
theorem dX3_faultFact_4 : decode cX3_faultFact 4 = .ok (.ifCond .ne 6, 3) := by decide +kernel
theorem dX3_faultFact_7 : decode cX3_faultFact 7 = .ok (.bipush (-4), 2) := by decide +kernel
theorem dX3_faultFact_9 : decode cX3_faultFact 9 = .ok (.ireturn, 1) := by decide +kernel
theorem dX3_faultFact_10 : decode cX3_faultFact 10 = .ok (.iload_n 1, 1) := by decide +kernel
theorem dX3_faultFact_11 : decode cX3_faultFact 11 = .ok (.ifCond .ne 8, 3) := by decide +kernel
theorem dX3_faultFact_14 : decode cX3_faultFact 14 = .ok (.aload_n 0, 1) := by decide +kernel
theorem dX3_faultFact_15 : decode cX3_faultFact 15 = .ok (.getfield 31, 3) := by decide +kernel
theorem dX3_faultFact_18 : decode cX3_faultFact 18 = .ok (.ireturn, 1) := by decide +kernel
theorem dX3_faultFact_19 : decode cX3_faultFact 19 = .ok (.iload_n 1, 1) := by decide +kernel
theorem dX3_faultFact_20 : decode cX3_faultFact 20 = .ok (.iconst 1, 1) := by decide +kernel
theorem dX3_faultFact_21 : decode cX3_faultFact 21 = .ok (.if_icmp .ne 10, 3) := by decide +kernel
theorem dX3_faultFact_24 : decode cX3_faultFact 24 = .ok (.aload_n 0, 1) := by decide +kernel
theorem dX3_faultFact_25 : decode cX3_faultFact 25 = .ok (.getfield 45, 3) := by decide +kernel
theorem dX3_faultFact_28 : decode cX3_faultFact 28 = .ok (.goto 7, 3) := by decide +kernel
theorem dX3_faultFact_31 : decode cX3_faultFact 31 = .ok (.aload_n 0, 1) := by decide +kernel
theorem dX3_faultFact_32 : decode cX3_faultFact 32 = .ok (.getfield 48, 3) := by decide +kernel
theorem dX3_faultFact_35 : decode cX3_faultFact 35 = .ok (.ireturn, 1) := by decide +kernel
theorem dX3_tellFault_0 : decode cX3_tellFault 0 = .ok (.aload_n 0, 1) := by decide +kernel
theorem dX3_tellFault_1 : decode cX3_tellFault 1 = .ok (.iconst 1, 1) := by decide +kernel
theorem dX3_tellFault_2 : decode cX3_tellFault 2 = .ok (.putfield 15, 3) := by decide +kernel
theorem dX3_tellFault_5 : decode cX3_tellFault 5 = .ok (.aload_n 0, 1) := by decide +kernel
theorem dX3_tellFault_6 : decode cX3_tellFault 6 = .ok (.iload_n 1, 1) := by decide +kernel
theorem dX3_tellFault_7 : decode cX3_tellFault 7 = .ok (.putfield 45, 3) := by decide +kernel
theorem dX3_tellFault_10 : decode cX3_tellFault 10 = .ok (.aload_n 0, 1) := by decide +kernel
theorem dX3_tellFault_11 : decode cX3_tellFault 11 = .ok (.iload_n 2, 1) := by decide +kernel
theorem dX3_tellFault_12 : decode cX3_tellFault 12 = .ok (.putfield 48, 3) := by decide +kernel
theorem dX3_tellFault_15 : decode cX3_tellFault 15 = .ok (.return_, 1) := by decide +kernel
theorem dX3_perform_0 : decode cX3_perform 0 = .ok (.aload_n 0, 1) := by decide +kernel
theorem dX3_perform_1 : decode cX3_perform 1 = .ok (.getfield 51, 3) := by decide +kernel
theorem dX3_perform_4 : decode cX3_perform 4 = .ok (.tableswitch 174 99 120 #[156, 174, 165, 174, 174, 174, 174, 174, 174, 174, 174, 174, 146, 174, 174, 174, 151, 132, 118, 174, 104, 141], 104) := by decide +kernel
theorem dX3_perform_108 : decode cX3_perform 108 = .ok (.aload_n 1, 1) := by decide +kernel
theorem dX3_perform_109 : decode cX3_perform 109 = .ok (.aload_n 0, 1) := by decide +kernel
theorem dX3_perform_110 : decode cX3_perform 110 = .ok (.getfield 54, 3) := by decide +kernel
theorem dX3_perform_113 : decode cX3_perform 113 = .ok (.aload_n 0, 1) := by decide +kernel
theorem dX3_perform_114 : decode cX3_perform 114 = .ok (.getfield 57, 3) := by decide +kernel
theorem dX3_perform_117 : decode cX3_perform 117 = .ok (.iconst 2, 1) := by decide +kernel
theorem dX3_perform_118 : decode cX3_perform 118 = .ok (.invokevirtual 60, 3) := by decide +kernel
theorem dX3_perform_121 : decode cX3_perform 121 = .ok (.ireturn, 1) := by decide +kernel
theorem dX3_perform_122 : decode cX3_perform 122 = .ok (.aload_n 1, 1) := by decide +kernel
theorem dX3_perform_123 : decode cX3_perform 123 = .ok (.aload_n 0, 1) := by decide +kernel
theorem dX3_perform_124 : decode cX3_perform 124 = .ok (.getfield 54, 3) := by decide +kernel
theorem dX3_perform_127 : decode cX3_perform 127 = .ok (.aload_n 0, 1) := by decide +kernel
theorem dX3_perform_128 : decode cX3_perform 128 = .ok (.getfield 57, 3) := by decide +kernel
theorem dX3_perform_131 : decode cX3_perform 131 = .ok (.iconst 1, 1) := by decide +kernel
theorem dX3_perform_132 : decode cX3_perform 132 = .ok (.invokevirtual 60, 3) := by decide +kernel
theorem dX3_perform_135 : decode cX3_perform 135 = .ok (.ireturn, 1) := by decide +kernel
theorem dX3_perform_136 : decode cX3_perform 136 = .ok (.aload_n 1, 1) := by decide +kernel
theorem dX3_perform_137 : decode cX3_perform 137 = .ok (.aload_n 0, 1) := by decide +kernel
theorem dX3_perform_138 : decode cX3_perform 138 = .ok (.getfield 54, 3) := by decide +kernel
theorem dX3_perform_141 : decode cX3_perform 141 = .ok (.invokevirtual 66, 3) := by decide +kernel
theorem dX3_perform_144 : decode cX3_perform 144 = .ok (.ireturn, 1) := by decide +kernel
theorem dX3_perform_145 : decode cX3_perform 145 = .ok (.aload_n 1, 1) := by decide +kernel
theorem dX3_perform_146 : decode cX3_perform 146 = .ok (.invokevirtual 70, 3) := by decide +kernel
theorem dX3_perform_149 : decode cX3_perform 149 = .ok (.ireturn, 1) := by decide +kernel
theorem dX3_perform_150 : decode cX3_perform 150 = .ok (.aload_n 1, 1) := by decide +kernel
theorem dX3_perform_151 : decode cX3_perform 151 = .ok (.invokevirtual 74, 3) := by decide +kernel
theorem dX3_perform_154 : decode cX3_perform 154 = .ok (.ireturn, 1) := by decide +kernel
theorem dX3_perform_155 : decode cX3_perform 155 = .ok (.aload_n 1, 1) := by decide +kernel
theorem dX3_perform_156 : decode cX3_perform 156 = .ok (.invokevirtual 77, 3) := by decide +kernel
theorem dX3_perform_159 : decode cX3_perform 159 = .ok (.ireturn, 1) := by decide +kernel
theorem dX3_perform_160 : decode cX3_perform 160 = .ok (.aload_n 1, 1) := by decide +kernel
theorem dX3_perform_161 : decode cX3_perform 161 = .ok (.aload_n 0, 1) := by decide +kernel
theorem dX3_perform_162 : decode cX3_perform 162 = .ok (.getfield 54, 3) := by decide +kernel
theorem dX3_perform_165 : decode cX3_perform 165 = .ok (.invokevirtual 80, 3) := by decide +kernel
theorem dX3_perform_168 : decode cX3_perform 168 = .ok (.ireturn, 1) := by decide +kernel
theorem dX3_perform_169 : decode cX3_perform 169 = .ok (.aload_n 1, 1) := by decide +kernel
theorem dX3_perform_170 : decode cX3_perform 170 = .ok (.aload_n 0, 1) := by decide +kernel
theorem dX3_perform_171 : decode cX3_perform 171 = .ok (.getfield 54, 3) := by decide +kernel
theorem dX3_perform_174 : decode cX3_perform 174 = .ok (.invokevirtual 83, 3) := by decide +kernel
theorem dX3_perform_177 : decode cX3_perform 177 = .ok (.ireturn, 1) := by decide +kernel
theorem dX3_perform_178 : decode cX3_perform 178 = .ok (.bipush (-2), 2) := by decide +kernel
theorem dX3_perform_180 : decode cX3_perform 180 = .ok (.ireturn, 1) := by decide +kernel
theorem dX4_init_0 : decode cX4_init 0 = .ok (.aload_n 0, 1) := by decide +kernel
theorem dX4_init_1 : decode cX4_init 1 = .ok (.invokespecial 3, 3) := by decide +kernel
theorem dX4_init_4 : decode cX4_init 4 = .ok (.aload_n 0, 1) := by decide +kernel
theorem dX4_init_5 : decode cX4_init 5 = .ok (.new 9, 3) := by decide +kernel
theorem dX4_init_8 : decode cX4_init 8 = .ok (.dup, 1) := by decide +kernel
theorem dX4_init_9 : decode cX4_init 9 = .ok (.invokespecial 11, 3) := by decide +kernel
theorem dX4_init_12 : decode cX4_init 12 = .ok (.putfield 12, 3) := by decide +kernel
theorem dX4_init_15 : decode cX4_init 15 = .ok (.aload_n 0, 1) := by decide +kernel
theorem dX4_init_16 : decode cX4_init 16 = .ok (.new 18, 3) := by decide +kernel
theorem dX4_init_19 : decode cX4_init 19 = .ok (.dup, 1) := by decide +kernel
theorem dX4_init_20 : decode cX4_init 20 = .ok (.invokespecial 20, 3) := by decide +kernel
theorem dX4_init_23 : decode cX4_init 23 = .ok (.putfield 21, 3) := by decide +kernel
theorem dX4_init_26 : decode cX4_init 26 = .ok (.aload_n 0, 1) := by decide +kernel
theorem dX4_init_27 : decode cX4_init 27 = .ok (.new 25, 3) := by decide +kernel
theorem dX4_init_30 : decode cX4_init 30 = .ok (.dup, 1) := by decide +kernel
theorem dX4_init_31 : decode cX4_init 31 = .ok (.invokespecial 27, 3) := by decide +kernel
theorem dX4_init_34 : decode cX4_init 34 = .ok (.putfield 28, 3) := by decide +kernel
theorem dX4_init_37 : decode cX4_init 37 = .ok (.aload_n 0, 1) := by decide +kernel
theorem dX4_init_38 : decode cX4_init 38 = .ok (.new 32, 3) := by decide +kernel
theorem dX4_init_41 : decode cX4_init 41 = .ok (.dup, 1) := by decide +kernel
theorem dX4_init_42 : decode cX4_init 42 = .ok (.invokespecial 34, 3) := by decide +kernel
theorem dX4_init_45 : decode cX4_init 45 = .ok (.putfield 35, 3) := by decide +kernel
theorem dX4_init_48 : decode cX4_init 48 = .ok (.aload_n 0, 1) := by decide +kernel
theorem dX4_init_49 : decode cX4_init 49 = .ok (.iconst 4, 1) := by decide +kernel
theorem dX4_init_50 : decode cX4_init 50 = .ok (.newarray .int, 2) := by decide +kernel
theorem dX4_init_52 : decode cX4_init 52 = .ok (.putfield 39, 3) := by decide +kernel
theorem dX4_init_55 : decode cX4_init 55 = .ok (.aload_n 0, 1) := by decide +kernel
theorem dX4_init_56 : decode cX4_init 56 = .ok (.bipush 8, 2) := by decide +kernel
theorem dX4_init_58 : decode cX4_init 58 = .ok (.newarray .int, 2) := by decide +kernel
theorem dX4_init_60 : decode cX4_init 60 = .ok (.putfield 43, 3) := by decide +kernel
theorem dX4_init_63 : decode cX4_init 63 = .ok (.aload_n 0, 1) := by decide +kernel
theorem dX4_init_64 : decode cX4_init 64 = .ok (.iconst 2, 1) := by decide +kernel
theorem dX4_init_65 : decode cX4_init 65 = .ok (.newarray .int, 2) := by decide +kernel
theorem dX4_init_67 : decode cX4_init 67 = .ok (.putfield 46, 3) := by decide +kernel
theorem dX4_init_70 : decode cX4_init 70 = .ok (.aload_n 0, 1) := by decide +kernel
theorem dX4_init_71 : decode cX4_init 71 = .ok (.bipush 12, 2) := by decide +kernel
theorem dX4_init_73 : decode cX4_init 73 = .ok (.newarray .int, 2) := by decide +kernel
theorem dX4_init_75 : decode cX4_init 75 = .ok (.putfield 49, 3) := by decide +kernel
theorem dX4_init_78 : decode cX4_init 78 = .ok (.aload_n 0, 1) := by decide +kernel
theorem dX4_init_79 : decode cX4_init 79 = .ok (.iconst 1, 1) := by decide +kernel
theorem dX4_init_80 : decode cX4_init 80 = .ok (.putfield 52, 3) := by decide +kernel
theorem dX4_init_83 : decode cX4_init 83 = .ok (.getstatic 56, 3) := by decide +kernel
theorem dX4_init_86 : decode cX4_init 86 = .ok (.aload_n 0, 1) := by decide +kernel
theorem dX4_init_87 : decode cX4_init 87 = .ok (.getfield 39, 3) := by decide +kernel
theorem dX4_init_90 : decode cX4_init 90 = .ok (.invokestatic 59, 3) := by decide +kernel
theorem dX4_init_93 : decode cX4_init 93 = .ok (.return_, 1) := by decide +kernel
theorem dX4_copyFrom_0 : decode cX4_copyFrom 0 = .ok (.aload_n 0, 1) := by decide +kernel
theorem dX4_copyFrom_1 : decode cX4_copyFrom 1 = .ok (.getfield 12, 3) := by decide +kernel
theorem dX4_copyFrom_4 : decode cX4_copyFrom 4 = .ok (.aload_n 1, 1) := by decide +kernel
theorem dX4_copyFrom_5 : decode cX4_copyFrom 5 = .ok (.getfield 12, 3) := by decide +kernel
theorem dX4_copyFrom_8 : decode cX4_copyFrom 8 = .ok (.invokevirtual 63, 3) := by decide +kernel
theorem dX4_copyFrom_11 : decode cX4_copyFrom 11 = .ok (.aload_n 0, 1) := by decide +kernel
theorem dX4_copyFrom_12 : decode cX4_copyFrom 12 = .ok (.getfield 21, 3) := by decide +kernel
theorem dX4_copyFrom_15 : decode cX4_copyFrom 15 = .ok (.aload_n 1, 1) := by decide +kernel
theorem dX4_copyFrom_16 : decode cX4_copyFrom 16 = .ok (.getfield 21, 3) := by decide +kernel
theorem dX4_copyFrom_19 : decode cX4_copyFrom 19 = .ok (.invokevirtual 67, 3) := by decide +kernel
theorem dX4_copyFrom_22 : decode cX4_copyFrom 22 = .ok (.aload_n 0, 1) := by decide +kernel
theorem dX4_copyFrom_23 : decode cX4_copyFrom 23 = .ok (.getfield 28, 3) := by decide +kernel
theorem dX4_copyFrom_26 : decode cX4_copyFrom 26 = .ok (.aload_n 1, 1) := by decide +kernel
theorem dX4_copyFrom_27 : decode cX4_copyFrom 27 = .ok (.getfield 28, 3) := by decide +kernel
theorem dX4_copyFrom_30 : decode cX4_copyFrom 30 = .ok (.invokevirtual 70, 3) := by decide +kernel
theorem dX4_copyFrom_33 : decode cX4_copyFrom 33 = .ok (.aload_n 0, 1) := by decide +kernel
theorem dX4_copyFrom_34 : decode cX4_copyFrom 34 = .ok (.getfield 35, 3) := by decide +kernel
theorem dX4_copyFrom_37 : decode cX4_copyFrom 37 = .ok (.aload_n 1, 1) := by decide +kernel
theorem dX4_copyFrom_38 : decode cX4_copyFrom 38 = .ok (.getfield 35, 3) := by decide +kernel
theorem dX4_copyFrom_41 : decode cX4_copyFrom 41 = .ok (.invokevirtual 73, 3) := by decide +kernel
theorem dX4_copyFrom_44 : decode cX4_copyFrom 44 = .ok (.aload_n 1, 1) := by decide +kernel
theorem dX4_copyFrom_45 : decode cX4_copyFrom 45 = .ok (.getfield 39, 3) := by decide +kernel
theorem dX4_copyFrom_48 : decode cX4_copyFrom 48 = .ok (.aload_n 0, 1) := by decide +kernel
theorem dX4_copyFrom_49 : decode cX4_copyFrom 49 = .ok (.getfield 39, 3) := by decide +kernel
theorem dX4_copyFrom_52 : decode cX4_copyFrom 52 = .ok (.invokestatic 59, 3) := by decide +kernel
theorem dX4_copyFrom_55 : decode cX4_copyFrom 55 = .ok (.aload_n 1, 1) := by decide +kernel
theorem dX4_copyFrom_56 : decode cX4_copyFrom 56 = .ok (.getfield 43, 3) := by decide +kernel
theorem dX4_copyFrom_59 : decode cX4_copyFrom 59 = .ok (.aload_n 0, 1) := by decide +kernel
theorem dX4_copyFrom_60 : decode cX4_copyFrom 60 = .ok (.getfield 43, 3) := by decide +kernel
theorem dX4_copyFrom_63 : decode cX4_copyFrom 63 = .ok (.invokestatic 59, 3) := by decide +kernel
theorem dX4_copyFrom_66 : decode cX4_copyFrom 66 = .ok (.aload_n 1, 1) := by decide +kernel
theorem dX4_copyFrom_67 : decode cX4_copyFrom 67 = .ok (.getfield 46, 3) := by decide +kernel
theorem dX4_copyFrom_70 : decode cX4_copyFrom 70 = .ok (.aload_n 0, 1) := by decide +kernel
theorem dX4_copyFrom_71 : decode cX4_copyFrom 71 = .ok (.getfield 46, 3) := by decide +kernel
theorem dX4_copyFrom_74 : decode cX4_copyFrom 74 = .ok (.invokestatic 59, 3) := by decide +kernel
theorem dX4_copyFrom_77 : decode cX4_copyFrom 77 = .ok (.aload_n 0, 1) := by decide +kernel
theorem dX4_copyFrom_78 : decode cX4_copyFrom 78 = .ok (.aload_n 1, 1) := by decide +kernel
theorem dX4_copyFrom_79 : decode cX4_copyFrom 79 = .ok (.getfield 52, 3) := by decide +kernel
theorem dX4_copyFrom_82 : decode cX4_copyFrom 82 = .ok (.putfield 52, 3) := by decide +kernel
theorem dX4_copyFrom_85 : decode cX4_copyFrom 85 = .ok (.aload_n 0, 1) := by decide +kernel
theorem dX4_copyFrom_86 : decode cX4_copyFrom 86 = .ok (.aload_n 1, 1) := by decide +kernel
theorem dX4_copyFrom_87 : decode cX4_copyFrom 87 = .ok (.getfield 76, 3) := by decide +kernel
theorem dX4_copyFrom_90 : decode cX4_copyFrom 90 = .ok (.putfield 76, 3) := by decide +kernel
theorem dX4_copyFrom_93 : decode cX4_copyFrom 93 = .ok (.aload_n 0, 1) := by decide +kernel
theorem dX4_copyFrom_94 : decode cX4_copyFrom 94 = .ok (.aload_n 1, 1) := by decide +kernel
theorem dX4_copyFrom_95 : decode cX4_copyFrom 95 = .ok (.getfield 80, 3) := by decide +kernel
theorem dX4_copyFrom_98 : decode cX4_copyFrom 98 = .ok (.putfield 80, 3) := by decide +kernel
theorem dX4_copyFrom_101 : decode cX4_copyFrom 101 = .ok (.return_, 1) := by decide +kernel
theorem dX4_hasPower_0 : decode cX4_hasPower 0 = .ok (.aload_n 0, 1) := by decide +kernel
theorem dX4_hasPower_1 : decode cX4_hasPower 1 = .ok (.getfield 52, 3) := by decide +kernel
theorem dX4_hasPower_4 : decode cX4_hasPower 4 = .ok (.ireturn, 1) := by decide +kernel
theorem dX4_askFor_0 : decode cX4_askFor 0 = .ok (.iload_n 1, 1) := by decide +kernel
theorem dX4_askFor_1 : decode cX4_askFor 1 = .ok (.iconst 0, 1) := by decide +kernel
theorem dX4_askFor_2 : decode cX4_askFor 2 = .ok (.bipush 11, 2) := by decide +kernel
theorem dX4_askFor_4 : decode cX4_askFor 4 = .ok (.invokestatic 83, 3) := by decide +kernel
theorem dX4_askFor_7 : decode cX4_askFor 7 = .ok (.ifCond .eq 14, 3) := by decide +kernel
theorem dX4_askFor_10 : decode cX4_askFor 10 = .ok (.iload_n 2, 1) := by decide +kernel
theorem dX4_askFor_11 : decode cX4_askFor 11 = .ok (.iconst 0, 1) := by decide +kernel
theorem dX4_askFor_12 : decode cX4_askFor 12 = .ok (.sipush 999, 3) := by decide +kernel
theorem dX4_askFor_15 : decode cX4_askFor 15 = .ok (.invokestatic 83, 3) := by decide +kernel
theorem dX4_askFor_18 : decode cX4_askFor 18 = .ok (.ifCond .ne 5, 3) := by decide +kernel
theorem dX4_askFor_21 : decode cX4_askFor 21 = .ok (.iconst (-1), 1) := by decide +kernel
theorem dX4_askFor_22 : decode cX4_askFor 22 = .ok (.ireturn, 1) := by decide +kernel
theorem dX4_askFor_23 : decode cX4_askFor 23 = .ok (.aload_n 0, 1) := by decide +kernel
theorem dX4_askFor_24 : decode cX4_askFor 24 = .ok (.getfield 52, 3) := by decide +kernel
theorem dX4_askFor_27 : decode cX4_askFor 27 = .ok (.ifCond .ne 6, 3) := by decide +kernel
theorem dX4_askFor_30 : decode cX4_askFor 30 = .ok (.bipush (-2), 2) := by decide +kernel
theorem dX4_askFor_32 : decode cX4_askFor 32 = .ok (.ireturn, 1) := by decide +kernel
theorem dX4_askFor_33 : decode cX4_askFor 33 = .ok (.aload_n 0, 1) := by decide +kernel
theorem dX4_askFor_34 : decode cX4_askFor 34 = .ok (.getfield 21, 3) := by decide +kernel
theorem dX4_askFor_37 : decode cX4_askFor 37 = .ok (.invokevirtual 87, 3) := by decide +kernel
theorem dX4_askFor_40 : decode cX4_askFor 40 = .ok (.bipush 8, 2) := by decide +kernel
theorem dX4_askFor_42 : decode cX4_askFor 42 = .ok (.if_icmp .lt 6, 3) := by decide +kernel
theorem dX4_askFor_45 : decode cX4_askFor 45 = .ok (.bipush (-3), 2) := by decide +kernel
theorem dX4_askFor_47 : decode cX4_askFor 47 = .ok (.ireturn, 1) := by decide +kernel
theorem dX4_askFor_48 : decode cX4_askFor 48 = .ok (.aload_n 0, 1) := by decide +kernel
theorem dX4_askFor_49 : decode cX4_askFor 49 = .ok (.getfield 21, 3) := by decide +kernel
theorem dX4_askFor_52 : decode cX4_askFor 52 = .ok (.iload_n 1, 1) := by decide +kernel
theorem dX4_askFor_53 : decode cX4_askFor 53 = .ok (.iload_n 2, 1) := by decide +kernel
theorem dX4_askFor_54 : decode cX4_askFor 54 = .ok (.iload_n 3, 1) := by decide +kernel
theorem dX4_askFor_55 : decode cX4_askFor 55 = .ok (.iconst 0, 1) := by decide +kernel
theorem dX4_askFor_56 : decode cX4_askFor 56 = .ok (.invokevirtual 91, 3) := by decide +kernel
theorem dX4_askFor_59 : decode cX4_askFor 59 = .ok (.aload_n 0, 1) := by decide +kernel
theorem dX4_askFor_60 : decode cX4_askFor 60 = .ok (.getfield 21, 3) := by decide +kernel
theorem dX4_askFor_63 : decode cX4_askFor 63 = .ok (.invokevirtual 87, 3) := by decide +kernel
theorem dX4_askFor_66 : decode cX4_askFor 66 = .ok (.ireturn, 1) := by decide +kernel
theorem dX4_letTicks_0 : decode cX4_letTicks 0 = .ok (.iload_n 1, 1) := by decide +kernel
theorem dX4_letTicks_1 : decode cX4_letTicks 1 = .ok (.iconst 1, 1) := by decide +kernel
theorem dX4_letTicks_2 : decode cX4_letTicks 2 = .ok (.sipush 200, 3) := by decide +kernel
theorem dX4_letTicks_5 : decode cX4_letTicks 5 = .ok (.invokestatic 83, 3) := by decide +kernel
theorem dX4_letTicks_8 : decode cX4_letTicks 8 = .ok (.ifCond .ne 5, 3) := by decide +kernel
theorem dX4_letTicks_11 : decode cX4_letTicks 11 = .ok (.iconst (-1), 1) := by decide +kernel
theorem dX4_letTicks_12 : decode cX4_letTicks 12 = .ok (.ireturn, 1) := by decide +kernel
theorem dX4_letTicks_13 : decode cX4_letTicks 13 = .ok (.aload_n 0, 1) := by decide +kernel
theorem dX4_letTicks_14 : decode cX4_letTicks 14 = .ok (.getfield 52, 3) := by decide +kernel
theorem dX4_letTicks_17 : decode cX4_letTicks 17 = .ok (.ifCond .ne 6, 3) := by decide +kernel
theorem dX4_letTicks_20 : decode cX4_letTicks 20 = .ok (.bipush (-2), 2) := by decide +kernel
theorem dX4_letTicks_22 : decode cX4_letTicks 22 = .ok (.ireturn, 1) := by decide +kernel
theorem dX4_letTicks_23 : decode cX4_letTicks 23 = .ok (.aload_n 0, 1) := by decide +kernel
theorem dX4_letTicks_24 : decode cX4_letTicks 24 = .ok (.getfield 35, 3) := by decide +kernel
theorem dX4_letTicks_27 : decode cX4_letTicks 27 = .ok (.getfield 95, 3) := by decide +kernel
theorem dX4_letTicks_30 : decode cX4_letTicks 30 = .ok (.iload_n 1, 1) := by decide +kernel
theorem dX4_letTicks_31 : decode cX4_letTicks 31 = .ok (.iadd, 1) := by decide +kernel
theorem dX4_letTicks_32 : decode cX4_letTicks 32 = .ok (.sipush 9000, 3) := by decide +kernel
theorem dX4_letTicks_35 : decode cX4_letTicks 35 = .ok (.if_icmp .le 6, 3) := by decide +kernel
theorem dX4_letTicks_38 : decode cX4_letTicks 38 = .ok (.bipush (-3), 2) := by decide +kernel
theorem dX4_letTicks_40 : decode cX4_letTicks 40 = .ok (.ireturn, 1) := by decide +kernel
theorem dX4_letTicks_41 : decode cX4_letTicks 41 = .ok (.aload_n 0, 1) := by decide +kernel
theorem dX4_letTicks_42 : decode cX4_letTicks 42 = .ok (.getfield 35, 3) := by decide +kernel
theorem dX4_letTicks_45 : decode cX4_letTicks 45 = .ok (.getfield 98, 3) := by decide +kernel
theorem dX4_letTicks_48 : decode cX4_letTicks 48 = .ok (.istore_n 2, 1) := by decide +kernel
theorem dX4_letTicks_49 : decode cX4_letTicks 49 = .ok (.aload_n 0, 1) := by decide +kernel
theorem dX4_letTicks_50 : decode cX4_letTicks 50 = .ok (.iload_n 1, 1) := by decide +kernel
theorem dX4_letTicks_51 : decode cX4_letTicks 51 = .ok (.invokevirtual 101, 3) := by decide +kernel
theorem dX4_letTicks_54 : decode cX4_letTicks 54 = .ok (.aload_n 0, 1) := by decide +kernel
theorem dX4_letTicks_55 : decode cX4_letTicks 55 = .ok (.getfield 35, 3) := by decide +kernel
theorem dX4_letTicks_58 : decode cX4_letTicks 58 = .ok (.getfield 98, 3) := by decide +kernel
theorem dX4_letTicks_61 : decode cX4_letTicks 61 = .ok (.iload_n 2, 1) := by decide +kernel
theorem dX4_letTicks_62 : decode cX4_letTicks 62 = .ok (.isub, 1) := by decide +kernel
theorem dX4_letTicks_63 : decode cX4_letTicks 63 = .ok (.ireturn, 1) := by decide +kernel
theorem dX4_pass_0 : decode cX4_pass 0 = .ok (.iload_n 1, 1) := by decide +kernel
theorem dX4_pass_1 : decode cX4_pass 1 = .ok (.istore_n 2, 1) := by decide +kernel
theorem dX4_pass_2 : decode cX4_pass 2 = .ok (.iload_n 2, 1) := by decide +kernel
theorem dX4_pass_3 : decode cX4_pass 3 = .ok (.ifCond .le 82, 3) := by decide +kernel
theorem dX4_pass_6 : decode cX4_pass 6 = .ok (.aload_n 0, 1) := by decide +kernel
theorem dX4_pass_7 : decode cX4_pass 7 = .ok (.getfield 28, 3) := by decide +kernel
theorem dX4_pass_10 : decode cX4_pass 10 = .ok (.getfield 105, 3) := by decide +kernel
theorem dX4_pass_13 : decode cX4_pass 13 = .ok (.ifCond .ne 7, 3) := by decide +kernel
theorem dX4_pass_16 : decode cX4_pass 16 = .ok (.aload_n 0, 1) := by decide +kernel
theorem dX4_pass_17 : decode cX4_pass 17 = .ok (.invokevirtual 108, 3) := by decide +kernel
theorem dX4_pass_20 : decode cX4_pass 20 = .ok (.aload_n 0, 1) := by decide +kernel
theorem dX4_pass_21 : decode cX4_pass 21 = .ok (.getfield 28, 3) := by decide +kernel
theorem dX4_pass_24 : decode cX4_pass 24 = .ok (.getfield 105, 3) := by decide +kernel
theorem dX4_pass_27 : decode cX4_pass 27 = .ok (.ifCond .eq 21, 3) := by decide +kernel
theorem dX4_pass_30 : decode cX4_pass 30 = .ok (.iconst 1, 1) := by decide +kernel
theorem dX4_pass_31 : decode cX4_pass 31 = .ok (.iload_n 2, 1) := by decide +kernel
theorem dX4_pass_32 : decode cX4_pass 32 = .ok (.aload_n 0, 1) := by decide +kernel
theorem dX4_pass_33 : decode cX4_pass 33 = .ok (.getfield 28, 3) := by decide +kernel
theorem dX4_pass_36 : decode cX4_pass 36 = .ok (.getfield 111, 3) := by decide +kernel
theorem dX4_pass_39 : decode cX4_pass 39 = .ok (.invokestatic 114, 3) := by decide +kernel
theorem dX4_pass_42 : decode cX4_pass 42 = .ok (.invokestatic 120, 3) := by decide +kernel
theorem dX4_pass_45 : decode cX4_pass 45 = .ok (.goto 4, 3) := by decide +kernel
theorem dX4_pass_48 : decode cX4_pass 48 = .ok (.iload_n 2, 1) := by decide +kernel
theorem dX4_pass_49 : decode cX4_pass 49 = .ok (.istore_n 3, 1) := by decide +kernel
theorem dX4_pass_50 : decode cX4_pass 50 = .ok (.aload_n 0, 1) := by decide +kernel
theorem dX4_pass_51 : decode cX4_pass 51 = .ok (.getfield 35, 3) := by decide +kernel
theorem dX4_pass_54 : decode cX4_pass 54 = .ok (.dup, 1) := by decide +kernel
theorem dX4_pass_55 : decode cX4_pass 55 = .ok (.getfield 95, 3) := by decide +kernel
theorem dX4_pass_58 : decode cX4_pass 58 = .ok (.iload_n 3, 1) := by decide +kernel
theorem dX4_pass_59 : decode cX4_pass 59 = .ok (.iadd, 1) := by decide +kernel
theorem dX4_pass_60 : decode cX4_pass 60 = .ok (.putfield 95, 3) := by decide +kernel
theorem dX4_pass_63 : decode cX4_pass 63 = .ok (.aload_n 0, 1) := by decide +kernel
theorem dX4_pass_64 : decode cX4_pass 64 = .ok (.getfield 28, 3) := by decide +kernel
theorem dX4_pass_67 : decode cX4_pass 67 = .ok (.getfield 105, 3) := by decide +kernel
theorem dX4_pass_70 : decode cX4_pass 70 = .ok (.ifCond .eq 8, 3) := by decide +kernel
theorem dX4_pass_73 : decode cX4_pass 73 = .ok (.aload_n 0, 1) := by decide +kernel
theorem dX4_pass_74 : decode cX4_pass 74 = .ok (.iload_n 3, 1) := by decide +kernel
theorem dX4_pass_75 : decode cX4_pass 75 = .ok (.invokevirtual 123, 3) := by decide +kernel
theorem dX4_pass_78 : decode cX4_pass 78 = .ok (.iload_n 2, 1) := by decide +kernel
theorem dX4_pass_79 : decode cX4_pass 79 = .ok (.iload_n 3, 1) := by decide +kernel
theorem dX4_pass_80 : decode cX4_pass 80 = .ok (.isub, 1) := by decide +kernel
theorem dX4_pass_81 : decode cX4_pass 81 = .ok (.istore_n 2, 1) := by decide +kernel
theorem dX4_pass_82 : decode cX4_pass 82 = .ok (.goto (-80), 3) := by decide +kernel
theorem dX4_pass_85 : decode cX4_pass 85 = .ok (.return_, 1) := by decide +kernel
theorem dX4_passUntilDone_0 : decode cX4_passUntilDone 0 = .ok (.aload_n 0, 1) := by decide +kernel
theorem dX4_passUntilDone_1 : decode cX4_passUntilDone 1 = .ok (.getfield 35, 3) := by decide +kernel
theorem dX4_passUntilDone_4 : decode cX4_passUntilDone 4 = .ok (.getfield 95, 3) := by decide +kernel
theorem dX4_passUntilDone_7 : decode cX4_passUntilDone 7 = .ok (.istore_n 1, 1) := by decide +kernel
theorem dX4_passUntilDone_8 : decode cX4_passUntilDone 8 = .ok (.iconst 0, 1) := by decide +kernel
theorem dX4_passUntilDone_9 : decode cX4_passUntilDone 9 = .ok (.istore_n 2, 1) := by decide +kernel
theorem dX4_passUntilDone_10 : decode cX4_passUntilDone 10 = .ok (.iload_n 2, 1) := by decide +kernel
theorem dX4_passUntilDone_11 : decode cX4_passUntilDone 11 = .ok (.sipush 1000, 3) := by decide +kernel
theorem dX4_passUntilDone_14 : decode cX4_passUntilDone 14 = .ok (.if_icmp .ge 84, 3) := by decide +kernel
theorem dX4_passUntilDone_17 : decode cX4_passUntilDone 17 = .ok (.aload_n 0, 1) := by decide +kernel
theorem dX4_passUntilDone_18 : decode cX4_passUntilDone 18 = .ok (.getfield 28, 3) := by decide +kernel
theorem dX4_passUntilDone_21 : decode cX4_passUntilDone 21 = .ok (.getfield 105, 3) := by decide +kernel
theorem dX4_passUntilDone_24 : decode cX4_passUntilDone 24 = .ok (.ifCond .ne 23, 3) := by decide +kernel
theorem dX4_passUntilDone_27 : decode cX4_passUntilDone 27 = .ok (.aload_n 0, 1) := by decide +kernel
theorem dX4_passUntilDone_28 : decode cX4_passUntilDone 28 = .ok (.getfield 21, 3) := by decide +kernel
theorem dX4_passUntilDone_31 : decode cX4_passUntilDone 31 = .ok (.invokevirtual 87, 3) := by decide +kernel
theorem dX4_passUntilDone_34 : decode cX4_passUntilDone 34 = .ok (.ifCond .ne 13, 3) := by decide +kernel
theorem dX4_passUntilDone_37 : decode cX4_passUntilDone 37 = .ok (.aload_n 0, 1) := by decide +kernel
theorem dX4_passUntilDone_38 : decode cX4_passUntilDone 38 = .ok (.getfield 35, 3) := by decide +kernel
theorem dX4_passUntilDone_41 : decode cX4_passUntilDone 41 = .ok (.getfield 95, 3) := by decide +kernel
theorem dX4_passUntilDone_44 : decode cX4_passUntilDone 44 = .ok (.iload_n 1, 1) := by decide +kernel
theorem dX4_passUntilDone_45 : decode cX4_passUntilDone 45 = .ok (.isub, 1) := by decide +kernel
theorem dX4_passUntilDone_46 : decode cX4_passUntilDone 46 = .ok (.ireturn, 1) := by decide +kernel
theorem dX4_passUntilDone_47 : decode cX4_passUntilDone 47 = .ok (.aload_n 0, 1) := by decide +kernel
theorem dX4_passUntilDone_48 : decode cX4_passUntilDone 48 = .ok (.getfield 28, 3) := by decide +kernel
theorem dX4_passUntilDone_51 : decode cX4_passUntilDone 51 = .ok (.getfield 105, 3) := by decide +kernel
theorem dX4_passUntilDone_54 : decode cX4_passUntilDone 54 = .ok (.ifCond .ne 13, 3) := by decide +kernel
theorem dX4_passUntilDone_57 : decode cX4_passUntilDone 57 = .ok (.aload_n 0, 1) := by decide +kernel
theorem dX4_passUntilDone_58 : decode cX4_passUntilDone 58 = .ok (.invokevirtual 126, 3) := by decide +kernel
theorem dX4_passUntilDone_61 : decode cX4_passUntilDone 61 = .ok (.ifCond .eq 6, 3) := by decide +kernel
theorem dX4_passUntilDone_64 : decode cX4_passUntilDone 64 = .ok (.bipush (-4), 2) := by decide +kernel
theorem dX4_passUntilDone_66 : decode cX4_passUntilDone 66 = .ok (.ireturn, 1) := by decide +kernel
theorem dX4_passUntilDone_67 : decode cX4_passUntilDone 67 = .ok (.aload_n 0, 1) := by decide +kernel
theorem dX4_passUntilDone_68 : decode cX4_passUntilDone 68 = .ok (.aload_n 0, 1) := by decide +kernel
theorem dX4_passUntilDone_69 : decode cX4_passUntilDone 69 = .ok (.getfield 28, 3) := by decide +kernel
theorem dX4_passUntilDone_72 : decode cX4_passUntilDone 72 = .ok (.getfield 105, 3) := by decide +kernel
theorem dX4_passUntilDone_75 : decode cX4_passUntilDone 75 = .ok (.ifCond .eq 13, 3) := by decide +kernel
theorem dX4_passUntilDone_78 : decode cX4_passUntilDone 78 = .ok (.aload_n 0, 1) := by decide +kernel
theorem dX4_passUntilDone_79 : decode cX4_passUntilDone 79 = .ok (.getfield 28, 3) := by decide +kernel
theorem dX4_passUntilDone_82 : decode cX4_passUntilDone 82 = .ok (.getfield 111, 3) := by decide +kernel
theorem dX4_passUntilDone_85 : decode cX4_passUntilDone 85 = .ok (.goto 4, 3) := by decide +kernel
theorem dX4_passUntilDone_88 : decode cX4_passUntilDone 88 = .ok (.iconst 1, 1) := by decide +kernel
theorem dX4_passUntilDone_89 : decode cX4_passUntilDone 89 = .ok (.invokevirtual 101, 3) := by decide +kernel
theorem dX4_passUntilDone_92 : decode cX4_passUntilDone 92 = .ok (.iinc 2 1, 3) := by decide +kernel
theorem dX4_passUntilDone_95 : decode cX4_passUntilDone 95 = .ok (.goto (-85), 3) := by decide +kernel
theorem dX4_passUntilDone_98 : decode cX4_passUntilDone 98 = .ok (.bipush (-4), 2) := by decide +kernel
theorem dX4_passUntilDone_100 : decode cX4_passUntilDone 100 = .ok (.ireturn, 1) := by decide +kernel
theorem dX4_isFull_0 : decode cX4_isFull 0 = .ok (.aload_n 0, 1) := by decide +kernel
theorem dX4_isFull_1 : decode cX4_isFull 1 = .ok (.getfield 80, 3) := by decide +kernel
theorem dX4_isFull_4 : decode cX4_isFull 4 = .ok (.bipush 16, 2) := by decide +kernel
theorem dX4_isFull_6 : decode cX4_isFull 6 = .ok (.if_icmp .lt 7, 3) := by decide +kernel
theorem dX4_isFull_9 : decode cX4_isFull 9 = .ok (.iconst 1, 1) := by decide +kernel
theorem dX4_isFull_10 : decode cX4_isFull 10 = .ok (.goto 4, 3) := by decide +kernel
theorem dX4_isFull_13 : decode cX4_isFull 13 = .ok (.iconst 0, 1) := by decide +kernel
theorem dX4_isFull_14 : decode cX4_isFull 14 = .ok (.ireturn, 1) := by decide +kernel
theorem dX4_takeRequests_0 : decode cX4_takeRequests 0 = .ok (.iconst 0, 1) := by decide +kernel
theorem dX4_takeRequests_1 : decode cX4_takeRequests 1 = .ok (.istore_n 1, 1) := by decide +kernel
theorem dX4_takeRequests_2 : decode cX4_takeRequests 2 = .ok (.iload_n 1, 1) := by decide +kernel
theorem dX4_takeRequests_3 : decode cX4_takeRequests 3 = .ok (.bipush 8, 2) := by decide +kernel
theorem dX4_takeRequests_5 : decode cX4_takeRequests 5 = .ok (.if_icmp .ge 55, 3) := by decide +kernel
theorem dX4_takeRequests_8 : decode cX4_takeRequests 8 = .ok (.aload_n 0, 1) := by decide +kernel
theorem dX4_takeRequests_9 : decode cX4_takeRequests 9 = .ok (.getfield 28, 3) := by decide +kernel
theorem dX4_takeRequests_12 : decode cX4_takeRequests 12 = .ok (.getfield 105, 3) := by decide +kernel
theorem dX4_takeRequests_15 : decode cX4_takeRequests 15 = .ok (.ifCond .ne 20, 3) := by decide +kernel
theorem dX4_takeRequests_18 : decode cX4_takeRequests 18 = .ok (.aload_n 0, 1) := by decide +kernel
theorem dX4_takeRequests_19 : decode cX4_takeRequests 19 = .ok (.invokevirtual 126, 3) := by decide +kernel
theorem dX4_takeRequests_22 : decode cX4_takeRequests 22 = .ok (.ifCond .ne 13, 3) := by decide +kernel
theorem dX4_takeRequests_25 : decode cX4_takeRequests 25 = .ok (.aload_n 0, 1) := by decide +kernel
theorem dX4_takeRequests_26 : decode cX4_takeRequests 26 = .ok (.getfield 21, 3) := by decide +kernel
theorem dX4_takeRequests_29 : decode cX4_takeRequests 29 = .ok (.invokevirtual 87, 3) := by decide +kernel
theorem dX4_takeRequests_32 : decode cX4_takeRequests 32 = .ok (.ifCond .ne 4, 3) := by decide +kernel
theorem dX4_takeRequests_35 : decode cX4_takeRequests 35 = .ok (.return_, 1) := by decide +kernel
theorem dX4_takeRequests_36 : decode cX4_takeRequests 36 = .ok (.aload_n 0, 1) := by decide +kernel
theorem dX4_takeRequests_37 : decode cX4_takeRequests 37 = .ok (.invokevirtual 130, 3) := by decide +kernel
theorem dX4_takeRequests_40 : decode cX4_takeRequests 40 = .ok (.ifCond .ne 7, 3) := by decide +kernel
theorem dX4_takeRequests_43 : decode cX4_takeRequests 43 = .ok (.aload_n 0, 1) := by decide +kernel
theorem dX4_takeRequests_44 : decode cX4_takeRequests 44 = .ok (.invokevirtual 133, 3) := by decide +kernel
theorem dX4_takeRequests_47 : decode cX4_takeRequests 47 = .ok (.aload_n 0, 1) := by decide +kernel
theorem dX4_takeRequests_48 : decode cX4_takeRequests 48 = .ok (.getfield 21, 3) := by decide +kernel
theorem dX4_takeRequests_51 : decode cX4_takeRequests 51 = .ok (.invokevirtual 136, 3) := by decide +kernel
theorem dX4_takeRequests_54 : decode cX4_takeRequests 54 = .ok (.iinc 1 1, 3) := by decide +kernel
theorem dX4_takeRequests_57 : decode cX4_takeRequests 57 = .ok (.goto (-55), 3) := by decide +kernel
theorem dX4_takeRequests_60 : decode cX4_takeRequests 60 = .ok (.return_, 1) := by decide +kernel
theorem dX4_isOutdated_0 : decode cX4_isOutdated 0 = .ok (.aload_n 0, 1) := by decide +kernel
theorem dX4_isOutdated_1 : decode cX4_isOutdated 1 = .ok (.getfield 21, 3) := by decide +kernel
theorem dX4_isOutdated_4 : decode cX4_isOutdated 4 = .ok (.iconst 0, 1) := by decide +kernel
theorem dX4_isOutdated_5 : decode cX4_isOutdated 5 = .ok (.invokevirtual 139, 3) := by decide +kernel
theorem dX4_isOutdated_8 : decode cX4_isOutdated 8 = .ok (.istore_n 1, 1) := by decide +kernel
theorem dX4_isOutdated_9 : decode cX4_isOutdated 9 = .ok (.iload_n 1, 1) := by decide +kernel
theorem dX4_isOutdated_10 : decode cX4_isOutdated 10 = .ok (.ifCond .eq 10, 3) := by decide +kernel
theorem dX4_isOutdated_13 : decode cX4_isOutdated 13 = .ok (.iload_n 1, 1) := by decide +kernel
theorem dX4_isOutdated_14 : decode cX4_isOutdated 14 = .ok (.iconst 3, 1) := by decide +kernel
theorem dX4_isOutdated_15 : decode cX4_isOutdated 15 = .ok (.if_icmp .eq 5, 3) := by decide +kernel
theorem dX4_isOutdated_18 : decode cX4_isOutdated 18 = .ok (.iconst 0, 1) := by decide +kernel
theorem dX4_isOutdated_19 : decode cX4_isOutdated 19 = .ok (.ireturn, 1) := by decide +kernel
theorem dX4_isOutdated_20 : decode cX4_isOutdated 20 = .ok (.aload_n 0, 1) := by decide +kernel
theorem dX4_isOutdated_21 : decode cX4_isOutdated 21 = .ok (.getfield 12, 3) := by decide +kernel
theorem dX4_isOutdated_24 : decode cX4_isOutdated 24 = .ok (.aload_n 0, 1) := by decide +kernel
theorem dX4_isOutdated_25 : decode cX4_isOutdated 25 = .ok (.getfield 21, 3) := by decide +kernel
theorem dX4_isOutdated_28 : decode cX4_isOutdated 28 = .ok (.iconst 0, 1) := by decide +kernel
theorem dX4_isOutdated_29 : decode cX4_isOutdated 29 = .ok (.invokevirtual 143, 3) := by decide +kernel
theorem dX4_isOutdated_32 : decode cX4_isOutdated 32 = .ok (.invokevirtual 146, 3) := by decide +kernel
theorem dX4_isOutdated_35 : decode cX4_isOutdated 35 = .ok (.istore_n 2, 1) := by decide +kernel
theorem dX4_isOutdated_36 : decode cX4_isOutdated 36 = .ok (.iload_n 2, 1) := by decide +kernel
theorem dX4_isOutdated_37 : decode cX4_isOutdated 37 = .ok (.iconst (-1), 1) := by decide +kernel
theorem dX4_isOutdated_38 : decode cX4_isOutdated 38 = .ok (.if_icmp .eq 22, 3) := by decide +kernel
theorem dX4_isOutdated_41 : decode cX4_isOutdated 41 = .ok (.aload_n 0, 1) := by decide +kernel
theorem dX4_isOutdated_42 : decode cX4_isOutdated 42 = .ok (.getfield 12, 3) := by decide +kernel
theorem dX4_isOutdated_45 : decode cX4_isOutdated 45 = .ok (.iload_n 2, 1) := by decide +kernel
theorem dX4_isOutdated_46 : decode cX4_isOutdated 46 = .ok (.invokevirtual 149, 3) := by decide +kernel
theorem dX4_isOutdated_49 : decode cX4_isOutdated 49 = .ok (.aload_n 0, 1) := by decide +kernel
theorem dX4_isOutdated_50 : decode cX4_isOutdated 50 = .ok (.getfield 21, 3) := by decide +kernel
theorem dX4_isOutdated_53 : decode cX4_isOutdated 53 = .ok (.iconst 0, 1) := by decide +kernel
theorem dX4_isOutdated_54 : decode cX4_isOutdated 54 = .ok (.invokevirtual 152, 3) := by decide +kernel
theorem dX4_isOutdated_57 : decode cX4_isOutdated 57 = .ok (.if_icmp .eq 7, 3) := by decide +kernel
theorem dX4_isOutdated_60 : decode cX4_isOutdated 60 = .ok (.iconst 1, 1) := by decide +kernel
theorem dX4_isOutdated_61 : decode cX4_isOutdated 61 = .ok (.goto 4, 3) := by decide +kernel
theorem dX4_isOutdated_64 : decode cX4_isOutdated 64 = .ok (.iconst 0, 1) := by decide +kernel
theorem dX4_isOutdated_65 : decode cX4_isOutdated 65 = .ok (.ireturn, 1) := by decide +kernel
theorem dX4_beginWriting_0 : decode cX4_beginWriting 0 = .ok (.getstatic 153, 3) := by decide +kernel
theorem dX4_beginWriting_3 : decode cX4_beginWriting 3 = .ok (.aload_n 0, 1) := by decide +kernel
theorem dX4_beginWriting_4 : decode cX4_beginWriting 4 = .ok (.getfield 80, 3) := by decide +kernel
theorem dX4_beginWriting_7 : decode cX4_beginWriting 7 = .ok (.invokestatic 156, 3) := by decide +kernel
theorem dX4_beginWriting_10 : decode cX4_beginWriting 10 = .ok (.istore_n 1, 1) := by decide +kernel
theorem dX4_beginWriting_11 : decode cX4_beginWriting 11 = .ok (.aload_n 0, 1) := by decide +kernel
theorem dX4_beginWriting_12 : decode cX4_beginWriting 12 = .ok (.getfield 28, 3) := by decide +kernel
theorem dX4_beginWriting_15 : decode cX4_beginWriting 15 = .ok (.iconst 1, 1) := by decide +kernel
theorem dX4_beginWriting_16 : decode cX4_beginWriting 16 = .ok (.putfield 105, 3) := by decide +kernel
theorem dX4_beginWriting_19 : decode cX4_beginWriting 19 = .ok (.aload_n 0, 1) := by decide +kernel
theorem dX4_beginWriting_20 : decode cX4_beginWriting 20 = .ok (.getfield 28, 3) := by decide +kernel
theorem dX4_beginWriting_23 : decode cX4_beginWriting 23 = .ok (.getstatic 160, 3) := by decide +kernel
theorem dX4_beginWriting_26 : decode cX4_beginWriting 26 = .ok (.aload_n 0, 1) := by decide +kernel
theorem dX4_beginWriting_27 : decode cX4_beginWriting 27 = .ok (.getfield 80, 3) := by decide +kernel
theorem dX4_beginWriting_30 : decode cX4_beginWriting 30 = .ok (.invokestatic 156, 3) := by decide +kernel
theorem dX4_beginWriting_33 : decode cX4_beginWriting 33 = .ok (.iconst 1, 1) := by decide +kernel
theorem dX4_beginWriting_34 : decode cX4_beginWriting 34 = .ok (.if_icmp .ne 7, 3) := by decide +kernel
theorem dX4_beginWriting_37 : decode cX4_beginWriting 37 = .ok (.iconst 1, 1) := by decide +kernel
theorem dX4_beginWriting_38 : decode cX4_beginWriting 38 = .ok (.goto 4, 3) := by decide +kernel
theorem dX4_beginWriting_41 : decode cX4_beginWriting 41 = .ok (.iconst 0, 1) := by decide +kernel
theorem dX4_beginWriting_42 : decode cX4_beginWriting 42 = .ok (.putfield 163, 3) := by decide +kernel
theorem dX4_beginWriting_45 : decode cX4_beginWriting 45 = .ok (.aload_n 0, 1) := by decide +kernel
theorem dX4_beginWriting_46 : decode cX4_beginWriting 46 = .ok (.getfield 28, 3) := by decide +kernel
theorem dX4_beginWriting_49 : decode cX4_beginWriting 49 = .ok (.aload_n 0, 1) := by decide +kernel
theorem dX4_beginWriting_50 : decode cX4_beginWriting 50 = .ok (.getfield 21, 3) := by decide +kernel
theorem dX4_beginWriting_53 : decode cX4_beginWriting 53 = .ok (.iconst 0, 1) := by decide +kernel
theorem dX4_beginWriting_54 : decode cX4_beginWriting 54 = .ok (.invokevirtual 139, 3) := by decide +kernel
theorem dX4_beginWriting_57 : decode cX4_beginWriting 57 = .ok (.putfield 166, 3) := by decide +kernel
theorem dX4_beginWriting_60 : decode cX4_beginWriting 60 = .ok (.aload_n 0, 1) := by decide +kernel
theorem dX4_beginWriting_61 : decode cX4_beginWriting 61 = .ok (.getfield 28, 3) := by decide +kernel
theorem dX4_beginWriting_64 : decode cX4_beginWriting 64 = .ok (.aload_n 0, 1) := by decide +kernel
theorem dX4_beginWriting_65 : decode cX4_beginWriting 65 = .ok (.getfield 76, 3) := by decide +kernel
theorem dX4_beginWriting_68 : decode cX4_beginWriting 68 = .ok (.aload_n 0, 1) := by decide +kernel
theorem dX4_beginWriting_69 : decode cX4_beginWriting 69 = .ok (.getfield 80, 3) := by decide +kernel
theorem dX4_beginWriting_72 : decode cX4_beginWriting 72 = .ok (.invokestatic 168, 3) := by decide +kernel
theorem dX4_beginWriting_75 : decode cX4_beginWriting 75 = .ok (.putfield 171, 3) := by decide +kernel
theorem dX4_beginWriting_78 : decode cX4_beginWriting 78 = .ok (.aload_n 0, 1) := by decide +kernel
theorem dX4_beginWriting_79 : decode cX4_beginWriting 79 = .ok (.getfield 28, 3) := by decide +kernel
theorem dX4_beginWriting_82 : decode cX4_beginWriting 82 = .ok (.aload_n 0, 1) := by decide +kernel
theorem dX4_beginWriting_83 : decode cX4_beginWriting 83 = .ok (.getfield 76, 3) := by decide +kernel
theorem dX4_beginWriting_86 : decode cX4_beginWriting 86 = .ok (.iload_n 1, 1) := by decide +kernel
theorem dX4_beginWriting_87 : decode cX4_beginWriting 87 = .ok (.invokestatic 174, 3) := by decide +kernel
theorem dX4_beginWriting_90 : decode cX4_beginWriting 90 = .ok (.invokestatic 168, 3) := by decide +kernel
theorem dX4_beginWriting_93 : decode cX4_beginWriting 93 = .ok (.putfield 177, 3) := by decide +kernel
theorem dX4_beginWriting_96 : decode cX4_beginWriting 96 = .ok (.aload_n 0, 1) := by decide +kernel
theorem dX4_beginWriting_97 : decode cX4_beginWriting 97 = .ok (.getfield 28, 3) := by decide +kernel
theorem dX4_beginWriting_100 : decode cX4_beginWriting 100 = .ok (.aload_n 0, 1) := by decide +kernel
theorem dX4_beginWriting_101 : decode cX4_beginWriting 101 = .ok (.getfield 76, 3) := by decide +kernel
theorem dX4_beginWriting_104 : decode cX4_beginWriting 104 = .ok (.bipush 16, 2) := by decide +kernel
theorem dX4_beginWriting_106 : decode cX4_beginWriting 106 = .ok (.iload_n 1, 1) := by decide +kernel
theorem dX4_beginWriting_107 : decode cX4_beginWriting 107 = .ok (.iadd, 1) := by decide +kernel
theorem dX4_beginWriting_108 : decode cX4_beginWriting 108 = .ok (.invokestatic 168, 3) := by decide +kernel
theorem dX4_beginWriting_111 : decode cX4_beginWriting 111 = .ok (.putfield 180, 3) := by decide +kernel
theorem dX4_beginWriting_114 : decode cX4_beginWriting 114 = .ok (.aload_n 0, 1) := by decide +kernel
theorem dX4_beginWriting_115 : decode cX4_beginWriting 115 = .ok (.getfield 28, 3) := by decide +kernel
theorem dX4_beginWriting_118 : decode cX4_beginWriting 118 = .ok (.aload_n 0, 1) := by decide +kernel
theorem dX4_beginWriting_119 : decode cX4_beginWriting 119 = .ok (.getfield 39, 3) := by decide +kernel
theorem dX4_beginWriting_122 : decode cX4_beginWriting 122 = .ok (.aload_n 0, 1) := by decide +kernel
theorem dX4_beginWriting_123 : decode cX4_beginWriting 123 = .ok (.getfield 28, 3) := by decide +kernel
theorem dX4_beginWriting_126 : decode cX4_beginWriting 126 = .ok (.getfield 163, 3) := by decide +kernel
theorem dX4_beginWriting_129 : decode cX4_beginWriting 129 = .ok (.ifCond .eq 7, 3) := by decide +kernel
theorem dX4_beginWriting_132 : decode cX4_beginWriting 132 = .ok (.iconst 1, 1) := by decide +kernel
theorem dX4_beginWriting_133 : decode cX4_beginWriting 133 = .ok (.goto 4, 3) := by decide +kernel
theorem dX4_beginWriting_136 : decode cX4_beginWriting 136 = .ok (.iconst 0, 1) := by decide +kernel
theorem dX4_beginWriting_137 : decode cX4_beginWriting 137 = .ok (.invokestatic 156, 3) := by decide +kernel
theorem dX4_beginWriting_140 : decode cX4_beginWriting 140 = .ok (.aload_n 0, 1) := by decide +kernel
theorem dX4_beginWriting_141 : decode cX4_beginWriting 141 = .ok (.getfield 43, 3) := by decide +kernel
theorem dX4_beginWriting_144 : decode cX4_beginWriting 144 = .ok (.iload_n 1, 1) := by decide +kernel
theorem dX4_beginWriting_145 : decode cX4_beginWriting 145 = .ok (.invokestatic 156, 3) := by decide +kernel
theorem dX4_beginWriting_148 : decode cX4_beginWriting 148 = .ok (.iadd, 1) := by decide +kernel
theorem dX4_beginWriting_149 : decode cX4_beginWriting 149 = .ok (.aload_n 0, 1) := by decide +kernel
theorem dX4_beginWriting_150 : decode cX4_beginWriting 150 = .ok (.getfield 46, 3) := by decide +kernel
theorem dX4_beginWriting_153 : decode cX4_beginWriting 153 = .ok (.aload_n 0, 1) := by decide +kernel
theorem dX4_beginWriting_154 : decode cX4_beginWriting 154 = .ok (.getfield 76, 3) := by decide +kernel
theorem dX4_beginWriting_157 : decode cX4_beginWriting 157 = .ok (.invokestatic 156, 3) := by decide +kernel
theorem dX4_beginWriting_160 : decode cX4_beginWriting 160 = .ok (.aload_n 0, 1) := by decide +kernel
theorem dX4_beginWriting_161 : decode cX4_beginWriting 161 = .ok (.getfield 39, 3) := by decide +kernel
theorem dX4_beginWriting_164 : decode cX4_beginWriting 164 = .ok (.iconst 3, 1) := by decide +kernel
theorem dX4_beginWriting_165 : decode cX4_beginWriting 165 = .ok (.invokestatic 156, 3) := by decide +kernel
theorem dX4_beginWriting_168 : decode cX4_beginWriting 168 = .ok (.invokestatic 183, 3) := by decide +kernel
theorem dX4_beginWriting_171 : decode cX4_beginWriting 171 = .ok (.iadd, 1) := by decide +kernel
theorem dX4_beginWriting_172 : decode cX4_beginWriting 172 = .ok (.putfield 186, 3) := by decide +kernel
theorem dX4_beginWriting_175 : decode cX4_beginWriting 175 = .ok (.aload_n 0, 1) := by decide +kernel
theorem dX4_beginWriting_176 : decode cX4_beginWriting 176 = .ok (.getfield 28, 3) := by decide +kernel
theorem dX4_beginWriting_179 : decode cX4_beginWriting 179 = .ok (.aload_n 0, 1) := by decide +kernel
theorem dX4_beginWriting_180 : decode cX4_beginWriting 180 = .ok (.getfield 28, 3) := by decide +kernel
theorem dX4_beginWriting_183 : decode cX4_beginWriting 183 = .ok (.getfield 186, 3) := by decide +kernel
theorem dX4_beginWriting_186 : decode cX4_beginWriting 186 = .ok (.putfield 111, 3) := by decide +kernel
theorem dX4_beginWriting_189 : decode cX4_beginWriting 189 = .ok (.aload_n 0, 1) := by decide +kernel
theorem dX4_beginWriting_190 : decode cX4_beginWriting 190 = .ok (.dup, 1) := by decide +kernel
theorem dX4_beginWriting_191 : decode cX4_beginWriting 191 = .ok (.getfield 80, 3) := by decide +kernel
theorem dX4_beginWriting_194 : decode cX4_beginWriting 194 = .ok (.iconst 1, 1) := by decide +kernel
theorem dX4_beginWriting_195 : decode cX4_beginWriting 195 = .ok (.iadd, 1) := by decide +kernel
theorem dX4_beginWriting_196 : decode cX4_beginWriting 196 = .ok (.putfield 80, 3) := by decide +kernel
theorem dX4_beginWriting_199 : decode cX4_beginWriting 199 = .ok (.aload_n 0, 1) := by decide +kernel
theorem dX4_beginWriting_200 : decode cX4_beginWriting 200 = .ok (.getfield 35, 3) := by decide +kernel
theorem dX4_beginWriting_203 : decode cX4_beginWriting 203 = .ok (.dup, 1) := by decide +kernel
theorem dX4_beginWriting_204 : decode cX4_beginWriting 204 = .ok (.getfield 189, 3) := by decide +kernel
theorem dX4_beginWriting_207 : decode cX4_beginWriting 207 = .ok (.iconst 1, 1) := by decide +kernel
theorem dX4_beginWriting_208 : decode cX4_beginWriting 208 = .ok (.iadd, 1) := by decide +kernel
theorem dX4_beginWriting_209 : decode cX4_beginWriting 209 = .ok (.putfield 189, 3) := by decide +kernel
theorem dX4_beginWriting_212 : decode cX4_beginWriting 212 = .ok (.aload_n 0, 1) := by decide +kernel
theorem dX4_beginWriting_213 : decode cX4_beginWriting 213 = .ok (.getfield 12, 3) := by decide +kernel
theorem dX4_beginWriting_216 : decode cX4_beginWriting 216 = .ok (.aload_n 0, 1) := by decide +kernel
theorem dX4_beginWriting_217 : decode cX4_beginWriting 217 = .ok (.getfield 28, 3) := by decide +kernel
theorem dX4_beginWriting_220 : decode cX4_beginWriting 220 = .ok (.getfield 171, 3) := by decide +kernel
theorem dX4_beginWriting_223 : decode cX4_beginWriting 223 = .ok (.aload_n 0, 1) := by decide +kernel
theorem dX4_beginWriting_224 : decode cX4_beginWriting 224 = .ok (.getfield 21, 3) := by decide +kernel
theorem dX4_beginWriting_227 : decode cX4_beginWriting 227 = .ok (.iconst 0, 1) := by decide +kernel
theorem dX4_beginWriting_228 : decode cX4_beginWriting 228 = .ok (.invokevirtual 143, 3) := by decide +kernel
theorem dX4_beginWriting_231 : decode cX4_beginWriting 231 = .ok (.aload_n 0, 1) := by decide +kernel
theorem dX4_beginWriting_232 : decode cX4_beginWriting 232 = .ok (.getfield 21, 3) := by decide +kernel
theorem dX4_beginWriting_235 : decode cX4_beginWriting 235 = .ok (.iconst 0, 1) := by decide +kernel
theorem dX4_beginWriting_236 : decode cX4_beginWriting 236 = .ok (.invokevirtual 192, 3) := by decide +kernel
theorem dX4_beginWriting_239 : decode cX4_beginWriting 239 = .ok (.aload_n 0, 1) := by decide +kernel
theorem dX4_beginWriting_240 : decode cX4_beginWriting 240 = .ok (.getfield 35, 3) := by decide +kernel
theorem dX4_beginWriting_243 : decode cX4_beginWriting 243 = .ok (.getfield 189, 3) := by decide +kernel
theorem dX4_beginWriting_246 : decode cX4_beginWriting 246 = .ok (.invokevirtual 195, 3) := by decide +kernel
theorem dX4_beginWriting_249 : decode cX4_beginWriting 249 = .ok (.aload_n 0, 1) := by decide +kernel
theorem dX4_beginWriting_250 : decode cX4_beginWriting 250 = .ok (.getfield 28, 3) := by decide +kernel
theorem dX4_beginWriting_253 : decode cX4_beginWriting 253 = .ok (.getfield 163, 3) := by decide +kernel
theorem dX4_beginWriting_256 : decode cX4_beginWriting 256 = .ok (.ifCond .eq 67, 3) := by decide +kernel
theorem dX4_beginWriting_259 : decode cX4_beginWriting 259 = .ok (.aload_n 0, 1) := by decide +kernel
theorem dX4_beginWriting_260 : decode cX4_beginWriting 260 = .ok (.getfield 39, 3) := by decide +kernel
theorem dX4_beginWriting_263 : decode cX4_beginWriting 263 = .ok (.iconst 2, 1) := by decide +kernel
theorem dX4_beginWriting_264 : decode cX4_beginWriting 264 = .ok (.invokestatic 156, 3) := by decide +kernel
theorem dX4_beginWriting_267 : decode cX4_beginWriting 267 = .ok (.iconst 1, 1) := by decide +kernel
theorem dX4_beginWriting_268 : decode cX4_beginWriting 268 = .ok (.if_icmp .ne 55, 3) := by decide +kernel
theorem dX4_beginWriting_271 : decode cX4_beginWriting 271 = .ok (.aload_n 0, 1) := by decide +kernel
theorem dX4_beginWriting_272 : decode cX4_beginWriting 272 = .ok (.getfield 12, 3) := by decide +kernel
theorem dX4_beginWriting_275 : decode cX4_beginWriting 275 = .ok (.aload_n 0, 1) := by decide +kernel
theorem dX4_beginWriting_276 : decode cX4_beginWriting 276 = .ok (.getfield 28, 3) := by decide +kernel
theorem dX4_beginWriting_279 : decode cX4_beginWriting 279 = .ok (.getfield 177, 3) := by decide +kernel
theorem dX4_beginWriting_282 : decode cX4_beginWriting 282 = .ok (.invokevirtual 198, 3) := by decide +kernel
theorem dX4_beginWriting_285 : decode cX4_beginWriting 285 = .ok (.iconst 2, 1) := by decide +kernel
theorem dX4_beginWriting_286 : decode cX4_beginWriting 286 = .ok (.if_icmp .ne 37, 3) := by decide +kernel
theorem dX4_beginWriting_289 : decode cX4_beginWriting 289 = .ok (.aload_n 0, 1) := by decide +kernel
theorem dX4_beginWriting_290 : decode cX4_beginWriting 290 = .ok (.getfield 12, 3) := by decide +kernel
theorem dX4_beginWriting_293 : decode cX4_beginWriting 293 = .ok (.aload_n 0, 1) := by decide +kernel
theorem dX4_beginWriting_294 : decode cX4_beginWriting 294 = .ok (.getfield 28, 3) := by decide +kernel
theorem dX4_beginWriting_297 : decode cX4_beginWriting 297 = .ok (.getfield 177, 3) := by decide +kernel
theorem dX4_beginWriting_300 : decode cX4_beginWriting 300 = .ok (.aload_n 0, 1) := by decide +kernel
theorem dX4_beginWriting_301 : decode cX4_beginWriting 301 = .ok (.getfield 28, 3) := by decide +kernel
theorem dX4_beginWriting_304 : decode cX4_beginWriting 304 = .ok (.getfield 180, 3) := by decide +kernel
theorem dX4_beginWriting_307 : decode cX4_beginWriting 307 = .ok (.invokevirtual 201, 3) := by decide +kernel
theorem dX4_beginWriting_310 : decode cX4_beginWriting 310 = .ok (.aload_n 0, 1) := by decide +kernel
theorem dX4_beginWriting_311 : decode cX4_beginWriting 311 = .ok (.getfield 28, 3) := by decide +kernel
theorem dX4_beginWriting_314 : decode cX4_beginWriting 314 = .ok (.dup, 1) := by decide +kernel
theorem dX4_beginWriting_315 : decode cX4_beginWriting 315 = .ok (.getfield 111, 3) := by decide +kernel
theorem dX4_beginWriting_318 : decode cX4_beginWriting 318 = .ok (.iconst 2, 1) := by decide +kernel
theorem dX4_beginWriting_319 : decode cX4_beginWriting 319 = .ok (.iadd, 1) := by decide +kernel
theorem dX4_beginWriting_320 : decode cX4_beginWriting 320 = .ok (.putfield 111, 3) := by decide +kernel
theorem dX4_beginWriting_323 : decode cX4_beginWriting 323 = .ok (.return_, 1) := by decide +kernel
theorem dX4_goOn_0 : decode cX4_goOn 0 = .ok (.aload_n 0, 1) := by decide +kernel
theorem dX4_goOn_1 : decode cX4_goOn 1 = .ok (.getfield 28, 3) := by decide +kernel
theorem dX4_goOn_4 : decode cX4_goOn 4 = .ok (.dup, 1) := by decide +kernel
theorem dX4_goOn_5 : decode cX4_goOn 5 = .ok (.getfield 111, 3) := by decide +kernel
theorem dX4_goOn_8 : decode cX4_goOn 8 = .ok (.iload_n 1, 1) := by decide +kernel
theorem dX4_goOn_9 : decode cX4_goOn 9 = .ok (.isub, 1) := by decide +kernel
theorem dX4_goOn_10 : decode cX4_goOn 10 = .ok (.putfield 111, 3) := by decide +kernel
theorem dX4_goOn_13 : decode cX4_goOn 13 = .ok (.aload_n 0, 1) := by decide +kernel
theorem dX4_goOn_14 : decode cX4_goOn 14 = .ok (.getfield 12, 3) := by decide +kernel
theorem dX4_goOn_17 : decode cX4_goOn 17 = .ok (.aload_n 0, 1) := by decide +kernel
theorem dX4_goOn_18 : decode cX4_goOn 18 = .ok (.getfield 28, 3) := by decide +kernel
theorem dX4_goOn_21 : decode cX4_goOn 21 = .ok (.getfield 180, 3) := by decide +kernel
theorem dX4_goOn_24 : decode cX4_goOn 24 = .ok (.invokevirtual 198, 3) := by decide +kernel
theorem dX4_goOn_27 : decode cX4_goOn 27 = .ok (.iconst 1, 1) := by decide +kernel
theorem dX4_goOn_28 : decode cX4_goOn 28 = .ok (.if_icmp .ne 41, 3) := by decide +kernel
theorem dX4_goOn_31 : decode cX4_goOn 31 = .ok (.aload_n 0, 1) := by decide +kernel
theorem dX4_goOn_32 : decode cX4_goOn 32 = .ok (.getfield 28, 3) := by decide +kernel
theorem dX4_goOn_35 : decode cX4_goOn 35 = .ok (.invokevirtual 205, 3) := by decide +kernel
theorem dX4_goOn_38 : decode cX4_goOn 38 = .ok (.ifCond .eq 31, 3) := by decide +kernel
theorem dX4_goOn_41 : decode cX4_goOn 41 = .ok (.aload_n 0, 1) := by decide +kernel
theorem dX4_goOn_42 : decode cX4_goOn 42 = .ok (.getfield 12, 3) := by decide +kernel
theorem dX4_goOn_45 : decode cX4_goOn 45 = .ok (.aload_n 0, 1) := by decide +kernel
theorem dX4_goOn_46 : decode cX4_goOn 46 = .ok (.getfield 28, 3) := by decide +kernel
theorem dX4_goOn_49 : decode cX4_goOn 49 = .ok (.getfield 180, 3) := by decide +kernel
theorem dX4_goOn_52 : decode cX4_goOn 52 = .ok (.iconst 2, 1) := by decide +kernel
theorem dX4_goOn_53 : decode cX4_goOn 53 = .ok (.invokevirtual 208, 3) := by decide +kernel
theorem dX4_goOn_56 : decode cX4_goOn 56 = .ok (.aload_n 0, 1) := by decide +kernel
theorem dX4_goOn_57 : decode cX4_goOn 57 = .ok (.getfield 35, 3) := by decide +kernel
theorem dX4_goOn_60 : decode cX4_goOn 60 = .ok (.dup, 1) := by decide +kernel
theorem dX4_goOn_61 : decode cX4_goOn 61 = .ok (.getfield 211, 3) := by decide +kernel
theorem dX4_goOn_64 : decode cX4_goOn 64 = .ok (.iconst 1, 1) := by decide +kernel
theorem dX4_goOn_65 : decode cX4_goOn 65 = .ok (.iadd, 1) := by decide +kernel
theorem dX4_goOn_66 : decode cX4_goOn 66 = .ok (.putfield 211, 3) := by decide +kernel
theorem dX4_goOn_69 : decode cX4_goOn 69 = .ok (.aload_n 0, 1) := by decide +kernel
theorem dX4_goOn_70 : decode cX4_goOn 70 = .ok (.getfield 28, 3) := by decide +kernel
theorem dX4_goOn_73 : decode cX4_goOn 73 = .ok (.getfield 111, 3) := by decide +kernel
theorem dX4_goOn_76 : decode cX4_goOn 76 = .ok (.ifCond .gt 7, 3) := by decide +kernel
theorem dX4_goOn_79 : decode cX4_goOn 79 = .ok (.aload_n 0, 1) := by decide +kernel
theorem dX4_goOn_80 : decode cX4_goOn 80 = .ok (.invokevirtual 214, 3) := by decide +kernel
theorem dX4_goOn_83 : decode cX4_goOn 83 = .ok (.return_, 1) := by decide +kernel
theorem dX4_finishWriting_0 : decode cX4_finishWriting 0 = .ok (.aload_n 0, 1) := by decide +kernel
theorem dX4_finishWriting_1 : decode cX4_finishWriting 1 = .ok (.getfield 28, 3) := by decide +kernel
theorem dX4_finishWriting_4 : decode cX4_finishWriting 4 = .ok (.iconst 0, 1) := by decide +kernel
theorem dX4_finishWriting_5 : decode cX4_finishWriting 5 = .ok (.putfield 105, 3) := by decide +kernel
theorem dX4_finishWriting_8 : decode cX4_finishWriting 8 = .ok (.aload_n 0, 1) := by decide +kernel
theorem dX4_finishWriting_9 : decode cX4_finishWriting 9 = .ok (.getfield 12, 3) := by decide +kernel
theorem dX4_finishWriting_12 : decode cX4_finishWriting 12 = .ok (.aload_n 0, 1) := by decide +kernel
theorem dX4_finishWriting_13 : decode cX4_finishWriting 13 = .ok (.getfield 28, 3) := by decide +kernel
theorem dX4_finishWriting_16 : decode cX4_finishWriting 16 = .ok (.getfield 171, 3) := by decide +kernel
theorem dX4_finishWriting_19 : decode cX4_finishWriting 19 = .ok (.iconst 2, 1) := by decide +kernel
theorem dX4_finishWriting_20 : decode cX4_finishWriting 20 = .ok (.invokevirtual 208, 3) := by decide +kernel
theorem dX4_finishWriting_23 : decode cX4_finishWriting 23 = .ok (.aload_n 0, 1) := by decide +kernel
theorem dX4_finishWriting_24 : decode cX4_finishWriting 24 = .ok (.getfield 28, 3) := by decide +kernel
theorem dX4_finishWriting_27 : decode cX4_finishWriting 27 = .ok (.getfield 163, 3) := by decide +kernel
theorem dX4_finishWriting_30 : decode cX4_finishWriting 30 = .ok (.ifCond .eq 18, 3) := by decide +kernel
theorem dX4_finishWriting_33 : decode cX4_finishWriting 33 = .ok (.aload_n 0, 1) := by decide +kernel
theorem dX4_finishWriting_34 : decode cX4_finishWriting 34 = .ok (.getfield 12, 3) := by decide +kernel
theorem dX4_finishWriting_37 : decode cX4_finishWriting 37 = .ok (.aload_n 0, 1) := by decide +kernel
theorem dX4_finishWriting_38 : decode cX4_finishWriting 38 = .ok (.getfield 28, 3) := by decide +kernel
theorem dX4_finishWriting_41 : decode cX4_finishWriting 41 = .ok (.getfield 180, 3) := by decide +kernel
theorem dX4_finishWriting_44 : decode cX4_finishWriting 44 = .ok (.iconst 0, 1) := by decide +kernel
theorem dX4_finishWriting_45 : decode cX4_finishWriting 45 = .ok (.invokevirtual 208, 3) := by decide +kernel
theorem dX4_finishWriting_48 : decode cX4_finishWriting 48 = .ok (.aload_n 0, 1) := by decide +kernel
theorem dX4_finishWriting_49 : decode cX4_finishWriting 49 = .ok (.getfield 28, 3) := by decide +kernel
theorem dX4_finishWriting_52 : decode cX4_finishWriting 52 = .ok (.invokevirtual 217, 3) := by decide +kernel
theorem dX4_finishWriting_55 : decode cX4_finishWriting 55 = .ok (.ifCond .eq 16, 3) := by decide +kernel
theorem dX4_finishWriting_58 : decode cX4_finishWriting 58 = .ok (.aload_n 0, 1) := by decide +kernel
theorem dX4_finishWriting_59 : decode cX4_finishWriting 59 = .ok (.getfield 35, 3) := by decide +kernel
theorem dX4_finishWriting_62 : decode cX4_finishWriting 62 = .ok (.dup, 1) := by decide +kernel
theorem dX4_finishWriting_63 : decode cX4_finishWriting 63 = .ok (.getfield 98, 3) := by decide +kernel
theorem dX4_finishWriting_66 : decode cX4_finishWriting 66 = .ok (.iconst 1, 1) := by decide +kernel
theorem dX4_finishWriting_67 : decode cX4_finishWriting 67 = .ok (.iadd, 1) := by decide +kernel
theorem dX4_finishWriting_68 : decode cX4_finishWriting 68 = .ok (.putfield 98, 3) := by decide +kernel
theorem dX4_finishWriting_71 : decode cX4_finishWriting 71 = .ok (.return_, 1) := by decide +kernel
theorem dX4_cutPower_0 : decode cX4_cutPower 0 = .ok (.aload_n 0, 1) := by decide +kernel
theorem dX4_cutPower_1 : decode cX4_cutPower 1 = .ok (.getfield 52, 3) := by decide +kernel
theorem dX4_cutPower_4 : decode cX4_cutPower 4 = .ok (.ifCond .eq 13, 3) := by decide +kernel
theorem dX4_cutPower_7 : decode cX4_cutPower 7 = .ok (.aload_n 0, 1) := by decide +kernel
theorem dX4_cutPower_8 : decode cX4_cutPower 8 = .ok (.invokevirtual 220, 3) := by decide +kernel
theorem dX4_cutPower_11 : decode cX4_cutPower 11 = .ok (.invokestatic 223, 3) := by decide +kernel
theorem dX4_cutPower_14 : decode cX4_cutPower 14 = .ok (.goto 5, 3) := by decide +kernel
theorem dX4_cutPower_17 : decode cX4_cutPower 17 = .ok (.bipush (-2), 2) := by decide +kernel
theorem dX4_cutPower_19 : decode cX4_cutPower 19 = .ok (.ireturn, 1) := by decide +kernel
theorem dX4_loseByCut_0 : decode cX4_loseByCut 0 = .ok (.iconst 0, 1) := by decide +kernel
theorem dX4_loseByCut_1 : decode cX4_loseByCut 1 = .ok (.istore_n 1, 1) := by decide +kernel
theorem dX4_loseByCut_2 : decode cX4_loseByCut 2 = .ok (.iload_n 1, 1) := by decide +kernel
theorem dX4_loseByCut_3 : decode cX4_loseByCut 3 = .ok (.aload_n 0, 1) := by decide +kernel
theorem dX4_loseByCut_4 : decode cX4_loseByCut 4 = .ok (.getfield 49, 3) := by decide +kernel
theorem dX4_loseByCut_7 : decode cX4_loseByCut 7 = .ok (.arraylength, 1) := by decide +kernel
theorem dX4_loseByCut_8 : decode cX4_loseByCut 8 = .ok (.if_icmp .ge 23, 3) := by decide +kernel
theorem dX4_loseByCut_11 : decode cX4_loseByCut 11 = .ok (.aload_n 0, 1) := by decide +kernel
theorem dX4_loseByCut_12 : decode cX4_loseByCut 12 = .ok (.getfield 49, 3) := by decide +kernel
theorem dX4_loseByCut_15 : decode cX4_loseByCut 15 = .ok (.iload_n 1, 1) := by decide +kernel
theorem dX4_loseByCut_16 : decode cX4_loseByCut 16 = .ok (.aload_n 0, 1) := by decide +kernel
theorem dX4_loseByCut_17 : decode cX4_loseByCut 17 = .ok (.getfield 12, 3) := by decide +kernel
theorem dX4_loseByCut_20 : decode cX4_loseByCut 20 = .ok (.iload_n 1, 1) := by decide +kernel
theorem dX4_loseByCut_21 : decode cX4_loseByCut 21 = .ok (.invokevirtual 228, 3) := by decide +kernel
theorem dX4_loseByCut_24 : decode cX4_loseByCut 24 = .ok (.iastore, 1) := by decide +kernel
theorem dX4_loseByCut_25 : decode cX4_loseByCut 25 = .ok (.iinc 1 1, 3) := by decide +kernel
theorem dX4_loseByCut_28 : decode cX4_loseByCut 28 = .ok (.goto (-26), 3) := by decide +kernel
theorem dX4_loseByCut_31 : decode cX4_loseByCut 31 = .ok (.aload_n 0, 1) := by decide +kernel
theorem dX4_loseByCut_32 : decode cX4_loseByCut 32 = .ok (.iconst 0, 1) := by decide +kernel
theorem dX4_loseByCut_33 : decode cX4_loseByCut 33 = .ok (.putfield 52, 3) := by decide +kernel
theorem dX4_loseByCut_36 : decode cX4_loseByCut 36 = .ok (.aload_n 0, 1) := by decide +kernel
theorem dX4_loseByCut_37 : decode cX4_loseByCut 37 = .ok (.getfield 35, 3) := by decide +kernel
theorem dX4_loseByCut_40 : decode cX4_loseByCut 40 = .ok (.dup, 1) := by decide +kernel
theorem dX4_loseByCut_41 : decode cX4_loseByCut 41 = .ok (.getfield 231, 3) := by decide +kernel
theorem dX4_loseByCut_44 : decode cX4_loseByCut 44 = .ok (.iconst 1, 1) := by decide +kernel
theorem dX4_loseByCut_45 : decode cX4_loseByCut 45 = .ok (.iadd, 1) := by decide +kernel
theorem dX4_loseByCut_46 : decode cX4_loseByCut 46 = .ok (.putfield 231, 3) := by decide +kernel
theorem dX4_loseByCut_49 : decode cX4_loseByCut 49 = .ok (.aload_n 0, 1) := by decide +kernel
theorem dX4_loseByCut_50 : decode cX4_loseByCut 50 = .ok (.getfield 35, 3) := by decide +kernel
end
section
theorem dX4_loseByCut_53 : decode cX4_loseByCut 53 = .ok (.dup, 1) := by decide +kernel
theorem dX4_loseByCut_54 : decode cX4_loseByCut 54 = .ok (.getfield 234, 3) := by decide +kernel
theorem dX4_loseByCut_57 : decode cX4_loseByCut 57 = .ok (.aload_n 0, 1) := by decide +kernel
theorem dX4_loseByCut_58 : decode cX4_loseByCut 58 = .ok (.getfield 21, 3) := by decide +kernel
theorem dX4_loseByCut_61 : decode cX4_loseByCut 61 = .ok (.invokevirtual 87, 3) := by decide +kernel
theorem dX4_loseByCut_64 : decode cX4_loseByCut 64 = .ok (.aload_n 0, 1) := by decide +kernel
theorem dX4_loseByCut_65 : decode cX4_loseByCut 65 = .ok (.getfield 28, 3) := by decide +kernel
theorem dX4_loseByCut_68 : decode cX4_loseByCut 68 = .ok (.getfield 105, 3) := by decide +kernel
theorem dX4_loseByCut_71 : decode cX4_loseByCut 71 = .ok (.ifCond .eq 7, 3) := by decide +kernel
theorem dX4_loseByCut_74 : decode cX4_loseByCut 74 = .ok (.iconst 1, 1) := by decide +kernel
theorem dX4_loseByCut_75 : decode cX4_loseByCut 75 = .ok (.goto 4, 3) := by decide +kernel
theorem dX4_loseByCut_78 : decode cX4_loseByCut 78 = .ok (.iconst 0, 1) := by decide +kernel
theorem dX4_loseByCut_79 : decode cX4_loseByCut 79 = .ok (.iadd, 1) := by decide +kernel
theorem dX4_loseByCut_80 : decode cX4_loseByCut 80 = .ok (.iadd, 1) := by decide +kernel
theorem dX4_loseByCut_81 : decode cX4_loseByCut 81 = .ok (.putfield 234, 3) := by decide +kernel
theorem dX4_loseByCut_84 : decode cX4_loseByCut 84 = .ok (.aload_n 0, 1) := by decide +kernel
theorem dX4_loseByCut_85 : decode cX4_loseByCut 85 = .ok (.getfield 21, 3) := by decide +kernel
theorem dX4_loseByCut_88 : decode cX4_loseByCut 88 = .ok (.invokevirtual 237, 3) := by decide +kernel
theorem dX4_loseByCut_91 : decode cX4_loseByCut 91 = .ok (.aload_n 0, 1) := by decide +kernel
theorem dX4_loseByCut_92 : decode cX4_loseByCut 92 = .ok (.getfield 28, 3) := by decide +kernel
theorem dX4_loseByCut_95 : decode cX4_loseByCut 95 = .ok (.getfield 105, 3) := by decide +kernel
theorem dX4_loseByCut_98 : decode cX4_loseByCut 98 = .ok (.ifCond .eq 7, 3) := by decide +kernel
theorem dX4_loseByCut_101 : decode cX4_loseByCut 101 = .ok (.aload_n 0, 1) := by decide +kernel
theorem dX4_loseByCut_102 : decode cX4_loseByCut 102 = .ok (.invokevirtual 240, 3) := by decide +kernel
theorem dX4_loseByCut_105 : decode cX4_loseByCut 105 = .ok (.iconst 0, 1) := by decide +kernel
theorem dX4_loseByCut_106 : decode cX4_loseByCut 106 = .ok (.istore_n 1, 1) := by decide +kernel
theorem dX4_loseByCut_107 : decode cX4_loseByCut 107 = .ok (.iconst 0, 1) := by decide +kernel
theorem dX4_loseByCut_108 : decode cX4_loseByCut 108 = .ok (.istore_n 2, 1) := by decide +kernel
theorem dX4_loseByCut_109 : decode cX4_loseByCut 109 = .ok (.iload_n 2, 1) := by decide +kernel
theorem dX4_loseByCut_110 : decode cX4_loseByCut 110 = .ok (.aload_n 0, 1) := by decide +kernel
theorem dX4_loseByCut_111 : decode cX4_loseByCut 111 = .ok (.getfield 49, 3) := by decide +kernel
theorem dX4_loseByCut_114 : decode cX4_loseByCut 114 = .ok (.arraylength, 1) := by decide +kernel
theorem dX4_loseByCut_115 : decode cX4_loseByCut 115 = .ok (.if_icmp .ge 41, 3) := by decide +kernel
theorem dX4_loseByCut_118 : decode cX4_loseByCut 118 = .ok (.aload_n 0, 1) := by decide +kernel
theorem dX4_loseByCut_119 : decode cX4_loseByCut 119 = .ok (.getfield 49, 3) := by decide +kernel
theorem dX4_loseByCut_122 : decode cX4_loseByCut 122 = .ok (.iload_n 2, 1) := by decide +kernel
theorem dX4_loseByCut_123 : decode cX4_loseByCut 123 = .ok (.iaload, 1) := by decide +kernel
theorem dX4_loseByCut_124 : decode cX4_loseByCut 124 = .ok (.ifCond .le 26, 3) := by decide +kernel
theorem dX4_loseByCut_127 : decode cX4_loseByCut 127 = .ok (.aload_n 0, 1) := by decide +kernel
theorem dX4_loseByCut_128 : decode cX4_loseByCut 128 = .ok (.getfield 12, 3) := by decide +kernel
theorem dX4_loseByCut_131 : decode cX4_loseByCut 131 = .ok (.iload_n 2, 1) := by decide +kernel
theorem dX4_loseByCut_132 : decode cX4_loseByCut 132 = .ok (.invokevirtual 228, 3) := by decide +kernel
theorem dX4_loseByCut_135 : decode cX4_loseByCut 135 = .ok (.aload_n 0, 1) := by decide +kernel
theorem dX4_loseByCut_136 : decode cX4_loseByCut 136 = .ok (.getfield 49, 3) := by decide +kernel
theorem dX4_loseByCut_139 : decode cX4_loseByCut 139 = .ok (.iload_n 2, 1) := by decide +kernel
theorem dX4_loseByCut_140 : decode cX4_loseByCut 140 = .ok (.iaload, 1) := by decide +kernel
theorem dX4_loseByCut_141 : decode cX4_loseByCut 141 = .ok (.if_icmp .eq 9, 3) := by decide +kernel
theorem dX4_loseByCut_144 : decode cX4_loseByCut 144 = .ok (.iload_n 1, 1) := by decide +kernel
theorem dX4_loseByCut_145 : decode cX4_loseByCut 145 = .ok (.iconst 1, 1) := by decide +kernel
theorem dX4_loseByCut_146 : decode cX4_loseByCut 146 = .ok (.iload_n 2, 1) := by decide +kernel
theorem dX4_loseByCut_147 : decode cX4_loseByCut 147 = .ok (.ishl, 1) := by decide +kernel
theorem dX4_loseByCut_148 : decode cX4_loseByCut 148 = .ok (.ior, 1) := by decide +kernel
theorem dX4_loseByCut_149 : decode cX4_loseByCut 149 = .ok (.istore_n 1, 1) := by decide +kernel
theorem dX4_loseByCut_150 : decode cX4_loseByCut 150 = .ok (.iinc 2 1, 3) := by decide +kernel
theorem dX4_loseByCut_153 : decode cX4_loseByCut 153 = .ok (.goto (-44), 3) := by decide +kernel
theorem dX4_loseByCut_156 : decode cX4_loseByCut 156 = .ok (.aload_n 0, 1) := by decide +kernel
theorem dX4_loseByCut_157 : decode cX4_loseByCut 157 = .ok (.getfield 35, 3) := by decide +kernel
theorem dX4_loseByCut_160 : decode cX4_loseByCut 160 = .ok (.dup, 1) := by decide +kernel
theorem dX4_loseByCut_161 : decode cX4_loseByCut 161 = .ok (.getfield 243, 3) := by decide +kernel
theorem dX4_loseByCut_164 : decode cX4_loseByCut 164 = .ok (.iload_n 1, 1) := by decide +kernel
theorem dX4_loseByCut_165 : decode cX4_loseByCut 165 = .ok (.invokestatic 223, 3) := by decide +kernel
theorem dX4_loseByCut_168 : decode cX4_loseByCut 168 = .ok (.iadd, 1) := by decide +kernel
theorem dX4_loseByCut_169 : decode cX4_loseByCut 169 = .ok (.putfield 243, 3) := by decide +kernel
theorem dX4_loseByCut_172 : decode cX4_loseByCut 172 = .ok (.iload_n 1, 1) := by decide +kernel
theorem dX4_loseByCut_173 : decode cX4_loseByCut 173 = .ok (.ireturn, 1) := by decide +kernel
theorem dX4_tearWriting_0 : decode cX4_tearWriting 0 = .ok (.aload_n 0, 1) := by decide +kernel
theorem dX4_tearWriting_1 : decode cX4_tearWriting 1 = .ok (.getfield 28, 3) := by decide +kernel
theorem dX4_tearWriting_4 : decode cX4_tearWriting 4 = .ok (.iconst 0, 1) := by decide +kernel
theorem dX4_tearWriting_5 : decode cX4_tearWriting 5 = .ok (.putfield 105, 3) := by decide +kernel
theorem dX4_tearWriting_8 : decode cX4_tearWriting 8 = .ok (.aload_n 0, 1) := by decide +kernel
theorem dX4_tearWriting_9 : decode cX4_tearWriting 9 = .ok (.getfield 12, 3) := by decide +kernel
theorem dX4_tearWriting_12 : decode cX4_tearWriting 12 = .ok (.aload_n 0, 1) := by decide +kernel
theorem dX4_tearWriting_13 : decode cX4_tearWriting 13 = .ok (.getfield 28, 3) := by decide +kernel
theorem dX4_tearWriting_16 : decode cX4_tearWriting 16 = .ok (.getfield 171, 3) := by decide +kernel
theorem dX4_tearWriting_19 : decode cX4_tearWriting 19 = .ok (.iconst 3, 1) := by decide +kernel
theorem dX4_tearWriting_20 : decode cX4_tearWriting 20 = .ok (.invokevirtual 208, 3) := by decide +kernel
theorem dX4_tearWriting_23 : decode cX4_tearWriting 23 = .ok (.aload_n 0, 1) := by decide +kernel
theorem dX4_tearWriting_24 : decode cX4_tearWriting 24 = .ok (.getfield 28, 3) := by decide +kernel
theorem dX4_tearWriting_27 : decode cX4_tearWriting 27 = .ok (.getfield 163, 3) := by decide +kernel
theorem dX4_tearWriting_30 : decode cX4_tearWriting 30 = .ok (.ifCond .eq 28, 3) := by decide +kernel
theorem dX4_tearWriting_33 : decode cX4_tearWriting 33 = .ok (.aload_n 0, 1) := by decide +kernel
theorem dX4_tearWriting_34 : decode cX4_tearWriting 34 = .ok (.getfield 28, 3) := by decide +kernel
theorem dX4_tearWriting_37 : decode cX4_tearWriting 37 = .ok (.invokevirtual 246, 3) := by decide +kernel
theorem dX4_tearWriting_40 : decode cX4_tearWriting 40 = .ok (.ifCond .eq 18, 3) := by decide +kernel
theorem dX4_tearWriting_43 : decode cX4_tearWriting 43 = .ok (.aload_n 0, 1) := by decide +kernel
theorem dX4_tearWriting_44 : decode cX4_tearWriting 44 = .ok (.getfield 12, 3) := by decide +kernel
theorem dX4_tearWriting_47 : decode cX4_tearWriting 47 = .ok (.aload_n 0, 1) := by decide +kernel
theorem dX4_tearWriting_48 : decode cX4_tearWriting 48 = .ok (.getfield 28, 3) := by decide +kernel
theorem dX4_tearWriting_51 : decode cX4_tearWriting 51 = .ok (.getfield 177, 3) := by decide +kernel
theorem dX4_tearWriting_54 : decode cX4_tearWriting 54 = .ok (.iconst 3, 1) := by decide +kernel
theorem dX4_tearWriting_55 : decode cX4_tearWriting 55 = .ok (.invokevirtual 208, 3) := by decide +kernel
theorem dX4_tearWriting_58 : decode cX4_tearWriting 58 = .ok (.aload_n 0, 1) := by decide +kernel
theorem dX4_tearWriting_59 : decode cX4_tearWriting 59 = .ok (.getfield 12, 3) := by decide +kernel
theorem dX4_tearWriting_62 : decode cX4_tearWriting 62 = .ok (.aload_n 0, 1) := by decide +kernel
theorem dX4_tearWriting_63 : decode cX4_tearWriting 63 = .ok (.getfield 28, 3) := by decide +kernel
theorem dX4_tearWriting_66 : decode cX4_tearWriting 66 = .ok (.getfield 180, 3) := by decide +kernel
theorem dX4_tearWriting_69 : decode cX4_tearWriting 69 = .ok (.invokevirtual 198, 3) := by decide +kernel
theorem dX4_tearWriting_72 : decode cX4_tearWriting 72 = .ok (.iconst 1, 1) := by decide +kernel
theorem dX4_tearWriting_73 : decode cX4_tearWriting 73 = .ok (.if_icmp .ne 18, 3) := by decide +kernel
theorem dX4_tearWriting_76 : decode cX4_tearWriting 76 = .ok (.aload_n 0, 1) := by decide +kernel
theorem dX4_tearWriting_77 : decode cX4_tearWriting 77 = .ok (.getfield 12, 3) := by decide +kernel
theorem dX4_tearWriting_80 : decode cX4_tearWriting 80 = .ok (.aload_n 0, 1) := by decide +kernel
theorem dX4_tearWriting_81 : decode cX4_tearWriting 81 = .ok (.getfield 28, 3) := by decide +kernel
theorem dX4_tearWriting_84 : decode cX4_tearWriting 84 = .ok (.getfield 180, 3) := by decide +kernel
theorem dX4_tearWriting_87 : decode cX4_tearWriting 87 = .ok (.iconst 0, 1) := by decide +kernel
theorem dX4_tearWriting_88 : decode cX4_tearWriting 88 = .ok (.invokevirtual 208, 3) := by decide +kernel
theorem dX4_tearWriting_91 : decode cX4_tearWriting 91 = .ok (.return_, 1) := by decide +kernel
theorem dX4_restorePower_0 : decode cX4_restorePower 0 = .ok (.aload_n 0, 1) := by decide +kernel
theorem dX4_restorePower_1 : decode cX4_restorePower 1 = .ok (.getfield 52, 3) := by decide +kernel
theorem dX4_restorePower_4 : decode cX4_restorePower 4 = .ok (.ifCond .eq 6, 3) := by decide +kernel
theorem dX4_restorePower_7 : decode cX4_restorePower 7 = .ok (.bipush (-2), 2) := by decide +kernel
theorem dX4_restorePower_9 : decode cX4_restorePower 9 = .ok (.ireturn, 1) := by decide +kernel
theorem dX4_restorePower_10 : decode cX4_restorePower 10 = .ok (.aload_n 0, 1) := by decide +kernel
theorem dX4_restorePower_11 : decode cX4_restorePower 11 = .ok (.iconst 1, 1) := by decide +kernel
theorem dX4_restorePower_12 : decode cX4_restorePower 12 = .ok (.putfield 52, 3) := by decide +kernel
theorem dX4_restorePower_15 : decode cX4_restorePower 15 = .ok (.iconst 0, 1) := by decide +kernel
theorem dX4_restorePower_16 : decode cX4_restorePower 16 = .ok (.istore_n 1, 1) := by decide +kernel
theorem dX4_restorePower_17 : decode cX4_restorePower 17 = .ok (.iload_n 1, 1) := by decide +kernel
theorem dX4_restorePower_18 : decode cX4_restorePower 18 = .ok (.iconst 2, 1) := by decide +kernel
theorem dX4_restorePower_19 : decode cX4_restorePower 19 = .ok (.if_icmp .ge 34, 3) := by decide +kernel
theorem dX4_restorePower_22 : decode cX4_restorePower 22 = .ok (.bipush 16, 2) := by decide +kernel
theorem dX4_restorePower_24 : decode cX4_restorePower 24 = .ok (.istore_n 2, 1) := by decide +kernel
theorem dX4_restorePower_25 : decode cX4_restorePower 25 = .ok (.iload_n 2, 1) := by decide +kernel
theorem dX4_restorePower_26 : decode cX4_restorePower 26 = .ok (.bipush 24, 2) := by decide +kernel
theorem dX4_restorePower_28 : decode cX4_restorePower 28 = .ok (.if_icmp .ge 19, 3) := by decide +kernel
theorem dX4_restorePower_31 : decode cX4_restorePower 31 = .ok (.aload_n 0, 1) := by decide +kernel
theorem dX4_restorePower_32 : decode cX4_restorePower 32 = .ok (.iload_n 1, 1) := by decide +kernel
theorem dX4_restorePower_33 : decode cX4_restorePower 33 = .ok (.iload_n 2, 1) := by decide +kernel
theorem dX4_restorePower_34 : decode cX4_restorePower 34 = .ok (.invokestatic 168, 3) := by decide +kernel
theorem dX4_restorePower_37 : decode cX4_restorePower 37 = .ok (.iconst 0, 1) := by decide +kernel
theorem dX4_restorePower_38 : decode cX4_restorePower 38 = .ok (.invokevirtual 249, 3) := by decide +kernel
theorem dX4_restorePower_41 : decode cX4_restorePower 41 = .ok (.iinc 2 1, 3) := by decide +kernel
theorem dX4_restorePower_44 : decode cX4_restorePower 44 = .ok (.goto (-19), 3) := by decide +kernel
theorem dX4_restorePower_47 : decode cX4_restorePower 47 = .ok (.iinc 1 1, 3) := by decide +kernel
theorem dX4_restorePower_50 : decode cX4_restorePower 50 = .ok (.goto (-33), 3) := by decide +kernel
theorem dX4_restorePower_53 : decode cX4_restorePower 53 = .ok (.aload_n 0, 1) := by decide +kernel
theorem dX4_restorePower_54 : decode cX4_restorePower 54 = .ok (.getfield 21, 3) := by decide +kernel
theorem dX4_restorePower_57 : decode cX4_restorePower 57 = .ok (.invokevirtual 87, 3) := by decide +kernel
theorem dX4_restorePower_60 : decode cX4_restorePower 60 = .ok (.ireturn, 1) := by decide +kernel
theorem dX4_askForCopy_0 : decode cX4_askForCopy 0 = .ok (.aload_n 0, 1) := by decide +kernel
theorem dX4_askForCopy_1 : decode cX4_askForCopy 1 = .ok (.getfield 12, 3) := by decide +kernel
theorem dX4_askForCopy_4 : decode cX4_askForCopy 4 = .ok (.iload_n 1, 1) := by decide +kernel
theorem dX4_askForCopy_5 : decode cX4_askForCopy 5 = .ok (.invokevirtual 252, 3) := by decide +kernel
theorem dX4_askForCopy_8 : decode cX4_askForCopy 8 = .ok (.ifCond .eq 35, 3) := by decide +kernel
theorem dX4_askForCopy_11 : decode cX4_askForCopy 11 = .ok (.aload_n 0, 1) := by decide +kernel
theorem dX4_askForCopy_12 : decode cX4_askForCopy 12 = .ok (.getfield 21, 3) := by decide +kernel
theorem dX4_askForCopy_15 : decode cX4_askForCopy 15 = .ok (.aload_n 0, 1) := by decide +kernel
theorem dX4_askForCopy_16 : decode cX4_askForCopy 16 = .ok (.getfield 12, 3) := by decide +kernel
theorem dX4_askForCopy_19 : decode cX4_askForCopy 19 = .ok (.iload_n 1, 1) := by decide +kernel
theorem dX4_askForCopy_20 : decode cX4_askForCopy 20 = .ok (.invokevirtual 256, 3) := by decide +kernel
theorem dX4_askForCopy_23 : decode cX4_askForCopy 23 = .ok (.aload_n 0, 1) := by decide +kernel
theorem dX4_askForCopy_24 : decode cX4_askForCopy 24 = .ok (.getfield 12, 3) := by decide +kernel
theorem dX4_askForCopy_27 : decode cX4_askForCopy 27 = .ok (.iload_n 1, 1) := by decide +kernel
theorem dX4_askForCopy_28 : decode cX4_askForCopy 28 = .ok (.invokevirtual 257, 3) := by decide +kernel
theorem dX4_askForCopy_31 : decode cX4_askForCopy 31 = .ok (.iload_n 2, 1) := by decide +kernel
theorem dX4_askForCopy_32 : decode cX4_askForCopy 32 = .ok (.aload_n 0, 1) := by decide +kernel
theorem dX4_askForCopy_33 : decode cX4_askForCopy 33 = .ok (.getfield 12, 3) := by decide +kernel
theorem dX4_askForCopy_36 : decode cX4_askForCopy 36 = .ok (.iload_n 1, 1) := by decide +kernel
theorem dX4_askForCopy_37 : decode cX4_askForCopy 37 = .ok (.invokevirtual 149, 3) := by decide +kernel
theorem dX4_askForCopy_40 : decode cX4_askForCopy 40 = .ok (.invokevirtual 91, 3) := by decide +kernel
theorem dX4_askForCopy_43 : decode cX4_askForCopy 43 = .ok (.return_, 1) := by decide +kernel
theorem dX4_turnToOther_0 : decode cX4_turnToOther 0 = .ok (.iconst 1, 1) := by decide +kernel
theorem dX4_turnToOther_1 : decode cX4_turnToOther 1 = .ok (.aload_n 0, 1) := by decide +kernel
theorem dX4_turnToOther_2 : decode cX4_turnToOther 2 = .ok (.getfield 76, 3) := by decide +kernel
theorem dX4_turnToOther_5 : decode cX4_turnToOther 5 = .ok (.isub, 1) := by decide +kernel
theorem dX4_turnToOther_6 : decode cX4_turnToOther 6 = .ok (.istore_n 1, 1) := by decide +kernel
theorem dX4_turnToOther_7 : decode cX4_turnToOther 7 = .ok (.aload_n 0, 1) := by decide +kernel
theorem dX4_turnToOther_8 : decode cX4_turnToOther 8 = .ok (.getfield 52, 3) := by decide +kernel
theorem dX4_turnToOther_11 : decode cX4_turnToOther 11 = .ok (.ifCond .eq 24, 3) := by decide +kernel
theorem dX4_turnToOther_14 : decode cX4_turnToOther 14 = .ok (.aload_n 0, 1) := by decide +kernel
theorem dX4_turnToOther_15 : decode cX4_turnToOther 15 = .ok (.getfield 28, 3) := by decide +kernel
theorem dX4_turnToOther_18 : decode cX4_turnToOther 18 = .ok (.getfield 105, 3) := by decide +kernel
theorem dX4_turnToOther_21 : decode cX4_turnToOther 21 = .ok (.ifCond .ne 14, 3) := by decide +kernel
theorem dX4_turnToOther_24 : decode cX4_turnToOther 24 = .ok (.aload_n 0, 1) := by decide +kernel
theorem dX4_turnToOther_25 : decode cX4_turnToOther 25 = .ok (.getfield 12, 3) := by decide +kernel
theorem dX4_turnToOther_28 : decode cX4_turnToOther 28 = .ok (.iload_n 1, 1) := by decide +kernel
theorem dX4_turnToOther_29 : decode cX4_turnToOther 29 = .ok (.invokevirtual 258, 3) := by decide +kernel
theorem dX4_turnToOther_32 : decode cX4_turnToOther 32 = .ok (.ifCond .ne 6, 3) := by decide +kernel
theorem dX4_turnToOther_35 : decode cX4_turnToOther 35 = .ok (.bipush (-2), 2) := by decide +kernel
theorem dX4_turnToOther_37 : decode cX4_turnToOther 37 = .ok (.ireturn, 1) := by decide +kernel
theorem dX4_turnToOther_38 : decode cX4_turnToOther 38 = .ok (.aload_n 0, 1) := by decide +kernel
theorem dX4_turnToOther_39 : decode cX4_turnToOther 39 = .ok (.iload_n 1, 1) := by decide +kernel
theorem dX4_turnToOther_40 : decode cX4_turnToOther 40 = .ok (.putfield 76, 3) := by decide +kernel
theorem dX4_turnToOther_43 : decode cX4_turnToOther 43 = .ok (.aload_n 0, 1) := by decide +kernel
theorem dX4_turnToOther_44 : decode cX4_turnToOther 44 = .ok (.iconst 0, 1) := by decide +kernel
theorem dX4_turnToOther_45 : decode cX4_turnToOther 45 = .ok (.putfield 80, 3) := by decide +kernel
theorem dX4_turnToOther_48 : decode cX4_turnToOther 48 = .ok (.iload_n 1, 1) := by decide +kernel
theorem dX4_turnToOther_49 : decode cX4_turnToOther 49 = .ok (.ireturn, 1) := by decide +kernel
theorem dX4_cleanBlock_0 : decode cX4_cleanBlock 0 = .ok (.iload_n 1, 1) := by decide +kernel
theorem dX4_cleanBlock_1 : decode cX4_cleanBlock 1 = .ok (.iconst 0, 1) := by decide +kernel
theorem dX4_cleanBlock_2 : decode cX4_cleanBlock 2 = .ok (.iconst 1, 1) := by decide +kernel
theorem dX4_cleanBlock_3 : decode cX4_cleanBlock 3 = .ok (.invokestatic 83, 3) := by decide +kernel
theorem dX4_cleanBlock_6 : decode cX4_cleanBlock 6 = .ok (.ifCond .ne 5, 3) := by decide +kernel
theorem dX4_cleanBlock_9 : decode cX4_cleanBlock 9 = .ok (.iconst (-1), 1) := by decide +kernel
theorem dX4_cleanBlock_10 : decode cX4_cleanBlock 10 = .ok (.ireturn, 1) := by decide +kernel
theorem dX4_cleanBlock_11 : decode cX4_cleanBlock 11 = .ok (.aload_n 0, 1) := by decide +kernel
theorem dX4_cleanBlock_12 : decode cX4_cleanBlock 12 = .ok (.getfield 52, 3) := by decide +kernel
theorem dX4_cleanBlock_15 : decode cX4_cleanBlock 15 = .ok (.ifCond .eq 11, 3) := by decide +kernel
theorem dX4_cleanBlock_18 : decode cX4_cleanBlock 18 = .ok (.iload_n 1, 1) := by decide +kernel
theorem dX4_cleanBlock_19 : decode cX4_cleanBlock 19 = .ok (.aload_n 0, 1) := by decide +kernel
theorem dX4_cleanBlock_20 : decode cX4_cleanBlock 20 = .ok (.getfield 76, 3) := by decide +kernel
theorem dX4_cleanBlock_23 : decode cX4_cleanBlock 23 = .ok (.if_icmp .ne 6, 3) := by decide +kernel
theorem dX4_cleanBlock_26 : decode cX4_cleanBlock 26 = .ok (.bipush (-2), 2) := by decide +kernel
theorem dX4_cleanBlock_28 : decode cX4_cleanBlock 28 = .ok (.ireturn, 1) := by decide +kernel
theorem dX4_cleanBlock_29 : decode cX4_cleanBlock 29 = .ok (.aload_n 0, 1) := by decide +kernel
theorem dX4_cleanBlock_30 : decode cX4_cleanBlock 30 = .ok (.getfield 12, 3) := by decide +kernel
theorem dX4_cleanBlock_33 : decode cX4_cleanBlock 33 = .ok (.iload_n 1, 1) := by decide +kernel
theorem dX4_cleanBlock_34 : decode cX4_cleanBlock 34 = .ok (.invokevirtual 261, 3) := by decide +kernel
theorem dX4_cleanBlock_37 : decode cX4_cleanBlock 37 = .ok (.istore_n 2, 1) := by decide +kernel
theorem dX4_cleanBlock_38 : decode cX4_cleanBlock 38 = .ok (.aload_n 0, 1) := by decide +kernel
theorem dX4_cleanBlock_39 : decode cX4_cleanBlock 39 = .ok (.getfield 21, 3) := by decide +kernel
theorem dX4_cleanBlock_42 : decode cX4_cleanBlock 42 = .ok (.invokevirtual 87, 3) := by decide +kernel
theorem dX4_cleanBlock_45 : decode cX4_cleanBlock 45 = .ok (.iload_n 2, 1) := by decide +kernel
theorem dX4_cleanBlock_46 : decode cX4_cleanBlock 46 = .ok (.iadd, 1) := by decide +kernel
theorem dX4_cleanBlock_47 : decode cX4_cleanBlock 47 = .ok (.bipush 8, 2) := by decide +kernel
theorem dX4_cleanBlock_49 : decode cX4_cleanBlock 49 = .ok (.if_icmp .le 6, 3) := by decide +kernel
theorem dX4_cleanBlock_52 : decode cX4_cleanBlock 52 = .ok (.bipush (-3), 2) := by decide +kernel
theorem dX4_cleanBlock_54 : decode cX4_cleanBlock 54 = .ok (.ireturn, 1) := by decide +kernel
theorem dX4_cleanBlock_55 : decode cX4_cleanBlock 55 = .ok (.iconst 0, 1) := by decide +kernel
theorem dX4_cleanBlock_56 : decode cX4_cleanBlock 56 = .ok (.istore_n 3, 1) := by decide +kernel
theorem dX4_cleanBlock_57 : decode cX4_cleanBlock 57 = .ok (.iload_n 3, 1) := by decide +kernel
theorem dX4_cleanBlock_58 : decode cX4_cleanBlock 58 = .ok (.bipush 24, 2) := by decide +kernel
theorem dX4_cleanBlock_60 : decode cX4_cleanBlock 60 = .ok (.if_icmp .ge 19, 3) := by decide +kernel
theorem dX4_cleanBlock_63 : decode cX4_cleanBlock 63 = .ok (.aload_n 0, 1) := by decide +kernel
theorem dX4_cleanBlock_64 : decode cX4_cleanBlock 64 = .ok (.iload_n 1, 1) := by decide +kernel
theorem dX4_cleanBlock_65 : decode cX4_cleanBlock 65 = .ok (.iload_n 3, 1) := by decide +kernel
theorem dX4_cleanBlock_66 : decode cX4_cleanBlock 66 = .ok (.invokestatic 168, 3) := by decide +kernel
theorem dX4_cleanBlock_69 : decode cX4_cleanBlock 69 = .ok (.iconst 3, 1) := by decide +kernel
theorem dX4_cleanBlock_70 : decode cX4_cleanBlock 70 = .ok (.invokevirtual 249, 3) := by decide +kernel
theorem dX4_cleanBlock_73 : decode cX4_cleanBlock 73 = .ok (.iinc 3 1, 3) := by decide +kernel
theorem dX4_cleanBlock_76 : decode cX4_cleanBlock 76 = .ok (.goto (-19), 3) := by decide +kernel
theorem dX4_cleanBlock_79 : decode cX4_cleanBlock 79 = .ok (.iload_n 2, 1) := by decide +kernel
theorem dX4_cleanBlock_80 : decode cX4_cleanBlock 80 = .ok (.ireturn, 1) := by decide +kernel
theorem dX4_eraseBlock_0 : decode cX4_eraseBlock 0 = .ok (.iload_n 1, 1) := by decide +kernel
theorem dX4_eraseBlock_1 : decode cX4_eraseBlock 1 = .ok (.iconst 0, 1) := by decide +kernel
theorem dX4_eraseBlock_2 : decode cX4_eraseBlock 2 = .ok (.iconst 1, 1) := by decide +kernel
theorem dX4_eraseBlock_3 : decode cX4_eraseBlock 3 = .ok (.invokestatic 83, 3) := by decide +kernel
theorem dX4_eraseBlock_6 : decode cX4_eraseBlock 6 = .ok (.ifCond .ne 5, 3) := by decide +kernel
theorem dX4_eraseBlock_9 : decode cX4_eraseBlock 9 = .ok (.iconst (-1), 1) := by decide +kernel
theorem dX4_eraseBlock_10 : decode cX4_eraseBlock 10 = .ok (.ireturn, 1) := by decide +kernel
theorem dX4_eraseBlock_11 : decode cX4_eraseBlock 11 = .ok (.aload_n 0, 1) := by decide +kernel
theorem dX4_eraseBlock_12 : decode cX4_eraseBlock 12 = .ok (.getfield 52, 3) := by decide +kernel
theorem dX4_eraseBlock_15 : decode cX4_eraseBlock 15 = .ok (.ifCond .eq 22, 3) := by decide +kernel
theorem dX4_eraseBlock_18 : decode cX4_eraseBlock 18 = .ok (.iload_n 1, 1) := by decide +kernel
theorem dX4_eraseBlock_19 : decode cX4_eraseBlock 19 = .ok (.aload_n 0, 1) := by decide +kernel
theorem dX4_eraseBlock_20 : decode cX4_eraseBlock 20 = .ok (.getfield 76, 3) := by decide +kernel
theorem dX4_eraseBlock_23 : decode cX4_eraseBlock 23 = .ok (.if_icmp .eq 14, 3) := by decide +kernel
theorem dX4_eraseBlock_26 : decode cX4_eraseBlock 26 = .ok (.aload_n 0, 1) := by decide +kernel
theorem dX4_eraseBlock_27 : decode cX4_eraseBlock 27 = .ok (.getfield 12, 3) := by decide +kernel
theorem dX4_eraseBlock_30 : decode cX4_eraseBlock 30 = .ok (.iload_n 1, 1) := by decide +kernel
theorem dX4_eraseBlock_31 : decode cX4_eraseBlock 31 = .ok (.invokevirtual 261, 3) := by decide +kernel
theorem dX4_eraseBlock_34 : decode cX4_eraseBlock 34 = .ok (.ifCond .le 6, 3) := by decide +kernel
theorem dX4_eraseBlock_37 : decode cX4_eraseBlock 37 = .ok (.bipush (-2), 2) := by decide +kernel
theorem dX4_eraseBlock_39 : decode cX4_eraseBlock 39 = .ok (.ireturn, 1) := by decide +kernel
theorem dX4_eraseBlock_40 : decode cX4_eraseBlock 40 = .ok (.aload_n 0, 1) := by decide +kernel
theorem dX4_eraseBlock_41 : decode cX4_eraseBlock 41 = .ok (.getfield 12, 3) := by decide +kernel
theorem dX4_eraseBlock_44 : decode cX4_eraseBlock 44 = .ok (.iload_n 1, 1) := by decide +kernel
theorem dX4_eraseBlock_45 : decode cX4_eraseBlock 45 = .ok (.invokevirtual 264, 3) := by decide +kernel
theorem dX4_eraseBlock_48 : decode cX4_eraseBlock 48 = .ok (.aload_n 0, 1) := by decide +kernel
theorem dX4_eraseBlock_49 : decode cX4_eraseBlock 49 = .ok (.getfield 46, 3) := by decide +kernel
theorem dX4_eraseBlock_52 : decode cX4_eraseBlock 52 = .ok (.iload_n 1, 1) := by decide +kernel
theorem dX4_eraseBlock_53 : decode cX4_eraseBlock 53 = .ok (.invokestatic 156, 3) := by decide +kernel
theorem dX4_eraseBlock_56 : decode cX4_eraseBlock 56 = .ok (.iconst 1, 1) := by decide +kernel
theorem dX4_eraseBlock_57 : decode cX4_eraseBlock 57 = .ok (.iadd, 1) := by decide +kernel
theorem dX4_eraseBlock_58 : decode cX4_eraseBlock 58 = .ok (.istore_n 2, 1) := by decide +kernel
theorem dX4_eraseBlock_59 : decode cX4_eraseBlock 59 = .ok (.aload_n 0, 1) := by decide +kernel
theorem dX4_eraseBlock_60 : decode cX4_eraseBlock 60 = .ok (.getfield 46, 3) := by decide +kernel
theorem dX4_eraseBlock_63 : decode cX4_eraseBlock 63 = .ok (.iload_n 1, 1) := by decide +kernel
theorem dX4_eraseBlock_64 : decode cX4_eraseBlock 64 = .ok (.iload_n 2, 1) := by decide +kernel
theorem dX4_eraseBlock_65 : decode cX4_eraseBlock 65 = .ok (.invokestatic 267, 3) := by decide +kernel
theorem dX4_eraseBlock_68 : decode cX4_eraseBlock 68 = .ok (.iload_n 2, 1) := by decide +kernel
theorem dX4_eraseBlock_69 : decode cX4_eraseBlock 69 = .ok (.ireturn, 1) := by decide +kernel
theorem dX4_changeSlowness_0 : decode cX4_changeSlowness 0 = .ok (.iload_n 1, 1) := by decide +kernel
theorem dX4_changeSlowness_1 : decode cX4_changeSlowness 1 = .ok (.iconst 0, 1) := by decide +kernel
theorem dX4_changeSlowness_2 : decode cX4_changeSlowness 2 = .ok (.bipush 7, 2) := by decide +kernel
theorem dX4_changeSlowness_4 : decode cX4_changeSlowness 4 = .ok (.invokestatic 83, 3) := by decide +kernel
theorem dX4_changeSlowness_7 : decode cX4_changeSlowness 7 = .ok (.ifCond .eq 12, 3) := by decide +kernel
theorem dX4_changeSlowness_10 : decode cX4_changeSlowness 10 = .ok (.iload_n 2, 1) := by decide +kernel
theorem dX4_changeSlowness_11 : decode cX4_changeSlowness 11 = .ok (.iconst 0, 1) := by decide +kernel
theorem dX4_changeSlowness_12 : decode cX4_changeSlowness 12 = .ok (.iconst 5, 1) := by decide +kernel
theorem dX4_changeSlowness_13 : decode cX4_changeSlowness 13 = .ok (.invokestatic 83, 3) := by decide +kernel
theorem dX4_changeSlowness_16 : decode cX4_changeSlowness 16 = .ok (.ifCond .ne 5, 3) := by decide +kernel
theorem dX4_changeSlowness_19 : decode cX4_changeSlowness 19 = .ok (.iconst (-1), 1) := by decide +kernel
theorem dX4_changeSlowness_20 : decode cX4_changeSlowness 20 = .ok (.ireturn, 1) := by decide +kernel
theorem dX4_changeSlowness_21 : decode cX4_changeSlowness 21 = .ok (.aload_n 0, 1) := by decide +kernel
theorem dX4_changeSlowness_22 : decode cX4_changeSlowness 22 = .ok (.getfield 43, 3) := by decide +kernel
theorem dX4_changeSlowness_25 : decode cX4_changeSlowness 25 = .ok (.iload_n 1, 1) := by decide +kernel
theorem dX4_changeSlowness_26 : decode cX4_changeSlowness 26 = .ok (.invokestatic 156, 3) := by decide +kernel
theorem dX4_changeSlowness_29 : decode cX4_changeSlowness 29 = .ok (.istore_n 3, 1) := by decide +kernel
theorem dX4_changeSlowness_30 : decode cX4_changeSlowness 30 = .ok (.aload_n 0, 1) := by decide +kernel
theorem dX4_changeSlowness_31 : decode cX4_changeSlowness 31 = .ok (.getfield 43, 3) := by decide +kernel
theorem dX4_changeSlowness_34 : decode cX4_changeSlowness 34 = .ok (.iload_n 1, 1) := by decide +kernel
theorem dX4_changeSlowness_35 : decode cX4_changeSlowness 35 = .ok (.iload_n 2, 1) := by decide +kernel
theorem dX4_changeSlowness_36 : decode cX4_changeSlowness 36 = .ok (.invokestatic 267, 3) := by decide +kernel
theorem dX4_changeSlowness_39 : decode cX4_changeSlowness 39 = .ok (.iload_n 3, 1) := by decide +kernel
theorem dX4_changeSlowness_40 : decode cX4_changeSlowness 40 = .ok (.ireturn, 1) := by decide +kernel
theorem dX4_changeSetting_0 : decode cX4_changeSetting 0 = .ok (.iload_n 1, 1) := by decide +kernel
theorem dX4_changeSetting_1 : decode cX4_changeSetting 1 = .ok (.iconst 0, 1) := by decide +kernel
theorem dX4_changeSetting_2 : decode cX4_changeSetting 2 = .ok (.iconst 3, 1) := by decide +kernel
theorem dX4_changeSetting_3 : decode cX4_changeSetting 3 = .ok (.invokestatic 83, 3) := by decide +kernel
theorem dX4_changeSetting_6 : decode cX4_changeSetting 6 = .ok (.ifCond .eq 24, 3) := by decide +kernel
theorem dX4_changeSetting_9 : decode cX4_changeSetting 9 = .ok (.iload_n 2, 1) := by decide +kernel
theorem dX4_changeSetting_10 : decode cX4_changeSetting 10 = .ok (.getstatic 271, 3) := by decide +kernel
theorem dX4_changeSetting_13 : decode cX4_changeSetting 13 = .ok (.iload_n 1, 1) := by decide +kernel
theorem dX4_changeSetting_14 : decode cX4_changeSetting 14 = .ok (.invokestatic 156, 3) := by decide +kernel
theorem dX4_changeSetting_17 : decode cX4_changeSetting 17 = .ok (.getstatic 274, 3) := by decide +kernel
theorem dX4_changeSetting_20 : decode cX4_changeSetting 20 = .ok (.iload_n 1, 1) := by decide +kernel
theorem dX4_changeSetting_21 : decode cX4_changeSetting 21 = .ok (.invokestatic 156, 3) := by decide +kernel
theorem dX4_changeSetting_24 : decode cX4_changeSetting 24 = .ok (.invokestatic 83, 3) := by decide +kernel
theorem dX4_changeSetting_27 : decode cX4_changeSetting 27 = .ok (.ifCond .ne 5, 3) := by decide +kernel
theorem dX4_changeSetting_30 : decode cX4_changeSetting 30 = .ok (.iconst (-1), 1) := by decide +kernel
theorem dX4_changeSetting_31 : decode cX4_changeSetting 31 = .ok (.ireturn, 1) := by decide +kernel
theorem dX4_changeSetting_32 : decode cX4_changeSetting 32 = .ok (.aload_n 0, 1) := by decide +kernel
theorem dX4_changeSetting_33 : decode cX4_changeSetting 33 = .ok (.getfield 39, 3) := by decide +kernel
theorem dX4_changeSetting_36 : decode cX4_changeSetting 36 = .ok (.iload_n 1, 1) := by decide +kernel
theorem dX4_changeSetting_37 : decode cX4_changeSetting 37 = .ok (.invokestatic 156, 3) := by decide +kernel
theorem dX4_changeSetting_40 : decode cX4_changeSetting 40 = .ok (.istore_n 3, 1) := by decide +kernel
theorem dX4_changeSetting_41 : decode cX4_changeSetting 41 = .ok (.aload_n 0, 1) := by decide +kernel
theorem dX4_changeSetting_42 : decode cX4_changeSetting 42 = .ok (.getfield 39, 3) := by decide +kernel
theorem dX4_changeSetting_45 : decode cX4_changeSetting 45 = .ok (.iload_n 1, 1) := by decide +kernel
theorem dX4_changeSetting_46 : decode cX4_changeSetting 46 = .ok (.iload_n 2, 1) := by decide +kernel
theorem dX4_changeSetting_47 : decode cX4_changeSetting 47 = .ok (.invokestatic 267, 3) := by decide +kernel
theorem dX4_changeSetting_50 : decode cX4_changeSetting 50 = .ok (.iload_n 3, 1) := by decide +kernel
theorem dX4_changeSetting_51 : decode cX4_changeSetting 51 = .ok (.ireturn, 1) := by decide +kernel
theorem dX4_valueOfKey_0 : decode cX4_valueOfKey 0 = .ok (.iload_n 1, 1) := by decide +kernel
theorem dX4_valueOfKey_1 : decode cX4_valueOfKey 1 = .ok (.iconst 0, 1) := by decide +kernel
theorem dX4_valueOfKey_2 : decode cX4_valueOfKey 2 = .ok (.bipush 11, 2) := by decide +kernel
theorem dX4_valueOfKey_4 : decode cX4_valueOfKey 4 = .ok (.invokestatic 83, 3) := by decide +kernel
theorem dX4_valueOfKey_7 : decode cX4_valueOfKey 7 = .ok (.ifCond .ne 5, 3) := by decide +kernel
theorem dX4_valueOfKey_10 : decode cX4_valueOfKey 10 = .ok (.iconst (-1), 1) := by decide +kernel
theorem dX4_valueOfKey_11 : decode cX4_valueOfKey 11 = .ok (.ireturn, 1) := by decide +kernel
theorem dX4_valueOfKey_12 : decode cX4_valueOfKey 12 = .ok (.aload_n 0, 1) := by decide +kernel
theorem dX4_valueOfKey_13 : decode cX4_valueOfKey 13 = .ok (.getfield 12, 3) := by decide +kernel
theorem dX4_valueOfKey_16 : decode cX4_valueOfKey 16 = .ok (.iload_n 1, 1) := by decide +kernel
theorem dX4_valueOfKey_17 : decode cX4_valueOfKey 17 = .ok (.invokevirtual 146, 3) := by decide +kernel
theorem dX4_valueOfKey_20 : decode cX4_valueOfKey 20 = .ok (.istore_n 2, 1) := by decide +kernel
theorem dX4_valueOfKey_21 : decode cX4_valueOfKey 21 = .ok (.iload_n 2, 1) := by decide +kernel
theorem dX4_valueOfKey_22 : decode cX4_valueOfKey 22 = .ok (.iconst (-1), 1) := by decide +kernel
theorem dX4_valueOfKey_23 : decode cX4_valueOfKey 23 = .ok (.if_icmp .ne 8, 3) := by decide +kernel
theorem dX4_valueOfKey_26 : decode cX4_valueOfKey 26 = .ok (.bipush (-4), 2) := by decide +kernel
theorem dX4_valueOfKey_28 : decode cX4_valueOfKey 28 = .ok (.goto 11, 3) := by decide +kernel
theorem dX4_valueOfKey_31 : decode cX4_valueOfKey 31 = .ok (.aload_n 0, 1) := by decide +kernel
theorem dX4_valueOfKey_32 : decode cX4_valueOfKey 32 = .ok (.getfield 12, 3) := by decide +kernel
theorem dX4_valueOfKey_35 : decode cX4_valueOfKey 35 = .ok (.iload_n 2, 1) := by decide +kernel
theorem dX4_valueOfKey_36 : decode cX4_valueOfKey 36 = .ok (.invokevirtual 257, 3) := by decide +kernel
theorem dX4_valueOfKey_39 : decode cX4_valueOfKey 39 = .ok (.ireturn, 1) := by decide +kernel
theorem dX4_placeFact_0 : decode cX4_placeFact 0 = .ok (.iload_n 1, 1) := by decide +kernel
theorem dX4_placeFact_1 : decode cX4_placeFact 1 = .ok (.iconst 0, 1) := by decide +kernel
theorem dX4_placeFact_2 : decode cX4_placeFact 2 = .ok (.bipush 11, 2) := by decide +kernel
theorem dX4_placeFact_4 : decode cX4_placeFact 4 = .ok (.invokestatic 83, 3) := by decide +kernel
theorem dX4_placeFact_7 : decode cX4_placeFact 7 = .ok (.ifCond .eq 12, 3) := by decide +kernel
theorem dX4_placeFact_10 : decode cX4_placeFact 10 = .ok (.iload_n 2, 1) := by decide +kernel
theorem dX4_placeFact_11 : decode cX4_placeFact 11 = .ok (.iconst 0, 1) := by decide +kernel
theorem dX4_placeFact_12 : decode cX4_placeFact 12 = .ok (.iconst 2, 1) := by decide +kernel
theorem dX4_placeFact_13 : decode cX4_placeFact 13 = .ok (.invokestatic 83, 3) := by decide +kernel
theorem dX4_placeFact_16 : decode cX4_placeFact 16 = .ok (.ifCond .ne 5, 3) := by decide +kernel
theorem dX4_placeFact_19 : decode cX4_placeFact 19 = .ok (.iconst (-1), 1) := by decide +kernel
theorem dX4_placeFact_20 : decode cX4_placeFact 20 = .ok (.ireturn, 1) := by decide +kernel
theorem dX4_placeFact_21 : decode cX4_placeFact 21 = .ok (.aload_n 0, 1) := by decide +kernel
theorem dX4_placeFact_22 : decode cX4_placeFact 22 = .ok (.getfield 12, 3) := by decide +kernel
theorem dX4_placeFact_25 : decode cX4_placeFact 25 = .ok (.iload_n 1, 1) := by decide +kernel
theorem dX4_placeFact_26 : decode cX4_placeFact 26 = .ok (.invokevirtual 146, 3) := by decide +kernel
theorem dX4_placeFact_29 : decode cX4_placeFact 29 = .ok (.istore_n 3, 1) := by decide +kernel
theorem dX4_placeFact_30 : decode cX4_placeFact 30 = .ok (.iload_n 3, 1) := by decide +kernel
theorem dX4_placeFact_31 : decode cX4_placeFact 31 = .ok (.iconst (-1), 1) := by decide +kernel
theorem dX4_placeFact_32 : decode cX4_placeFact 32 = .ok (.if_icmp .ne 6, 3) := by decide +kernel
theorem dX4_placeFact_35 : decode cX4_placeFact 35 = .ok (.bipush (-4), 2) := by decide +kernel
theorem dX4_placeFact_37 : decode cX4_placeFact 37 = .ok (.ireturn, 1) := by decide +kernel
theorem dX4_placeFact_38 : decode cX4_placeFact 38 = .ok (.iload_n 2, 1) := by decide +kernel
theorem dX4_placeFact_39 : decode cX4_placeFact 39 = .ok (.ifCond .ne 8, 3) := by decide +kernel
theorem dX4_placeFact_42 : decode cX4_placeFact 42 = .ok (.iload_n 3, 1) := by decide +kernel
theorem dX4_placeFact_43 : decode cX4_placeFact 43 = .ok (.bipush 24, 2) := by decide +kernel
theorem dX4_placeFact_45 : decode cX4_placeFact 45 = .ok (.idiv, 1) := by decide +kernel
theorem dX4_placeFact_46 : decode cX4_placeFact 46 = .ok (.ireturn, 1) := by decide +kernel
theorem dX4_placeFact_47 : decode cX4_placeFact 47 = .ok (.iload_n 2, 1) := by decide +kernel
theorem dX4_placeFact_48 : decode cX4_placeFact 48 = .ok (.iconst 1, 1) := by decide +kernel
theorem dX4_placeFact_49 : decode cX4_placeFact 49 = .ok (.if_icmp .ne 10, 3) := by decide +kernel
theorem dX4_placeFact_52 : decode cX4_placeFact 52 = .ok (.iload_n 3, 1) := by decide +kernel
theorem dX4_placeFact_53 : decode cX4_placeFact 53 = .ok (.bipush 24, 2) := by decide +kernel
theorem dX4_placeFact_55 : decode cX4_placeFact 55 = .ok (.irem, 1) := by decide +kernel
theorem dX4_placeFact_56 : decode cX4_placeFact 56 = .ok (.goto 11, 3) := by decide +kernel
theorem dX4_placeFact_59 : decode cX4_placeFact 59 = .ok (.aload_n 0, 1) := by decide +kernel
theorem dX4_placeFact_60 : decode cX4_placeFact 60 = .ok (.getfield 12, 3) := by decide +kernel
theorem dX4_placeFact_63 : decode cX4_placeFact 63 = .ok (.iload_n 3, 1) := by decide +kernel
theorem dX4_placeFact_64 : decode cX4_placeFact 64 = .ok (.invokevirtual 149, 3) := by decide +kernel
theorem dX4_placeFact_67 : decode cX4_placeFact 67 = .ok (.ireturn, 1) := by decide +kernel
theorem dX4_pageFact_0 : decode cX4_pageFact 0 = .ok (.iload_n 1, 1) := by decide +kernel
theorem dX4_pageFact_1 : decode cX4_pageFact 1 = .ok (.iconst 0, 1) := by decide +kernel
theorem dX4_pageFact_2 : decode cX4_pageFact 2 = .ok (.iconst 1, 1) := by decide +kernel
theorem dX4_pageFact_3 : decode cX4_pageFact 3 = .ok (.invokestatic 83, 3) := by decide +kernel
theorem dX4_pageFact_6 : decode cX4_pageFact 6 = .ok (.ifCond .eq 22, 3) := by decide +kernel
theorem dX4_pageFact_9 : decode cX4_pageFact 9 = .ok (.iload_n 2, 1) := by decide +kernel
theorem dX4_pageFact_10 : decode cX4_pageFact 10 = .ok (.iconst 0, 1) := by decide +kernel
theorem dX4_pageFact_11 : decode cX4_pageFact 11 = .ok (.bipush 15, 2) := by decide +kernel
theorem dX4_pageFact_13 : decode cX4_pageFact 13 = .ok (.invokestatic 83, 3) := by decide +kernel
theorem dX4_pageFact_16 : decode cX4_pageFact 16 = .ok (.ifCond .eq 12, 3) := by decide +kernel
theorem dX4_pageFact_19 : decode cX4_pageFact 19 = .ok (.iload_n 3, 1) := by decide +kernel
theorem dX4_pageFact_20 : decode cX4_pageFact 20 = .ok (.iconst 0, 1) := by decide +kernel
theorem dX4_pageFact_21 : decode cX4_pageFact 21 = .ok (.iconst 5, 1) := by decide +kernel
theorem dX4_pageFact_22 : decode cX4_pageFact 22 = .ok (.invokestatic 83, 3) := by decide +kernel
theorem dX4_pageFact_25 : decode cX4_pageFact 25 = .ok (.ifCond .ne 5, 3) := by decide +kernel
theorem dX4_pageFact_28 : decode cX4_pageFact 28 = .ok (.iconst (-1), 1) := by decide +kernel
theorem dX4_pageFact_29 : decode cX4_pageFact 29 = .ok (.ireturn, 1) := by decide +kernel
theorem dX4_pageFact_30 : decode cX4_pageFact 30 = .ok (.iload_n 1, 1) := by decide +kernel
theorem dX4_pageFact_31 : decode cX4_pageFact 31 = .ok (.iload_n 2, 1) := by decide +kernel
theorem dX4_pageFact_32 : decode cX4_pageFact 32 = .ok (.invokestatic 168, 3) := by decide +kernel
theorem dX4_pageFact_35 : decode cX4_pageFact 35 = .ok (.istore 4, 2) := by decide +kernel
theorem dX4_pageFact_37 : decode cX4_pageFact 37 = .ok (.iload_n 3, 1) := by decide +kernel
theorem dX4_pageFact_38 : decode cX4_pageFact 38 = .ok (.ifCond .ne 13, 3) := by decide +kernel
theorem dX4_pageFact_41 : decode cX4_pageFact 41 = .ok (.aload_n 0, 1) := by decide +kernel
theorem dX4_pageFact_42 : decode cX4_pageFact 42 = .ok (.getfield 12, 3) := by decide +kernel
theorem dX4_pageFact_45 : decode cX4_pageFact 45 = .ok (.iload 4, 2) := by decide +kernel
theorem dX4_pageFact_47 : decode cX4_pageFact 47 = .ok (.invokevirtual 198, 3) := by decide +kernel
theorem dX4_pageFact_50 : decode cX4_pageFact 50 = .ok (.ireturn, 1) := by decide +kernel
theorem dX4_pageFact_51 : decode cX4_pageFact 51 = .ok (.iload_n 3, 1) := by decide +kernel
theorem dX4_pageFact_52 : decode cX4_pageFact 52 = .ok (.iconst 4, 1) := by decide +kernel
theorem dX4_pageFact_53 : decode cX4_pageFact 53 = .ok (.if_icmp .ne 11, 3) := by decide +kernel
theorem dX4_pageFact_56 : decode cX4_pageFact 56 = .ok (.getstatic 153, 3) := by decide +kernel
theorem dX4_pageFact_59 : decode cX4_pageFact 59 = .ok (.iload_n 2, 1) := by decide +kernel
theorem dX4_pageFact_60 : decode cX4_pageFact 60 = .ok (.invokestatic 156, 3) := by decide +kernel
theorem dX4_pageFact_63 : decode cX4_pageFact 63 = .ok (.ireturn, 1) := by decide +kernel
theorem dX4_pageFact_64 : decode cX4_pageFact 64 = .ok (.iload_n 3, 1) := by decide +kernel
theorem dX4_pageFact_65 : decode cX4_pageFact 65 = .ok (.iconst 5, 1) := by decide +kernel
theorem dX4_pageFact_66 : decode cX4_pageFact 66 = .ok (.if_icmp .ne 11, 3) := by decide +kernel
theorem dX4_pageFact_69 : decode cX4_pageFact 69 = .ok (.getstatic 160, 3) := by decide +kernel
theorem dX4_pageFact_72 : decode cX4_pageFact 72 = .ok (.iload_n 2, 1) := by decide +kernel
theorem dX4_pageFact_73 : decode cX4_pageFact 73 = .ok (.invokestatic 156, 3) := by decide +kernel
theorem dX4_pageFact_76 : decode cX4_pageFact 76 = .ok (.ireturn, 1) := by decide +kernel
theorem dX4_pageFact_77 : decode cX4_pageFact 77 = .ok (.aload_n 0, 1) := by decide +kernel
theorem dX4_pageFact_78 : decode cX4_pageFact 78 = .ok (.getfield 12, 3) := by decide +kernel
theorem dX4_pageFact_81 : decode cX4_pageFact 81 = .ok (.iload 4, 2) := by decide +kernel
theorem dX4_pageFact_83 : decode cX4_pageFact 83 = .ok (.invokevirtual 198, 3) := by decide +kernel
theorem dX4_pageFact_86 : decode cX4_pageFact 86 = .ok (.iconst 2, 1) := by decide +kernel
theorem dX4_pageFact_87 : decode cX4_pageFact 87 = .ok (.if_icmp .ne 16, 3) := by decide +kernel
theorem dX4_pageFact_90 : decode cX4_pageFact 90 = .ok (.aload_n 0, 1) := by decide +kernel
theorem dX4_pageFact_91 : decode cX4_pageFact 91 = .ok (.getfield 12, 3) := by decide +kernel
theorem dX4_pageFact_94 : decode cX4_pageFact 94 = .ok (.iload 4, 2) := by decide +kernel
theorem dX4_pageFact_96 : decode cX4_pageFact 96 = .ok (.iload_n 3, 1) := by decide +kernel
theorem dX4_pageFact_97 : decode cX4_pageFact 97 = .ok (.invokevirtual 277, 3) := by decide +kernel
theorem dX4_pageFact_100 : decode cX4_pageFact 100 = .ok (.goto 5, 3) := by decide +kernel
theorem dX4_pageFact_103 : decode cX4_pageFact 103 = .ok (.bipush (-4), 2) := by decide +kernel
theorem dX4_pageFact_105 : decode cX4_pageFact 105 = .ok (.ireturn, 1) := by decide +kernel
theorem dX4_backupFact_0 : decode cX4_backupFact 0 = .ok (.iload_n 1, 1) := by decide +kernel
theorem dX4_backupFact_1 : decode cX4_backupFact 1 = .ok (.iconst 0, 1) := by decide +kernel
theorem dX4_backupFact_2 : decode cX4_backupFact 2 = .ok (.iconst 1, 1) := by decide +kernel
theorem dX4_backupFact_3 : decode cX4_backupFact 3 = .ok (.invokestatic 83, 3) := by decide +kernel
theorem dX4_backupFact_6 : decode cX4_backupFact 6 = .ok (.ifCond .eq 22, 3) := by decide +kernel
theorem dX4_backupFact_9 : decode cX4_backupFact 9 = .ok (.iload_n 2, 1) := by decide +kernel
theorem dX4_backupFact_10 : decode cX4_backupFact 10 = .ok (.iconst 0, 1) := by decide +kernel
theorem dX4_backupFact_11 : decode cX4_backupFact 11 = .ok (.bipush 7, 2) := by decide +kernel
theorem dX4_backupFact_13 : decode cX4_backupFact 13 = .ok (.invokestatic 83, 3) := by decide +kernel
theorem dX4_backupFact_16 : decode cX4_backupFact 16 = .ok (.ifCond .eq 12, 3) := by decide +kernel
theorem dX4_backupFact_19 : decode cX4_backupFact 19 = .ok (.iload_n 3, 1) := by decide +kernel
theorem dX4_backupFact_20 : decode cX4_backupFact 20 = .ok (.iconst 0, 1) := by decide +kernel
theorem dX4_backupFact_21 : decode cX4_backupFact 21 = .ok (.iconst 3, 1) := by decide +kernel
theorem dX4_backupFact_22 : decode cX4_backupFact 22 = .ok (.invokestatic 83, 3) := by decide +kernel
theorem dX4_backupFact_25 : decode cX4_backupFact 25 = .ok (.ifCond .ne 5, 3) := by decide +kernel
theorem dX4_backupFact_28 : decode cX4_backupFact 28 = .ok (.iconst (-1), 1) := by decide +kernel
theorem dX4_backupFact_29 : decode cX4_backupFact 29 = .ok (.ireturn, 1) := by decide +kernel
theorem dX4_backupFact_30 : decode cX4_backupFact 30 = .ok (.iload_n 1, 1) := by decide +kernel
theorem dX4_backupFact_31 : decode cX4_backupFact 31 = .ok (.bipush 16, 2) := by decide +kernel
theorem dX4_backupFact_33 : decode cX4_backupFact 33 = .ok (.iload_n 2, 1) := by decide +kernel
theorem dX4_backupFact_34 : decode cX4_backupFact 34 = .ok (.iadd, 1) := by decide +kernel
theorem dX4_backupFact_35 : decode cX4_backupFact 35 = .ok (.invokestatic 168, 3) := by decide +kernel
theorem dX4_backupFact_38 : decode cX4_backupFact 38 = .ok (.istore 4, 2) := by decide +kernel
theorem dX4_backupFact_40 : decode cX4_backupFact 40 = .ok (.aload_n 0, 1) := by decide +kernel
theorem dX4_backupFact_41 : decode cX4_backupFact 41 = .ok (.getfield 12, 3) := by decide +kernel
theorem dX4_backupFact_44 : decode cX4_backupFact 44 = .ok (.iload 4, 2) := by decide +kernel
theorem dX4_backupFact_46 : decode cX4_backupFact 46 = .ok (.invokevirtual 198, 3) := by decide +kernel
theorem dX4_backupFact_49 : decode cX4_backupFact 49 = .ok (.ifCond .ne 6, 3) := by decide +kernel
theorem dX4_backupFact_52 : decode cX4_backupFact 52 = .ok (.bipush (-4), 2) := by decide +kernel
theorem dX4_backupFact_54 : decode cX4_backupFact 54 = .ok (.ireturn, 1) := by decide +kernel
theorem dX4_backupFact_55 : decode cX4_backupFact 55 = .ok (.iload_n 3, 1) := by decide +kernel
theorem dX4_backupFact_56 : decode cX4_backupFact 56 = .ok (.ifCond .ne 22, 3) := by decide +kernel
theorem dX4_backupFact_59 : decode cX4_backupFact 59 = .ok (.aload_n 0, 1) := by decide +kernel
theorem dX4_backupFact_60 : decode cX4_backupFact 60 = .ok (.getfield 12, 3) := by decide +kernel
theorem dX4_backupFact_63 : decode cX4_backupFact 63 = .ok (.iload 4, 2) := by decide +kernel
theorem dX4_backupFact_65 : decode cX4_backupFact 65 = .ok (.invokevirtual 198, 3) := by decide +kernel
theorem dX4_backupFact_68 : decode cX4_backupFact 68 = .ok (.iconst 2, 1) := by decide +kernel
theorem dX4_backupFact_69 : decode cX4_backupFact 69 = .ok (.if_icmp .ne 7, 3) := by decide +kernel
theorem dX4_backupFact_72 : decode cX4_backupFact 72 = .ok (.iconst 1, 1) := by decide +kernel
theorem dX4_backupFact_73 : decode cX4_backupFact 73 = .ok (.goto 4, 3) := by decide +kernel
theorem dX4_backupFact_76 : decode cX4_backupFact 76 = .ok (.iconst 0, 1) := by decide +kernel
theorem dX4_backupFact_77 : decode cX4_backupFact 77 = .ok (.ireturn, 1) := by decide +kernel
theorem dX4_backupFact_78 : decode cX4_backupFact 78 = .ok (.aload_n 0, 1) := by decide +kernel
theorem dX4_backupFact_79 : decode cX4_backupFact 79 = .ok (.getfield 12, 3) := by decide +kernel
theorem dX4_backupFact_82 : decode cX4_backupFact 82 = .ok (.iload 4, 2) := by decide +kernel
theorem dX4_backupFact_84 : decode cX4_backupFact 84 = .ok (.iload_n 3, 1) := by decide +kernel
theorem dX4_backupFact_85 : decode cX4_backupFact 85 = .ok (.invokevirtual 277, 3) := by decide +kernel
theorem dX4_backupFact_88 : decode cX4_backupFact 88 = .ok (.ireturn, 1) := by decide +kernel
theorem dX4_requestFact_0 : decode cX4_requestFact 0 = .ok (.iload_n 1, 1) := by decide +kernel
theorem dX4_requestFact_1 : decode cX4_requestFact 1 = .ok (.ifCond .lt 12, 3) := by decide +kernel
theorem dX4_requestFact_4 : decode cX4_requestFact 4 = .ok (.iload_n 2, 1) := by decide +kernel
theorem dX4_requestFact_5 : decode cX4_requestFact 5 = .ok (.iconst 0, 1) := by decide +kernel
theorem dX4_requestFact_6 : decode cX4_requestFact 6 = .ok (.iconst 2, 1) := by decide +kernel
theorem dX4_requestFact_7 : decode cX4_requestFact 7 = .ok (.invokestatic 83, 3) := by decide +kernel
theorem dX4_requestFact_10 : decode cX4_requestFact 10 = .ok (.ifCond .ne 5, 3) := by decide +kernel
theorem dX4_requestFact_13 : decode cX4_requestFact 13 = .ok (.iconst (-1), 1) := by decide +kernel
theorem dX4_requestFact_14 : decode cX4_requestFact 14 = .ok (.ireturn, 1) := by decide +kernel
theorem dX4_requestFact_15 : decode cX4_requestFact 15 = .ok (.iload_n 1, 1) := by decide +kernel
theorem dX4_requestFact_16 : decode cX4_requestFact 16 = .ok (.aload_n 0, 1) := by decide +kernel
theorem dX4_requestFact_17 : decode cX4_requestFact 17 = .ok (.getfield 21, 3) := by decide +kernel
theorem dX4_requestFact_20 : decode cX4_requestFact 20 = .ok (.invokevirtual 87, 3) := by decide +kernel
theorem dX4_requestFact_23 : decode cX4_requestFact 23 = .ok (.if_icmp .lt 6, 3) := by decide +kernel
theorem dX4_requestFact_26 : decode cX4_requestFact 26 = .ok (.bipush (-4), 2) := by decide +kernel
theorem dX4_requestFact_28 : decode cX4_requestFact 28 = .ok (.ireturn, 1) := by decide +kernel
theorem dX4_requestFact_29 : decode cX4_requestFact 29 = .ok (.iload_n 2, 1) := by decide +kernel
theorem dX4_requestFact_30 : decode cX4_requestFact 30 = .ok (.ifCond .ne 12, 3) := by decide +kernel
theorem dX4_requestFact_33 : decode cX4_requestFact 33 = .ok (.aload_n 0, 1) := by decide +kernel
theorem dX4_requestFact_34 : decode cX4_requestFact 34 = .ok (.getfield 21, 3) := by decide +kernel
theorem dX4_requestFact_37 : decode cX4_requestFact 37 = .ok (.iload_n 1, 1) := by decide +kernel
theorem dX4_requestFact_38 : decode cX4_requestFact 38 = .ok (.invokevirtual 143, 3) := by decide +kernel
theorem dX4_requestFact_41 : decode cX4_requestFact 41 = .ok (.ireturn, 1) := by decide +kernel
theorem dX4_requestFact_42 : decode cX4_requestFact 42 = .ok (.iload_n 2, 1) := by decide +kernel
theorem dX4_requestFact_43 : decode cX4_requestFact 43 = .ok (.iconst 1, 1) := by decide +kernel
theorem dX4_requestFact_44 : decode cX4_requestFact 44 = .ok (.if_icmp .ne 14, 3) := by decide +kernel
theorem dX4_requestFact_47 : decode cX4_requestFact 47 = .ok (.aload_n 0, 1) := by decide +kernel
theorem dX4_requestFact_48 : decode cX4_requestFact 48 = .ok (.getfield 21, 3) := by decide +kernel
theorem dX4_requestFact_51 : decode cX4_requestFact 51 = .ok (.iload_n 1, 1) := by decide +kernel
theorem dX4_requestFact_52 : decode cX4_requestFact 52 = .ok (.invokevirtual 192, 3) := by decide +kernel
theorem dX4_requestFact_55 : decode cX4_requestFact 55 = .ok (.goto 11, 3) := by decide +kernel
theorem dX4_requestFact_58 : decode cX4_requestFact 58 = .ok (.aload_n 0, 1) := by decide +kernel
theorem dX4_requestFact_59 : decode cX4_requestFact 59 = .ok (.getfield 21, 3) := by decide +kernel
theorem dX4_requestFact_62 : decode cX4_requestFact 62 = .ok (.iload_n 1, 1) := by decide +kernel
theorem dX4_requestFact_63 : decode cX4_requestFact 63 = .ok (.invokevirtual 139, 3) := by decide +kernel
theorem dX4_requestFact_66 : decode cX4_requestFact 66 = .ok (.ireturn, 1) := by decide +kernel
theorem dX4_numberOf_0 : decode cX4_numberOf 0 = .ok (.iload_n 1, 1) := by decide +kernel
theorem dX4_numberOf_1 : decode cX4_numberOf 1 = .ok (.tableswitch 231 0 15 #[79, 87, 100, 105, 110, 118, 134, 157, 165, 173, 181, 189, 197, 206, 215, 223], 79) := by decide +kernel
theorem dX4_numberOf_80 : decode cX4_numberOf 80 = .ok (.aload_n 0, 1) := by decide +kernel
theorem dX4_numberOf_81 : decode cX4_numberOf 81 = .ok (.getfield 35, 3) := by decide +kernel
theorem dX4_numberOf_84 : decode cX4_numberOf 84 = .ok (.getfield 95, 3) := by decide +kernel
theorem dX4_numberOf_87 : decode cX4_numberOf 87 = .ok (.ireturn, 1) := by decide +kernel
theorem dX4_numberOf_88 : decode cX4_numberOf 88 = .ok (.aload_n 0, 1) := by decide +kernel
theorem dX4_numberOf_89 : decode cX4_numberOf 89 = .ok (.getfield 52, 3) := by decide +kernel
theorem dX4_numberOf_92 : decode cX4_numberOf 92 = .ok (.ifCond .eq 7, 3) := by decide +kernel
theorem dX4_numberOf_95 : decode cX4_numberOf 95 = .ok (.iconst 1, 1) := by decide +kernel
theorem dX4_numberOf_96 : decode cX4_numberOf 96 = .ok (.goto 4, 3) := by decide +kernel
theorem dX4_numberOf_99 : decode cX4_numberOf 99 = .ok (.iconst 0, 1) := by decide +kernel
theorem dX4_numberOf_100 : decode cX4_numberOf 100 = .ok (.ireturn, 1) := by decide +kernel
theorem dX4_numberOf_101 : decode cX4_numberOf 101 = .ok (.aload_n 0, 1) := by decide +kernel
theorem dX4_numberOf_102 : decode cX4_numberOf 102 = .ok (.getfield 76, 3) := by decide +kernel
theorem dX4_numberOf_105 : decode cX4_numberOf 105 = .ok (.ireturn, 1) := by decide +kernel
theorem dX4_numberOf_106 : decode cX4_numberOf 106 = .ok (.aload_n 0, 1) := by decide +kernel
theorem dX4_numberOf_107 : decode cX4_numberOf 107 = .ok (.getfield 80, 3) := by decide +kernel
theorem dX4_numberOf_110 : decode cX4_numberOf 110 = .ok (.ireturn, 1) := by decide +kernel
theorem dX4_numberOf_111 : decode cX4_numberOf 111 = .ok (.aload_n 0, 1) := by decide +kernel
theorem dX4_numberOf_112 : decode cX4_numberOf 112 = .ok (.getfield 21, 3) := by decide +kernel
theorem dX4_numberOf_115 : decode cX4_numberOf 115 = .ok (.invokevirtual 87, 3) := by decide +kernel
theorem dX4_numberOf_118 : decode cX4_numberOf 118 = .ok (.ireturn, 1) := by decide +kernel
theorem dX4_numberOf_119 : decode cX4_numberOf 119 = .ok (.aload_n 0, 1) := by decide +kernel
theorem dX4_numberOf_120 : decode cX4_numberOf 120 = .ok (.getfield 28, 3) := by decide +kernel
theorem dX4_numberOf_123 : decode cX4_numberOf 123 = .ok (.getfield 105, 3) := by decide +kernel
theorem dX4_numberOf_126 : decode cX4_numberOf 126 = .ok (.ifCond .eq 7, 3) := by decide +kernel
theorem dX4_numberOf_129 : decode cX4_numberOf 129 = .ok (.iconst 1, 1) := by decide +kernel
theorem dX4_numberOf_130 : decode cX4_numberOf 130 = .ok (.goto 4, 3) := by decide +kernel
theorem dX4_numberOf_133 : decode cX4_numberOf 133 = .ok (.iconst 0, 1) := by decide +kernel
theorem dX4_numberOf_134 : decode cX4_numberOf 134 = .ok (.ireturn, 1) := by decide +kernel
theorem dX4_numberOf_135 : decode cX4_numberOf 135 = .ok (.aload_n 0, 1) := by decide +kernel
theorem dX4_numberOf_136 : decode cX4_numberOf 136 = .ok (.getfield 28, 3) := by decide +kernel
theorem dX4_numberOf_139 : decode cX4_numberOf 139 = .ok (.getfield 105, 3) := by decide +kernel
theorem dX4_numberOf_142 : decode cX4_numberOf 142 = .ok (.ifCond .eq 13, 3) := by decide +kernel
theorem dX4_numberOf_145 : decode cX4_numberOf 145 = .ok (.aload_n 0, 1) := by decide +kernel
theorem dX4_numberOf_146 : decode cX4_numberOf 146 = .ok (.getfield 28, 3) := by decide +kernel
theorem dX4_numberOf_149 : decode cX4_numberOf 149 = .ok (.getfield 111, 3) := by decide +kernel
theorem dX4_numberOf_152 : decode cX4_numberOf 152 = .ok (.goto 5, 3) := by decide +kernel
theorem dX4_numberOf_155 : decode cX4_numberOf 155 = .ok (.bipush (-4), 2) := by decide +kernel
theorem dX4_numberOf_157 : decode cX4_numberOf 157 = .ok (.ireturn, 1) := by decide +kernel
theorem dX4_numberOf_158 : decode cX4_numberOf 158 = .ok (.aload_n 0, 1) := by decide +kernel
theorem dX4_numberOf_159 : decode cX4_numberOf 159 = .ok (.getfield 35, 3) := by decide +kernel
theorem dX4_numberOf_162 : decode cX4_numberOf 162 = .ok (.getfield 98, 3) := by decide +kernel
theorem dX4_numberOf_165 : decode cX4_numberOf 165 = .ok (.ireturn, 1) := by decide +kernel
theorem dX4_numberOf_166 : decode cX4_numberOf 166 = .ok (.aload_n 0, 1) := by decide +kernel
theorem dX4_numberOf_167 : decode cX4_numberOf 167 = .ok (.getfield 35, 3) := by decide +kernel
theorem dX4_numberOf_170 : decode cX4_numberOf 170 = .ok (.getfield 234, 3) := by decide +kernel
theorem dX4_numberOf_173 : decode cX4_numberOf 173 = .ok (.ireturn, 1) := by decide +kernel
theorem dX4_numberOf_174 : decode cX4_numberOf 174 = .ok (.aload_n 0, 1) := by decide +kernel
theorem dX4_numberOf_175 : decode cX4_numberOf 175 = .ok (.getfield 35, 3) := by decide +kernel
theorem dX4_numberOf_178 : decode cX4_numberOf 178 = .ok (.getfield 243, 3) := by decide +kernel
theorem dX4_numberOf_181 : decode cX4_numberOf 181 = .ok (.ireturn, 1) := by decide +kernel
theorem dX4_numberOf_182 : decode cX4_numberOf 182 = .ok (.aload_n 0, 1) := by decide +kernel
theorem dX4_numberOf_183 : decode cX4_numberOf 183 = .ok (.getfield 12, 3) := by decide +kernel
theorem dX4_numberOf_186 : decode cX4_numberOf 186 = .ok (.invokevirtual 280, 3) := by decide +kernel
theorem dX4_numberOf_189 : decode cX4_numberOf 189 = .ok (.ireturn, 1) := by decide +kernel
theorem dX4_numberOf_190 : decode cX4_numberOf 190 = .ok (.aload_n 0, 1) := by decide +kernel
theorem dX4_numberOf_191 : decode cX4_numberOf 191 = .ok (.getfield 12, 3) := by decide +kernel
theorem dX4_numberOf_194 : decode cX4_numberOf 194 = .ok (.invokevirtual 283, 3) := by decide +kernel
theorem dX4_numberOf_197 : decode cX4_numberOf 197 = .ok (.ireturn, 1) := by decide +kernel
theorem dX4_numberOf_198 : decode cX4_numberOf 198 = .ok (.aload_n 0, 1) := by decide +kernel
theorem dX4_numberOf_199 : decode cX4_numberOf 199 = .ok (.getfield 46, 3) := by decide +kernel
theorem dX4_numberOf_202 : decode cX4_numberOf 202 = .ok (.iconst 0, 1) := by decide +kernel
theorem dX4_numberOf_203 : decode cX4_numberOf 203 = .ok (.invokestatic 156, 3) := by decide +kernel
theorem dX4_numberOf_206 : decode cX4_numberOf 206 = .ok (.ireturn, 1) := by decide +kernel
theorem dX4_numberOf_207 : decode cX4_numberOf 207 = .ok (.aload_n 0, 1) := by decide +kernel
theorem dX4_numberOf_208 : decode cX4_numberOf 208 = .ok (.getfield 46, 3) := by decide +kernel
theorem dX4_numberOf_211 : decode cX4_numberOf 211 = .ok (.iconst 1, 1) := by decide +kernel
theorem dX4_numberOf_212 : decode cX4_numberOf 212 = .ok (.invokestatic 156, 3) := by decide +kernel
theorem dX4_numberOf_215 : decode cX4_numberOf 215 = .ok (.ireturn, 1) := by decide +kernel
theorem dX4_numberOf_216 : decode cX4_numberOf 216 = .ok (.aload_n 0, 1) := by decide +kernel
theorem dX4_numberOf_217 : decode cX4_numberOf 217 = .ok (.getfield 35, 3) := by decide +kernel
theorem dX4_numberOf_220 : decode cX4_numberOf 220 = .ok (.getfield 231, 3) := by decide +kernel
theorem dX4_numberOf_223 : decode cX4_numberOf 223 = .ok (.ireturn, 1) := by decide +kernel
theorem dX4_numberOf_224 : decode cX4_numberOf 224 = .ok (.aload_n 0, 1) := by decide +kernel
theorem dX4_numberOf_225 : decode cX4_numberOf 225 = .ok (.getfield 35, 3) := by decide +kernel
theorem dX4_numberOf_228 : decode cX4_numberOf 228 = .ok (.getfield 211, 3) := by decide +kernel
theorem dX4_numberOf_231 : decode cX4_numberOf 231 = .ok (.ireturn, 1) := by decide +kernel
theorem dX4_numberOf_232 : decode cX4_numberOf 232 = .ok (.aload_n 0, 1) := by decide +kernel
theorem dX4_numberOf_233 : decode cX4_numberOf 233 = .ok (.iload_n 1, 1) := by decide +kernel
theorem dX4_numberOf_234 : decode cX4_numberOf 234 = .ok (.invokevirtual 286, 3) := by decide +kernel
theorem dX4_numberOf_237 : decode cX4_numberOf 237 = .ok (.ireturn, 1) := by decide +kernel
theorem dX4_settingOrSlowness_0 : decode cX4_settingOrSlowness 0 = .ok (.iload_n 1, 1) := by decide +kernel
theorem dX4_settingOrSlowness_1 : decode cX4_settingOrSlowness 1 = .ok (.bipush 20, 2) := by decide +kernel
theorem dX4_settingOrSlowness_3 : decode cX4_settingOrSlowness 3 = .ok (.bipush 23, 2) := by decide +kernel
theorem dX4_settingOrSlowness_5 : decode cX4_settingOrSlowness 5 = .ok (.invokestatic 83, 3) := by decide +kernel
theorem dX4_settingOrSlowness_8 : decode cX4_settingOrSlowness 8 = .ok (.ifCond .eq 15, 3) := by decide +kernel
theorem dX4_settingOrSlowness_11 : decode cX4_settingOrSlowness 11 = .ok (.aload_n 0, 1) := by decide +kernel
theorem dX4_settingOrSlowness_12 : decode cX4_settingOrSlowness 12 = .ok (.getfield 39, 3) := by decide +kernel
theorem dX4_settingOrSlowness_15 : decode cX4_settingOrSlowness 15 = .ok (.iload_n 1, 1) := by decide +kernel
theorem dX4_settingOrSlowness_16 : decode cX4_settingOrSlowness 16 = .ok (.bipush 20, 2) := by decide +kernel
theorem dX4_settingOrSlowness_18 : decode cX4_settingOrSlowness 18 = .ok (.isub, 1) := by decide +kernel
theorem dX4_settingOrSlowness_19 : decode cX4_settingOrSlowness 19 = .ok (.invokestatic 156, 3) := by decide +kernel
theorem dX4_settingOrSlowness_22 : decode cX4_settingOrSlowness 22 = .ok (.ireturn, 1) := by decide +kernel
theorem dX4_settingOrSlowness_23 : decode cX4_settingOrSlowness 23 = .ok (.iload_n 1, 1) := by decide +kernel
theorem dX4_settingOrSlowness_24 : decode cX4_settingOrSlowness 24 = .ok (.bipush 30, 2) := by decide +kernel
theorem dX4_settingOrSlowness_26 : decode cX4_settingOrSlowness 26 = .ok (.bipush 37, 2) := by decide +kernel
theorem dX4_settingOrSlowness_28 : decode cX4_settingOrSlowness 28 = .ok (.invokestatic 83, 3) := by decide +kernel
theorem dX4_settingOrSlowness_31 : decode cX4_settingOrSlowness 31 = .ok (.ifCond .eq 15, 3) := by decide +kernel
theorem dX4_settingOrSlowness_34 : decode cX4_settingOrSlowness 34 = .ok (.aload_n 0, 1) := by decide +kernel
theorem dX4_settingOrSlowness_35 : decode cX4_settingOrSlowness 35 = .ok (.getfield 43, 3) := by decide +kernel
theorem dX4_settingOrSlowness_38 : decode cX4_settingOrSlowness 38 = .ok (.iload_n 1, 1) := by decide +kernel
theorem dX4_settingOrSlowness_39 : decode cX4_settingOrSlowness 39 = .ok (.bipush 30, 2) := by decide +kernel
theorem dX4_settingOrSlowness_41 : decode cX4_settingOrSlowness 41 = .ok (.isub, 1) := by decide +kernel
theorem dX4_settingOrSlowness_42 : decode cX4_settingOrSlowness 42 = .ok (.invokestatic 156, 3) := by decide +kernel
theorem dX4_settingOrSlowness_45 : decode cX4_settingOrSlowness 45 = .ok (.ireturn, 1) := by decide +kernel
theorem dX4_settingOrSlowness_46 : decode cX4_settingOrSlowness 46 = .ok (.iconst (-1), 1) := by decide +kernel
theorem dX4_settingOrSlowness_47 : decode cX4_settingOrSlowness 47 = .ok (.ireturn, 1) := by decide +kernel
theorem dX5_init_0 : decode cX5_init 0 = .ok (.aload_n 0, 1) := by decide +kernel
theorem dX5_init_1 : decode cX5_init 1 = .ok (.invokespecial 1, 3) := by decide +kernel
theorem dX5_init_4 : decode cX5_init 4 = .ok (.return_, 1) := by decide +kernel
theorem dX5_copyFrom_0 : decode cX5_copyFrom 0 = .ok (.aload_n 0, 1) := by decide +kernel
theorem dX5_copyFrom_1 : decode cX5_copyFrom 1 = .ok (.aload_n 1, 1) := by decide +kernel
theorem dX5_copyFrom_2 : decode cX5_copyFrom 2 = .ok (.getfield 7, 3) := by decide +kernel
theorem dX5_copyFrom_5 : decode cX5_copyFrom 5 = .ok (.putfield 7, 3) := by decide +kernel
theorem dX5_copyFrom_8 : decode cX5_copyFrom 8 = .ok (.aload_n 0, 1) := by decide +kernel
theorem dX5_copyFrom_9 : decode cX5_copyFrom 9 = .ok (.aload_n 1, 1) := by decide +kernel
theorem dX5_copyFrom_10 : decode cX5_copyFrom 10 = .ok (.getfield 13, 3) := by decide +kernel
theorem dX5_copyFrom_13 : decode cX5_copyFrom 13 = .ok (.putfield 13, 3) := by decide +kernel
theorem dX5_copyFrom_16 : decode cX5_copyFrom 16 = .ok (.aload_n 0, 1) := by decide +kernel
theorem dX5_copyFrom_17 : decode cX5_copyFrom 17 = .ok (.aload_n 1, 1) := by decide +kernel
theorem dX5_copyFrom_18 : decode cX5_copyFrom 18 = .ok (.getfield 16, 3) := by decide +kernel
theorem dX5_copyFrom_21 : decode cX5_copyFrom 21 = .ok (.putfield 16, 3) := by decide +kernel
theorem dX5_copyFrom_24 : decode cX5_copyFrom 24 = .ok (.aload_n 0, 1) := by decide +kernel
theorem dX5_copyFrom_25 : decode cX5_copyFrom 25 = .ok (.aload_n 1, 1) := by decide +kernel
theorem dX5_copyFrom_26 : decode cX5_copyFrom 26 = .ok (.getfield 19, 3) := by decide +kernel
theorem dX5_copyFrom_29 : decode cX5_copyFrom 29 = .ok (.putfield 19, 3) := by decide +kernel
theorem dX5_copyFrom_32 : decode cX5_copyFrom 32 = .ok (.aload_n 0, 1) := by decide +kernel
theorem dX5_copyFrom_33 : decode cX5_copyFrom 33 = .ok (.aload_n 1, 1) := by decide +kernel
theorem dX5_copyFrom_34 : decode cX5_copyFrom 34 = .ok (.getfield 22, 3) := by decide +kernel
theorem dX5_copyFrom_37 : decode cX5_copyFrom 37 = .ok (.putfield 22, 3) := by decide +kernel
theorem dX5_copyFrom_40 : decode cX5_copyFrom 40 = .ok (.aload_n 0, 1) := by decide +kernel
theorem dX5_copyFrom_41 : decode cX5_copyFrom 41 = .ok (.aload_n 1, 1) := by decide +kernel
theorem dX5_copyFrom_42 : decode cX5_copyFrom 42 = .ok (.getfield 25, 3) := by decide +kernel
theorem dX5_copyFrom_45 : decode cX5_copyFrom 45 = .ok (.putfield 25, 3) := by decide +kernel
theorem dX5_copyFrom_48 : decode cX5_copyFrom 48 = .ok (.aload_n 0, 1) := by decide +kernel
theorem dX5_copyFrom_49 : decode cX5_copyFrom 49 = .ok (.aload_n 1, 1) := by decide +kernel
theorem dX5_copyFrom_50 : decode cX5_copyFrom 50 = .ok (.getfield 28, 3) := by decide +kernel
theorem dX5_copyFrom_53 : decode cX5_copyFrom 53 = .ok (.putfield 28, 3) := by decide +kernel
theorem dX5_copyFrom_56 : decode cX5_copyFrom 56 = .ok (.return_, 1) := by decide +kernel
theorem dX6_init_0 : decode cX6_init 0 = .ok (.aload_n 0, 1) := by decide +kernel
theorem dX6_init_1 : decode cX6_init 1 = .ok (.invokespecial 3, 3) := by decide +kernel
theorem dX6_init_4 : decode cX6_init 4 = .ok (.aload_n 0, 1) := by decide +kernel
theorem dX6_init_5 : decode cX6_init 5 = .ok (.bipush 60, 2) := by decide +kernel
theorem dX6_init_7 : decode cX6_init 7 = .ok (.newarray .int, 2) := by decide +kernel
theorem dX6_init_9 : decode cX6_init 9 = .ok (.putfield 9, 3) := by decide +kernel
theorem dX6_init_12 : decode cX6_init 12 = .ok (.return_, 1) := by decide +kernel
theorem dX6_length_0 : decode cX6_length 0 = .ok (.aload_n 0, 1) := by decide +kernel
theorem dX6_length_1 : decode cX6_length 1 = .ok (.getfield 15, 3) := by decide +kernel
theorem dX6_length_4 : decode cX6_length 4 = .ok (.ireturn, 1) := by decide +kernel
theorem dX6_append_0 : decode cX6_append 0 = .ok (.iload_n 1, 1) := by decide +kernel
theorem dX6_append_1 : decode cX6_append 1 = .ok (.bipush 32, 2) := by decide +kernel
theorem dX6_append_3 : decode cX6_append 3 = .ok (.bipush 126, 2) := by decide +kernel
theorem dX6_append_5 : decode cX6_append 5 = .ok (.invokestatic 19, 3) := by decide +kernel
theorem dX6_append_8 : decode cX6_append 8 = .ok (.ifCond .ne 5, 3) := by decide +kernel
theorem dX6_append_11 : decode cX6_append 11 = .ok (.iconst (-1), 1) := by decide +kernel
theorem dX6_append_12 : decode cX6_append 12 = .ok (.ireturn, 1) := by decide +kernel
theorem dX6_append_13 : decode cX6_append 13 = .ok (.aload_n 0, 1) := by decide +kernel
theorem dX6_append_14 : decode cX6_append 14 = .ok (.getfield 15, 3) := by decide +kernel
theorem dX6_append_17 : decode cX6_append 17 = .ok (.bipush 60, 2) := by decide +kernel
theorem dX6_append_19 : decode cX6_append 19 = .ok (.if_icmp .lt 6, 3) := by decide +kernel
theorem dX6_append_22 : decode cX6_append 22 = .ok (.bipush (-3), 2) := by decide +kernel
theorem dX6_append_24 : decode cX6_append 24 = .ok (.ireturn, 1) := by decide +kernel
theorem dX6_append_25 : decode cX6_append 25 = .ok (.aload_n 0, 1) := by decide +kernel
theorem dX6_append_26 : decode cX6_append 26 = .ok (.getfield 9, 3) := by decide +kernel
theorem dX6_append_29 : decode cX6_append 29 = .ok (.aload_n 0, 1) := by decide +kernel
theorem dX6_append_30 : decode cX6_append 30 = .ok (.getfield 15, 3) := by decide +kernel
theorem dX6_append_33 : decode cX6_append 33 = .ok (.iload_n 1, 1) := by decide +kernel
theorem dX6_append_34 : decode cX6_append 34 = .ok (.invokestatic 23, 3) := by decide +kernel
theorem dX6_append_37 : decode cX6_append 37 = .ok (.aload_n 0, 1) := by decide +kernel
theorem dX6_append_38 : decode cX6_append 38 = .ok (.dup, 1) := by decide +kernel
theorem dX6_append_39 : decode cX6_append 39 = .ok (.getfield 15, 3) := by decide +kernel
theorem dX6_append_42 : decode cX6_append 42 = .ok (.iconst 1, 1) := by decide +kernel
theorem dX6_append_43 : decode cX6_append 43 = .ok (.iadd, 1) := by decide +kernel
theorem dX6_append_44 : decode cX6_append 44 = .ok (.putfield 15, 3) := by decide +kernel
theorem dX6_append_47 : decode cX6_append 47 = .ok (.aload_n 0, 1) := by decide +kernel
theorem dX6_append_48 : decode cX6_append 48 = .ok (.getfield 15, 3) := by decide +kernel
theorem dX6_append_51 : decode cX6_append 51 = .ok (.ireturn, 1) := by decide +kernel
theorem dX6_makeEmpty_0 : decode cX6_makeEmpty 0 = .ok (.aload_n 0, 1) := by decide +kernel
theorem dX6_makeEmpty_1 : decode cX6_makeEmpty 1 = .ok (.getfield 15, 3) := by decide +kernel
theorem dX6_makeEmpty_4 : decode cX6_makeEmpty 4 = .ok (.istore_n 1, 1) := by decide +kernel
theorem dX6_makeEmpty_5 : decode cX6_makeEmpty 5 = .ok (.aload_n 0, 1) := by decide +kernel
theorem dX6_makeEmpty_6 : decode cX6_makeEmpty 6 = .ok (.iconst 0, 1) := by decide +kernel
theorem dX6_makeEmpty_7 : decode cX6_makeEmpty 7 = .ok (.putfield 15, 3) := by decide +kernel
theorem dX6_makeEmpty_10 : decode cX6_makeEmpty 10 = .ok (.iload_n 1, 1) := by decide +kernel
theorem dX6_makeEmpty_11 : decode cX6_makeEmpty 11 = .ok (.ireturn, 1) := by decide +kernel
theorem dX6_rewind_0 : decode cX6_rewind 0 = .ok (.aload_n 0, 1) := by decide +kernel
theorem dX6_rewind_1 : decode cX6_rewind 1 = .ok (.iconst 0, 1) := by decide +kernel
theorem dX6_rewind_2 : decode cX6_rewind 2 = .ok (.putfield 27, 3) := by decide +kernel
theorem dX6_rewind_5 : decode cX6_rewind 5 = .ok (.return_, 1) := by decide +kernel
theorem dX6_hasMore_0 : decode cX6_hasMore 0 = .ok (.aload_n 0, 1) := by decide +kernel
theorem dX6_hasMore_1 : decode cX6_hasMore 1 = .ok (.getfield 27, 3) := by decide +kernel
theorem dX6_hasMore_4 : decode cX6_hasMore 4 = .ok (.aload_n 0, 1) := by decide +kernel
theorem dX6_hasMore_5 : decode cX6_hasMore 5 = .ok (.getfield 15, 3) := by decide +kernel
theorem dX6_hasMore_8 : decode cX6_hasMore 8 = .ok (.if_icmp .ge 7, 3) := by decide +kernel
theorem dX6_hasMore_11 : decode cX6_hasMore 11 = .ok (.iconst 1, 1) := by decide +kernel
theorem dX6_hasMore_12 : decode cX6_hasMore 12 = .ok (.goto 4, 3) := by decide +kernel
theorem dX6_hasMore_15 : decode cX6_hasMore 15 = .ok (.iconst 0, 1) := by decide +kernel
theorem dX6_hasMore_16 : decode cX6_hasMore 16 = .ok (.ireturn, 1) := by decide +kernel
theorem dX6_readCommand_0 : decode cX6_readCommand 0 = .ok (.aload_n 0, 1) := by decide +kernel
theorem dX6_readCommand_1 : decode cX6_readCommand 1 = .ok (.aload_n 0, 1) := by decide +kernel
theorem dX6_readCommand_2 : decode cX6_readCommand 2 = .ok (.invokevirtual 30, 3) := by decide +kernel
theorem dX6_readCommand_5 : decode cX6_readCommand 5 = .ok (.putfield 34, 3) := by decide +kernel
theorem dX6_readCommand_8 : decode cX6_readCommand 8 = .ok (.aload_n 0, 1) := by decide +kernel
theorem dX6_readCommand_9 : decode cX6_readCommand 9 = .ok (.dup, 1) := by decide +kernel
theorem dX6_readCommand_10 : decode cX6_readCommand 10 = .ok (.getfield 27, 3) := by decide +kernel
theorem dX6_readCommand_13 : decode cX6_readCommand 13 = .ok (.iconst 1, 1) := by decide +kernel
theorem dX6_readCommand_14 : decode cX6_readCommand 14 = .ok (.iadd, 1) := by decide +kernel
theorem dX6_readCommand_15 : decode cX6_readCommand 15 = .ok (.putfield 27, 3) := by decide +kernel
theorem dX6_readCommand_18 : decode cX6_readCommand 18 = .ok (.aload_n 0, 1) := by decide +kernel
theorem dX6_readCommand_19 : decode cX6_readCommand 19 = .ok (.getfield 34, 3) := by decide +kernel
theorem dX6_readCommand_22 : decode cX6_readCommand 22 = .ok (.invokestatic 37, 3) := by decide +kernel
theorem dX6_readCommand_25 : decode cX6_readCommand 25 = .ok (.istore_n 1, 1) := by decide +kernel
theorem dX6_readCommand_26 : decode cX6_readCommand 26 = .ok (.iload_n 1, 1) := by decide +kernel
theorem dX6_readCommand_27 : decode cX6_readCommand 27 = .ok (.ifCond .ge 5, 3) := by decide +kernel
theorem dX6_readCommand_30 : decode cX6_readCommand 30 = .ok (.iconst 0, 1) := by decide +kernel
theorem dX6_readCommand_31 : decode cX6_readCommand 31 = .ok (.ireturn, 1) := by decide +kernel
theorem dX6_readCommand_32 : decode cX6_readCommand 32 = .ok (.aload_n 0, 1) := by decide +kernel
theorem dX6_readCommand_33 : decode cX6_readCommand 33 = .ok (.iload_n 1, 1) := by decide +kernel
theorem dX6_readCommand_34 : decode cX6_readCommand 34 = .ok (.ifCond .le 10, 3) := by decide +kernel
theorem dX6_readCommand_37 : decode cX6_readCommand 37 = .ok (.aload_n 0, 1) := by decide +kernel
theorem dX6_readCommand_38 : decode cX6_readCommand 38 = .ok (.invokevirtual 41, 3) := by decide +kernel
theorem dX6_readCommand_41 : decode cX6_readCommand 41 = .ok (.goto 4, 3) := by decide +kernel
theorem dX6_readCommand_44 : decode cX6_readCommand 44 = .ok (.iconst 0, 1) := by decide +kernel
theorem dX6_readCommand_45 : decode cX6_readCommand 45 = .ok (.putfield 44, 3) := by decide +kernel
theorem dX6_readCommand_48 : decode cX6_readCommand 48 = .ok (.aload_n 0, 1) := by decide +kernel
theorem dX6_readCommand_49 : decode cX6_readCommand 49 = .ok (.getfield 44, 3) := by decide +kernel
theorem dX6_readCommand_52 : decode cX6_readCommand 52 = .ok (.ifCond .ge 5, 3) := by decide +kernel
theorem dX6_readCommand_55 : decode cX6_readCommand 55 = .ok (.iconst 0, 1) := by decide +kernel
theorem dX6_readCommand_56 : decode cX6_readCommand 56 = .ok (.ireturn, 1) := by decide +kernel
theorem dX6_readCommand_57 : decode cX6_readCommand 57 = .ok (.iload_n 1, 1) := by decide +kernel
theorem dX6_readCommand_58 : decode cX6_readCommand 58 = .ok (.iconst 2, 1) := by decide +kernel
theorem dX6_readCommand_59 : decode cX6_readCommand 59 = .ok (.if_icmp .ne 14, 3) := by decide +kernel
theorem dX6_readCommand_62 : decode cX6_readCommand 62 = .ok (.aload_n 0, 1) := by decide +kernel
theorem dX6_readCommand_63 : decode cX6_readCommand 63 = .ok (.bipush 44, 2) := by decide +kernel
theorem dX6_readCommand_65 : decode cX6_readCommand 65 = .ok (.invokevirtual 47, 3) := by decide +kernel
theorem dX6_readCommand_68 : decode cX6_readCommand 68 = .ok (.ifCond .ne 5, 3) := by decide +kernel
theorem dX6_readCommand_71 : decode cX6_readCommand 71 = .ok (.iconst 0, 1) := by decide +kernel
theorem dX6_readCommand_72 : decode cX6_readCommand 72 = .ok (.ireturn, 1) := by decide +kernel
theorem dX6_readCommand_73 : decode cX6_readCommand 73 = .ok (.aload_n 0, 1) := by decide +kernel
theorem dX6_readCommand_74 : decode cX6_readCommand 74 = .ok (.iload_n 1, 1) := by decide +kernel
theorem dX6_readCommand_75 : decode cX6_readCommand 75 = .ok (.iconst 2, 1) := by decide +kernel
theorem dX6_readCommand_76 : decode cX6_readCommand 76 = .ok (.if_icmp .ne 10, 3) := by decide +kernel
theorem dX6_readCommand_79 : decode cX6_readCommand 79 = .ok (.aload_n 0, 1) := by decide +kernel
theorem dX6_readCommand_80 : decode cX6_readCommand 80 = .ok (.invokevirtual 41, 3) := by decide +kernel
theorem dX6_readCommand_83 : decode cX6_readCommand 83 = .ok (.goto 4, 3) := by decide +kernel
theorem dX6_readCommand_86 : decode cX6_readCommand 86 = .ok (.iconst 0, 1) := by decide +kernel
theorem dX6_readCommand_87 : decode cX6_readCommand 87 = .ok (.putfield 51, 3) := by decide +kernel
theorem dX6_readCommand_90 : decode cX6_readCommand 90 = .ok (.aload_n 0, 1) := by decide +kernel
theorem dX6_readCommand_91 : decode cX6_readCommand 91 = .ok (.getfield 51, 3) := by decide +kernel
theorem dX6_readCommand_94 : decode cX6_readCommand 94 = .ok (.ifCond .lt 16, 3) := by decide +kernel
theorem dX6_readCommand_97 : decode cX6_readCommand 97 = .ok (.aload_n 0, 1) := by decide +kernel
theorem dX6_readCommand_98 : decode cX6_readCommand 98 = .ok (.bipush 59, 2) := by decide +kernel
theorem dX6_readCommand_100 : decode cX6_readCommand 100 = .ok (.invokevirtual 47, 3) := by decide +kernel
theorem dX6_readCommand_103 : decode cX6_readCommand 103 = .ok (.ifCond .eq 7, 3) := by decide +kernel
theorem dX6_readCommand_106 : decode cX6_readCommand 106 = .ok (.iconst 1, 1) := by decide +kernel
theorem dX6_readCommand_107 : decode cX6_readCommand 107 = .ok (.goto 4, 3) := by decide +kernel
theorem dX6_readCommand_110 : decode cX6_readCommand 110 = .ok (.iconst 0, 1) := by decide +kernel
theorem dX6_readCommand_111 : decode cX6_readCommand 111 = .ok (.ireturn, 1) := by decide +kernel
theorem dX6_numbersOf_0 : decode cX6_numbersOf 0 = .ok (.iload_n 0, 1) := by decide +kernel
theorem dX6_numbersOf_1 : decode cX6_numbersOf 1 = .ok (.tableswitch 109 99 120 #[105, 109, 105, 109, 109, 109, 109, 109, 109, 109, 109, 109, 107, 109, 109, 109, 107, 105, 103, 109, 103, 107], 103) := by decide +kernel
theorem dX6_numbersOf_104 : decode cX6_numbersOf 104 = .ok (.iconst 2, 1) := by decide +kernel
theorem dX6_numbersOf_105 : decode cX6_numbersOf 105 = .ok (.ireturn, 1) := by decide +kernel
theorem dX6_numbersOf_106 : decode cX6_numbersOf 106 = .ok (.iconst 1, 1) := by decide +kernel
theorem dX6_numbersOf_107 : decode cX6_numbersOf 107 = .ok (.ireturn, 1) := by decide +kernel
theorem dX6_numbersOf_108 : decode cX6_numbersOf 108 = .ok (.iconst 0, 1) := by decide +kernel
theorem dX6_numbersOf_109 : decode cX6_numbersOf 109 = .ok (.ireturn, 1) := by decide +kernel
theorem dX6_numbersOf_110 : decode cX6_numbersOf 110 = .ok (.iconst (-1), 1) := by decide +kernel
theorem dX6_numbersOf_111 : decode cX6_numbersOf 111 = .ok (.ireturn, 1) := by decide +kernel
theorem dX6_readNumber_0 : decode cX6_readNumber 0 = .ok (.iconst 0, 1) := by decide +kernel
theorem dX6_readNumber_1 : decode cX6_readNumber 1 = .ok (.istore_n 1, 1) := by decide +kernel
theorem dX6_readNumber_2 : decode cX6_readNumber 2 = .ok (.iconst 0, 1) := by decide +kernel
theorem dX6_readNumber_3 : decode cX6_readNumber 3 = .ok (.istore_n 2, 1) := by decide +kernel
theorem dX6_readNumber_4 : decode cX6_readNumber 4 = .ok (.iload_n 2, 1) := by decide +kernel
theorem dX6_readNumber_5 : decode cX6_readNumber 5 = .ok (.iconst 3, 1) := by decide +kernel
theorem dX6_readNumber_6 : decode cX6_readNumber 6 = .ok (.if_icmp .ge 46, 3) := by decide +kernel
theorem dX6_readNumber_9 : decode cX6_readNumber 9 = .ok (.aload_n 0, 1) := by decide +kernel
theorem dX6_readNumber_10 : decode cX6_readNumber 10 = .ok (.invokevirtual 30, 3) := by decide +kernel
theorem dX6_readNumber_13 : decode cX6_readNumber 13 = .ok (.bipush 48, 2) := by decide +kernel
theorem dX6_readNumber_15 : decode cX6_readNumber 15 = .ok (.bipush 57, 2) := by decide +kernel
theorem dX6_readNumber_17 : decode cX6_readNumber 17 = .ok (.invokestatic 19, 3) := by decide +kernel
theorem dX6_readNumber_20 : decode cX6_readNumber 20 = .ok (.ifCond .eq 32, 3) := by decide +kernel
theorem dX6_readNumber_23 : decode cX6_readNumber 23 = .ok (.iload_n 1, 1) := by decide +kernel
theorem dX6_readNumber_24 : decode cX6_readNumber 24 = .ok (.bipush 10, 2) := by decide +kernel
theorem dX6_readNumber_26 : decode cX6_readNumber 26 = .ok (.imul, 1) := by decide +kernel
theorem dX6_readNumber_27 : decode cX6_readNumber 27 = .ok (.aload_n 0, 1) := by decide +kernel
theorem dX6_readNumber_28 : decode cX6_readNumber 28 = .ok (.invokevirtual 30, 3) := by decide +kernel
theorem dX6_readNumber_31 : decode cX6_readNumber 31 = .ok (.bipush 48, 2) := by decide +kernel
theorem dX6_readNumber_33 : decode cX6_readNumber 33 = .ok (.isub, 1) := by decide +kernel
theorem dX6_readNumber_34 : decode cX6_readNumber 34 = .ok (.iadd, 1) := by decide +kernel
theorem dX6_readNumber_35 : decode cX6_readNumber 35 = .ok (.istore_n 1, 1) := by decide +kernel
theorem dX6_readNumber_36 : decode cX6_readNumber 36 = .ok (.iinc 2 1, 3) := by decide +kernel
theorem dX6_readNumber_39 : decode cX6_readNumber 39 = .ok (.aload_n 0, 1) := by decide +kernel
theorem dX6_readNumber_40 : decode cX6_readNumber 40 = .ok (.dup, 1) := by decide +kernel
theorem dX6_readNumber_41 : decode cX6_readNumber 41 = .ok (.getfield 27, 3) := by decide +kernel
theorem dX6_readNumber_44 : decode cX6_readNumber 44 = .ok (.iconst 1, 1) := by decide +kernel
theorem dX6_readNumber_45 : decode cX6_readNumber 45 = .ok (.iadd, 1) := by decide +kernel
theorem dX6_readNumber_46 : decode cX6_readNumber 46 = .ok (.putfield 27, 3) := by decide +kernel
theorem dX6_readNumber_49 : decode cX6_readNumber 49 = .ok (.goto (-45), 3) := by decide +kernel
theorem dX6_readNumber_52 : decode cX6_readNumber 52 = .ok (.iload_n 2, 1) := by decide +kernel
theorem dX6_readNumber_53 : decode cX6_readNumber 53 = .ok (.ifCond .ne 7, 3) := by decide +kernel
theorem dX6_readNumber_56 : decode cX6_readNumber 56 = .ok (.iconst (-1), 1) := by decide +kernel
theorem dX6_readNumber_57 : decode cX6_readNumber 57 = .ok (.goto 4, 3) := by decide +kernel
theorem dX6_readNumber_60 : decode cX6_readNumber 60 = .ok (.iload_n 1, 1) := by decide +kernel
theorem dX6_readNumber_61 : decode cX6_readNumber 61 = .ok (.ireturn, 1) := by decide +kernel
theorem dX6_readSign_0 : decode cX6_readSign 0 = .ok (.aload_n 0, 1) := by decide +kernel
theorem dX6_readSign_1 : decode cX6_readSign 1 = .ok (.invokevirtual 30, 3) := by decide +kernel
theorem dX6_readSign_4 : decode cX6_readSign 4 = .ok (.iload_n 1, 1) := by decide +kernel
theorem dX6_readSign_5 : decode cX6_readSign 5 = .ok (.if_icmp .ne 7, 3) := by decide +kernel
theorem dX6_readSign_8 : decode cX6_readSign 8 = .ok (.iconst 1, 1) := by decide +kernel
theorem dX6_readSign_9 : decode cX6_readSign 9 = .ok (.goto 4, 3) := by decide +kernel
theorem dX6_readSign_12 : decode cX6_readSign 12 = .ok (.iconst 0, 1) := by decide +kernel
theorem dX6_readSign_13 : decode cX6_readSign 13 = .ok (.istore_n 2, 1) := by decide +kernel
theorem dX6_readSign_14 : decode cX6_readSign 14 = .ok (.aload_n 0, 1) := by decide +kernel
theorem dX6_readSign_15 : decode cX6_readSign 15 = .ok (.dup, 1) := by decide +kernel
theorem dX6_readSign_16 : decode cX6_readSign 16 = .ok (.getfield 27, 3) := by decide +kernel
theorem dX6_readSign_19 : decode cX6_readSign 19 = .ok (.iconst 1, 1) := by decide +kernel
theorem dX6_readSign_20 : decode cX6_readSign 20 = .ok (.iadd, 1) := by decide +kernel
theorem dX6_readSign_21 : decode cX6_readSign 21 = .ok (.putfield 27, 3) := by decide +kernel
theorem dX6_readSign_24 : decode cX6_readSign 24 = .ok (.iload_n 2, 1) := by decide +kernel
theorem dX6_readSign_25 : decode cX6_readSign 25 = .ok (.ireturn, 1) := by decide +kernel
theorem dX6_sign_0 : decode cX6_sign 0 = .ok (.aload_n 0, 1) := by decide +kernel
theorem dX6_sign_1 : decode cX6_sign 1 = .ok (.getfield 27, 3) := by decide +kernel
theorem dX6_sign_4 : decode cX6_sign 4 = .ok (.aload_n 0, 1) := by decide +kernel
theorem dX6_sign_5 : decode cX6_sign 5 = .ok (.getfield 15, 3) := by decide +kernel
theorem dX6_sign_8 : decode cX6_sign 8 = .ok (.if_icmp .ge 17, 3) := by decide +kernel
theorem dX6_sign_11 : decode cX6_sign 11 = .ok (.aload_n 0, 1) := by decide +kernel
theorem dX6_sign_12 : decode cX6_sign 12 = .ok (.getfield 9, 3) := by decide +kernel
theorem dX6_sign_15 : decode cX6_sign 15 = .ok (.aload_n 0, 1) := by decide +kernel
theorem dX6_sign_16 : decode cX6_sign 16 = .ok (.getfield 27, 3) := by decide +kernel
theorem dX6_sign_19 : decode cX6_sign 19 = .ok (.invokestatic 54, 3) := by decide +kernel
theorem dX6_sign_22 : decode cX6_sign 22 = .ok (.goto 4, 3) := by decide +kernel
theorem dX6_sign_25 : decode cX6_sign 25 = .ok (.iconst 0, 1) := by decide +kernel
theorem dX6_sign_26 : decode cX6_sign 26 = .ok (.ireturn, 1) := by decide +kernel
theorem dX7_init_0 : decode cX7_init 0 = .ok (.aload_n 0, 1) := by decide +kernel
theorem dX7_init_1 : decode cX7_init 1 = .ok (.invokespecial 3, 3) := by decide +kernel
theorem dX7_init_4 : decode cX7_init 4 = .ok (.return_, 1) := by decide +kernel
theorem dX7_copyFrom_0 : decode cX7_copyFrom 0 = .ok (.aload_n 0, 1) := by decide +kernel
theorem dX7_copyFrom_1 : decode cX7_copyFrom 1 = .ok (.aload_n 1, 1) := by decide +kernel
theorem dX7_copyFrom_2 : decode cX7_copyFrom 2 = .ok (.getfield 9, 3) := by decide +kernel
theorem dX7_copyFrom_5 : decode cX7_copyFrom 5 = .ok (.putfield 9, 3) := by decide +kernel
theorem dX7_copyFrom_8 : decode cX7_copyFrom 8 = .ok (.aload_n 0, 1) := by decide +kernel
theorem dX7_copyFrom_9 : decode cX7_copyFrom 9 = .ok (.aload_n 1, 1) := by decide +kernel
theorem dX7_copyFrom_10 : decode cX7_copyFrom 10 = .ok (.getfield 15, 3) := by decide +kernel
theorem dX7_copyFrom_13 : decode cX7_copyFrom 13 = .ok (.putfield 15, 3) := by decide +kernel
theorem dX7_copyFrom_16 : decode cX7_copyFrom 16 = .ok (.aload_n 0, 1) := by decide +kernel
theorem dX7_copyFrom_17 : decode cX7_copyFrom 17 = .ok (.aload_n 1, 1) := by decide +kernel
theorem dX7_copyFrom_18 : decode cX7_copyFrom 18 = .ok (.getfield 18, 3) := by decide +kernel
theorem dX7_copyFrom_21 : decode cX7_copyFrom 21 = .ok (.putfield 18, 3) := by decide +kernel
theorem dX7_copyFrom_24 : decode cX7_copyFrom 24 = .ok (.aload_n 0, 1) := by decide +kernel
theorem dX7_copyFrom_25 : decode cX7_copyFrom 25 = .ok (.aload_n 1, 1) := by decide +kernel
theorem dX7_copyFrom_26 : decode cX7_copyFrom 26 = .ok (.getfield 22, 3) := by decide +kernel
theorem dX7_copyFrom_29 : decode cX7_copyFrom 29 = .ok (.putfield 22, 3) := by decide +kernel
theorem dX7_copyFrom_32 : decode cX7_copyFrom 32 = .ok (.aload_n 0, 1) := by decide +kernel
theorem dX7_copyFrom_33 : decode cX7_copyFrom 33 = .ok (.aload_n 1, 1) := by decide +kernel
theorem dX7_copyFrom_34 : decode cX7_copyFrom 34 = .ok (.getfield 25, 3) := by decide +kernel
theorem dX7_copyFrom_37 : decode cX7_copyFrom 37 = .ok (.putfield 25, 3) := by decide +kernel
theorem dX7_copyFrom_40 : decode cX7_copyFrom 40 = .ok (.aload_n 0, 1) := by decide +kernel
theorem dX7_copyFrom_41 : decode cX7_copyFrom 41 = .ok (.aload_n 1, 1) := by decide +kernel
theorem dX7_copyFrom_42 : decode cX7_copyFrom 42 = .ok (.getfield 28, 3) := by decide +kernel
theorem dX7_copyFrom_45 : decode cX7_copyFrom 45 = .ok (.putfield 28, 3) := by decide +kernel
theorem dX7_copyFrom_48 : decode cX7_copyFrom 48 = .ok (.aload_n 0, 1) := by decide +kernel
theorem dX7_copyFrom_49 : decode cX7_copyFrom 49 = .ok (.aload_n 1, 1) := by decide +kernel
theorem dX7_copyFrom_50 : decode cX7_copyFrom 50 = .ok (.getfield 31, 3) := by decide +kernel
theorem dX7_copyFrom_53 : decode cX7_copyFrom 53 = .ok (.putfield 31, 3) := by decide +kernel
theorem dX7_copyFrom_56 : decode cX7_copyFrom 56 = .ok (.aload_n 0, 1) := by decide +kernel
theorem dX7_copyFrom_57 : decode cX7_copyFrom 57 = .ok (.aload_n 1, 1) := by decide +kernel
theorem dX7_copyFrom_58 : decode cX7_copyFrom 58 = .ok (.getfield 34, 3) := by decide +kernel
theorem dX7_copyFrom_61 : decode cX7_copyFrom 61 = .ok (.putfield 34, 3) := by decide +kernel
theorem dX7_copyFrom_64 : decode cX7_copyFrom 64 = .ok (.return_, 1) := by decide +kernel
theorem dX7_isBehindBackup_0 : decode cX7_isBehindBackup 0 = .ok (.aload_n 0, 1) := by decide +kernel
theorem dX7_isBehindBackup_1 : decode cX7_isBehindBackup 1 = .ok (.getfield 34, 3) := by decide +kernel
theorem dX7_isBehindBackup_4 : decode cX7_isBehindBackup 4 = .ok (.aload_n 0, 1) := by decide +kernel
theorem dX7_isBehindBackup_5 : decode cX7_isBehindBackup 5 = .ok (.getfield 31, 3) := by decide +kernel
theorem dX7_isBehindBackup_8 : decode cX7_isBehindBackup 8 = .ok (.if_icmp .gt 7, 3) := by decide +kernel
theorem dX7_isBehindBackup_11 : decode cX7_isBehindBackup 11 = .ok (.iconst 1, 1) := by decide +kernel
theorem dX7_isBehindBackup_12 : decode cX7_isBehindBackup 12 = .ok (.goto 4, 3) := by decide +kernel
theorem dX7_isBehindBackup_15 : decode cX7_isBehindBackup 15 = .ok (.iconst 0, 1) := by decide +kernel
theorem dX7_isBehindBackup_16 : decode cX7_isBehindBackup 16 = .ok (.ireturn, 1) := by decide +kernel
theorem dX7_hasBegunItself_0 : decode cX7_hasBegunItself 0 = .ok (.aload_n 0, 1) := by decide +kernel
theorem dX7_hasBegunItself_1 : decode cX7_hasBegunItself 1 = .ok (.getfield 34, 3) := by decide +kernel
theorem dX7_hasBegunItself_4 : decode cX7_hasBegunItself 4 = .ok (.aload_n 0, 1) := by decide +kernel
theorem dX7_hasBegunItself_5 : decode cX7_hasBegunItself 5 = .ok (.getfield 31, 3) := by decide +kernel
theorem dX7_hasBegunItself_8 : decode cX7_hasBegunItself 8 = .ok (.if_icmp .ge 7, 3) := by decide +kernel
theorem dX7_hasBegunItself_11 : decode cX7_hasBegunItself 11 = .ok (.iconst 1, 1) := by decide +kernel
theorem dX7_hasBegunItself_12 : decode cX7_hasBegunItself 12 = .ok (.goto 4, 3) := by decide +kernel
theorem dX7_hasBegunItself_15 : decode cX7_hasBegunItself 15 = .ok (.iconst 0, 1) := by decide +kernel
theorem dX7_hasBegunItself_16 : decode cX7_hasBegunItself 16 = .ok (.ireturn, 1) := by decide +kernel
theorem dX7_isAskedFor_0 : decode cX7_isAskedFor 0 = .ok (.aload_n 0, 1) := by decide +kernel
theorem dX7_isAskedFor_1 : decode cX7_isAskedFor 1 = .ok (.getfield 18, 3) := by decide +kernel
theorem dX7_isAskedFor_4 : decode cX7_isAskedFor 4 = .ok (.iconst 1, 1) := by decide +kernel
theorem dX7_isAskedFor_5 : decode cX7_isAskedFor 5 = .ok (.if_icmp .eq 11, 3) := by decide +kernel
theorem dX7_isAskedFor_8 : decode cX7_isAskedFor 8 = .ok (.aload_n 0, 1) := by decide +kernel
theorem dX7_isAskedFor_9 : decode cX7_isAskedFor 9 = .ok (.getfield 18, 3) := by decide +kernel
theorem dX7_isAskedFor_12 : decode cX7_isAskedFor 12 = .ok (.iconst 2, 1) := by decide +kernel
theorem dX7_isAskedFor_13 : decode cX7_isAskedFor 13 = .ok (.if_icmp .ne 7, 3) := by decide +kernel
theorem dX7_isAskedFor_16 : decode cX7_isAskedFor 16 = .ok (.iconst 1, 1) := by decide +kernel
theorem dX7_isAskedFor_17 : decode cX7_isAskedFor 17 = .ok (.goto 4, 3) := by decide +kernel
theorem dX7_isAskedFor_20 : decode cX7_isAskedFor 20 = .ok (.iconst 0, 1) := by decide +kernel
theorem dX7_isAskedFor_21 : decode cX7_isAskedFor 21 = .ok (.ireturn, 1) := by decide +kernel
theorem dX8_init_0 : decode cX8_init 0 = .ok (.aload_n 0, 1) := by decide +kernel
theorem dX8_init_1 : decode cX8_init 1 = .ok (.invokespecial 3, 3) := by decide +kernel
theorem dX8_init_4 : decode cX8_init 4 = .ok (.aload_n 0, 1) := by decide +kernel
theorem dX8_init_5 : decode cX8_init 5 = .ok (.new 9, 3) := by decide +kernel
theorem dX8_init_8 : decode cX8_init 8 = .ok (.dup, 1) := by decide +kernel
theorem dX8_init_9 : decode cX8_init 9 = .ok (.invokespecial 11, 3) := by decide +kernel
theorem dX8_init_12 : decode cX8_init 12 = .ok (.putfield 12, 3) := by decide +kernel
theorem dX8_init_15 : decode cX8_init 15 = .ok (.aload_n 0, 1) := by decide +kernel
theorem dX8_init_16 : decode cX8_init 16 = .ok (.new 9, 3) := by decide +kernel
theorem dX8_init_19 : decode cX8_init 19 = .ok (.dup, 1) := by decide +kernel
theorem dX8_init_20 : decode cX8_init 20 = .ok (.invokespecial 11, 3) := by decide +kernel
theorem dX8_init_23 : decode cX8_init 23 = .ok (.putfield 16, 3) := by decide +kernel
theorem dX8_init_26 : decode cX8_init 26 = .ok (.aload_n 0, 1) := by decide +kernel
theorem dX8_init_27 : decode cX8_init 27 = .ok (.new 19, 3) := by decide +kernel
theorem dX8_init_30 : decode cX8_init 30 = .ok (.dup, 1) := by decide +kernel
theorem dX8_init_31 : decode cX8_init 31 = .ok (.invokespecial 21, 3) := by decide +kernel
theorem dX8_init_34 : decode cX8_init 34 = .ok (.putfield 22, 3) := by decide +kernel
theorem dX8_init_37 : decode cX8_init 37 = .ok (.aload_n 0, 1) := by decide +kernel
theorem dX8_init_38 : decode cX8_init 38 = .ok (.new 26, 3) := by decide +kernel
theorem dX8_init_41 : decode cX8_init 41 = .ok (.dup, 1) := by decide +kernel
theorem dX8_init_42 : decode cX8_init 42 = .ok (.invokespecial 28, 3) := by decide +kernel
theorem dX8_init_45 : decode cX8_init 45 = .ok (.putfield 29, 3) := by decide +kernel
theorem dX8_init_48 : decode cX8_init 48 = .ok (.aload_n 0, 1) := by decide +kernel
theorem dX8_init_49 : decode cX8_init 49 = .ok (.new 33, 3) := by decide +kernel
theorem dX8_init_52 : decode cX8_init 52 = .ok (.dup, 1) := by decide +kernel
theorem dX8_init_53 : decode cX8_init 53 = .ok (.invokespecial 35, 3) := by decide +kernel
theorem dX8_init_56 : decode cX8_init 56 = .ok (.putfield 36, 3) := by decide +kernel
theorem dX8_init_59 : decode cX8_init 59 = .ok (.return_, 1) := by decide +kernel
theorem dX8_write_0 : decode cX8_write 0 = .ok (.iload_n 3, 1) := by decide +kernel
theorem dX8_write_1 : decode cX8_write 1 = .ok (.iconst 0, 1) := by decide +kernel
theorem dX8_write_2 : decode cX8_write 2 = .ok (.iconst 1, 1) := by decide +kernel
theorem dX8_write_3 : decode cX8_write 3 = .ok (.invokestatic 40, 3) := by decide +kernel
theorem dX8_write_6 : decode cX8_write 6 = .ok (.ifCond .ne 5, 3) := by decide +kernel
theorem dX8_write_9 : decode cX8_write 9 = .ok (.iconst (-1), 1) := by decide +kernel
theorem dX8_write_10 : decode cX8_write 10 = .ok (.ireturn, 1) := by decide +kernel
theorem dX8_write_11 : decode cX8_write 11 = .ok (.aload_n 0, 1) := by decide +kernel
theorem dX8_write_12 : decode cX8_write 12 = .ok (.getfield 22, 3) := by decide +kernel
theorem dX8_write_15 : decode cX8_write 15 = .ok (.aload_n 0, 1) := by decide +kernel
theorem dX8_write_16 : decode cX8_write 16 = .ok (.getfield 12, 3) := by decide +kernel
theorem dX8_write_19 : decode cX8_write 19 = .ok (.invokevirtual 44, 3) := by decide +kernel
theorem dX8_write_22 : decode cX8_write 22 = .ok (.aload_n 0, 1) := by decide +kernel
theorem dX8_write_23 : decode cX8_write 23 = .ok (.aload_n 0, 1) := by decide +kernel
theorem dX8_write_24 : decode cX8_write 24 = .ok (.getfield 12, 3) := by decide +kernel
theorem dX8_write_27 : decode cX8_write 27 = .ok (.iload_n 1, 1) := by decide +kernel
theorem dX8_write_28 : decode cX8_write 28 = .ok (.iload_n 2, 1) := by decide +kernel
theorem dX8_write_29 : decode cX8_write 29 = .ok (.iload_n 3, 1) := by decide +kernel
theorem dX8_write_30 : decode cX8_write 30 = .ok (.iconst 1, 1) := by decide +kernel
theorem dX8_write_31 : decode cX8_write 31 = .ok (.if_icmp .ne 7, 3) := by decide +kernel
theorem dX8_write_34 : decode cX8_write 34 = .ok (.iconst 1, 1) := by decide +kernel
theorem dX8_write_35 : decode cX8_write 35 = .ok (.goto 4, 3) := by decide +kernel
theorem dX8_write_38 : decode cX8_write 38 = .ok (.iconst 2, 1) := by decide +kernel
theorem dX8_write_39 : decode cX8_write 39 = .ok (.invokevirtual 48, 3) := by decide +kernel
theorem dX8_write_42 : decode cX8_write 42 = .ok (.invokevirtual 52, 3) := by decide +kernel
theorem dX8_write_45 : decode cX8_write 45 = .ok (.ireturn, 1) := by decide +kernel
theorem dX8_tick_0 : decode cX8_tick 0 = .ok (.aload_n 0, 1) := by decide +kernel
theorem dX8_tick_1 : decode cX8_tick 1 = .ok (.getfield 22, 3) := by decide +kernel
theorem dX8_tick_4 : decode cX8_tick 4 = .ok (.aload_n 0, 1) := by decide +kernel
theorem dX8_tick_5 : decode cX8_tick 5 = .ok (.getfield 12, 3) := by decide +kernel
theorem dX8_tick_8 : decode cX8_tick 8 = .ok (.invokevirtual 44, 3) := by decide +kernel
theorem dX8_tick_11 : decode cX8_tick 11 = .ok (.aload_n 0, 1) := by decide +kernel
theorem dX8_tick_12 : decode cX8_tick 12 = .ok (.aload_n 0, 1) := by decide +kernel
theorem dX8_tick_13 : decode cX8_tick 13 = .ok (.getfield 12, 3) := by decide +kernel
theorem dX8_tick_16 : decode cX8_tick 16 = .ok (.iload_n 1, 1) := by decide +kernel
theorem dX8_tick_17 : decode cX8_tick 17 = .ok (.invokevirtual 56, 3) := by decide +kernel
theorem dX8_tick_20 : decode cX8_tick 20 = .ok (.invokevirtual 52, 3) := by decide +kernel
theorem dX8_tick_23 : decode cX8_tick 23 = .ok (.ireturn, 1) := by decide +kernel
theorem dX8_cut_0 : decode cX8_cut 0 = .ok (.aload_n 0, 1) := by decide +kernel
theorem dX8_cut_1 : decode cX8_cut 1 = .ok (.getfield 22, 3) := by decide +kernel
theorem dX8_cut_4 : decode cX8_cut 4 = .ok (.aload_n 0, 1) := by decide +kernel
theorem dX8_cut_5 : decode cX8_cut 5 = .ok (.getfield 12, 3) := by decide +kernel
theorem dX8_cut_8 : decode cX8_cut 8 = .ok (.invokevirtual 44, 3) := by decide +kernel
theorem dX8_cut_11 : decode cX8_cut 11 = .ok (.aload_n 0, 1) := by decide +kernel
theorem dX8_cut_12 : decode cX8_cut 12 = .ok (.aload_n 0, 1) := by decide +kernel
theorem dX8_cut_13 : decode cX8_cut 13 = .ok (.getfield 12, 3) := by decide +kernel
theorem dX8_cut_16 : decode cX8_cut 16 = .ok (.invokevirtual 59, 3) := by decide +kernel
theorem dX8_cut_19 : decode cX8_cut 19 = .ok (.invokevirtual 52, 3) := by decide +kernel
theorem dX8_cut_22 : decode cX8_cut 22 = .ok (.ireturn, 1) := by decide +kernel
theorem dX8_on_0 : decode cX8_on 0 = .ok (.aload_n 0, 1) := by decide +kernel
theorem dX8_on_1 : decode cX8_on 1 = .ok (.getfield 22, 3) := by decide +kernel
theorem dX8_on_4 : decode cX8_on 4 = .ok (.aload_n 0, 1) := by decide +kernel
theorem dX8_on_5 : decode cX8_on 5 = .ok (.getfield 12, 3) := by decide +kernel
theorem dX8_on_8 : decode cX8_on 8 = .ok (.invokevirtual 44, 3) := by decide +kernel
theorem dX8_on_11 : decode cX8_on 11 = .ok (.aload_n 0, 1) := by decide +kernel
theorem dX8_on_12 : decode cX8_on 12 = .ok (.aload_n 0, 1) := by decide +kernel
theorem dX8_on_13 : decode cX8_on 13 = .ok (.getfield 12, 3) := by decide +kernel
theorem dX8_on_16 : decode cX8_on 16 = .ok (.invokevirtual 63, 3) := by decide +kernel
theorem dX8_on_19 : decode cX8_on 19 = .ok (.invokevirtual 52, 3) := by decide +kernel
theorem dX8_on_22 : decode cX8_on 22 = .ok (.ireturn, 1) := by decide +kernel
theorem dX8_turn_0 : decode cX8_turn 0 = .ok (.aload_n 0, 1) := by decide +kernel
theorem dX8_turn_1 : decode cX8_turn 1 = .ok (.getfield 22, 3) := by decide +kernel
theorem dX8_turn_4 : decode cX8_turn 4 = .ok (.aload_n 0, 1) := by decide +kernel
theorem dX8_turn_5 : decode cX8_turn 5 = .ok (.getfield 12, 3) := by decide +kernel
theorem dX8_turn_8 : decode cX8_turn 8 = .ok (.invokevirtual 44, 3) := by decide +kernel
theorem dX8_turn_11 : decode cX8_turn 11 = .ok (.aload_n 0, 1) := by decide +kernel
theorem dX8_turn_12 : decode cX8_turn 12 = .ok (.aload_n 0, 1) := by decide +kernel
theorem dX8_turn_13 : decode cX8_turn 13 = .ok (.getfield 12, 3) := by decide +kernel
theorem dX8_turn_16 : decode cX8_turn 16 = .ok (.invokevirtual 66, 3) := by decide +kernel
theorem dX8_turn_19 : decode cX8_turn 19 = .ok (.invokevirtual 52, 3) := by decide +kernel
theorem dX8_turn_22 : decode cX8_turn 22 = .ok (.ireturn, 1) := by decide +kernel
theorem dX8_clean_0 : decode cX8_clean 0 = .ok (.aload_n 0, 1) := by decide +kernel
theorem dX8_clean_1 : decode cX8_clean 1 = .ok (.getfield 22, 3) := by decide +kernel
theorem dX8_clean_4 : decode cX8_clean 4 = .ok (.aload_n 0, 1) := by decide +kernel
theorem dX8_clean_5 : decode cX8_clean 5 = .ok (.getfield 12, 3) := by decide +kernel
theorem dX8_clean_8 : decode cX8_clean 8 = .ok (.invokevirtual 44, 3) := by decide +kernel
theorem dX8_clean_11 : decode cX8_clean 11 = .ok (.aload_n 0, 1) := by decide +kernel
theorem dX8_clean_12 : decode cX8_clean 12 = .ok (.aload_n 0, 1) := by decide +kernel
theorem dX8_clean_13 : decode cX8_clean 13 = .ok (.getfield 12, 3) := by decide +kernel
theorem dX8_clean_16 : decode cX8_clean 16 = .ok (.iload_n 1, 1) := by decide +kernel
theorem dX8_clean_17 : decode cX8_clean 17 = .ok (.invokevirtual 69, 3) := by decide +kernel
theorem dX8_clean_20 : decode cX8_clean 20 = .ok (.invokevirtual 52, 3) := by decide +kernel
theorem dX8_clean_23 : decode cX8_clean 23 = .ok (.ireturn, 1) := by decide +kernel
theorem dX8_erase_0 : decode cX8_erase 0 = .ok (.aload_n 0, 1) := by decide +kernel
theorem dX8_erase_1 : decode cX8_erase 1 = .ok (.getfield 22, 3) := by decide +kernel
theorem dX8_erase_4 : decode cX8_erase 4 = .ok (.aload_n 0, 1) := by decide +kernel
theorem dX8_erase_5 : decode cX8_erase 5 = .ok (.getfield 12, 3) := by decide +kernel
theorem dX8_erase_8 : decode cX8_erase 8 = .ok (.invokevirtual 44, 3) := by decide +kernel
theorem dX8_erase_11 : decode cX8_erase 11 = .ok (.aload_n 0, 1) := by decide +kernel
theorem dX8_erase_12 : decode cX8_erase 12 = .ok (.aload_n 0, 1) := by decide +kernel
theorem dX8_erase_13 : decode cX8_erase 13 = .ok (.getfield 12, 3) := by decide +kernel
theorem dX8_erase_16 : decode cX8_erase 16 = .ok (.iload_n 1, 1) := by decide +kernel
theorem dX8_erase_17 : decode cX8_erase 17 = .ok (.invokevirtual 72, 3) := by decide +kernel
theorem dX8_erase_20 : decode cX8_erase 20 = .ok (.invokevirtual 52, 3) := by decide +kernel
theorem dX8_erase_23 : decode cX8_erase 23 = .ok (.ireturn, 1) := by decide +kernel
theorem dX8_slow_0 : decode cX8_slow 0 = .ok (.aload_n 0, 1) := by decide +kernel
theorem dX8_slow_1 : decode cX8_slow 1 = .ok (.getfield 22, 3) := by decide +kernel
theorem dX8_slow_4 : decode cX8_slow 4 = .ok (.aload_n 0, 1) := by decide +kernel
theorem dX8_slow_5 : decode cX8_slow 5 = .ok (.getfield 12, 3) := by decide +kernel
theorem dX8_slow_8 : decode cX8_slow 8 = .ok (.invokevirtual 44, 3) := by decide +kernel
theorem dX8_slow_11 : decode cX8_slow 11 = .ok (.aload_n 0, 1) := by decide +kernel
theorem dX8_slow_12 : decode cX8_slow 12 = .ok (.aload_n 0, 1) := by decide +kernel
theorem dX8_slow_13 : decode cX8_slow 13 = .ok (.getfield 12, 3) := by decide +kernel
theorem dX8_slow_16 : decode cX8_slow 16 = .ok (.iload_n 1, 1) := by decide +kernel
theorem dX8_slow_17 : decode cX8_slow 17 = .ok (.iload_n 2, 1) := by decide +kernel
theorem dX8_slow_18 : decode cX8_slow 18 = .ok (.invokevirtual 75, 3) := by decide +kernel
theorem dX8_slow_21 : decode cX8_slow 21 = .ok (.invokevirtual 52, 3) := by decide +kernel
theorem dX8_slow_24 : decode cX8_slow 24 = .ok (.ireturn, 1) := by decide +kernel
theorem dX8_set_0 : decode cX8_set 0 = .ok (.aload_n 0, 1) := by decide +kernel
theorem dX8_set_1 : decode cX8_set 1 = .ok (.getfield 22, 3) := by decide +kernel
theorem dX8_set_4 : decode cX8_set 4 = .ok (.aload_n 0, 1) := by decide +kernel
theorem dX8_set_5 : decode cX8_set 5 = .ok (.getfield 12, 3) := by decide +kernel
theorem dX8_set_8 : decode cX8_set 8 = .ok (.invokevirtual 44, 3) := by decide +kernel
theorem dX8_set_11 : decode cX8_set 11 = .ok (.aload_n 0, 1) := by decide +kernel
theorem dX8_set_12 : decode cX8_set 12 = .ok (.aload_n 0, 1) := by decide +kernel
theorem dX8_set_13 : decode cX8_set 13 = .ok (.getfield 12, 3) := by decide +kernel
theorem dX8_set_16 : decode cX8_set 16 = .ok (.iload_n 1, 1) := by decide +kernel
theorem dX8_set_17 : decode cX8_set 17 = .ok (.iload_n 2, 1) := by decide +kernel
theorem dX8_set_18 : decode cX8_set 18 = .ok (.invokevirtual 79, 3) := by decide +kernel
theorem dX8_set_21 : decode cX8_set 21 = .ok (.invokevirtual 52, 3) := by decide +kernel
theorem dX8_set_24 : decode cX8_set 24 = .ok (.ireturn, 1) := by decide +kernel
theorem dX8_read_0 : decode cX8_read 0 = .ok (.aload_n 0, 1) := by decide +kernel
theorem dX8_read_1 : decode cX8_read 1 = .ok (.getfield 12, 3) := by decide +kernel
theorem dX8_read_4 : decode cX8_read 4 = .ok (.iload_n 1, 1) := by decide +kernel
theorem dX8_read_5 : decode cX8_read 5 = .ok (.invokevirtual 82, 3) := by decide +kernel
theorem dX8_read_8 : decode cX8_read 8 = .ok (.ireturn, 1) := by decide +kernel
theorem dX8_placeOf_0 : decode cX8_placeOf 0 = .ok (.aload_n 0, 1) := by decide +kernel
theorem dX8_placeOf_1 : decode cX8_placeOf 1 = .ok (.getfield 12, 3) := by decide +kernel
theorem dX8_placeOf_4 : decode cX8_placeOf 4 = .ok (.iload_n 1, 1) := by decide +kernel
theorem dX8_placeOf_5 : decode cX8_placeOf 5 = .ok (.iload_n 2, 1) := by decide +kernel
theorem dX8_placeOf_6 : decode cX8_placeOf 6 = .ok (.invokevirtual 85, 3) := by decide +kernel
theorem dX8_placeOf_9 : decode cX8_placeOf 9 = .ok (.ireturn, 1) := by decide +kernel
theorem dX8_pageOf_0 : decode cX8_pageOf 0 = .ok (.aload_n 0, 1) := by decide +kernel
theorem dX8_pageOf_1 : decode cX8_pageOf 1 = .ok (.getfield 12, 3) := by decide +kernel
theorem dX8_pageOf_4 : decode cX8_pageOf 4 = .ok (.iload_n 1, 1) := by decide +kernel
theorem dX8_pageOf_5 : decode cX8_pageOf 5 = .ok (.iload_n 2, 1) := by decide +kernel
theorem dX8_pageOf_6 : decode cX8_pageOf 6 = .ok (.iload_n 3, 1) := by decide +kernel
theorem dX8_pageOf_7 : decode cX8_pageOf 7 = .ok (.invokevirtual 88, 3) := by decide +kernel
theorem dX8_pageOf_10 : decode cX8_pageOf 10 = .ok (.ireturn, 1) := by decide +kernel
theorem dX8_backupOf_0 : decode cX8_backupOf 0 = .ok (.aload_n 0, 1) := by decide +kernel
theorem dX8_backupOf_1 : decode cX8_backupOf 1 = .ok (.getfield 12, 3) := by decide +kernel
theorem dX8_backupOf_4 : decode cX8_backupOf 4 = .ok (.iload_n 1, 1) := by decide +kernel
theorem dX8_backupOf_5 : decode cX8_backupOf 5 = .ok (.iload_n 2, 1) := by decide +kernel
theorem dX8_backupOf_6 : decode cX8_backupOf 6 = .ok (.iload_n 3, 1) := by decide +kernel
theorem dX8_backupOf_7 : decode cX8_backupOf 7 = .ok (.invokevirtual 91, 3) := by decide +kernel
theorem dX8_backupOf_10 : decode cX8_backupOf 10 = .ok (.ireturn, 1) := by decide +kernel
theorem dX8_waits_0 : decode cX8_waits 0 = .ok (.aload_n 0, 1) := by decide +kernel
theorem dX8_waits_1 : decode cX8_waits 1 = .ok (.getfield 12, 3) := by decide +kernel
theorem dX8_waits_4 : decode cX8_waits 4 = .ok (.iload_n 1, 1) := by decide +kernel
theorem dX8_waits_5 : decode cX8_waits 5 = .ok (.iload_n 2, 1) := by decide +kernel
theorem dX8_waits_6 : decode cX8_waits 6 = .ok (.invokevirtual 94, 3) := by decide +kernel
theorem dX8_waits_9 : decode cX8_waits 9 = .ok (.ireturn, 1) := by decide +kernel
theorem dX8_count_0 : decode cX8_count 0 = .ok (.iload_n 1, 1) := by decide +kernel
theorem dX8_count_1 : decode cX8_count 1 = .ok (.bipush 16, 2) := by decide +kernel
theorem dX8_count_3 : decode cX8_count 3 = .ok (.if_icmp .ne 11, 3) := by decide +kernel
theorem dX8_count_6 : decode cX8_count 6 = .ok (.aload_n 0, 1) := by decide +kernel
theorem dX8_count_7 : decode cX8_count 7 = .ok (.getfield 22, 3) := by decide +kernel
theorem dX8_count_10 : decode cX8_count 10 = .ok (.invokevirtual 97, 3) := by decide +kernel
theorem dX8_count_13 : decode cX8_count 13 = .ok (.ireturn, 1) := by decide +kernel
theorem dX8_count_14 : decode cX8_count 14 = .ok (.iload_n 1, 1) := by decide +kernel
theorem dX8_count_15 : decode cX8_count 15 = .ok (.bipush 17, 2) := by decide +kernel
theorem dX8_count_17 : decode cX8_count 17 = .ok (.if_icmp .ne 11, 3) := by decide +kernel
theorem dX8_count_20 : decode cX8_count 20 = .ok (.aload_n 0, 1) := by decide +kernel
theorem dX8_count_21 : decode cX8_count 21 = .ok (.getfield 29, 3) := by decide +kernel
theorem dX8_count_24 : decode cX8_count 24 = .ok (.invokevirtual 100, 3) := by decide +kernel
theorem dX8_count_27 : decode cX8_count 27 = .ok (.ireturn, 1) := by decide +kernel
theorem dX8_count_28 : decode cX8_count 28 = .ok (.aload_n 0, 1) := by decide +kernel
theorem dX8_count_29 : decode cX8_count 29 = .ok (.getfield 12, 3) := by decide +kernel
theorem dX8_count_32 : decode cX8_count 32 = .ok (.iload_n 1, 1) := by decide +kernel
theorem dX8_count_33 : decode cX8_count 33 = .ok (.invokevirtual 103, 3) := by decide +kernel
theorem dX8_count_36 : decode cX8_count 36 = .ok (.ireturn, 1) := by decide +kernel
theorem dX8_wouldLose_0 : decode cX8_wouldLose 0 = .ok (.iload_n 1, 1) := by decide +kernel
theorem dX8_wouldLose_1 : decode cX8_wouldLose 1 = .ok (.iconst 0, 1) := by decide +kernel
theorem dX8_wouldLose_2 : decode cX8_wouldLose 2 = .ok (.sipush 200, 3) := by decide +kernel
theorem dX8_wouldLose_5 : decode cX8_wouldLose 5 = .ok (.invokestatic 40, 3) := by decide +kernel
theorem dX8_wouldLose_8 : decode cX8_wouldLose 8 = .ok (.ifCond .ne 5, 3) := by decide +kernel
theorem dX8_wouldLose_11 : decode cX8_wouldLose 11 = .ok (.iconst (-1), 1) := by decide +kernel
theorem dX8_wouldLose_12 : decode cX8_wouldLose 12 = .ok (.ireturn, 1) := by decide +kernel
theorem dX8_wouldLose_13 : decode cX8_wouldLose 13 = .ok (.aload_n 0, 1) := by decide +kernel
theorem dX8_wouldLose_14 : decode cX8_wouldLose 14 = .ok (.getfield 12, 3) := by decide +kernel
theorem dX8_wouldLose_17 : decode cX8_wouldLose 17 = .ok (.invokevirtual 106, 3) := by decide +kernel
theorem dX8_wouldLose_20 : decode cX8_wouldLose 20 = .ok (.ifCond .ne 6, 3) := by decide +kernel
theorem dX8_wouldLose_23 : decode cX8_wouldLose 23 = .ok (.bipush (-2), 2) := by decide +kernel
theorem dX8_wouldLose_25 : decode cX8_wouldLose 25 = .ok (.ireturn, 1) := by decide +kernel
theorem dX8_wouldLose_26 : decode cX8_wouldLose 26 = .ok (.aload_n 0, 1) := by decide +kernel
theorem dX8_wouldLose_27 : decode cX8_wouldLose 27 = .ok (.getfield 16, 3) := by decide +kernel
theorem dX8_wouldLose_30 : decode cX8_wouldLose 30 = .ok (.aload_n 0, 1) := by decide +kernel
theorem dX8_wouldLose_31 : decode cX8_wouldLose 31 = .ok (.getfield 12, 3) := by decide +kernel
theorem dX8_wouldLose_34 : decode cX8_wouldLose 34 = .ok (.invokevirtual 110, 3) := by decide +kernel
theorem dX8_wouldLose_37 : decode cX8_wouldLose 37 = .ok (.aload_n 0, 1) := by decide +kernel
theorem dX8_wouldLose_38 : decode cX8_wouldLose 38 = .ok (.getfield 16, 3) := by decide +kernel
theorem dX8_wouldLose_41 : decode cX8_wouldLose 41 = .ok (.iload_n 1, 1) := by decide +kernel
theorem dX8_wouldLose_42 : decode cX8_wouldLose 42 = .ok (.invokevirtual 113, 3) := by decide +kernel
theorem dX8_wouldLose_45 : decode cX8_wouldLose 45 = .ok (.aload_n 0, 1) := by decide +kernel
theorem dX8_wouldLose_46 : decode cX8_wouldLose 46 = .ok (.getfield 16, 3) := by decide +kernel
theorem dX8_wouldLose_49 : decode cX8_wouldLose 49 = .ok (.invokevirtual 117, 3) := by decide +kernel
theorem dX8_wouldLose_52 : decode cX8_wouldLose 52 = .ok (.ireturn, 1) := by decide +kernel
theorem dX8_doneIn_0 : decode cX8_doneIn 0 = .ok (.aload_n 0, 1) := by decide +kernel
theorem dX8_doneIn_1 : decode cX8_doneIn 1 = .ok (.getfield 12, 3) := by decide +kernel
theorem dX8_doneIn_4 : decode cX8_doneIn 4 = .ok (.invokevirtual 106, 3) := by decide +kernel
theorem dX8_doneIn_7 : decode cX8_doneIn 7 = .ok (.ifCond .ne 6, 3) := by decide +kernel
theorem dX8_doneIn_10 : decode cX8_doneIn 10 = .ok (.bipush (-2), 2) := by decide +kernel
theorem dX8_doneIn_12 : decode cX8_doneIn 12 = .ok (.ireturn, 1) := by decide +kernel
theorem dX8_doneIn_13 : decode cX8_doneIn 13 = .ok (.aload_n 0, 1) := by decide +kernel
theorem dX8_doneIn_14 : decode cX8_doneIn 14 = .ok (.getfield 16, 3) := by decide +kernel
theorem dX8_doneIn_17 : decode cX8_doneIn 17 = .ok (.aload_n 0, 1) := by decide +kernel
theorem dX8_doneIn_18 : decode cX8_doneIn 18 = .ok (.getfield 12, 3) := by decide +kernel
theorem dX8_doneIn_21 : decode cX8_doneIn 21 = .ok (.invokevirtual 110, 3) := by decide +kernel
theorem dX8_doneIn_24 : decode cX8_doneIn 24 = .ok (.aload_n 0, 1) := by decide +kernel
theorem dX8_doneIn_25 : decode cX8_doneIn 25 = .ok (.getfield 16, 3) := by decide +kernel
theorem dX8_doneIn_28 : decode cX8_doneIn 28 = .ok (.invokevirtual 120, 3) := by decide +kernel
theorem dX8_doneIn_31 : decode cX8_doneIn 31 = .ok (.ireturn, 1) := by decide +kernel
theorem dX8_undo_0 : decode cX8_undo 0 = .ok (.aload_n 0, 1) := by decide +kernel
theorem dX8_undo_1 : decode cX8_undo 1 = .ok (.getfield 22, 3) := by decide +kernel
theorem dX8_undo_4 : decode cX8_undo 4 = .ok (.aload_n 0, 1) := by decide +kernel
theorem dX8_undo_5 : decode cX8_undo 5 = .ok (.getfield 12, 3) := by decide +kernel
theorem dX8_undo_8 : decode cX8_undo 8 = .ok (.invokevirtual 123, 3) := by decide +kernel
theorem dX8_undo_11 : decode cX8_undo 11 = .ok (.ireturn, 1) := by decide +kernel
theorem dX8_type_0 : decode cX8_type 0 = .ok (.aload_n 0, 1) := by decide +kernel
theorem dX8_type_1 : decode cX8_type 1 = .ok (.getfield 29, 3) := by decide +kernel
theorem dX8_type_4 : decode cX8_type 4 = .ok (.iload_n 1, 1) := by decide +kernel
theorem dX8_type_5 : decode cX8_type 5 = .ok (.invokevirtual 127, 3) := by decide +kernel
theorem dX8_type_8 : decode cX8_type 8 = .ok (.ireturn, 1) := by decide +kernel
theorem dX8_clearText_0 : decode cX8_clearText 0 = .ok (.aload_n 0, 1) := by decide +kernel
theorem dX8_clearText_1 : decode cX8_clearText 1 = .ok (.getfield 29, 3) := by decide +kernel
theorem dX8_clearText_4 : decode cX8_clearText 4 = .ok (.invokevirtual 130, 3) := by decide +kernel
theorem dX8_clearText_7 : decode cX8_clearText 7 = .ok (.ireturn, 1) := by decide +kernel
theorem dX8_fault_0 : decode cX8_fault 0 = .ok (.iload_n 1, 1) := by decide +kernel
theorem dX8_fault_1 : decode cX8_fault 1 = .ok (.iconst 0, 1) := by decide +kernel
theorem dX8_fault_2 : decode cX8_fault 2 = .ok (.iconst 2, 1) := by decide +kernel
theorem dX8_fault_3 : decode cX8_fault 3 = .ok (.invokestatic 40, 3) := by decide +kernel
theorem dX8_fault_6 : decode cX8_fault 6 = .ok (.ifCond .ne 5, 3) := by decide +kernel
theorem dX8_fault_9 : decode cX8_fault 9 = .ok (.iconst (-1), 1) := by decide +kernel
theorem dX8_fault_10 : decode cX8_fault 10 = .ok (.ireturn, 1) := by decide +kernel
theorem dX8_fault_11 : decode cX8_fault 11 = .ok (.aload_n 0, 1) := by decide +kernel
theorem dX8_fault_12 : decode cX8_fault 12 = .ok (.getfield 16, 3) := by decide +kernel
theorem dX8_fault_15 : decode cX8_fault 15 = .ok (.aload_n 0, 1) := by decide +kernel
theorem dX8_fault_16 : decode cX8_fault 16 = .ok (.getfield 12, 3) := by decide +kernel
theorem dX8_fault_19 : decode cX8_fault 19 = .ok (.invokevirtual 110, 3) := by decide +kernel
theorem dX8_fault_22 : decode cX8_fault 22 = .ok (.aload_n 0, 1) := by decide +kernel
theorem dX8_fault_23 : decode cX8_fault 23 = .ok (.getfield 36, 3) := by decide +kernel
theorem dX8_fault_26 : decode cX8_fault 26 = .ok (.aload_n 0, 1) := by decide +kernel
theorem dX8_fault_27 : decode cX8_fault 27 = .ok (.getfield 29, 3) := by decide +kernel
theorem dX8_fault_30 : decode cX8_fault 30 = .ok (.aload_n 0, 1) := by decide +kernel
theorem dX8_fault_31 : decode cX8_fault 31 = .ok (.getfield 16, 3) := by decide +kernel
theorem dX8_fault_34 : decode cX8_fault 34 = .ok (.invokevirtual 133, 3) := by decide +kernel
theorem dX8_fault_37 : decode cX8_fault 37 = .ok (.aload_n 0, 1) := by decide +kernel
theorem dX8_fault_38 : decode cX8_fault 38 = .ok (.getfield 36, 3) := by decide +kernel
theorem dX8_fault_41 : decode cX8_fault 41 = .ok (.iload_n 1, 1) := by decide +kernel
theorem dX8_fault_42 : decode cX8_fault 42 = .ok (.invokevirtual 137, 3) := by decide +kernel
theorem dX8_fault_45 : decode cX8_fault 45 = .ok (.ireturn, 1) := by decide +kernel
theorem dX8_play_0 : decode cX8_play 0 = .ok (.aload_n 0, 1) := by decide +kernel
theorem dX8_play_1 : decode cX8_play 1 = .ok (.getfield 16, 3) := by decide +kernel
theorem dX8_play_4 : decode cX8_play 4 = .ok (.aload_n 0, 1) := by decide +kernel
theorem dX8_play_5 : decode cX8_play 5 = .ok (.getfield 12, 3) := by decide +kernel
theorem dX8_play_8 : decode cX8_play 8 = .ok (.invokevirtual 110, 3) := by decide +kernel
theorem dX8_play_11 : decode cX8_play 11 = .ok (.aload_n 0, 1) := by decide +kernel
theorem dX8_play_12 : decode cX8_play 12 = .ok (.getfield 36, 3) := by decide +kernel
theorem dX8_play_15 : decode cX8_play 15 = .ok (.aload_n 0, 1) := by decide +kernel
theorem dX8_play_16 : decode cX8_play 16 = .ok (.getfield 29, 3) := by decide +kernel
theorem dX8_play_19 : decode cX8_play 19 = .ok (.aload_n 0, 1) := by decide +kernel
theorem dX8_play_20 : decode cX8_play 20 = .ok (.getfield 16, 3) := by decide +kernel
theorem dX8_play_23 : decode cX8_play 23 = .ok (.invokevirtual 133, 3) := by decide +kernel
theorem dX8_play_26 : decode cX8_play 26 = .ok (.aload_n 0, 1) := by decide +kernel
theorem dX8_play_27 : decode cX8_play 27 = .ok (.getfield 36, 3) := by decide +kernel
theorem dX8_play_30 : decode cX8_play 30 = .ok (.invokevirtual 140, 3) := by decide +kernel
theorem dX8_play_33 : decode cX8_play 33 = .ok (.ifCond .eq 6, 3) := by decide +kernel
theorem dX8_play_36 : decode cX8_play 36 = .ok (.bipush (-2), 2) := by decide +kernel
theorem dX8_play_38 : decode cX8_play 38 = .ok (.ireturn, 1) := by decide +kernel
theorem dX8_play_39 : decode cX8_play 39 = .ok (.aload_n 0, 1) := by decide +kernel
theorem dX8_play_40 : decode cX8_play 40 = .ok (.getfield 22, 3) := by decide +kernel
theorem dX8_play_43 : decode cX8_play 43 = .ok (.aload_n 0, 1) := by decide +kernel
theorem dX8_play_44 : decode cX8_play 44 = .ok (.getfield 12, 3) := by decide +kernel
theorem dX8_play_47 : decode cX8_play 47 = .ok (.invokevirtual 44, 3) := by decide +kernel
theorem dX8_play_50 : decode cX8_play 50 = .ok (.aload_n 0, 1) := by decide +kernel
theorem dX8_play_51 : decode cX8_play 51 = .ok (.getfield 12, 3) := by decide +kernel
theorem dX8_play_54 : decode cX8_play 54 = .ok (.aload_n 0, 1) := by decide +kernel
theorem dX8_play_55 : decode cX8_play 55 = .ok (.getfield 16, 3) := by decide +kernel
theorem dX8_play_58 : decode cX8_play 58 = .ok (.invokevirtual 110, 3) := by decide +kernel
theorem dX8_play_61 : decode cX8_play 61 = .ok (.aload_n 0, 1) := by decide +kernel
theorem dX8_play_62 : decode cX8_play 62 = .ok (.aload_n 0, 1) := by decide +kernel
theorem dX8_play_63 : decode cX8_play 63 = .ok (.getfield 36, 3) := by decide +kernel
theorem dX8_play_66 : decode cX8_play 66 = .ok (.invokevirtual 143, 3) := by decide +kernel
theorem dX8_play_69 : decode cX8_play 69 = .ok (.invokevirtual 52, 3) := by decide +kernel
theorem dX8_play_72 : decode cX8_play 72 = .ok (.ireturn, 1) := by decide +kernel
theorem dX8_keepChange_0 : decode cX8_keepChange 0 = .ok (.iload_n 1, 1) := by decide +kernel
theorem dX8_keepChange_1 : decode cX8_keepChange 1 = .ok (.ifCond .lt 10, 3) := by decide +kernel
theorem dX8_keepChange_4 : decode cX8_keepChange 4 = .ok (.aload_n 0, 1) := by decide +kernel
theorem dX8_keepChange_5 : decode cX8_keepChange 5 = .ok (.getfield 22, 3) := by decide +kernel
theorem dX8_keepChange_8 : decode cX8_keepChange 8 = .ok (.invokevirtual 146, 3) := by decide +kernel
theorem dX8_keepChange_11 : decode cX8_keepChange 11 = .ok (.iload_n 1, 1) := by decide +kernel
theorem dX8_keepChange_12 : decode cX8_keepChange 12 = .ok (.ireturn, 1) := by decide +kernel
theorem dX8_isIn_0 : decode cX8_isIn 0 = .ok (.iload_n 0, 1) := by decide +kernel
theorem dX8_isIn_1 : decode cX8_isIn 1 = .ok (.iload_n 1, 1) := by decide +kernel
theorem dX8_isIn_2 : decode cX8_isIn 2 = .ok (.if_icmp .lt 12, 3) := by decide +kernel
theorem dX8_isIn_5 : decode cX8_isIn 5 = .ok (.iload_n 0, 1) := by decide +kernel
theorem dX8_isIn_6 : decode cX8_isIn 6 = .ok (.iload_n 2, 1) := by decide +kernel
theorem dX8_isIn_7 : decode cX8_isIn 7 = .ok (.if_icmp .gt 7, 3) := by decide +kernel
theorem dX8_isIn_10 : decode cX8_isIn 10 = .ok (.iconst 1, 1) := by decide +kernel
theorem dX8_isIn_11 : decode cX8_isIn 11 = .ok (.goto 4, 3) := by decide +kernel
theorem dX8_isIn_14 : decode cX8_isIn 14 = .ok (.iconst 0, 1) := by decide +kernel
theorem dX8_isIn_15 : decode cX8_isIn 15 = .ok (.ireturn, 1) := by decide +kernel
theorem dX8_valueAt_0 : decode cX8_valueAt 0 = .ok (.iload_n 1, 1) := by decide +kernel
theorem dX8_valueAt_1 : decode cX8_valueAt 1 = .ok (.ifCond .lt 15, 3) := by decide +kernel
theorem dX8_valueAt_4 : decode cX8_valueAt 4 = .ok (.iload_n 1, 1) := by decide +kernel
theorem dX8_valueAt_5 : decode cX8_valueAt 5 = .ok (.aload_n 0, 1) := by decide +kernel
theorem dX8_valueAt_6 : decode cX8_valueAt 6 = .ok (.arraylength, 1) := by decide +kernel
theorem dX8_valueAt_7 : decode cX8_valueAt 7 = .ok (.if_icmp .ge 9, 3) := by decide +kernel
theorem dX8_valueAt_10 : decode cX8_valueAt 10 = .ok (.aload_n 0, 1) := by decide +kernel
theorem dX8_valueAt_11 : decode cX8_valueAt 11 = .ok (.iload_n 1, 1) := by decide +kernel
theorem dX8_valueAt_12 : decode cX8_valueAt 12 = .ok (.iaload, 1) := by decide +kernel
theorem dX8_valueAt_13 : decode cX8_valueAt 13 = .ok (.goto 4, 3) := by decide +kernel
theorem dX8_valueAt_16 : decode cX8_valueAt 16 = .ok (.iconst 0, 1) := by decide +kernel
theorem dX8_valueAt_17 : decode cX8_valueAt 17 = .ok (.ireturn, 1) := by decide +kernel
theorem dX8_putAt_0 : decode cX8_putAt 0 = .ok (.iload_n 1, 1) := by decide +kernel
theorem dX8_putAt_1 : decode cX8_putAt 1 = .ok (.ifCond .lt 13, 3) := by decide +kernel
theorem dX8_putAt_4 : decode cX8_putAt 4 = .ok (.iload_n 1, 1) := by decide +kernel
theorem dX8_putAt_5 : decode cX8_putAt 5 = .ok (.aload_n 0, 1) := by decide +kernel
theorem dX8_putAt_6 : decode cX8_putAt 6 = .ok (.arraylength, 1) := by decide +kernel
theorem dX8_putAt_7 : decode cX8_putAt 7 = .ok (.if_icmp .ge 7, 3) := by decide +kernel
theorem dX8_putAt_10 : decode cX8_putAt 10 = .ok (.aload_n 0, 1) := by decide +kernel
theorem dX8_putAt_11 : decode cX8_putAt 11 = .ok (.iload_n 1, 1) := by decide +kernel
theorem dX8_putAt_12 : decode cX8_putAt 12 = .ok (.iload_n 2, 1) := by decide +kernel
theorem dX8_putAt_13 : decode cX8_putAt 13 = .ok (.iastore, 1) := by decide +kernel
theorem dX8_putAt_14 : decode cX8_putAt 14 = .ok (.return_, 1) := by decide +kernel
theorem dX8_copyRow_0 : decode cX8_copyRow 0 = .ok (.aload_n 0, 1) := by decide +kernel
theorem dX8_copyRow_1 : decode cX8_copyRow 1 = .ok (.iconst 0, 1) := by decide +kernel
theorem dX8_copyRow_2 : decode cX8_copyRow 2 = .ok (.aload_n 1, 1) := by decide +kernel
theorem dX8_copyRow_3 : decode cX8_copyRow 3 = .ok (.iconst 0, 1) := by decide +kernel
theorem dX8_copyRow_4 : decode cX8_copyRow 4 = .ok (.aload_n 0, 1) := by decide +kernel
theorem dX8_copyRow_5 : decode cX8_copyRow 5 = .ok (.arraylength, 1) := by decide +kernel
theorem dX8_copyRow_6 : decode cX8_copyRow 6 = .ok (.aload_n 1, 1) := by decide +kernel
theorem dX8_copyRow_7 : decode cX8_copyRow 7 = .ok (.arraylength, 1) := by decide +kernel
theorem dX8_copyRow_8 : decode cX8_copyRow 8 = .ok (.invokestatic 149, 3) := by decide +kernel
theorem dX8_copyRow_11 : decode cX8_copyRow 11 = .ok (.invokestatic 154, 3) := by decide +kernel
theorem dX8_copyRow_14 : decode cX8_copyRow 14 = .ok (.return_, 1) := by decide +kernel
theorem dX8_quotient_0 : decode cX8_quotient 0 = .ok (.iload_n 1, 1) := by decide +kernel
theorem dX8_quotient_1 : decode cX8_quotient 1 = .ok (.ifCond .le 9, 3) := by decide +kernel
theorem dX8_quotient_4 : decode cX8_quotient 4 = .ok (.iload_n 0, 1) := by decide +kernel
theorem dX8_quotient_5 : decode cX8_quotient 5 = .ok (.iload_n 1, 1) := by decide +kernel
theorem dX8_quotient_6 : decode cX8_quotient 6 = .ok (.idiv, 1) := by decide +kernel
theorem dX8_quotient_7 : decode cX8_quotient 7 = .ok (.goto 4, 3) := by decide +kernel
theorem dX8_quotient_10 : decode cX8_quotient 10 = .ok (.iconst 0, 1) := by decide +kernel
theorem dX8_quotient_11 : decode cX8_quotient 11 = .ok (.ireturn, 1) := by decide +kernel
theorem dX8_cellOf_0 : decode cX8_cellOf 0 = .ok (.iload_n 0, 1) := by decide +kernel
theorem dX8_cellOf_1 : decode cX8_cellOf 1 = .ok (.bipush 24, 2) := by decide +kernel
theorem dX8_cellOf_3 : decode cX8_cellOf 3 = .ok (.imul, 1) := by decide +kernel
theorem dX8_cellOf_4 : decode cX8_cellOf 4 = .ok (.iload_n 1, 1) := by decide +kernel
theorem dX8_cellOf_5 : decode cX8_cellOf 5 = .ok (.iadd, 1) := by decide +kernel
theorem dX8_cellOf_6 : decode cX8_cellOf 6 = .ok (.ireturn, 1) := by decide +kernel
theorem dX8_earlyPosition_0 : decode cX8_earlyPosition 0 = .ok (.iload_n 0, 1) := by decide +kernel
theorem dX8_earlyPosition_1 : decode cX8_earlyPosition 1 = .ok (.ifCond .ne 7, 3) := by decide +kernel
theorem dX8_earlyPosition_4 : decode cX8_earlyPosition 4 = .ok (.iconst 0, 1) := by decide +kernel
theorem dX8_earlyPosition_5 : decode cX8_earlyPosition 5 = .ok (.goto 8, 3) := by decide +kernel
theorem dX8_earlyPosition_8 : decode cX8_earlyPosition 8 = .ok (.iconst 2, 1) := by decide +kernel
theorem dX8_earlyPosition_9 : decode cX8_earlyPosition 9 = .ok (.iload_n 0, 1) := by decide +kernel
theorem dX8_earlyPosition_10 : decode cX8_earlyPosition 10 = .ok (.imul, 1) := by decide +kernel
theorem dX8_earlyPosition_11 : decode cX8_earlyPosition 11 = .ok (.iconst 1, 1) := by decide +kernel
theorem dX8_earlyPosition_12 : decode cX8_earlyPosition 12 = .ok (.isub, 1) := by decide +kernel
theorem dX8_earlyPosition_13 : decode cX8_earlyPosition 13 = .ok (.ireturn, 1) := by decide +kernel
theorem dX9_init_0 : decode cX9_init 0 = .ok (.aload_n 0, 1) := by decide +kernel
theorem dX9_init_1 : decode cX9_init 1 = .ok (.invokespecial 1, 3) := by decide +kernel
theorem dX9_init_4 : decode cX9_init 4 = .ok (.aload_n 0, 1) := by decide +kernel
theorem dX9_init_5 : decode cX9_init 5 = .ok (.sipush 256, 3) := by decide +kernel
theorem dX9_init_8 : decode cX9_init 8 = .ok (.newarray .int, 2) := by decide +kernel
theorem dX9_init_10 : decode cX9_init 10 = .ok (.putfield 7, 3) := by decide +kernel
theorem dX9_init_13 : decode cX9_init 13 = .ok (.aload_n 0, 1) := by decide +kernel
theorem dX9_init_14 : decode cX9_init 14 = .ok (.sipush 256, 3) := by decide +kernel
theorem dX9_init_17 : decode cX9_init 17 = .ok (.newarray .int, 2) := by decide +kernel
theorem dX9_init_19 : decode cX9_init 19 = .ok (.putfield 13, 3) := by decide +kernel
theorem dX9_init_22 : decode cX9_init 22 = .ok (.aload_n 0, 1) := by decide +kernel
theorem dX9_init_23 : decode cX9_init 23 = .ok (.sipush 1024, 3) := by decide +kernel
theorem dX9_init_26 : decode cX9_init 26 = .ok (.newarray .int, 2) := by decide +kernel
theorem dX9_init_28 : decode cX9_init 28 = .ok (.putfield 16, 3) := by decide +kernel
theorem dX9_init_31 : decode cX9_init 31 = .ok (.aload_n 0, 1) := by decide +kernel
theorem dX9_init_32 : decode cX9_init 32 = .ok (.bipush 60, 2) := by decide +kernel
theorem dX9_init_34 : decode cX9_init 34 = .ok (.newarray .int, 2) := by decide +kernel
theorem dX9_init_36 : decode cX9_init 36 = .ok (.putfield 19, 3) := by decide +kernel
theorem dX9_init_39 : decode cX9_init 39 = .ok (.aload_n 0, 1) := by decide +kernel
theorem dX9_init_40 : decode cX9_init 40 = .ok (.bipush 12, 2) := by decide +kernel
theorem dX9_init_42 : decode cX9_init 42 = .ok (.newarray .int, 2) := by decide +kernel
theorem dX9_init_44 : decode cX9_init 44 = .ok (.putfield 22, 3) := by decide +kernel
theorem dX9_init_47 : decode cX9_init 47 = .ok (.aload_n 0, 1) := by decide +kernel
theorem dX9_init_48 : decode cX9_init 48 = .ok (.getfield 7, 3) := by decide +kernel
theorem dX9_init_51 : decode cX9_init 51 = .ok (.bipush 20, 2) := by decide +kernel
theorem dX9_init_53 : decode cX9_init 53 = .ok (.iconst 2, 1) := by decide +kernel
theorem dX9_init_54 : decode cX9_init 54 = .ok (.iastore, 1) := by decide +kernel
theorem dX9_init_55 : decode cX9_init 55 = .ok (.aload_n 0, 1) := by decide +kernel
theorem dX9_init_56 : decode cX9_init 56 = .ok (.getfield 7, 3) := by decide +kernel
theorem dX9_init_59 : decode cX9_init 59 = .ok (.bipush 21, 2) := by decide +kernel
theorem dX9_init_61 : decode cX9_init 61 = .ok (.iconst 5, 1) := by decide +kernel
theorem dX9_init_62 : decode cX9_init 62 = .ok (.iastore, 1) := by decide +kernel
theorem dX9_init_63 : decode cX9_init 63 = .ok (.aload_n 0, 1) := by decide +kernel
theorem dX9_init_64 : decode cX9_init 64 = .ok (.getfield 7, 3) := by decide +kernel
theorem dX9_init_67 : decode cX9_init 67 = .ok (.bipush 22, 2) := by decide +kernel
theorem dX9_init_69 : decode cX9_init 69 = .ok (.iconst 1, 1) := by decide +kernel
theorem dX9_init_70 : decode cX9_init 70 = .ok (.iastore, 1) := by decide +kernel
theorem dX9_init_71 : decode cX9_init 71 = .ok (.aload_n 0, 1) := by decide +kernel
theorem dX9_init_72 : decode cX9_init 72 = .ok (.getfield 7, 3) := by decide +kernel
theorem dX9_init_75 : decode cX9_init 75 = .ok (.bipush 23, 2) := by decide +kernel
theorem dX9_init_77 : decode cX9_init 77 = .ok (.iconst 3, 1) := by decide +kernel
theorem dX9_init_78 : decode cX9_init 78 = .ok (.iastore, 1) := by decide +kernel
theorem dX9_init_79 : decode cX9_init 79 = .ok (.return_, 1) := by decide +kernel
theorem dX9_in_0 : decode cX9_in 0 = .ok (.iload_n 0, 1) := by decide +kernel
theorem dX9_in_1 : decode cX9_in 1 = .ok (.iload_n 1, 1) := by decide +kernel
theorem dX9_in_2 : decode cX9_in 2 = .ok (.if_icmp .lt 12, 3) := by decide +kernel
theorem dX9_in_5 : decode cX9_in 5 = .ok (.iload_n 0, 1) := by decide +kernel
theorem dX9_in_6 : decode cX9_in 6 = .ok (.iload_n 2, 1) := by decide +kernel
theorem dX9_in_7 : decode cX9_in 7 = .ok (.if_icmp .gt 7, 3) := by decide +kernel
theorem dX9_in_10 : decode cX9_in 10 = .ok (.iconst 1, 1) := by decide +kernel
theorem dX9_in_11 : decode cX9_in 11 = .ok (.goto 4, 3) := by decide +kernel
theorem dX9_in_14 : decode cX9_in 14 = .ok (.iconst 0, 1) := by decide +kernel
theorem dX9_in_15 : decode cX9_in 15 = .ok (.ireturn, 1) := by decide +kernel
theorem dX9_begins_0 : decode cX9_begins 0 = .ok (.iconst 0, 1) := by decide +kernel
theorem dX9_begins_1 : decode cX9_begins 1 = .ok (.istore_n 1, 1) := by decide +kernel
theorem dX9_begins_2 : decode cX9_begins 2 = .ok (.iload_n 1, 1) := by decide +kernel
theorem dX9_begins_3 : decode cX9_begins 3 = .ok (.sipush 256, 3) := by decide +kernel
theorem dX9_begins_6 : decode cX9_begins 6 = .ok (.if_icmp .ge 21, 3) := by decide +kernel
theorem dX9_begins_9 : decode cX9_begins 9 = .ok (.aload_n 0, 1) := by decide +kernel
theorem dX9_begins_10 : decode cX9_begins 10 = .ok (.getfield 13, 3) := by decide +kernel
theorem dX9_begins_13 : decode cX9_begins 13 = .ok (.iload_n 1, 1) := by decide +kernel
theorem dX9_begins_14 : decode cX9_begins 14 = .ok (.aload_n 0, 1) := by decide +kernel
theorem dX9_begins_15 : decode cX9_begins 15 = .ok (.getfield 7, 3) := by decide +kernel
theorem dX9_begins_18 : decode cX9_begins 18 = .ok (.iload_n 1, 1) := by decide +kernel
theorem dX9_begins_19 : decode cX9_begins 19 = .ok (.iaload, 1) := by decide +kernel
theorem dX9_begins_20 : decode cX9_begins 20 = .ok (.iastore, 1) := by decide +kernel
theorem dX9_begins_21 : decode cX9_begins 21 = .ok (.iinc 1 1, 3) := by decide +kernel
theorem dX9_begins_24 : decode cX9_begins 24 = .ok (.goto (-22), 3) := by decide +kernel
theorem dX9_begins_27 : decode cX9_begins 27 = .ok (.return_, 1) := by decide +kernel
theorem dX9_returns_0 : decode cX9_returns 0 = .ok (.iconst 0, 1) := by decide +kernel
theorem dX9_returns_1 : decode cX9_returns 1 = .ok (.istore_n 1, 1) := by decide +kernel
theorem dX9_returns_2 : decode cX9_returns 2 = .ok (.iload_n 1, 1) := by decide +kernel
theorem dX9_returns_3 : decode cX9_returns 3 = .ok (.sipush 256, 3) := by decide +kernel
theorem dX9_returns_6 : decode cX9_returns 6 = .ok (.if_icmp .ge 21, 3) := by decide +kernel
theorem dX9_returns_9 : decode cX9_returns 9 = .ok (.aload_n 0, 1) := by decide +kernel
theorem dX9_returns_10 : decode cX9_returns 10 = .ok (.getfield 7, 3) := by decide +kernel
theorem dX9_returns_13 : decode cX9_returns 13 = .ok (.iload_n 1, 1) := by decide +kernel
theorem dX9_returns_14 : decode cX9_returns 14 = .ok (.aload_n 0, 1) := by decide +kernel
theorem dX9_returns_15 : decode cX9_returns 15 = .ok (.getfield 13, 3) := by decide +kernel
theorem dX9_returns_18 : decode cX9_returns 18 = .ok (.iload_n 1, 1) := by decide +kernel
theorem dX9_returns_19 : decode cX9_returns 19 = .ok (.iaload, 1) := by decide +kernel
theorem dX9_returns_20 : decode cX9_returns 20 = .ok (.iastore, 1) := by decide +kernel
theorem dX9_returns_21 : decode cX9_returns 21 = .ok (.iinc 1 1, 3) := by decide +kernel
theorem dX9_returns_24 : decode cX9_returns 24 = .ok (.goto (-22), 3) := by decide +kernel
theorem dX9_returns_27 : decode cX9_returns 27 = .ok (.return_, 1) := by decide +kernel
theorem dX9_acted_0 : decode cX9_acted 0 = .ok (.iload_n 1, 1) := by decide +kernel
theorem dX9_acted_1 : decode cX9_acted 1 = .ok (.ifCond .ge 9, 3) := by decide +kernel
theorem dX9_acted_4 : decode cX9_acted 4 = .ok (.aload_n 0, 1) := by decide +kernel
theorem dX9_acted_5 : decode cX9_acted 5 = .ok (.invokevirtual 25, 3) := by decide +kernel
theorem dX9_acted_8 : decode cX9_acted 8 = .ok (.iload_n 1, 1) := by decide +kernel
theorem dX9_acted_9 : decode cX9_acted 9 = .ok (.ireturn, 1) := by decide +kernel
theorem dX9_acted_10 : decode cX9_acted 10 = .ok (.aload_n 0, 1) := by decide +kernel
theorem dX9_acted_11 : decode cX9_acted 11 = .ok (.getfield 28, 3) := by decide +kernel
theorem dX9_acted_14 : decode cX9_acted 14 = .ok (.iconst 4, 1) := by decide +kernel
theorem dX9_acted_15 : decode cX9_acted 15 = .ok (.if_icmp .ne 44, 3) := by decide +kernel
theorem dX9_acted_18 : decode cX9_acted 18 = .ok (.iconst 0, 1) := by decide +kernel
theorem dX9_acted_19 : decode cX9_acted 19 = .ok (.istore_n 2, 1) := by decide +kernel
theorem dX9_acted_20 : decode cX9_acted 20 = .ok (.iload_n 2, 1) := by decide +kernel
theorem dX9_acted_21 : decode cX9_acted 21 = .ok (.sipush 768, 3) := by decide +kernel
theorem dX9_acted_24 : decode cX9_acted 24 = .ok (.if_icmp .ge 25, 3) := by decide +kernel
theorem dX9_acted_27 : decode cX9_acted 27 = .ok (.aload_n 0, 1) := by decide +kernel
theorem dX9_acted_28 : decode cX9_acted 28 = .ok (.getfield 16, 3) := by decide +kernel
theorem dX9_acted_31 : decode cX9_acted 31 = .ok (.iload_n 2, 1) := by decide +kernel
theorem dX9_acted_32 : decode cX9_acted 32 = .ok (.aload_n 0, 1) := by decide +kernel
theorem dX9_acted_33 : decode cX9_acted 33 = .ok (.getfield 16, 3) := by decide +kernel
theorem dX9_acted_36 : decode cX9_acted 36 = .ok (.iload_n 2, 1) := by decide +kernel
end
section
theorem dX9_acted_37 : decode cX9_acted 37 = .ok (.sipush 256, 3) := by decide +kernel
theorem dX9_acted_40 : decode cX9_acted 40 = .ok (.iadd, 1) := by decide +kernel
theorem dX9_acted_41 : decode cX9_acted 41 = .ok (.iaload, 1) := by decide +kernel
theorem dX9_acted_42 : decode cX9_acted 42 = .ok (.iastore, 1) := by decide +kernel
theorem dX9_acted_43 : decode cX9_acted 43 = .ok (.iinc 2 1, 3) := by decide +kernel
theorem dX9_acted_46 : decode cX9_acted 46 = .ok (.goto (-26), 3) := by decide +kernel
theorem dX9_acted_49 : decode cX9_acted 49 = .ok (.aload_n 0, 1) := by decide +kernel
theorem dX9_acted_50 : decode cX9_acted 50 = .ok (.dup, 1) := by decide +kernel
theorem dX9_acted_51 : decode cX9_acted 51 = .ok (.getfield 28, 3) := by decide +kernel
theorem dX9_acted_54 : decode cX9_acted 54 = .ok (.iconst 1, 1) := by decide +kernel
theorem dX9_acted_55 : decode cX9_acted 55 = .ok (.isub, 1) := by decide +kernel
theorem dX9_acted_56 : decode cX9_acted 56 = .ok (.putfield 28, 3) := by decide +kernel
theorem dX9_acted_59 : decode cX9_acted 59 = .ok (.iconst 0, 1) := by decide +kernel
theorem dX9_acted_60 : decode cX9_acted 60 = .ok (.istore_n 2, 1) := by decide +kernel
theorem dX9_acted_61 : decode cX9_acted 61 = .ok (.iload_n 2, 1) := by decide +kernel
theorem dX9_acted_62 : decode cX9_acted 62 = .ok (.sipush 256, 3) := by decide +kernel
theorem dX9_acted_65 : decode cX9_acted 65 = .ok (.if_icmp .ge 30, 3) := by decide +kernel
theorem dX9_acted_68 : decode cX9_acted 68 = .ok (.aload_n 0, 1) := by decide +kernel
theorem dX9_acted_69 : decode cX9_acted 69 = .ok (.getfield 16, 3) := by decide +kernel
theorem dX9_acted_72 : decode cX9_acted 72 = .ok (.sipush 256, 3) := by decide +kernel
theorem dX9_acted_75 : decode cX9_acted 75 = .ok (.aload_n 0, 1) := by decide +kernel
theorem dX9_acted_76 : decode cX9_acted 76 = .ok (.getfield 28, 3) := by decide +kernel
theorem dX9_acted_79 : decode cX9_acted 79 = .ok (.imul, 1) := by decide +kernel
theorem dX9_acted_80 : decode cX9_acted 80 = .ok (.iload_n 2, 1) := by decide +kernel
theorem dX9_acted_81 : decode cX9_acted 81 = .ok (.iadd, 1) := by decide +kernel
theorem dX9_acted_82 : decode cX9_acted 82 = .ok (.aload_n 0, 1) := by decide +kernel
theorem dX9_acted_83 : decode cX9_acted 83 = .ok (.getfield 13, 3) := by decide +kernel
theorem dX9_acted_86 : decode cX9_acted 86 = .ok (.iload_n 2, 1) := by decide +kernel
theorem dX9_acted_87 : decode cX9_acted 87 = .ok (.iaload, 1) := by decide +kernel
theorem dX9_acted_88 : decode cX9_acted 88 = .ok (.iastore, 1) := by decide +kernel
theorem dX9_acted_89 : decode cX9_acted 89 = .ok (.iinc 2 1, 3) := by decide +kernel
theorem dX9_acted_92 : decode cX9_acted 92 = .ok (.goto (-31), 3) := by decide +kernel
theorem dX9_acted_95 : decode cX9_acted 95 = .ok (.aload_n 0, 1) := by decide +kernel
theorem dX9_acted_96 : decode cX9_acted 96 = .ok (.dup, 1) := by decide +kernel
theorem dX9_acted_97 : decode cX9_acted 97 = .ok (.getfield 28, 3) := by decide +kernel
theorem dX9_acted_100 : decode cX9_acted 100 = .ok (.iconst 1, 1) := by decide +kernel
theorem dX9_acted_101 : decode cX9_acted 101 = .ok (.iadd, 1) := by decide +kernel
theorem dX9_acted_102 : decode cX9_acted 102 = .ok (.putfield 28, 3) := by decide +kernel
theorem dX9_acted_105 : decode cX9_acted 105 = .ok (.iload_n 1, 1) := by decide +kernel
theorem dX9_acted_106 : decode cX9_acted 106 = .ok (.ireturn, 1) := by decide +kernel
theorem dX9_isBlock_0 : decode cX9_isBlock 0 = .ok (.iload_n 0, 1) := by decide +kernel
theorem dX9_isBlock_1 : decode cX9_isBlock 1 = .ok (.iconst 0, 1) := by decide +kernel
theorem dX9_isBlock_2 : decode cX9_isBlock 2 = .ok (.iconst 1, 1) := by decide +kernel
theorem dX9_isBlock_3 : decode cX9_isBlock 3 = .ok (.invokestatic 32, 3) := by decide +kernel
theorem dX9_isBlock_6 : decode cX9_isBlock 6 = .ok (.ireturn, 1) := by decide +kernel
theorem dX9_isOff_0 : decode cX9_isOff 0 = .ok (.aload_n 0, 1) := by decide +kernel
theorem dX9_isOff_1 : decode cX9_isOff 1 = .ok (.getfield 7, 3) := by decide +kernel
theorem dX9_isOff_4 : decode cX9_isOff 4 = .ok (.iconst 1, 1) := by decide +kernel
theorem dX9_isOff_5 : decode cX9_isOff 5 = .ok (.iaload, 1) := by decide +kernel
theorem dX9_isOff_6 : decode cX9_isOff 6 = .ok (.iconst 1, 1) := by decide +kernel
theorem dX9_isOff_7 : decode cX9_isOff 7 = .ok (.if_icmp .ne 7, 3) := by decide +kernel
theorem dX9_isOff_10 : decode cX9_isOff 10 = .ok (.iconst 1, 1) := by decide +kernel
theorem dX9_isOff_11 : decode cX9_isOff 11 = .ok (.goto 4, 3) := by decide +kernel
theorem dX9_isOff_14 : decode cX9_isOff 14 = .ok (.iconst 0, 1) := by decide +kernel
theorem dX9_isOff_15 : decode cX9_isOff 15 = .ok (.ireturn, 1) := by decide +kernel
theorem dX9_isLate_0 : decode cX9_isLate 0 = .ok (.iload_n 0, 1) := by decide +kernel
theorem dX9_isLate_1 : decode cX9_isLate 1 = .ok (.bipush 15, 2) := by decide +kernel
theorem dX9_isLate_3 : decode cX9_isLate 3 = .ok (.if_icmp .eq 13, 3) := by decide +kernel
theorem dX9_isLate_6 : decode cX9_isLate 6 = .ok (.iload_n 0, 1) := by decide +kernel
theorem dX9_isLate_7 : decode cX9_isLate 7 = .ok (.ifCond .le 13, 3) := by decide +kernel
theorem dX9_isLate_10 : decode cX9_isLate 10 = .ok (.iload_n 0, 1) := by decide +kernel
theorem dX9_isLate_11 : decode cX9_isLate 11 = .ok (.iconst 2, 1) := by decide +kernel
theorem dX9_isLate_12 : decode cX9_isLate 12 = .ok (.irem, 1) := by decide +kernel
theorem dX9_isLate_13 : decode cX9_isLate 13 = .ok (.ifCond .ne 7, 3) := by decide +kernel
theorem dX9_isLate_16 : decode cX9_isLate 16 = .ok (.iconst 1, 1) := by decide +kernel
theorem dX9_isLate_17 : decode cX9_isLate 17 = .ok (.goto 4, 3) := by decide +kernel
theorem dX9_isLate_20 : decode cX9_isLate 20 = .ok (.iconst 0, 1) := by decide +kernel
theorem dX9_isLate_21 : decode cX9_isLate 21 = .ok (.ireturn, 1) := by decide +kernel
theorem dX9_lineOf_0 : decode cX9_lineOf 0 = .ok (.iload_n 0, 1) := by decide +kernel
theorem dX9_lineOf_1 : decode cX9_lineOf 1 = .ok (.bipush 15, 2) := by decide +kernel
theorem dX9_lineOf_3 : decode cX9_lineOf 3 = .ok (.if_icmp .ne 8, 3) := by decide +kernel
theorem dX9_lineOf_6 : decode cX9_lineOf 6 = .ok (.bipush 7, 2) := by decide +kernel
theorem dX9_lineOf_8 : decode cX9_lineOf 8 = .ok (.goto 23, 3) := by decide +kernel
theorem dX9_lineOf_11 : decode cX9_lineOf 11 = .ok (.iload_n 0, 1) := by decide +kernel
theorem dX9_lineOf_12 : decode cX9_lineOf 12 = .ok (.invokestatic 36, 3) := by decide +kernel
theorem dX9_lineOf_15 : decode cX9_lineOf 15 = .ok (.ifCond .eq 11, 3) := by decide +kernel
theorem dX9_lineOf_18 : decode cX9_lineOf 18 = .ok (.iload_n 0, 1) := by decide +kernel
theorem dX9_lineOf_19 : decode cX9_lineOf 19 = .ok (.iconst 2, 1) := by decide +kernel
theorem dX9_lineOf_20 : decode cX9_lineOf 20 = .ok (.idiv, 1) := by decide +kernel
theorem dX9_lineOf_21 : decode cX9_lineOf 21 = .ok (.iconst 1, 1) := by decide +kernel
theorem dX9_lineOf_22 : decode cX9_lineOf 22 = .ok (.isub, 1) := by decide +kernel
theorem dX9_lineOf_23 : decode cX9_lineOf 23 = .ok (.goto 8, 3) := by decide +kernel
theorem dX9_lineOf_26 : decode cX9_lineOf 26 = .ok (.iload_n 0, 1) := by decide +kernel
theorem dX9_lineOf_27 : decode cX9_lineOf 27 = .ok (.iconst 1, 1) := by decide +kernel
theorem dX9_lineOf_28 : decode cX9_lineOf 28 = .ok (.iadd, 1) := by decide +kernel
theorem dX9_lineOf_29 : decode cX9_lineOf 29 = .ok (.iconst 2, 1) := by decide +kernel
theorem dX9_lineOf_30 : decode cX9_lineOf 30 = .ok (.idiv, 1) := by decide +kernel
theorem dX9_lineOf_31 : decode cX9_lineOf 31 = .ok (.ireturn, 1) := by decide +kernel
theorem dX9_earlyOf_0 : decode cX9_earlyOf 0 = .ok (.iload_n 0, 1) := by decide +kernel
theorem dX9_earlyOf_1 : decode cX9_earlyOf 1 = .ok (.ifCond .ne 7, 3) := by decide +kernel
theorem dX9_earlyOf_4 : decode cX9_earlyOf 4 = .ok (.iconst 0, 1) := by decide +kernel
theorem dX9_earlyOf_5 : decode cX9_earlyOf 5 = .ok (.goto 8, 3) := by decide +kernel
theorem dX9_earlyOf_8 : decode cX9_earlyOf 8 = .ok (.iconst 2, 1) := by decide +kernel
theorem dX9_earlyOf_9 : decode cX9_earlyOf 9 = .ok (.iload_n 0, 1) := by decide +kernel
theorem dX9_earlyOf_10 : decode cX9_earlyOf 10 = .ok (.imul, 1) := by decide +kernel
theorem dX9_earlyOf_11 : decode cX9_earlyOf 11 = .ok (.iconst 1, 1) := by decide +kernel
theorem dX9_earlyOf_12 : decode cX9_earlyOf 12 = .ok (.isub, 1) := by decide +kernel
theorem dX9_earlyOf_13 : decode cX9_earlyOf 13 = .ok (.ireturn, 1) := by decide +kernel
theorem dX9_pageAt_0 : decode cX9_pageAt 0 = .ok (.bipush 24, 2) := by decide +kernel
theorem dX9_pageAt_2 : decode cX9_pageAt 2 = .ok (.iconst 4, 1) := by decide +kernel
theorem dX9_pageAt_3 : decode cX9_pageAt 3 = .ok (.bipush 16, 2) := by decide +kernel
theorem dX9_pageAt_5 : decode cX9_pageAt 5 = .ok (.iload_n 1, 1) := by decide +kernel
theorem dX9_pageAt_6 : decode cX9_pageAt 6 = .ok (.imul, 1) := by decide +kernel
theorem dX9_pageAt_7 : decode cX9_pageAt 7 = .ok (.iload_n 2, 1) := by decide +kernel
theorem dX9_pageAt_8 : decode cX9_pageAt 8 = .ok (.iadd, 1) := by decide +kernel
theorem dX9_pageAt_9 : decode cX9_pageAt 9 = .ok (.imul, 1) := by decide +kernel
theorem dX9_pageAt_10 : decode cX9_pageAt 10 = .ok (.iadd, 1) := by decide +kernel
theorem dX9_pageAt_11 : decode cX9_pageAt 11 = .ok (.ireturn, 1) := by decide +kernel
theorem dX9_backupAt_0 : decode cX9_backupAt 0 = .ok (.sipush 152, 3) := by decide +kernel
theorem dX9_backupAt_3 : decode cX9_backupAt 3 = .ok (.iconst 4, 1) := by decide +kernel
theorem dX9_backupAt_4 : decode cX9_backupAt 4 = .ok (.bipush 8, 2) := by decide +kernel
theorem dX9_backupAt_6 : decode cX9_backupAt 6 = .ok (.iload_n 1, 1) := by decide +kernel
theorem dX9_backupAt_7 : decode cX9_backupAt 7 = .ok (.imul, 1) := by decide +kernel
theorem dX9_backupAt_8 : decode cX9_backupAt 8 = .ok (.iload_n 2, 1) := by decide +kernel
theorem dX9_backupAt_9 : decode cX9_backupAt 9 = .ok (.iadd, 1) := by decide +kernel
theorem dX9_backupAt_10 : decode cX9_backupAt 10 = .ok (.imul, 1) := by decide +kernel
theorem dX9_backupAt_11 : decode cX9_backupAt 11 = .ok (.iadd, 1) := by decide +kernel
theorem dX9_backupAt_12 : decode cX9_backupAt 12 = .ok (.ireturn, 1) := by decide +kernel
theorem dX9_next_0 : decode cX9_next 0 = .ok (.iconst 0, 1) := by decide +kernel
theorem dX9_next_1 : decode cX9_next 1 = .ok (.istore_n 1, 1) := by decide +kernel
theorem dX9_next_2 : decode cX9_next 2 = .ok (.iload_n 1, 1) := by decide +kernel
theorem dX9_next_3 : decode cX9_next 3 = .ok (.bipush 16, 2) := by decide +kernel
theorem dX9_next_5 : decode cX9_next 5 = .ok (.if_icmp .ge 28, 3) := by decide +kernel
theorem dX9_next_8 : decode cX9_next 8 = .ok (.aload_n 0, 1) := by decide +kernel
theorem dX9_next_9 : decode cX9_next 9 = .ok (.getfield 7, 3) := by decide +kernel
theorem dX9_next_12 : decode cX9_next 12 = .ok (.aload_n 0, 1) := by decide +kernel
theorem dX9_next_13 : decode cX9_next 13 = .ok (.aload_n 0, 1) := by decide +kernel
theorem dX9_next_14 : decode cX9_next 14 = .ok (.getfield 7, 3) := by decide +kernel
theorem dX9_next_17 : decode cX9_next 17 = .ok (.iconst 2, 1) := by decide +kernel
theorem dX9_next_18 : decode cX9_next 18 = .ok (.iaload, 1) := by decide +kernel
theorem dX9_next_19 : decode cX9_next 19 = .ok (.iload_n 1, 1) := by decide +kernel
theorem dX9_next_20 : decode cX9_next 20 = .ok (.invokevirtual 40, 3) := by decide +kernel
theorem dX9_next_23 : decode cX9_next 23 = .ok (.iaload, 1) := by decide +kernel
theorem dX9_next_24 : decode cX9_next 24 = .ok (.ifCond .eq 9, 3) := by decide +kernel
theorem dX9_next_27 : decode cX9_next 27 = .ok (.iinc 1 1, 3) := by decide +kernel
theorem dX9_next_30 : decode cX9_next 30 = .ok (.goto (-28), 3) := by decide +kernel
theorem dX9_next_33 : decode cX9_next 33 = .ok (.iload_n 1, 1) := by decide +kernel
theorem dX9_next_34 : decode cX9_next 34 = .ok (.ireturn, 1) := by decide +kernel
theorem dX9_isBlank_0 : decode cX9_isBlank 0 = .ok (.iconst 1, 1) := by decide +kernel
theorem dX9_isBlank_1 : decode cX9_isBlank 1 = .ok (.istore_n 2, 1) := by decide +kernel
theorem dX9_isBlank_2 : decode cX9_isBlank 2 = .ok (.iconst 0, 1) := by decide +kernel
theorem dX9_isBlank_3 : decode cX9_isBlank 3 = .ok (.istore_n 3, 1) := by decide +kernel
theorem dX9_isBlank_4 : decode cX9_isBlank 4 = .ok (.iload_n 3, 1) := by decide +kernel
theorem dX9_isBlank_5 : decode cX9_isBlank 5 = .ok (.bipush 16, 2) := by decide +kernel
theorem dX9_isBlank_7 : decode cX9_isBlank 7 = .ok (.if_icmp .ge 33, 3) := by decide +kernel
theorem dX9_isBlank_10 : decode cX9_isBlank 10 = .ok (.iload_n 2, 1) := by decide +kernel
theorem dX9_isBlank_11 : decode cX9_isBlank 11 = .ok (.ifCond .eq 21, 3) := by decide +kernel
theorem dX9_isBlank_14 : decode cX9_isBlank 14 = .ok (.aload_n 0, 1) := by decide +kernel
theorem dX9_isBlank_15 : decode cX9_isBlank 15 = .ok (.getfield 7, 3) := by decide +kernel
theorem dX9_isBlank_18 : decode cX9_isBlank 18 = .ok (.aload_n 0, 1) := by decide +kernel
theorem dX9_isBlank_19 : decode cX9_isBlank 19 = .ok (.iload_n 1, 1) := by decide +kernel
theorem dX9_isBlank_20 : decode cX9_isBlank 20 = .ok (.iload_n 3, 1) := by decide +kernel
theorem dX9_isBlank_21 : decode cX9_isBlank 21 = .ok (.invokevirtual 40, 3) := by decide +kernel
theorem dX9_isBlank_24 : decode cX9_isBlank 24 = .ok (.iaload, 1) := by decide +kernel
theorem dX9_isBlank_25 : decode cX9_isBlank 25 = .ok (.ifCond .ne 7, 3) := by decide +kernel
theorem dX9_isBlank_28 : decode cX9_isBlank 28 = .ok (.iconst 1, 1) := by decide +kernel
theorem dX9_isBlank_29 : decode cX9_isBlank 29 = .ok (.goto 4, 3) := by decide +kernel
theorem dX9_isBlank_32 : decode cX9_isBlank 32 = .ok (.iconst 0, 1) := by decide +kernel
theorem dX9_isBlank_33 : decode cX9_isBlank 33 = .ok (.istore_n 2, 1) := by decide +kernel
theorem dX9_isBlank_34 : decode cX9_isBlank 34 = .ok (.iinc 3 1, 3) := by decide +kernel
theorem dX9_isBlank_37 : decode cX9_isBlank 37 = .ok (.goto (-33), 3) := by decide +kernel
theorem dX9_isBlank_40 : decode cX9_isBlank 40 = .ok (.iload_n 2, 1) := by decide +kernel
theorem dX9_isBlank_41 : decode cX9_isBlank 41 = .ok (.ireturn, 1) := by decide +kernel
theorem dX9_placeOfKey_0 : decode cX9_placeOfKey 0 = .ok (.iconst (-1), 1) := by decide +kernel
theorem dX9_placeOfKey_1 : decode cX9_placeOfKey 1 = .ok (.istore_n 2, 1) := by decide +kernel
theorem dX9_placeOfKey_2 : decode cX9_placeOfKey 2 = .ok (.iconst 0, 1) := by decide +kernel
theorem dX9_placeOfKey_3 : decode cX9_placeOfKey 3 = .ok (.istore_n 3, 1) := by decide +kernel
theorem dX9_placeOfKey_4 : decode cX9_placeOfKey 4 = .ok (.iconst 0, 1) := by decide +kernel
theorem dX9_placeOfKey_5 : decode cX9_placeOfKey 5 = .ok (.istore 4, 2) := by decide +kernel
theorem dX9_placeOfKey_7 : decode cX9_placeOfKey 7 = .ok (.iload 4, 2) := by decide +kernel
theorem dX9_placeOfKey_9 : decode cX9_placeOfKey 9 = .ok (.bipush 48, 2) := by decide +kernel
theorem dX9_placeOfKey_11 : decode cX9_placeOfKey 11 = .ok (.if_icmp .ge 92, 3) := by decide +kernel
theorem dX9_placeOfKey_14 : decode cX9_placeOfKey 14 = .ok (.aload_n 0, 1) := by decide +kernel
theorem dX9_placeOfKey_15 : decode cX9_placeOfKey 15 = .ok (.iload 4, 2) := by decide +kernel
theorem dX9_placeOfKey_17 : decode cX9_placeOfKey 17 = .ok (.invokevirtual 44, 3) := by decide +kernel
theorem dX9_placeOfKey_20 : decode cX9_placeOfKey 20 = .ok (.istore 5, 2) := by decide +kernel
theorem dX9_placeOfKey_22 : decode cX9_placeOfKey 22 = .ok (.aload_n 0, 1) := by decide +kernel
theorem dX9_placeOfKey_23 : decode cX9_placeOfKey 23 = .ok (.getfield 7, 3) := by decide +kernel
theorem dX9_placeOfKey_26 : decode cX9_placeOfKey 26 = .ok (.iload 5, 2) := by decide +kernel
theorem dX9_placeOfKey_28 : decode cX9_placeOfKey 28 = .ok (.iaload, 1) := by decide +kernel
theorem dX9_placeOfKey_29 : decode cX9_placeOfKey 29 = .ok (.iconst 2, 1) := by decide +kernel
theorem dX9_placeOfKey_30 : decode cX9_placeOfKey 30 = .ok (.if_icmp .ne 33, 3) := by decide +kernel
theorem dX9_placeOfKey_33 : decode cX9_placeOfKey 33 = .ok (.aload_n 0, 1) := by decide +kernel
theorem dX9_placeOfKey_34 : decode cX9_placeOfKey 34 = .ok (.getfield 7, 3) := by decide +kernel
theorem dX9_placeOfKey_37 : decode cX9_placeOfKey 37 = .ok (.iload 5, 2) := by decide +kernel
theorem dX9_placeOfKey_39 : decode cX9_placeOfKey 39 = .ok (.iconst 1, 1) := by decide +kernel
theorem dX9_placeOfKey_40 : decode cX9_placeOfKey 40 = .ok (.iadd, 1) := by decide +kernel
theorem dX9_placeOfKey_41 : decode cX9_placeOfKey 41 = .ok (.iaload, 1) := by decide +kernel
theorem dX9_placeOfKey_42 : decode cX9_placeOfKey 42 = .ok (.iload_n 1, 1) := by decide +kernel
theorem dX9_placeOfKey_43 : decode cX9_placeOfKey 43 = .ok (.if_icmp .ne 20, 3) := by decide +kernel
theorem dX9_placeOfKey_46 : decode cX9_placeOfKey 46 = .ok (.aload_n 0, 1) := by decide +kernel
theorem dX9_placeOfKey_47 : decode cX9_placeOfKey 47 = .ok (.getfield 7, 3) := by decide +kernel
theorem dX9_placeOfKey_50 : decode cX9_placeOfKey 50 = .ok (.iload 5, 2) := by decide +kernel
theorem dX9_placeOfKey_52 : decode cX9_placeOfKey 52 = .ok (.iconst 3, 1) := by decide +kernel
theorem dX9_placeOfKey_53 : decode cX9_placeOfKey 53 = .ok (.iadd, 1) := by decide +kernel
theorem dX9_placeOfKey_54 : decode cX9_placeOfKey 54 = .ok (.iaload, 1) := by decide +kernel
theorem dX9_placeOfKey_55 : decode cX9_placeOfKey 55 = .ok (.iload_n 3, 1) := by decide +kernel
theorem dX9_placeOfKey_56 : decode cX9_placeOfKey 56 = .ok (.if_icmp .le 7, 3) := by decide +kernel
theorem dX9_placeOfKey_59 : decode cX9_placeOfKey 59 = .ok (.iconst 1, 1) := by decide +kernel
theorem dX9_placeOfKey_60 : decode cX9_placeOfKey 60 = .ok (.goto 4, 3) := by decide +kernel
theorem dX9_placeOfKey_63 : decode cX9_placeOfKey 63 = .ok (.iconst 0, 1) := by decide +kernel
theorem dX9_placeOfKey_64 : decode cX9_placeOfKey 64 = .ok (.istore 6, 2) := by decide +kernel
theorem dX9_placeOfKey_66 : decode cX9_placeOfKey 66 = .ok (.iload 6, 2) := by decide +kernel
theorem dX9_placeOfKey_68 : decode cX9_placeOfKey 68 = .ok (.ifCond .eq 8, 3) := by decide +kernel
theorem dX9_placeOfKey_71 : decode cX9_placeOfKey 71 = .ok (.iload 4, 2) := by decide +kernel
theorem dX9_placeOfKey_73 : decode cX9_placeOfKey 73 = .ok (.goto 4, 3) := by decide +kernel
theorem dX9_placeOfKey_76 : decode cX9_placeOfKey 76 = .ok (.iload_n 2, 1) := by decide +kernel
theorem dX9_placeOfKey_77 : decode cX9_placeOfKey 77 = .ok (.istore_n 2, 1) := by decide +kernel
theorem dX9_placeOfKey_78 : decode cX9_placeOfKey 78 = .ok (.iload 6, 2) := by decide +kernel
theorem dX9_placeOfKey_80 : decode cX9_placeOfKey 80 = .ok (.ifCond .eq 15, 3) := by decide +kernel
theorem dX9_placeOfKey_83 : decode cX9_placeOfKey 83 = .ok (.aload_n 0, 1) := by decide +kernel
theorem dX9_placeOfKey_84 : decode cX9_placeOfKey 84 = .ok (.getfield 7, 3) := by decide +kernel
theorem dX9_placeOfKey_87 : decode cX9_placeOfKey 87 = .ok (.iload 5, 2) := by decide +kernel
theorem dX9_placeOfKey_89 : decode cX9_placeOfKey 89 = .ok (.iconst 3, 1) := by decide +kernel
theorem dX9_placeOfKey_90 : decode cX9_placeOfKey 90 = .ok (.iadd, 1) := by decide +kernel
theorem dX9_placeOfKey_91 : decode cX9_placeOfKey 91 = .ok (.iaload, 1) := by decide +kernel
theorem dX9_placeOfKey_92 : decode cX9_placeOfKey 92 = .ok (.goto 4, 3) := by decide +kernel
theorem dX9_placeOfKey_95 : decode cX9_placeOfKey 95 = .ok (.iload_n 3, 1) := by decide +kernel
theorem dX9_placeOfKey_96 : decode cX9_placeOfKey 96 = .ok (.istore_n 3, 1) := by decide +kernel
theorem dX9_placeOfKey_97 : decode cX9_placeOfKey 97 = .ok (.iinc 4 1, 3) := by decide +kernel
theorem dX9_placeOfKey_100 : decode cX9_placeOfKey 100 = .ok (.goto (-93), 3) := by decide +kernel
theorem dX9_placeOfKey_103 : decode cX9_placeOfKey 103 = .ok (.iload_n 2, 1) := by decide +kernel
theorem dX9_placeOfKey_104 : decode cX9_placeOfKey 104 = .ok (.ireturn, 1) := by decide +kernel
theorem dX9_atPlace_0 : decode cX9_atPlace 0 = .ok (.iload_n 1, 1) := by decide +kernel
theorem dX9_atPlace_1 : decode cX9_atPlace 1 = .ok (.bipush 24, 2) := by decide +kernel
theorem dX9_atPlace_3 : decode cX9_atPlace 3 = .ok (.idiv, 1) := by decide +kernel
theorem dX9_atPlace_4 : decode cX9_atPlace 4 = .ok (.istore_n 2, 1) := by decide +kernel
theorem dX9_atPlace_5 : decode cX9_atPlace 5 = .ok (.iload_n 1, 1) := by decide +kernel
theorem dX9_atPlace_6 : decode cX9_atPlace 6 = .ok (.bipush 24, 2) := by decide +kernel
theorem dX9_atPlace_8 : decode cX9_atPlace 8 = .ok (.irem, 1) := by decide +kernel
theorem dX9_atPlace_9 : decode cX9_atPlace 9 = .ok (.bipush 16, 2) := by decide +kernel
theorem dX9_atPlace_11 : decode cX9_atPlace 11 = .ok (.if_icmp .ge 15, 3) := by decide +kernel
theorem dX9_atPlace_14 : decode cX9_atPlace 14 = .ok (.aload_n 0, 1) := by decide +kernel
theorem dX9_atPlace_15 : decode cX9_atPlace 15 = .ok (.iload_n 2, 1) := by decide +kernel
theorem dX9_atPlace_16 : decode cX9_atPlace 16 = .ok (.iload_n 1, 1) := by decide +kernel
theorem dX9_atPlace_17 : decode cX9_atPlace 17 = .ok (.bipush 24, 2) := by decide +kernel
theorem dX9_atPlace_19 : decode cX9_atPlace 19 = .ok (.irem, 1) := by decide +kernel
theorem dX9_atPlace_20 : decode cX9_atPlace 20 = .ok (.invokevirtual 40, 3) := by decide +kernel
theorem dX9_atPlace_23 : decode cX9_atPlace 23 = .ok (.goto 15, 3) := by decide +kernel
theorem dX9_atPlace_26 : decode cX9_atPlace 26 = .ok (.aload_n 0, 1) := by decide +kernel
theorem dX9_atPlace_27 : decode cX9_atPlace 27 = .ok (.iload_n 2, 1) := by decide +kernel
theorem dX9_atPlace_28 : decode cX9_atPlace 28 = .ok (.iload_n 1, 1) := by decide +kernel
theorem dX9_atPlace_29 : decode cX9_atPlace 29 = .ok (.bipush 24, 2) := by decide +kernel
theorem dX9_atPlace_31 : decode cX9_atPlace 31 = .ok (.irem, 1) := by decide +kernel
theorem dX9_atPlace_32 : decode cX9_atPlace 32 = .ok (.bipush 16, 2) := by decide +kernel
theorem dX9_atPlace_34 : decode cX9_atPlace 34 = .ok (.isub, 1) := by decide +kernel
theorem dX9_atPlace_35 : decode cX9_atPlace 35 = .ok (.invokevirtual 48, 3) := by decide +kernel
theorem dX9_atPlace_38 : decode cX9_atPlace 38 = .ok (.ireturn, 1) := by decide +kernel
theorem dX9_stampOf_0 : decode cX9_stampOf 0 = .ok (.aload_n 0, 1) := by decide +kernel
theorem dX9_stampOf_1 : decode cX9_stampOf 1 = .ok (.iload_n 1, 1) := by decide +kernel
theorem dX9_stampOf_2 : decode cX9_stampOf 2 = .ok (.invokevirtual 51, 3) := by decide +kernel
theorem dX9_stampOf_5 : decode cX9_stampOf 5 = .ok (.istore_n 2, 1) := by decide +kernel
theorem dX9_stampOf_6 : decode cX9_stampOf 6 = .ok (.iload_n 2, 1) := by decide +kernel
theorem dX9_stampOf_7 : decode cX9_stampOf 7 = .ok (.ifCond .ge 7, 3) := by decide +kernel
theorem dX9_stampOf_10 : decode cX9_stampOf 10 = .ok (.iconst 0, 1) := by decide +kernel
theorem dX9_stampOf_11 : decode cX9_stampOf 11 = .ok (.goto 15, 3) := by decide +kernel
theorem dX9_stampOf_14 : decode cX9_stampOf 14 = .ok (.aload_n 0, 1) := by decide +kernel
theorem dX9_stampOf_15 : decode cX9_stampOf 15 = .ok (.getfield 7, 3) := by decide +kernel
theorem dX9_stampOf_18 : decode cX9_stampOf 18 = .ok (.aload_n 0, 1) := by decide +kernel
theorem dX9_stampOf_19 : decode cX9_stampOf 19 = .ok (.iload_n 2, 1) := by decide +kernel
theorem dX9_stampOf_20 : decode cX9_stampOf 20 = .ok (.invokevirtual 44, 3) := by decide +kernel
theorem dX9_stampOf_23 : decode cX9_stampOf 23 = .ok (.iconst 3, 1) := by decide +kernel
theorem dX9_stampOf_24 : decode cX9_stampOf 24 = .ok (.iadd, 1) := by decide +kernel
theorem dX9_stampOf_25 : decode cX9_stampOf 25 = .ok (.iaload, 1) := by decide +kernel
theorem dX9_stampOf_26 : decode cX9_stampOf 26 = .ok (.ireturn, 1) := by decide +kernel
theorem dX9_comes_0 : decode cX9_comes 0 = .ok (.aload_n 0, 1) := by decide +kernel
theorem dX9_comes_1 : decode cX9_comes 1 = .ok (.getfield 7, 3) := by decide +kernel
theorem dX9_comes_4 : decode cX9_comes 4 = .ok (.bipush 11, 2) := by decide +kernel
theorem dX9_comes_6 : decode cX9_comes 6 = .ok (.iaload, 1) := by decide +kernel
theorem dX9_comes_7 : decode cX9_comes 7 = .ok (.istore 5, 2) := by decide +kernel
theorem dX9_comes_9 : decode cX9_comes 9 = .ok (.iload 5, 2) := by decide +kernel
theorem dX9_comes_11 : decode cX9_comes 11 = .ok (.ifCond .le 79, 3) := by decide +kernel
theorem dX9_comes_14 : decode cX9_comes 14 = .ok (.aload_n 0, 1) := by decide +kernel
theorem dX9_comes_15 : decode cX9_comes 15 = .ok (.getfield 7, 3) := by decide +kernel
theorem dX9_comes_18 : decode cX9_comes 18 = .ok (.sipush 216, 3) := by decide +kernel
theorem dX9_comes_21 : decode cX9_comes 21 = .ok (.iconst 4, 1) := by decide +kernel
theorem dX9_comes_22 : decode cX9_comes 22 = .ok (.iload 5, 2) := by decide +kernel
theorem dX9_comes_24 : decode cX9_comes 24 = .ok (.iconst 1, 1) := by decide +kernel
theorem dX9_comes_25 : decode cX9_comes 25 = .ok (.isub, 1) := by decide +kernel
theorem dX9_comes_26 : decode cX9_comes 26 = .ok (.imul, 1) := by decide +kernel
theorem dX9_comes_27 : decode cX9_comes 27 = .ok (.iadd, 1) := by decide +kernel
theorem dX9_comes_28 : decode cX9_comes 28 = .ok (.iconst 2, 1) := by decide +kernel
theorem dX9_comes_29 : decode cX9_comes 29 = .ok (.iadd, 1) := by decide +kernel
theorem dX9_comes_30 : decode cX9_comes 30 = .ok (.iaload, 1) := by decide +kernel
theorem dX9_comes_31 : decode cX9_comes 31 = .ok (.iload_n 3, 1) := by decide +kernel
theorem dX9_comes_32 : decode cX9_comes 32 = .ok (.if_icmp .le 58, 3) := by decide +kernel
theorem dX9_comes_35 : decode cX9_comes 35 = .ok (.iconst 0, 1) := by decide +kernel
theorem dX9_comes_36 : decode cX9_comes 36 = .ok (.istore 6, 2) := by decide +kernel
theorem dX9_comes_38 : decode cX9_comes 38 = .ok (.iload 6, 2) := by decide +kernel
theorem dX9_comes_40 : decode cX9_comes 40 = .ok (.iconst 4, 1) := by decide +kernel
theorem dX9_comes_41 : decode cX9_comes 41 = .ok (.if_icmp .ge 43, 3) := by decide +kernel
theorem dX9_comes_44 : decode cX9_comes 44 = .ok (.aload_n 0, 1) := by decide +kernel
theorem dX9_comes_45 : decode cX9_comes 45 = .ok (.getfield 7, 3) := by decide +kernel
theorem dX9_comes_48 : decode cX9_comes 48 = .ok (.sipush 216, 3) := by decide +kernel
theorem dX9_comes_51 : decode cX9_comes 51 = .ok (.iconst 4, 1) := by decide +kernel
theorem dX9_comes_52 : decode cX9_comes 52 = .ok (.iload 5, 2) := by decide +kernel
theorem dX9_comes_54 : decode cX9_comes 54 = .ok (.imul, 1) := by decide +kernel
theorem dX9_comes_55 : decode cX9_comes 55 = .ok (.iadd, 1) := by decide +kernel
theorem dX9_comes_56 : decode cX9_comes 56 = .ok (.iload 6, 2) := by decide +kernel
theorem dX9_comes_58 : decode cX9_comes 58 = .ok (.iadd, 1) := by decide +kernel
theorem dX9_comes_59 : decode cX9_comes 59 = .ok (.aload_n 0, 1) := by decide +kernel
theorem dX9_comes_60 : decode cX9_comes 60 = .ok (.getfield 7, 3) := by decide +kernel
theorem dX9_comes_63 : decode cX9_comes 63 = .ok (.sipush 216, 3) := by decide +kernel
theorem dX9_comes_66 : decode cX9_comes 66 = .ok (.iconst 4, 1) := by decide +kernel
theorem dX9_comes_67 : decode cX9_comes 67 = .ok (.iload 5, 2) := by decide +kernel
theorem dX9_comes_69 : decode cX9_comes 69 = .ok (.iconst 1, 1) := by decide +kernel
theorem dX9_comes_70 : decode cX9_comes 70 = .ok (.isub, 1) := by decide +kernel
theorem dX9_comes_71 : decode cX9_comes 71 = .ok (.imul, 1) := by decide +kernel
theorem dX9_comes_72 : decode cX9_comes 72 = .ok (.iadd, 1) := by decide +kernel
theorem dX9_comes_73 : decode cX9_comes 73 = .ok (.iload 6, 2) := by decide +kernel
theorem dX9_comes_75 : decode cX9_comes 75 = .ok (.iadd, 1) := by decide +kernel
theorem dX9_comes_76 : decode cX9_comes 76 = .ok (.iaload, 1) := by decide +kernel
theorem dX9_comes_77 : decode cX9_comes 77 = .ok (.iastore, 1) := by decide +kernel
theorem dX9_comes_78 : decode cX9_comes 78 = .ok (.iinc 6 1, 3) := by decide +kernel
theorem dX9_comes_81 : decode cX9_comes 81 = .ok (.goto (-43), 3) := by decide +kernel
theorem dX9_comes_84 : decode cX9_comes 84 = .ok (.iinc 5 (-1), 3) := by decide +kernel
theorem dX9_comes_87 : decode cX9_comes 87 = .ok (.goto (-78), 3) := by decide +kernel
theorem dX9_comes_90 : decode cX9_comes 90 = .ok (.aload_n 0, 1) := by decide +kernel
theorem dX9_comes_91 : decode cX9_comes 91 = .ok (.getfield 7, 3) := by decide +kernel
theorem dX9_comes_94 : decode cX9_comes 94 = .ok (.sipush 216, 3) := by decide +kernel
theorem dX9_comes_97 : decode cX9_comes 97 = .ok (.iconst 4, 1) := by decide +kernel
theorem dX9_comes_98 : decode cX9_comes 98 = .ok (.iload 5, 2) := by decide +kernel
theorem dX9_comes_100 : decode cX9_comes 100 = .ok (.imul, 1) := by decide +kernel
theorem dX9_comes_101 : decode cX9_comes 101 = .ok (.iadd, 1) := by decide +kernel
theorem dX9_comes_102 : decode cX9_comes 102 = .ok (.iload_n 1, 1) := by decide +kernel
theorem dX9_comes_103 : decode cX9_comes 103 = .ok (.iastore, 1) := by decide +kernel
theorem dX9_comes_104 : decode cX9_comes 104 = .ok (.aload_n 0, 1) := by decide +kernel
theorem dX9_comes_105 : decode cX9_comes 105 = .ok (.getfield 7, 3) := by decide +kernel
theorem dX9_comes_108 : decode cX9_comes 108 = .ok (.sipush 216, 3) := by decide +kernel
theorem dX9_comes_111 : decode cX9_comes 111 = .ok (.iconst 4, 1) := by decide +kernel
theorem dX9_comes_112 : decode cX9_comes 112 = .ok (.iload 5, 2) := by decide +kernel
theorem dX9_comes_114 : decode cX9_comes 114 = .ok (.imul, 1) := by decide +kernel
theorem dX9_comes_115 : decode cX9_comes 115 = .ok (.iadd, 1) := by decide +kernel
theorem dX9_comes_116 : decode cX9_comes 116 = .ok (.iconst 1, 1) := by decide +kernel
theorem dX9_comes_117 : decode cX9_comes 117 = .ok (.iadd, 1) := by decide +kernel
theorem dX9_comes_118 : decode cX9_comes 118 = .ok (.iload_n 2, 1) := by decide +kernel
theorem dX9_comes_119 : decode cX9_comes 119 = .ok (.iastore, 1) := by decide +kernel
theorem dX9_comes_120 : decode cX9_comes 120 = .ok (.aload_n 0, 1) := by decide +kernel
theorem dX9_comes_121 : decode cX9_comes 121 = .ok (.getfield 7, 3) := by decide +kernel
theorem dX9_comes_124 : decode cX9_comes 124 = .ok (.sipush 216, 3) := by decide +kernel
theorem dX9_comes_127 : decode cX9_comes 127 = .ok (.iconst 4, 1) := by decide +kernel
theorem dX9_comes_128 : decode cX9_comes 128 = .ok (.iload 5, 2) := by decide +kernel
theorem dX9_comes_130 : decode cX9_comes 130 = .ok (.imul, 1) := by decide +kernel
theorem dX9_comes_131 : decode cX9_comes 131 = .ok (.iadd, 1) := by decide +kernel
theorem dX9_comes_132 : decode cX9_comes 132 = .ok (.iconst 2, 1) := by decide +kernel
theorem dX9_comes_133 : decode cX9_comes 133 = .ok (.iadd, 1) := by decide +kernel
theorem dX9_comes_134 : decode cX9_comes 134 = .ok (.iload_n 3, 1) := by decide +kernel
theorem dX9_comes_135 : decode cX9_comes 135 = .ok (.iastore, 1) := by decide +kernel
theorem dX9_comes_136 : decode cX9_comes 136 = .ok (.aload_n 0, 1) := by decide +kernel
theorem dX9_comes_137 : decode cX9_comes 137 = .ok (.getfield 7, 3) := by decide +kernel
theorem dX9_comes_140 : decode cX9_comes 140 = .ok (.sipush 216, 3) := by decide +kernel
theorem dX9_comes_143 : decode cX9_comes 143 = .ok (.iconst 4, 1) := by decide +kernel
theorem dX9_comes_144 : decode cX9_comes 144 = .ok (.iload 5, 2) := by decide +kernel
theorem dX9_comes_146 : decode cX9_comes 146 = .ok (.imul, 1) := by decide +kernel
theorem dX9_comes_147 : decode cX9_comes 147 = .ok (.iadd, 1) := by decide +kernel
theorem dX9_comes_148 : decode cX9_comes 148 = .ok (.iconst 3, 1) := by decide +kernel
theorem dX9_comes_149 : decode cX9_comes 149 = .ok (.iadd, 1) := by decide +kernel
theorem dX9_comes_150 : decode cX9_comes 150 = .ok (.iload 4, 2) := by decide +kernel
theorem dX9_comes_152 : decode cX9_comes 152 = .ok (.iastore, 1) := by decide +kernel
theorem dX9_comes_153 : decode cX9_comes 153 = .ok (.aload_n 0, 1) := by decide +kernel
theorem dX9_comes_154 : decode cX9_comes 154 = .ok (.getfield 7, 3) := by decide +kernel
theorem dX9_comes_157 : decode cX9_comes 157 = .ok (.bipush 11, 2) := by decide +kernel
theorem dX9_comes_159 : decode cX9_comes 159 = .ok (.dup2, 1) := by decide +kernel
theorem dX9_comes_160 : decode cX9_comes 160 = .ok (.iaload, 1) := by decide +kernel
theorem dX9_comes_161 : decode cX9_comes 161 = .ok (.iconst 1, 1) := by decide +kernel
theorem dX9_comes_162 : decode cX9_comes 162 = .ok (.iadd, 1) := by decide +kernel
theorem dX9_comes_163 : decode cX9_comes 163 = .ok (.iastore, 1) := by decide +kernel
theorem dX9_comes_164 : decode cX9_comes 164 = .ok (.return_, 1) := by decide +kernel
theorem dX9_copies_0 : decode cX9_copies 0 = .ok (.aload_n 0, 1) := by decide +kernel
theorem dX9_copies_1 : decode cX9_copies 1 = .ok (.iload_n 1, 1) := by decide +kernel
theorem dX9_copies_2 : decode cX9_copies 2 = .ok (.invokevirtual 44, 3) := by decide +kernel
theorem dX9_copies_5 : decode cX9_copies 5 = .ok (.istore_n 3, 1) := by decide +kernel
theorem dX9_copies_6 : decode cX9_copies 6 = .ok (.aload_n 0, 1) := by decide +kernel
theorem dX9_copies_7 : decode cX9_copies 7 = .ok (.aload_n 0, 1) := by decide +kernel
theorem dX9_copies_8 : decode cX9_copies 8 = .ok (.getfield 7, 3) := by decide +kernel
theorem dX9_copies_11 : decode cX9_copies 11 = .ok (.iload_n 3, 1) := by decide +kernel
theorem dX9_copies_12 : decode cX9_copies 12 = .ok (.iconst 1, 1) := by decide +kernel
theorem dX9_copies_13 : decode cX9_copies 13 = .ok (.iadd, 1) := by decide +kernel
theorem dX9_copies_14 : decode cX9_copies 14 = .ok (.iaload, 1) := by decide +kernel
theorem dX9_copies_15 : decode cX9_copies 15 = .ok (.aload_n 0, 1) := by decide +kernel
theorem dX9_copies_16 : decode cX9_copies 16 = .ok (.getfield 7, 3) := by decide +kernel
theorem dX9_copies_19 : decode cX9_copies 19 = .ok (.iload_n 3, 1) := by decide +kernel
theorem dX9_copies_20 : decode cX9_copies 20 = .ok (.iconst 2, 1) := by decide +kernel
theorem dX9_copies_21 : decode cX9_copies 21 = .ok (.iadd, 1) := by decide +kernel
theorem dX9_copies_22 : decode cX9_copies 22 = .ok (.iaload, 1) := by decide +kernel
theorem dX9_copies_23 : decode cX9_copies 23 = .ok (.iload_n 2, 1) := by decide +kernel
theorem dX9_copies_24 : decode cX9_copies 24 = .ok (.aload_n 0, 1) := by decide +kernel
theorem dX9_copies_25 : decode cX9_copies 25 = .ok (.getfield 7, 3) := by decide +kernel
theorem dX9_copies_28 : decode cX9_copies 28 = .ok (.iload_n 3, 1) := by decide +kernel
theorem dX9_copies_29 : decode cX9_copies 29 = .ok (.iconst 3, 1) := by decide +kernel
theorem dX9_copies_30 : decode cX9_copies 30 = .ok (.iadd, 1) := by decide +kernel
theorem dX9_copies_31 : decode cX9_copies 31 = .ok (.iaload, 1) := by decide +kernel
theorem dX9_copies_32 : decode cX9_copies 32 = .ok (.invokevirtual 54, 3) := by decide +kernel
theorem dX9_copies_35 : decode cX9_copies 35 = .ok (.return_, 1) := by decide +kernel
theorem dX9_goesFirst_0 : decode cX9_goesFirst 0 = .ok (.aload_n 0, 1) := by decide +kernel
theorem dX9_goesFirst_1 : decode cX9_goesFirst 1 = .ok (.getfield 7, 3) := by decide +kernel
theorem dX9_goesFirst_4 : decode cX9_goesFirst 4 = .ok (.bipush 11, 2) := by decide +kernel
theorem dX9_goesFirst_6 : decode cX9_goesFirst 6 = .ok (.dup2, 1) := by decide +kernel
theorem dX9_goesFirst_7 : decode cX9_goesFirst 7 = .ok (.iaload, 1) := by decide +kernel
theorem dX9_goesFirst_8 : decode cX9_goesFirst 8 = .ok (.iconst 1, 1) := by decide +kernel
theorem dX9_goesFirst_9 : decode cX9_goesFirst 9 = .ok (.isub, 1) := by decide +kernel
theorem dX9_goesFirst_10 : decode cX9_goesFirst 10 = .ok (.iastore, 1) := by decide +kernel
theorem dX9_goesFirst_11 : decode cX9_goesFirst 11 = .ok (.sipush 216, 3) := by decide +kernel
theorem dX9_goesFirst_14 : decode cX9_goesFirst 14 = .ok (.istore_n 1, 1) := by decide +kernel
theorem dX9_goesFirst_15 : decode cX9_goesFirst 15 = .ok (.iload_n 1, 1) := by decide +kernel
theorem dX9_goesFirst_16 : decode cX9_goesFirst 16 = .ok (.sipush 216, 3) := by decide +kernel
theorem dX9_goesFirst_19 : decode cX9_goesFirst 19 = .ok (.iconst 4, 1) := by decide +kernel
theorem dX9_goesFirst_20 : decode cX9_goesFirst 20 = .ok (.aload_n 0, 1) := by decide +kernel
theorem dX9_goesFirst_21 : decode cX9_goesFirst 21 = .ok (.getfield 7, 3) := by decide +kernel
theorem dX9_goesFirst_24 : decode cX9_goesFirst 24 = .ok (.bipush 11, 2) := by decide +kernel
theorem dX9_goesFirst_26 : decode cX9_goesFirst 26 = .ok (.iaload, 1) := by decide +kernel
theorem dX9_goesFirst_27 : decode cX9_goesFirst 27 = .ok (.imul, 1) := by decide +kernel
theorem dX9_goesFirst_28 : decode cX9_goesFirst 28 = .ok (.iadd, 1) := by decide +kernel
theorem dX9_goesFirst_29 : decode cX9_goesFirst 29 = .ok (.if_icmp .ge 23, 3) := by decide +kernel
theorem dX9_goesFirst_32 : decode cX9_goesFirst 32 = .ok (.aload_n 0, 1) := by decide +kernel
theorem dX9_goesFirst_33 : decode cX9_goesFirst 33 = .ok (.getfield 7, 3) := by decide +kernel
theorem dX9_goesFirst_36 : decode cX9_goesFirst 36 = .ok (.iload_n 1, 1) := by decide +kernel
theorem dX9_goesFirst_37 : decode cX9_goesFirst 37 = .ok (.aload_n 0, 1) := by decide +kernel
theorem dX9_goesFirst_38 : decode cX9_goesFirst 38 = .ok (.getfield 7, 3) := by decide +kernel
theorem dX9_goesFirst_41 : decode cX9_goesFirst 41 = .ok (.iload_n 1, 1) := by decide +kernel
theorem dX9_goesFirst_42 : decode cX9_goesFirst 42 = .ok (.iconst 4, 1) := by decide +kernel
theorem dX9_goesFirst_43 : decode cX9_goesFirst 43 = .ok (.iadd, 1) := by decide +kernel
theorem dX9_goesFirst_44 : decode cX9_goesFirst 44 = .ok (.iaload, 1) := by decide +kernel
theorem dX9_goesFirst_45 : decode cX9_goesFirst 45 = .ok (.iastore, 1) := by decide +kernel
theorem dX9_goesFirst_46 : decode cX9_goesFirst 46 = .ok (.iinc 1 1, 3) := by decide +kernel
theorem dX9_goesFirst_49 : decode cX9_goesFirst 49 = .ok (.goto (-34), 3) := by decide +kernel
theorem dX9_goesFirst_52 : decode cX9_goesFirst 52 = .ok (.iconst 0, 1) := by decide +kernel
theorem dX9_goesFirst_53 : decode cX9_goesFirst 53 = .ok (.istore_n 1, 1) := by decide +kernel
theorem dX9_goesFirst_54 : decode cX9_goesFirst 54 = .ok (.iload_n 1, 1) := by decide +kernel
theorem dX9_goesFirst_55 : decode cX9_goesFirst 55 = .ok (.iconst 4, 1) := by decide +kernel
theorem dX9_goesFirst_56 : decode cX9_goesFirst 56 = .ok (.if_icmp .ge 30, 3) := by decide +kernel
theorem dX9_goesFirst_59 : decode cX9_goesFirst 59 = .ok (.aload_n 0, 1) := by decide +kernel
theorem dX9_goesFirst_60 : decode cX9_goesFirst 60 = .ok (.getfield 7, 3) := by decide +kernel
theorem dX9_goesFirst_63 : decode cX9_goesFirst 63 = .ok (.sipush 216, 3) := by decide +kernel
theorem dX9_goesFirst_66 : decode cX9_goesFirst 66 = .ok (.iconst 4, 1) := by decide +kernel
theorem dX9_goesFirst_67 : decode cX9_goesFirst 67 = .ok (.aload_n 0, 1) := by decide +kernel
theorem dX9_goesFirst_68 : decode cX9_goesFirst 68 = .ok (.getfield 7, 3) := by decide +kernel
theorem dX9_goesFirst_71 : decode cX9_goesFirst 71 = .ok (.bipush 11, 2) := by decide +kernel
theorem dX9_goesFirst_73 : decode cX9_goesFirst 73 = .ok (.iaload, 1) := by decide +kernel
theorem dX9_goesFirst_74 : decode cX9_goesFirst 74 = .ok (.imul, 1) := by decide +kernel
theorem dX9_goesFirst_75 : decode cX9_goesFirst 75 = .ok (.iadd, 1) := by decide +kernel
theorem dX9_goesFirst_76 : decode cX9_goesFirst 76 = .ok (.iload_n 1, 1) := by decide +kernel
theorem dX9_goesFirst_77 : decode cX9_goesFirst 77 = .ok (.iadd, 1) := by decide +kernel
theorem dX9_goesFirst_78 : decode cX9_goesFirst 78 = .ok (.iconst 0, 1) := by decide +kernel
theorem dX9_goesFirst_79 : decode cX9_goesFirst 79 = .ok (.iastore, 1) := by decide +kernel
theorem dX9_goesFirst_80 : decode cX9_goesFirst 80 = .ok (.iinc 1 1, 3) := by decide +kernel
theorem dX9_goesFirst_83 : decode cX9_goesFirst 83 = .ok (.goto (-29), 3) := by decide +kernel
theorem dX9_goesFirst_86 : decode cX9_goesFirst 86 = .ok (.return_, 1) := by decide +kernel
theorem dX9_isPassed_0 : decode cX9_isPassed 0 = .ok (.aload_n 0, 1) := by decide +kernel
theorem dX9_isPassed_1 : decode cX9_isPassed 1 = .ok (.getfield 7, 3) := by decide +kernel
theorem dX9_isPassed_4 : decode cX9_isPassed 4 = .ok (.sipush 218, 3) := by decide +kernel
theorem dX9_isPassed_7 : decode cX9_isPassed 7 = .ok (.iaload, 1) := by decide +kernel
theorem dX9_isPassed_8 : decode cX9_isPassed 8 = .ok (.iconst 3, 1) := by decide +kernel
theorem dX9_isPassed_9 : decode cX9_isPassed 9 = .ok (.irem, 1) := by decide +kernel
theorem dX9_isPassed_10 : decode cX9_isPassed 10 = .ok (.ifCond .ne 30, 3) := by decide +kernel
theorem dX9_isPassed_13 : decode cX9_isPassed 13 = .ok (.aload_n 0, 1) := by decide +kernel
theorem dX9_isPassed_14 : decode cX9_isPassed 14 = .ok (.aload_n 0, 1) := by decide +kernel
theorem dX9_isPassed_15 : decode cX9_isPassed 15 = .ok (.getfield 7, 3) := by decide +kernel
theorem dX9_isPassed_18 : decode cX9_isPassed 18 = .ok (.sipush 216, 3) := by decide +kernel
theorem dX9_isPassed_21 : decode cX9_isPassed 21 = .ok (.iaload, 1) := by decide +kernel
theorem dX9_isPassed_22 : decode cX9_isPassed 22 = .ok (.invokevirtual 58, 3) := by decide +kernel
theorem dX9_isPassed_25 : decode cX9_isPassed 25 = .ok (.aload_n 0, 1) := by decide +kernel
theorem dX9_isPassed_26 : decode cX9_isPassed 26 = .ok (.getfield 7, 3) := by decide +kernel
theorem dX9_isPassed_29 : decode cX9_isPassed 29 = .ok (.sipush 219, 3) := by decide +kernel
theorem dX9_isPassed_32 : decode cX9_isPassed 32 = .ok (.iaload, 1) := by decide +kernel
theorem dX9_isPassed_33 : decode cX9_isPassed 33 = .ok (.if_icmp .eq 7, 3) := by decide +kernel
theorem dX9_isPassed_36 : decode cX9_isPassed 36 = .ok (.iconst 1, 1) := by decide +kernel
theorem dX9_isPassed_37 : decode cX9_isPassed 37 = .ok (.goto 4, 3) := by decide +kernel
theorem dX9_isPassed_40 : decode cX9_isPassed 40 = .ok (.iconst 0, 1) := by decide +kernel
theorem dX9_isPassed_41 : decode cX9_isPassed 41 = .ok (.ireturn, 1) := by decide +kernel
theorem dX9_now_0 : decode cX9_now 0 = .ok (.aload_n 0, 1) := by decide +kernel
theorem dX9_now_1 : decode cX9_now 1 = .ok (.getfield 7, 3) := by decide +kernel
theorem dX9_now_4 : decode cX9_now 4 = .ok (.sipush 248, 3) := by decide +kernel
theorem dX9_now_7 : decode cX9_now 7 = .ok (.iload_n 1, 1) := by decide +kernel
theorem dX9_now_8 : decode cX9_now 8 = .ok (.iadd, 1) := by decide +kernel
theorem dX9_now_9 : decode cX9_now 9 = .ok (.iaload, 1) := by decide +kernel
theorem dX9_now_10 : decode cX9_now 10 = .ok (.ireturn, 1) := by decide +kernel
theorem dX9_isWriting_0 : decode cX9_isWriting 0 = .ok (.aload_n 0, 1) := by decide +kernel
theorem dX9_isWriting_1 : decode cX9_isWriting 1 = .ok (.bipush 6, 2) := by decide +kernel
theorem dX9_isWriting_3 : decode cX9_isWriting 3 = .ok (.invokevirtual 61, 3) := by decide +kernel
theorem dX9_isWriting_6 : decode cX9_isWriting 6 = .ok (.ifCond .gt 11, 3) := by decide +kernel
theorem dX9_isWriting_9 : decode cX9_isWriting 9 = .ok (.aload_n 0, 1) := by decide +kernel
theorem dX9_isWriting_10 : decode cX9_isWriting 10 = .ok (.iconst 5, 1) := by decide +kernel
theorem dX9_isWriting_11 : decode cX9_isWriting 11 = .ok (.invokevirtual 61, 3) := by decide +kernel
theorem dX9_isWriting_14 : decode cX9_isWriting 14 = .ok (.ifCond .le 7, 3) := by decide +kernel
theorem dX9_isWriting_17 : decode cX9_isWriting 17 = .ok (.iconst 1, 1) := by decide +kernel
theorem dX9_isWriting_18 : decode cX9_isWriting 18 = .ok (.goto 4, 3) := by decide +kernel
theorem dX9_isWriting_21 : decode cX9_isWriting 21 = .ok (.iconst 0, 1) := by decide +kernel
theorem dX9_isWriting_22 : decode cX9_isWriting 22 = .ok (.ireturn, 1) := by decide +kernel
theorem dX9_begin1_0 : decode cX9_begin1 0 = .ok (.aload_n 0, 1) := by decide +kernel
theorem dX9_begin1_1 : decode cX9_begin1 1 = .ok (.getfield 7, 3) := by decide +kernel
theorem dX9_begin1_4 : decode cX9_begin1 4 = .ok (.iconst 2, 1) := by decide +kernel
theorem dX9_begin1_5 : decode cX9_begin1 5 = .ok (.iaload, 1) := by decide +kernel
theorem dX9_begin1_6 : decode cX9_begin1 6 = .ok (.istore_n 2, 1) := by decide +kernel
theorem dX9_begin1_7 : decode cX9_begin1 7 = .ok (.iload_n 1, 1) := by decide +kernel
theorem dX9_begin1_8 : decode cX9_begin1 8 = .ok (.invokestatic 64, 3) := by decide +kernel
theorem dX9_begin1_11 : decode cX9_begin1 11 = .ok (.istore_n 3, 1) := by decide +kernel
theorem dX9_begin1_12 : decode cX9_begin1 12 = .ok (.aload_n 0, 1) := by decide +kernel
theorem dX9_begin1_13 : decode cX9_begin1 13 = .ok (.iload_n 2, 1) := by decide +kernel
theorem dX9_begin1_14 : decode cX9_begin1 14 = .ok (.iload_n 3, 1) := by decide +kernel
theorem dX9_begin1_15 : decode cX9_begin1 15 = .ok (.invokestatic 67, 3) := by decide +kernel
theorem dX9_begin1_18 : decode cX9_begin1 18 = .ok (.invokevirtual 40, 3) := by decide +kernel
theorem dX9_begin1_21 : decode cX9_begin1 21 = .ok (.istore 4, 2) := by decide +kernel
theorem dX9_begin1_23 : decode cX9_begin1 23 = .ok (.iload_n 1, 1) := by decide +kernel
theorem dX9_begin1_24 : decode cX9_begin1 24 = .ok (.invokestatic 36, 3) := by decide +kernel
theorem dX9_begin1_27 : decode cX9_begin1 27 = .ok (.ifCond .eq 29, 3) := by decide +kernel
theorem dX9_begin1_30 : decode cX9_begin1 30 = .ok (.aload_n 0, 1) := by decide +kernel
theorem dX9_begin1_31 : decode cX9_begin1 31 = .ok (.getfield 7, 3) := by decide +kernel
theorem dX9_begin1_34 : decode cX9_begin1 34 = .ok (.bipush 22, 2) := by decide +kernel
theorem dX9_begin1_36 : decode cX9_begin1 36 = .ok (.iaload, 1) := by decide +kernel
theorem dX9_begin1_37 : decode cX9_begin1 37 = .ok (.iconst 1, 1) := by decide +kernel
theorem dX9_begin1_38 : decode cX9_begin1 38 = .ok (.if_icmp .ne 18, 3) := by decide +kernel
theorem dX9_begin1_41 : decode cX9_begin1 41 = .ok (.aload_n 0, 1) := by decide +kernel
theorem dX9_begin1_42 : decode cX9_begin1 42 = .ok (.getfield 7, 3) := by decide +kernel
theorem dX9_begin1_45 : decode cX9_begin1 45 = .ok (.iload 4, 2) := by decide +kernel
theorem dX9_begin1_47 : decode cX9_begin1 47 = .ok (.iaload, 1) := by decide +kernel
theorem dX9_begin1_48 : decode cX9_begin1 48 = .ok (.iconst 2, 1) := by decide +kernel
theorem dX9_begin1_49 : decode cX9_begin1 49 = .ok (.if_icmp .ne 7, 3) := by decide +kernel
theorem dX9_begin1_52 : decode cX9_begin1 52 = .ok (.iconst 1, 1) := by decide +kernel
theorem dX9_begin1_53 : decode cX9_begin1 53 = .ok (.goto 4, 3) := by decide +kernel
theorem dX9_begin1_56 : decode cX9_begin1 56 = .ok (.iconst 0, 1) := by decide +kernel
theorem dX9_begin1_57 : decode cX9_begin1 57 = .ok (.istore 5, 2) := by decide +kernel
theorem dX9_begin1_59 : decode cX9_begin1 59 = .ok (.aload_n 0, 1) := by decide +kernel
theorem dX9_begin1_60 : decode cX9_begin1 60 = .ok (.getfield 7, 3) := by decide +kernel
theorem dX9_begin1_63 : decode cX9_begin1 63 = .ok (.bipush 10, 2) := by decide +kernel
theorem dX9_begin1_65 : decode cX9_begin1 65 = .ok (.dup2, 1) := by decide +kernel
theorem dX9_begin1_66 : decode cX9_begin1 66 = .ok (.iaload, 1) := by decide +kernel
theorem dX9_begin1_67 : decode cX9_begin1 67 = .ok (.iconst 1, 1) := by decide +kernel
theorem dX9_begin1_68 : decode cX9_begin1 68 = .ok (.iadd, 1) := by decide +kernel
theorem dX9_begin1_69 : decode cX9_begin1 69 = .ok (.iastore, 1) := by decide +kernel
theorem dX9_begin1_70 : decode cX9_begin1 70 = .ok (.aload_n 0, 1) := by decide +kernel
theorem dX9_begin1_71 : decode cX9_begin1 71 = .ok (.getfield 7, 3) := by decide +kernel
theorem dX9_begin1_74 : decode cX9_begin1 74 = .ok (.sipush 248, 3) := by decide +kernel
theorem dX9_begin1_77 : decode cX9_begin1 77 = .ok (.iload_n 1, 1) := by decide +kernel
theorem dX9_begin1_78 : decode cX9_begin1 78 = .ok (.iastore, 1) := by decide +kernel
theorem dX9_begin1_79 : decode cX9_begin1 79 = .ok (.aload_n 0, 1) := by decide +kernel
theorem dX9_begin1_80 : decode cX9_begin1 80 = .ok (.getfield 7, 3) := by decide +kernel
theorem dX9_begin1_83 : decode cX9_begin1 83 = .ok (.sipush 249, 3) := by decide +kernel
theorem dX9_begin1_86 : decode cX9_begin1 86 = .ok (.aload_n 0, 1) := by decide +kernel
theorem dX9_begin1_87 : decode cX9_begin1 87 = .ok (.getfield 7, 3) := by decide +kernel
theorem dX9_begin1_90 : decode cX9_begin1 90 = .ok (.sipush 216, 3) := by decide +kernel
theorem dX9_begin1_93 : decode cX9_begin1 93 = .ok (.iaload, 1) := by decide +kernel
theorem dX9_begin1_94 : decode cX9_begin1 94 = .ok (.iastore, 1) := by decide +kernel
theorem dX9_begin1_95 : decode cX9_begin1 95 = .ok (.aload_n 0, 1) := by decide +kernel
theorem dX9_begin1_96 : decode cX9_begin1 96 = .ok (.getfield 7, 3) := by decide +kernel
theorem dX9_begin1_99 : decode cX9_begin1 99 = .ok (.sipush 250, 3) := by decide +kernel
theorem dX9_begin1_102 : decode cX9_begin1 102 = .ok (.aload_n 0, 1) := by decide +kernel
theorem dX9_begin1_103 : decode cX9_begin1 103 = .ok (.getfield 7, 3) := by decide +kernel
theorem dX9_begin1_106 : decode cX9_begin1 106 = .ok (.sipush 217, 3) := by decide +kernel
theorem dX9_begin1_109 : decode cX9_begin1 109 = .ok (.iaload, 1) := by decide +kernel
theorem dX9_begin1_110 : decode cX9_begin1 110 = .ok (.iastore, 1) := by decide +kernel
theorem dX9_begin1_111 : decode cX9_begin1 111 = .ok (.aload_n 0, 1) := by decide +kernel
theorem dX9_begin1_112 : decode cX9_begin1 112 = .ok (.getfield 7, 3) := by decide +kernel
theorem dX9_begin1_115 : decode cX9_begin1 115 = .ok (.sipush 251, 3) := by decide +kernel
theorem dX9_begin1_118 : decode cX9_begin1 118 = .ok (.aload_n 0, 1) := by decide +kernel
theorem dX9_begin1_119 : decode cX9_begin1 119 = .ok (.getfield 7, 3) := by decide +kernel
theorem dX9_begin1_122 : decode cX9_begin1 122 = .ok (.sipush 218, 3) := by decide +kernel
theorem dX9_begin1_125 : decode cX9_begin1 125 = .ok (.iaload, 1) := by decide +kernel
theorem dX9_begin1_126 : decode cX9_begin1 126 = .ok (.iastore, 1) := by decide +kernel
theorem dX9_begin1_127 : decode cX9_begin1 127 = .ok (.aload_n 0, 1) := by decide +kernel
theorem dX9_begin1_128 : decode cX9_begin1 128 = .ok (.getfield 7, 3) := by decide +kernel
theorem dX9_begin1_131 : decode cX9_begin1 131 = .ok (.sipush 252, 3) := by decide +kernel
theorem dX9_begin1_134 : decode cX9_begin1 134 = .ok (.aload_n 0, 1) := by decide +kernel
theorem dX9_begin1_135 : decode cX9_begin1 135 = .ok (.getfield 7, 3) := by decide +kernel
theorem dX9_begin1_138 : decode cX9_begin1 138 = .ok (.bipush 10, 2) := by decide +kernel
theorem dX9_begin1_140 : decode cX9_begin1 140 = .ok (.iaload, 1) := by decide +kernel
theorem dX9_begin1_141 : decode cX9_begin1 141 = .ok (.iastore, 1) := by decide +kernel
theorem dX9_begin1_142 : decode cX9_begin1 142 = .ok (.aload_n 0, 1) := by decide +kernel
theorem dX9_begin1_143 : decode cX9_begin1 143 = .ok (.getfield 7, 3) := by decide +kernel
theorem dX9_begin1_146 : decode cX9_begin1 146 = .ok (.sipush 253, 3) := by decide +kernel
theorem dX9_begin1_149 : decode cX9_begin1 149 = .ok (.iload 5, 2) := by decide +kernel
theorem dX9_begin1_151 : decode cX9_begin1 151 = .ok (.ifCond .eq 7, 3) := by decide +kernel
theorem dX9_begin1_154 : decode cX9_begin1 154 = .ok (.iconst 2, 1) := by decide +kernel
theorem dX9_begin1_155 : decode cX9_begin1 155 = .ok (.goto 4, 3) := by decide +kernel
theorem dX9_begin1_158 : decode cX9_begin1 158 = .ok (.iconst 0, 1) := by decide +kernel
theorem dX9_begin1_159 : decode cX9_begin1 159 = .ok (.iastore, 1) := by decide +kernel
theorem dX9_begin1_160 : decode cX9_begin1 160 = .ok (.aload_n 0, 1) := by decide +kernel
theorem dX9_begin1_161 : decode cX9_begin1 161 = .ok (.getfield 7, 3) := by decide +kernel
theorem dX9_begin1_164 : decode cX9_begin1 164 = .ok (.sipush 254, 3) := by decide +kernel
theorem dX9_begin1_167 : decode cX9_begin1 167 = .ok (.aload_n 0, 1) := by decide +kernel
theorem dX9_begin1_168 : decode cX9_begin1 168 = .ok (.getfield 7, 3) := by decide +kernel
theorem dX9_begin1_171 : decode cX9_begin1 171 = .ok (.bipush 20, 2) := by decide +kernel
theorem dX9_begin1_173 : decode cX9_begin1 173 = .ok (.iload_n 1, 1) := by decide +kernel
theorem dX9_begin1_174 : decode cX9_begin1 174 = .ok (.invokestatic 36, 3) := by decide +kernel
theorem dX9_begin1_177 : decode cX9_begin1 177 = .ok (.ifCond .eq 7, 3) := by decide +kernel
theorem dX9_begin1_180 : decode cX9_begin1 180 = .ok (.iconst 1, 1) := by decide +kernel
theorem dX9_begin1_181 : decode cX9_begin1 181 = .ok (.goto 4, 3) := by decide +kernel
theorem dX9_begin1_184 : decode cX9_begin1 184 = .ok (.iconst 0, 1) := by decide +kernel
theorem dX9_begin1_185 : decode cX9_begin1 185 = .ok (.iadd, 1) := by decide +kernel
theorem dX9_begin1_186 : decode cX9_begin1 186 = .ok (.iaload, 1) := by decide +kernel
theorem dX9_begin1_187 : decode cX9_begin1 187 = .ok (.aload_n 0, 1) := by decide +kernel
theorem dX9_begin1_188 : decode cX9_begin1 188 = .ok (.getfield 7, 3) := by decide +kernel
theorem dX9_begin1_191 : decode cX9_begin1 191 = .ok (.bipush 12, 2) := by decide +kernel
theorem dX9_begin1_193 : decode cX9_begin1 193 = .ok (.iload_n 3, 1) := by decide +kernel
theorem dX9_begin1_194 : decode cX9_begin1 194 = .ok (.iadd, 1) := by decide +kernel
theorem dX9_begin1_195 : decode cX9_begin1 195 = .ok (.iaload, 1) := by decide +kernel
theorem dX9_begin1_196 : decode cX9_begin1 196 = .ok (.iadd, 1) := by decide +kernel
theorem dX9_begin1_197 : decode cX9_begin1 197 = .ok (.aload_n 0, 1) := by decide +kernel
theorem dX9_begin1_198 : decode cX9_begin1 198 = .ok (.getfield 7, 3) := by decide +kernel
theorem dX9_begin1_201 : decode cX9_begin1 201 = .ok (.bipush 6, 2) := by decide +kernel
theorem dX9_begin1_203 : decode cX9_begin1 203 = .ok (.iload_n 2, 1) := by decide +kernel
theorem dX9_begin1_204 : decode cX9_begin1 204 = .ok (.iadd, 1) := by decide +kernel
theorem dX9_begin1_205 : decode cX9_begin1 205 = .ok (.iaload, 1) := by decide +kernel
theorem dX9_begin1_206 : decode cX9_begin1 206 = .ok (.aload_n 0, 1) := by decide +kernel
theorem dX9_begin1_207 : decode cX9_begin1 207 = .ok (.getfield 7, 3) := by decide +kernel
theorem dX9_begin1_210 : decode cX9_begin1 210 = .ok (.bipush 23, 2) := by decide +kernel
theorem dX9_begin1_212 : decode cX9_begin1 212 = .ok (.iaload, 1) := by decide +kernel
theorem dX9_begin1_213 : decode cX9_begin1 213 = .ok (.idiv, 1) := by decide +kernel
theorem dX9_begin1_214 : decode cX9_begin1 214 = .ok (.iadd, 1) := by decide +kernel
theorem dX9_begin1_215 : decode cX9_begin1 215 = .ok (.iastore, 1) := by decide +kernel
theorem dX9_begin1_216 : decode cX9_begin1 216 = .ok (.aload_n 0, 1) := by decide +kernel
theorem dX9_begin1_217 : decode cX9_begin1 217 = .ok (.getfield 7, 3) := by decide +kernel
theorem dX9_begin1_220 : decode cX9_begin1 220 = .ok (.sipush 255, 3) := by decide +kernel
theorem dX9_begin1_223 : decode cX9_begin1 223 = .ok (.iconst 0, 1) := by decide +kernel
theorem dX9_begin1_224 : decode cX9_begin1 224 = .ok (.iastore, 1) := by decide +kernel
theorem dX9_begin1_225 : decode cX9_begin1 225 = .ok (.aload_n 0, 1) := by decide +kernel
theorem dX9_begin1_226 : decode cX9_begin1 226 = .ok (.getfield 7, 3) := by decide +kernel
theorem dX9_begin1_229 : decode cX9_begin1 229 = .ok (.aload_n 0, 1) := by decide +kernel
theorem dX9_begin1_230 : decode cX9_begin1 230 = .ok (.iload_n 2, 1) := by decide +kernel
theorem dX9_begin1_231 : decode cX9_begin1 231 = .ok (.iload_n 1, 1) := by decide +kernel
theorem dX9_begin1_232 : decode cX9_begin1 232 = .ok (.invokevirtual 40, 3) := by decide +kernel
theorem dX9_begin1_235 : decode cX9_begin1 235 = .ok (.iconst 1, 1) := by decide +kernel
theorem dX9_begin1_236 : decode cX9_begin1 236 = .ok (.iastore, 1) := by decide +kernel
theorem dX9_begin1_237 : decode cX9_begin1 237 = .ok (.iload 5, 2) := by decide +kernel
theorem dX9_begin1_239 : decode cX9_begin1 239 = .ok (.ifCond .eq 54, 3) := by decide +kernel
theorem dX9_begin1_242 : decode cX9_begin1 242 = .ok (.aload_n 0, 1) := by decide +kernel
theorem dX9_begin1_243 : decode cX9_begin1 243 = .ok (.getfield 7, 3) := by decide +kernel
theorem dX9_begin1_246 : decode cX9_begin1 246 = .ok (.aload_n 0, 1) := by decide +kernel
theorem dX9_begin1_247 : decode cX9_begin1 247 = .ok (.iload_n 2, 1) := by decide +kernel
theorem dX9_begin1_248 : decode cX9_begin1 248 = .ok (.iload_n 3, 1) := by decide +kernel
theorem dX9_begin1_249 : decode cX9_begin1 249 = .ok (.invokevirtual 48, 3) := by decide +kernel
theorem dX9_begin1_252 : decode cX9_begin1 252 = .ok (.iconst 1, 1) := by decide +kernel
theorem dX9_begin1_253 : decode cX9_begin1 253 = .ok (.iastore, 1) := by decide +kernel
theorem dX9_begin1_254 : decode cX9_begin1 254 = .ok (.iconst 1, 1) := by decide +kernel
theorem dX9_begin1_255 : decode cX9_begin1 255 = .ok (.istore 6, 2) := by decide +kernel
theorem dX9_begin1_257 : decode cX9_begin1 257 = .ok (.iload 6, 2) := by decide +kernel
theorem dX9_begin1_259 : decode cX9_begin1 259 = .ok (.iconst 4, 1) := by decide +kernel
theorem dX9_begin1_260 : decode cX9_begin1 260 = .ok (.if_icmp .ge 33, 3) := by decide +kernel
theorem dX9_begin1_263 : decode cX9_begin1 263 = .ok (.aload_n 0, 1) := by decide +kernel
theorem dX9_begin1_264 : decode cX9_begin1 264 = .ok (.getfield 7, 3) := by decide +kernel
theorem dX9_begin1_267 : decode cX9_begin1 267 = .ok (.aload_n 0, 1) := by decide +kernel
theorem dX9_begin1_268 : decode cX9_begin1 268 = .ok (.iload_n 2, 1) := by decide +kernel
theorem dX9_begin1_269 : decode cX9_begin1 269 = .ok (.iload_n 3, 1) := by decide +kernel
theorem dX9_begin1_270 : decode cX9_begin1 270 = .ok (.invokevirtual 48, 3) := by decide +kernel
theorem dX9_begin1_273 : decode cX9_begin1 273 = .ok (.iload 6, 2) := by decide +kernel
theorem dX9_begin1_275 : decode cX9_begin1 275 = .ok (.iadd, 1) := by decide +kernel
theorem dX9_begin1_276 : decode cX9_begin1 276 = .ok (.aload_n 0, 1) := by decide +kernel
theorem dX9_begin1_277 : decode cX9_begin1 277 = .ok (.getfield 7, 3) := by decide +kernel
theorem dX9_begin1_280 : decode cX9_begin1 280 = .ok (.iload 4, 2) := by decide +kernel
theorem dX9_begin1_282 : decode cX9_begin1 282 = .ok (.iload 6, 2) := by decide +kernel
theorem dX9_begin1_284 : decode cX9_begin1 284 = .ok (.iadd, 1) := by decide +kernel
theorem dX9_begin1_285 : decode cX9_begin1 285 = .ok (.iaload, 1) := by decide +kernel
theorem dX9_begin1_286 : decode cX9_begin1 286 = .ok (.iastore, 1) := by decide +kernel
theorem dX9_begin1_287 : decode cX9_begin1 287 = .ok (.iinc 6 1, 3) := by decide +kernel
theorem dX9_begin1_290 : decode cX9_begin1 290 = .ok (.goto (-33), 3) := by decide +kernel
theorem dX9_begin1_293 : decode cX9_begin1 293 = .ok (.aload_n 0, 1) := by decide +kernel
theorem dX9_begin1_294 : decode cX9_begin1 294 = .ok (.invokevirtual 70, 3) := by decide +kernel
theorem dX9_begin1_297 : decode cX9_begin1 297 = .ok (.return_, 1) := by decide +kernel
theorem dX9_takes_0 : decode cX9_takes 0 = .ok (.aload_n 0, 1) := by decide +kernel
theorem dX9_takes_1 : decode cX9_takes 1 = .ok (.invokevirtual 73, 3) := by decide +kernel
theorem dX9_takes_4 : decode cX9_takes 4 = .ok (.istore_n 1, 1) := by decide +kernel
theorem dX9_takes_5 : decode cX9_takes 5 = .ok (.iload_n 1, 1) := by decide +kernel
theorem dX9_takes_6 : decode cX9_takes 6 = .ok (.bipush 16, 2) := by decide +kernel
theorem dX9_takes_8 : decode cX9_takes 8 = .ok (.if_icmp .ge 42, 3) := by decide +kernel
theorem dX9_takes_11 : decode cX9_takes 11 = .ok (.aload_n 0, 1) := by decide +kernel
theorem dX9_takes_12 : decode cX9_takes 12 = .ok (.getfield 7, 3) := by decide +kernel
theorem dX9_takes_15 : decode cX9_takes 15 = .ok (.bipush 11, 2) := by decide +kernel
theorem dX9_takes_17 : decode cX9_takes 17 = .ok (.iaload, 1) := by decide +kernel
theorem dX9_takes_18 : decode cX9_takes 18 = .ok (.ifCond .le 32, 3) := by decide +kernel
theorem dX9_takes_21 : decode cX9_takes 21 = .ok (.aload_n 0, 1) := by decide +kernel
theorem dX9_takes_22 : decode cX9_takes 22 = .ok (.invokevirtual 77, 3) := by decide +kernel
theorem dX9_takes_25 : decode cX9_takes 25 = .ok (.ifCond .ne 25, 3) := by decide +kernel
theorem dX9_takes_28 : decode cX9_takes 28 = .ok (.aload_n 0, 1) := by decide +kernel
theorem dX9_takes_29 : decode cX9_takes 29 = .ok (.invokevirtual 81, 3) := by decide +kernel
theorem dX9_takes_32 : decode cX9_takes 32 = .ok (.ifCond .eq 10, 3) := by decide +kernel
theorem dX9_takes_35 : decode cX9_takes 35 = .ok (.aload_n 0, 1) := by decide +kernel
theorem dX9_takes_36 : decode cX9_takes 36 = .ok (.invokevirtual 70, 3) := by decide +kernel
theorem dX9_takes_39 : decode cX9_takes 39 = .ok (.goto (-34), 3) := by decide +kernel
theorem dX9_takes_42 : decode cX9_takes 42 = .ok (.aload_n 0, 1) := by decide +kernel
theorem dX9_takes_43 : decode cX9_takes 43 = .ok (.iload_n 1, 1) := by decide +kernel
theorem dX9_takes_44 : decode cX9_takes 44 = .ok (.invokevirtual 84, 3) := by decide +kernel
theorem dX9_takes_47 : decode cX9_takes 47 = .ok (.goto (-42), 3) := by decide +kernel
theorem dX9_takes_50 : decode cX9_takes 50 = .ok (.return_, 1) := by decide +kernel
theorem dX9_clearsBackup_0 : decode cX9_clearsBackup 0 = .ok (.iconst 0, 1) := by decide +kernel
theorem dX9_clearsBackup_1 : decode cX9_clearsBackup 1 = .ok (.istore_n 3, 1) := by decide +kernel
theorem dX9_clearsBackup_2 : decode cX9_clearsBackup 2 = .ok (.iload_n 3, 1) := by decide +kernel
theorem dX9_clearsBackup_3 : decode cX9_clearsBackup 3 = .ok (.iconst 4, 1) := by decide +kernel
theorem dX9_clearsBackup_4 : decode cX9_clearsBackup 4 = .ok (.if_icmp .ge 23, 3) := by decide +kernel
theorem dX9_clearsBackup_7 : decode cX9_clearsBackup 7 = .ok (.aload_n 0, 1) := by decide +kernel
theorem dX9_clearsBackup_8 : decode cX9_clearsBackup 8 = .ok (.getfield 7, 3) := by decide +kernel
theorem dX9_clearsBackup_11 : decode cX9_clearsBackup 11 = .ok (.aload_n 0, 1) := by decide +kernel
theorem dX9_clearsBackup_12 : decode cX9_clearsBackup 12 = .ok (.iload_n 1, 1) := by decide +kernel
theorem dX9_clearsBackup_13 : decode cX9_clearsBackup 13 = .ok (.iload_n 2, 1) := by decide +kernel
theorem dX9_clearsBackup_14 : decode cX9_clearsBackup 14 = .ok (.invokevirtual 48, 3) := by decide +kernel
theorem dX9_clearsBackup_17 : decode cX9_clearsBackup 17 = .ok (.iload_n 3, 1) := by decide +kernel
theorem dX9_clearsBackup_18 : decode cX9_clearsBackup 18 = .ok (.iadd, 1) := by decide +kernel
theorem dX9_clearsBackup_19 : decode cX9_clearsBackup 19 = .ok (.iconst 0, 1) := by decide +kernel
theorem dX9_clearsBackup_20 : decode cX9_clearsBackup 20 = .ok (.iastore, 1) := by decide +kernel
theorem dX9_clearsBackup_21 : decode cX9_clearsBackup 21 = .ok (.iinc 3 1, 3) := by decide +kernel
theorem dX9_clearsBackup_24 : decode cX9_clearsBackup 24 = .ok (.goto (-22), 3) := by decide +kernel
theorem dX9_clearsBackup_27 : decode cX9_clearsBackup 27 = .ok (.return_, 1) := by decide +kernel
theorem dX9_ends_0 : decode cX9_ends 0 = .ok (.aload_n 0, 1) := by decide +kernel
theorem dX9_ends_1 : decode cX9_ends 1 = .ok (.getfield 7, 3) := by decide +kernel
theorem dX9_ends_4 : decode cX9_ends 4 = .ok (.iconst 2, 1) := by decide +kernel
theorem dX9_ends_5 : decode cX9_ends 5 = .ok (.iaload, 1) := by decide +kernel
theorem dX9_ends_6 : decode cX9_ends 6 = .ok (.istore_n 1, 1) := by decide +kernel
theorem dX9_ends_7 : decode cX9_ends 7 = .ok (.aload_n 0, 1) := by decide +kernel
theorem dX9_ends_8 : decode cX9_ends 8 = .ok (.iconst 0, 1) := by decide +kernel
theorem dX9_ends_9 : decode cX9_ends 9 = .ok (.invokevirtual 61, 3) := by decide +kernel
theorem dX9_ends_12 : decode cX9_ends 12 = .ok (.istore_n 2, 1) := by decide +kernel
theorem dX9_ends_13 : decode cX9_ends 13 = .ok (.aload_n 0, 1) := by decide +kernel
theorem dX9_ends_14 : decode cX9_ends 14 = .ok (.iload_n 1, 1) := by decide +kernel
theorem dX9_ends_15 : decode cX9_ends 15 = .ok (.iload_n 2, 1) := by decide +kernel
theorem dX9_ends_16 : decode cX9_ends 16 = .ok (.invokevirtual 40, 3) := by decide +kernel
theorem dX9_ends_19 : decode cX9_ends 19 = .ok (.istore_n 3, 1) := by decide +kernel
theorem dX9_ends_20 : decode cX9_ends 20 = .ok (.aload_n 0, 1) := by decide +kernel
theorem dX9_ends_21 : decode cX9_ends 21 = .ok (.getfield 7, 3) := by decide +kernel
theorem dX9_ends_24 : decode cX9_ends 24 = .ok (.iload_n 3, 1) := by decide +kernel
theorem dX9_ends_25 : decode cX9_ends 25 = .ok (.iconst 2, 1) := by decide +kernel
theorem dX9_ends_26 : decode cX9_ends 26 = .ok (.iastore, 1) := by decide +kernel
theorem dX9_ends_27 : decode cX9_ends 27 = .ok (.aload_n 0, 1) := by decide +kernel
theorem dX9_ends_28 : decode cX9_ends 28 = .ok (.getfield 7, 3) := by decide +kernel
theorem dX9_ends_31 : decode cX9_ends 31 = .ok (.iload_n 3, 1) := by decide +kernel
theorem dX9_ends_32 : decode cX9_ends 32 = .ok (.iconst 1, 1) := by decide +kernel
theorem dX9_ends_33 : decode cX9_ends 33 = .ok (.iadd, 1) := by decide +kernel
theorem dX9_ends_34 : decode cX9_ends 34 = .ok (.aload_n 0, 1) := by decide +kernel
theorem dX9_ends_35 : decode cX9_ends 35 = .ok (.iconst 1, 1) := by decide +kernel
theorem dX9_ends_36 : decode cX9_ends 36 = .ok (.invokevirtual 61, 3) := by decide +kernel
theorem dX9_ends_39 : decode cX9_ends 39 = .ok (.iastore, 1) := by decide +kernel
theorem dX9_ends_40 : decode cX9_ends 40 = .ok (.aload_n 0, 1) := by decide +kernel
theorem dX9_ends_41 : decode cX9_ends 41 = .ok (.getfield 7, 3) := by decide +kernel
theorem dX9_ends_44 : decode cX9_ends 44 = .ok (.iload_n 3, 1) := by decide +kernel
theorem dX9_ends_45 : decode cX9_ends 45 = .ok (.iconst 2, 1) := by decide +kernel
theorem dX9_ends_46 : decode cX9_ends 46 = .ok (.iadd, 1) := by decide +kernel
theorem dX9_ends_47 : decode cX9_ends 47 = .ok (.aload_n 0, 1) := by decide +kernel
theorem dX9_ends_48 : decode cX9_ends 48 = .ok (.iconst 2, 1) := by decide +kernel
theorem dX9_ends_49 : decode cX9_ends 49 = .ok (.invokevirtual 61, 3) := by decide +kernel
theorem dX9_ends_52 : decode cX9_ends 52 = .ok (.iastore, 1) := by decide +kernel
theorem dX9_ends_53 : decode cX9_ends 53 = .ok (.aload_n 0, 1) := by decide +kernel
theorem dX9_ends_54 : decode cX9_ends 54 = .ok (.getfield 7, 3) := by decide +kernel
theorem dX9_ends_57 : decode cX9_ends 57 = .ok (.iload_n 3, 1) := by decide +kernel
theorem dX9_ends_58 : decode cX9_ends 58 = .ok (.iconst 3, 1) := by decide +kernel
theorem dX9_ends_59 : decode cX9_ends 59 = .ok (.iadd, 1) := by decide +kernel
theorem dX9_ends_60 : decode cX9_ends 60 = .ok (.aload_n 0, 1) := by decide +kernel
theorem dX9_ends_61 : decode cX9_ends 61 = .ok (.iconst 4, 1) := by decide +kernel
theorem dX9_ends_62 : decode cX9_ends 62 = .ok (.invokevirtual 61, 3) := by decide +kernel
theorem dX9_ends_65 : decode cX9_ends 65 = .ok (.iastore, 1) := by decide +kernel
theorem dX9_ends_66 : decode cX9_ends 66 = .ok (.iload_n 2, 1) := by decide +kernel
theorem dX9_ends_67 : decode cX9_ends 67 = .ok (.invokestatic 36, 3) := by decide +kernel
theorem dX9_ends_70 : decode cX9_ends 70 = .ok (.ifCond .eq 12, 3) := by decide +kernel
theorem dX9_ends_73 : decode cX9_ends 73 = .ok (.aload_n 0, 1) := by decide +kernel
theorem dX9_ends_74 : decode cX9_ends 74 = .ok (.iload_n 1, 1) := by decide +kernel
theorem dX9_ends_75 : decode cX9_ends 75 = .ok (.iload_n 2, 1) := by decide +kernel
theorem dX9_ends_76 : decode cX9_ends 76 = .ok (.invokestatic 64, 3) := by decide +kernel
theorem dX9_ends_79 : decode cX9_ends 79 = .ok (.invokevirtual 88, 3) := by decide +kernel
theorem dX9_ends_82 : decode cX9_ends 82 = .ok (.aload_n 0, 1) := by decide +kernel
theorem dX9_ends_83 : decode cX9_ends 83 = .ok (.getfield 7, 3) := by decide +kernel
theorem dX9_ends_86 : decode cX9_ends 86 = .ok (.iconst 3, 1) := by decide +kernel
theorem dX9_ends_87 : decode cX9_ends 87 = .ok (.dup2, 1) := by decide +kernel
theorem dX9_ends_88 : decode cX9_ends 88 = .ok (.iaload, 1) := by decide +kernel
theorem dX9_ends_89 : decode cX9_ends 89 = .ok (.aload_n 0, 1) := by decide +kernel
theorem dX9_ends_90 : decode cX9_ends 90 = .ok (.iconst 3, 1) := by decide +kernel
theorem dX9_ends_91 : decode cX9_ends 91 = .ok (.invokevirtual 61, 3) := by decide +kernel
theorem dX9_ends_94 : decode cX9_ends 94 = .ok (.iconst 3, 1) := by decide +kernel
theorem dX9_ends_95 : decode cX9_ends 95 = .ok (.irem, 1) := by decide +kernel
theorem dX9_ends_96 : decode cX9_ends 96 = .ok (.ifCond .ne 7, 3) := by decide +kernel
theorem dX9_ends_99 : decode cX9_ends 99 = .ok (.iconst 0, 1) := by decide +kernel
theorem dX9_ends_100 : decode cX9_ends 100 = .ok (.goto 4, 3) := by decide +kernel
theorem dX9_ends_103 : decode cX9_ends 103 = .ok (.iconst 1, 1) := by decide +kernel
theorem dX9_ends_104 : decode cX9_ends 104 = .ok (.iadd, 1) := by decide +kernel
theorem dX9_ends_105 : decode cX9_ends 105 = .ok (.iastore, 1) := by decide +kernel
theorem dX9_ends_106 : decode cX9_ends 106 = .ok (.aload_n 0, 1) := by decide +kernel
theorem dX9_ends_107 : decode cX9_ends 107 = .ok (.invokevirtual 92, 3) := by decide +kernel
theorem dX9_ends_110 : decode cX9_ends 110 = .ok (.return_, 1) := by decide +kernel
theorem dX9_clearsNow_0 : decode cX9_clearsNow 0 = .ok (.iconst 0, 1) := by decide +kernel
theorem dX9_clearsNow_1 : decode cX9_clearsNow 1 = .ok (.istore_n 1, 1) := by decide +kernel
theorem dX9_clearsNow_2 : decode cX9_clearsNow 2 = .ok (.iload_n 1, 1) := by decide +kernel
theorem dX9_clearsNow_3 : decode cX9_clearsNow 3 = .ok (.bipush 8, 2) := by decide +kernel
theorem dX9_clearsNow_5 : decode cX9_clearsNow 5 = .ok (.if_icmp .ge 20, 3) := by decide +kernel
theorem dX9_clearsNow_8 : decode cX9_clearsNow 8 = .ok (.aload_n 0, 1) := by decide +kernel
theorem dX9_clearsNow_9 : decode cX9_clearsNow 9 = .ok (.getfield 7, 3) := by decide +kernel
theorem dX9_clearsNow_12 : decode cX9_clearsNow 12 = .ok (.sipush 248, 3) := by decide +kernel
theorem dX9_clearsNow_15 : decode cX9_clearsNow 15 = .ok (.iload_n 1, 1) := by decide +kernel
theorem dX9_clearsNow_16 : decode cX9_clearsNow 16 = .ok (.iadd, 1) := by decide +kernel
theorem dX9_clearsNow_17 : decode cX9_clearsNow 17 = .ok (.iconst 0, 1) := by decide +kernel
theorem dX9_clearsNow_18 : decode cX9_clearsNow 18 = .ok (.iastore, 1) := by decide +kernel
theorem dX9_clearsNow_19 : decode cX9_clearsNow 19 = .ok (.iinc 1 1, 3) := by decide +kernel
theorem dX9_clearsNow_22 : decode cX9_clearsNow 22 = .ok (.goto (-20), 3) := by decide +kernel
theorem dX9_clearsNow_25 : decode cX9_clearsNow 25 = .ok (.return_, 1) := by decide +kernel
theorem dX9_ticks_0 : decode cX9_ticks 0 = .ok (.aload_n 0, 1) := by decide +kernel
theorem dX9_ticks_1 : decode cX9_ticks 1 = .ok (.getfield 7, 3) := by decide +kernel
theorem dX9_ticks_4 : decode cX9_ticks 4 = .ok (.iconst 0, 1) := by decide +kernel
theorem dX9_ticks_5 : decode cX9_ticks 5 = .ok (.dup2, 1) := by decide +kernel
theorem dX9_ticks_6 : decode cX9_ticks 6 = .ok (.iaload, 1) := by decide +kernel
theorem dX9_ticks_7 : decode cX9_ticks 7 = .ok (.iconst 1, 1) := by decide +kernel
theorem dX9_ticks_8 : decode cX9_ticks 8 = .ok (.iadd, 1) := by decide +kernel
theorem dX9_ticks_9 : decode cX9_ticks 9 = .ok (.iastore, 1) := by decide +kernel
theorem dX9_ticks_10 : decode cX9_ticks 10 = .ok (.aload_n 0, 1) := by decide +kernel
theorem dX9_ticks_11 : decode cX9_ticks 11 = .ok (.invokevirtual 77, 3) := by decide +kernel
theorem dX9_ticks_14 : decode cX9_ticks 14 = .ok (.ifCond .ne 7, 3) := by decide +kernel
theorem dX9_ticks_17 : decode cX9_ticks 17 = .ok (.aload_n 0, 1) := by decide +kernel
theorem dX9_ticks_18 : decode cX9_ticks 18 = .ok (.invokevirtual 95, 3) := by decide +kernel
theorem dX9_ticks_21 : decode cX9_ticks 21 = .ok (.aload_n 0, 1) := by decide +kernel
theorem dX9_ticks_22 : decode cX9_ticks 22 = .ok (.iconst 5, 1) := by decide +kernel
theorem dX9_ticks_23 : decode cX9_ticks 23 = .ok (.invokevirtual 61, 3) := by decide +kernel
theorem dX9_ticks_26 : decode cX9_ticks 26 = .ok (.ifCond .le 61, 3) := by decide +kernel
theorem dX9_ticks_29 : decode cX9_ticks 29 = .ok (.aload_n 0, 1) := by decide +kernel
theorem dX9_ticks_30 : decode cX9_ticks 30 = .ok (.getfield 7, 3) := by decide +kernel
theorem dX9_ticks_33 : decode cX9_ticks 33 = .ok (.sipush 253, 3) := by decide +kernel
theorem dX9_ticks_36 : decode cX9_ticks 36 = .ok (.dup2, 1) := by decide +kernel
theorem dX9_ticks_37 : decode cX9_ticks 37 = .ok (.iaload, 1) := by decide +kernel
theorem dX9_ticks_38 : decode cX9_ticks 38 = .ok (.iconst 1, 1) := by decide +kernel
theorem dX9_ticks_39 : decode cX9_ticks 39 = .ok (.isub, 1) := by decide +kernel
theorem dX9_ticks_40 : decode cX9_ticks 40 = .ok (.iastore, 1) := by decide +kernel
theorem dX9_ticks_41 : decode cX9_ticks 41 = .ok (.aload_n 0, 1) := by decide +kernel
theorem dX9_ticks_42 : decode cX9_ticks 42 = .ok (.iconst 5, 1) := by decide +kernel
theorem dX9_ticks_43 : decode cX9_ticks 43 = .ok (.invokevirtual 61, 3) := by decide +kernel
theorem dX9_ticks_46 : decode cX9_ticks 46 = .ok (.ifCond .ne 84, 3) := by decide +kernel
theorem dX9_ticks_49 : decode cX9_ticks 49 = .ok (.aload_n 0, 1) := by decide +kernel
theorem dX9_ticks_50 : decode cX9_ticks 50 = .ok (.getfield 7, 3) := by decide +kernel
theorem dX9_ticks_53 : decode cX9_ticks 53 = .ok (.aload_n 0, 1) := by decide +kernel
theorem dX9_ticks_54 : decode cX9_ticks 54 = .ok (.aload_n 0, 1) := by decide +kernel
theorem dX9_ticks_55 : decode cX9_ticks 55 = .ok (.getfield 7, 3) := by decide +kernel
theorem dX9_ticks_58 : decode cX9_ticks 58 = .ok (.iconst 2, 1) := by decide +kernel
theorem dX9_ticks_59 : decode cX9_ticks 59 = .ok (.iaload, 1) := by decide +kernel
theorem dX9_ticks_60 : decode cX9_ticks 60 = .ok (.aload_n 0, 1) := by decide +kernel
theorem dX9_ticks_61 : decode cX9_ticks 61 = .ok (.iconst 0, 1) := by decide +kernel
theorem dX9_ticks_62 : decode cX9_ticks 62 = .ok (.invokevirtual 61, 3) := by decide +kernel
theorem dX9_ticks_65 : decode cX9_ticks 65 = .ok (.invokestatic 64, 3) := by decide +kernel
theorem dX9_ticks_68 : decode cX9_ticks 68 = .ok (.invokevirtual 48, 3) := by decide +kernel
theorem dX9_ticks_71 : decode cX9_ticks 71 = .ok (.iconst 2, 1) := by decide +kernel
theorem dX9_ticks_72 : decode cX9_ticks 72 = .ok (.iastore, 1) := by decide +kernel
theorem dX9_ticks_73 : decode cX9_ticks 73 = .ok (.aload_n 0, 1) := by decide +kernel
theorem dX9_ticks_74 : decode cX9_ticks 74 = .ok (.getfield 7, 3) := by decide +kernel
theorem dX9_ticks_77 : decode cX9_ticks 77 = .ok (.bipush 9, 2) := by decide +kernel
theorem dX9_ticks_79 : decode cX9_ticks 79 = .ok (.dup2, 1) := by decide +kernel
theorem dX9_ticks_80 : decode cX9_ticks 80 = .ok (.iaload, 1) := by decide +kernel
theorem dX9_ticks_81 : decode cX9_ticks 81 = .ok (.iconst 1, 1) := by decide +kernel
theorem dX9_ticks_82 : decode cX9_ticks 82 = .ok (.iadd, 1) := by decide +kernel
theorem dX9_ticks_83 : decode cX9_ticks 83 = .ok (.iastore, 1) := by decide +kernel
theorem dX9_ticks_84 : decode cX9_ticks 84 = .ok (.goto 46, 3) := by decide +kernel
theorem dX9_ticks_87 : decode cX9_ticks 87 = .ok (.aload_n 0, 1) := by decide +kernel
theorem dX9_ticks_88 : decode cX9_ticks 88 = .ok (.bipush 6, 2) := by decide +kernel
theorem dX9_ticks_90 : decode cX9_ticks 90 = .ok (.invokevirtual 61, 3) := by decide +kernel
theorem dX9_ticks_93 : decode cX9_ticks 93 = .ok (.ifCond .le 37, 3) := by decide +kernel
theorem dX9_ticks_96 : decode cX9_ticks 96 = .ok (.aload_n 0, 1) := by decide +kernel
theorem dX9_ticks_97 : decode cX9_ticks 97 = .ok (.getfield 7, 3) := by decide +kernel
theorem dX9_ticks_100 : decode cX9_ticks 100 = .ok (.sipush 254, 3) := by decide +kernel
theorem dX9_ticks_103 : decode cX9_ticks 103 = .ok (.dup2, 1) := by decide +kernel
theorem dX9_ticks_104 : decode cX9_ticks 104 = .ok (.iaload, 1) := by decide +kernel
theorem dX9_ticks_105 : decode cX9_ticks 105 = .ok (.iconst 1, 1) := by decide +kernel
theorem dX9_ticks_106 : decode cX9_ticks 106 = .ok (.isub, 1) := by decide +kernel
theorem dX9_ticks_107 : decode cX9_ticks 107 = .ok (.iastore, 1) := by decide +kernel
theorem dX9_ticks_108 : decode cX9_ticks 108 = .ok (.aload_n 0, 1) := by decide +kernel
theorem dX9_ticks_109 : decode cX9_ticks 109 = .ok (.getfield 7, 3) := by decide +kernel
theorem dX9_ticks_112 : decode cX9_ticks 112 = .ok (.sipush 255, 3) := by decide +kernel
theorem dX9_ticks_115 : decode cX9_ticks 115 = .ok (.iconst 1, 1) := by decide +kernel
theorem dX9_ticks_116 : decode cX9_ticks 116 = .ok (.iastore, 1) := by decide +kernel
theorem dX9_ticks_117 : decode cX9_ticks 117 = .ok (.aload_n 0, 1) := by decide +kernel
theorem dX9_ticks_118 : decode cX9_ticks 118 = .ok (.bipush 6, 2) := by decide +kernel
theorem dX9_ticks_120 : decode cX9_ticks 120 = .ok (.invokevirtual 61, 3) := by decide +kernel
theorem dX9_ticks_123 : decode cX9_ticks 123 = .ok (.ifCond .ne 7, 3) := by decide +kernel
theorem dX9_ticks_126 : decode cX9_ticks 126 = .ok (.aload_n 0, 1) := by decide +kernel
theorem dX9_ticks_127 : decode cX9_ticks 127 = .ok (.invokevirtual 98, 3) := by decide +kernel
theorem dX9_ticks_130 : decode cX9_ticks 130 = .ok (.return_, 1) := by decide +kernel
theorem dX9_goes_0 : decode cX9_goes 0 = .ok (.aload_n 0, 1) := by decide +kernel
theorem dX9_goes_1 : decode cX9_goes 1 = .ok (.getfield 7, 3) := by decide +kernel
theorem dX9_goes_4 : decode cX9_goes 4 = .ok (.iconst 3, 1) := by decide +kernel
theorem dX9_goes_5 : decode cX9_goes 5 = .ok (.iaload, 1) := by decide +kernel
theorem dX9_goes_6 : decode cX9_goes 6 = .ok (.istore_n 2, 1) := by decide +kernel
theorem dX9_goes_7 : decode cX9_goes 7 = .ok (.iconst 0, 1) := by decide +kernel
theorem dX9_goes_8 : decode cX9_goes 8 = .ok (.istore_n 3, 1) := by decide +kernel
theorem dX9_goes_9 : decode cX9_goes 9 = .ok (.iload_n 3, 1) := by decide +kernel
theorem dX9_goes_10 : decode cX9_goes 10 = .ok (.iload_n 1, 1) := by decide +kernel
theorem dX9_goes_11 : decode cX9_goes 11 = .ok (.if_icmp .ge 13, 3) := by decide +kernel
theorem dX9_goes_14 : decode cX9_goes 14 = .ok (.aload_n 0, 1) := by decide +kernel
theorem dX9_goes_15 : decode cX9_goes 15 = .ok (.invokevirtual 101, 3) := by decide +kernel
theorem dX9_goes_18 : decode cX9_goes 18 = .ok (.iinc 3 1, 3) := by decide +kernel
theorem dX9_goes_21 : decode cX9_goes 21 = .ok (.goto (-12), 3) := by decide +kernel
theorem dX9_goes_24 : decode cX9_goes 24 = .ok (.aload_n 0, 1) := by decide +kernel
theorem dX9_goes_25 : decode cX9_goes 25 = .ok (.getfield 7, 3) := by decide +kernel
theorem dX9_goes_28 : decode cX9_goes 28 = .ok (.iconst 3, 1) := by decide +kernel
theorem dX9_goes_29 : decode cX9_goes 29 = .ok (.iaload, 1) := by decide +kernel
theorem dX9_goes_30 : decode cX9_goes 30 = .ok (.iload_n 2, 1) := by decide +kernel
theorem dX9_goes_31 : decode cX9_goes 31 = .ok (.isub, 1) := by decide +kernel
theorem dX9_goes_32 : decode cX9_goes 32 = .ok (.ireturn, 1) := by decide +kernel
theorem dX9_tears_0 : decode cX9_tears 0 = .ok (.aload_n 0, 1) := by decide +kernel
theorem dX9_tears_1 : decode cX9_tears 1 = .ok (.iload_n 1, 1) := by decide +kernel
theorem dX9_tears_2 : decode cX9_tears 2 = .ok (.iload_n 2, 1) := by decide +kernel
theorem dX9_tears_3 : decode cX9_tears 3 = .ok (.invokevirtual 40, 3) := by decide +kernel
theorem dX9_tears_6 : decode cX9_tears 6 = .ok (.istore_n 3, 1) := by decide +kernel
theorem dX9_tears_7 : decode cX9_tears 7 = .ok (.aload_n 0, 1) := by decide +kernel
theorem dX9_tears_8 : decode cX9_tears 8 = .ok (.getfield 7, 3) := by decide +kernel
theorem dX9_tears_11 : decode cX9_tears 11 = .ok (.iload_n 3, 1) := by decide +kernel
theorem dX9_tears_12 : decode cX9_tears 12 = .ok (.iconst 3, 1) := by decide +kernel
theorem dX9_tears_13 : decode cX9_tears 13 = .ok (.iastore, 1) := by decide +kernel
theorem dX9_tears_14 : decode cX9_tears 14 = .ok (.aload_n 0, 1) := by decide +kernel
theorem dX9_tears_15 : decode cX9_tears 15 = .ok (.getfield 7, 3) := by decide +kernel
theorem dX9_tears_18 : decode cX9_tears 18 = .ok (.iload_n 3, 1) := by decide +kernel
theorem dX9_tears_19 : decode cX9_tears 19 = .ok (.iconst 1, 1) := by decide +kernel
theorem dX9_tears_20 : decode cX9_tears 20 = .ok (.iadd, 1) := by decide +kernel
theorem dX9_tears_21 : decode cX9_tears 21 = .ok (.iconst 0, 1) := by decide +kernel
theorem dX9_tears_22 : decode cX9_tears 22 = .ok (.iastore, 1) := by decide +kernel
theorem dX9_tears_23 : decode cX9_tears 23 = .ok (.aload_n 0, 1) := by decide +kernel
theorem dX9_tears_24 : decode cX9_tears 24 = .ok (.getfield 7, 3) := by decide +kernel
theorem dX9_tears_27 : decode cX9_tears 27 = .ok (.iload_n 3, 1) := by decide +kernel
theorem dX9_tears_28 : decode cX9_tears 28 = .ok (.iconst 2, 1) := by decide +kernel
theorem dX9_tears_29 : decode cX9_tears 29 = .ok (.iadd, 1) := by decide +kernel
theorem dX9_tears_30 : decode cX9_tears 30 = .ok (.iconst 0, 1) := by decide +kernel
theorem dX9_tears_31 : decode cX9_tears 31 = .ok (.iastore, 1) := by decide +kernel
theorem dX9_tears_32 : decode cX9_tears 32 = .ok (.aload_n 0, 1) := by decide +kernel
theorem dX9_tears_33 : decode cX9_tears 33 = .ok (.getfield 7, 3) := by decide +kernel
theorem dX9_tears_36 : decode cX9_tears 36 = .ok (.iload_n 3, 1) := by decide +kernel
theorem dX9_tears_37 : decode cX9_tears 37 = .ok (.iconst 3, 1) := by decide +kernel
theorem dX9_tears_38 : decode cX9_tears 38 = .ok (.iadd, 1) := by decide +kernel
theorem dX9_tears_39 : decode cX9_tears 39 = .ok (.iconst 0, 1) := by decide +kernel
theorem dX9_tears_40 : decode cX9_tears 40 = .ok (.iastore, 1) := by decide +kernel
theorem dX9_tears_41 : decode cX9_tears 41 = .ok (.return_, 1) := by decide +kernel
theorem dX9_breaks_0 : decode cX9_breaks 0 = .ok (.iconst 0, 1) := by decide +kernel
theorem dX9_breaks_1 : decode cX9_breaks 1 = .ok (.istore_n 1, 1) := by decide +kernel
theorem dX9_breaks_2 : decode cX9_breaks 2 = .ok (.iload_n 1, 1) := by decide +kernel
theorem dX9_breaks_3 : decode cX9_breaks 3 = .ok (.bipush 12, 2) := by decide +kernel
theorem dX9_breaks_5 : decode cX9_breaks 5 = .ok (.if_icmp .ge 20, 3) := by decide +kernel
theorem dX9_breaks_8 : decode cX9_breaks 8 = .ok (.aload_n 0, 1) := by decide +kernel
theorem dX9_breaks_9 : decode cX9_breaks 9 = .ok (.getfield 22, 3) := by decide +kernel
theorem dX9_breaks_12 : decode cX9_breaks 12 = .ok (.iload_n 1, 1) := by decide +kernel
theorem dX9_breaks_13 : decode cX9_breaks 13 = .ok (.aload_n 0, 1) := by decide +kernel
theorem dX9_breaks_14 : decode cX9_breaks 14 = .ok (.iload_n 1, 1) := by decide +kernel
theorem dX9_breaks_15 : decode cX9_breaks 15 = .ok (.invokevirtual 58, 3) := by decide +kernel
theorem dX9_breaks_18 : decode cX9_breaks 18 = .ok (.iastore, 1) := by decide +kernel
theorem dX9_breaks_19 : decode cX9_breaks 19 = .ok (.iinc 1 1, 3) := by decide +kernel
theorem dX9_breaks_22 : decode cX9_breaks 22 = .ok (.goto (-20), 3) := by decide +kernel
theorem dX9_breaks_25 : decode cX9_breaks 25 = .ok (.aload_n 0, 1) := by decide +kernel
theorem dX9_breaks_26 : decode cX9_breaks 26 = .ok (.getfield 7, 3) := by decide +kernel
theorem dX9_breaks_29 : decode cX9_breaks 29 = .ok (.iconst 4, 1) := by decide +kernel
theorem dX9_breaks_30 : decode cX9_breaks 30 = .ok (.dup2, 1) := by decide +kernel
theorem dX9_breaks_31 : decode cX9_breaks 31 = .ok (.iaload, 1) := by decide +kernel
theorem dX9_breaks_32 : decode cX9_breaks 32 = .ok (.aload_n 0, 1) := by decide +kernel
theorem dX9_breaks_33 : decode cX9_breaks 33 = .ok (.getfield 7, 3) := by decide +kernel
theorem dX9_breaks_36 : decode cX9_breaks 36 = .ok (.bipush 11, 2) := by decide +kernel
theorem dX9_breaks_38 : decode cX9_breaks 38 = .ok (.iaload, 1) := by decide +kernel
theorem dX9_breaks_39 : decode cX9_breaks 39 = .ok (.aload_n 0, 1) := by decide +kernel
theorem dX9_breaks_40 : decode cX9_breaks 40 = .ok (.invokevirtual 77, 3) := by decide +kernel
theorem dX9_breaks_43 : decode cX9_breaks 43 = .ok (.ifCond .eq 7, 3) := by decide +kernel
theorem dX9_breaks_46 : decode cX9_breaks 46 = .ok (.iconst 1, 1) := by decide +kernel
theorem dX9_breaks_47 : decode cX9_breaks 47 = .ok (.goto 4, 3) := by decide +kernel
theorem dX9_breaks_50 : decode cX9_breaks 50 = .ok (.iconst 0, 1) := by decide +kernel
theorem dX9_breaks_51 : decode cX9_breaks 51 = .ok (.iadd, 1) := by decide +kernel
theorem dX9_breaks_52 : decode cX9_breaks 52 = .ok (.iadd, 1) := by decide +kernel
theorem dX9_breaks_53 : decode cX9_breaks 53 = .ok (.iastore, 1) := by decide +kernel
theorem dX9_breaks_54 : decode cX9_breaks 54 = .ok (.aload_n 0, 1) := by decide +kernel
theorem dX9_breaks_55 : decode cX9_breaks 55 = .ok (.invokevirtual 77, 3) := by decide +kernel
theorem dX9_breaks_58 : decode cX9_breaks 58 = .ok (.ifCond .eq 73, 3) := by decide +kernel
theorem dX9_breaks_61 : decode cX9_breaks 61 = .ok (.aload_n 0, 1) := by decide +kernel
theorem dX9_breaks_62 : decode cX9_breaks 62 = .ok (.getfield 7, 3) := by decide +kernel
theorem dX9_breaks_65 : decode cX9_breaks 65 = .ok (.iconst 2, 1) := by decide +kernel
theorem dX9_breaks_66 : decode cX9_breaks 66 = .ok (.iaload, 1) := by decide +kernel
theorem dX9_breaks_67 : decode cX9_breaks 67 = .ok (.istore_n 1, 1) := by decide +kernel
theorem dX9_breaks_68 : decode cX9_breaks 68 = .ok (.aload_n 0, 1) := by decide +kernel
theorem dX9_breaks_69 : decode cX9_breaks 69 = .ok (.iconst 0, 1) := by decide +kernel
theorem dX9_breaks_70 : decode cX9_breaks 70 = .ok (.invokevirtual 61, 3) := by decide +kernel
theorem dX9_breaks_73 : decode cX9_breaks 73 = .ok (.invokestatic 64, 3) := by decide +kernel
theorem dX9_breaks_76 : decode cX9_breaks 76 = .ok (.istore_n 2, 1) := by decide +kernel
theorem dX9_breaks_77 : decode cX9_breaks 77 = .ok (.aload_n 0, 1) := by decide +kernel
theorem dX9_breaks_78 : decode cX9_breaks 78 = .ok (.iload_n 1, 1) := by decide +kernel
theorem dX9_breaks_79 : decode cX9_breaks 79 = .ok (.aload_n 0, 1) := by decide +kernel
theorem dX9_breaks_80 : decode cX9_breaks 80 = .ok (.iconst 0, 1) := by decide +kernel
theorem dX9_breaks_81 : decode cX9_breaks 81 = .ok (.invokevirtual 61, 3) := by decide +kernel
theorem dX9_breaks_84 : decode cX9_breaks 84 = .ok (.invokevirtual 104, 3) := by decide +kernel
theorem dX9_breaks_87 : decode cX9_breaks 87 = .ok (.aload_n 0, 1) := by decide +kernel
theorem dX9_breaks_88 : decode cX9_breaks 88 = .ok (.iconst 5, 1) := by decide +kernel
theorem dX9_breaks_89 : decode cX9_breaks 89 = .ok (.invokevirtual 61, 3) := by decide +kernel
theorem dX9_breaks_92 : decode cX9_breaks 92 = .ok (.ifCond .le 9, 3) := by decide +kernel
theorem dX9_breaks_95 : decode cX9_breaks 95 = .ok (.aload_n 0, 1) := by decide +kernel
theorem dX9_breaks_96 : decode cX9_breaks 96 = .ok (.iload_n 1, 1) := by decide +kernel
theorem dX9_breaks_97 : decode cX9_breaks 97 = .ok (.iload_n 2, 1) := by decide +kernel
theorem dX9_breaks_98 : decode cX9_breaks 98 = .ok (.invokevirtual 88, 3) := by decide +kernel
theorem dX9_breaks_101 : decode cX9_breaks 101 = .ok (.aload_n 0, 1) := by decide +kernel
theorem dX9_breaks_102 : decode cX9_breaks 102 = .ok (.iconst 0, 1) := by decide +kernel
theorem dX9_breaks_103 : decode cX9_breaks 103 = .ok (.invokevirtual 61, 3) := by decide +kernel
theorem dX9_breaks_106 : decode cX9_breaks 106 = .ok (.invokestatic 36, 3) := by decide +kernel
theorem dX9_breaks_109 : decode cX9_breaks 109 = .ok (.ifCond .eq 22, 3) := by decide +kernel
theorem dX9_breaks_112 : decode cX9_breaks 112 = .ok (.aload_n 0, 1) := by decide +kernel
theorem dX9_breaks_113 : decode cX9_breaks 113 = .ok (.bipush 7, 2) := by decide +kernel
theorem dX9_breaks_115 : decode cX9_breaks 115 = .ok (.invokevirtual 61, 3) := by decide +kernel
theorem dX9_breaks_118 : decode cX9_breaks 118 = .ok (.iconst 1, 1) := by decide +kernel
theorem dX9_breaks_119 : decode cX9_breaks 119 = .ok (.if_icmp .ne 12, 3) := by decide +kernel
theorem dX9_breaks_122 : decode cX9_breaks 122 = .ok (.aload_n 0, 1) := by decide +kernel
theorem dX9_breaks_123 : decode cX9_breaks 123 = .ok (.iload_n 1, 1) := by decide +kernel
theorem dX9_breaks_124 : decode cX9_breaks 124 = .ok (.iload_n 2, 1) := by decide +kernel
theorem dX9_breaks_125 : decode cX9_breaks 125 = .ok (.invokestatic 67, 3) := by decide +kernel
theorem dX9_breaks_128 : decode cX9_breaks 128 = .ok (.invokevirtual 104, 3) := by decide +kernel
theorem dX9_breaks_131 : decode cX9_breaks 131 = .ok (.aload_n 0, 1) := by decide +kernel
theorem dX9_breaks_132 : decode cX9_breaks 132 = .ok (.invokevirtual 92, 3) := by decide +kernel
theorem dX9_breaks_135 : decode cX9_breaks 135 = .ok (.aload_n 0, 1) := by decide +kernel
theorem dX9_breaks_136 : decode cX9_breaks 136 = .ok (.getfield 7, 3) := by decide +kernel
theorem dX9_breaks_139 : decode cX9_breaks 139 = .ok (.bipush 11, 2) := by decide +kernel
theorem dX9_breaks_141 : decode cX9_breaks 141 = .ok (.iaload, 1) := by decide +kernel
theorem dX9_breaks_142 : decode cX9_breaks 142 = .ok (.ifCond .le 10, 3) := by decide +kernel
theorem dX9_breaks_145 : decode cX9_breaks 145 = .ok (.aload_n 0, 1) := by decide +kernel
theorem dX9_breaks_146 : decode cX9_breaks 146 = .ok (.invokevirtual 70, 3) := by decide +kernel
theorem dX9_breaks_149 : decode cX9_breaks 149 = .ok (.goto (-14), 3) := by decide +kernel
theorem dX9_breaks_152 : decode cX9_breaks 152 = .ok (.aload_n 0, 1) := by decide +kernel
theorem dX9_breaks_153 : decode cX9_breaks 153 = .ok (.getfield 7, 3) := by decide +kernel
theorem dX9_breaks_156 : decode cX9_breaks 156 = .ok (.iconst 1, 1) := by decide +kernel
theorem dX9_breaks_157 : decode cX9_breaks 157 = .ok (.iconst 1, 1) := by decide +kernel
theorem dX9_breaks_158 : decode cX9_breaks 158 = .ok (.iastore, 1) := by decide +kernel
theorem dX9_breaks_159 : decode cX9_breaks 159 = .ok (.aload_n 0, 1) := by decide +kernel
theorem dX9_breaks_160 : decode cX9_breaks 160 = .ok (.getfield 7, 3) := by decide +kernel
theorem dX9_breaks_163 : decode cX9_breaks 163 = .ok (.bipush 8, 2) := by decide +kernel
theorem dX9_breaks_165 : decode cX9_breaks 165 = .ok (.dup2, 1) := by decide +kernel
theorem dX9_breaks_166 : decode cX9_breaks 166 = .ok (.iaload, 1) := by decide +kernel
theorem dX9_breaks_167 : decode cX9_breaks 167 = .ok (.iconst 1, 1) := by decide +kernel
theorem dX9_breaks_168 : decode cX9_breaks 168 = .ok (.iadd, 1) := by decide +kernel
theorem dX9_breaks_169 : decode cX9_breaks 169 = .ok (.iastore, 1) := by decide +kernel
theorem dX9_breaks_170 : decode cX9_breaks 170 = .ok (.iconst 0, 1) := by decide +kernel
theorem dX9_breaks_171 : decode cX9_breaks 171 = .ok (.istore_n 1, 1) := by decide +kernel
theorem dX9_breaks_172 : decode cX9_breaks 172 = .ok (.iconst 0, 1) := by decide +kernel
theorem dX9_breaks_173 : decode cX9_breaks 173 = .ok (.istore_n 2, 1) := by decide +kernel
theorem dX9_breaks_174 : decode cX9_breaks 174 = .ok (.iload_n 2, 1) := by decide +kernel
theorem dX9_breaks_175 : decode cX9_breaks 175 = .ok (.bipush 12, 2) := by decide +kernel
theorem dX9_breaks_177 : decode cX9_breaks 177 = .ok (.if_icmp .ge 42, 3) := by decide +kernel
theorem dX9_breaks_180 : decode cX9_breaks 180 = .ok (.iload_n 1, 1) := by decide +kernel
theorem dX9_breaks_181 : decode cX9_breaks 181 = .ok (.aload_n 0, 1) := by decide +kernel
theorem dX9_breaks_182 : decode cX9_breaks 182 = .ok (.getfield 22, 3) := by decide +kernel
theorem dX9_breaks_185 : decode cX9_breaks 185 = .ok (.iload_n 2, 1) := by decide +kernel
theorem dX9_breaks_186 : decode cX9_breaks 186 = .ok (.iaload, 1) := by decide +kernel
theorem dX9_breaks_187 : decode cX9_breaks 187 = .ok (.ifCond .le 23, 3) := by decide +kernel
theorem dX9_breaks_190 : decode cX9_breaks 190 = .ok (.aload_n 0, 1) := by decide +kernel
theorem dX9_breaks_191 : decode cX9_breaks 191 = .ok (.iload_n 2, 1) := by decide +kernel
theorem dX9_breaks_192 : decode cX9_breaks 192 = .ok (.invokevirtual 58, 3) := by decide +kernel
theorem dX9_breaks_195 : decode cX9_breaks 195 = .ok (.aload_n 0, 1) := by decide +kernel
theorem dX9_breaks_196 : decode cX9_breaks 196 = .ok (.getfield 22, 3) := by decide +kernel
theorem dX9_breaks_199 : decode cX9_breaks 199 = .ok (.iload_n 2, 1) := by decide +kernel
theorem dX9_breaks_200 : decode cX9_breaks 200 = .ok (.iaload, 1) := by decide +kernel
theorem dX9_breaks_201 : decode cX9_breaks 201 = .ok (.if_icmp .eq 9, 3) := by decide +kernel
theorem dX9_breaks_204 : decode cX9_breaks 204 = .ok (.iconst 1, 1) := by decide +kernel
theorem dX9_breaks_205 : decode cX9_breaks 205 = .ok (.iload_n 2, 1) := by decide +kernel
theorem dX9_breaks_206 : decode cX9_breaks 206 = .ok (.ishl, 1) := by decide +kernel
theorem dX9_breaks_207 : decode cX9_breaks 207 = .ok (.goto 4, 3) := by decide +kernel
theorem dX9_breaks_210 : decode cX9_breaks 210 = .ok (.iconst 0, 1) := by decide +kernel
theorem dX9_breaks_211 : decode cX9_breaks 211 = .ok (.ior, 1) := by decide +kernel
theorem dX9_breaks_212 : decode cX9_breaks 212 = .ok (.istore_n 1, 1) := by decide +kernel
theorem dX9_breaks_213 : decode cX9_breaks 213 = .ok (.iinc 2 1, 3) := by decide +kernel
theorem dX9_breaks_216 : decode cX9_breaks 216 = .ok (.goto (-42), 3) := by decide +kernel
theorem dX9_breaks_219 : decode cX9_breaks 219 = .ok (.iload_n 1, 1) := by decide +kernel
theorem dX9_breaks_220 : decode cX9_breaks 220 = .ok (.ireturn, 1) := by decide +kernel
theorem dX9_ones_0 : decode cX9_ones 0 = .ok (.iconst 0, 1) := by decide +kernel
theorem dX9_ones_1 : decode cX9_ones 1 = .ok (.istore_n 1, 1) := by decide +kernel
theorem dX9_ones_2 : decode cX9_ones 2 = .ok (.iconst 0, 1) := by decide +kernel
theorem dX9_ones_3 : decode cX9_ones 3 = .ok (.istore_n 2, 1) := by decide +kernel
theorem dX9_ones_4 : decode cX9_ones 4 = .ok (.iload_n 2, 1) := by decide +kernel
theorem dX9_ones_5 : decode cX9_ones 5 = .ok (.bipush 12, 2) := by decide +kernel
theorem dX9_ones_7 : decode cX9_ones 7 = .ok (.if_icmp .ge 17, 3) := by decide +kernel
theorem dX9_ones_10 : decode cX9_ones 10 = .ok (.iload_n 1, 1) := by decide +kernel
theorem dX9_ones_11 : decode cX9_ones 11 = .ok (.iload_n 0, 1) := by decide +kernel
theorem dX9_ones_12 : decode cX9_ones 12 = .ok (.iload_n 2, 1) := by decide +kernel
theorem dX9_ones_13 : decode cX9_ones 13 = .ok (.ishr, 1) := by decide +kernel
theorem dX9_ones_14 : decode cX9_ones 14 = .ok (.iconst 1, 1) := by decide +kernel
theorem dX9_ones_15 : decode cX9_ones 15 = .ok (.iand, 1) := by decide +kernel
theorem dX9_ones_16 : decode cX9_ones 16 = .ok (.iadd, 1) := by decide +kernel
theorem dX9_ones_17 : decode cX9_ones 17 = .ok (.istore_n 1, 1) := by decide +kernel
theorem dX9_ones_18 : decode cX9_ones 18 = .ok (.iinc 2 1, 3) := by decide +kernel
theorem dX9_ones_21 : decode cX9_ones 21 = .ok (.goto (-17), 3) := by decide +kernel
theorem dX9_ones_24 : decode cX9_ones 24 = .ok (.iload_n 1, 1) := by decide +kernel
theorem dX9_ones_25 : decode cX9_ones 25 = .ok (.ireturn, 1) := by decide +kernel
theorem dX9_turnsOff_0 : decode cX9_turnsOff 0 = .ok (.aload_n 0, 1) := by decide +kernel
theorem dX9_turnsOff_1 : decode cX9_turnsOff 1 = .ok (.invokevirtual 107, 3) := by decide +kernel
theorem dX9_turnsOff_4 : decode cX9_turnsOff 4 = .ok (.ifCond .eq 6, 3) := by decide +kernel
theorem dX9_turnsOff_7 : decode cX9_turnsOff 7 = .ok (.bipush (-2), 2) := by decide +kernel
theorem dX9_turnsOff_9 : decode cX9_turnsOff 9 = .ok (.ireturn, 1) := by decide +kernel
theorem dX9_turnsOff_10 : decode cX9_turnsOff 10 = .ok (.aload_n 0, 1) := by decide +kernel
theorem dX9_turnsOff_11 : decode cX9_turnsOff 11 = .ok (.invokevirtual 110, 3) := by decide +kernel
theorem dX9_turnsOff_14 : decode cX9_turnsOff 14 = .ok (.invokestatic 113, 3) := by decide +kernel
theorem dX9_turnsOff_17 : decode cX9_turnsOff 17 = .ok (.istore_n 1, 1) := by decide +kernel
theorem dX9_turnsOff_18 : decode cX9_turnsOff 18 = .ok (.aload_n 0, 1) := by decide +kernel
theorem dX9_turnsOff_19 : decode cX9_turnsOff 19 = .ok (.getfield 7, 3) := by decide +kernel
theorem dX9_turnsOff_22 : decode cX9_turnsOff 22 = .ok (.iconst 5, 1) := by decide +kernel
theorem dX9_turnsOff_23 : decode cX9_turnsOff 23 = .ok (.dup2, 1) := by decide +kernel
theorem dX9_turnsOff_24 : decode cX9_turnsOff 24 = .ok (.iaload, 1) := by decide +kernel
theorem dX9_turnsOff_25 : decode cX9_turnsOff 25 = .ok (.iload_n 1, 1) := by decide +kernel
theorem dX9_turnsOff_26 : decode cX9_turnsOff 26 = .ok (.iadd, 1) := by decide +kernel
theorem dX9_turnsOff_27 : decode cX9_turnsOff 27 = .ok (.iastore, 1) := by decide +kernel
theorem dX9_turnsOff_28 : decode cX9_turnsOff 28 = .ok (.iload_n 1, 1) := by decide +kernel
theorem dX9_turnsOff_29 : decode cX9_turnsOff 29 = .ok (.ireturn, 1) := by decide +kernel
theorem dX9_isPlace_0 : decode cX9_isPlace 0 = .ok (.aload_n 0, 1) := by decide +kernel
theorem dX9_isPlace_1 : decode cX9_isPlace 1 = .ok (.getfield 7, 3) := by decide +kernel
theorem dX9_isPlace_4 : decode cX9_isPlace 4 = .ok (.aload_n 0, 1) := by decide +kernel
theorem dX9_isPlace_5 : decode cX9_isPlace 5 = .ok (.iload_n 1, 1) := by decide +kernel
theorem dX9_isPlace_6 : decode cX9_isPlace 6 = .ok (.invokevirtual 44, 3) := by decide +kernel
theorem dX9_isPlace_9 : decode cX9_isPlace 9 = .ok (.iaload, 1) := by decide +kernel
theorem dX9_isPlace_10 : decode cX9_isPlace 10 = .ok (.iconst 2, 1) := by decide +kernel
theorem dX9_isPlace_11 : decode cX9_isPlace 11 = .ok (.if_icmp .ne 27, 3) := by decide +kernel
theorem dX9_isPlace_14 : decode cX9_isPlace 14 = .ok (.aload_n 0, 1) := by decide +kernel
theorem dX9_isPlace_15 : decode cX9_isPlace 15 = .ok (.aload_n 0, 1) := by decide +kernel
theorem dX9_isPlace_16 : decode cX9_isPlace 16 = .ok (.getfield 7, 3) := by decide +kernel
theorem dX9_isPlace_19 : decode cX9_isPlace 19 = .ok (.aload_n 0, 1) := by decide +kernel
theorem dX9_isPlace_20 : decode cX9_isPlace 20 = .ok (.iload_n 1, 1) := by decide +kernel
theorem dX9_isPlace_21 : decode cX9_isPlace 21 = .ok (.invokevirtual 44, 3) := by decide +kernel
theorem dX9_isPlace_24 : decode cX9_isPlace 24 = .ok (.iconst 1, 1) := by decide +kernel
theorem dX9_isPlace_25 : decode cX9_isPlace 25 = .ok (.iadd, 1) := by decide +kernel
theorem dX9_isPlace_26 : decode cX9_isPlace 26 = .ok (.iaload, 1) := by decide +kernel
theorem dX9_isPlace_27 : decode cX9_isPlace 27 = .ok (.invokevirtual 51, 3) := by decide +kernel
theorem dX9_isPlace_30 : decode cX9_isPlace 30 = .ok (.iload_n 1, 1) := by decide +kernel
theorem dX9_isPlace_31 : decode cX9_isPlace 31 = .ok (.if_icmp .ne 7, 3) := by decide +kernel
theorem dX9_isPlace_34 : decode cX9_isPlace 34 = .ok (.iconst 1, 1) := by decide +kernel
theorem dX9_isPlace_35 : decode cX9_isPlace 35 = .ok (.goto 4, 3) := by decide +kernel
theorem dX9_isPlace_38 : decode cX9_isPlace 38 = .ok (.iconst 0, 1) := by decide +kernel
theorem dX9_isPlace_39 : decode cX9_isPlace 39 = .ok (.ireturn, 1) := by decide +kernel
theorem dX9_turnsOn_0 : decode cX9_turnsOn 0 = .ok (.aload_n 0, 1) := by decide +kernel
theorem dX9_turnsOn_1 : decode cX9_turnsOn 1 = .ok (.invokevirtual 107, 3) := by decide +kernel
theorem dX9_turnsOn_4 : decode cX9_turnsOn 4 = .ok (.ifCond .ne 6, 3) := by decide +kernel
theorem dX9_turnsOn_7 : decode cX9_turnsOn 7 = .ok (.bipush (-2), 2) := by decide +kernel
theorem dX9_turnsOn_9 : decode cX9_turnsOn 9 = .ok (.ireturn, 1) := by decide +kernel
theorem dX9_turnsOn_10 : decode cX9_turnsOn 10 = .ok (.aload_n 0, 1) := by decide +kernel
theorem dX9_turnsOn_11 : decode cX9_turnsOn 11 = .ok (.getfield 7, 3) := by decide +kernel
theorem dX9_turnsOn_14 : decode cX9_turnsOn 14 = .ok (.iconst 1, 1) := by decide +kernel
theorem dX9_turnsOn_15 : decode cX9_turnsOn 15 = .ok (.iconst 0, 1) := by decide +kernel
theorem dX9_turnsOn_16 : decode cX9_turnsOn 16 = .ok (.iastore, 1) := by decide +kernel
theorem dX9_turnsOn_17 : decode cX9_turnsOn 17 = .ok (.iconst 0, 1) := by decide +kernel
theorem dX9_turnsOn_18 : decode cX9_turnsOn 18 = .ok (.istore_n 1, 1) := by decide +kernel
theorem dX9_turnsOn_19 : decode cX9_turnsOn 19 = .ok (.iload_n 1, 1) := by decide +kernel
theorem dX9_turnsOn_20 : decode cX9_turnsOn 20 = .ok (.bipush 48, 2) := by decide +kernel
theorem dX9_turnsOn_22 : decode cX9_turnsOn 22 = .ok (.if_icmp .ge 44, 3) := by decide +kernel
theorem dX9_turnsOn_25 : decode cX9_turnsOn 25 = .ok (.iload_n 1, 1) := by decide +kernel
theorem dX9_turnsOn_26 : decode cX9_turnsOn 26 = .ok (.bipush 24, 2) := by decide +kernel
theorem dX9_turnsOn_28 : decode cX9_turnsOn 28 = .ok (.irem, 1) := by decide +kernel
theorem dX9_turnsOn_29 : decode cX9_turnsOn 29 = .ok (.bipush 16, 2) := by decide +kernel
theorem dX9_turnsOn_31 : decode cX9_turnsOn 31 = .ok (.if_icmp .lt 29, 3) := by decide +kernel
theorem dX9_turnsOn_34 : decode cX9_turnsOn 34 = .ok (.aload_n 0, 1) := by decide +kernel
theorem dX9_turnsOn_35 : decode cX9_turnsOn 35 = .ok (.getfield 7, 3) := by decide +kernel
theorem dX9_turnsOn_38 : decode cX9_turnsOn 38 = .ok (.bipush 11, 2) := by decide +kernel
theorem dX9_turnsOn_40 : decode cX9_turnsOn 40 = .ok (.iaload, 1) := by decide +kernel
theorem dX9_turnsOn_41 : decode cX9_turnsOn 41 = .ok (.bipush 8, 2) := by decide +kernel
theorem dX9_turnsOn_43 : decode cX9_turnsOn 43 = .ok (.if_icmp .ge 17, 3) := by decide +kernel
theorem dX9_turnsOn_46 : decode cX9_turnsOn 46 = .ok (.aload_n 0, 1) := by decide +kernel
theorem dX9_turnsOn_47 : decode cX9_turnsOn 47 = .ok (.iload_n 1, 1) := by decide +kernel
theorem dX9_turnsOn_48 : decode cX9_turnsOn 48 = .ok (.invokevirtual 116, 3) := by decide +kernel
theorem dX9_turnsOn_51 : decode cX9_turnsOn 51 = .ok (.ifCond .eq 9, 3) := by decide +kernel
theorem dX9_turnsOn_54 : decode cX9_turnsOn 54 = .ok (.aload_n 0, 1) := by decide +kernel
theorem dX9_turnsOn_55 : decode cX9_turnsOn 55 = .ok (.iload_n 1, 1) := by decide +kernel
theorem dX9_turnsOn_56 : decode cX9_turnsOn 56 = .ok (.iconst 0, 1) := by decide +kernel
theorem dX9_turnsOn_57 : decode cX9_turnsOn 57 = .ok (.invokevirtual 119, 3) := by decide +kernel
theorem dX9_turnsOn_60 : decode cX9_turnsOn 60 = .ok (.iinc 1 1, 3) := by decide +kernel
theorem dX9_turnsOn_63 : decode cX9_turnsOn 63 = .ok (.goto (-44), 3) := by decide +kernel
theorem dX9_turnsOn_66 : decode cX9_turnsOn 66 = .ok (.aload_n 0, 1) := by decide +kernel
theorem dX9_turnsOn_67 : decode cX9_turnsOn 67 = .ok (.getfield 7, 3) := by decide +kernel
theorem dX9_turnsOn_70 : decode cX9_turnsOn 70 = .ok (.bipush 11, 2) := by decide +kernel
theorem dX9_turnsOn_72 : decode cX9_turnsOn 72 = .ok (.iaload, 1) := by decide +kernel
theorem dX9_turnsOn_73 : decode cX9_turnsOn 73 = .ok (.ireturn, 1) := by decide +kernel
theorem dX9_asks_0 : decode cX9_asks 0 = .ok (.iload_n 1, 1) := by decide +kernel
theorem dX9_asks_1 : decode cX9_asks 1 = .ok (.iconst 0, 1) := by decide +kernel
theorem dX9_asks_2 : decode cX9_asks 2 = .ok (.bipush 11, 2) := by decide +kernel
theorem dX9_asks_4 : decode cX9_asks 4 = .ok (.invokestatic 32, 3) := by decide +kernel
theorem dX9_asks_7 : decode cX9_asks 7 = .ok (.ifCond .eq 23, 3) := by decide +kernel
theorem dX9_asks_10 : decode cX9_asks 10 = .ok (.iload_n 2, 1) := by decide +kernel
theorem dX9_asks_11 : decode cX9_asks 11 = .ok (.iconst 0, 1) := by decide +kernel
theorem dX9_asks_12 : decode cX9_asks 12 = .ok (.sipush 999, 3) := by decide +kernel
theorem dX9_asks_15 : decode cX9_asks 15 = .ok (.invokestatic 32, 3) := by decide +kernel
theorem dX9_asks_18 : decode cX9_asks 18 = .ok (.ifCond .eq 12, 3) := by decide +kernel
theorem dX9_asks_21 : decode cX9_asks 21 = .ok (.iload_n 3, 1) := by decide +kernel
theorem dX9_asks_22 : decode cX9_asks 22 = .ok (.iconst 0, 1) := by decide +kernel
theorem dX9_asks_23 : decode cX9_asks 23 = .ok (.iconst 1, 1) := by decide +kernel
theorem dX9_asks_24 : decode cX9_asks 24 = .ok (.invokestatic 32, 3) := by decide +kernel
theorem dX9_asks_27 : decode cX9_asks 27 = .ok (.ifCond .ne 5, 3) := by decide +kernel
theorem dX9_asks_30 : decode cX9_asks 30 = .ok (.iconst (-1), 1) := by decide +kernel
theorem dX9_asks_31 : decode cX9_asks 31 = .ok (.ireturn, 1) := by decide +kernel
theorem dX9_asks_32 : decode cX9_asks 32 = .ok (.aload_n 0, 1) := by decide +kernel
theorem dX9_asks_33 : decode cX9_asks 33 = .ok (.invokevirtual 107, 3) := by decide +kernel
theorem dX9_asks_36 : decode cX9_asks 36 = .ok (.ifCond .eq 6, 3) := by decide +kernel
theorem dX9_asks_39 : decode cX9_asks 39 = .ok (.bipush (-2), 2) := by decide +kernel
theorem dX9_asks_41 : decode cX9_asks 41 = .ok (.ireturn, 1) := by decide +kernel
theorem dX9_asks_42 : decode cX9_asks 42 = .ok (.aload_n 0, 1) := by decide +kernel
theorem dX9_asks_43 : decode cX9_asks 43 = .ok (.getfield 7, 3) := by decide +kernel
theorem dX9_asks_46 : decode cX9_asks 46 = .ok (.bipush 11, 2) := by decide +kernel
theorem dX9_asks_48 : decode cX9_asks 48 = .ok (.iaload, 1) := by decide +kernel
theorem dX9_asks_49 : decode cX9_asks 49 = .ok (.bipush 8, 2) := by decide +kernel
theorem dX9_asks_51 : decode cX9_asks 51 = .ok (.if_icmp .ne 6, 3) := by decide +kernel
theorem dX9_asks_54 : decode cX9_asks 54 = .ok (.bipush (-3), 2) := by decide +kernel
theorem dX9_asks_56 : decode cX9_asks 56 = .ok (.ireturn, 1) := by decide +kernel
theorem dX9_asks_57 : decode cX9_asks 57 = .ok (.aload_n 0, 1) := by decide +kernel
theorem dX9_asks_58 : decode cX9_asks 58 = .ok (.iload_n 1, 1) := by decide +kernel
theorem dX9_asks_59 : decode cX9_asks 59 = .ok (.iload_n 2, 1) := by decide +kernel
theorem dX9_asks_60 : decode cX9_asks 60 = .ok (.iconst 2, 1) := by decide +kernel
theorem dX9_asks_61 : decode cX9_asks 61 = .ok (.iload_n 3, 1) := by decide +kernel
theorem dX9_asks_62 : decode cX9_asks 62 = .ok (.isub, 1) := by decide +kernel
theorem dX9_asks_63 : decode cX9_asks 63 = .ok (.iconst 0, 1) := by decide +kernel
theorem dX9_asks_64 : decode cX9_asks 64 = .ok (.invokevirtual 54, 3) := by decide +kernel
theorem dX9_asks_67 : decode cX9_asks 67 = .ok (.aload_n 0, 1) := by decide +kernel
theorem dX9_asks_68 : decode cX9_asks 68 = .ok (.getfield 7, 3) := by decide +kernel
theorem dX9_asks_71 : decode cX9_asks 71 = .ok (.bipush 11, 2) := by decide +kernel
theorem dX9_asks_73 : decode cX9_asks 73 = .ok (.iaload, 1) := by decide +kernel
theorem dX9_asks_74 : decode cX9_asks 74 = .ok (.ireturn, 1) := by decide +kernel
theorem dX9_lets_0 : decode cX9_lets 0 = .ok (.iload_n 1, 1) := by decide +kernel
theorem dX9_lets_1 : decode cX9_lets 1 = .ok (.iconst 1, 1) := by decide +kernel
theorem dX9_lets_2 : decode cX9_lets 2 = .ok (.sipush 200, 3) := by decide +kernel
theorem dX9_lets_5 : decode cX9_lets 5 = .ok (.invokestatic 32, 3) := by decide +kernel
theorem dX9_lets_8 : decode cX9_lets 8 = .ok (.ifCond .ne 5, 3) := by decide +kernel
theorem dX9_lets_11 : decode cX9_lets 11 = .ok (.iconst (-1), 1) := by decide +kernel
theorem dX9_lets_12 : decode cX9_lets 12 = .ok (.ireturn, 1) := by decide +kernel
theorem dX9_lets_13 : decode cX9_lets 13 = .ok (.aload_n 0, 1) := by decide +kernel
theorem dX9_lets_14 : decode cX9_lets 14 = .ok (.invokevirtual 107, 3) := by decide +kernel
theorem dX9_lets_17 : decode cX9_lets 17 = .ok (.ifCond .eq 8, 3) := by decide +kernel
theorem dX9_lets_20 : decode cX9_lets 20 = .ok (.bipush (-2), 2) := by decide +kernel
theorem dX9_lets_22 : decode cX9_lets 22 = .ok (.goto 27, 3) := by decide +kernel
theorem dX9_lets_25 : decode cX9_lets 25 = .ok (.aload_n 0, 1) := by decide +kernel
theorem dX9_lets_26 : decode cX9_lets 26 = .ok (.getfield 7, 3) := by decide +kernel
theorem dX9_lets_29 : decode cX9_lets 29 = .ok (.iconst 0, 1) := by decide +kernel
theorem dX9_lets_30 : decode cX9_lets 30 = .ok (.iaload, 1) := by decide +kernel
theorem dX9_lets_31 : decode cX9_lets 31 = .ok (.iload_n 1, 1) := by decide +kernel
theorem dX9_lets_32 : decode cX9_lets 32 = .ok (.iadd, 1) := by decide +kernel
theorem dX9_lets_33 : decode cX9_lets 33 = .ok (.sipush 9000, 3) := by decide +kernel
theorem dX9_lets_36 : decode cX9_lets 36 = .ok (.if_icmp .le 8, 3) := by decide +kernel
theorem dX9_lets_39 : decode cX9_lets 39 = .ok (.bipush (-3), 2) := by decide +kernel
theorem dX9_lets_41 : decode cX9_lets 41 = .ok (.goto 8, 3) := by decide +kernel
theorem dX9_lets_44 : decode cX9_lets 44 = .ok (.aload_n 0, 1) := by decide +kernel
theorem dX9_lets_45 : decode cX9_lets 45 = .ok (.iload_n 1, 1) := by decide +kernel
theorem dX9_lets_46 : decode cX9_lets 46 = .ok (.invokevirtual 122, 3) := by decide +kernel
theorem dX9_lets_49 : decode cX9_lets 49 = .ok (.ireturn, 1) := by decide +kernel
theorem dX9_changes_0 : decode cX9_changes 0 = .ok (.aload_n 0, 1) := by decide +kernel
theorem dX9_changes_1 : decode cX9_changes 1 = .ok (.invokevirtual 107, 3) := by decide +kernel
theorem dX9_changes_4 : decode cX9_changes 4 = .ok (.ifCond .ne 25, 3) := by decide +kernel
theorem dX9_changes_7 : decode cX9_changes 7 = .ok (.aload_n 0, 1) := by decide +kernel
theorem dX9_changes_8 : decode cX9_changes 8 = .ok (.invokevirtual 77, 3) := by decide +kernel
theorem dX9_changes_11 : decode cX9_changes 11 = .ok (.ifCond .ne 18, 3) := by decide +kernel
theorem dX9_changes_14 : decode cX9_changes 14 = .ok (.aload_n 0, 1) := by decide +kernel
theorem dX9_changes_15 : decode cX9_changes 15 = .ok (.iconst 1, 1) := by decide +kernel
theorem dX9_changes_16 : decode cX9_changes 16 = .ok (.aload_n 0, 1) := by decide +kernel
theorem dX9_changes_17 : decode cX9_changes 17 = .ok (.getfield 7, 3) := by decide +kernel
theorem dX9_changes_20 : decode cX9_changes 20 = .ok (.iconst 2, 1) := by decide +kernel
theorem dX9_changes_21 : decode cX9_changes 21 = .ok (.iaload, 1) := by decide +kernel
theorem dX9_changes_22 : decode cX9_changes 22 = .ok (.isub, 1) := by decide +kernel
theorem dX9_changes_23 : decode cX9_changes 23 = .ok (.invokevirtual 125, 3) := by decide +kernel
theorem dX9_changes_26 : decode cX9_changes 26 = .ok (.ifCond .ne 6, 3) := by decide +kernel
theorem dX9_changes_29 : decode cX9_changes 29 = .ok (.bipush (-2), 2) := by decide +kernel
theorem dX9_changes_31 : decode cX9_changes 31 = .ok (.ireturn, 1) := by decide +kernel
theorem dX9_changes_32 : decode cX9_changes 32 = .ok (.aload_n 0, 1) := by decide +kernel
theorem dX9_changes_33 : decode cX9_changes 33 = .ok (.getfield 7, 3) := by decide +kernel
theorem dX9_changes_36 : decode cX9_changes 36 = .ok (.iconst 2, 1) := by decide +kernel
theorem dX9_changes_37 : decode cX9_changes 37 = .ok (.iconst 1, 1) := by decide +kernel
theorem dX9_changes_38 : decode cX9_changes 38 = .ok (.aload_n 0, 1) := by decide +kernel
theorem dX9_changes_39 : decode cX9_changes 39 = .ok (.getfield 7, 3) := by decide +kernel
theorem dX9_changes_42 : decode cX9_changes 42 = .ok (.iconst 2, 1) := by decide +kernel
theorem dX9_changes_43 : decode cX9_changes 43 = .ok (.iaload, 1) := by decide +kernel
theorem dX9_changes_44 : decode cX9_changes 44 = .ok (.isub, 1) := by decide +kernel
theorem dX9_changes_45 : decode cX9_changes 45 = .ok (.iastore, 1) := by decide +kernel
theorem dX9_changes_46 : decode cX9_changes 46 = .ok (.aload_n 0, 1) := by decide +kernel
theorem dX9_changes_47 : decode cX9_changes 47 = .ok (.getfield 7, 3) := by decide +kernel
theorem dX9_changes_50 : decode cX9_changes 50 = .ok (.iconst 2, 1) := by decide +kernel
theorem dX9_changes_51 : decode cX9_changes 51 = .ok (.iaload, 1) := by decide +kernel
theorem dX9_changes_52 : decode cX9_changes 52 = .ok (.ireturn, 1) := by decide +kernel
theorem dX9_cleans_0 : decode cX9_cleans 0 = .ok (.iload_n 1, 1) := by decide +kernel
theorem dX9_cleans_1 : decode cX9_cleans 1 = .ok (.invokestatic 128, 3) := by decide +kernel
theorem dX9_cleans_4 : decode cX9_cleans 4 = .ok (.ifCond .ne 5, 3) := by decide +kernel
theorem dX9_cleans_7 : decode cX9_cleans 7 = .ok (.iconst (-1), 1) := by decide +kernel
theorem dX9_cleans_8 : decode cX9_cleans 8 = .ok (.ireturn, 1) := by decide +kernel
theorem dX9_cleans_9 : decode cX9_cleans 9 = .ok (.aload_n 0, 1) := by decide +kernel
theorem dX9_cleans_10 : decode cX9_cleans 10 = .ok (.invokevirtual 107, 3) := by decide +kernel
theorem dX9_cleans_13 : decode cX9_cleans 13 = .ok (.ifCond .ne 13, 3) := by decide +kernel
theorem dX9_cleans_16 : decode cX9_cleans 16 = .ok (.iload_n 1, 1) := by decide +kernel
theorem dX9_cleans_17 : decode cX9_cleans 17 = .ok (.aload_n 0, 1) := by decide +kernel
theorem dX9_cleans_18 : decode cX9_cleans 18 = .ok (.getfield 7, 3) := by decide +kernel
theorem dX9_cleans_21 : decode cX9_cleans 21 = .ok (.iconst 2, 1) := by decide +kernel
theorem dX9_cleans_22 : decode cX9_cleans 22 = .ok (.iaload, 1) := by decide +kernel
theorem dX9_cleans_23 : decode cX9_cleans 23 = .ok (.if_icmp .ne 6, 3) := by decide +kernel
theorem dX9_cleans_26 : decode cX9_cleans 26 = .ok (.bipush (-2), 2) := by decide +kernel
theorem dX9_cleans_28 : decode cX9_cleans 28 = .ok (.ireturn, 1) := by decide +kernel
theorem dX9_cleans_29 : decode cX9_cleans 29 = .ok (.iconst 0, 1) := by decide +kernel
theorem dX9_cleans_30 : decode cX9_cleans 30 = .ok (.istore_n 2, 1) := by decide +kernel
theorem dX9_cleans_31 : decode cX9_cleans 31 = .ok (.bipush 24, 2) := by decide +kernel
theorem dX9_cleans_33 : decode cX9_cleans 33 = .ok (.iload_n 1, 1) := by decide +kernel
theorem dX9_cleans_34 : decode cX9_cleans 34 = .ok (.imul, 1) := by decide +kernel
theorem dX9_cleans_35 : decode cX9_cleans 35 = .ok (.istore_n 3, 1) := by decide +kernel
theorem dX9_cleans_36 : decode cX9_cleans 36 = .ok (.iload_n 3, 1) := by decide +kernel
theorem dX9_cleans_37 : decode cX9_cleans 37 = .ok (.bipush 24, 2) := by decide +kernel
theorem dX9_cleans_39 : decode cX9_cleans 39 = .ok (.iload_n 1, 1) := by decide +kernel
theorem dX9_cleans_40 : decode cX9_cleans 40 = .ok (.imul, 1) := by decide +kernel
theorem dX9_cleans_41 : decode cX9_cleans 41 = .ok (.bipush 24, 2) := by decide +kernel
theorem dX9_cleans_43 : decode cX9_cleans 43 = .ok (.iadd, 1) := by decide +kernel
theorem dX9_cleans_44 : decode cX9_cleans 44 = .ok (.if_icmp .ge 25, 3) := by decide +kernel
theorem dX9_cleans_47 : decode cX9_cleans 47 = .ok (.iload_n 2, 1) := by decide +kernel
theorem dX9_cleans_48 : decode cX9_cleans 48 = .ok (.aload_n 0, 1) := by decide +kernel
theorem dX9_cleans_49 : decode cX9_cleans 49 = .ok (.iload_n 3, 1) := by decide +kernel
theorem dX9_cleans_50 : decode cX9_cleans 50 = .ok (.invokevirtual 116, 3) := by decide +kernel
theorem dX9_cleans_53 : decode cX9_cleans 53 = .ok (.ifCond .eq 7, 3) := by decide +kernel
theorem dX9_cleans_56 : decode cX9_cleans 56 = .ok (.iconst 1, 1) := by decide +kernel
theorem dX9_cleans_57 : decode cX9_cleans 57 = .ok (.goto 4, 3) := by decide +kernel
theorem dX9_cleans_60 : decode cX9_cleans 60 = .ok (.iconst 0, 1) := by decide +kernel
theorem dX9_cleans_61 : decode cX9_cleans 61 = .ok (.iadd, 1) := by decide +kernel
theorem dX9_cleans_62 : decode cX9_cleans 62 = .ok (.istore_n 2, 1) := by decide +kernel
theorem dX9_cleans_63 : decode cX9_cleans 63 = .ok (.iinc 3 1, 3) := by decide +kernel
theorem dX9_cleans_66 : decode cX9_cleans 66 = .ok (.goto (-30), 3) := by decide +kernel
theorem dX9_cleans_69 : decode cX9_cleans 69 = .ok (.aload_n 0, 1) := by decide +kernel
theorem dX9_cleans_70 : decode cX9_cleans 70 = .ok (.getfield 7, 3) := by decide +kernel
theorem dX9_cleans_73 : decode cX9_cleans 73 = .ok (.bipush 11, 2) := by decide +kernel
theorem dX9_cleans_75 : decode cX9_cleans 75 = .ok (.iaload, 1) := by decide +kernel
theorem dX9_cleans_76 : decode cX9_cleans 76 = .ok (.iload_n 2, 1) := by decide +kernel
theorem dX9_cleans_77 : decode cX9_cleans 77 = .ok (.iadd, 1) := by decide +kernel
theorem dX9_cleans_78 : decode cX9_cleans 78 = .ok (.bipush 8, 2) := by decide +kernel
theorem dX9_cleans_80 : decode cX9_cleans 80 = .ok (.if_icmp .le 6, 3) := by decide +kernel
theorem dX9_cleans_83 : decode cX9_cleans 83 = .ok (.bipush (-3), 2) := by decide +kernel
theorem dX9_cleans_85 : decode cX9_cleans 85 = .ok (.ireturn, 1) := by decide +kernel
theorem dX9_cleans_86 : decode cX9_cleans 86 = .ok (.bipush 24, 2) := by decide +kernel
theorem dX9_cleans_88 : decode cX9_cleans 88 = .ok (.iload_n 1, 1) := by decide +kernel
theorem dX9_cleans_89 : decode cX9_cleans 89 = .ok (.imul, 1) := by decide +kernel
theorem dX9_cleans_90 : decode cX9_cleans 90 = .ok (.istore_n 3, 1) := by decide +kernel
theorem dX9_cleans_91 : decode cX9_cleans 91 = .ok (.iload_n 3, 1) := by decide +kernel
theorem dX9_cleans_92 : decode cX9_cleans 92 = .ok (.bipush 24, 2) := by decide +kernel
theorem dX9_cleans_94 : decode cX9_cleans 94 = .ok (.iload_n 1, 1) := by decide +kernel
theorem dX9_cleans_95 : decode cX9_cleans 95 = .ok (.imul, 1) := by decide +kernel
theorem dX9_cleans_96 : decode cX9_cleans 96 = .ok (.bipush 24, 2) := by decide +kernel
theorem dX9_cleans_98 : decode cX9_cleans 98 = .ok (.iadd, 1) := by decide +kernel
theorem dX9_cleans_99 : decode cX9_cleans 99 = .ok (.if_icmp .ge 23, 3) := by decide +kernel
theorem dX9_cleans_102 : decode cX9_cleans 102 = .ok (.aload_n 0, 1) := by decide +kernel
theorem dX9_cleans_103 : decode cX9_cleans 103 = .ok (.iload_n 3, 1) := by decide +kernel
theorem dX9_cleans_104 : decode cX9_cleans 104 = .ok (.invokevirtual 116, 3) := by decide +kernel
theorem dX9_cleans_107 : decode cX9_cleans 107 = .ok (.ifCond .eq 9, 3) := by decide +kernel
theorem dX9_cleans_110 : decode cX9_cleans 110 = .ok (.aload_n 0, 1) := by decide +kernel
theorem dX9_cleans_111 : decode cX9_cleans 111 = .ok (.iload_n 3, 1) := by decide +kernel
theorem dX9_cleans_112 : decode cX9_cleans 112 = .ok (.iconst 3, 1) := by decide +kernel
theorem dX9_cleans_113 : decode cX9_cleans 113 = .ok (.invokevirtual 119, 3) := by decide +kernel
theorem dX9_cleans_116 : decode cX9_cleans 116 = .ok (.iinc 3 1, 3) := by decide +kernel
theorem dX9_cleans_119 : decode cX9_cleans 119 = .ok (.goto (-28), 3) := by decide +kernel
theorem dX9_cleans_122 : decode cX9_cleans 122 = .ok (.iload_n 2, 1) := by decide +kernel
theorem dX9_cleans_123 : decode cX9_cleans 123 = .ok (.ireturn, 1) := by decide +kernel
theorem dX9_erases_0 : decode cX9_erases 0 = .ok (.iload_n 1, 1) := by decide +kernel
theorem dX9_erases_1 : decode cX9_erases 1 = .ok (.invokestatic 128, 3) := by decide +kernel
theorem dX9_erases_4 : decode cX9_erases 4 = .ok (.ifCond .ne 5, 3) := by decide +kernel
theorem dX9_erases_7 : decode cX9_erases 7 = .ok (.iconst (-1), 1) := by decide +kernel
theorem dX9_erases_8 : decode cX9_erases 8 = .ok (.ireturn, 1) := by decide +kernel
theorem dX9_erases_9 : decode cX9_erases 9 = .ok (.aload_n 0, 1) := by decide +kernel
theorem dX9_erases_10 : decode cX9_erases 10 = .ok (.invokevirtual 107, 3) := by decide +kernel
theorem dX9_erases_13 : decode cX9_erases 13 = .ok (.ifCond .ne 17, 3) := by decide +kernel
theorem dX9_erases_16 : decode cX9_erases 16 = .ok (.iload_n 1, 1) := by decide +kernel
theorem dX9_erases_17 : decode cX9_erases 17 = .ok (.aload_n 0, 1) := by decide +kernel
theorem dX9_erases_18 : decode cX9_erases 18 = .ok (.getfield 7, 3) := by decide +kernel
theorem dX9_erases_21 : decode cX9_erases 21 = .ok (.iconst 2, 1) := by decide +kernel
theorem dX9_erases_22 : decode cX9_erases 22 = .ok (.iaload, 1) := by decide +kernel
theorem dX9_erases_23 : decode cX9_erases 23 = .ok (.if_icmp .eq 7, 3) := by decide +kernel
theorem dX9_erases_26 : decode cX9_erases 26 = .ok (.iconst 1, 1) := by decide +kernel
theorem dX9_erases_27 : decode cX9_erases 27 = .ok (.goto 4, 3) := by decide +kernel
theorem dX9_erases_30 : decode cX9_erases 30 = .ok (.iconst 0, 1) := by decide +kernel
theorem dX9_erases_31 : decode cX9_erases 31 = .ok (.istore_n 2, 1) := by decide +kernel
theorem dX9_erases_32 : decode cX9_erases 32 = .ok (.bipush 24, 2) := by decide +kernel
theorem dX9_erases_34 : decode cX9_erases 34 = .ok (.iload_n 1, 1) := by decide +kernel
theorem dX9_erases_35 : decode cX9_erases 35 = .ok (.imul, 1) := by decide +kernel
theorem dX9_erases_36 : decode cX9_erases 36 = .ok (.istore_n 3, 1) := by decide +kernel
theorem dX9_erases_37 : decode cX9_erases 37 = .ok (.iload_n 3, 1) := by decide +kernel
theorem dX9_erases_38 : decode cX9_erases 38 = .ok (.bipush 24, 2) := by decide +kernel
theorem dX9_erases_40 : decode cX9_erases 40 = .ok (.iload_n 1, 1) := by decide +kernel
theorem dX9_erases_41 : decode cX9_erases 41 = .ok (.imul, 1) := by decide +kernel
theorem dX9_erases_42 : decode cX9_erases 42 = .ok (.bipush 24, 2) := by decide +kernel
theorem dX9_erases_44 : decode cX9_erases 44 = .ok (.iadd, 1) := by decide +kernel
theorem dX9_erases_45 : decode cX9_erases 45 = .ok (.if_icmp .ge 27, 3) := by decide +kernel
theorem dX9_erases_48 : decode cX9_erases 48 = .ok (.iload_n 2, 1) := by decide +kernel
theorem dX9_erases_49 : decode cX9_erases 49 = .ok (.ifCond .eq 15, 3) := by decide +kernel
theorem dX9_erases_52 : decode cX9_erases 52 = .ok (.aload_n 0, 1) := by decide +kernel
theorem dX9_erases_53 : decode cX9_erases 53 = .ok (.iload_n 3, 1) := by decide +kernel
theorem dX9_erases_54 : decode cX9_erases 54 = .ok (.invokevirtual 116, 3) := by decide +kernel
theorem dX9_erases_57 : decode cX9_erases 57 = .ok (.ifCond .ne 7, 3) := by decide +kernel
theorem dX9_erases_60 : decode cX9_erases 60 = .ok (.iconst 1, 1) := by decide +kernel
theorem dX9_erases_61 : decode cX9_erases 61 = .ok (.goto 4, 3) := by decide +kernel
theorem dX9_erases_64 : decode cX9_erases 64 = .ok (.iconst 0, 1) := by decide +kernel
theorem dX9_erases_65 : decode cX9_erases 65 = .ok (.istore_n 2, 1) := by decide +kernel
theorem dX9_erases_66 : decode cX9_erases 66 = .ok (.iinc 3 1, 3) := by decide +kernel
theorem dX9_erases_69 : decode cX9_erases 69 = .ok (.goto (-32), 3) := by decide +kernel
theorem dX9_erases_72 : decode cX9_erases 72 = .ok (.iload_n 2, 1) := by decide +kernel
theorem dX9_erases_73 : decode cX9_erases 73 = .ok (.ifCond .ne 6, 3) := by decide +kernel
theorem dX9_erases_76 : decode cX9_erases 76 = .ok (.bipush (-2), 2) := by decide +kernel
theorem dX9_erases_78 : decode cX9_erases 78 = .ok (.ireturn, 1) := by decide +kernel
theorem dX9_erases_79 : decode cX9_erases 79 = .ok (.iconst 0, 1) := by decide +kernel
theorem dX9_erases_80 : decode cX9_erases 80 = .ok (.istore_n 3, 1) := by decide +kernel
theorem dX9_erases_81 : decode cX9_erases 81 = .ok (.iload_n 3, 1) := by decide +kernel
theorem dX9_erases_82 : decode cX9_erases 82 = .ok (.bipush 64, 2) := by decide +kernel
theorem dX9_erases_84 : decode cX9_erases 84 = .ok (.if_icmp .ge 23, 3) := by decide +kernel
theorem dX9_erases_87 : decode cX9_erases 87 = .ok (.aload_n 0, 1) := by decide +kernel
theorem dX9_erases_88 : decode cX9_erases 88 = .ok (.getfield 7, 3) := by decide +kernel
theorem dX9_erases_91 : decode cX9_erases 91 = .ok (.aload_n 0, 1) := by decide +kernel
theorem dX9_erases_92 : decode cX9_erases 92 = .ok (.iload_n 1, 1) := by decide +kernel
theorem dX9_erases_93 : decode cX9_erases 93 = .ok (.iconst 0, 1) := by decide +kernel
theorem dX9_erases_94 : decode cX9_erases 94 = .ok (.invokevirtual 40, 3) := by decide +kernel
theorem dX9_erases_97 : decode cX9_erases 97 = .ok (.iload_n 3, 1) := by decide +kernel
theorem dX9_erases_98 : decode cX9_erases 98 = .ok (.iadd, 1) := by decide +kernel
theorem dX9_erases_99 : decode cX9_erases 99 = .ok (.iconst 0, 1) := by decide +kernel
theorem dX9_erases_100 : decode cX9_erases 100 = .ok (.iastore, 1) := by decide +kernel
theorem dX9_erases_101 : decode cX9_erases 101 = .ok (.iinc 3 1, 3) := by decide +kernel
theorem dX9_erases_104 : decode cX9_erases 104 = .ok (.goto (-23), 3) := by decide +kernel
theorem dX9_erases_107 : decode cX9_erases 107 = .ok (.iconst 0, 1) := by decide +kernel
theorem dX9_erases_108 : decode cX9_erases 108 = .ok (.istore_n 3, 1) := by decide +kernel
theorem dX9_erases_109 : decode cX9_erases 109 = .ok (.iload_n 3, 1) := by decide +kernel
theorem dX9_erases_110 : decode cX9_erases 110 = .ok (.bipush 8, 2) := by decide +kernel
theorem dX9_erases_112 : decode cX9_erases 112 = .ok (.if_icmp .ge 15, 3) := by decide +kernel
theorem dX9_erases_115 : decode cX9_erases 115 = .ok (.aload_n 0, 1) := by decide +kernel
theorem dX9_erases_116 : decode cX9_erases 116 = .ok (.iload_n 1, 1) := by decide +kernel
theorem dX9_erases_117 : decode cX9_erases 117 = .ok (.iload_n 3, 1) := by decide +kernel
theorem dX9_erases_118 : decode cX9_erases 118 = .ok (.invokevirtual 88, 3) := by decide +kernel
theorem dX9_erases_121 : decode cX9_erases 121 = .ok (.iinc 3 1, 3) := by decide +kernel
theorem dX9_erases_124 : decode cX9_erases 124 = .ok (.goto (-15), 3) := by decide +kernel
theorem dX9_erases_127 : decode cX9_erases 127 = .ok (.aload_n 0, 1) := by decide +kernel
theorem dX9_erases_128 : decode cX9_erases 128 = .ok (.getfield 7, 3) := by decide +kernel
theorem dX9_erases_131 : decode cX9_erases 131 = .ok (.bipush 6, 2) := by decide +kernel
theorem dX9_erases_133 : decode cX9_erases 133 = .ok (.iload_n 1, 1) := by decide +kernel
theorem dX9_erases_134 : decode cX9_erases 134 = .ok (.iadd, 1) := by decide +kernel
theorem dX9_erases_135 : decode cX9_erases 135 = .ok (.dup2, 1) := by decide +kernel
theorem dX9_erases_136 : decode cX9_erases 136 = .ok (.iaload, 1) := by decide +kernel
theorem dX9_erases_137 : decode cX9_erases 137 = .ok (.iconst 1, 1) := by decide +kernel
theorem dX9_erases_138 : decode cX9_erases 138 = .ok (.iadd, 1) := by decide +kernel
theorem dX9_erases_139 : decode cX9_erases 139 = .ok (.iastore, 1) := by decide +kernel
theorem dX9_erases_140 : decode cX9_erases 140 = .ok (.aload_n 0, 1) := by decide +kernel
theorem dX9_erases_141 : decode cX9_erases 141 = .ok (.getfield 7, 3) := by decide +kernel
theorem dX9_erases_144 : decode cX9_erases 144 = .ok (.bipush 6, 2) := by decide +kernel
theorem dX9_erases_146 : decode cX9_erases 146 = .ok (.iload_n 1, 1) := by decide +kernel
theorem dX9_erases_147 : decode cX9_erases 147 = .ok (.iadd, 1) := by decide +kernel
theorem dX9_erases_148 : decode cX9_erases 148 = .ok (.iaload, 1) := by decide +kernel
theorem dX9_erases_149 : decode cX9_erases 149 = .ok (.ireturn, 1) := by decide +kernel
theorem dX9_puts_0 : decode cX9_puts 0 = .ok (.aload_n 0, 1) := by decide +kernel
theorem dX9_puts_1 : decode cX9_puts 1 = .ok (.getfield 7, 3) := by decide +kernel
theorem dX9_puts_4 : decode cX9_puts 4 = .ok (.iload_n 1, 1) := by decide +kernel
theorem dX9_puts_5 : decode cX9_puts 5 = .ok (.iaload, 1) := by decide +kernel
theorem dX9_puts_6 : decode cX9_puts 6 = .ok (.istore_n 3, 1) := by decide +kernel
theorem dX9_puts_7 : decode cX9_puts 7 = .ok (.aload_n 0, 1) := by decide +kernel
end
section
theorem dX9_puts_8 : decode cX9_puts 8 = .ok (.getfield 7, 3) := by decide +kernel
theorem dX9_puts_11 : decode cX9_puts 11 = .ok (.iload_n 1, 1) := by decide +kernel
theorem dX9_puts_12 : decode cX9_puts 12 = .ok (.iload_n 2, 1) := by decide +kernel
theorem dX9_puts_13 : decode cX9_puts 13 = .ok (.iastore, 1) := by decide +kernel
theorem dX9_puts_14 : decode cX9_puts 14 = .ok (.iload_n 3, 1) := by decide +kernel
theorem dX9_puts_15 : decode cX9_puts 15 = .ok (.ireturn, 1) := by decide +kernel
theorem dX9_write_0 : decode cX9_write 0 = .ok (.aload_n 0, 1) := by decide +kernel
theorem dX9_write_1 : decode cX9_write 1 = .ok (.invokevirtual 131, 3) := by decide +kernel
theorem dX9_write_4 : decode cX9_write 4 = .ok (.aload_n 0, 1) := by decide +kernel
theorem dX9_write_5 : decode cX9_write 5 = .ok (.aload_n 0, 1) := by decide +kernel
theorem dX9_write_6 : decode cX9_write 6 = .ok (.iload_n 1, 1) := by decide +kernel
theorem dX9_write_7 : decode cX9_write 7 = .ok (.iload_n 2, 1) := by decide +kernel
theorem dX9_write_8 : decode cX9_write 8 = .ok (.iload_n 3, 1) := by decide +kernel
theorem dX9_write_9 : decode cX9_write 9 = .ok (.invokevirtual 134, 3) := by decide +kernel
theorem dX9_write_12 : decode cX9_write 12 = .ok (.invokevirtual 138, 3) := by decide +kernel
theorem dX9_write_15 : decode cX9_write 15 = .ok (.ireturn, 1) := by decide +kernel
theorem dX9_tick_0 : decode cX9_tick 0 = .ok (.aload_n 0, 1) := by decide +kernel
theorem dX9_tick_1 : decode cX9_tick 1 = .ok (.invokevirtual 131, 3) := by decide +kernel
theorem dX9_tick_4 : decode cX9_tick 4 = .ok (.aload_n 0, 1) := by decide +kernel
theorem dX9_tick_5 : decode cX9_tick 5 = .ok (.aload_n 0, 1) := by decide +kernel
theorem dX9_tick_6 : decode cX9_tick 6 = .ok (.iload_n 1, 1) := by decide +kernel
theorem dX9_tick_7 : decode cX9_tick 7 = .ok (.invokevirtual 141, 3) := by decide +kernel
theorem dX9_tick_10 : decode cX9_tick 10 = .ok (.invokevirtual 138, 3) := by decide +kernel
theorem dX9_tick_13 : decode cX9_tick 13 = .ok (.ireturn, 1) := by decide +kernel
theorem dX9_cut_0 : decode cX9_cut 0 = .ok (.aload_n 0, 1) := by decide +kernel
theorem dX9_cut_1 : decode cX9_cut 1 = .ok (.invokevirtual 131, 3) := by decide +kernel
theorem dX9_cut_4 : decode cX9_cut 4 = .ok (.aload_n 0, 1) := by decide +kernel
theorem dX9_cut_5 : decode cX9_cut 5 = .ok (.aload_n 0, 1) := by decide +kernel
theorem dX9_cut_6 : decode cX9_cut 6 = .ok (.invokevirtual 144, 3) := by decide +kernel
theorem dX9_cut_9 : decode cX9_cut 9 = .ok (.invokevirtual 138, 3) := by decide +kernel
theorem dX9_cut_12 : decode cX9_cut 12 = .ok (.ireturn, 1) := by decide +kernel
theorem dX9_on_0 : decode cX9_on 0 = .ok (.aload_n 0, 1) := by decide +kernel
theorem dX9_on_1 : decode cX9_on 1 = .ok (.invokevirtual 131, 3) := by decide +kernel
theorem dX9_on_4 : decode cX9_on 4 = .ok (.aload_n 0, 1) := by decide +kernel
theorem dX9_on_5 : decode cX9_on 5 = .ok (.aload_n 0, 1) := by decide +kernel
theorem dX9_on_6 : decode cX9_on 6 = .ok (.invokevirtual 147, 3) := by decide +kernel
theorem dX9_on_9 : decode cX9_on 9 = .ok (.invokevirtual 138, 3) := by decide +kernel
theorem dX9_on_12 : decode cX9_on 12 = .ok (.ireturn, 1) := by decide +kernel
theorem dX9_turn_0 : decode cX9_turn 0 = .ok (.aload_n 0, 1) := by decide +kernel
theorem dX9_turn_1 : decode cX9_turn 1 = .ok (.invokevirtual 131, 3) := by decide +kernel
theorem dX9_turn_4 : decode cX9_turn 4 = .ok (.aload_n 0, 1) := by decide +kernel
theorem dX9_turn_5 : decode cX9_turn 5 = .ok (.aload_n 0, 1) := by decide +kernel
theorem dX9_turn_6 : decode cX9_turn 6 = .ok (.invokevirtual 150, 3) := by decide +kernel
theorem dX9_turn_9 : decode cX9_turn 9 = .ok (.invokevirtual 138, 3) := by decide +kernel
theorem dX9_turn_12 : decode cX9_turn 12 = .ok (.ireturn, 1) := by decide +kernel
theorem dX9_clean_0 : decode cX9_clean 0 = .ok (.aload_n 0, 1) := by decide +kernel
theorem dX9_clean_1 : decode cX9_clean 1 = .ok (.invokevirtual 131, 3) := by decide +kernel
theorem dX9_clean_4 : decode cX9_clean 4 = .ok (.aload_n 0, 1) := by decide +kernel
theorem dX9_clean_5 : decode cX9_clean 5 = .ok (.aload_n 0, 1) := by decide +kernel
theorem dX9_clean_6 : decode cX9_clean 6 = .ok (.iload_n 1, 1) := by decide +kernel
theorem dX9_clean_7 : decode cX9_clean 7 = .ok (.invokevirtual 153, 3) := by decide +kernel
theorem dX9_clean_10 : decode cX9_clean 10 = .ok (.invokevirtual 138, 3) := by decide +kernel
theorem dX9_clean_13 : decode cX9_clean 13 = .ok (.ireturn, 1) := by decide +kernel
theorem dX9_erase_0 : decode cX9_erase 0 = .ok (.aload_n 0, 1) := by decide +kernel
theorem dX9_erase_1 : decode cX9_erase 1 = .ok (.invokevirtual 131, 3) := by decide +kernel
theorem dX9_erase_4 : decode cX9_erase 4 = .ok (.aload_n 0, 1) := by decide +kernel
theorem dX9_erase_5 : decode cX9_erase 5 = .ok (.aload_n 0, 1) := by decide +kernel
theorem dX9_erase_6 : decode cX9_erase 6 = .ok (.iload_n 1, 1) := by decide +kernel
theorem dX9_erase_7 : decode cX9_erase 7 = .ok (.invokevirtual 156, 3) := by decide +kernel
theorem dX9_erase_10 : decode cX9_erase 10 = .ok (.invokevirtual 138, 3) := by decide +kernel
theorem dX9_erase_13 : decode cX9_erase 13 = .ok (.ireturn, 1) := by decide +kernel
theorem dX9_slow_0 : decode cX9_slow 0 = .ok (.aload_n 0, 1) := by decide +kernel
theorem dX9_slow_1 : decode cX9_slow 1 = .ok (.invokevirtual 131, 3) := by decide +kernel
theorem dX9_slow_4 : decode cX9_slow 4 = .ok (.aload_n 0, 1) := by decide +kernel
theorem dX9_slow_5 : decode cX9_slow 5 = .ok (.iload_n 1, 1) := by decide +kernel
theorem dX9_slow_6 : decode cX9_slow 6 = .ok (.iconst 0, 1) := by decide +kernel
theorem dX9_slow_7 : decode cX9_slow 7 = .ok (.bipush 7, 2) := by decide +kernel
theorem dX9_slow_9 : decode cX9_slow 9 = .ok (.invokestatic 32, 3) := by decide +kernel
theorem dX9_slow_12 : decode cX9_slow 12 = .ok (.ifCond .eq 24, 3) := by decide +kernel
theorem dX9_slow_15 : decode cX9_slow 15 = .ok (.iload_n 2, 1) := by decide +kernel
theorem dX9_slow_16 : decode cX9_slow 16 = .ok (.iconst 0, 1) := by decide +kernel
theorem dX9_slow_17 : decode cX9_slow 17 = .ok (.iconst 5, 1) := by decide +kernel
theorem dX9_slow_18 : decode cX9_slow 18 = .ok (.invokestatic 32, 3) := by decide +kernel
theorem dX9_slow_21 : decode cX9_slow 21 = .ok (.ifCond .eq 15, 3) := by decide +kernel
theorem dX9_slow_24 : decode cX9_slow 24 = .ok (.aload_n 0, 1) := by decide +kernel
theorem dX9_slow_25 : decode cX9_slow 25 = .ok (.bipush 12, 2) := by decide +kernel
theorem dX9_slow_27 : decode cX9_slow 27 = .ok (.iload_n 1, 1) := by decide +kernel
theorem dX9_slow_28 : decode cX9_slow 28 = .ok (.iadd, 1) := by decide +kernel
theorem dX9_slow_29 : decode cX9_slow 29 = .ok (.iload_n 2, 1) := by decide +kernel
theorem dX9_slow_30 : decode cX9_slow 30 = .ok (.invokevirtual 159, 3) := by decide +kernel
theorem dX9_slow_33 : decode cX9_slow 33 = .ok (.goto 4, 3) := by decide +kernel
theorem dX9_slow_36 : decode cX9_slow 36 = .ok (.iconst (-1), 1) := by decide +kernel
theorem dX9_slow_37 : decode cX9_slow 37 = .ok (.invokevirtual 138, 3) := by decide +kernel
theorem dX9_slow_40 : decode cX9_slow 40 = .ok (.ireturn, 1) := by decide +kernel
theorem dX9_set_0 : decode cX9_set 0 = .ok (.aload_n 0, 1) := by decide +kernel
theorem dX9_set_1 : decode cX9_set 1 = .ok (.invokevirtual 131, 3) := by decide +kernel
theorem dX9_set_4 : decode cX9_set 4 = .ok (.iload_n 1, 1) := by decide +kernel
theorem dX9_set_5 : decode cX9_set 5 = .ok (.ifCond .ne 8, 3) := by decide +kernel
theorem dX9_set_8 : decode cX9_set 8 = .ok (.bipush 9, 2) := by decide +kernel
theorem dX9_set_10 : decode cX9_set 10 = .ok (.goto 24, 3) := by decide +kernel
theorem dX9_set_13 : decode cX9_set 13 = .ok (.iload_n 1, 1) := by decide +kernel
theorem dX9_set_14 : decode cX9_set 14 = .ok (.iconst 1, 1) := by decide +kernel
theorem dX9_set_15 : decode cX9_set 15 = .ok (.if_icmp .ne 8, 3) := by decide +kernel
theorem dX9_set_18 : decode cX9_set 18 = .ok (.bipush 20, 2) := by decide +kernel
theorem dX9_set_20 : decode cX9_set 20 = .ok (.goto 14, 3) := by decide +kernel
theorem dX9_set_23 : decode cX9_set 23 = .ok (.iload_n 1, 1) := by decide +kernel
theorem dX9_set_24 : decode cX9_set 24 = .ok (.iconst 2, 1) := by decide +kernel
theorem dX9_set_25 : decode cX9_set 25 = .ok (.if_icmp .ne 7, 3) := by decide +kernel
theorem dX9_set_28 : decode cX9_set 28 = .ok (.iconst 1, 1) := by decide +kernel
theorem dX9_set_29 : decode cX9_set 29 = .ok (.goto 5, 3) := by decide +kernel
theorem dX9_set_32 : decode cX9_set 32 = .ok (.bipush 99, 2) := by decide +kernel
theorem dX9_set_34 : decode cX9_set 34 = .ok (.istore_n 3, 1) := by decide +kernel
theorem dX9_set_35 : decode cX9_set 35 = .ok (.aload_n 0, 1) := by decide +kernel
theorem dX9_set_36 : decode cX9_set 36 = .ok (.iload_n 1, 1) := by decide +kernel
theorem dX9_set_37 : decode cX9_set 37 = .ok (.iconst 0, 1) := by decide +kernel
theorem dX9_set_38 : decode cX9_set 38 = .ok (.iconst 3, 1) := by decide +kernel
theorem dX9_set_39 : decode cX9_set 39 = .ok (.invokestatic 32, 3) := by decide +kernel
theorem dX9_set_42 : decode cX9_set 42 = .ok (.ifCond .eq 33, 3) := by decide +kernel
theorem dX9_set_45 : decode cX9_set 45 = .ok (.iload_n 2, 1) := by decide +kernel
theorem dX9_set_46 : decode cX9_set 46 = .ok (.iload_n 1, 1) := by decide +kernel
theorem dX9_set_47 : decode cX9_set 47 = .ok (.iconst 2, 1) := by decide +kernel
theorem dX9_set_48 : decode cX9_set 48 = .ok (.if_icmp .ne 7, 3) := by decide +kernel
theorem dX9_set_51 : decode cX9_set 51 = .ok (.iconst 0, 1) := by decide +kernel
theorem dX9_set_52 : decode cX9_set 52 = .ok (.goto 4, 3) := by decide +kernel
theorem dX9_set_55 : decode cX9_set 55 = .ok (.iconst 1, 1) := by decide +kernel
theorem dX9_set_56 : decode cX9_set 56 = .ok (.iload_n 3, 1) := by decide +kernel
theorem dX9_set_57 : decode cX9_set 57 = .ok (.invokestatic 32, 3) := by decide +kernel
theorem dX9_set_60 : decode cX9_set 60 = .ok (.ifCond .eq 15, 3) := by decide +kernel
theorem dX9_set_63 : decode cX9_set 63 = .ok (.aload_n 0, 1) := by decide +kernel
theorem dX9_set_64 : decode cX9_set 64 = .ok (.bipush 20, 2) := by decide +kernel
theorem dX9_set_66 : decode cX9_set 66 = .ok (.iload_n 1, 1) := by decide +kernel
theorem dX9_set_67 : decode cX9_set 67 = .ok (.iadd, 1) := by decide +kernel
theorem dX9_set_68 : decode cX9_set 68 = .ok (.iload_n 2, 1) := by decide +kernel
theorem dX9_set_69 : decode cX9_set 69 = .ok (.invokevirtual 159, 3) := by decide +kernel
theorem dX9_set_72 : decode cX9_set 72 = .ok (.goto 4, 3) := by decide +kernel
theorem dX9_set_75 : decode cX9_set 75 = .ok (.iconst (-1), 1) := by decide +kernel
theorem dX9_set_76 : decode cX9_set 76 = .ok (.invokevirtual 138, 3) := by decide +kernel
theorem dX9_set_79 : decode cX9_set 79 = .ok (.ireturn, 1) := by decide +kernel
theorem dX9_isKey_0 : decode cX9_isKey 0 = .ok (.iload_n 0, 1) := by decide +kernel
theorem dX9_isKey_1 : decode cX9_isKey 1 = .ok (.iconst 0, 1) := by decide +kernel
theorem dX9_isKey_2 : decode cX9_isKey 2 = .ok (.bipush 11, 2) := by decide +kernel
theorem dX9_isKey_4 : decode cX9_isKey 4 = .ok (.invokestatic 32, 3) := by decide +kernel
theorem dX9_isKey_7 : decode cX9_isKey 7 = .ok (.ireturn, 1) := by decide +kernel
theorem dX9_read_0 : decode cX9_read 0 = .ok (.iload_n 1, 1) := by decide +kernel
theorem dX9_read_1 : decode cX9_read 1 = .ok (.invokestatic 162, 3) := by decide +kernel
theorem dX9_read_4 : decode cX9_read 4 = .ok (.ifCond .ne 5, 3) := by decide +kernel
theorem dX9_read_7 : decode cX9_read 7 = .ok (.iconst (-1), 1) := by decide +kernel
theorem dX9_read_8 : decode cX9_read 8 = .ok (.ireturn, 1) := by decide +kernel
theorem dX9_read_9 : decode cX9_read 9 = .ok (.aload_n 0, 1) := by decide +kernel
theorem dX9_read_10 : decode cX9_read 10 = .ok (.iload_n 1, 1) := by decide +kernel
theorem dX9_read_11 : decode cX9_read 11 = .ok (.invokevirtual 51, 3) := by decide +kernel
theorem dX9_read_14 : decode cX9_read 14 = .ok (.istore_n 2, 1) := by decide +kernel
theorem dX9_read_15 : decode cX9_read 15 = .ok (.iload_n 2, 1) := by decide +kernel
theorem dX9_read_16 : decode cX9_read 16 = .ok (.ifCond .ge 8, 3) := by decide +kernel
theorem dX9_read_19 : decode cX9_read 19 = .ok (.bipush (-4), 2) := by decide +kernel
theorem dX9_read_21 : decode cX9_read 21 = .ok (.goto 15, 3) := by decide +kernel
theorem dX9_read_24 : decode cX9_read 24 = .ok (.aload_n 0, 1) := by decide +kernel
theorem dX9_read_25 : decode cX9_read 25 = .ok (.getfield 7, 3) := by decide +kernel
theorem dX9_read_28 : decode cX9_read 28 = .ok (.aload_n 0, 1) := by decide +kernel
theorem dX9_read_29 : decode cX9_read 29 = .ok (.iload_n 2, 1) := by decide +kernel
theorem dX9_read_30 : decode cX9_read 30 = .ok (.invokevirtual 44, 3) := by decide +kernel
theorem dX9_read_33 : decode cX9_read 33 = .ok (.iconst 2, 1) := by decide +kernel
theorem dX9_read_34 : decode cX9_read 34 = .ok (.iadd, 1) := by decide +kernel
theorem dX9_read_35 : decode cX9_read 35 = .ok (.iaload, 1) := by decide +kernel
theorem dX9_read_36 : decode cX9_read 36 = .ok (.ireturn, 1) := by decide +kernel
theorem dX9_placeOf_0 : decode cX9_placeOf 0 = .ok (.iload_n 1, 1) := by decide +kernel
theorem dX9_placeOf_1 : decode cX9_placeOf 1 = .ok (.invokestatic 162, 3) := by decide +kernel
theorem dX9_placeOf_4 : decode cX9_placeOf 4 = .ok (.ifCond .eq 12, 3) := by decide +kernel
theorem dX9_placeOf_7 : decode cX9_placeOf 7 = .ok (.iload_n 2, 1) := by decide +kernel
theorem dX9_placeOf_8 : decode cX9_placeOf 8 = .ok (.iconst 0, 1) := by decide +kernel
theorem dX9_placeOf_9 : decode cX9_placeOf 9 = .ok (.iconst 2, 1) := by decide +kernel
theorem dX9_placeOf_10 : decode cX9_placeOf 10 = .ok (.invokestatic 32, 3) := by decide +kernel
theorem dX9_placeOf_13 : decode cX9_placeOf 13 = .ok (.ifCond .ne 5, 3) := by decide +kernel
theorem dX9_placeOf_16 : decode cX9_placeOf 16 = .ok (.iconst (-1), 1) := by decide +kernel
theorem dX9_placeOf_17 : decode cX9_placeOf 17 = .ok (.ireturn, 1) := by decide +kernel
theorem dX9_placeOf_18 : decode cX9_placeOf 18 = .ok (.aload_n 0, 1) := by decide +kernel
theorem dX9_placeOf_19 : decode cX9_placeOf 19 = .ok (.iload_n 1, 1) := by decide +kernel
theorem dX9_placeOf_20 : decode cX9_placeOf 20 = .ok (.invokevirtual 51, 3) := by decide +kernel
theorem dX9_placeOf_23 : decode cX9_placeOf 23 = .ok (.istore_n 3, 1) := by decide +kernel
theorem dX9_placeOf_24 : decode cX9_placeOf 24 = .ok (.iload_n 3, 1) := by decide +kernel
theorem dX9_placeOf_25 : decode cX9_placeOf 25 = .ok (.ifCond .ge 6, 3) := by decide +kernel
theorem dX9_placeOf_28 : decode cX9_placeOf 28 = .ok (.bipush (-4), 2) := by decide +kernel
theorem dX9_placeOf_30 : decode cX9_placeOf 30 = .ok (.ireturn, 1) := by decide +kernel
theorem dX9_placeOf_31 : decode cX9_placeOf 31 = .ok (.iload_n 2, 1) := by decide +kernel
theorem dX9_placeOf_32 : decode cX9_placeOf 32 = .ok (.ifCond .ne 10, 3) := by decide +kernel
theorem dX9_placeOf_35 : decode cX9_placeOf 35 = .ok (.iload_n 3, 1) := by decide +kernel
theorem dX9_placeOf_36 : decode cX9_placeOf 36 = .ok (.bipush 24, 2) := by decide +kernel
theorem dX9_placeOf_38 : decode cX9_placeOf 38 = .ok (.idiv, 1) := by decide +kernel
theorem dX9_placeOf_39 : decode cX9_placeOf 39 = .ok (.goto 27, 3) := by decide +kernel
theorem dX9_placeOf_42 : decode cX9_placeOf 42 = .ok (.iload_n 2, 1) := by decide +kernel
theorem dX9_placeOf_43 : decode cX9_placeOf 43 = .ok (.iconst 1, 1) := by decide +kernel
theorem dX9_placeOf_44 : decode cX9_placeOf 44 = .ok (.if_icmp .ne 10, 3) := by decide +kernel
theorem dX9_placeOf_47 : decode cX9_placeOf 47 = .ok (.iload_n 3, 1) := by decide +kernel
theorem dX9_placeOf_48 : decode cX9_placeOf 48 = .ok (.bipush 24, 2) := by decide +kernel
theorem dX9_placeOf_50 : decode cX9_placeOf 50 = .ok (.irem, 1) := by decide +kernel
theorem dX9_placeOf_51 : decode cX9_placeOf 51 = .ok (.goto 15, 3) := by decide +kernel
theorem dX9_placeOf_54 : decode cX9_placeOf 54 = .ok (.aload_n 0, 1) := by decide +kernel
theorem dX9_placeOf_55 : decode cX9_placeOf 55 = .ok (.getfield 7, 3) := by decide +kernel
theorem dX9_placeOf_58 : decode cX9_placeOf 58 = .ok (.aload_n 0, 1) := by decide +kernel
theorem dX9_placeOf_59 : decode cX9_placeOf 59 = .ok (.iload_n 3, 1) := by decide +kernel
theorem dX9_placeOf_60 : decode cX9_placeOf 60 = .ok (.invokevirtual 44, 3) := by decide +kernel
theorem dX9_placeOf_63 : decode cX9_placeOf 63 = .ok (.iconst 3, 1) := by decide +kernel
theorem dX9_placeOf_64 : decode cX9_placeOf 64 = .ok (.iadd, 1) := by decide +kernel
theorem dX9_placeOf_65 : decode cX9_placeOf 65 = .ok (.iaload, 1) := by decide +kernel
theorem dX9_placeOf_66 : decode cX9_placeOf 66 = .ok (.ireturn, 1) := by decide +kernel
theorem dX9_pageOf_0 : decode cX9_pageOf 0 = .ok (.iload_n 1, 1) := by decide +kernel
theorem dX9_pageOf_1 : decode cX9_pageOf 1 = .ok (.invokestatic 128, 3) := by decide +kernel
theorem dX9_pageOf_4 : decode cX9_pageOf 4 = .ok (.ifCond .eq 22, 3) := by decide +kernel
theorem dX9_pageOf_7 : decode cX9_pageOf 7 = .ok (.iload_n 2, 1) := by decide +kernel
theorem dX9_pageOf_8 : decode cX9_pageOf 8 = .ok (.iconst 0, 1) := by decide +kernel
theorem dX9_pageOf_9 : decode cX9_pageOf 9 = .ok (.bipush 15, 2) := by decide +kernel
theorem dX9_pageOf_11 : decode cX9_pageOf 11 = .ok (.invokestatic 32, 3) := by decide +kernel
theorem dX9_pageOf_14 : decode cX9_pageOf 14 = .ok (.ifCond .eq 12, 3) := by decide +kernel
theorem dX9_pageOf_17 : decode cX9_pageOf 17 = .ok (.iload_n 3, 1) := by decide +kernel
theorem dX9_pageOf_18 : decode cX9_pageOf 18 = .ok (.iconst 0, 1) := by decide +kernel
theorem dX9_pageOf_19 : decode cX9_pageOf 19 = .ok (.iconst 5, 1) := by decide +kernel
theorem dX9_pageOf_20 : decode cX9_pageOf 20 = .ok (.invokestatic 32, 3) := by decide +kernel
theorem dX9_pageOf_23 : decode cX9_pageOf 23 = .ok (.ifCond .ne 5, 3) := by decide +kernel
theorem dX9_pageOf_26 : decode cX9_pageOf 26 = .ok (.iconst (-1), 1) := by decide +kernel
theorem dX9_pageOf_27 : decode cX9_pageOf 27 = .ok (.ireturn, 1) := by decide +kernel
theorem dX9_pageOf_28 : decode cX9_pageOf 28 = .ok (.aload_n 0, 1) := by decide +kernel
theorem dX9_pageOf_29 : decode cX9_pageOf 29 = .ok (.iload_n 1, 1) := by decide +kernel
theorem dX9_pageOf_30 : decode cX9_pageOf 30 = .ok (.iload_n 2, 1) := by decide +kernel
theorem dX9_pageOf_31 : decode cX9_pageOf 31 = .ok (.invokevirtual 40, 3) := by decide +kernel
theorem dX9_pageOf_34 : decode cX9_pageOf 34 = .ok (.istore 4, 2) := by decide +kernel
theorem dX9_pageOf_36 : decode cX9_pageOf 36 = .ok (.iload_n 3, 1) := by decide +kernel
theorem dX9_pageOf_37 : decode cX9_pageOf 37 = .ok (.lookupswitch 61 #[(0, 35), (4, 43), (5, 48)], 35) := by decide +kernel
theorem dX9_pageOf_72 : decode cX9_pageOf 72 = .ok (.aload_n 0, 1) := by decide +kernel
theorem dX9_pageOf_73 : decode cX9_pageOf 73 = .ok (.getfield 7, 3) := by decide +kernel
theorem dX9_pageOf_76 : decode cX9_pageOf 76 = .ok (.iload 4, 2) := by decide +kernel
theorem dX9_pageOf_78 : decode cX9_pageOf 78 = .ok (.iaload, 1) := by decide +kernel
theorem dX9_pageOf_79 : decode cX9_pageOf 79 = .ok (.ireturn, 1) := by decide +kernel
theorem dX9_pageOf_80 : decode cX9_pageOf 80 = .ok (.iload_n 2, 1) := by decide +kernel
theorem dX9_pageOf_81 : decode cX9_pageOf 81 = .ok (.invokestatic 64, 3) := by decide +kernel
theorem dX9_pageOf_84 : decode cX9_pageOf 84 = .ok (.ireturn, 1) := by decide +kernel
theorem dX9_pageOf_85 : decode cX9_pageOf 85 = .ok (.iload_n 2, 1) := by decide +kernel
theorem dX9_pageOf_86 : decode cX9_pageOf 86 = .ok (.invokestatic 36, 3) := by decide +kernel
theorem dX9_pageOf_89 : decode cX9_pageOf 89 = .ok (.ifCond .eq 7, 3) := by decide +kernel
theorem dX9_pageOf_92 : decode cX9_pageOf 92 = .ok (.iconst 1, 1) := by decide +kernel
theorem dX9_pageOf_93 : decode cX9_pageOf 93 = .ok (.goto 4, 3) := by decide +kernel
theorem dX9_pageOf_96 : decode cX9_pageOf 96 = .ok (.iconst 0, 1) := by decide +kernel
theorem dX9_pageOf_97 : decode cX9_pageOf 97 = .ok (.ireturn, 1) := by decide +kernel
theorem dX9_pageOf_98 : decode cX9_pageOf 98 = .ok (.aload_n 0, 1) := by decide +kernel
theorem dX9_pageOf_99 : decode cX9_pageOf 99 = .ok (.getfield 7, 3) := by decide +kernel
theorem dX9_pageOf_102 : decode cX9_pageOf 102 = .ok (.iload 4, 2) := by decide +kernel
theorem dX9_pageOf_104 : decode cX9_pageOf 104 = .ok (.iaload, 1) := by decide +kernel
theorem dX9_pageOf_105 : decode cX9_pageOf 105 = .ok (.iconst 2, 1) := by decide +kernel
theorem dX9_pageOf_106 : decode cX9_pageOf 106 = .ok (.if_icmp .ne 15, 3) := by decide +kernel
theorem dX9_pageOf_109 : decode cX9_pageOf 109 = .ok (.aload_n 0, 1) := by decide +kernel
theorem dX9_pageOf_110 : decode cX9_pageOf 110 = .ok (.getfield 7, 3) := by decide +kernel
theorem dX9_pageOf_113 : decode cX9_pageOf 113 = .ok (.iload 4, 2) := by decide +kernel
theorem dX9_pageOf_115 : decode cX9_pageOf 115 = .ok (.iload_n 3, 1) := by decide +kernel
theorem dX9_pageOf_116 : decode cX9_pageOf 116 = .ok (.iadd, 1) := by decide +kernel
theorem dX9_pageOf_117 : decode cX9_pageOf 117 = .ok (.iaload, 1) := by decide +kernel
theorem dX9_pageOf_118 : decode cX9_pageOf 118 = .ok (.goto 5, 3) := by decide +kernel
theorem dX9_pageOf_121 : decode cX9_pageOf 121 = .ok (.bipush (-4), 2) := by decide +kernel
theorem dX9_pageOf_123 : decode cX9_pageOf 123 = .ok (.ireturn, 1) := by decide +kernel
theorem dX9_backupOf_0 : decode cX9_backupOf 0 = .ok (.iload_n 1, 1) := by decide +kernel
theorem dX9_backupOf_1 : decode cX9_backupOf 1 = .ok (.invokestatic 128, 3) := by decide +kernel
theorem dX9_backupOf_4 : decode cX9_backupOf 4 = .ok (.ifCond .eq 22, 3) := by decide +kernel
theorem dX9_backupOf_7 : decode cX9_backupOf 7 = .ok (.iload_n 2, 1) := by decide +kernel
theorem dX9_backupOf_8 : decode cX9_backupOf 8 = .ok (.iconst 0, 1) := by decide +kernel
theorem dX9_backupOf_9 : decode cX9_backupOf 9 = .ok (.bipush 7, 2) := by decide +kernel
theorem dX9_backupOf_11 : decode cX9_backupOf 11 = .ok (.invokestatic 32, 3) := by decide +kernel
theorem dX9_backupOf_14 : decode cX9_backupOf 14 = .ok (.ifCond .eq 12, 3) := by decide +kernel
theorem dX9_backupOf_17 : decode cX9_backupOf 17 = .ok (.iload_n 3, 1) := by decide +kernel
theorem dX9_backupOf_18 : decode cX9_backupOf 18 = .ok (.iconst 0, 1) := by decide +kernel
theorem dX9_backupOf_19 : decode cX9_backupOf 19 = .ok (.iconst 3, 1) := by decide +kernel
theorem dX9_backupOf_20 : decode cX9_backupOf 20 = .ok (.invokestatic 32, 3) := by decide +kernel
theorem dX9_backupOf_23 : decode cX9_backupOf 23 = .ok (.ifCond .ne 5, 3) := by decide +kernel
theorem dX9_backupOf_26 : decode cX9_backupOf 26 = .ok (.iconst (-1), 1) := by decide +kernel
theorem dX9_backupOf_27 : decode cX9_backupOf 27 = .ok (.ireturn, 1) := by decide +kernel
theorem dX9_backupOf_28 : decode cX9_backupOf 28 = .ok (.aload_n 0, 1) := by decide +kernel
theorem dX9_backupOf_29 : decode cX9_backupOf 29 = .ok (.iload_n 1, 1) := by decide +kernel
theorem dX9_backupOf_30 : decode cX9_backupOf 30 = .ok (.iload_n 2, 1) := by decide +kernel
theorem dX9_backupOf_31 : decode cX9_backupOf 31 = .ok (.invokevirtual 48, 3) := by decide +kernel
theorem dX9_backupOf_34 : decode cX9_backupOf 34 = .ok (.istore 4, 2) := by decide +kernel
theorem dX9_backupOf_36 : decode cX9_backupOf 36 = .ok (.aload_n 0, 1) := by decide +kernel
theorem dX9_backupOf_37 : decode cX9_backupOf 37 = .ok (.getfield 7, 3) := by decide +kernel
theorem dX9_backupOf_40 : decode cX9_backupOf 40 = .ok (.iload 4, 2) := by decide +kernel
theorem dX9_backupOf_42 : decode cX9_backupOf 42 = .ok (.iaload, 1) := by decide +kernel
theorem dX9_backupOf_43 : decode cX9_backupOf 43 = .ok (.ifCond .ne 8, 3) := by decide +kernel
theorem dX9_backupOf_46 : decode cX9_backupOf 46 = .ok (.bipush (-4), 2) := by decide +kernel
theorem dX9_backupOf_48 : decode cX9_backupOf 48 = .ok (.goto 35, 3) := by decide +kernel
theorem dX9_backupOf_51 : decode cX9_backupOf 51 = .ok (.iload_n 3, 1) := by decide +kernel
theorem dX9_backupOf_52 : decode cX9_backupOf 52 = .ok (.ifCond .le 15, 3) := by decide +kernel
theorem dX9_backupOf_55 : decode cX9_backupOf 55 = .ok (.aload_n 0, 1) := by decide +kernel
theorem dX9_backupOf_56 : decode cX9_backupOf 56 = .ok (.getfield 7, 3) := by decide +kernel
theorem dX9_backupOf_59 : decode cX9_backupOf 59 = .ok (.iload 4, 2) := by decide +kernel
theorem dX9_backupOf_61 : decode cX9_backupOf 61 = .ok (.iload_n 3, 1) := by decide +kernel
theorem dX9_backupOf_62 : decode cX9_backupOf 62 = .ok (.iadd, 1) := by decide +kernel
theorem dX9_backupOf_63 : decode cX9_backupOf 63 = .ok (.iaload, 1) := by decide +kernel
theorem dX9_backupOf_64 : decode cX9_backupOf 64 = .ok (.goto 19, 3) := by decide +kernel
theorem dX9_backupOf_67 : decode cX9_backupOf 67 = .ok (.aload_n 0, 1) := by decide +kernel
theorem dX9_backupOf_68 : decode cX9_backupOf 68 = .ok (.getfield 7, 3) := by decide +kernel
theorem dX9_backupOf_71 : decode cX9_backupOf 71 = .ok (.iload 4, 2) := by decide +kernel
theorem dX9_backupOf_73 : decode cX9_backupOf 73 = .ok (.iaload, 1) := by decide +kernel
theorem dX9_backupOf_74 : decode cX9_backupOf 74 = .ok (.iconst 2, 1) := by decide +kernel
theorem dX9_backupOf_75 : decode cX9_backupOf 75 = .ok (.if_icmp .ne 7, 3) := by decide +kernel
theorem dX9_backupOf_78 : decode cX9_backupOf 78 = .ok (.iconst 1, 1) := by decide +kernel
theorem dX9_backupOf_79 : decode cX9_backupOf 79 = .ok (.goto 4, 3) := by decide +kernel
theorem dX9_backupOf_82 : decode cX9_backupOf 82 = .ok (.iconst 0, 1) := by decide +kernel
theorem dX9_backupOf_83 : decode cX9_backupOf 83 = .ok (.ireturn, 1) := by decide +kernel
theorem dX9_waits_0 : decode cX9_waits 0 = .ok (.iload_n 1, 1) := by decide +kernel
theorem dX9_waits_1 : decode cX9_waits 1 = .ok (.ifCond .lt 12, 3) := by decide +kernel
theorem dX9_waits_4 : decode cX9_waits 4 = .ok (.iload_n 2, 1) := by decide +kernel
theorem dX9_waits_5 : decode cX9_waits 5 = .ok (.iconst 0, 1) := by decide +kernel
theorem dX9_waits_6 : decode cX9_waits 6 = .ok (.iconst 2, 1) := by decide +kernel
theorem dX9_waits_7 : decode cX9_waits 7 = .ok (.invokestatic 32, 3) := by decide +kernel
theorem dX9_waits_10 : decode cX9_waits 10 = .ok (.ifCond .ne 5, 3) := by decide +kernel
theorem dX9_waits_13 : decode cX9_waits 13 = .ok (.iconst (-1), 1) := by decide +kernel
theorem dX9_waits_14 : decode cX9_waits 14 = .ok (.ireturn, 1) := by decide +kernel
theorem dX9_waits_15 : decode cX9_waits 15 = .ok (.iload_n 1, 1) := by decide +kernel
theorem dX9_waits_16 : decode cX9_waits 16 = .ok (.aload_n 0, 1) := by decide +kernel
theorem dX9_waits_17 : decode cX9_waits 17 = .ok (.getfield 7, 3) := by decide +kernel
theorem dX9_waits_20 : decode cX9_waits 20 = .ok (.bipush 11, 2) := by decide +kernel
theorem dX9_waits_22 : decode cX9_waits 22 = .ok (.iaload, 1) := by decide +kernel
theorem dX9_waits_23 : decode cX9_waits 23 = .ok (.if_icmp .ge 20, 3) := by decide +kernel
theorem dX9_waits_26 : decode cX9_waits 26 = .ok (.aload_n 0, 1) := by decide +kernel
theorem dX9_waits_27 : decode cX9_waits 27 = .ok (.getfield 7, 3) := by decide +kernel
theorem dX9_waits_30 : decode cX9_waits 30 = .ok (.sipush 216, 3) := by decide +kernel
theorem dX9_waits_33 : decode cX9_waits 33 = .ok (.iconst 4, 1) := by decide +kernel
theorem dX9_waits_34 : decode cX9_waits 34 = .ok (.iload_n 1, 1) := by decide +kernel
theorem dX9_waits_35 : decode cX9_waits 35 = .ok (.imul, 1) := by decide +kernel
theorem dX9_waits_36 : decode cX9_waits 36 = .ok (.iadd, 1) := by decide +kernel
theorem dX9_waits_37 : decode cX9_waits 37 = .ok (.iload_n 2, 1) := by decide +kernel
theorem dX9_waits_38 : decode cX9_waits 38 = .ok (.iadd, 1) := by decide +kernel
theorem dX9_waits_39 : decode cX9_waits 39 = .ok (.iaload, 1) := by decide +kernel
theorem dX9_waits_40 : decode cX9_waits 40 = .ok (.goto 5, 3) := by decide +kernel
theorem dX9_waits_43 : decode cX9_waits 43 = .ok (.bipush (-4), 2) := by decide +kernel
theorem dX9_waits_45 : decode cX9_waits 45 = .ok (.ireturn, 1) := by decide +kernel
theorem dX9_torn_0 : decode cX9_torn 0 = .ok (.iconst 0, 1) := by decide +kernel
theorem dX9_torn_1 : decode cX9_torn 1 = .ok (.istore_n 1, 1) := by decide +kernel
theorem dX9_torn_2 : decode cX9_torn 2 = .ok (.iconst 0, 1) := by decide +kernel
theorem dX9_torn_3 : decode cX9_torn 3 = .ok (.istore_n 2, 1) := by decide +kernel
theorem dX9_torn_4 : decode cX9_torn 4 = .ok (.iload_n 2, 1) := by decide +kernel
theorem dX9_torn_5 : decode cX9_torn 5 = .ok (.bipush 32, 2) := by decide +kernel
theorem dX9_torn_7 : decode cX9_torn 7 = .ok (.if_icmp .ge 32, 3) := by decide +kernel
theorem dX9_torn_10 : decode cX9_torn 10 = .ok (.iload_n 1, 1) := by decide +kernel
theorem dX9_torn_11 : decode cX9_torn 11 = .ok (.aload_n 0, 1) := by decide +kernel
theorem dX9_torn_12 : decode cX9_torn 12 = .ok (.getfield 7, 3) := by decide +kernel
theorem dX9_torn_15 : decode cX9_torn 15 = .ok (.bipush 24, 2) := by decide +kernel
theorem dX9_torn_17 : decode cX9_torn 17 = .ok (.iconst 4, 1) := by decide +kernel
theorem dX9_torn_18 : decode cX9_torn 18 = .ok (.iload_n 2, 1) := by decide +kernel
theorem dX9_torn_19 : decode cX9_torn 19 = .ok (.imul, 1) := by decide +kernel
theorem dX9_torn_20 : decode cX9_torn 20 = .ok (.iadd, 1) := by decide +kernel
theorem dX9_torn_21 : decode cX9_torn 21 = .ok (.iaload, 1) := by decide +kernel
theorem dX9_torn_22 : decode cX9_torn 22 = .ok (.iconst 3, 1) := by decide +kernel
theorem dX9_torn_23 : decode cX9_torn 23 = .ok (.if_icmp .ne 7, 3) := by decide +kernel
theorem dX9_torn_26 : decode cX9_torn 26 = .ok (.iconst 1, 1) := by decide +kernel
theorem dX9_torn_27 : decode cX9_torn 27 = .ok (.goto 4, 3) := by decide +kernel
theorem dX9_torn_30 : decode cX9_torn 30 = .ok (.iconst 0, 1) := by decide +kernel
theorem dX9_torn_31 : decode cX9_torn 31 = .ok (.iadd, 1) := by decide +kernel
theorem dX9_torn_32 : decode cX9_torn 32 = .ok (.istore_n 1, 1) := by decide +kernel
theorem dX9_torn_33 : decode cX9_torn 33 = .ok (.iinc 2 1, 3) := by decide +kernel
theorem dX9_torn_36 : decode cX9_torn 36 = .ok (.goto (-32), 3) := by decide +kernel
theorem dX9_torn_39 : decode cX9_torn 39 = .ok (.iload_n 1, 1) := by decide +kernel
theorem dX9_torn_40 : decode cX9_torn 40 = .ok (.ireturn, 1) := by decide +kernel
theorem dX9_keysThere_0 : decode cX9_keysThere 0 = .ok (.iconst 0, 1) := by decide +kernel
theorem dX9_keysThere_1 : decode cX9_keysThere 1 = .ok (.istore_n 1, 1) := by decide +kernel
theorem dX9_keysThere_2 : decode cX9_keysThere 2 = .ok (.iconst 0, 1) := by decide +kernel
theorem dX9_keysThere_3 : decode cX9_keysThere 3 = .ok (.istore_n 2, 1) := by decide +kernel
theorem dX9_keysThere_4 : decode cX9_keysThere 4 = .ok (.iload_n 2, 1) := by decide +kernel
theorem dX9_keysThere_5 : decode cX9_keysThere 5 = .ok (.bipush 12, 2) := by decide +kernel
theorem dX9_keysThere_7 : decode cX9_keysThere 7 = .ok (.if_icmp .ge 25, 3) := by decide +kernel
theorem dX9_keysThere_10 : decode cX9_keysThere 10 = .ok (.iload_n 1, 1) := by decide +kernel
theorem dX9_keysThere_11 : decode cX9_keysThere 11 = .ok (.aload_n 0, 1) := by decide +kernel
theorem dX9_keysThere_12 : decode cX9_keysThere 12 = .ok (.iload_n 2, 1) := by decide +kernel
theorem dX9_keysThere_13 : decode cX9_keysThere 13 = .ok (.invokevirtual 51, 3) := by decide +kernel
theorem dX9_keysThere_16 : decode cX9_keysThere 16 = .ok (.ifCond .ge 7, 3) := by decide +kernel
theorem dX9_keysThere_19 : decode cX9_keysThere 19 = .ok (.iconst 0, 1) := by decide +kernel
theorem dX9_keysThere_20 : decode cX9_keysThere 20 = .ok (.goto 4, 3) := by decide +kernel
theorem dX9_keysThere_23 : decode cX9_keysThere 23 = .ok (.iconst 1, 1) := by decide +kernel
theorem dX9_keysThere_24 : decode cX9_keysThere 24 = .ok (.iadd, 1) := by decide +kernel
theorem dX9_keysThere_25 : decode cX9_keysThere 25 = .ok (.istore_n 1, 1) := by decide +kernel
theorem dX9_keysThere_26 : decode cX9_keysThere 26 = .ok (.iinc 2 1, 3) := by decide +kernel
theorem dX9_keysThere_29 : decode cX9_keysThere 29 = .ok (.goto (-25), 3) := by decide +kernel
theorem dX9_keysThere_32 : decode cX9_keysThere 32 = .ok (.iload_n 1, 1) := by decide +kernel
theorem dX9_keysThere_33 : decode cX9_keysThere 33 = .ok (.ireturn, 1) := by decide +kernel
theorem dX9_counted_0 : decode cX9_counted 0 = .ok (.iload_n 1, 1) := by decide +kernel
theorem dX9_counted_1 : decode cX9_counted 1 = .ok (.tableswitch 194 0 15 #[79, 86, 79, 95, 100, 108, 121, 146, 146, 146, 158, 163, 168, 168, 181, 181], 79) := by decide +kernel
theorem dX9_counted_80 : decode cX9_counted 80 = .ok (.aload_n 0, 1) := by decide +kernel
theorem dX9_counted_81 : decode cX9_counted 81 = .ok (.getfield 7, 3) := by decide +kernel
theorem dX9_counted_84 : decode cX9_counted 84 = .ok (.iload_n 1, 1) := by decide +kernel
theorem dX9_counted_85 : decode cX9_counted 85 = .ok (.iaload, 1) := by decide +kernel
theorem dX9_counted_86 : decode cX9_counted 86 = .ok (.ireturn, 1) := by decide +kernel
theorem dX9_counted_87 : decode cX9_counted 87 = .ok (.iconst 1, 1) := by decide +kernel
theorem dX9_counted_88 : decode cX9_counted 88 = .ok (.aload_n 0, 1) := by decide +kernel
theorem dX9_counted_89 : decode cX9_counted 89 = .ok (.getfield 7, 3) := by decide +kernel
theorem dX9_counted_92 : decode cX9_counted 92 = .ok (.iconst 1, 1) := by decide +kernel
theorem dX9_counted_93 : decode cX9_counted 93 = .ok (.iaload, 1) := by decide +kernel
theorem dX9_counted_94 : decode cX9_counted 94 = .ok (.isub, 1) := by decide +kernel
theorem dX9_counted_95 : decode cX9_counted 95 = .ok (.ireturn, 1) := by decide +kernel
theorem dX9_counted_96 : decode cX9_counted 96 = .ok (.aload_n 0, 1) := by decide +kernel
theorem dX9_counted_97 : decode cX9_counted 97 = .ok (.invokevirtual 73, 3) := by decide +kernel
theorem dX9_counted_100 : decode cX9_counted 100 = .ok (.ireturn, 1) := by decide +kernel
theorem dX9_counted_101 : decode cX9_counted 101 = .ok (.aload_n 0, 1) := by decide +kernel
theorem dX9_counted_102 : decode cX9_counted 102 = .ok (.getfield 7, 3) := by decide +kernel
theorem dX9_counted_105 : decode cX9_counted 105 = .ok (.bipush 11, 2) := by decide +kernel
theorem dX9_counted_107 : decode cX9_counted 107 = .ok (.iaload, 1) := by decide +kernel
theorem dX9_counted_108 : decode cX9_counted 108 = .ok (.ireturn, 1) := by decide +kernel
theorem dX9_counted_109 : decode cX9_counted 109 = .ok (.aload_n 0, 1) := by decide +kernel
theorem dX9_counted_110 : decode cX9_counted 110 = .ok (.invokevirtual 77, 3) := by decide +kernel
theorem dX9_counted_113 : decode cX9_counted 113 = .ok (.ifCond .eq 7, 3) := by decide +kernel
theorem dX9_counted_116 : decode cX9_counted 116 = .ok (.iconst 1, 1) := by decide +kernel
theorem dX9_counted_117 : decode cX9_counted 117 = .ok (.goto 4, 3) := by decide +kernel
theorem dX9_counted_120 : decode cX9_counted 120 = .ok (.iconst 0, 1) := by decide +kernel
theorem dX9_counted_121 : decode cX9_counted 121 = .ok (.ireturn, 1) := by decide +kernel
theorem dX9_counted_122 : decode cX9_counted 122 = .ok (.aload_n 0, 1) := by decide +kernel
theorem dX9_counted_123 : decode cX9_counted 123 = .ok (.invokevirtual 77, 3) := by decide +kernel
theorem dX9_counted_126 : decode cX9_counted 126 = .ok (.ifCond .eq 18, 3) := by decide +kernel
theorem dX9_counted_129 : decode cX9_counted 129 = .ok (.aload_n 0, 1) := by decide +kernel
theorem dX9_counted_130 : decode cX9_counted 130 = .ok (.iconst 5, 1) := by decide +kernel
theorem dX9_counted_131 : decode cX9_counted 131 = .ok (.invokevirtual 61, 3) := by decide +kernel
theorem dX9_counted_134 : decode cX9_counted 134 = .ok (.aload_n 0, 1) := by decide +kernel
theorem dX9_counted_135 : decode cX9_counted 135 = .ok (.bipush 6, 2) := by decide +kernel
theorem dX9_counted_137 : decode cX9_counted 137 = .ok (.invokevirtual 61, 3) := by decide +kernel
theorem dX9_counted_140 : decode cX9_counted 140 = .ok (.iadd, 1) := by decide +kernel
theorem dX9_counted_141 : decode cX9_counted 141 = .ok (.goto 5, 3) := by decide +kernel
theorem dX9_counted_144 : decode cX9_counted 144 = .ok (.bipush (-4), 2) := by decide +kernel
theorem dX9_counted_146 : decode cX9_counted 146 = .ok (.ireturn, 1) := by decide +kernel
theorem dX9_counted_147 : decode cX9_counted 147 = .ok (.aload_n 0, 1) := by decide +kernel
theorem dX9_counted_148 : decode cX9_counted 148 = .ok (.getfield 7, 3) := by decide +kernel
theorem dX9_counted_151 : decode cX9_counted 151 = .ok (.iconst 3, 1) := by decide +kernel
theorem dX9_counted_152 : decode cX9_counted 152 = .ok (.iload_n 1, 1) := by decide +kernel
theorem dX9_counted_153 : decode cX9_counted 153 = .ok (.iadd, 1) := by decide +kernel
theorem dX9_counted_154 : decode cX9_counted 154 = .ok (.bipush 7, 2) := by decide +kernel
theorem dX9_counted_156 : decode cX9_counted 156 = .ok (.isub, 1) := by decide +kernel
theorem dX9_counted_157 : decode cX9_counted 157 = .ok (.iaload, 1) := by decide +kernel
theorem dX9_counted_158 : decode cX9_counted 158 = .ok (.ireturn, 1) := by decide +kernel
theorem dX9_counted_159 : decode cX9_counted 159 = .ok (.aload_n 0, 1) := by decide +kernel
theorem dX9_counted_160 : decode cX9_counted 160 = .ok (.invokevirtual 165, 3) := by decide +kernel
theorem dX9_counted_163 : decode cX9_counted 163 = .ok (.ireturn, 1) := by decide +kernel
theorem dX9_counted_164 : decode cX9_counted 164 = .ok (.aload_n 0, 1) := by decide +kernel
theorem dX9_counted_165 : decode cX9_counted 165 = .ok (.invokevirtual 168, 3) := by decide +kernel
theorem dX9_counted_168 : decode cX9_counted 168 = .ok (.ireturn, 1) := by decide +kernel
theorem dX9_counted_169 : decode cX9_counted 169 = .ok (.aload_n 0, 1) := by decide +kernel
theorem dX9_counted_170 : decode cX9_counted 170 = .ok (.getfield 7, 3) := by decide +kernel
theorem dX9_counted_173 : decode cX9_counted 173 = .ok (.bipush 6, 2) := by decide +kernel
theorem dX9_counted_175 : decode cX9_counted 175 = .ok (.iload_n 1, 1) := by decide +kernel
theorem dX9_counted_176 : decode cX9_counted 176 = .ok (.iadd, 1) := by decide +kernel
theorem dX9_counted_177 : decode cX9_counted 177 = .ok (.bipush 12, 2) := by decide +kernel
theorem dX9_counted_179 : decode cX9_counted 179 = .ok (.isub, 1) := by decide +kernel
theorem dX9_counted_180 : decode cX9_counted 180 = .ok (.iaload, 1) := by decide +kernel
theorem dX9_counted_181 : decode cX9_counted 181 = .ok (.ireturn, 1) := by decide +kernel
theorem dX9_counted_182 : decode cX9_counted 182 = .ok (.aload_n 0, 1) := by decide +kernel
theorem dX9_counted_183 : decode cX9_counted 183 = .ok (.getfield 7, 3) := by decide +kernel
theorem dX9_counted_186 : decode cX9_counted 186 = .ok (.bipush 8, 2) := by decide +kernel
theorem dX9_counted_188 : decode cX9_counted 188 = .ok (.iload_n 1, 1) := by decide +kernel
theorem dX9_counted_189 : decode cX9_counted 189 = .ok (.iadd, 1) := by decide +kernel
theorem dX9_counted_190 : decode cX9_counted 190 = .ok (.bipush 14, 2) := by decide +kernel
theorem dX9_counted_192 : decode cX9_counted 192 = .ok (.isub, 1) := by decide +kernel
theorem dX9_counted_193 : decode cX9_counted 193 = .ok (.iaload, 1) := by decide +kernel
theorem dX9_counted_194 : decode cX9_counted 194 = .ok (.ireturn, 1) := by decide +kernel
theorem dX9_counted_195 : decode cX9_counted 195 = .ok (.iload_n 1, 1) := by decide +kernel
theorem dX9_counted_196 : decode cX9_counted 196 = .ok (.bipush 16, 2) := by decide +kernel
theorem dX9_counted_198 : decode cX9_counted 198 = .ok (.if_icmp .ne 10, 3) := by decide +kernel
theorem dX9_counted_201 : decode cX9_counted 201 = .ok (.aload_n 0, 1) := by decide +kernel
theorem dX9_counted_202 : decode cX9_counted 202 = .ok (.getfield 28, 3) := by decide +kernel
theorem dX9_counted_205 : decode cX9_counted 205 = .ok (.goto 7, 3) := by decide +kernel
theorem dX9_counted_208 : decode cX9_counted 208 = .ok (.aload_n 0, 1) := by decide +kernel
theorem dX9_counted_209 : decode cX9_counted 209 = .ok (.getfield 171, 3) := by decide +kernel
theorem dX9_counted_212 : decode cX9_counted 212 = .ok (.ireturn, 1) := by decide +kernel
theorem dX9_count_0 : decode cX9_count 0 = .ok (.iload_n 1, 1) := by decide +kernel
theorem dX9_count_1 : decode cX9_count 1 = .ok (.iconst 0, 1) := by decide +kernel
theorem dX9_count_2 : decode cX9_count 2 = .ok (.bipush 17, 2) := by decide +kernel
theorem dX9_count_4 : decode cX9_count 4 = .ok (.invokestatic 32, 3) := by decide +kernel
theorem dX9_count_7 : decode cX9_count 7 = .ok (.ifCond .eq 9, 3) := by decide +kernel
theorem dX9_count_10 : decode cX9_count 10 = .ok (.aload_n 0, 1) := by decide +kernel
theorem dX9_count_11 : decode cX9_count 11 = .ok (.iload_n 1, 1) := by decide +kernel
theorem dX9_count_12 : decode cX9_count 12 = .ok (.invokevirtual 174, 3) := by decide +kernel
theorem dX9_count_15 : decode cX9_count 15 = .ok (.ireturn, 1) := by decide +kernel
theorem dX9_count_16 : decode cX9_count 16 = .ok (.iload_n 1, 1) := by decide +kernel
theorem dX9_count_17 : decode cX9_count 17 = .ok (.bipush 20, 2) := by decide +kernel
theorem dX9_count_19 : decode cX9_count 19 = .ok (.bipush 23, 2) := by decide +kernel
theorem dX9_count_21 : decode cX9_count 21 = .ok (.invokestatic 32, 3) := by decide +kernel
theorem dX9_count_24 : decode cX9_count 24 = .ok (.ifCond .eq 18, 3) := by decide +kernel
theorem dX9_count_27 : decode cX9_count 27 = .ok (.aload_n 0, 1) := by decide +kernel
theorem dX9_count_28 : decode cX9_count 28 = .ok (.getfield 7, 3) := by decide +kernel
theorem dX9_count_31 : decode cX9_count 31 = .ok (.bipush 20, 2) := by decide +kernel
theorem dX9_count_33 : decode cX9_count 33 = .ok (.iload_n 1, 1) := by decide +kernel
theorem dX9_count_34 : decode cX9_count 34 = .ok (.iadd, 1) := by decide +kernel
theorem dX9_count_35 : decode cX9_count 35 = .ok (.bipush 20, 2) := by decide +kernel
theorem dX9_count_37 : decode cX9_count 37 = .ok (.isub, 1) := by decide +kernel
theorem dX9_count_38 : decode cX9_count 38 = .ok (.iaload, 1) := by decide +kernel
theorem dX9_count_39 : decode cX9_count 39 = .ok (.goto 30, 3) := by decide +kernel
theorem dX9_count_42 : decode cX9_count 42 = .ok (.iload_n 1, 1) := by decide +kernel
theorem dX9_count_43 : decode cX9_count 43 = .ok (.bipush 30, 2) := by decide +kernel
theorem dX9_count_45 : decode cX9_count 45 = .ok (.bipush 37, 2) := by decide +kernel
theorem dX9_count_47 : decode cX9_count 47 = .ok (.invokestatic 32, 3) := by decide +kernel
theorem dX9_count_50 : decode cX9_count 50 = .ok (.ifCond .eq 18, 3) := by decide +kernel
theorem dX9_count_53 : decode cX9_count 53 = .ok (.aload_n 0, 1) := by decide +kernel
theorem dX9_count_54 : decode cX9_count 54 = .ok (.getfield 7, 3) := by decide +kernel
theorem dX9_count_57 : decode cX9_count 57 = .ok (.bipush 12, 2) := by decide +kernel
theorem dX9_count_59 : decode cX9_count 59 = .ok (.iload_n 1, 1) := by decide +kernel
theorem dX9_count_60 : decode cX9_count 60 = .ok (.iadd, 1) := by decide +kernel
theorem dX9_count_61 : decode cX9_count 61 = .ok (.bipush 30, 2) := by decide +kernel
theorem dX9_count_63 : decode cX9_count 63 = .ok (.isub, 1) := by decide +kernel
theorem dX9_count_64 : decode cX9_count 64 = .ok (.iaload, 1) := by decide +kernel
theorem dX9_count_65 : decode cX9_count 65 = .ok (.goto 4, 3) := by decide +kernel
theorem dX9_count_68 : decode cX9_count 68 = .ok (.iconst (-1), 1) := by decide +kernel
theorem dX9_count_69 : decode cX9_count 69 = .ok (.ireturn, 1) := by decide +kernel
theorem dX9_wouldLose_0 : decode cX9_wouldLose 0 = .ok (.iload_n 1, 1) := by decide +kernel
theorem dX9_wouldLose_1 : decode cX9_wouldLose 1 = .ok (.iconst 0, 1) := by decide +kernel
theorem dX9_wouldLose_2 : decode cX9_wouldLose 2 = .ok (.sipush 200, 3) := by decide +kernel
theorem dX9_wouldLose_5 : decode cX9_wouldLose 5 = .ok (.invokestatic 32, 3) := by decide +kernel
theorem dX9_wouldLose_8 : decode cX9_wouldLose 8 = .ok (.ifCond .ne 5, 3) := by decide +kernel
theorem dX9_wouldLose_11 : decode cX9_wouldLose 11 = .ok (.iconst (-1), 1) := by decide +kernel
theorem dX9_wouldLose_12 : decode cX9_wouldLose 12 = .ok (.ireturn, 1) := by decide +kernel
theorem dX9_wouldLose_13 : decode cX9_wouldLose 13 = .ok (.aload_n 0, 1) := by decide +kernel
theorem dX9_wouldLose_14 : decode cX9_wouldLose 14 = .ok (.invokevirtual 107, 3) := by decide +kernel
theorem dX9_wouldLose_17 : decode cX9_wouldLose 17 = .ok (.ifCond .eq 6, 3) := by decide +kernel
theorem dX9_wouldLose_20 : decode cX9_wouldLose 20 = .ok (.bipush (-2), 2) := by decide +kernel
theorem dX9_wouldLose_22 : decode cX9_wouldLose 22 = .ok (.ireturn, 1) := by decide +kernel
theorem dX9_wouldLose_23 : decode cX9_wouldLose 23 = .ok (.aload_n 0, 1) := by decide +kernel
theorem dX9_wouldLose_24 : decode cX9_wouldLose 24 = .ok (.invokevirtual 131, 3) := by decide +kernel
theorem dX9_wouldLose_27 : decode cX9_wouldLose 27 = .ok (.aload_n 0, 1) := by decide +kernel
theorem dX9_wouldLose_28 : decode cX9_wouldLose 28 = .ok (.iload_n 1, 1) := by decide +kernel
theorem dX9_wouldLose_29 : decode cX9_wouldLose 29 = .ok (.invokevirtual 122, 3) := by decide +kernel
theorem dX9_wouldLose_32 : decode cX9_wouldLose 32 = .ok (.istore_n 2, 1) := by decide +kernel
theorem dX9_wouldLose_33 : decode cX9_wouldLose 33 = .ok (.aload_n 0, 1) := by decide +kernel
theorem dX9_wouldLose_34 : decode cX9_wouldLose 34 = .ok (.invokevirtual 110, 3) := by decide +kernel
theorem dX9_wouldLose_37 : decode cX9_wouldLose 37 = .ok (.istore_n 3, 1) := by decide +kernel
theorem dX9_wouldLose_38 : decode cX9_wouldLose 38 = .ok (.aload_n 0, 1) := by decide +kernel
theorem dX9_wouldLose_39 : decode cX9_wouldLose 39 = .ok (.invokevirtual 25, 3) := by decide +kernel
theorem dX9_wouldLose_42 : decode cX9_wouldLose 42 = .ok (.iload_n 3, 1) := by decide +kernel
theorem dX9_wouldLose_43 : decode cX9_wouldLose 43 = .ok (.ireturn, 1) := by decide +kernel
theorem dX9_doneIn_0 : decode cX9_doneIn 0 = .ok (.aload_n 0, 1) := by decide +kernel
theorem dX9_doneIn_1 : decode cX9_doneIn 1 = .ok (.invokevirtual 107, 3) := by decide +kernel
theorem dX9_doneIn_4 : decode cX9_doneIn 4 = .ok (.ifCond .eq 6, 3) := by decide +kernel
theorem dX9_doneIn_7 : decode cX9_doneIn 7 = .ok (.bipush (-2), 2) := by decide +kernel
theorem dX9_doneIn_9 : decode cX9_doneIn 9 = .ok (.ireturn, 1) := by decide +kernel
theorem dX9_doneIn_10 : decode cX9_doneIn 10 = .ok (.aload_n 0, 1) := by decide +kernel
theorem dX9_doneIn_11 : decode cX9_doneIn 11 = .ok (.invokevirtual 131, 3) := by decide +kernel
theorem dX9_doneIn_14 : decode cX9_doneIn 14 = .ok (.iconst 0, 1) := by decide +kernel
theorem dX9_doneIn_15 : decode cX9_doneIn 15 = .ok (.istore_n 1, 1) := by decide +kernel
theorem dX9_doneIn_16 : decode cX9_doneIn 16 = .ok (.aload_n 0, 1) := by decide +kernel
theorem dX9_doneIn_17 : decode cX9_doneIn 17 = .ok (.invokevirtual 77, 3) := by decide +kernel
theorem dX9_doneIn_20 : decode cX9_doneIn 20 = .ok (.ifCond .ne 22, 3) := by decide +kernel
theorem dX9_doneIn_23 : decode cX9_doneIn 23 = .ok (.aload_n 0, 1) := by decide +kernel
theorem dX9_doneIn_24 : decode cX9_doneIn 24 = .ok (.getfield 7, 3) := by decide +kernel
theorem dX9_doneIn_27 : decode cX9_doneIn 27 = .ok (.bipush 11, 2) := by decide +kernel
theorem dX9_doneIn_29 : decode cX9_doneIn 29 = .ok (.iaload, 1) := by decide +kernel
theorem dX9_doneIn_30 : decode cX9_doneIn 30 = .ok (.ifCond .le 22, 3) := by decide +kernel
theorem dX9_doneIn_33 : decode cX9_doneIn 33 = .ok (.aload_n 0, 1) := by decide +kernel
theorem dX9_doneIn_34 : decode cX9_doneIn 34 = .ok (.invokevirtual 73, 3) := by decide +kernel
theorem dX9_doneIn_37 : decode cX9_doneIn 37 = .ok (.bipush 16, 2) := by decide +kernel
theorem dX9_doneIn_39 : decode cX9_doneIn 39 = .ok (.if_icmp .ge 13, 3) := by decide +kernel
theorem dX9_doneIn_42 : decode cX9_doneIn 42 = .ok (.aload_n 0, 1) := by decide +kernel
theorem dX9_doneIn_43 : decode cX9_doneIn 43 = .ok (.invokevirtual 101, 3) := by decide +kernel
theorem dX9_doneIn_46 : decode cX9_doneIn 46 = .ok (.iinc 1 1, 3) := by decide +kernel
theorem dX9_doneIn_49 : decode cX9_doneIn 49 = .ok (.goto (-33), 3) := by decide +kernel
theorem dX9_doneIn_52 : decode cX9_doneIn 52 = .ok (.aload_n 0, 1) := by decide +kernel
theorem dX9_doneIn_53 : decode cX9_doneIn 53 = .ok (.getfield 7, 3) := by decide +kernel
theorem dX9_doneIn_56 : decode cX9_doneIn 56 = .ok (.bipush 11, 2) := by decide +kernel
theorem dX9_doneIn_58 : decode cX9_doneIn 58 = .ok (.iaload, 1) := by decide +kernel
theorem dX9_doneIn_59 : decode cX9_doneIn 59 = .ok (.ifCond .le 8, 3) := by decide +kernel
theorem dX9_doneIn_62 : decode cX9_doneIn 62 = .ok (.bipush (-4), 2) := by decide +kernel
theorem dX9_doneIn_64 : decode cX9_doneIn 64 = .ok (.goto 4, 3) := by decide +kernel
theorem dX9_doneIn_67 : decode cX9_doneIn 67 = .ok (.iload_n 1, 1) := by decide +kernel
theorem dX9_doneIn_68 : decode cX9_doneIn 68 = .ok (.istore_n 2, 1) := by decide +kernel
theorem dX9_doneIn_69 : decode cX9_doneIn 69 = .ok (.aload_n 0, 1) := by decide +kernel
theorem dX9_doneIn_70 : decode cX9_doneIn 70 = .ok (.invokevirtual 25, 3) := by decide +kernel
theorem dX9_doneIn_73 : decode cX9_doneIn 73 = .ok (.iload_n 2, 1) := by decide +kernel
theorem dX9_doneIn_74 : decode cX9_doneIn 74 = .ok (.ireturn, 1) := by decide +kernel
theorem dX9_undo_0 : decode cX9_undo 0 = .ok (.aload_n 0, 1) := by decide +kernel
theorem dX9_undo_1 : decode cX9_undo 1 = .ok (.getfield 28, 3) := by decide +kernel
theorem dX9_undo_4 : decode cX9_undo 4 = .ok (.ifCond .ne 6, 3) := by decide +kernel
theorem dX9_undo_7 : decode cX9_undo 7 = .ok (.bipush (-2), 2) := by decide +kernel
theorem dX9_undo_9 : decode cX9_undo 9 = .ok (.ireturn, 1) := by decide +kernel
theorem dX9_undo_10 : decode cX9_undo 10 = .ok (.aload_n 0, 1) := by decide +kernel
theorem dX9_undo_11 : decode cX9_undo 11 = .ok (.dup, 1) := by decide +kernel
theorem dX9_undo_12 : decode cX9_undo 12 = .ok (.getfield 28, 3) := by decide +kernel
theorem dX9_undo_15 : decode cX9_undo 15 = .ok (.iconst 1, 1) := by decide +kernel
theorem dX9_undo_16 : decode cX9_undo 16 = .ok (.isub, 1) := by decide +kernel
theorem dX9_undo_17 : decode cX9_undo 17 = .ok (.putfield 28, 3) := by decide +kernel
theorem dX9_undo_20 : decode cX9_undo 20 = .ok (.iconst 0, 1) := by decide +kernel
theorem dX9_undo_21 : decode cX9_undo 21 = .ok (.istore_n 1, 1) := by decide +kernel
theorem dX9_undo_22 : decode cX9_undo 22 = .ok (.iload_n 1, 1) := by decide +kernel
theorem dX9_undo_23 : decode cX9_undo 23 = .ok (.sipush 256, 3) := by decide +kernel
theorem dX9_undo_26 : decode cX9_undo 26 = .ok (.if_icmp .ge 30, 3) := by decide +kernel
theorem dX9_undo_29 : decode cX9_undo 29 = .ok (.aload_n 0, 1) := by decide +kernel
theorem dX9_undo_30 : decode cX9_undo 30 = .ok (.getfield 7, 3) := by decide +kernel
theorem dX9_undo_33 : decode cX9_undo 33 = .ok (.iload_n 1, 1) := by decide +kernel
theorem dX9_undo_34 : decode cX9_undo 34 = .ok (.aload_n 0, 1) := by decide +kernel
theorem dX9_undo_35 : decode cX9_undo 35 = .ok (.getfield 16, 3) := by decide +kernel
theorem dX9_undo_38 : decode cX9_undo 38 = .ok (.sipush 256, 3) := by decide +kernel
theorem dX9_undo_41 : decode cX9_undo 41 = .ok (.aload_n 0, 1) := by decide +kernel
theorem dX9_undo_42 : decode cX9_undo 42 = .ok (.getfield 28, 3) := by decide +kernel
theorem dX9_undo_45 : decode cX9_undo 45 = .ok (.imul, 1) := by decide +kernel
theorem dX9_undo_46 : decode cX9_undo 46 = .ok (.iload_n 1, 1) := by decide +kernel
theorem dX9_undo_47 : decode cX9_undo 47 = .ok (.iadd, 1) := by decide +kernel
theorem dX9_undo_48 : decode cX9_undo 48 = .ok (.iaload, 1) := by decide +kernel
theorem dX9_undo_49 : decode cX9_undo 49 = .ok (.iastore, 1) := by decide +kernel
theorem dX9_undo_50 : decode cX9_undo 50 = .ok (.iinc 1 1, 3) := by decide +kernel
theorem dX9_undo_53 : decode cX9_undo 53 = .ok (.goto (-31), 3) := by decide +kernel
theorem dX9_undo_56 : decode cX9_undo 56 = .ok (.aload_n 0, 1) := by decide +kernel
theorem dX9_undo_57 : decode cX9_undo 57 = .ok (.getfield 28, 3) := by decide +kernel
theorem dX9_undo_60 : decode cX9_undo 60 = .ok (.ireturn, 1) := by decide +kernel
theorem dX9_type_0 : decode cX9_type 0 = .ok (.iload_n 1, 1) := by decide +kernel
theorem dX9_type_1 : decode cX9_type 1 = .ok (.bipush 32, 2) := by decide +kernel
theorem dX9_type_3 : decode cX9_type 3 = .ok (.bipush 126, 2) := by decide +kernel
theorem dX9_type_5 : decode cX9_type 5 = .ok (.invokestatic 32, 3) := by decide +kernel
theorem dX9_type_8 : decode cX9_type 8 = .ok (.ifCond .ne 5, 3) := by decide +kernel
theorem dX9_type_11 : decode cX9_type 11 = .ok (.iconst (-1), 1) := by decide +kernel
theorem dX9_type_12 : decode cX9_type 12 = .ok (.ireturn, 1) := by decide +kernel
theorem dX9_type_13 : decode cX9_type 13 = .ok (.aload_n 0, 1) := by decide +kernel
theorem dX9_type_14 : decode cX9_type 14 = .ok (.getfield 171, 3) := by decide +kernel
theorem dX9_type_17 : decode cX9_type 17 = .ok (.bipush 60, 2) := by decide +kernel
theorem dX9_type_19 : decode cX9_type 19 = .ok (.if_icmp .ne 6, 3) := by decide +kernel
theorem dX9_type_22 : decode cX9_type 22 = .ok (.bipush (-3), 2) := by decide +kernel
theorem dX9_type_24 : decode cX9_type 24 = .ok (.ireturn, 1) := by decide +kernel
theorem dX9_type_25 : decode cX9_type 25 = .ok (.aload_n 0, 1) := by decide +kernel
theorem dX9_type_26 : decode cX9_type 26 = .ok (.getfield 19, 3) := by decide +kernel
theorem dX9_type_29 : decode cX9_type 29 = .ok (.aload_n 0, 1) := by decide +kernel
theorem dX9_type_30 : decode cX9_type 30 = .ok (.getfield 171, 3) := by decide +kernel
theorem dX9_type_33 : decode cX9_type 33 = .ok (.iload_n 1, 1) := by decide +kernel
theorem dX9_type_34 : decode cX9_type 34 = .ok (.iastore, 1) := by decide +kernel
theorem dX9_type_35 : decode cX9_type 35 = .ok (.aload_n 0, 1) := by decide +kernel
theorem dX9_type_36 : decode cX9_type 36 = .ok (.dup, 1) := by decide +kernel
theorem dX9_type_37 : decode cX9_type 37 = .ok (.getfield 171, 3) := by decide +kernel
theorem dX9_type_40 : decode cX9_type 40 = .ok (.iconst 1, 1) := by decide +kernel
theorem dX9_type_41 : decode cX9_type 41 = .ok (.iadd, 1) := by decide +kernel
theorem dX9_type_42 : decode cX9_type 42 = .ok (.putfield 171, 3) := by decide +kernel
theorem dX9_type_45 : decode cX9_type 45 = .ok (.aload_n 0, 1) := by decide +kernel
theorem dX9_type_46 : decode cX9_type 46 = .ok (.getfield 171, 3) := by decide +kernel
theorem dX9_type_49 : decode cX9_type 49 = .ok (.ireturn, 1) := by decide +kernel
theorem dX9_clearText_0 : decode cX9_clearText 0 = .ok (.aload_n 0, 1) := by decide +kernel
theorem dX9_clearText_1 : decode cX9_clearText 1 = .ok (.getfield 171, 3) := by decide +kernel
theorem dX9_clearText_4 : decode cX9_clearText 4 = .ok (.istore_n 1, 1) := by decide +kernel
theorem dX9_clearText_5 : decode cX9_clearText 5 = .ok (.aload_n 0, 1) := by decide +kernel
theorem dX9_clearText_6 : decode cX9_clearText 6 = .ok (.iconst 0, 1) := by decide +kernel
theorem dX9_clearText_7 : decode cX9_clearText 7 = .ok (.putfield 171, 3) := by decide +kernel
theorem dX9_clearText_10 : decode cX9_clearText 10 = .ok (.iload_n 1, 1) := by decide +kernel
theorem dX9_clearText_11 : decode cX9_clearText 11 = .ok (.ireturn, 1) := by decide +kernel
theorem dX9_here_0 : decode cX9_here 0 = .ok (.aload_n 0, 1) := by decide +kernel
theorem dX9_here_1 : decode cX9_here 1 = .ok (.getfield 177, 3) := by decide +kernel
theorem dX9_here_4 : decode cX9_here 4 = .ok (.aload_n 0, 1) := by decide +kernel
theorem dX9_here_5 : decode cX9_here 5 = .ok (.getfield 171, 3) := by decide +kernel
theorem dX9_here_8 : decode cX9_here 8 = .ok (.if_icmp .ge 15, 3) := by decide +kernel
theorem dX9_here_11 : decode cX9_here 11 = .ok (.aload_n 0, 1) := by decide +kernel
theorem dX9_here_12 : decode cX9_here 12 = .ok (.getfield 19, 3) := by decide +kernel
theorem dX9_here_15 : decode cX9_here 15 = .ok (.aload_n 0, 1) := by decide +kernel
theorem dX9_here_16 : decode cX9_here 16 = .ok (.getfield 177, 3) := by decide +kernel
theorem dX9_here_19 : decode cX9_here 19 = .ok (.iaload, 1) := by decide +kernel
theorem dX9_here_20 : decode cX9_here 20 = .ok (.goto 4, 3) := by decide +kernel
theorem dX9_here_23 : decode cX9_here 23 = .ok (.iconst (-1), 1) := by decide +kernel
theorem dX9_here_24 : decode cX9_here 24 = .ok (.ireturn, 1) := by decide +kernel
theorem dX9_isDigit_0 : decode cX9_isDigit 0 = .ok (.aload_n 0, 1) := by decide +kernel
theorem dX9_isDigit_1 : decode cX9_isDigit 1 = .ok (.invokevirtual 180, 3) := by decide +kernel
theorem dX9_isDigit_4 : decode cX9_isDigit 4 = .ok (.bipush 48, 2) := by decide +kernel
theorem dX9_isDigit_6 : decode cX9_isDigit 6 = .ok (.bipush 57, 2) := by decide +kernel
theorem dX9_isDigit_8 : decode cX9_isDigit 8 = .ok (.invokestatic 32, 3) := by decide +kernel
theorem dX9_isDigit_11 : decode cX9_isDigit 11 = .ok (.ireturn, 1) := by decide +kernel
theorem dX9_takesSign_0 : decode cX9_takesSign 0 = .ok (.aload_n 0, 1) := by decide +kernel
theorem dX9_takesSign_1 : decode cX9_takesSign 1 = .ok (.aload_n 0, 1) := by decide +kernel
theorem dX9_takesSign_2 : decode cX9_takesSign 2 = .ok (.getfield 183, 3) := by decide +kernel
theorem dX9_takesSign_5 : decode cX9_takesSign 5 = .ok (.ifCond .eq 15, 3) := by decide +kernel
theorem dX9_takesSign_8 : decode cX9_takesSign 8 = .ok (.aload_n 0, 1) := by decide +kernel
theorem dX9_takesSign_9 : decode cX9_takesSign 9 = .ok (.invokevirtual 180, 3) := by decide +kernel
theorem dX9_takesSign_12 : decode cX9_takesSign 12 = .ok (.iload_n 1, 1) := by decide +kernel
theorem dX9_takesSign_13 : decode cX9_takesSign 13 = .ok (.if_icmp .ne 7, 3) := by decide +kernel
theorem dX9_takesSign_16 : decode cX9_takesSign 16 = .ok (.iconst 1, 1) := by decide +kernel
theorem dX9_takesSign_17 : decode cX9_takesSign 17 = .ok (.goto 4, 3) := by decide +kernel
theorem dX9_takesSign_20 : decode cX9_takesSign 20 = .ok (.iconst 0, 1) := by decide +kernel
theorem dX9_takesSign_21 : decode cX9_takesSign 21 = .ok (.putfield 183, 3) := by decide +kernel
theorem dX9_takesSign_24 : decode cX9_takesSign 24 = .ok (.aload_n 0, 1) := by decide +kernel
theorem dX9_takesSign_25 : decode cX9_takesSign 25 = .ok (.dup, 1) := by decide +kernel
theorem dX9_takesSign_26 : decode cX9_takesSign 26 = .ok (.getfield 177, 3) := by decide +kernel
theorem dX9_takesSign_29 : decode cX9_takesSign 29 = .ok (.aload_n 0, 1) := by decide +kernel
theorem dX9_takesSign_30 : decode cX9_takesSign 30 = .ok (.getfield 183, 3) := by decide +kernel
theorem dX9_takesSign_33 : decode cX9_takesSign 33 = .ok (.ifCond .eq 7, 3) := by decide +kernel
theorem dX9_takesSign_36 : decode cX9_takesSign 36 = .ok (.iconst 1, 1) := by decide +kernel
theorem dX9_takesSign_37 : decode cX9_takesSign 37 = .ok (.goto 4, 3) := by decide +kernel
theorem dX9_takesSign_40 : decode cX9_takesSign 40 = .ok (.iconst 0, 1) := by decide +kernel
theorem dX9_takesSign_41 : decode cX9_takesSign 41 = .ok (.iadd, 1) := by decide +kernel
theorem dX9_takesSign_42 : decode cX9_takesSign 42 = .ok (.putfield 177, 3) := by decide +kernel
theorem dX9_takesSign_45 : decode cX9_takesSign 45 = .ok (.return_, 1) := by decide +kernel
theorem dX9_number_0 : decode cX9_number 0 = .ok (.aload_n 0, 1) := by decide +kernel
theorem dX9_number_1 : decode cX9_number 1 = .ok (.aload_n 0, 1) := by decide +kernel
theorem dX9_number_2 : decode cX9_number 2 = .ok (.getfield 183, 3) := by decide +kernel
theorem dX9_number_5 : decode cX9_number 5 = .ok (.ifCond .eq 14, 3) := by decide +kernel
theorem dX9_number_8 : decode cX9_number 8 = .ok (.aload_n 0, 1) := by decide +kernel
theorem dX9_number_9 : decode cX9_number 9 = .ok (.invokevirtual 187, 3) := by decide +kernel
theorem dX9_number_12 : decode cX9_number 12 = .ok (.ifCond .eq 7, 3) := by decide +kernel
theorem dX9_number_15 : decode cX9_number 15 = .ok (.iconst 1, 1) := by decide +kernel
theorem dX9_number_16 : decode cX9_number 16 = .ok (.goto 4, 3) := by decide +kernel
theorem dX9_number_19 : decode cX9_number 19 = .ok (.iconst 0, 1) := by decide +kernel
theorem dX9_number_20 : decode cX9_number 20 = .ok (.putfield 183, 3) := by decide +kernel
theorem dX9_number_23 : decode cX9_number 23 = .ok (.iconst 0, 1) := by decide +kernel
theorem dX9_number_24 : decode cX9_number 24 = .ok (.istore_n 1, 1) := by decide +kernel
theorem dX9_number_25 : decode cX9_number 25 = .ok (.iconst 0, 1) := by decide +kernel
theorem dX9_number_26 : decode cX9_number 26 = .ok (.istore_n 2, 1) := by decide +kernel
theorem dX9_number_27 : decode cX9_number 27 = .ok (.iload_n 2, 1) := by decide +kernel
theorem dX9_number_28 : decode cX9_number 28 = .ok (.iconst 3, 1) := by decide +kernel
theorem dX9_number_29 : decode cX9_number 29 = .ok (.if_icmp .ge 46, 3) := by decide +kernel
theorem dX9_number_32 : decode cX9_number 32 = .ok (.aload_n 0, 1) := by decide +kernel
theorem dX9_number_33 : decode cX9_number 33 = .ok (.getfield 183, 3) := by decide +kernel
theorem dX9_number_36 : decode cX9_number 36 = .ok (.ifCond .eq 39, 3) := by decide +kernel
theorem dX9_number_39 : decode cX9_number 39 = .ok (.aload_n 0, 1) := by decide +kernel
theorem dX9_number_40 : decode cX9_number 40 = .ok (.invokevirtual 187, 3) := by decide +kernel
theorem dX9_number_43 : decode cX9_number 43 = .ok (.ifCond .eq 32, 3) := by decide +kernel
theorem dX9_number_46 : decode cX9_number 46 = .ok (.bipush 10, 2) := by decide +kernel
theorem dX9_number_48 : decode cX9_number 48 = .ok (.iload_n 1, 1) := by decide +kernel
theorem dX9_number_49 : decode cX9_number 49 = .ok (.imul, 1) := by decide +kernel
theorem dX9_number_50 : decode cX9_number 50 = .ok (.aload_n 0, 1) := by decide +kernel
theorem dX9_number_51 : decode cX9_number 51 = .ok (.invokevirtual 180, 3) := by decide +kernel
theorem dX9_number_54 : decode cX9_number 54 = .ok (.iadd, 1) := by decide +kernel
theorem dX9_number_55 : decode cX9_number 55 = .ok (.bipush 48, 2) := by decide +kernel
theorem dX9_number_57 : decode cX9_number 57 = .ok (.isub, 1) := by decide +kernel
theorem dX9_number_58 : decode cX9_number 58 = .ok (.istore_n 1, 1) := by decide +kernel
theorem dX9_number_59 : decode cX9_number 59 = .ok (.aload_n 0, 1) := by decide +kernel
theorem dX9_number_60 : decode cX9_number 60 = .ok (.dup, 1) := by decide +kernel
theorem dX9_number_61 : decode cX9_number 61 = .ok (.getfield 177, 3) := by decide +kernel
theorem dX9_number_64 : decode cX9_number 64 = .ok (.iconst 1, 1) := by decide +kernel
theorem dX9_number_65 : decode cX9_number 65 = .ok (.iadd, 1) := by decide +kernel
theorem dX9_number_66 : decode cX9_number 66 = .ok (.putfield 177, 3) := by decide +kernel
theorem dX9_number_69 : decode cX9_number 69 = .ok (.iinc 2 1, 3) := by decide +kernel
theorem dX9_number_72 : decode cX9_number 72 = .ok (.goto (-45), 3) := by decide +kernel
theorem dX9_number_75 : decode cX9_number 75 = .ok (.iload_n 1, 1) := by decide +kernel
theorem dX9_number_76 : decode cX9_number 76 = .ok (.ireturn, 1) := by decide +kernel
theorem dX9_hasTwo_0 : decode cX9_hasTwo 0 = .ok (.iload_n 0, 1) := by decide +kernel
theorem dX9_hasTwo_1 : decode cX9_hasTwo 1 = .ok (.bipush 119, 2) := by decide +kernel
theorem dX9_hasTwo_3 : decode cX9_hasTwo 3 = .ok (.if_icmp .eq 9, 3) := by decide +kernel
theorem dX9_hasTwo_6 : decode cX9_hasTwo 6 = .ok (.iload_n 0, 1) := by decide +kernel
theorem dX9_hasTwo_7 : decode cX9_hasTwo 7 = .ok (.bipush 117, 2) := by decide +kernel
theorem dX9_hasTwo_9 : decode cX9_hasTwo 9 = .ok (.if_icmp .ne 7, 3) := by decide +kernel
theorem dX9_hasTwo_12 : decode cX9_hasTwo 12 = .ok (.iconst 1, 1) := by decide +kernel
theorem dX9_hasTwo_13 : decode cX9_hasTwo 13 = .ok (.goto 4, 3) := by decide +kernel
theorem dX9_hasTwo_16 : decode cX9_hasTwo 16 = .ok (.iconst 0, 1) := by decide +kernel
theorem dX9_hasTwo_17 : decode cX9_hasTwo 17 = .ok (.ireturn, 1) := by decide +kernel
theorem dX9_hasOne_0 : decode cX9_hasOne 0 = .ok (.iload_n 0, 1) := by decide +kernel
theorem dX9_hasOne_1 : decode cX9_hasOne 1 = .ok (.bipush 116, 2) := by decide +kernel
theorem dX9_hasOne_3 : decode cX9_hasOne 3 = .ok (.if_icmp .eq 15, 3) := by decide +kernel
theorem dX9_hasOne_6 : decode cX9_hasOne 6 = .ok (.iload_n 0, 1) := by decide +kernel
theorem dX9_hasOne_7 : decode cX9_hasOne 7 = .ok (.bipush 99, 2) := by decide +kernel
theorem dX9_hasOne_9 : decode cX9_hasOne 9 = .ok (.if_icmp .eq 9, 3) := by decide +kernel
theorem dX9_hasOne_12 : decode cX9_hasOne 12 = .ok (.iload_n 0, 1) := by decide +kernel
theorem dX9_hasOne_13 : decode cX9_hasOne 13 = .ok (.bipush 101, 2) := by decide +kernel
theorem dX9_hasOne_15 : decode cX9_hasOne 15 = .ok (.if_icmp .ne 7, 3) := by decide +kernel
theorem dX9_hasOne_18 : decode cX9_hasOne 18 = .ok (.iconst 1, 1) := by decide +kernel
theorem dX9_hasOne_19 : decode cX9_hasOne 19 = .ok (.goto 4, 3) := by decide +kernel
theorem dX9_hasOne_22 : decode cX9_hasOne 22 = .ok (.iconst 0, 1) := by decide +kernel
theorem dX9_hasOne_23 : decode cX9_hasOne 23 = .ok (.ireturn, 1) := by decide +kernel
theorem dX9_called_0 : decode cX9_called 0 = .ok (.iload_n 1, 1) := by decide +kernel
theorem dX9_called_1 : decode cX9_called 1 = .ok (.tableswitch 146 99 120 #[140, 146, 146, 146, 146, 146, 146, 146, 146, 146, 146, 146, 130, 146, 146, 146, 135, 119, 111, 146, 103, 125], 103) := by decide +kernel
theorem dX9_called_104 : decode cX9_called 104 = .ok (.aload_n 0, 1) := by decide +kernel
theorem dX9_called_105 : decode cX9_called 105 = .ok (.iload_n 2, 1) := by decide +kernel
theorem dX9_called_106 : decode cX9_called 106 = .ok (.iload_n 3, 1) := by decide +kernel
theorem dX9_called_107 : decode cX9_called 107 = .ok (.iconst 0, 1) := by decide +kernel
theorem dX9_called_108 : decode cX9_called 108 = .ok (.invokevirtual 134, 3) := by decide +kernel
theorem dX9_called_111 : decode cX9_called 111 = .ok (.ireturn, 1) := by decide +kernel
theorem dX9_called_112 : decode cX9_called 112 = .ok (.aload_n 0, 1) := by decide +kernel
theorem dX9_called_113 : decode cX9_called 113 = .ok (.iload_n 2, 1) := by decide +kernel
theorem dX9_called_114 : decode cX9_called 114 = .ok (.iload_n 3, 1) := by decide +kernel
theorem dX9_called_115 : decode cX9_called 115 = .ok (.iconst 1, 1) := by decide +kernel
theorem dX9_called_116 : decode cX9_called 116 = .ok (.invokevirtual 134, 3) := by decide +kernel
theorem dX9_called_119 : decode cX9_called 119 = .ok (.ireturn, 1) := by decide +kernel
theorem dX9_called_120 : decode cX9_called 120 = .ok (.aload_n 0, 1) := by decide +kernel
theorem dX9_called_121 : decode cX9_called 121 = .ok (.iload_n 2, 1) := by decide +kernel
theorem dX9_called_122 : decode cX9_called 122 = .ok (.invokevirtual 141, 3) := by decide +kernel
theorem dX9_called_125 : decode cX9_called 125 = .ok (.ireturn, 1) := by decide +kernel
theorem dX9_called_126 : decode cX9_called 126 = .ok (.aload_n 0, 1) := by decide +kernel
theorem dX9_called_127 : decode cX9_called 127 = .ok (.invokevirtual 144, 3) := by decide +kernel
theorem dX9_called_130 : decode cX9_called 130 = .ok (.ireturn, 1) := by decide +kernel
theorem dX9_called_131 : decode cX9_called 131 = .ok (.aload_n 0, 1) := by decide +kernel
theorem dX9_called_132 : decode cX9_called 132 = .ok (.invokevirtual 147, 3) := by decide +kernel
theorem dX9_called_135 : decode cX9_called 135 = .ok (.ireturn, 1) := by decide +kernel
theorem dX9_called_136 : decode cX9_called 136 = .ok (.aload_n 0, 1) := by decide +kernel
theorem dX9_called_137 : decode cX9_called 137 = .ok (.invokevirtual 150, 3) := by decide +kernel
theorem dX9_called_140 : decode cX9_called 140 = .ok (.ireturn, 1) := by decide +kernel
theorem dX9_called_141 : decode cX9_called 141 = .ok (.aload_n 0, 1) := by decide +kernel
theorem dX9_called_142 : decode cX9_called 142 = .ok (.iload_n 2, 1) := by decide +kernel
theorem dX9_called_143 : decode cX9_called 143 = .ok (.invokevirtual 153, 3) := by decide +kernel
theorem dX9_called_146 : decode cX9_called 146 = .ok (.ireturn, 1) := by decide +kernel
theorem dX9_called_147 : decode cX9_called 147 = .ok (.aload_n 0, 1) := by decide +kernel
theorem dX9_called_148 : decode cX9_called 148 = .ok (.iload_n 2, 1) := by decide +kernel
theorem dX9_called_149 : decode cX9_called 149 = .ok (.invokevirtual 156, 3) := by decide +kernel
theorem dX9_called_152 : decode cX9_called 152 = .ok (.ireturn, 1) := by decide +kernel
theorem dX9_does_0 : decode cX9_does 0 = .ok (.aload_n 0, 1) := by decide +kernel
theorem dX9_does_1 : decode cX9_does 1 = .ok (.iconst 0, 1) := by decide +kernel
theorem dX9_does_2 : decode cX9_does 2 = .ok (.putfield 177, 3) := by decide +kernel
theorem dX9_does_5 : decode cX9_does 5 = .ok (.aload_n 0, 1) := by decide +kernel
theorem dX9_does_6 : decode cX9_does 6 = .ok (.iconst 0, 1) := by decide +kernel
theorem dX9_does_7 : decode cX9_does 7 = .ok (.putfield 190, 3) := by decide +kernel
theorem dX9_does_10 : decode cX9_does 10 = .ok (.aload_n 0, 1) := by decide +kernel
theorem dX9_does_11 : decode cX9_does 11 = .ok (.getfield 177, 3) := by decide +kernel
theorem dX9_does_14 : decode cX9_does 14 = .ok (.aload_n 0, 1) := by decide +kernel
theorem dX9_does_15 : decode cX9_does 15 = .ok (.getfield 171, 3) := by decide +kernel
theorem dX9_does_18 : decode cX9_does 18 = .ok (.if_icmp .ge 185, 3) := by decide +kernel
theorem dX9_does_21 : decode cX9_does 21 = .ok (.aload_n 0, 1) := by decide +kernel
theorem dX9_does_22 : decode cX9_does 22 = .ok (.getfield 177, 3) := by decide +kernel
theorem dX9_does_25 : decode cX9_does 25 = .ok (.istore_n 1, 1) := by decide +kernel
theorem dX9_does_26 : decode cX9_does 26 = .ok (.aload_n 0, 1) := by decide +kernel
theorem dX9_does_27 : decode cX9_does 27 = .ok (.invokevirtual 180, 3) := by decide +kernel
theorem dX9_does_30 : decode cX9_does 30 = .ok (.istore_n 2, 1) := by decide +kernel
theorem dX9_does_31 : decode cX9_does 31 = .ok (.aload_n 0, 1) := by decide +kernel
theorem dX9_does_32 : decode cX9_does 32 = .ok (.iload_n 2, 1) := by decide +kernel
theorem dX9_does_33 : decode cX9_does 33 = .ok (.invokestatic 193, 3) := by decide +kernel
theorem dX9_does_36 : decode cX9_does 36 = .ok (.ifCond .ne 28, 3) := by decide +kernel
theorem dX9_does_39 : decode cX9_does 39 = .ok (.iload_n 2, 1) := by decide +kernel
theorem dX9_does_40 : decode cX9_does 40 = .ok (.invokestatic 196, 3) := by decide +kernel
theorem dX9_does_43 : decode cX9_does 43 = .ok (.ifCond .ne 21, 3) := by decide +kernel
theorem dX9_does_46 : decode cX9_does 46 = .ok (.iload_n 2, 1) := by decide +kernel
theorem dX9_does_47 : decode cX9_does 47 = .ok (.bipush 120, 2) := by decide +kernel
theorem dX9_does_49 : decode cX9_does 49 = .ok (.if_icmp .eq 15, 3) := by decide +kernel
theorem dX9_does_52 : decode cX9_does 52 = .ok (.iload_n 2, 1) := by decide +kernel
theorem dX9_does_53 : decode cX9_does 53 = .ok (.bipush 111, 2) := by decide +kernel
theorem dX9_does_55 : decode cX9_does 55 = .ok (.if_icmp .eq 9, 3) := by decide +kernel
theorem dX9_does_58 : decode cX9_does 58 = .ok (.iload_n 2, 1) := by decide +kernel
theorem dX9_does_59 : decode cX9_does 59 = .ok (.bipush 115, 2) := by decide +kernel
theorem dX9_does_61 : decode cX9_does 61 = .ok (.if_icmp .ne 7, 3) := by decide +kernel
theorem dX9_does_64 : decode cX9_does 64 = .ok (.iconst 1, 1) := by decide +kernel
theorem dX9_does_65 : decode cX9_does 65 = .ok (.goto 4, 3) := by decide +kernel
theorem dX9_does_68 : decode cX9_does 68 = .ok (.iconst 0, 1) := by decide +kernel
theorem dX9_does_69 : decode cX9_does 69 = .ok (.putfield 183, 3) := by decide +kernel
theorem dX9_does_72 : decode cX9_does 72 = .ok (.aload_n 0, 1) := by decide +kernel
theorem dX9_does_73 : decode cX9_does 73 = .ok (.dup, 1) := by decide +kernel
theorem dX9_does_74 : decode cX9_does 74 = .ok (.getfield 177, 3) := by decide +kernel
theorem dX9_does_77 : decode cX9_does 77 = .ok (.aload_n 0, 1) := by decide +kernel
theorem dX9_does_78 : decode cX9_does 78 = .ok (.getfield 183, 3) := by decide +kernel
theorem dX9_does_81 : decode cX9_does 81 = .ok (.ifCond .eq 7, 3) := by decide +kernel
theorem dX9_does_84 : decode cX9_does 84 = .ok (.iconst 1, 1) := by decide +kernel
theorem dX9_does_85 : decode cX9_does 85 = .ok (.goto 4, 3) := by decide +kernel
theorem dX9_does_88 : decode cX9_does 88 = .ok (.iconst 0, 1) := by decide +kernel
theorem dX9_does_89 : decode cX9_does 89 = .ok (.iadd, 1) := by decide +kernel
theorem dX9_does_90 : decode cX9_does 90 = .ok (.putfield 177, 3) := by decide +kernel
theorem dX9_does_93 : decode cX9_does 93 = .ok (.iload_n 2, 1) := by decide +kernel
theorem dX9_does_94 : decode cX9_does 94 = .ok (.invokestatic 193, 3) := by decide +kernel
theorem dX9_does_97 : decode cX9_does 97 = .ok (.ifCond .ne 10, 3) := by decide +kernel
theorem dX9_does_100 : decode cX9_does 100 = .ok (.iload_n 2, 1) := by decide +kernel
theorem dX9_does_101 : decode cX9_does 101 = .ok (.invokestatic 196, 3) := by decide +kernel
theorem dX9_does_104 : decode cX9_does 104 = .ok (.ifCond .eq 10, 3) := by decide +kernel
theorem dX9_does_107 : decode cX9_does 107 = .ok (.aload_n 0, 1) := by decide +kernel
theorem dX9_does_108 : decode cX9_does 108 = .ok (.invokevirtual 199, 3) := by decide +kernel
theorem dX9_does_111 : decode cX9_does 111 = .ok (.goto 4, 3) := by decide +kernel
theorem dX9_does_114 : decode cX9_does 114 = .ok (.iconst 0, 1) := by decide +kernel
theorem dX9_does_115 : decode cX9_does 115 = .ok (.istore_n 3, 1) := by decide +kernel
theorem dX9_does_116 : decode cX9_does 116 = .ok (.iconst 0, 1) := by decide +kernel
theorem dX9_does_117 : decode cX9_does 117 = .ok (.istore 4, 2) := by decide +kernel
theorem dX9_does_119 : decode cX9_does 119 = .ok (.aload_n 0, 1) := by decide +kernel
theorem dX9_does_120 : decode cX9_does 120 = .ok (.getfield 183, 3) := by decide +kernel
theorem dX9_does_123 : decode cX9_does 123 = .ok (.ifCond .eq 22, 3) := by decide +kernel
theorem dX9_does_126 : decode cX9_does 126 = .ok (.iload_n 2, 1) := by decide +kernel
theorem dX9_does_127 : decode cX9_does 127 = .ok (.invokestatic 193, 3) := by decide +kernel
theorem dX9_does_130 : decode cX9_does 130 = .ok (.ifCond .eq 15, 3) := by decide +kernel
theorem dX9_does_133 : decode cX9_does 133 = .ok (.aload_n 0, 1) := by decide +kernel
theorem dX9_does_134 : decode cX9_does 134 = .ok (.bipush 44, 2) := by decide +kernel
theorem dX9_does_136 : decode cX9_does 136 = .ok (.invokevirtual 202, 3) := by decide +kernel
theorem dX9_does_139 : decode cX9_does 139 = .ok (.aload_n 0, 1) := by decide +kernel
theorem dX9_does_140 : decode cX9_does 140 = .ok (.invokevirtual 199, 3) := by decide +kernel
theorem dX9_does_143 : decode cX9_does 143 = .ok (.istore 4, 2) := by decide +kernel
theorem dX9_does_145 : decode cX9_does 145 = .ok (.aload_n 0, 1) := by decide +kernel
theorem dX9_does_146 : decode cX9_does 146 = .ok (.bipush 59, 2) := by decide +kernel
theorem dX9_does_148 : decode cX9_does 148 = .ok (.invokevirtual 202, 3) := by decide +kernel
theorem dX9_does_151 : decode cX9_does 151 = .ok (.aload_n 0, 1) := by decide +kernel
theorem dX9_does_152 : decode cX9_does 152 = .ok (.aload_n 0, 1) := by decide +kernel
theorem dX9_does_153 : decode cX9_does 153 = .ok (.getfield 183, 3) := by decide +kernel
theorem dX9_does_156 : decode cX9_does 156 = .ok (.ifCond .eq 14, 3) := by decide +kernel
theorem dX9_does_159 : decode cX9_does 159 = .ok (.aload_n 0, 1) := by decide +kernel
theorem dX9_does_160 : decode cX9_does 160 = .ok (.iload_n 2, 1) := by decide +kernel
theorem dX9_does_161 : decode cX9_does 161 = .ok (.iload_n 3, 1) := by decide +kernel
theorem dX9_does_162 : decode cX9_does 162 = .ok (.iload 4, 2) := by decide +kernel
theorem dX9_does_164 : decode cX9_does 164 = .ok (.invokevirtual 205, 3) := by decide +kernel
theorem dX9_does_167 : decode cX9_does 167 = .ok (.goto 4, 3) := by decide +kernel
theorem dX9_does_170 : decode cX9_does 170 = .ok (.iconst 0, 1) := by decide +kernel
theorem dX9_does_171 : decode cX9_does 171 = .ok (.putfield 208, 3) := by decide +kernel
theorem dX9_does_174 : decode cX9_does 174 = .ok (.aload_n 0, 1) := by decide +kernel
theorem dX9_does_175 : decode cX9_does 175 = .ok (.getfield 183, 3) := by decide +kernel
theorem dX9_does_178 : decode cX9_does 178 = .ok (.ifCond .eq 10, 3) := by decide +kernel
theorem dX9_does_181 : decode cX9_does 181 = .ok (.aload_n 0, 1) := by decide +kernel
theorem dX9_does_182 : decode cX9_does 182 = .ok (.getfield 208, 3) := by decide +kernel
theorem dX9_does_185 : decode cX9_does 185 = .ok (.ifCond .ge 5, 3) := by decide +kernel
theorem dX9_does_188 : decode cX9_does 188 = .ok (.iload_n 1, 1) := by decide +kernel
theorem dX9_does_189 : decode cX9_does 189 = .ok (.ireturn, 1) := by decide +kernel
theorem dX9_does_190 : decode cX9_does 190 = .ok (.aload_n 0, 1) := by decide +kernel
theorem dX9_does_191 : decode cX9_does 191 = .ok (.dup, 1) := by decide +kernel
theorem dX9_does_192 : decode cX9_does 192 = .ok (.getfield 190, 3) := by decide +kernel
theorem dX9_does_195 : decode cX9_does 195 = .ok (.iconst 1, 1) := by decide +kernel
theorem dX9_does_196 : decode cX9_does 196 = .ok (.iadd, 1) := by decide +kernel
theorem dX9_does_197 : decode cX9_does 197 = .ok (.putfield 190, 3) := by decide +kernel
theorem dX9_does_200 : decode cX9_does 200 = .ok (.goto (-190), 3) := by decide +kernel
theorem dX9_does_203 : decode cX9_does 203 = .ok (.iconst (-1), 1) := by decide +kernel
theorem dX9_does_204 : decode cX9_does 204 = .ok (.ireturn, 1) := by decide +kernel
theorem dX9_fault_0 : decode cX9_fault 0 = .ok (.iload_n 1, 1) := by decide +kernel
theorem dX9_fault_1 : decode cX9_fault 1 = .ok (.iconst 0, 1) := by decide +kernel
theorem dX9_fault_2 : decode cX9_fault 2 = .ok (.iconst 2, 1) := by decide +kernel
theorem dX9_fault_3 : decode cX9_fault 3 = .ok (.invokestatic 32, 3) := by decide +kernel
theorem dX9_fault_6 : decode cX9_fault 6 = .ok (.ifCond .ne 5, 3) := by decide +kernel
theorem dX9_fault_9 : decode cX9_fault 9 = .ok (.iconst (-1), 1) := by decide +kernel
theorem dX9_fault_10 : decode cX9_fault 10 = .ok (.ireturn, 1) := by decide +kernel
theorem dX9_fault_11 : decode cX9_fault 11 = .ok (.aload_n 0, 1) := by decide +kernel
theorem dX9_fault_12 : decode cX9_fault 12 = .ok (.invokevirtual 131, 3) := by decide +kernel
theorem dX9_fault_15 : decode cX9_fault 15 = .ok (.aload_n 0, 1) := by decide +kernel
theorem dX9_fault_16 : decode cX9_fault 16 = .ok (.invokevirtual 211, 3) := by decide +kernel
theorem dX9_fault_19 : decode cX9_fault 19 = .ok (.istore_n 2, 1) := by decide +kernel
theorem dX9_fault_20 : decode cX9_fault 20 = .ok (.aload_n 0, 1) := by decide +kernel
theorem dX9_fault_21 : decode cX9_fault 21 = .ok (.invokevirtual 25, 3) := by decide +kernel
theorem dX9_fault_24 : decode cX9_fault 24 = .ok (.iload_n 2, 1) := by decide +kernel
theorem dX9_fault_25 : decode cX9_fault 25 = .ok (.ifCond .lt 19, 3) := by decide +kernel
theorem dX9_fault_28 : decode cX9_fault 28 = .ok (.iload_n 1, 1) := by decide +kernel
theorem dX9_fault_29 : decode cX9_fault 29 = .ok (.iconst 2, 1) := by decide +kernel
theorem dX9_fault_30 : decode cX9_fault 30 = .ok (.if_icmp .lt 10, 3) := by decide +kernel
theorem dX9_fault_33 : decode cX9_fault 33 = .ok (.aload_n 0, 1) := by decide +kernel
theorem dX9_fault_34 : decode cX9_fault 34 = .ok (.getfield 183, 3) := by decide +kernel
theorem dX9_fault_37 : decode cX9_fault 37 = .ok (.ifCond .eq 7, 3) := by decide +kernel
theorem dX9_fault_40 : decode cX9_fault 40 = .ok (.iconst 1, 1) := by decide +kernel
theorem dX9_fault_41 : decode cX9_fault 41 = .ok (.goto 4, 3) := by decide +kernel
theorem dX9_fault_44 : decode cX9_fault 44 = .ok (.iconst 0, 1) := by decide +kernel
theorem dX9_fault_45 : decode cX9_fault 45 = .ok (.istore_n 3, 1) := by decide +kernel
theorem dX9_fault_46 : decode cX9_fault 46 = .ok (.iload_n 3, 1) := by decide +kernel
theorem dX9_fault_47 : decode cX9_fault 47 = .ok (.ifCond .ne 8, 3) := by decide +kernel
theorem dX9_fault_50 : decode cX9_fault 50 = .ok (.bipush (-4), 2) := by decide +kernel
theorem dX9_fault_52 : decode cX9_fault 52 = .ok (.goto 35, 3) := by decide +kernel
theorem dX9_fault_55 : decode cX9_fault 55 = .ok (.iload_n 1, 1) := by decide +kernel
theorem dX9_fault_56 : decode cX9_fault 56 = .ok (.ifCond .ne 7, 3) := by decide +kernel
theorem dX9_fault_59 : decode cX9_fault 59 = .ok (.iload_n 2, 1) := by decide +kernel
theorem dX9_fault_60 : decode cX9_fault 60 = .ok (.goto 27, 3) := by decide +kernel
theorem dX9_fault_63 : decode cX9_fault 63 = .ok (.iload_n 1, 1) := by decide +kernel
theorem dX9_fault_64 : decode cX9_fault 64 = .ok (.iconst 1, 1) := by decide +kernel
theorem dX9_fault_65 : decode cX9_fault 65 = .ok (.if_icmp .ne 18, 3) := by decide +kernel
theorem dX9_fault_68 : decode cX9_fault 68 = .ok (.aload_n 0, 1) := by decide +kernel
theorem dX9_fault_69 : decode cX9_fault 69 = .ok (.getfield 183, 3) := by decide +kernel
theorem dX9_fault_72 : decode cX9_fault 72 = .ok (.ifCond .eq 7, 3) := by decide +kernel
theorem dX9_fault_75 : decode cX9_fault 75 = .ok (.iconst 2, 1) := by decide +kernel
theorem dX9_fault_76 : decode cX9_fault 76 = .ok (.goto 11, 3) := by decide +kernel
theorem dX9_fault_79 : decode cX9_fault 79 = .ok (.iconst 1, 1) := by decide +kernel
theorem dX9_fault_80 : decode cX9_fault 80 = .ok (.goto 7, 3) := by decide +kernel
theorem dX9_fault_83 : decode cX9_fault 83 = .ok (.aload_n 0, 1) := by decide +kernel
theorem dX9_fault_84 : decode cX9_fault 84 = .ok (.getfield 208, 3) := by decide +kernel
theorem dX9_fault_87 : decode cX9_fault 87 = .ok (.ireturn, 1) := by decide +kernel
theorem dX9_play_0 : decode cX9_play 0 = .ok (.aload_n 0, 1) := by decide +kernel
theorem dX9_play_1 : decode cX9_play 1 = .ok (.invokevirtual 131, 3) := by decide +kernel
theorem dX9_play_4 : decode cX9_play 4 = .ok (.aload_n 0, 1) := by decide +kernel
theorem dX9_play_5 : decode cX9_play 5 = .ok (.aload_n 0, 1) := by decide +kernel
theorem dX9_play_6 : decode cX9_play 6 = .ok (.invokevirtual 211, 3) := by decide +kernel
theorem dX9_play_9 : decode cX9_play 9 = .ok (.ifCond .ge 10, 3) := by decide +kernel
theorem dX9_play_12 : decode cX9_play 12 = .ok (.aload_n 0, 1) := by decide +kernel
theorem dX9_play_13 : decode cX9_play 13 = .ok (.getfield 190, 3) := by decide +kernel
theorem dX9_play_16 : decode cX9_play 16 = .ok (.goto 5, 3) := by decide +kernel
theorem dX9_play_19 : decode cX9_play 19 = .ok (.bipush (-2), 2) := by decide +kernel
theorem dX9_play_21 : decode cX9_play 21 = .ok (.invokevirtual 138, 3) := by decide +kernel
theorem dX9_play_24 : decode cX9_play 24 = .ok (.ireturn, 1) := by decide +kernel
theorem dJ6_bitCount_0f7a4_0 : decode cJ6_bitCount_0f7a4 0 = .ok (.iload_n 0, 1) := by decide +kernel
theorem dJ6_bitCount_0f7a4_1 : decode cJ6_bitCount_0f7a4 1 = .ok (.iload_n 0, 1) := by decide +kernel
theorem dJ6_bitCount_0f7a4_2 : decode cJ6_bitCount_0f7a4 2 = .ok (.iconst 1, 1) := by decide +kernel
theorem dJ6_bitCount_0f7a4_3 : decode cJ6_bitCount_0f7a4 3 = .ok (.iushr, 1) := by decide +kernel
theorem dJ6_bitCount_0f7a4_4 : decode cJ6_bitCount_0f7a4 4 = .ok (.ldc_w 265, 3) := by decide +kernel
theorem dJ6_bitCount_0f7a4_7 : decode cJ6_bitCount_0f7a4 7 = .ok (.iand, 1) := by decide +kernel
theorem dJ6_bitCount_0f7a4_8 : decode cJ6_bitCount_0f7a4 8 = .ok (.isub, 1) := by decide +kernel
theorem dJ6_bitCount_0f7a4_9 : decode cJ6_bitCount_0f7a4 9 = .ok (.istore_n 0, 1) := by decide +kernel
theorem dJ6_bitCount_0f7a4_10 : decode cJ6_bitCount_0f7a4 10 = .ok (.iload_n 0, 1) := by decide +kernel
theorem dJ6_bitCount_0f7a4_11 : decode cJ6_bitCount_0f7a4 11 = .ok (.ldc_w 266, 3) := by decide +kernel
theorem dJ6_bitCount_0f7a4_14 : decode cJ6_bitCount_0f7a4 14 = .ok (.iand, 1) := by decide +kernel
theorem dJ6_bitCount_0f7a4_15 : decode cJ6_bitCount_0f7a4 15 = .ok (.iload_n 0, 1) := by decide +kernel
theorem dJ6_bitCount_0f7a4_16 : decode cJ6_bitCount_0f7a4 16 = .ok (.iconst 2, 1) := by decide +kernel
theorem dJ6_bitCount_0f7a4_17 : decode cJ6_bitCount_0f7a4 17 = .ok (.iushr, 1) := by decide +kernel
theorem dJ6_bitCount_0f7a4_18 : decode cJ6_bitCount_0f7a4 18 = .ok (.ldc_w 266, 3) := by decide +kernel
theorem dJ6_bitCount_0f7a4_21 : decode cJ6_bitCount_0f7a4 21 = .ok (.iand, 1) := by decide +kernel
theorem dJ6_bitCount_0f7a4_22 : decode cJ6_bitCount_0f7a4 22 = .ok (.iadd, 1) := by decide +kernel
theorem dJ6_bitCount_0f7a4_23 : decode cJ6_bitCount_0f7a4 23 = .ok (.istore_n 0, 1) := by decide +kernel
theorem dJ6_bitCount_0f7a4_24 : decode cJ6_bitCount_0f7a4 24 = .ok (.iload_n 0, 1) := by decide +kernel
theorem dJ6_bitCount_0f7a4_25 : decode cJ6_bitCount_0f7a4 25 = .ok (.iload_n 0, 1) := by decide +kernel
theorem dJ6_bitCount_0f7a4_26 : decode cJ6_bitCount_0f7a4 26 = .ok (.iconst 4, 1) := by decide +kernel
theorem dJ6_bitCount_0f7a4_27 : decode cJ6_bitCount_0f7a4 27 = .ok (.iushr, 1) := by decide +kernel
theorem dJ6_bitCount_0f7a4_28 : decode cJ6_bitCount_0f7a4 28 = .ok (.iadd, 1) := by decide +kernel
theorem dJ6_bitCount_0f7a4_29 : decode cJ6_bitCount_0f7a4 29 = .ok (.ldc_w 267, 3) := by decide +kernel
theorem dJ6_bitCount_0f7a4_32 : decode cJ6_bitCount_0f7a4 32 = .ok (.iand, 1) := by decide +kernel
theorem dJ6_bitCount_0f7a4_33 : decode cJ6_bitCount_0f7a4 33 = .ok (.istore_n 0, 1) := by decide +kernel
theorem dJ6_bitCount_0f7a4_34 : decode cJ6_bitCount_0f7a4 34 = .ok (.iload_n 0, 1) := by decide +kernel
theorem dJ6_bitCount_0f7a4_35 : decode cJ6_bitCount_0f7a4 35 = .ok (.iload_n 0, 1) := by decide +kernel
theorem dJ6_bitCount_0f7a4_36 : decode cJ6_bitCount_0f7a4 36 = .ok (.bipush 8, 2) := by decide +kernel
theorem dJ6_bitCount_0f7a4_38 : decode cJ6_bitCount_0f7a4 38 = .ok (.iushr, 1) := by decide +kernel
theorem dJ6_bitCount_0f7a4_39 : decode cJ6_bitCount_0f7a4 39 = .ok (.iadd, 1) := by decide +kernel
theorem dJ6_bitCount_0f7a4_40 : decode cJ6_bitCount_0f7a4 40 = .ok (.istore_n 0, 1) := by decide +kernel
theorem dJ6_bitCount_0f7a4_41 : decode cJ6_bitCount_0f7a4 41 = .ok (.iload_n 0, 1) := by decide +kernel
theorem dJ6_bitCount_0f7a4_42 : decode cJ6_bitCount_0f7a4 42 = .ok (.iload_n 0, 1) := by decide +kernel
theorem dJ6_bitCount_0f7a4_43 : decode cJ6_bitCount_0f7a4 43 = .ok (.bipush 16, 2) := by decide +kernel
theorem dJ6_bitCount_0f7a4_45 : decode cJ6_bitCount_0f7a4 45 = .ok (.iushr, 1) := by decide +kernel
theorem dJ6_bitCount_0f7a4_46 : decode cJ6_bitCount_0f7a4 46 = .ok (.iadd, 1) := by decide +kernel
theorem dJ6_bitCount_0f7a4_47 : decode cJ6_bitCount_0f7a4 47 = .ok (.istore_n 0, 1) := by decide +kernel
theorem dJ6_bitCount_0f7a4_48 : decode cJ6_bitCount_0f7a4 48 = .ok (.iload_n 0, 1) := by decide +kernel
theorem dJ6_bitCount_0f7a4_49 : decode cJ6_bitCount_0f7a4 49 = .ok (.bipush 63, 2) := by decide +kernel
theorem dJ6_bitCount_0f7a4_51 : decode cJ6_bitCount_0f7a4 51 = .ok (.iand, 1) := by decide +kernel
theorem dJ6_bitCount_0f7a4_52 : decode cJ6_bitCount_0f7a4 52 = .ok (.ireturn, 1) := by decide +kernel
theorem dJ9_max_7cf53_0 : decode cJ9_max_7cf53 0 = .ok (.iload_n 0, 1) := by decide +kernel
theorem dJ9_max_7cf53_1 : decode cJ9_max_7cf53 1 = .ok (.iload_n 1, 1) := by decide +kernel
theorem dJ9_max_7cf53_2 : decode cJ9_max_7cf53 2 = .ok (.if_icmp .lt 7, 3) := by decide +kernel
theorem dJ9_max_7cf53_5 : decode cJ9_max_7cf53 5 = .ok (.iload_n 0, 1) := by decide +kernel
theorem dJ9_max_7cf53_6 : decode cJ9_max_7cf53 6 = .ok (.goto 4, 3) := by decide +kernel
theorem dJ9_max_7cf53_9 : decode cJ9_max_7cf53 9 = .ok (.iload_n 1, 1) := by decide +kernel
theorem dJ9_max_7cf53_10 : decode cJ9_max_7cf53 10 = .ok (.ireturn, 1) := by decide +kernel
theorem dJ9_min_7cf53_0 : decode cJ9_min_7cf53 0 = .ok (.iload_n 0, 1) := by decide +kernel
theorem dJ9_min_7cf53_1 : decode cJ9_min_7cf53 1 = .ok (.iload_n 1, 1) := by decide +kernel
theorem dJ9_min_7cf53_2 : decode cJ9_min_7cf53 2 = .ok (.if_icmp .gt 7, 3) := by decide +kernel
theorem dJ9_min_7cf53_5 : decode cJ9_min_7cf53 5 = .ok (.iload_n 0, 1) := by decide +kernel
theorem dJ9_min_7cf53_6 : decode cJ9_min_7cf53 6 = .ok (.goto 4, 3) := by decide +kernel
theorem dJ9_min_7cf53_9 : decode cJ9_min_7cf53 9 = .ok (.iload_n 1, 1) := by decide +kernel
theorem dJ9_min_7cf53_10 : decode cJ9_min_7cf53 10 = .ok (.ireturn, 1) := by decide +kernel
theorem dL_law_0 : decode cL_law 0 = .ok (.new 7, 3) := by decide +kernel
theorem dL_law_3 : decode cL_law 3 = .ok (.dup, 1) := by decide +kernel
theorem dL_law_4 : decode cL_law 4 = .ok (.invokespecial 9, 3) := by decide +kernel
theorem dL_law_7 : decode cL_law 7 = .ok (.astore_n 1, 1) := by decide +kernel
theorem dL_law_8 : decode cL_law 8 = .ok (.new 10, 3) := by decide +kernel
theorem dL_law_11 : decode cL_law 11 = .ok (.dup, 1) := by decide +kernel
theorem dL_law_12 : decode cL_law 12 = .ok (.invokespecial 12, 3) := by decide +kernel
theorem dL_law_15 : decode cL_law 15 = .ok (.astore_n 2, 1) := by decide +kernel
theorem dL_law_16 : decode cL_law 16 = .ok (.iconst 0, 1) := by decide +kernel
theorem dL_law_17 : decode cL_law 17 = .ok (.istore_n 3, 1) := by decide +kernel
theorem dL_law_18 : decode cL_law 18 = .ok (.iload_n 3, 1) := by decide +kernel
theorem dL_law_19 : decode cL_law 19 = .ok (.aload_n 0, 1) := by decide +kernel
theorem dL_law_20 : decode cL_law 20 = .ok (.arraylength, 1) := by decide +kernel
theorem dL_law_21 : decode cL_law 21 = .ok (.iconst 4, 1) := by decide +kernel
theorem dL_law_22 : decode cL_law 22 = .ok (.isub, 1) := by decide +kernel
theorem dL_law_23 : decode cL_law 23 = .ok (.if_icmp .gt 655, 3) := by decide +kernel
theorem dL_law_26 : decode cL_law 26 = .ok (.aload_n 0, 1) := by decide +kernel
theorem dL_law_27 : decode cL_law 27 = .ok (.iload_n 3, 1) := by decide +kernel
theorem dL_law_28 : decode cL_law 28 = .ok (.iaload, 1) := by decide +kernel
theorem dL_law_29 : decode cL_law 29 = .ok (.bipush 31, 2) := by decide +kernel
theorem dL_law_31 : decode cL_law 31 = .ok (.iand, 1) := by decide +kernel
theorem dL_law_32 : decode cL_law 32 = .ok (.tableswitch 640 0 21 #[104, 147, 170, 183, 196, 209, 232, 255, 288, 321, 344, 377, 420, 463, 496, 519, 542, 555, 568, 591, 604, 627], 104) := by decide +kernel
theorem dL_law_136 : decode cL_law 136 = .ok (.aload_n 1, 1) := by decide +kernel
theorem dL_law_137 : decode cL_law 137 = .ok (.aload_n 0, 1) := by decide +kernel
theorem dL_law_138 : decode cL_law 138 = .ok (.iload_n 3, 1) := by decide +kernel
theorem dL_law_139 : decode cL_law 139 = .ok (.iconst 1, 1) := by decide +kernel
theorem dL_law_140 : decode cL_law 140 = .ok (.iadd, 1) := by decide +kernel
theorem dL_law_141 : decode cL_law 141 = .ok (.iaload, 1) := by decide +kernel
theorem dL_law_142 : decode cL_law 142 = .ok (.aload_n 0, 1) := by decide +kernel
theorem dL_law_143 : decode cL_law 143 = .ok (.iload_n 3, 1) := by decide +kernel
theorem dL_law_144 : decode cL_law 144 = .ok (.iconst 2, 1) := by decide +kernel
theorem dL_law_145 : decode cL_law 145 = .ok (.iadd, 1) := by decide +kernel
theorem dL_law_146 : decode cL_law 146 = .ok (.iaload, 1) := by decide +kernel
theorem dL_law_147 : decode cL_law 147 = .ok (.aload_n 0, 1) := by decide +kernel
theorem dL_law_148 : decode cL_law 148 = .ok (.iload_n 3, 1) := by decide +kernel
theorem dL_law_149 : decode cL_law 149 = .ok (.iconst 3, 1) := by decide +kernel
theorem dL_law_150 : decode cL_law 150 = .ok (.iadd, 1) := by decide +kernel
theorem dL_law_151 : decode cL_law 151 = .ok (.iaload, 1) := by decide +kernel
theorem dL_law_152 : decode cL_law 152 = .ok (.invokevirtual 13, 3) := by decide +kernel
theorem dL_law_155 : decode cL_law 155 = .ok (.aload_n 2, 1) := by decide +kernel
theorem dL_law_156 : decode cL_law 156 = .ok (.aload_n 0, 1) := by decide +kernel
theorem dL_law_157 : decode cL_law 157 = .ok (.iload_n 3, 1) := by decide +kernel
theorem dL_law_158 : decode cL_law 158 = .ok (.iconst 1, 1) := by decide +kernel
theorem dL_law_159 : decode cL_law 159 = .ok (.iadd, 1) := by decide +kernel
theorem dL_law_160 : decode cL_law 160 = .ok (.iaload, 1) := by decide +kernel
theorem dL_law_161 : decode cL_law 161 = .ok (.aload_n 0, 1) := by decide +kernel
theorem dL_law_162 : decode cL_law 162 = .ok (.iload_n 3, 1) := by decide +kernel
theorem dL_law_163 : decode cL_law 163 = .ok (.iconst 2, 1) := by decide +kernel
theorem dL_law_164 : decode cL_law 164 = .ok (.iadd, 1) := by decide +kernel
theorem dL_law_165 : decode cL_law 165 = .ok (.iaload, 1) := by decide +kernel
theorem dL_law_166 : decode cL_law 166 = .ok (.aload_n 0, 1) := by decide +kernel
theorem dL_law_167 : decode cL_law 167 = .ok (.iload_n 3, 1) := by decide +kernel
theorem dL_law_168 : decode cL_law 168 = .ok (.iconst 3, 1) := by decide +kernel
theorem dL_law_169 : decode cL_law 169 = .ok (.iadd, 1) := by decide +kernel
theorem dL_law_170 : decode cL_law 170 = .ok (.iaload, 1) := by decide +kernel
theorem dL_law_171 : decode cL_law 171 = .ok (.invokevirtual 17, 3) := by decide +kernel
theorem dL_law_174 : decode cL_law 174 = .ok (.if_icmp .eq 498, 3) := by decide +kernel
theorem dL_law_177 : decode cL_law 177 = .ok (.iconst 0, 1) := by decide +kernel
theorem dL_law_178 : decode cL_law 178 = .ok (.ireturn, 1) := by decide +kernel
theorem dL_law_179 : decode cL_law 179 = .ok (.aload_n 1, 1) := by decide +kernel
theorem dL_law_180 : decode cL_law 180 = .ok (.aload_n 0, 1) := by decide +kernel
theorem dL_law_181 : decode cL_law 181 = .ok (.iload_n 3, 1) := by decide +kernel
theorem dL_law_182 : decode cL_law 182 = .ok (.iconst 1, 1) := by decide +kernel
theorem dL_law_183 : decode cL_law 183 = .ok (.iadd, 1) := by decide +kernel
theorem dL_law_184 : decode cL_law 184 = .ok (.iaload, 1) := by decide +kernel
theorem dL_law_185 : decode cL_law 185 = .ok (.invokevirtual 18, 3) := by decide +kernel
theorem dL_law_188 : decode cL_law 188 = .ok (.aload_n 2, 1) := by decide +kernel
theorem dL_law_189 : decode cL_law 189 = .ok (.aload_n 0, 1) := by decide +kernel
theorem dL_law_190 : decode cL_law 190 = .ok (.iload_n 3, 1) := by decide +kernel
theorem dL_law_191 : decode cL_law 191 = .ok (.iconst 1, 1) := by decide +kernel
theorem dL_law_192 : decode cL_law 192 = .ok (.iadd, 1) := by decide +kernel
theorem dL_law_193 : decode cL_law 193 = .ok (.iaload, 1) := by decide +kernel
theorem dL_law_194 : decode cL_law 194 = .ok (.invokevirtual 22, 3) := by decide +kernel
theorem dL_law_197 : decode cL_law 197 = .ok (.if_icmp .eq 475, 3) := by decide +kernel
theorem dL_law_200 : decode cL_law 200 = .ok (.iconst 0, 1) := by decide +kernel
theorem dL_law_201 : decode cL_law 201 = .ok (.ireturn, 1) := by decide +kernel
theorem dL_law_202 : decode cL_law 202 = .ok (.aload_n 1, 1) := by decide +kernel
theorem dL_law_203 : decode cL_law 203 = .ok (.invokevirtual 23, 3) := by decide +kernel
theorem dL_law_206 : decode cL_law 206 = .ok (.aload_n 2, 1) := by decide +kernel
theorem dL_law_207 : decode cL_law 207 = .ok (.invokevirtual 27, 3) := by decide +kernel
theorem dL_law_210 : decode cL_law 210 = .ok (.if_icmp .eq 462, 3) := by decide +kernel
theorem dL_law_213 : decode cL_law 213 = .ok (.iconst 0, 1) := by decide +kernel
theorem dL_law_214 : decode cL_law 214 = .ok (.ireturn, 1) := by decide +kernel
theorem dL_law_215 : decode cL_law 215 = .ok (.aload_n 1, 1) := by decide +kernel
theorem dL_law_216 : decode cL_law 216 = .ok (.invokevirtual 28, 3) := by decide +kernel
theorem dL_law_219 : decode cL_law 219 = .ok (.aload_n 2, 1) := by decide +kernel
theorem dL_law_220 : decode cL_law 220 = .ok (.invokevirtual 31, 3) := by decide +kernel
theorem dL_law_223 : decode cL_law 223 = .ok (.if_icmp .eq 449, 3) := by decide +kernel
theorem dL_law_226 : decode cL_law 226 = .ok (.iconst 0, 1) := by decide +kernel
theorem dL_law_227 : decode cL_law 227 = .ok (.ireturn, 1) := by decide +kernel
theorem dL_law_228 : decode cL_law 228 = .ok (.aload_n 1, 1) := by decide +kernel
theorem dL_law_229 : decode cL_law 229 = .ok (.invokevirtual 32, 3) := by decide +kernel
theorem dL_law_232 : decode cL_law 232 = .ok (.aload_n 2, 1) := by decide +kernel
theorem dL_law_233 : decode cL_law 233 = .ok (.invokevirtual 35, 3) := by decide +kernel
theorem dL_law_236 : decode cL_law 236 = .ok (.if_icmp .eq 436, 3) := by decide +kernel
theorem dL_law_239 : decode cL_law 239 = .ok (.iconst 0, 1) := by decide +kernel
theorem dL_law_240 : decode cL_law 240 = .ok (.ireturn, 1) := by decide +kernel
theorem dL_law_241 : decode cL_law 241 = .ok (.aload_n 1, 1) := by decide +kernel
theorem dL_law_242 : decode cL_law 242 = .ok (.aload_n 0, 1) := by decide +kernel
theorem dL_law_243 : decode cL_law 243 = .ok (.iload_n 3, 1) := by decide +kernel
theorem dL_law_244 : decode cL_law 244 = .ok (.iconst 1, 1) := by decide +kernel
theorem dL_law_245 : decode cL_law 245 = .ok (.iadd, 1) := by decide +kernel
theorem dL_law_246 : decode cL_law 246 = .ok (.iaload, 1) := by decide +kernel
theorem dL_law_247 : decode cL_law 247 = .ok (.invokevirtual 36, 3) := by decide +kernel
theorem dL_law_250 : decode cL_law 250 = .ok (.aload_n 2, 1) := by decide +kernel
theorem dL_law_251 : decode cL_law 251 = .ok (.aload_n 0, 1) := by decide +kernel
theorem dL_law_252 : decode cL_law 252 = .ok (.iload_n 3, 1) := by decide +kernel
theorem dL_law_253 : decode cL_law 253 = .ok (.iconst 1, 1) := by decide +kernel
theorem dL_law_254 : decode cL_law 254 = .ok (.iadd, 1) := by decide +kernel
theorem dL_law_255 : decode cL_law 255 = .ok (.iaload, 1) := by decide +kernel
theorem dL_law_256 : decode cL_law 256 = .ok (.invokevirtual 39, 3) := by decide +kernel
theorem dL_law_259 : decode cL_law 259 = .ok (.if_icmp .eq 413, 3) := by decide +kernel
theorem dL_law_262 : decode cL_law 262 = .ok (.iconst 0, 1) := by decide +kernel
theorem dL_law_263 : decode cL_law 263 = .ok (.ireturn, 1) := by decide +kernel
theorem dL_law_264 : decode cL_law 264 = .ok (.aload_n 1, 1) := by decide +kernel
theorem dL_law_265 : decode cL_law 265 = .ok (.aload_n 0, 1) := by decide +kernel
theorem dL_law_266 : decode cL_law 266 = .ok (.iload_n 3, 1) := by decide +kernel
theorem dL_law_267 : decode cL_law 267 = .ok (.iconst 1, 1) := by decide +kernel
theorem dL_law_268 : decode cL_law 268 = .ok (.iadd, 1) := by decide +kernel
theorem dL_law_269 : decode cL_law 269 = .ok (.iaload, 1) := by decide +kernel
theorem dL_law_270 : decode cL_law 270 = .ok (.invokevirtual 40, 3) := by decide +kernel
theorem dL_law_273 : decode cL_law 273 = .ok (.aload_n 2, 1) := by decide +kernel
theorem dL_law_274 : decode cL_law 274 = .ok (.aload_n 0, 1) := by decide +kernel
theorem dL_law_275 : decode cL_law 275 = .ok (.iload_n 3, 1) := by decide +kernel
theorem dL_law_276 : decode cL_law 276 = .ok (.iconst 1, 1) := by decide +kernel
theorem dL_law_277 : decode cL_law 277 = .ok (.iadd, 1) := by decide +kernel
theorem dL_law_278 : decode cL_law 278 = .ok (.iaload, 1) := by decide +kernel
theorem dL_law_279 : decode cL_law 279 = .ok (.invokevirtual 43, 3) := by decide +kernel
theorem dL_law_282 : decode cL_law 282 = .ok (.if_icmp .eq 390, 3) := by decide +kernel
theorem dL_law_285 : decode cL_law 285 = .ok (.iconst 0, 1) := by decide +kernel
theorem dL_law_286 : decode cL_law 286 = .ok (.ireturn, 1) := by decide +kernel
theorem dL_law_287 : decode cL_law 287 = .ok (.aload_n 1, 1) := by decide +kernel
theorem dL_law_288 : decode cL_law 288 = .ok (.aload_n 0, 1) := by decide +kernel
theorem dL_law_289 : decode cL_law 289 = .ok (.iload_n 3, 1) := by decide +kernel
theorem dL_law_290 : decode cL_law 290 = .ok (.iconst 1, 1) := by decide +kernel
theorem dL_law_291 : decode cL_law 291 = .ok (.iadd, 1) := by decide +kernel
theorem dL_law_292 : decode cL_law 292 = .ok (.iaload, 1) := by decide +kernel
theorem dL_law_293 : decode cL_law 293 = .ok (.aload_n 0, 1) := by decide +kernel
theorem dL_law_294 : decode cL_law 294 = .ok (.iload_n 3, 1) := by decide +kernel
theorem dL_law_295 : decode cL_law 295 = .ok (.iconst 2, 1) := by decide +kernel
theorem dL_law_296 : decode cL_law 296 = .ok (.iadd, 1) := by decide +kernel
theorem dL_law_297 : decode cL_law 297 = .ok (.iaload, 1) := by decide +kernel
theorem dL_law_298 : decode cL_law 298 = .ok (.invokevirtual 44, 3) := by decide +kernel
theorem dL_law_301 : decode cL_law 301 = .ok (.aload_n 2, 1) := by decide +kernel
theorem dL_law_302 : decode cL_law 302 = .ok (.aload_n 0, 1) := by decide +kernel
theorem dL_law_303 : decode cL_law 303 = .ok (.iload_n 3, 1) := by decide +kernel
theorem dL_law_304 : decode cL_law 304 = .ok (.iconst 1, 1) := by decide +kernel
theorem dL_law_305 : decode cL_law 305 = .ok (.iadd, 1) := by decide +kernel
theorem dL_law_306 : decode cL_law 306 = .ok (.iaload, 1) := by decide +kernel
theorem dL_law_307 : decode cL_law 307 = .ok (.aload_n 0, 1) := by decide +kernel
theorem dL_law_308 : decode cL_law 308 = .ok (.iload_n 3, 1) := by decide +kernel
theorem dL_law_309 : decode cL_law 309 = .ok (.iconst 2, 1) := by decide +kernel
theorem dL_law_310 : decode cL_law 310 = .ok (.iadd, 1) := by decide +kernel
theorem dL_law_311 : decode cL_law 311 = .ok (.iaload, 1) := by decide +kernel
theorem dL_law_312 : decode cL_law 312 = .ok (.invokevirtual 48, 3) := by decide +kernel
theorem dL_law_315 : decode cL_law 315 = .ok (.if_icmp .eq 357, 3) := by decide +kernel
theorem dL_law_318 : decode cL_law 318 = .ok (.iconst 0, 1) := by decide +kernel
theorem dL_law_319 : decode cL_law 319 = .ok (.ireturn, 1) := by decide +kernel
theorem dL_law_320 : decode cL_law 320 = .ok (.aload_n 1, 1) := by decide +kernel
theorem dL_law_321 : decode cL_law 321 = .ok (.aload_n 0, 1) := by decide +kernel
theorem dL_law_322 : decode cL_law 322 = .ok (.iload_n 3, 1) := by decide +kernel
theorem dL_law_323 : decode cL_law 323 = .ok (.iconst 1, 1) := by decide +kernel
theorem dL_law_324 : decode cL_law 324 = .ok (.iadd, 1) := by decide +kernel
theorem dL_law_325 : decode cL_law 325 = .ok (.iaload, 1) := by decide +kernel
theorem dL_law_326 : decode cL_law 326 = .ok (.aload_n 0, 1) := by decide +kernel
theorem dL_law_327 : decode cL_law 327 = .ok (.iload_n 3, 1) := by decide +kernel
theorem dL_law_328 : decode cL_law 328 = .ok (.iconst 2, 1) := by decide +kernel
theorem dL_law_329 : decode cL_law 329 = .ok (.iadd, 1) := by decide +kernel
theorem dL_law_330 : decode cL_law 330 = .ok (.iaload, 1) := by decide +kernel
theorem dL_law_331 : decode cL_law 331 = .ok (.invokevirtual 49, 3) := by decide +kernel
theorem dL_law_334 : decode cL_law 334 = .ok (.aload_n 2, 1) := by decide +kernel
theorem dL_law_335 : decode cL_law 335 = .ok (.aload_n 0, 1) := by decide +kernel
theorem dL_law_336 : decode cL_law 336 = .ok (.iload_n 3, 1) := by decide +kernel
theorem dL_law_337 : decode cL_law 337 = .ok (.iconst 1, 1) := by decide +kernel
theorem dL_law_338 : decode cL_law 338 = .ok (.iadd, 1) := by decide +kernel
theorem dL_law_339 : decode cL_law 339 = .ok (.iaload, 1) := by decide +kernel
theorem dL_law_340 : decode cL_law 340 = .ok (.aload_n 0, 1) := by decide +kernel
theorem dL_law_341 : decode cL_law 341 = .ok (.iload_n 3, 1) := by decide +kernel
theorem dL_law_342 : decode cL_law 342 = .ok (.iconst 2, 1) := by decide +kernel
theorem dL_law_343 : decode cL_law 343 = .ok (.iadd, 1) := by decide +kernel
theorem dL_law_344 : decode cL_law 344 = .ok (.iaload, 1) := by decide +kernel
theorem dL_law_345 : decode cL_law 345 = .ok (.invokevirtual 52, 3) := by decide +kernel
theorem dL_law_348 : decode cL_law 348 = .ok (.if_icmp .eq 324, 3) := by decide +kernel
theorem dL_law_351 : decode cL_law 351 = .ok (.iconst 0, 1) := by decide +kernel
theorem dL_law_352 : decode cL_law 352 = .ok (.ireturn, 1) := by decide +kernel
theorem dL_law_353 : decode cL_law 353 = .ok (.aload_n 1, 1) := by decide +kernel
theorem dL_law_354 : decode cL_law 354 = .ok (.aload_n 0, 1) := by decide +kernel
theorem dL_law_355 : decode cL_law 355 = .ok (.iload_n 3, 1) := by decide +kernel
theorem dL_law_356 : decode cL_law 356 = .ok (.iconst 1, 1) := by decide +kernel
theorem dL_law_357 : decode cL_law 357 = .ok (.iadd, 1) := by decide +kernel
theorem dL_law_358 : decode cL_law 358 = .ok (.iaload, 1) := by decide +kernel
theorem dL_law_359 : decode cL_law 359 = .ok (.invokevirtual 53, 3) := by decide +kernel
theorem dL_law_362 : decode cL_law 362 = .ok (.aload_n 2, 1) := by decide +kernel
theorem dL_law_363 : decode cL_law 363 = .ok (.aload_n 0, 1) := by decide +kernel
theorem dL_law_364 : decode cL_law 364 = .ok (.iload_n 3, 1) := by decide +kernel
theorem dL_law_365 : decode cL_law 365 = .ok (.iconst 1, 1) := by decide +kernel
theorem dL_law_366 : decode cL_law 366 = .ok (.iadd, 1) := by decide +kernel
theorem dL_law_367 : decode cL_law 367 = .ok (.iaload, 1) := by decide +kernel
theorem dL_law_368 : decode cL_law 368 = .ok (.invokevirtual 56, 3) := by decide +kernel
theorem dL_law_371 : decode cL_law 371 = .ok (.if_icmp .eq 301, 3) := by decide +kernel
theorem dL_law_374 : decode cL_law 374 = .ok (.iconst 0, 1) := by decide +kernel
theorem dL_law_375 : decode cL_law 375 = .ok (.ireturn, 1) := by decide +kernel
theorem dL_law_376 : decode cL_law 376 = .ok (.aload_n 1, 1) := by decide +kernel
theorem dL_law_377 : decode cL_law 377 = .ok (.aload_n 0, 1) := by decide +kernel
theorem dL_law_378 : decode cL_law 378 = .ok (.iload_n 3, 1) := by decide +kernel
theorem dL_law_379 : decode cL_law 379 = .ok (.iconst 1, 1) := by decide +kernel
theorem dL_law_380 : decode cL_law 380 = .ok (.iadd, 1) := by decide +kernel
theorem dL_law_381 : decode cL_law 381 = .ok (.iaload, 1) := by decide +kernel
theorem dL_law_382 : decode cL_law 382 = .ok (.aload_n 0, 1) := by decide +kernel
theorem dL_law_383 : decode cL_law 383 = .ok (.iload_n 3, 1) := by decide +kernel
theorem dL_law_384 : decode cL_law 384 = .ok (.iconst 2, 1) := by decide +kernel
theorem dL_law_385 : decode cL_law 385 = .ok (.iadd, 1) := by decide +kernel
theorem dL_law_386 : decode cL_law 386 = .ok (.iaload, 1) := by decide +kernel
theorem dL_law_387 : decode cL_law 387 = .ok (.invokevirtual 57, 3) := by decide +kernel
theorem dL_law_390 : decode cL_law 390 = .ok (.aload_n 2, 1) := by decide +kernel
theorem dL_law_391 : decode cL_law 391 = .ok (.aload_n 0, 1) := by decide +kernel
theorem dL_law_392 : decode cL_law 392 = .ok (.iload_n 3, 1) := by decide +kernel
theorem dL_law_393 : decode cL_law 393 = .ok (.iconst 1, 1) := by decide +kernel
theorem dL_law_394 : decode cL_law 394 = .ok (.iadd, 1) := by decide +kernel
theorem dL_law_395 : decode cL_law 395 = .ok (.iaload, 1) := by decide +kernel
theorem dL_law_396 : decode cL_law 396 = .ok (.aload_n 0, 1) := by decide +kernel
theorem dL_law_397 : decode cL_law 397 = .ok (.iload_n 3, 1) := by decide +kernel
theorem dL_law_398 : decode cL_law 398 = .ok (.iconst 2, 1) := by decide +kernel
theorem dL_law_399 : decode cL_law 399 = .ok (.iadd, 1) := by decide +kernel
theorem dL_law_400 : decode cL_law 400 = .ok (.iaload, 1) := by decide +kernel
theorem dL_law_401 : decode cL_law 401 = .ok (.invokevirtual 60, 3) := by decide +kernel
theorem dL_law_404 : decode cL_law 404 = .ok (.if_icmp .eq 268, 3) := by decide +kernel
theorem dL_law_407 : decode cL_law 407 = .ok (.iconst 0, 1) := by decide +kernel
theorem dL_law_408 : decode cL_law 408 = .ok (.ireturn, 1) := by decide +kernel
theorem dL_law_409 : decode cL_law 409 = .ok (.aload_n 1, 1) := by decide +kernel
theorem dL_law_410 : decode cL_law 410 = .ok (.aload_n 0, 1) := by decide +kernel
theorem dL_law_411 : decode cL_law 411 = .ok (.iload_n 3, 1) := by decide +kernel
theorem dL_law_412 : decode cL_law 412 = .ok (.iconst 1, 1) := by decide +kernel
theorem dL_law_413 : decode cL_law 413 = .ok (.iadd, 1) := by decide +kernel
theorem dL_law_414 : decode cL_law 414 = .ok (.iaload, 1) := by decide +kernel
theorem dL_law_415 : decode cL_law 415 = .ok (.aload_n 0, 1) := by decide +kernel
theorem dL_law_416 : decode cL_law 416 = .ok (.iload_n 3, 1) := by decide +kernel
theorem dL_law_417 : decode cL_law 417 = .ok (.iconst 2, 1) := by decide +kernel
theorem dL_law_418 : decode cL_law 418 = .ok (.iadd, 1) := by decide +kernel
theorem dL_law_419 : decode cL_law 419 = .ok (.iaload, 1) := by decide +kernel
theorem dL_law_420 : decode cL_law 420 = .ok (.aload_n 0, 1) := by decide +kernel
theorem dL_law_421 : decode cL_law 421 = .ok (.iload_n 3, 1) := by decide +kernel
theorem dL_law_422 : decode cL_law 422 = .ok (.iconst 3, 1) := by decide +kernel
theorem dL_law_423 : decode cL_law 423 = .ok (.iadd, 1) := by decide +kernel
theorem dL_law_424 : decode cL_law 424 = .ok (.iaload, 1) := by decide +kernel
theorem dL_law_425 : decode cL_law 425 = .ok (.invokevirtual 61, 3) := by decide +kernel
theorem dL_law_428 : decode cL_law 428 = .ok (.aload_n 2, 1) := by decide +kernel
theorem dL_law_429 : decode cL_law 429 = .ok (.aload_n 0, 1) := by decide +kernel
theorem dL_law_430 : decode cL_law 430 = .ok (.iload_n 3, 1) := by decide +kernel
theorem dL_law_431 : decode cL_law 431 = .ok (.iconst 1, 1) := by decide +kernel
theorem dL_law_432 : decode cL_law 432 = .ok (.iadd, 1) := by decide +kernel
theorem dL_law_433 : decode cL_law 433 = .ok (.iaload, 1) := by decide +kernel
theorem dL_law_434 : decode cL_law 434 = .ok (.aload_n 0, 1) := by decide +kernel
theorem dL_law_435 : decode cL_law 435 = .ok (.iload_n 3, 1) := by decide +kernel
theorem dL_law_436 : decode cL_law 436 = .ok (.iconst 2, 1) := by decide +kernel
theorem dL_law_437 : decode cL_law 437 = .ok (.iadd, 1) := by decide +kernel
theorem dL_law_438 : decode cL_law 438 = .ok (.iaload, 1) := by decide +kernel
theorem dL_law_439 : decode cL_law 439 = .ok (.aload_n 0, 1) := by decide +kernel
theorem dL_law_440 : decode cL_law 440 = .ok (.iload_n 3, 1) := by decide +kernel
theorem dL_law_441 : decode cL_law 441 = .ok (.iconst 3, 1) := by decide +kernel
theorem dL_law_442 : decode cL_law 442 = .ok (.iadd, 1) := by decide +kernel
theorem dL_law_443 : decode cL_law 443 = .ok (.iaload, 1) := by decide +kernel
theorem dL_law_444 : decode cL_law 444 = .ok (.invokevirtual 64, 3) := by decide +kernel
theorem dL_law_447 : decode cL_law 447 = .ok (.if_icmp .eq 225, 3) := by decide +kernel
theorem dL_law_450 : decode cL_law 450 = .ok (.iconst 0, 1) := by decide +kernel
theorem dL_law_451 : decode cL_law 451 = .ok (.ireturn, 1) := by decide +kernel
theorem dL_law_452 : decode cL_law 452 = .ok (.aload_n 1, 1) := by decide +kernel
theorem dL_law_453 : decode cL_law 453 = .ok (.aload_n 0, 1) := by decide +kernel
theorem dL_law_454 : decode cL_law 454 = .ok (.iload_n 3, 1) := by decide +kernel
theorem dL_law_455 : decode cL_law 455 = .ok (.iconst 1, 1) := by decide +kernel
theorem dL_law_456 : decode cL_law 456 = .ok (.iadd, 1) := by decide +kernel
theorem dL_law_457 : decode cL_law 457 = .ok (.iaload, 1) := by decide +kernel
theorem dL_law_458 : decode cL_law 458 = .ok (.aload_n 0, 1) := by decide +kernel
theorem dL_law_459 : decode cL_law 459 = .ok (.iload_n 3, 1) := by decide +kernel
theorem dL_law_460 : decode cL_law 460 = .ok (.iconst 2, 1) := by decide +kernel
theorem dL_law_461 : decode cL_law 461 = .ok (.iadd, 1) := by decide +kernel
theorem dL_law_462 : decode cL_law 462 = .ok (.iaload, 1) := by decide +kernel
theorem dL_law_463 : decode cL_law 463 = .ok (.aload_n 0, 1) := by decide +kernel
theorem dL_law_464 : decode cL_law 464 = .ok (.iload_n 3, 1) := by decide +kernel
theorem dL_law_465 : decode cL_law 465 = .ok (.iconst 3, 1) := by decide +kernel
theorem dL_law_466 : decode cL_law 466 = .ok (.iadd, 1) := by decide +kernel
theorem dL_law_467 : decode cL_law 467 = .ok (.iaload, 1) := by decide +kernel
theorem dL_law_468 : decode cL_law 468 = .ok (.invokevirtual 65, 3) := by decide +kernel
theorem dL_law_471 : decode cL_law 471 = .ok (.aload_n 2, 1) := by decide +kernel
theorem dL_law_472 : decode cL_law 472 = .ok (.aload_n 0, 1) := by decide +kernel
theorem dL_law_473 : decode cL_law 473 = .ok (.iload_n 3, 1) := by decide +kernel
theorem dL_law_474 : decode cL_law 474 = .ok (.iconst 1, 1) := by decide +kernel
theorem dL_law_475 : decode cL_law 475 = .ok (.iadd, 1) := by decide +kernel
theorem dL_law_476 : decode cL_law 476 = .ok (.iaload, 1) := by decide +kernel
theorem dL_law_477 : decode cL_law 477 = .ok (.aload_n 0, 1) := by decide +kernel
theorem dL_law_478 : decode cL_law 478 = .ok (.iload_n 3, 1) := by decide +kernel
theorem dL_law_479 : decode cL_law 479 = .ok (.iconst 2, 1) := by decide +kernel
theorem dL_law_480 : decode cL_law 480 = .ok (.iadd, 1) := by decide +kernel
theorem dL_law_481 : decode cL_law 481 = .ok (.iaload, 1) := by decide +kernel
theorem dL_law_482 : decode cL_law 482 = .ok (.aload_n 0, 1) := by decide +kernel
theorem dL_law_483 : decode cL_law 483 = .ok (.iload_n 3, 1) := by decide +kernel
theorem dL_law_484 : decode cL_law 484 = .ok (.iconst 3, 1) := by decide +kernel
theorem dL_law_485 : decode cL_law 485 = .ok (.iadd, 1) := by decide +kernel
theorem dL_law_486 : decode cL_law 486 = .ok (.iaload, 1) := by decide +kernel
theorem dL_law_487 : decode cL_law 487 = .ok (.invokevirtual 68, 3) := by decide +kernel
theorem dL_law_490 : decode cL_law 490 = .ok (.if_icmp .eq 182, 3) := by decide +kernel
theorem dL_law_493 : decode cL_law 493 = .ok (.iconst 0, 1) := by decide +kernel
theorem dL_law_494 : decode cL_law 494 = .ok (.ireturn, 1) := by decide +kernel
theorem dL_law_495 : decode cL_law 495 = .ok (.aload_n 1, 1) := by decide +kernel
theorem dL_law_496 : decode cL_law 496 = .ok (.aload_n 0, 1) := by decide +kernel
theorem dL_law_497 : decode cL_law 497 = .ok (.iload_n 3, 1) := by decide +kernel
theorem dL_law_498 : decode cL_law 498 = .ok (.iconst 1, 1) := by decide +kernel
theorem dL_law_499 : decode cL_law 499 = .ok (.iadd, 1) := by decide +kernel
theorem dL_law_500 : decode cL_law 500 = .ok (.iaload, 1) := by decide +kernel
theorem dL_law_501 : decode cL_law 501 = .ok (.aload_n 0, 1) := by decide +kernel
theorem dL_law_502 : decode cL_law 502 = .ok (.iload_n 3, 1) := by decide +kernel
theorem dL_law_503 : decode cL_law 503 = .ok (.iconst 2, 1) := by decide +kernel
theorem dL_law_504 : decode cL_law 504 = .ok (.iadd, 1) := by decide +kernel
theorem dL_law_505 : decode cL_law 505 = .ok (.iaload, 1) := by decide +kernel
theorem dL_law_506 : decode cL_law 506 = .ok (.invokevirtual 69, 3) := by decide +kernel
theorem dL_law_509 : decode cL_law 509 = .ok (.aload_n 2, 1) := by decide +kernel
theorem dL_law_510 : decode cL_law 510 = .ok (.aload_n 0, 1) := by decide +kernel
theorem dL_law_511 : decode cL_law 511 = .ok (.iload_n 3, 1) := by decide +kernel
theorem dL_law_512 : decode cL_law 512 = .ok (.iconst 1, 1) := by decide +kernel
theorem dL_law_513 : decode cL_law 513 = .ok (.iadd, 1) := by decide +kernel
theorem dL_law_514 : decode cL_law 514 = .ok (.iaload, 1) := by decide +kernel
theorem dL_law_515 : decode cL_law 515 = .ok (.aload_n 0, 1) := by decide +kernel
theorem dL_law_516 : decode cL_law 516 = .ok (.iload_n 3, 1) := by decide +kernel
theorem dL_law_517 : decode cL_law 517 = .ok (.iconst 2, 1) := by decide +kernel
theorem dL_law_518 : decode cL_law 518 = .ok (.iadd, 1) := by decide +kernel
theorem dL_law_519 : decode cL_law 519 = .ok (.iaload, 1) := by decide +kernel
theorem dL_law_520 : decode cL_law 520 = .ok (.invokevirtual 72, 3) := by decide +kernel
theorem dL_law_523 : decode cL_law 523 = .ok (.if_icmp .eq 149, 3) := by decide +kernel
theorem dL_law_526 : decode cL_law 526 = .ok (.iconst 0, 1) := by decide +kernel
theorem dL_law_527 : decode cL_law 527 = .ok (.ireturn, 1) := by decide +kernel
theorem dL_law_528 : decode cL_law 528 = .ok (.aload_n 1, 1) := by decide +kernel
theorem dL_law_529 : decode cL_law 529 = .ok (.aload_n 0, 1) := by decide +kernel
theorem dL_law_530 : decode cL_law 530 = .ok (.iload_n 3, 1) := by decide +kernel
theorem dL_law_531 : decode cL_law 531 = .ok (.iconst 1, 1) := by decide +kernel
theorem dL_law_532 : decode cL_law 532 = .ok (.iadd, 1) := by decide +kernel
theorem dL_law_533 : decode cL_law 533 = .ok (.iaload, 1) := by decide +kernel
theorem dL_law_534 : decode cL_law 534 = .ok (.invokevirtual 73, 3) := by decide +kernel
theorem dL_law_537 : decode cL_law 537 = .ok (.aload_n 2, 1) := by decide +kernel
theorem dL_law_538 : decode cL_law 538 = .ok (.aload_n 0, 1) := by decide +kernel
theorem dL_law_539 : decode cL_law 539 = .ok (.iload_n 3, 1) := by decide +kernel
theorem dL_law_540 : decode cL_law 540 = .ok (.iconst 1, 1) := by decide +kernel
theorem dL_law_541 : decode cL_law 541 = .ok (.iadd, 1) := by decide +kernel
theorem dL_law_542 : decode cL_law 542 = .ok (.iaload, 1) := by decide +kernel
theorem dL_law_543 : decode cL_law 543 = .ok (.invokevirtual 76, 3) := by decide +kernel
theorem dL_law_546 : decode cL_law 546 = .ok (.if_icmp .eq 126, 3) := by decide +kernel
theorem dL_law_549 : decode cL_law 549 = .ok (.iconst 0, 1) := by decide +kernel
theorem dL_law_550 : decode cL_law 550 = .ok (.ireturn, 1) := by decide +kernel
theorem dL_law_551 : decode cL_law 551 = .ok (.aload_n 1, 1) := by decide +kernel
theorem dL_law_552 : decode cL_law 552 = .ok (.aload_n 0, 1) := by decide +kernel
theorem dL_law_553 : decode cL_law 553 = .ok (.iload_n 3, 1) := by decide +kernel
theorem dL_law_554 : decode cL_law 554 = .ok (.iconst 1, 1) := by decide +kernel
theorem dL_law_555 : decode cL_law 555 = .ok (.iadd, 1) := by decide +kernel
theorem dL_law_556 : decode cL_law 556 = .ok (.iaload, 1) := by decide +kernel
theorem dL_law_557 : decode cL_law 557 = .ok (.invokevirtual 77, 3) := by decide +kernel
theorem dL_law_560 : decode cL_law 560 = .ok (.aload_n 2, 1) := by decide +kernel
theorem dL_law_561 : decode cL_law 561 = .ok (.aload_n 0, 1) := by decide +kernel
theorem dL_law_562 : decode cL_law 562 = .ok (.iload_n 3, 1) := by decide +kernel
theorem dL_law_563 : decode cL_law 563 = .ok (.iconst 1, 1) := by decide +kernel
theorem dL_law_564 : decode cL_law 564 = .ok (.iadd, 1) := by decide +kernel
theorem dL_law_565 : decode cL_law 565 = .ok (.iaload, 1) := by decide +kernel
theorem dL_law_566 : decode cL_law 566 = .ok (.invokevirtual 80, 3) := by decide +kernel
theorem dL_law_569 : decode cL_law 569 = .ok (.if_icmp .eq 103, 3) := by decide +kernel
theorem dL_law_572 : decode cL_law 572 = .ok (.iconst 0, 1) := by decide +kernel
theorem dL_law_573 : decode cL_law 573 = .ok (.ireturn, 1) := by decide +kernel
theorem dL_law_574 : decode cL_law 574 = .ok (.aload_n 1, 1) := by decide +kernel
theorem dL_law_575 : decode cL_law 575 = .ok (.invokevirtual 81, 3) := by decide +kernel
theorem dL_law_578 : decode cL_law 578 = .ok (.aload_n 2, 1) := by decide +kernel
theorem dL_law_579 : decode cL_law 579 = .ok (.invokevirtual 84, 3) := by decide +kernel
theorem dL_law_582 : decode cL_law 582 = .ok (.if_icmp .eq 90, 3) := by decide +kernel
theorem dL_law_585 : decode cL_law 585 = .ok (.iconst 0, 1) := by decide +kernel
theorem dL_law_586 : decode cL_law 586 = .ok (.ireturn, 1) := by decide +kernel
theorem dL_law_587 : decode cL_law 587 = .ok (.aload_n 1, 1) := by decide +kernel
theorem dL_law_588 : decode cL_law 588 = .ok (.invokevirtual 85, 3) := by decide +kernel
theorem dL_law_591 : decode cL_law 591 = .ok (.aload_n 2, 1) := by decide +kernel
theorem dL_law_592 : decode cL_law 592 = .ok (.invokevirtual 88, 3) := by decide +kernel
theorem dL_law_595 : decode cL_law 595 = .ok (.if_icmp .eq 77, 3) := by decide +kernel
theorem dL_law_598 : decode cL_law 598 = .ok (.iconst 0, 1) := by decide +kernel
theorem dL_law_599 : decode cL_law 599 = .ok (.ireturn, 1) := by decide +kernel
theorem dL_law_600 : decode cL_law 600 = .ok (.aload_n 1, 1) := by decide +kernel
theorem dL_law_601 : decode cL_law 601 = .ok (.aload_n 0, 1) := by decide +kernel
theorem dL_law_602 : decode cL_law 602 = .ok (.iload_n 3, 1) := by decide +kernel
theorem dL_law_603 : decode cL_law 603 = .ok (.iconst 1, 1) := by decide +kernel
theorem dL_law_604 : decode cL_law 604 = .ok (.iadd, 1) := by decide +kernel
theorem dL_law_605 : decode cL_law 605 = .ok (.iaload, 1) := by decide +kernel
theorem dL_law_606 : decode cL_law 606 = .ok (.invokevirtual 89, 3) := by decide +kernel
theorem dL_law_609 : decode cL_law 609 = .ok (.aload_n 2, 1) := by decide +kernel
theorem dL_law_610 : decode cL_law 610 = .ok (.aload_n 0, 1) := by decide +kernel
theorem dL_law_611 : decode cL_law 611 = .ok (.iload_n 3, 1) := by decide +kernel
theorem dL_law_612 : decode cL_law 612 = .ok (.iconst 1, 1) := by decide +kernel
theorem dL_law_613 : decode cL_law 613 = .ok (.iadd, 1) := by decide +kernel
theorem dL_law_614 : decode cL_law 614 = .ok (.iaload, 1) := by decide +kernel
theorem dL_law_615 : decode cL_law 615 = .ok (.invokevirtual 92, 3) := by decide +kernel
theorem dL_law_618 : decode cL_law 618 = .ok (.if_icmp .eq 54, 3) := by decide +kernel
theorem dL_law_621 : decode cL_law 621 = .ok (.iconst 0, 1) := by decide +kernel
theorem dL_law_622 : decode cL_law 622 = .ok (.ireturn, 1) := by decide +kernel
theorem dL_law_623 : decode cL_law 623 = .ok (.aload_n 1, 1) := by decide +kernel
theorem dL_law_624 : decode cL_law 624 = .ok (.invokevirtual 93, 3) := by decide +kernel
theorem dL_law_627 : decode cL_law 627 = .ok (.aload_n 2, 1) := by decide +kernel
theorem dL_law_628 : decode cL_law 628 = .ok (.invokevirtual 96, 3) := by decide +kernel
theorem dL_law_631 : decode cL_law 631 = .ok (.if_icmp .eq 41, 3) := by decide +kernel
theorem dL_law_634 : decode cL_law 634 = .ok (.iconst 0, 1) := by decide +kernel
theorem dL_law_635 : decode cL_law 635 = .ok (.ireturn, 1) := by decide +kernel
theorem dL_law_636 : decode cL_law 636 = .ok (.aload_n 1, 1) := by decide +kernel
theorem dL_law_637 : decode cL_law 637 = .ok (.aload_n 0, 1) := by decide +kernel
theorem dL_law_638 : decode cL_law 638 = .ok (.iload_n 3, 1) := by decide +kernel
theorem dL_law_639 : decode cL_law 639 = .ok (.iconst 1, 1) := by decide +kernel
theorem dL_law_640 : decode cL_law 640 = .ok (.iadd, 1) := by decide +kernel
theorem dL_law_641 : decode cL_law 641 = .ok (.iaload, 1) := by decide +kernel
theorem dL_law_642 : decode cL_law 642 = .ok (.invokevirtual 97, 3) := by decide +kernel
theorem dL_law_645 : decode cL_law 645 = .ok (.aload_n 2, 1) := by decide +kernel
theorem dL_law_646 : decode cL_law 646 = .ok (.aload_n 0, 1) := by decide +kernel
theorem dL_law_647 : decode cL_law 647 = .ok (.iload_n 3, 1) := by decide +kernel
theorem dL_law_648 : decode cL_law 648 = .ok (.iconst 1, 1) := by decide +kernel
theorem dL_law_649 : decode cL_law 649 = .ok (.iadd, 1) := by decide +kernel
theorem dL_law_650 : decode cL_law 650 = .ok (.iaload, 1) := by decide +kernel
theorem dL_law_651 : decode cL_law 651 = .ok (.invokevirtual 100, 3) := by decide +kernel
theorem dL_law_654 : decode cL_law 654 = .ok (.if_icmp .eq 18, 3) := by decide +kernel
theorem dL_law_657 : decode cL_law 657 = .ok (.iconst 0, 1) := by decide +kernel
theorem dL_law_658 : decode cL_law 658 = .ok (.ireturn, 1) := by decide +kernel
theorem dL_law_659 : decode cL_law 659 = .ok (.aload_n 1, 1) := by decide +kernel
theorem dL_law_660 : decode cL_law 660 = .ok (.invokevirtual 101, 3) := by decide +kernel
theorem dL_law_663 : decode cL_law 663 = .ok (.aload_n 2, 1) := by decide +kernel
theorem dL_law_664 : decode cL_law 664 = .ok (.invokevirtual 104, 3) := by decide +kernel
theorem dL_law_667 : decode cL_law 667 = .ok (.if_icmp .eq 5, 3) := by decide +kernel
theorem dL_law_670 : decode cL_law 670 = .ok (.iconst 0, 1) := by decide +kernel
theorem dL_law_671 : decode cL_law 671 = .ok (.ireturn, 1) := by decide +kernel
theorem dL_law_672 : decode cL_law 672 = .ok (.iinc 3 4, 3) := by decide +kernel
theorem dL_law_675 : decode cL_law 675 = .ok (.goto (-657), 3) := by decide +kernel
theorem dL_law_678 : decode cL_law 678 = .ok (.iconst 1, 1) := by decide +kernel
theorem dL_law_679 : decode cL_law 679 = .ok (.ireturn, 1) := by decide +kernel
end
section
/-! THE ABSTRACT MACHINE: values are whole numbers or numbers of objects; a heap is two functions; AW is W over it -/
abbrev AV : Type := Int ⊕ Option Nat
abbrev aI (z : Int) : AV := .inl z
abbrev aR (a : Nat) : AV := .inr (some a)
abbrev aN : AV := .inr none
abbrev HI : Type := Nat → Nat → Int
abbrev HR : Type := Nat → Nat → Option Nat
/-- H0, launch, addresses of the six arrays that were there before, what they hold, their lengths, class ids, slots, int[], State[] -/
abbrev ET : Type := Heap × Launch × (Nat → Nat) × (Nat → Nat → Int) × (Nat → Nat) × (Nat → ClassId) × (Nat → Nat → Nat) × ClassId × ClassId
abbrev eH (E : ET) : Heap := E.1
abbrev eL (E : ET) : Launch := E.2.1
abbrev eSa (E : ET) : Nat → Nat := E.2.2.1
abbrev eX (E : ET) : Nat → Nat → Int := E.2.2.2.1
abbrev eN (E : ET) : Nat → Nat := E.2.2.2.2.1
abbrev eC (E : ET) : Nat → ClassId := E.2.2.2.2.2.1
abbrev eI (E : ET) : Nat → Nat → Nat := E.2.2.2.2.2.2.1
abbrev eA (E : ET) : ClassId := E.2.2.2.2.2.2.2.1
abbrev eS (E : ET) : ClassId := E.2.2.2.2.2.2.2.2
abbrev eB (E : ET) : Nat := (eH E).size
/-- a method: name, code, locals, answer, frames, words of locals, new cells, new slots -/
abbrev MT : Type := MethodName × ByteArray × Nat × Option FieldType × Nat × Nat × Nat × Nat
abbrev mY (M : MT) : MethodName := M.1
abbrev mC (M : MT) : ByteArray := M.2.1
abbrev mL (M : MT) : Nat := M.2.2.1
abbrev mT (M : MT) : Option FieldType := M.2.2.2.1
abbrev mF (M : MT) : Nat := M.2.2.2.2.1
abbrev mO (M : MT) : Nat := M.2.2.2.2.2.1
abbrev mMc (M : MT) : Nat := M.2.2.2.2.2.2.1
abbrev mMs (M : MT) : Nat := M.2.2.2.2.2.2.2
abbrev mR (M : MT) : Room := { frames := mF M, cells := mMc M, slots := mMs M, locals := mO M }
def ad (E : ET) (a : Nat) : Nat := if a < 1000 then eB E + a else eSa E (a - 1000)
def cv (E : ET) (v : AV) : Value := match v with
  | .inl z => .int (Int32.ofInt z)
  | .inr none => .null
  | .inr (some a) => .ref (ad E a)
theorem cv_i (E : ET) (z : Int) : cv E (aI z) = .int (Int32.ofInt z) := rfl
theorem cv_r (E : ET) (a : Nat) : cv E (aR a) = .ref (ad E a) := rfl
/-- which fields hold references -/
def frf (c j : Nat) : Bool := (c == 0 && j < 4) || (c == 1 && j == 0) || (c == 2 && j < 4) || (c == 4 && j < 8) || (c == 6 && j == 0) || (c == 8 && j < 5) || (c == 9 && (j < 3 || j == 4 || j == 6))
def shSt : List (Nat × Nat) := [(4, 11), (0, 4), (10, 48), (10, 48), (10, 48), (10, 48), (2, 5), (10, 8), (10, 8), (10, 8), (10, 8), (7, 8), (5, 7), (10, 4), (10, 8), (10, 2), (10, 12)]
/-- the objects in the order of their making: kind (a class, 10 int[], 11 State[]), length -/
def shL : List (Nat × Nat) := (8, 5) :: (shSt ++ (shSt ++ ((1, 2) :: (11, 5) :: (shSt ++ (shSt ++ (shSt ++ (shSt ++ (shSt ++ [(6, 6), (10, 60), (3, 5), (9, 11), (10, 256), (10, 256), (10, 1024), (10, 60), (10, 12)]))))))))
def sh (a : Nat) : Nat × Nat := shL.getD a (12, 0)
theorem shL_len : shL.length = 131 := by decide +kernel
def fv (E : ET) (c : Nat) (hi : HI) (hr : HR) (k j : Nat) : Value := if frf c j then cv E (.inr (hr k j)) else cv E (.inl (hi k j))
def cellOK (E : ET) (hi : HI) (hr : HR) (k : Nat) (H : Heap) : Prop :=
  ((sh k).1 < 10 → t_OB (eB E + k) (eC E (sh k).1) (sh k).2 (eI E (sh k).1) H (fun j => fv E (sh k).1 hi hr k j)) ∧
  ((sh k).1 = 10 → H[eB E + k]? = some (arrV (eA E) (sh k).2 (fun j => cv E (.inl (hi k j))))) ∧
  ((sh k).1 = 11 → H[eB E + k]? = some (arrV (eS E) (sh k).2 (fun j => cv E (.inr (hr k j)))))
def CC (E : ET) (hi : HI) (hr : HR) (n : Nat) (H : Heap) : Prop :=
  H.size = eB E + n ∧ n ≤ 131 ∧ (∀ q : Nat, q < eB E → H[q]? = (eH E)[q]?) ∧ (∀ k : Nat, k < n → cellOK E hi hr k H) ∧ (∀ i : Nat, i < 6 → ∀ j : Nat, hi (1000 + i) j = eX E i j) ∧ (∀ k : Nat, n ≤ k → k < 1000 → ∀ j : Nat, hi k j = 0 ∧ hr k j = none)
/-- the tables' words that a call carries on -/
def okW : Cond → Bool
  | .fieldLinkNest .. => true
  | .methodLinkNest .. => true
  | .arrayClass .. => true
  | w => w.onTables && w.keeps
def stn (i : Nat) : String := match i with
  | 0 => "SETTING_FIRST"
  | 1 => "WORDLINE"
  | 2 => "LATE"
  | 3 => "SETTING_LEAST"
  | _ => "SETTING_MOST"
def KE (E : ET) (U : State) : Prop :=
  (∀ w ∈ lw_tbl, okW w = true → ∀ a : Array Value, w.before a U = true) ∧ (∀ (c : Nat) (q : vw_C), vwCl[c]? = some q → u_Kn U q.1 q.2.1 q.2.2 (eC E c) (eI E c)) ∧
  (ArrOfT U (eA E) .int ∧ va_RA U (eA E) .int) ∧ (ArrOfT U (eS E) (.object "PagePairs$State") ∧ va_RA U (eS E) (.object "PagePairs$State")) ∧
  (∀ i : Nat, i < 6 → va_X (eSa E i) (eN E i) (fun j => Int32.ofInt (eX E i j)) U (eH E) ∧ eSa E i < eB E) ∧
  (∀ i : Nat, i < 5 → va_Z "PagePairs" (stn i) "[I" (.ref (eSa E i)) (fun q => eB E ≤ q) U (eH E)) ∧ va_AO "PagePairs$State" U
theorem okW_warm {w : Cond} (h : okW w = true) {s U : State} (hW : s.WarmedH U.vm) (hs : ∀ a : Array Value, w.before a s = true) : ∀ a : Array Value, w.before a U = true := by
  intro a
  by_cases h1 : (w.onTables && w.keeps) = true
  · exact word_at hW (Or.inl h1) (hs a)
  · cases w <;> first
      | exact word_at hW (Or.inr ⟨_, rfl⟩) (hs a)
      | exact va_Nw.use rfl (va_Nw.warmF hW (hs #[]))
      | exact va_Nw.use rfl (va_Nw.warmM hW (hs #[]))
      | exact absurd h h1
theorem okW_same {w : Cond} (h : okW w = true) {s U : State} (hv : s.vm = U.vm) (hs : ∀ a : Array Value, w.before a s = true) : ∀ a : Array Value, w.before a U = true :=
  okW_warm h (by rw [← hv]; exact State.WarmedH.refl s) hs
theorem KE.warm {E : ET} {s U : State} (hW : s.WarmedH U.vm) (h : KE E s) : KE E U := by
  obtain ⟨h1, h2, h3, h4, h5, h6, h7⟩ := h
  refine ⟨fun w hw hk => okW_warm hk hW (h1 w hw hk), fun c q hq => u_Kn_moved hW.alike (h2 c q hq), ⟨arrOfT_moved hW.alike h3.1, h3.2.moved hW.alike⟩, ⟨arrOfT_moved hW.alike h4.1, h4.2.moved hW.alike⟩, fun i hi => ⟨(h5 i hi).1.moved hW.alike, (h5 i hi).2⟩, fun i hi => (h6 i hi).moved hW.alike, va_AO.moved hW.alike h7⟩
theorem KE.same {E : ET} {s U : State} (hv : s.vm = U.vm) (h : KE E s) : KE E U := h.warm (by rw [← hv]; exact State.WarmedH.refl s)
theorem KE.w {E : ET} {s : State} (h : KE E s) {w : Cond} (hw : w ∈ lw_tbl) (hk : okW w = true) (a : Array Value) : w.before a s = true := h.1 w hw hk a
theorem mem_tb {w : Cond} (h : w ∈ tables_1) : w ∈ lw_tbl := List.mem_append_right _ h
theorem mem_sel {w : Cond} (h : w ∈ k2_sels lw_privs) : w ∈ lw_tbl := List.mem_append_left _ h
/-- the locals: what is said of each -/
def LR (E : ET) (nL : Nat) (ls : List (Option AV)) (lsA : Array Slot) : Prop := lsA.size = nL ∧ ls.length = nL ∧ lv_wf lsA ∧ ∀ (i : Nat) (v : AV), ls[i]? = some (some v) → lsA[i]? = some (.val (cv E v))
def QA (E : ET) (Q : Option AV → HI → HR → Nat → Prop) : Array Value → State → Outcome → State → Prop := fun _ _ o t => ∃ (r : Option AV) (hi : HI) (hr : HR) (n : Nat), o = .returned (r.map (cv E)) ∧ Q r hi hr n ∧ CC E hi hr n t.heap
def fr (E : ET) : Nat → Prop := fun q => eB E ≤ q
def Cx (E : ET) (M : MT) (p : Program) (s : State) (m : MethodId) (meth : Method) (c : Code) : Prop :=
  p.tables.exec = Jvm.exec ∧ c.code = mC M ∧ c.maxLocals = mL M ∧ meth.sig.returnType = mT M ∧ meth.locks = false ∧ s.vm.findClass (mY M).cls = some m.cls ∧ meth.name = (mY M).name ∧ KE E s
abbrev QT : Type := Option AV → HI → HR → Nat → Prop
/-- THE JUDGEMENT: method M at pc, with these locals, this stack, this heap, comes to an end with Q -/
def AW (E : ET) (M : MT) (cu su pc : Nat) (ls : List (Option AV)) (st : List AV) (hi : HI) (hr : HR) (n : Nat) (Q : QT) : Prop :=
  ∀ (p : Program) (e : Env) (s : State) (m : MethodId) (args : Array Value) (below : List Frame) (meth : Method) (c : Code) (H : Heap) (locs : List Loc) (lsA : Array Slot),
    Cx E M p s m meth c → CC E hi hr n H → (∀ q ∈ locs, fr E q.base) → LR E (mL M) ls lsA →
    W p (eL E) e (mR M) s m args below meth c H locs cu su (MQ below (QA E Q) args s (mMc M) (mMs M) (fr E)) (F0 m pc lsA (st.map (cv E)))
/-- a method's contract -/
def AMet (E : ET) (M : MT) (as : List AV) (hi : HI) (hr : HR) (n : Nat) (Q : QT) : Prop :=
  Met (eL E) (mY M) [Cond.code (mY M) (mC M) (mL M) (mT M)] (mR M) (fun v U => v = (as.map (cv E)).toArray ∧ CC E hi hr n U.heap ∧ KE E U) (QA E Q) (mMc M) (mMs M) (fr E)
/-- the locals at the entry -/
def ent (as : List AV) (nL : Nat) : List (Option AV) := as.map some ++ List.replicate (nL - as.length) none
theorem lv_args_get (vs : List Value) (hc : ∀ v ∈ vs, v.category = 1) : ∀ (k i : Nat) (v : Value), vs[i]? = some v → (k + i, v) ∈ lv_args k vs := by
  induction vs with
  | nil => intro k i v h; simp at h
  | cons a t ih =>
    intro k i v h
    have ha : ¬ a.category = 2 := by have := hc a List.mem_cons_self; omega
    cases i with
    | zero => simp at h; subst h; simp [lv_args]
    | succ i =>
      have := ih (fun v hv => hc v (List.mem_cons_of_mem _ hv)) (k + 1) i v (by simpa using h)
      simp only [lv_args, ha, if_false]
      refine List.mem_cons_of_mem _ ?_
      rw [show k + (i + 1) = k + 1 + i by omega]
      exact this
theorem cv_cat (E : ET) (v : AV) : (cv E v).category = 1 := by
  rcases v with z | _ | a <;> rfl
theorem lg_sl_len (E : ET) (as : List AV) : (lg_sl (as.map (cv E))).length = as.length := by
  induction as with
  | nil => rfl
  | cons a t ih =>
    rw [List.map_cons, List.length_cons, ← ih]
    rcases a with z | _ | a <;> simp [lg_sl, cv, Value.category]
theorem am_of {E : ET} {M : MT} {as : List AV} {hi : HI} {hr : HR} {n : Nat} {Q : QT} (hy : plainName (mY M).cls = true) (hlen : as.length ≤ mL M)
    (k : AW E M 0 0 0 (ent as (mL M)) [] hi hr n Q) : AMet E M as hi hr n Q := by
  refine Met.ofW (cc := mC M) (maxL := mL M) (ret := mT M) hy rfl ?_
  intro p e s m args below meth c s₁ B hml hv
  obtain ⟨rfl, hC, hK⟩ := hv
  have hown : s.vm.findClass (mY M).cls = some m.cls := findClass_of_methodNamed B.named
  have hn := (name_of_methodNamed B.named B.method).1
  have hl := lv_entry (as.map (cv E)) (n := mL M) (by rw [lg_sl_len]; exact hlen)
  rw [lg_entry_eq]
  refine k p e s m _ below meth c s.heap [] _ ⟨B.exec, B.bytes, hml, B.returns, B.notSynchronized, hown, hn, hK⟩ hC (fun q h => by cases h) ⟨hl.1, by simp [ent]; omega, hl.2.1, fun i v h => ?_⟩
  have h0 : i < as.length := by
    by_cases hlt : i < as.length
    · exact hlt
    · exfalso
      unfold ent at h
      rw [List.getElem?_append_right (by simp; omega)] at h
      have := List.getElem?_eq_some_iff.mp h
      obtain ⟨h1, h2⟩ := this
      rw [List.getElem_replicate] at h2
      cases h2
  have h1 : as[i]? = some v := by
    unfold ent at h
    rw [List.getElem?_append_left (by simpa using h0), List.getElem?_map] at h
    cases hh : as[i]? with
    | none => rw [hh] at h; cases h
    | some w => rw [hh] at h; simpa using h
  have h2 : (as.map (cv E))[i]? = some (cv E v) := by rw [List.getElem?_map, h1]; rfl
  have h3 := lv_args_get (as.map (cv E)) (fun v hv => by obtain ⟨w, -, rfl⟩ := List.mem_map.mp hv; exact cv_cat E w) 0 i _ h2
  have h4 := hl.2.2 _ h3
  simpa using h4
end
section
def InR (x : Int) : Prop := -2147483648 ≤ x ∧ x < 2147483648
theorem oi_toInt {x : Int} (h : InR x) : (Int32.ofInt x).toInt = x := by
  exact Int32.toInt_ofInt_of_le (by have := h.1; omega) (by have := h.2; omega)
theorem oi_eq {x y : Int} (hx : InR x) (hy : InR y) : Int32.ofInt x = Int32.ofInt y ↔ x = y :=
  ⟨fun h => by have := congrArg Int32.toInt h; rwa [oi_toInt hx, oi_toInt hy] at this, fun h => by rw [h]⟩
theorem oi_lt {x y : Int} (hx : InR x) (hy : InR y) : Int32.ofInt x < Int32.ofInt y ↔ x < y := by
  rw [Int32.lt_iff_toInt_lt, oi_toInt hx, oi_toInt hy]
theorem oi_le {x y : Int} (hx : InR x) (hy : InR y) : Int32.ofInt x ≤ Int32.ofInt y ↔ x ≤ y := by
  rw [Int32.le_iff_toInt_le, oi_toInt hx, oi_toInt hy]
theorem InR_0 : InR 0 := ⟨by decide, by decide⟩
theorem oi_add (x y : Int) : Int32.ofInt x + Int32.ofInt y = Int32.ofInt (x + y) := (Int32.ofInt_add x y).symm
theorem oi_sub (x y : Int) : Int32.ofInt x - Int32.ofInt y = Int32.ofInt (x - y) := (Int32.ofInt_sub x y).symm
theorem oi_mul (x y : Int) : Int32.ofInt x * Int32.ofInt y = Int32.ofInt (x * y) := (Int32.ofInt_mul x y).symm
theorem oi_nI (n : Nat) : Int32.ofInt (n : Int) = nI n := by
  unfold nI
  first | rfl | exact Int32.ofInt_natCast n | simp
theorem oi_div {x y : Int} (h0 : 0 ≤ x) (hx : InR x) (h1 : 0 < y) (hy : InR y) : Int32.ofInt x / Int32.ofInt y = Int32.ofInt (x / y) := by
  obtain ⟨a, rfl⟩ := Int.eq_ofNat_of_zero_le h0
  obtain ⟨b, rfl⟩ := Int.eq_ofNat_of_zero_le (Int.le_of_lt h1)
  have e : ((a : Int) / (b : Int)) = ((a / b : Nat) : Int) := rfl
  rw [e, oi_nI, oi_nI, oi_nI]
  exact pk_div (by have := hx.2; omega) (by omega) (by have := hy.2; omega)
theorem oi_rem {x y : Int} (h0 : 0 ≤ x) (hx : InR x) (h1 : 0 < y) (hy : InR y) : Int32.ofInt x - Int32.ofInt x / Int32.ofInt y * Int32.ofInt y = Int32.ofInt (x % y) := by
  obtain ⟨a, rfl⟩ := Int.eq_ofNat_of_zero_le h0
  obtain ⟨b, rfl⟩ := Int.eq_ofNat_of_zero_le (Int.le_of_lt h1)
  have e : ((a : Int) % (b : Int)) = ((a % b : Nat) : Int) := rfl
  rw [e, oi_nI, oi_nI, oi_nI]
  exact pk_rem (by have := hx.2; omega) (by omega) (by have := hy.2; omega)
theorem oi_ne0 {y : Int} (h1 : 0 < y) (hy : InR y) : ¬ Int32.ofInt y = 0 := by
  rw [show (0 : Int32) = Int32.ofInt 0 from rfl, oi_eq hy InR_0]; omega
theorem nI_bv (a : Nat) : (nI a).toBitVec = BitVec.ofNat 32 a := by
  unfold nI
  first | rfl | simp
theorem nI_land (a b : Nat) : nI a &&& nI b = nI (a &&& b) := by
  apply Int32.toBitVec_inj.mp
  rw [Int32.toBitVec_and, nI_bv, nI_bv, nI_bv]
  apply BitVec.eq_of_toNat_eq
  simp [BitVec.toNat_and, Nat.and_mod_two_pow]
theorem nI_lor (a b : Nat) : nI a ||| nI b = nI (a ||| b) := by
  apply Int32.toBitVec_inj.mp
  rw [Int32.toBitVec_or, nI_bv, nI_bv, nI_bv]
  apply BitVec.eq_of_toNat_eq
  simp [BitVec.toNat_or, Nat.or_mod_two_pow]
/-- the locals as a list of pairs -/
def prs (E : ET) (ls : List (Option AV)) : List (Nat × Value) := (List.range ls.length).filterMap (fun i => match ls[i]? with | some (some v) => some (i, cv E v) | _ => none)
theorem prs_mem {E : ET} {ls : List (Option AV)} {q : Nat × Value} : q ∈ prs E ls ↔ ∃ v, ls[q.1]? = some (some v) ∧ q.2 = cv E v := by
  unfold prs
  rw [List.mem_filterMap]
  constructor
  · rintro ⟨i, hi, h⟩
    cases hl : ls[i]? with
    | none => rw [hl] at h; cases h
    | some w =>
      cases w with
      | none => rw [hl] at h; cases h
      | some v =>
        rw [hl] at h
        cases h
        exact ⟨v, hl, rfl⟩
  · rintro ⟨v, hv, h⟩
    refine ⟨q.1, List.mem_range.mpr (List.getElem?_eq_some_iff.mp hv).1, ?_⟩
    rw [hv]
    simp [← h]
theorem lr_has {E : ET} {nL : Nat} {ls : List (Option AV)} {lsA : Array Slot} (h : LR E nL ls lsA) : lv_has lsA nL (prs E ls) := by
  refine ⟨h.1, h.2.2.1, fun q hq => ?_⟩
  obtain ⟨v, h1, h2⟩ := prs_mem.mp hq
  rw [h2]
  exact h.2.2.2 _ _ h1
theorem lr_set {E : ET} {nL i : Nat} {ls : List (Option AV)} {lsA ls2 : Array Slot} {v : AV} (h : LR E nL ls lsA) (hi : i < nL) (h2 : lv_has ls2 nL ((i, cv E v) :: (prs E ls).filter (fun q => !(q.1 == i) && !(q.1 + 1 == i && q.2.category == 2)))) : LR E nL (ls.set i (some v)) ls2 := by
  refine ⟨h2.1, by rw [List.length_set]; exact h.2.1, h2.2.1, fun j w hj => ?_⟩
  by_cases e : j = i
  · subst e
    rw [List.getElem?_set_self (by rw [h.2.1]; exact hi)] at hj
    cases hj
    exact h2.2.2 (j, cv E v) List.mem_cons_self
  · rw [List.getElem?_set_ne (fun q => e q.symm)] at hj
    refine h2.2.2 (j, cv E w) (List.mem_cons_of_mem _ (List.mem_filter.mpr ⟨prs_mem.mpr ⟨w, hj, rfl⟩, ?_⟩))
    simp [e, cv_cat]
/-- fewer locals -/
theorem lr_fewer {E : ET} {nL : Nat} {ls ls' : List (Option AV)} {lsA : Array Slot} (h : LR E nL ls lsA) (hl : ls'.length = ls.length) (hs : ∀ (i : Nat) (v : AV), ls'[i]? = some (some v) → ls[i]? = some (some v)) : LR E nL ls' lsA :=
  ⟨h.1, hl.trans h.2.1, h.2.2.1, fun i v hi => h.2.2.2 i v (hs i v hi)⟩
section AROWS
variable {E : ET} {M : MT} {cu su pc : Nat} {ls : List (Option AV)} {st : List AV} {hi : HI} {hr : HR} {n : Nat} {Q : QT}
theorem aw_iconst {v : Int} (hd : decode (mC M) pc = .ok (.iconst v, 1)) (k : AW E M cu su (pc + 1) ls (aI v :: st) hi hr n Q) : AW E M cu su pc ls (st) hi hr n Q := by
  intro p e s m args below meth c H locs lsA C hC hL hR
  exact lv_iconst C.1 C.2.1 hd rfl (k p e s m args below meth c H locs lsA C hC hL hR)
theorem aw_bipush {v : Int} (hd : decode (mC M) pc = .ok (.bipush v, 2)) (hv : (Int8.ofInt v).toInt32 = Int32.ofInt v) (k : AW E M cu su (pc + 2) ls (aI v :: st) hi hr n Q) : AW E M cu su pc ls (st) hi hr n Q := by
  intro p e s m args below meth c H locs lsA C hC hL hR
  exact lv_bipush C.1 C.2.1 hd hv (k p e s m args below meth c H locs lsA C hC hL hR)
theorem aw_sipush {v : Int} (hd : decode (mC M) pc = .ok (.sipush v, 3)) (hv : (Int16.ofInt v).toInt32 = Int32.ofInt v) (k : AW E M cu su (pc + 3) ls (aI v :: st) hi hr n Q) : AW E M cu su pc ls (st) hi hr n Q := by
  intro p e s m args below meth c H locs lsA C hC hL hR
  exact lv_sipush C.1 C.2.1 hd hv (k p e s m args below meth c H locs lsA C hC hL hR)
theorem aw_null (hd : decode (mC M) pc = .ok (.aconst_null, 1)) (k : AW E M cu su (pc + 1) ls (aN :: st) hi hr n Q) : AW E M cu su pc ls (st) hi hr n Q := by
  intro p e s m args below meth c H locs lsA C hC hL hR
  exact lv_null C.1 C.2.1 hd (k p e s m args below meth c H locs lsA C hC hL hR)
theorem aw_iload_n {i : Fin 4} {x : Int} (hd : decode (mC M) pc = .ok (.iload_n i, 1)) (hl : ls[(i : Nat)]? = some (some (aI x))) (k : AW E M cu su (pc + 1) ls (aI x :: st) hi hr n Q) : AW E M cu su pc ls (st) hi hr n Q := by
  intro p e s m args below meth c H locs lsA C hC hL hR
  exact lv_iload_n C.1 C.2.1 hd rfl (hR.2.2.2 _ _ hl) (k p e s m args below meth c H locs lsA C hC hL hR)
theorem aw_iload {i : Nat} {x : Int} (hd : decode (mC M) pc = .ok (.iload i, 2)) (hl : ls[i]? = some (some (aI x))) (k : AW E M cu su (pc + 2) ls (aI x :: st) hi hr n Q) : AW E M cu su pc ls (st) hi hr n Q := by
  intro p e s m args below meth c H locs lsA C hC hL hR
  exact lv_iload C.1 C.2.1 hd (hR.2.2.2 _ _ hl) (k p e s m args below meth c H locs lsA C hC hL hR)
theorem aw_istore_n {i : Fin 4} {x : Int} {ls2 : List (Option AV)} (hd : decode (mC M) pc = .ok (.istore_n i, 1)) (hi2 : (i : Nat) < mL M) (hs : ls.set (i : Nat) (some (aI x)) = ls2) (k : AW E M cu su (pc + 1) ls2 (st) hi hr n Q) : AW E M cu su pc ls (aI x :: st) hi hr n Q := by
  intro p e s m args below meth c H locs lsA C hC hL hR
  exact lv_istore_n C.1 C.2.1 hd rfl (lr_has hR) hi2 rfl (fun ls2 h2 => k p e s m args below meth c H locs ls2 C hC hL (hs ▸ lr_set hR hi2 h2))
theorem aw_istore {i : Nat} {x : Int} {ls2 : List (Option AV)} (hd : decode (mC M) pc = .ok (.istore i, 2)) (hi2 : i < mL M) (hs : ls.set i (some (aI x)) = ls2) (k : AW E M cu su (pc + 2) ls2 (st) hi hr n Q) : AW E M cu su pc ls (aI x :: st) hi hr n Q := by
  intro p e s m args below meth c H locs lsA C hC hL hR
  exact lv_istore C.1 C.2.1 hd (lr_has hR) hi2 rfl (fun ls2 h2 => k p e s m args below meth c H locs ls2 C hC hL (hs ▸ lr_set hR hi2 h2))
theorem aw_aload_n {i : Fin 4} {x : Nat} (hd : decode (mC M) pc = .ok (.aload_n i, 1)) (hl : ls[(i : Nat)]? = some (some (aR x))) (k : AW E M cu su (pc + 1) ls (aR x :: st) hi hr n Q) : AW E M cu su pc ls (st) hi hr n Q := by
  intro p e s m args below meth c H locs lsA C hC hL hR
  exact lv_aload_n C.1 C.2.1 hd rfl (hR.2.2.2 _ _ hl) (k p e s m args below meth c H locs lsA C hC hL hR)
theorem aw_aload {i : Nat} {x : Nat} (hd : decode (mC M) pc = .ok (.aload i, 2)) (hl : ls[i]? = some (some (aR x))) (k : AW E M cu su (pc + 2) ls (aR x :: st) hi hr n Q) : AW E M cu su pc ls (st) hi hr n Q := by
  intro p e s m args below meth c H locs lsA C hC hL hR
  exact lv_aload C.1 C.2.1 hd (hR.2.2.2 _ _ hl) (k p e s m args below meth c H locs lsA C hC hL hR)
theorem aw_astore_n {i : Fin 4} {x : Nat} {ls2 : List (Option AV)} (hd : decode (mC M) pc = .ok (.astore_n i, 1)) (hi2 : (i : Nat) < mL M) (hs : ls.set (i : Nat) (some (aR x)) = ls2) (k : AW E M cu su (pc + 1) ls2 (st) hi hr n Q) : AW E M cu su pc ls (aR x :: st) hi hr n Q := by
  intro p e s m args below meth c H locs lsA C hC hL hR
  exact lv_astore_n C.1 C.2.1 hd rfl (lr_has hR) hi2 rfl (fun ls2 h2 => k p e s m args below meth c H locs ls2 C hC hL (hs ▸ lr_set hR hi2 h2))
theorem aw_astore {i : Nat} {x : Nat} {ls2 : List (Option AV)} (hd : decode (mC M) pc = .ok (.astore i, 2)) (hi2 : i < mL M) (hs : ls.set i (some (aR x)) = ls2) (k : AW E M cu su (pc + 2) ls2 (st) hi hr n Q) : AW E M cu su pc ls (aR x :: st) hi hr n Q := by
  intro p e s m args below meth c H locs lsA C hC hL hR
  exact lv_astore C.1 C.2.1 hd (lr_has hR) hi2 rfl (fun ls2 h2 => k p e s m args below meth c H locs ls2 C hC hL (hs ▸ lr_set hR hi2 h2))
theorem aw_iinc {i : Nat} {v x : Int} {ls2 : List (Option AV)} (hd : decode (mC M) pc = .ok (.iinc i v, 3)) (hl : ls[i]? = some (some (aI x))) (hi2 : i < mL M) (hs : ls.set i (some (aI (x + v))) = ls2) (k : AW E M cu su (pc + 3) ls2 (st) hi hr n Q) : AW E M cu su pc ls (st) hi hr n Q := by
  intro p e s m args below meth c H locs lsA C hC hL hR
  obtain ⟨kx, hk⟩ := List.getElem?_of_mem (prs_mem.mpr ⟨_, hl, rfl⟩ : (i, cv E (aI x)) ∈ prs E ls)
  exact lv_iinc C.1 C.2.1 hd (lr_has hR) hk (oi_add x v) hi2 rfl (fun ls2 h2 => k p e s m args below meth c H locs ls2 C hC hL (hs ▸ lr_set hR hi2 h2))
theorem aw_iadd {x y : Int} (hd : decode (mC M) pc = .ok (.iadd, 1)) (k : AW E M cu su (pc + 1) ls (aI (x + y) :: st) hi hr n Q) : AW E M cu su pc ls (aI y :: aI x :: st) hi hr n Q := by
  intro p e s m args below meth c H locs lsA C hC hL hR
  refine lv_iadd C.1 C.2.1 hd ?_
  rw [oi_add]
  exact k p e s m args below meth c H locs lsA C hC hL hR
theorem aw_isub {x y : Int} (hd : decode (mC M) pc = .ok (.isub, 1)) (k : AW E M cu su (pc + 1) ls (aI (x - y) :: st) hi hr n Q) : AW E M cu su pc ls (aI y :: aI x :: st) hi hr n Q := by
  intro p e s m args below meth c H locs lsA C hC hL hR
  refine lv_isub C.1 C.2.1 hd ?_
  rw [oi_sub]
  exact k p e s m args below meth c H locs lsA C hC hL hR
theorem aw_imul {x y : Int} (hd : decode (mC M) pc = .ok (.imul, 1)) (k : AW E M cu su (pc + 1) ls (aI (x * y) :: st) hi hr n Q) : AW E M cu su pc ls (aI y :: aI x :: st) hi hr n Q := by
  intro p e s m args below meth c H locs lsA C hC hL hR
  refine lv_imul C.1 C.2.1 hd ?_
  rw [oi_mul]
  exact k p e s m args below meth c H locs lsA C hC hL hR
theorem aw_idiv {x y : Int} (hd : decode (mC M) pc = .ok (.idiv, 1)) (h0 : 0 ≤ x) (hx : InR x) (h1 : 0 < y) (hy : InR y) (k : AW E M cu su (pc + 1) ls (aI (x / y) :: st) hi hr n Q) : AW E M cu su pc ls (aI y :: aI x :: st) hi hr n Q := by
  intro p e s m args below meth c H locs lsA C hC hL hR
  refine lv_idiv C.1 C.2.1 hd (oi_ne0 h1 hy) ?_
  rw [oi_div h0 hx h1 hy]
  exact k p e s m args below meth c H locs lsA C hC hL hR
theorem aw_irem {x y : Int} (hd : decode (mC M) pc = .ok (.irem, 1)) (h0 : 0 ≤ x) (hx : InR x) (h1 : 0 < y) (hy : InR y) (k : AW E M cu su (pc + 1) ls (aI (x % y) :: st) hi hr n Q) : AW E M cu su pc ls (aI y :: aI x :: st) hi hr n Q := by
  intro p e s m args below meth c H locs lsA C hC hL hR
  refine lv_irem C.1 C.2.1 hd (oi_ne0 h1 hy) ?_
  rw [oi_rem h0 hx h1 hy]
  exact k p e s m args below meth c H locs lsA C hC hL hR
theorem aw_iand {a b : Nat} {x y : Int} (hd : decode (mC M) pc = .ok (.iand, 1)) (hx : x = (a : Int)) (hy : y = (b : Int)) (k : AW E M cu su (pc + 1) ls (aI ((a &&& b : Nat) : Int) :: st) hi hr n Q) : AW E M cu su pc ls (aI y :: aI x :: st) hi hr n Q := by
  intro p e s m args below meth c H locs lsA C hC hL hR
  subst hx; subst hy
  refine lv_iand C.1 C.2.1 hd ?_
  rw [oi_nI, oi_nI, nI_land, ← oi_nI]
  exact k p e s m args below meth c H locs lsA C hC hL hR
theorem aw_ior {a b : Nat} {x y : Int} (hd : decode (mC M) pc = .ok (.ior, 1)) (hx : x = (a : Int)) (hy : y = (b : Int)) (k : AW E M cu su (pc + 1) ls (aI ((a ||| b : Nat) : Int) :: st) hi hr n Q) : AW E M cu su pc ls (aI y :: aI x :: st) hi hr n Q := by
  intro p e s m args below meth c H locs lsA C hC hL hR
  subst hx; subst hy
  refine lv_ior C.1 C.2.1 hd ?_
  rw [oi_nI, oi_nI, nI_lor, ← oi_nI]
  exact k p e s m args below meth c H locs lsA C hC hL hR
theorem aw_and31 {x : Int} (hd : decode (mC M) pc = .ok (.iand, 1)) (k : ∀ j : Nat, j < 32 → AW E M cu su (pc + 1) ls (aI (j : Int) :: st) hi hr n Q) : AW E M cu su pc ls (aI 31 :: aI x :: st) hi hr n Q := by
  intro p e s m args below meth c H locs lsA C hC hL hR
  refine lv_iand C.1 C.2.1 hd ?_
  obtain ⟨j, hj, ej⟩ := pk_andE (Int32.ofInt x) (m := Int32.ofInt 31) 5 (by decide)
  rw [ej, ← oi_nI]
  exact k j hj p e s m args below meth c H locs lsA C hC hL hR
theorem aw_if_eq {off : Int} {tgt : Nat} {x : Int} (hd : decode (mC M) pc = .ok (.ifCond .eq off, 3)) (ht : (pc : Int) + off = (tgt : Int)) (hx : InR x) (kt : x = 0 → AW E M cu su tgt ls st hi hr n Q) (kf : ¬ x = 0 → AW E M cu su (pc + 3) ls st hi hr n Q) : AW E M cu su pc ls (aI x :: st) hi hr n Q := by
  intro p e s m args below meth c H locs lsA C hC hL hR
  have Y := InR_0
  exact lv_if_eq C.1 C.2.1 hd ht (fun q => kt (by first | exact (oi_eq hx Y).mp q | exact fun z => q ((oi_eq hx Y).mpr z)) p e s m args below meth c H locs lsA C hC hL hR) (fun q => kf (by first | exact (oi_eq hx Y).mp q | exact fun z => q ((oi_eq hx Y).mpr z)) p e s m args below meth c H locs lsA C hC hL hR)
theorem aw_ic_eq {off : Int} {tgt : Nat} {x y : Int} (hd : decode (mC M) pc = .ok (.if_icmp .eq off, 3)) (ht : (pc : Int) + off = (tgt : Int)) (hx : InR x) (Y : InR y) (kt : x = y → AW E M cu su tgt ls st hi hr n Q) (kf : ¬ x = y → AW E M cu su (pc + 3) ls st hi hr n Q) : AW E M cu su pc ls (aI y :: aI x :: st) hi hr n Q := by
  intro p e s m args below meth c H locs lsA C hC hL hR
  exact lv_icmp_eq C.1 C.2.1 hd ht (fun q => kt (by first | exact (oi_eq hx Y).mp q | exact fun z => q ((oi_eq hx Y).mpr z)) p e s m args below meth c H locs lsA C hC hL hR) (fun q => kf (by first | exact (oi_eq hx Y).mp q | exact fun z => q ((oi_eq hx Y).mpr z)) p e s m args below meth c H locs lsA C hC hL hR)
theorem aw_if_ne {off : Int} {tgt : Nat} {x : Int} (hd : decode (mC M) pc = .ok (.ifCond .ne off, 3)) (ht : (pc : Int) + off = (tgt : Int)) (hx : InR x) (kt : ¬ x = 0 → AW E M cu su tgt ls st hi hr n Q) (kf : x = 0 → AW E M cu su (pc + 3) ls st hi hr n Q) : AW E M cu su pc ls (aI x :: st) hi hr n Q := by
  intro p e s m args below meth c H locs lsA C hC hL hR
  have Y := InR_0
  exact lv_if_ne C.1 C.2.1 hd ht (fun q => kt (by first | exact (oi_eq hx Y).mp q | exact fun z => q ((oi_eq hx Y).mpr z)) p e s m args below meth c H locs lsA C hC hL hR) (fun q => kf (by first | exact (oi_eq hx Y).mp q | exact fun z => q ((oi_eq hx Y).mpr z)) p e s m args below meth c H locs lsA C hC hL hR)
theorem aw_ic_ne {off : Int} {tgt : Nat} {x y : Int} (hd : decode (mC M) pc = .ok (.if_icmp .ne off, 3)) (ht : (pc : Int) + off = (tgt : Int)) (hx : InR x) (Y : InR y) (kt : ¬ x = y → AW E M cu su tgt ls st hi hr n Q) (kf : x = y → AW E M cu su (pc + 3) ls st hi hr n Q) : AW E M cu su pc ls (aI y :: aI x :: st) hi hr n Q := by
  intro p e s m args below meth c H locs lsA C hC hL hR
  exact lv_icmp_ne C.1 C.2.1 hd ht (fun q => kt (by first | exact (oi_eq hx Y).mp q | exact fun z => q ((oi_eq hx Y).mpr z)) p e s m args below meth c H locs lsA C hC hL hR) (fun q => kf (by first | exact (oi_eq hx Y).mp q | exact fun z => q ((oi_eq hx Y).mpr z)) p e s m args below meth c H locs lsA C hC hL hR)
theorem aw_if_lt {off : Int} {tgt : Nat} {x : Int} (hd : decode (mC M) pc = .ok (.ifCond .lt off, 3)) (ht : (pc : Int) + off = (tgt : Int)) (hx : InR x) (kt : x < 0 → AW E M cu su tgt ls st hi hr n Q) (kf : ¬ x < 0 → AW E M cu su (pc + 3) ls st hi hr n Q) : AW E M cu su pc ls (aI x :: st) hi hr n Q := by
  intro p e s m args below meth c H locs lsA C hC hL hR
  have Y := InR_0
  exact lv_if_lt C.1 C.2.1 hd ht (fun q => kt (by first | exact (oi_lt hx Y).mp q | exact fun z => q ((oi_lt hx Y).mpr z)) p e s m args below meth c H locs lsA C hC hL hR) (fun q => kf (by first | exact (oi_lt hx Y).mp q | exact fun z => q ((oi_lt hx Y).mpr z)) p e s m args below meth c H locs lsA C hC hL hR)
theorem aw_ic_lt {off : Int} {tgt : Nat} {x y : Int} (hd : decode (mC M) pc = .ok (.if_icmp .lt off, 3)) (ht : (pc : Int) + off = (tgt : Int)) (hx : InR x) (Y : InR y) (kt : x < y → AW E M cu su tgt ls st hi hr n Q) (kf : ¬ x < y → AW E M cu su (pc + 3) ls st hi hr n Q) : AW E M cu su pc ls (aI y :: aI x :: st) hi hr n Q := by
  intro p e s m args below meth c H locs lsA C hC hL hR
  exact lv_icmp_lt C.1 C.2.1 hd ht (fun q => kt (by first | exact (oi_lt hx Y).mp q | exact fun z => q ((oi_lt hx Y).mpr z)) p e s m args below meth c H locs lsA C hC hL hR) (fun q => kf (by first | exact (oi_lt hx Y).mp q | exact fun z => q ((oi_lt hx Y).mpr z)) p e s m args below meth c H locs lsA C hC hL hR)
theorem aw_if_ge {off : Int} {tgt : Nat} {x : Int} (hd : decode (mC M) pc = .ok (.ifCond .ge off, 3)) (ht : (pc : Int) + off = (tgt : Int)) (hx : InR x) (kt : 0 ≤ x → AW E M cu su tgt ls st hi hr n Q) (kf : ¬ 0 ≤ x → AW E M cu su (pc + 3) ls st hi hr n Q) : AW E M cu su pc ls (aI x :: st) hi hr n Q := by
  intro p e s m args below meth c H locs lsA C hC hL hR
  have Y := InR_0
  exact lv_if_ge C.1 C.2.1 hd ht (fun q => kt (by first | exact (oi_le Y hx).mp q | exact fun z => q ((oi_le Y hx).mpr z)) p e s m args below meth c H locs lsA C hC hL hR) (fun q => kf (by first | exact (oi_le Y hx).mp q | exact fun z => q ((oi_le Y hx).mpr z)) p e s m args below meth c H locs lsA C hC hL hR)
theorem aw_ic_ge {off : Int} {tgt : Nat} {x y : Int} (hd : decode (mC M) pc = .ok (.if_icmp .ge off, 3)) (ht : (pc : Int) + off = (tgt : Int)) (hx : InR x) (Y : InR y) (kt : y ≤ x → AW E M cu su tgt ls st hi hr n Q) (kf : ¬ y ≤ x → AW E M cu su (pc + 3) ls st hi hr n Q) : AW E M cu su pc ls (aI y :: aI x :: st) hi hr n Q := by
  intro p e s m args below meth c H locs lsA C hC hL hR
  exact lv_icmp_ge C.1 C.2.1 hd ht (fun q => kt (by first | exact (oi_le Y hx).mp q | exact fun z => q ((oi_le Y hx).mpr z)) p e s m args below meth c H locs lsA C hC hL hR) (fun q => kf (by first | exact (oi_le Y hx).mp q | exact fun z => q ((oi_le Y hx).mpr z)) p e s m args below meth c H locs lsA C hC hL hR)
theorem aw_if_gt {off : Int} {tgt : Nat} {x : Int} (hd : decode (mC M) pc = .ok (.ifCond .gt off, 3)) (ht : (pc : Int) + off = (tgt : Int)) (hx : InR x) (kt : 0 < x → AW E M cu su tgt ls st hi hr n Q) (kf : ¬ 0 < x → AW E M cu su (pc + 3) ls st hi hr n Q) : AW E M cu su pc ls (aI x :: st) hi hr n Q := by
  intro p e s m args below meth c H locs lsA C hC hL hR
  have Y := InR_0
  exact lv_if_gt C.1 C.2.1 hd ht (fun q => kt (by first | exact (oi_lt Y hx).mp q | exact fun z => q ((oi_lt Y hx).mpr z)) p e s m args below meth c H locs lsA C hC hL hR) (fun q => kf (by first | exact (oi_lt Y hx).mp q | exact fun z => q ((oi_lt Y hx).mpr z)) p e s m args below meth c H locs lsA C hC hL hR)
theorem aw_ic_gt {off : Int} {tgt : Nat} {x y : Int} (hd : decode (mC M) pc = .ok (.if_icmp .gt off, 3)) (ht : (pc : Int) + off = (tgt : Int)) (hx : InR x) (Y : InR y) (kt : y < x → AW E M cu su tgt ls st hi hr n Q) (kf : ¬ y < x → AW E M cu su (pc + 3) ls st hi hr n Q) : AW E M cu su pc ls (aI y :: aI x :: st) hi hr n Q := by
  intro p e s m args below meth c H locs lsA C hC hL hR
  exact lv_icmp_gt C.1 C.2.1 hd ht (fun q => kt (by first | exact (oi_lt Y hx).mp q | exact fun z => q ((oi_lt Y hx).mpr z)) p e s m args below meth c H locs lsA C hC hL hR) (fun q => kf (by first | exact (oi_lt Y hx).mp q | exact fun z => q ((oi_lt Y hx).mpr z)) p e s m args below meth c H locs lsA C hC hL hR)
theorem aw_if_le {off : Int} {tgt : Nat} {x : Int} (hd : decode (mC M) pc = .ok (.ifCond .le off, 3)) (ht : (pc : Int) + off = (tgt : Int)) (hx : InR x) (kt : x ≤ 0 → AW E M cu su tgt ls st hi hr n Q) (kf : ¬ x ≤ 0 → AW E M cu su (pc + 3) ls st hi hr n Q) : AW E M cu su pc ls (aI x :: st) hi hr n Q := by
  intro p e s m args below meth c H locs lsA C hC hL hR
  have Y := InR_0
  exact lv_if_le C.1 C.2.1 hd ht (fun q => kt (by first | exact (oi_le hx Y).mp q | exact fun z => q ((oi_le hx Y).mpr z)) p e s m args below meth c H locs lsA C hC hL hR) (fun q => kf (by first | exact (oi_le hx Y).mp q | exact fun z => q ((oi_le hx Y).mpr z)) p e s m args below meth c H locs lsA C hC hL hR)
theorem aw_ic_le {off : Int} {tgt : Nat} {x y : Int} (hd : decode (mC M) pc = .ok (.if_icmp .le off, 3)) (ht : (pc : Int) + off = (tgt : Int)) (hx : InR x) (Y : InR y) (kt : x ≤ y → AW E M cu su tgt ls st hi hr n Q) (kf : ¬ x ≤ y → AW E M cu su (pc + 3) ls st hi hr n Q) : AW E M cu su pc ls (aI y :: aI x :: st) hi hr n Q := by
  intro p e s m args below meth c H locs lsA C hC hL hR
  exact lv_icmp_le C.1 C.2.1 hd ht (fun q => kt (by first | exact (oi_le hx Y).mp q | exact fun z => q ((oi_le hx Y).mpr z)) p e s m args below meth c H locs lsA C hC hL hR) (fun q => kf (by first | exact (oi_le hx Y).mp q | exact fun z => q ((oi_le hx Y).mpr z)) p e s m args below meth c H locs lsA C hC hL hR)
theorem aw_ic_eqT {off : Int} {tgt : Nat} {x y : Int} (hd : decode (mC M) pc = .ok (.if_icmp .eq off, 3)) (ht : (pc : Int) + off = (tgt : Int)) (hxy : x = y) (k : AW E M cu su tgt ls (st) hi hr n Q) : AW E M cu su pc ls (aI y :: aI x :: st) hi hr n Q := by
  intro p e s m args below meth c H locs lsA C hC hL hR
  subst hxy
  exact lv_icmp_eq C.1 C.2.1 hd ht (fun _ => k p e s m args below meth c H locs lsA C hC hL hR) (fun q => absurd rfl q)
theorem aw_goto {off : Int} {tgt : Nat} (hd : decode (mC M) pc = .ok (.goto off, 3)) (ht : (pc : Int) + off = (tgt : Int)) (k : AW E M cu su tgt ls (st) hi hr n Q) : AW E M cu su pc ls (st) hi hr n Q := by
  intro p e s m args below meth c H locs lsA C hC hL hR
  exact lv_goto C.1 C.2.1 hd ht (k p e s m args below meth c H locs lsA C hC hL hR)
theorem aw_ifnonnull {off : Int} {tgt x : Nat} (hd : decode (mC M) pc = .ok (.ifnonnull off, 3)) (ht : (pc : Int) + off = (tgt : Int)) (k : AW E M cu su tgt ls (st) hi hr n Q) : AW E M cu su pc ls (aR x :: st) hi hr n Q := by
  intro p e s m args below meth c H locs lsA C hC hL hR
  exact lv_ifnonnull C.1 C.2.1 hd ht (k p e s m args below meth c H locs lsA C hC hL hR)
theorem aw_ifnull {off : Int} {x : Nat} (hd : decode (mC M) pc = .ok (.ifnull off, 3)) (k : AW E M cu su (pc + 3) ls (st) hi hr n Q) : AW E M cu su pc ls (aR x :: st) hi hr n Q := by
  intro p e s m args below meth c H locs lsA C hC hL hR
  exact lv_ifnull C.1 C.2.1 hd (k p e s m args below meth c H locs lsA C hC hL hR)
theorem aw_dup {v : AV} (hd : decode (mC M) pc = .ok (.dup, 1)) (k : AW E M cu su (pc + 1) ls (v :: v :: st) hi hr n Q) : AW E M cu su pc ls (v :: st) hi hr n Q := by
  intro p e s m args below meth c H locs lsA C hC hL hR
  exact lv_dup C.1 C.2.1 hd (cv_cat E v) (k p e s m args below meth c H locs lsA C hC hL hR)
theorem aw_dup2 {v w : AV} (hd : decode (mC M) pc = .ok (.dup2, 1)) (k : AW E M cu su (pc + 1) ls (v :: w :: v :: w :: st) hi hr n Q) : AW E M cu su pc ls (v :: w :: st) hi hr n Q := by
  intro p e s m args below meth c H locs lsA C hC hL hR
  exact lv_dup2_11 C.1 C.2.1 hd (cv_cat E v) (cv_cat E w) (k p e s m args below meth c H locs lsA C hC hL hR)
theorem aw_tab {dflt lo hi2 : Int} {offs : Array Int} {len : Nat} {x off : Int} {tgt : Nat} (hd : decode (mC M) pc = .ok (.tableswitch dflt lo hi2 offs, len)) (hx : InR x) (h1 : lo ≤ x) (h2 : x ≤ hi2) (ho : offs[(x - lo).toNat]? = some off) (ht : (pc : Int) + off = (tgt : Int)) (k : AW E M cu su tgt ls (st) hi hr n Q) : AW E M cu su pc ls (aI x :: st) hi hr n Q := by
  intro p e s m args below meth c H locs lsA C hC hL hR
  exact lv_tableIn C.1 C.2.1 hd (by rw [oi_toInt hx]; omega) (by rw [oi_toInt hx]; omega) (by rw [oi_toInt hx]; exact ho) ht (k p e s m args below meth c H locs lsA C hC hL hR)
theorem aw_tabD {dflt lo hi2 : Int} {offs : Array Int} {len : Nat} {x : Int} {tgt : Nat} (hd : decode (mC M) pc = .ok (.tableswitch dflt lo hi2 offs, len)) (hx : InR x) (h1 : x < lo ∨ hi2 < x) (ht : (pc : Int) + dflt = (tgt : Int)) (k : AW E M cu su tgt ls (st) hi hr n Q) : AW E M cu su pc ls (aI x :: st) hi hr n Q := by
  intro p e s m args below meth c H locs lsA C hC hL hR
  exact lv_tableOut C.1 C.2.1 hd (by rw [oi_toInt hx]; omega) ht (k p e s m args below meth c H locs lsA C hC hL hR)
theorem aw_look {dflt : Int} {ps : Array (Int × Int)} {len : Nat} {x off : Int} {tgt : Nat} (hd : decode (mC M) pc = .ok (.lookupswitch dflt ps, len)) (hx : InR x) (hp : (ps.toList.zip (ps.toList.drop 1)).all (fun (a, next) => a.1 < next.1) = true) (ho : Op.lookupswitch.offset ps.toList dflt x = off) (ht : (pc : Int) + off = (tgt : Int)) (k : AW E M cu su tgt ls (st) hi hr n Q) : AW E M cu su pc ls (aI x :: st) hi hr n Q := by
  intro p e s m args below meth c H locs lsA C hC hL hR
  exact lv_lookup C.1 C.2.1 hd hp (by rw [oi_toInt hx]; exact ho) ht (k p e s m args below meth c H locs lsA C hC hL hR)
theorem aw_less {ls2 : List (Option AV)} (hl : ls2.length = ls.length) (hs : ∀ (i : Nat) (v : AV), ls2[i]? = some (some v) → ls[i]? = some (some v)) (k : AW E M cu su pc ls2 (st) hi hr n Q) : AW E M cu su pc ls (st) hi hr n Q := by
  intro p e s m args below meth c H locs lsA C hC hL hR
  exact k p e s m args below meth c H locs lsA C hC hL (lr_fewer hR hl hs)
theorem aw_iret {v : Int} (hd : decode (mC M) pc = .ok (.ireturn, 1)) (hr1 : mT M = some .int) (hw1 : cu ≤ mMc M) (hw2 : su ≤ mMs M) (hq : Q (some (aI v)) hi hr n) : AW E M cu su pc ls [aI v] hi hr n Q := by
  intro p e s m args below meth c H locs lsA C hC hL hR
  refine W.widen hw1 hw2 ?_
  exact W.iret C.1 C.2.1 (C.2.2.2.1.trans hr1) (fun t ht _ => ⟨_, hi, hr, n, rfl, hq, by rw [ht]; exact hC⟩) hL hd C.2.2.2.2.1
theorem aw_zret {v : Int} (hd : decode (mC M) pc = .ok (.ireturn, 1)) (hr1 : mT M = some .boolean) (hz : v = 0 ∨ v = 1) (hw1 : cu ≤ mMc M) (hw2 : su ≤ mMs M) (hq : Q (some (aI v)) hi hr n) : AW E M cu su pc ls [aI v] hi hr n Q := by
  intro p e s m args below meth c H locs lsA C hC hL hR
  refine W.widen hw1 hw2 ?_
  exact W.zret C.1 C.2.1 (C.2.2.2.1.trans hr1) (by rcases hz with rfl | rfl <;> rfl) (fun t ht _ => ⟨_, hi, hr, n, rfl, hq, by rw [ht]; exact hC⟩) hL hd C.2.2.2.2.1
theorem aw_vret (hd : decode (mC M) pc = .ok (.return_, 1)) (hr1 : mT M = none) (hw1 : cu ≤ mMc M) (hw2 : su ≤ mMs M) (hq : Q none hi hr n) : AW E M cu su pc ls [] hi hr n Q := by
  intro p e s m args below meth c H locs lsA C hC hL hR
  refine W.widen hw1 hw2 ?_
  exact W.vret C.1 C.2.1 (C.2.2.2.1.trans hr1) (fun t ht _ => ⟨_, hi, hr, n, rfl, hq, by rw [ht]; exact hC⟩) hL hd C.2.2.2.2.1
theorem aw_aret {a : Nat} {rt : FieldType} (hd : decode (mC M) pc = .ok (.areturn, 1)) (hr1 : mT M = some rt) (hrt : ∃ z, rt = .object z) (hw1 : cu ≤ mMc M) (hw2 : su ≤ mMs M) (hq : Q (some (aR a)) hi hr n) : AW E M cu su pc ls [aR a] hi hr n Q := by
  intro p e s m args below meth c H locs lsA C hC hL hR
  refine W.widen hw1 hw2 ?_
  exact W.aret C.1 C.2.1 (C.2.2.2.1.trans hr1) (Or.inl hrt) (Or.inr ⟨_, rfl⟩) (fun t ht _ => ⟨_, hi, hr, n, rfl, hq, by rw [ht]; exact hC⟩) hL hd C.2.2.2.2.1
end AROWS
end
section
/-! heap rows of the abstract machine -/
def up2 (f : HI) (a k : Nat) (v : Int) : HI := fun x y => if x = a ∧ y = k then v else f x y
def upr (f : HR) (a k : Nat) (v : Option Nat) : HR := fun x y => if x = a ∧ y = k then v else f x y
theorem up2_self (f : HI) (a k : Nat) (v : Int) : up2 f a k v a k = v := by simp [up2]
/-- what a program decides of a class -/
def CI (c : Nat) (C : String) (T : u_T) (N : Nat) (ty : Nat → FieldType) : Prop :=
  vwCl[c]? = some (C, T, N) ∧ (∀ w ∈ u_ws C T N, w ∈ lw_tbl ∧ okW w = true) ∧ (∀ k, k < N → parseFieldDescriptor (T k).2.2.1 = some (ty k)) ∧ (∀ a, a < N → ∀ b, b < N → a ≠ b → (T a).2.1 ≠ (T b).2.1) ∧
  (∀ k, k < N → (T k).1 = C) ∧ (∀ k, k < N → defaultValue (ty k) = if frf c k then .null else .int 0) ∧ (∀ k, k < N → frf c k = true → (ty k).isReference = true) ∧ c < 10
/-- a field's link, in its own class or in a nest mate -/
def FL (own : String) (idx : Nat) (C : String) (T : u_T) (k : Nat) : Prop :=
  (Cond.fieldLink own idx C (T k).2.1 (T k).2.2.1 ∈ lw_tbl) ∨ ∃ host : String, Cond.fieldLinkNest own idx C (T k).2.1 (T k).2.2.1 host ∈ lw_tbl
theorem ad_own (E : ET) {a : Nat} (h : a < 1000) : ad E a = eB E + a := by unfold ad; rw [if_pos h]
theorem CC.cell {E : ET} {hi : HI} {hr : HR} {n : Nat} {H : Heap} (h : CC E hi hr n H) {a : Nat} (ha : a < n) : cellOK E hi hr a H := h.2.2.2.1 a ha
theorem CC.adr {E : ET} {hi : HI} {hr : HR} {n : Nat} {H : Heap} (h : CC E hi hr n H) {a : Nat} (ha : a < n) : ad E a = eB E + a := ad_own E (by have := h.2.1; omega)
theorem cellOK.kept {E : ET} {hi hi' : HI} {hr hr' : HR} {k : Nat} {H H' : Heap} (h : cellOK E hi hr k H) (h1 : H'[eB E + k]? = H[eB E + k]?) (h2 : ∀ y : Nat, hi' k y = hi k y) (h3 : ∀ y : Nat, hr' k y = hr k y) : cellOK E hi' hr' k H' := by
  have e1 : (fun j => cv E (.inl (hi' k j))) = (fun j => cv E (.inl (hi k j))) := funext fun j => by rw [h2]
  have e2 : (fun j => cv E (.inr (hr' k j))) = (fun j => cv E (.inr (hr k j))) := funext fun j => by rw [h3]
  have e3 : (fun j => fv E (sh k).1 hi' hr' k j) = (fun j => fv E (sh k).1 hi hr k j) := funext fun j => by unfold fv; rw [h2, h3]
  obtain ⟨g1, g2, g3⟩ := h
  refine ⟨fun q => ?_, fun q => ?_, fun q => ?_⟩
  · rw [e3]; exact (g1 q).kept h1
  · rw [e1, h1]; exact g2 q
  · rw [e2, h1]; exact g3 q
theorem CC.upd {E : ET} {hi hi' : HI} {hr hr' : HR} {n a : Nat} {H H' : Heap} (h : CC E hi hr n H) (ha : a < n) (hsz : H'.size = H.size) (ho : ∀ q : Nat, q ≠ eB E + a → H'[q]? = H[q]?) (hc : cellOK E hi' hr' a H')
    (h2 : ∀ x : Nat, x ≠ a → ∀ y : Nat, hi' x y = hi x y) (h3 : ∀ x : Nat, x ≠ a → ∀ y : Nat, hr' x y = hr x y) : CC E hi' hr' n H' := by
  obtain ⟨g1, g2, g3, g4, g5, g6⟩ := h
  refine ⟨hsz.trans g1, g2, fun q hq => (ho q (by omega)).trans (g3 q hq), fun k hk => ?_, fun i hi6 j => ?_, fun k hk1 hk2 j => ?_⟩
  · by_cases e : k = a
    · subst e; exact hc
    · exact (g4 k hk).kept (ho _ (by omega)) (h2 k e) (h3 k e)
  · rw [h2 _ (by omega)]; exact g5 i hi6 j
  · rw [h2 _ (by omega), h3 _ (by omega)]; exact g6 k hk1 hk2 j
theorem up2_ne (f : HI) {a x : Nat} (k : Nat) (v : Int) (h : x ≠ a) (y : Nat) : up2 f a k v x y = f x y := by simp [up2, h]
theorem upr_ne (f : HR) {a x : Nat} (k : Nat) (v : Option Nat) (h : x ≠ a) (y : Nat) : upr f a k v x y = f x y := by simp [upr, h]
theorem KE.link {E : ET} {M : MT} {s : State} (h : KE E s) {w : Cond} (hw : w ∈ lw_tbl) (hk : okW w = true) (a : Array Value) : w.before a s = true := h.1 w hw hk a
section HROWS
variable {E : ET} {M : MT} {cu su pc : Nat} {ls : List (Option AV)} {st : List AV} {hi : HI} {hr : HR} {n : Nat} {Q : QT} {c k idx a : Nat} {C : String} {T : u_T} {N : Nat} {ty : Nat → FieldType}
/-- an object's field, as the machine has it -/
theorem fld {p : Program} {s : State} {m : MethodId} {meth : Method} {cd : Code} {H : Heap} (hX : Cx E M p s m meth cd) (hC : CC E hi hr n H) (hc : CI c C T N ty) (hk : k < N) (ha : a < n) (hs : sh a = (c, N)) :
    ∃ (cell : Cell) (cf : Nat) (kf : Class) (fi : Nat) (f : Field), H[eB E + a]? = some cell ∧ cell.cls = eC E c ∧ cell.vm = .none ∧ (∀ j, j < N → cell.slots[eI E c j]? = some (fv E c hi hr a j)) ∧ s.fieldFound? C (T k).2.1 (T k).2.2.1 = some (cf, kf, fi, f) ∧ f.slot = eI E c k ∧ f.isStatic = false ∧
      (∀ x y, x < N → y < N → x ≠ y → eI E c x ≠ eI E c y) ∧
      ((T k).2.2.2 = false → ∀ v, narrow (ty k) v = v → fits (ty k) v = true → k2_Sd s f (eC E c) v) ∧ ((T k).2.2.2 = true → (mY M).cls = C → m.cls = cf) ∧ (∀ v, narrow (ty k) v = v → fits (ty k) v = true → narrow f.type v = v ∧ s.fitsSlot (eC E c) .none f.slot v = true) := by
  obtain ⟨hc1, hc2, hc3, hc4, hc5, hc6, hc7, hc8⟩ := hc
  have hKE : KE E s := hX.2.2.2.2.2.2.2
  have hts : ∀ w ∈ u_ws C T N, w.before #[] s = true := fun w hw => hKE.1 w (hc2 w hw).1 (hc2 w hw).2 _
  have hin : ∀ w ∈ u_ws C T N, w ∈ u_ws C T N := fun _ h => h
  obtain ⟨hS, hfc, kC, hkC, hkind⟩ := hKE.2.1 c _ hc1
  dsimp only at hS hfc
  obtain ⟨cell, q1, q2, q3, q4⟩ := (hC.cell ha).1 (by rw [hs]; exact hc8)
  rw [hs] at q2 q4
  obtain ⟨cf, kf, fi, f, hif, hsl⟩ := hS k hk
  have hT1 : (T k).1 = C := hc5 k hk
  have hif' : s.fieldFound? C (T k).2.1 (T k).2.2.1 = some (cf, kf, fi, f) := by rw [← hT1]; exact hif
  have hlay := hts _ (hin _ (u_in_lay hk))
  refine ⟨cell, cf, kf, fi, f, q1, q2, q3, q4, hif', hsl, (u_facts hfc hkC (u_lays hts hin hk) hif).1, ?_, ?_, ?_, ?_⟩
  · intro x y hx hy hne
    obtain ⟨_, _, _, fa, hia, ea⟩ := hS x hx
    obtain ⟨_, _, _, fb, hib, eb⟩ := hS y hy
    rw [← ea, ← eb]
    refine u_apart (u_lays hts hin hx) (u_lays hts hin hy) hia hib ?_
    rw [(State.fieldFound?_type hia (hc3 x hx)).1, (State.fieldFound?_type hib (hc3 y hy)).1]
    exact hc4 x hx y hy hne
  · intro hfin v hn hv
    unfold u_lay at hlay
    rw [if_neg (by rw [hfin]; decide)] at hlay
    exact u_store hfc hkC hkind hlay hif (hc3 k hk) hn hv
  · intro hfin hown
    have h := State.fieldFound?_spec hif'
    have h2 : s.vm.findClass (mY M).cls = some m.cls := hX.2.2.2.2.2.1
    unfold u_lay at hlay
    rw [if_pos hfin] at hlay
    rw [hT1] at hlay
    exact laid_decl (hown ▸ h2) hlay hif'
  · intro v hn hv
    exact u_fits hfc hkC hkind (u_lays hts hin hk) hif (hc3 k hk) hn hv
theorem aw_geti (hd : decode (mC M) pc = .ok (.getfield idx, 3)) (hc : CI c C T N ty) (hk : k < N) (hl : FL (mY M).cls idx C T k) (ha : a < n) (hs : sh a = (c, N)) (hf : frf c k = false)
    (kk : AW E M cu su (pc + 3) ls (aI (hi a k) :: st) hi hr n Q) : AW E M cu su pc ls (aR a :: st) hi hr n Q := by
  intro p e s m args below meth cd H locs lsA hX hC hL hR
  obtain ⟨cell, cf, kf, fi, f, q1, q2, q3, q4, hif, hsl, hst, -⟩ := fld (k := k) hX hC hc hk ha hs
  have hv : cell.slots[f.slot]? = some (cv E (aI (hi a k))) := by rw [hsl, q4 k hk]; unfold fv; rw [hf]; rfl
  have g := kk p e s m args below meth cd H locs lsA hX hC hL hR
  rw [List.map_cons, cv_r, hC.adr ha]
  rcases hl with hl | ⟨host, hl⟩
  · exact W.getf hX.1 hX.2.1 hX.2.2.2.2.2.1 (hX.2.2.2.2.2.2.2.1 _ hl rfl _) hif hst q1 (by rw [q3]; exact fun h => by cases h) hv rfl rfl hd g
  · exact va_Wgetf hX.1 hX.2.1 hX.2.2.2.2.2.1 (hX.2.2.2.2.2.2.2.1 _ hl rfl _) hif hst q1 (by rw [q3]; exact fun h => by cases h) hv rfl rfl hd g
theorem aw_getr {x : Nat} (hd : decode (mC M) pc = .ok (.getfield idx, 3)) (hc : CI c C T N ty) (hk : k < N) (hl : FL (mY M).cls idx C T k) (ha : a < n) (hs : sh a = (c, N)) (hf : frf c k = true) (hx : hr a k = some x)
    (kk : AW E M cu su (pc + 3) ls (aR x :: st) hi hr n Q) : AW E M cu su pc ls (aR a :: st) hi hr n Q := by
  intro p e s m args below meth cd H locs lsA hX hC hL hR
  obtain ⟨cell, cf, kf, fi, f, q1, q2, q3, q4, hif, hsl, hst, -⟩ := fld (k := k) hX hC hc hk ha hs
  have hv : cell.slots[f.slot]? = some (cv E (aR x)) := by rw [hsl, q4 k hk]; unfold fv; rw [hf, hx]; rfl
  have g := kk p e s m args below meth cd H locs lsA hX hC hL hR
  rw [List.map_cons, cv_r, hC.adr ha]
  rcases hl with hl | ⟨host, hl⟩
  · exact W.getf hX.1 hX.2.1 hX.2.2.2.2.2.1 (hX.2.2.2.2.2.2.2.1 _ hl rfl _) hif hst q1 (by rw [q3]; exact fun h => by cases h) hv rfl rfl hd g
  · exact va_Wgetf hX.1 hX.2.1 hX.2.2.2.2.2.1 (hX.2.2.2.2.2.2.2.1 _ hl rfl _) hif hst q1 (by rw [q3]; exact fun h => by cases h) hv rfl rfl hd g
theorem cell_put {hi' : HI} {hr' : HR} {H H' : Heap} {cell : Cell} {v : Value} (hs : sh a = (c, N)) (hc8 : c < 10) (q2 : cell.cls = eC E c) (q3 : cell.vm = .none) (q4 : ∀ j, j < N → cell.slots[eI E c j]? = some (fv E c hi hr a j)) (hap : ∀ x y, x < N → y < N → x ≠ y → eI E c x ≠ eI E c y) (hk : k < N)
    (e1 : H'[eB E + a]? = some (cell.setSlot (eI E c k) v)) (hv : ∀ j, j < N → fv E c hi' hr' a j = if j = k then v else fv E c hi hr a j) : cellOK E hi' hr' a H' := by
  refine ⟨fun _ => ?_, fun q => ?_, fun q => ?_⟩
  · rw [hs]
    refine ⟨_, e1, q2, q3, fun j hj => ?_⟩
    rw [t_set q4 hap hk v j hj]
    show some (updV (fv E c hi hr a) k v j) = some (fv E c hi' hr' a j)
    rw [hv j hj]
    rfl
  · rw [hs] at q; dsimp only at q; omega
  · rw [hs] at q; dsimp only at q; omega
theorem aw_puti {v : Int} (hd : decode (mC M) pc = .ok (.putfield idx, 3)) (hc : CI c C T N ty) (hk : k < N) (hl : FL (mY M).cls idx C T k) (ha : a < n) (hs : sh a = (c, N)) (hf : frf c k = false) (hfin : (T k).2.2.2 = false) (hty : ty k = .int ∨ (ty k = .boolean ∧ (v = 0 ∨ v = 1)))
    (kk : AW E M cu su (pc + 3) ls st (up2 hi a k v) hr n Q) : AW E M cu su pc ls (aI v :: aR a :: st) hi hr n Q := by
  intro p e s m args below meth cd H locs lsA hX hC hL hR
  obtain ⟨cell, cf, kf, fi, f, q1, q2, q3, q4, hif, hsl, hst, hap, hsd, -⟩ := fld (k := k) hX hC hc hk ha hs
  have hS : k2_Sd s f cell.cls (.int (Int32.ofInt v)) := by
    rw [q2]
    refine hsd hfin _ ?_ ?_
    · rcases hty with h | ⟨h, rfl | rfl⟩ <;> rw [h] <;> rfl
    · rcases hty with h | ⟨h, rfl | rfl⟩ <;> rw [h] <;> rfl
  have g : ∀ H' : Heap, H'[eB E + a]? = some (cell.setSlot f.slot (.int (Int32.ofInt v))) → H'.size = H.size → (∀ q : Nat, q ≠ eB E + a → H'[q]? = H[q]?) → W p (eL E) e (mR M) s m args below meth cd H' (locs ++ [⟨eB E + a, f.slot⟩]) cu su (MQ below (QA E Q) args s (mMc M) (mMs M) (fr E)) (F0 m (pc + 3) lsA (st.map (cv E))) := by
    intro H' e1 e2 e3
    rw [hsl] at e1
    refine kk p e s m args below meth cd H' _ lsA hX (hC.upd ha e2 e3 (cell_put (hi := hi) (hr := hr) (H := H) hs hc.2.2.2.2.2.2.2 q2 q3 q4 hap hk e1 fun j hj => ?_) (fun x hx y => up2_ne hi k v hx y) (fun _ _ _ => rfl)) (fun q hq => ?_) hR
    · unfold fv up2
      by_cases e : j = k
      · subst e; simp [hf]; rfl
      · simp [e]
    · rcases List.mem_append.mp hq with h | h
      · exact hL q h
      · rw [List.mem_singleton] at h; subst h; exact Nat.le_add_right _ _
  rw [List.map_cons, List.map_cons, cv_r, cv_i, hC.adr ha]
  rcases hl with hl | ⟨host, hl⟩
  · exact W.putK hX.1 hX.2.1 ⟨hX.2.2.2.2.2.1, hX.2.2.2.2.2.2.2.1 _ hl rfl _, ⟨_, _, _, hif⟩, hst⟩ hS q1 q3 (by rw [hsl]; exact k2_hasslot (q4 k hk)) rfl rfl hd g
  · exact va_WputK hX.1 hX.2.1 hX.2.2.2.2.2.1 (hX.2.2.2.2.2.2.2.1 _ hl rfl _) hif hst hS q1 q3 (by rw [hsl]; exact k2_hasslot (q4 k hk)) rfl rfl hd g
/-- a final reference, in its class's constructor -/
theorem aw_putr {x : Nat} (hd : decode (mC M) pc = .ok (.putfield idx, 3)) (hc : CI c C T N ty) (hk : k < N) (hl : Cond.fieldLink (mY M).cls idx C (T k).2.1 (T k).2.2.1 ∈ lw_tbl) (ha : a < n) (hs : sh a = (c, N)) (hf : frf c k = true) (hfin : (T k).2.2.2 = true) (hy1 : (mY M).name = "<init>") (hy2 : (mY M).cls = C)
    (kk : AW E M cu su (pc + 3) ls st hi (upr hr a k (some x)) n Q) : AW E M cu su pc ls (aR x :: aR a :: st) hi hr n Q := by
  intro p e s m args below meth cd H locs lsA hX hC hL hR
  obtain ⟨cell, cf, kf, fi, f, q1, q2, q3, q4, hif, hsl, hst, hap, -, hdecl, hfit⟩ := fld (k := k) hX hC hc hk ha hs
  have hty : (ty k).isReference = true := hc.2.2.2.2.2.2.1 k hk hf
  have g : ∀ H' : Heap, H'[eB E + a]? = some (cell.setSlot f.slot (.ref (ad E x))) → H'.size = H.size → (∀ q : Nat, q ≠ eB E + a → H'[q]? = H[q]?) → W p (eL E) e (mR M) s m args below meth cd H' (locs ++ [⟨eB E + a, f.slot⟩]) cu su (MQ below (QA E Q) args s (mMc M) (mMs M) (fr E)) (F0 m (pc + 3) lsA (st.map (cv E))) := by
    intro H' e1 e2 e3
    rw [hsl] at e1
    refine kk p e s m args below meth cd H' _ lsA hX (hC.upd ha e2 e3 (cell_put (hi := hi) (hr := hr) (H := H) hs hc.2.2.2.2.2.2.2 q2 q3 q4 hap hk e1 fun j hj => ?_) (fun _ _ _ => rfl) (fun y hy z => upr_ne hr k (some x) hy z)) (fun q hq => ?_) hR
    · unfold fv upr
      by_cases e : j = k
      · subst e; simp [hf]; rfl
      · simp [e]
    · rcases List.mem_append.mp hq with h | h
      · exact hL q h
      · rw [List.mem_singleton] at h; subst h; exact Nat.le_add_right _ _
  rw [List.map_cons, List.map_cons, cv_r, cv_r, hC.adr ha]
  have hS : narrow f.type (.ref (ad E x)) = .ref (ad E x) ∧ s.fitsSlot cell.cls .none f.slot (.ref (ad E x)) = true := by
    rw [q2]
    refine hfit _ ?_ ?_
    · cases h : ty k <;> rw [h] at hty <;> first | rfl | simp [FieldType.isReference] at hty
    · cases h : ty k <;> rw [h] at hty <;> first | rfl | simp [FieldType.isReference] at hty
  exact W.putFinK hX.1 hX.2.1 hX.2.2.2.2.2.1 (hX.2.2.2.2.2.2.2.1 _ hl rfl _) hif hst (hdecl hfin hy2) (hX.2.2.2.2.2.2.1.trans hy1) hS q1 q3 (by rw [hsl]; exact k2_hasslot (q4 k hk)) rfl rfl hd g
end HROWS
end
section
/-! arrays, new objects, statics, copies -/
/-- an int array that may be read: ours, or one of the six that were there before -/
def AOK (E : ET) (n a N : Nat) : Prop := (a < n ∧ sh a = (10, N)) ∨ (∃ i : Nat, i < 6 ∧ a = 1000 + i ∧ N = eN E i)
theorem oi_clamp {j : Int} (h0 : 0 ≤ j) (hj : InR j) : (Int32.ofInt j).toNatClampNeg = j.toNat := by
  show (Int32.ofInt j).toInt.toNat = _
  rw [oi_toInt hj]
theorem oi_in {j : Int} {N : Nat} (h0 : 0 ≤ j) (h1 : j < N) (hj : InR j) : ¬ (Int32.ofInt j < 0 ∨ N ≤ (Int32.ofInt j).toNatClampNeg) := by
  rw [oi_clamp h0 hj, show (0 : Int32) = Int32.ofInt 0 from rfl, oi_lt hj InR_0]
  omega
theorem CC.arr {E : ET} {hi : HI} {hr : HR} {n a N : Nat} {H : Heap} {s : State} (h : CC E hi hr n H) (hK : KE E s) (hA : AOK E n a N) :
    ∃ cell : Cell, H[ad E a]? = some cell ∧ s.isArrayOf cell .int ∧ cell.vm ≠ .unknown ∧ cell.slots.size = N ∧ ∀ j : Nat, j < N → cell.slots[j]? = some (cv E (aI (hi a j))) := by
  rcases hA with ⟨ha, hs⟩ | ⟨i, hi6, rfl, rfl⟩
  · have h2 := (h.cell ha).2.1 (by rw [hs])
    rw [hs] at h2
    refine ⟨_, by rw [h.adr ha]; exact h2, hK.2.2.1.1 _ _, (fun q => by cases q), arrV_size _ _ _, fun j hj => ?_⟩
    rw [arrV_read _ _ hj]
  · obtain ⟨⟨scr, h1, h2, h3, h4, h5⟩, hlt⟩ := hK.2.2.2.2.1 i hi6
    have e : ad E (1000 + i) = eSa E i := by unfold ad; rw [if_neg (by omega)]; rw [show 1000 + i - 1000 = i by omega]
    refine ⟨scr, by rw [e, h.2.2.1 _ hlt]; exact h1, h2, h3, h4, fun j hj => ?_⟩
    rw [h5 j hj, h.2.2.2.2.1 i hi6 j]
    rfl
section ARR
variable {E : ET} {M : MT} {cu su pc : Nat} {ls : List (Option AV)} {st : List AV} {hi : HI} {hr : HR} {n : Nat} {Q : QT} {idx a b N : Nat}
theorem aw_iaload {j : Int} (hd : decode (mC M) pc = .ok (.iaload, 1)) (hA : AOK E n a N) (h0 : 0 ≤ j) (h1 : j < N) (hj : InR j) (kk : AW E M cu su (pc + 1) ls (aI (hi a j.toNat) :: st) hi hr n Q) : AW E M cu su pc ls (aI j :: aR a :: st) hi hr n Q := by
  intro p e s m args below meth cd H locs lsA hX hC hL hR
  obtain ⟨cell, q1, q2, q3, q4, q5⟩ := hC.arr hX.2.2.2.2.2.2.2 hA
  have g := kk p e s m args below meth cd H locs lsA hX hC hL hR
  refine W.iald hX.1 hX.2.1 q1 q2 q3 (by rw [q4]; exact oi_in h0 h1 hj) (v := cv E (aI (hi a j.toNat))) ?_ rfl rfl hd g
  rw [oi_clamp h0 hj]
  exact q5 _ (by omega)
theorem aw_alen (hd : decode (mC M) pc = .ok (.arraylength, 1)) (hA : AOK E n a N) (kk : AW E M cu su (pc + 1) ls (aI (N : Int) :: st) hi hr n Q) : AW E M cu su pc ls (aR a :: st) hi hr n Q := by
  intro p e s m args below meth cd H locs lsA hX hC hL hR
  obtain ⟨cell, q1, q2, q3, q4, q5⟩ := hC.arr hX.2.2.2.2.2.2.2 hA
  have g := kk p e s m args below meth cd H locs lsA hX hC hL hR
  refine W.alen hX.1 hX.2.1 q1 q2 (n := Int32.ofInt (N : Int)) ?_ rfl rfl hd g
  rw [q4, oi_nI]
  rfl
theorem aw_iastore {j v : Int} (hd : decode (mC M) pc = .ok (.iastore, 1)) (ha : a < n) (hs : sh a = (10, N)) (h0 : 0 ≤ j) (h1 : j < N) (hj : InR j) (kk : AW E M cu su (pc + 1) ls st (up2 hi a j.toNat v) hr n Q) : AW E M cu su pc ls (aI v :: aI j :: aR a :: st) hi hr n Q := by
  intro p e s m args below meth cd H locs lsA hX hC hL hR
  have h2 := (hC.cell ha).2.1 (by rw [hs])
  rw [hs] at h2
  rw [List.map_cons, List.map_cons, List.map_cons, cv_r, cv_i, cv_i, hC.adr ha]
  refine W.iast hX.1 hX.2.1 h2 (hX.2.2.2.2.2.2.2.2.2.1.1 _ _) (fun q => by cases q) (by rw [arrV_size]; exact oi_in h0 h1 hj) rfl rfl hd fun H' e1 e2 e3 => ?_
  rw [oi_clamp h0 hj, arrV_store] at e1
  refine kk p e s m args below meth cd H' _ lsA hX (hC.upd ha e2 e3 ⟨fun q => ?_, fun _ => ?_, fun q => ?_⟩ (fun x hx y => up2_ne hi _ v hx y) (fun _ _ _ => rfl)) (fun q hq => ?_) hR
  · rw [hs] at q; dsimp only at q; omega
  · rw [e1, hs]
    congr 2
    funext y
    unfold updV up2
    by_cases e : y = j.toNat
    · subst e; simp; rfl
    · simp [e]
  · rw [hs] at q; dsimp only at q; omega
  · rcases List.mem_append.mp hq with h | h
    · exact hL q h
    · rw [List.mem_singleton] at h; subst h; exact Nat.le_add_right _ _
theorem aw_aaload {j : Int} {x : Nat} (hd : decode (mC M) pc = .ok (.aaload, 1)) (ha : a < n) (hs : sh a = (11, N)) (h0 : 0 ≤ j) (h1 : j < N) (hj : InR j) (hx : hr a j.toNat = some x) (kk : AW E M cu su (pc + 1) ls (aR x :: st) hi hr n Q) : AW E M cu su pc ls (aI j :: aR a :: st) hi hr n Q := by
  intro p e s m args below meth cd H locs lsA hX hC hL hR
  have h2 := (hC.cell ha).2.2 (by rw [hs])
  rw [hs] at h2
  have g := kk p e s m args below meth cd H locs lsA hX hC hL hR
  rw [List.map_cons, List.map_cons, cv_r, cv_i, hC.adr ha]
  refine W.aald hX.1 hX.2.1 h2 (hX.2.2.2.2.2.2.2.2.2.2.1.1 _ _) rfl (fun q => by cases q) (by rw [arrV_size]; exact oi_in h0 h1 hj) (v := cv E (aR x)) ?_ rfl rfl hd g
  rw [oi_clamp h0 hj, arrV_read _ _ (show j.toNat < N by omega), hx]
theorem aw_aastore {j : Int} {x : Nat} (hd : decode (mC M) pc = .ok (.aastore, 1)) (ha : a < n) (hs : sh a = (11, N)) (hx : x < n) (hsx : sh x = (4, 11)) (h0 : 0 ≤ j) (h1 : j < N) (hj : InR j) (kk : AW E M cu su (pc + 1) ls st hi (upr hr a j.toNat (some x)) n Q) : AW E M cu su pc ls (aR x :: aI j :: aR a :: st) hi hr n Q := by
  intro p e s m args below meth cd H locs lsA hX hC hL hR
  have hKE : KE E s := hX.2.2.2.2.2.2.2
  have h2 := (hC.cell ha).2.2 (by rw [hs])
  rw [hs] at h2
  obtain ⟨cellV, g1, g2, g3, -⟩ := (hC.cell hx).1 (by rw [hsx]; decide)
  rw [hsx] at g2
  have hcls := (hKE.2.1 4 (RX4, TX4, 11) rfl).2
  obtain ⟨kA, comp, k1, k2, k3, -⟩ := hKE.2.2.2.1.2
  have hcomp : comp = eC E 4 := Option.some.inj (k3.symm.trans hcls.1)
  subst hcomp
  obtain ⟨kC, hkC, -⟩ := hcls.2
  rw [List.map_cons, List.map_cons, List.map_cons, cv_r, cv_r, cv_i, hC.adr ha, hC.adr hx]
  refine W.aast hX.1 hX.2.1 h2 (fun q h => by cases h) (fun h => by cases h) k1 k2 rfl hkC ⟨?_, ?_⟩ g1 (fun q h => by rw [g3] at h; cases h) (by rw [g2]; exact hkC) (by rw [g2]; exact va_assign hcls) rfl rfl hd fun H' e1 e2 e3 => ?_
  · exact fun q => oi_in h0 h1 hj (Or.inl q)
  · rw [arrV_size]; exact Nat.not_le.mp fun q => oi_in h0 h1 hj (Or.inr q)
  rw [oi_clamp h0 hj, arrV_store] at e1
  refine kk p e s m args below meth cd H' _ lsA hX (hC.upd ha e2 e3 ⟨fun q => ?_, fun q => ?_, fun _ => ?_⟩ (fun _ _ _ => rfl) (fun y hy z => upr_ne hr _ (some x) hy z)) (fun q hq => ?_) hR
  · rw [hs] at q; dsimp only at q; omega
  · rw [hs] at q; dsimp only at q; omega
  · rw [e1, hs]
    congr 2
    funext y
    unfold updV upr
    by_cases e : y = j.toNat
    · subst e; simp; rw [cv_r, hC.adr hx]
    · simp [e]
  · rcases List.mem_append.mp hq with h | h
    · exact hL q h
    · rw [List.mem_singleton] at h; subst h; exact Nat.le_add_right _ _
theorem aw_gets {i : Nat} (hd : decode (mC M) pc = .ok (.getstatic idx, 3)) (hi5 : i < 5) (hl : (Cond.fieldLink (mY M).cls idx "PagePairs" (stn i) "[I" ∈ lw_tbl) ∨ ∃ host : String, Cond.fieldLinkNest (mY M).cls idx "PagePairs" (stn i) "[I" host ∈ lw_tbl)
    (kk : AW E M cu su (pc + 3) ls (aR (1000 + i) :: st) hi hr n Q) : AW E M cu su pc ls st hi hr n Q := by
  intro p e s m args below meth cd H locs lsA hX hC hL hR
  have hKE : KE E s := hX.2.2.2.2.2.2.2
  obtain ⟨cf, kf, fi, f, a, cell, h1, h2, h3, h4, h5, h6, h7, h8⟩ := hKE.2.2.2.2.2.1 i hi5
  have g := kk p e s m args below meth cd H locs lsA hX hC hL hR
  have ea : ad E (1000 + i) = eSa E i := by unfold ad; rw [if_neg (by omega)]; rw [show 1000 + i - 1000 = i by omega]
  rw [List.map_cons, cv_r, ea] at g
  have hH : H[a]? = some cell := by rw [hC.2.2.1 a (Nat.not_le.mp h8)]; exact h5
  rcases hl with hl | ⟨host, hl⟩
  · exact W.gets hX.1 hX.2.1 hX.2.2.2.2.2.1 (hKE.1 _ hl rfl _) h1 h2 h3 h4 hH (fun e => by rw [e] at h6; cases h6) h7 rfl hd g
  · exact va_WgetsN hX.1 hX.2.1 hX.2.2.2.2.2.1 (hKE.1 _ hl rfl _) h1 h2 h3 h4 hH (fun e => by rw [e] at h6; cases h6) h7 rfl hd g
/-- a heap that has grown by one cell -/
theorem CC.push {H H' : Heap} (hC : CC E hi hr n H) (hn : n < 131) (h1 : H'.size = H.size + 1) (h2 : ∀ q : Nat, q < H.size → H'[q]? = H[q]?) (hc : cellOK E hi hr n H') : CC E hi hr (n + 1) H' := by
  obtain ⟨g1, g2, g3, g4, g5, g6⟩ := hC
  refine ⟨by omega, by omega, fun q hq => (h2 q (by omega)).trans (g3 q hq), fun k hk => ?_, g5, fun k hk => g6 k (by omega)⟩
  by_cases e : k = n
  · subst e; exact hc
  · exact (g4 k (by omega)).kept (h2 _ (by omega)) (fun _ => rfl) (fun _ => rfl)
theorem aw_new {c : Nat} {C : String} {T : u_T} {N : Nat} {ty : Nat → FieldType} (hd : decode (mC M) pc = .ok (.new idx, 3)) (hc : CI c C T N ty) (hn : n < 131) (hs : sh n = (c, N)) (hcl : Cond.classLink (mY M).cls idx C ∈ lw_tbl) (hin : Cond.instantiable C N ∈ lw_tbl) (hit : Cond.initialized C ∈ lw_tbl)
    (hw1 : cu + 1 ≤ mMc M) (hw2 : su + N ≤ mMs M) (kk : AW E M (cu + 1) (su + N) (pc + 3) ls (aR n :: st) hi hr (n + 1) Q) : AW E M cu su pc ls st hi hr n Q := by
  intro p e s m args below meth cd H locs lsA hX hC hL hR
  have hKE : KE E s := hX.2.2.2.2.2.2.2
  obtain ⟨hc1, hc2, hc3, hc4, hc5, hc6, hc7, hc8⟩ := hc
  have hts : ∀ w ∈ u_ws C T N, w.before #[] s = true := fun w hw => hKE.1 w (hc2 w hw).1 (hc2 w hw).2 _
  have hKn := hKE.2.1 c _ hc1
  have hfc := hKn.2.1
  dsimp only at hKn hfc
  refine W.newcK hX.1 hX.2.1 hX.2.2.2.2.2.1 (hKE.1 _ hcl rfl _) (hKE.1 _ hin rfl _) (hKE.1 _ hit rfl _) rfl hd hw1 hw2 hfc (h := eB E + n) hC.1 fun H' kC hkC e1 e2 e3 => ?_
  have g := kk p e s m args below meth cd H' locs lsA hX (hC.push hn (by rw [e2, hC.1]) (fun q hq => e3 q (by rw [← hC.1]; exact hq)) ⟨fun _ => ?_, fun q => ?_, fun q => ?_⟩) hL hR
  · rw [List.map_cons, cv_r, ad_own E (by omega)] at g
    exact g
  · rw [hs]
    refine (u_born ty hts (fun _ h => h) hKn hkC e1 hc3).to fun j hj => ?_
    rw [hc6 j hj]
    unfold fv
    obtain ⟨z1, z2⟩ := hC.2.2.2.2.2 n (Nat.le_refl n) (by omega) j
    rw [z1, z2]
    rfl
  · rw [hs] at q; dsimp only at q; omega
  · rw [hs] at q; dsimp only at q; omega
theorem aw_newarray {N : Nat} (hd : decode (mC M) pc = .ok (.newarray .int, 2)) (hn : n < 131) (hs : sh n = (10, N)) (hN : N < 2000) (hin : Cond.arrayClass .int ∈ lw_tbl) (hw1 : cu + 1 ≤ mMc M) (hw2 : su + N ≤ mMs M)
    (kk : AW E M (cu + 1) (su + N) (pc + 2) ls (aR n :: st) hi hr (n + 1) Q) : AW E M cu su pc ls (aI (N : Int) :: st) hi hr n Q := by
  intro p e s m args below meth cd H locs lsA hX hC hL hR
  have hKE : KE E s := hX.2.2.2.2.2.2.2
  have hj : InR (N : Int) := ⟨by omega, by omega⟩
  have hcl : (Int32.ofInt (N : Int)).toNatClampNeg = N := by rw [oi_clamp (by omega) hj]; rfl
  refine W.newa hX.1 hX.2.1 (atype := .int) (hKE.1 _ hin rfl _) rfl hd rfl (fun q => oi_in (j := (N : Int)) (N := N + 1) (by omega) (by omega) hj (Or.inl q)) (by rw [hcl]; show N * 4 ≤ _; omega) hw1 (by rw [hcl]; exact hw2) fun cA kA comp h1 h2 h3 => ?_
  have hcA : cA = eA E := Option.some.inj (h1.symm.trans hKE.2.2.1.2)
  subst hcA
  rw [hcl]
  have g := kk p e s m args below meth cd (H.push { cls := eA E, slots := Array.replicate N (defaultValue .int), vm := .none }) locs lsA hX (hC.push hn (by simp) (fun q hq => by rw [Array.getElem?_push, if_neg (Nat.ne_of_lt hq)]) ⟨fun q => ?_, fun _ => ?_, fun q => ?_⟩) hL hR
  · rw [List.map_cons, cv_r, ad_own E (by omega), ← hC.1] at g
    exact g
  · rw [hs] at q; dsimp only at q; omega
  · rw [← hC.1, hs]
    rw [show (H.push { cls := eA E, slots := Array.replicate N (defaultValue .int), vm := .none })[H.size]? = some { cls := eA E, slots := Array.replicate N (defaultValue .int), vm := .none } by simp]
    rw [arrV_new]
    congr 2
    funext j
    rw [(hC.2.2.2.2.2 n (Nat.le_refl n) (by omega) j).1]
    rfl
  · rw [hs] at q; dsimp only at q; omega
theorem aw_anew {N : Nat} (hd : decode (mC M) pc = .ok (.anewarray idx, 3)) (hn : n < 131) (hs : sh n = (11, N)) (hN : N < 2000) (hcl0 : Cond.classLink (mY M).cls idx "PagePairs$State" ∈ lw_tbl) (hw1 : cu + 1 ≤ mMc M) (hw2 : su + N ≤ mMs M)
    (kk : AW E M (cu + 1) (su + N) (pc + 3) ls (aR n :: st) hi hr (n + 1) Q) : AW E M cu su pc ls (aI (N : Int) :: st) hi hr n Q := by
  intro p e s m args below meth cd H locs lsA hX hC hL hR
  have hKE : KE E s := hX.2.2.2.2.2.2.2
  have hj : InR (N : Int) := ⟨by omega, by omega⟩
  have hcl : (Int32.ofInt (N : Int)).toNatClampNeg = N := by rw [oi_clamp (by omega) hj]; rfl
  refine W.anew hX.1 hX.2.1 hX.2.2.2.2.2.1 (hKE.1 _ hcl0 rfl _) (va_AO.use hKE.2.2.2.2.2.2) rfl hd rfl (fun q => oi_in (j := (N : Int)) (N := N + 1) (by omega) (by omega) hj (Or.inl q)) (by rw [hcl]; omega) hw1 (by rw [hcl]; exact hw2) fun cA kA comp h1 h2 h3 h4 => ?_
  obtain ⟨kA', comp', k1, k2, k3, k4⟩ := hKE.2.2.2.1.2
  have hcA : cA = eS E := Option.some.inj (h1.symm.trans k4)
  subst hcA
  rw [hcl]
  have g := kk p e s m args below meth cd (H.push { cls := eS E, slots := Array.replicate N .null, vm := .none }) locs lsA hX (hC.push hn (by simp) (fun q hq => by rw [Array.getElem?_push, if_neg (Nat.ne_of_lt hq)]) ⟨fun q => ?_, fun q => ?_, fun _ => ?_⟩) hL hR
  · rw [List.map_cons, cv_r, ad_own E (by omega), ← hC.1] at g
    exact g
  · rw [hs] at q; dsimp only at q; omega
  · rw [hs] at q; dsimp only at q; omega
  · rw [← hC.1, hs]
    rw [show (H.push { cls := eS E, slots := Array.replicate N .null, vm := .none })[H.size]? = some { cls := eS E, slots := Array.replicate N .null, vm := .none } by simp]
    rw [arrV_new]
    congr 2
    funext j
    rw [(hC.2.2.2.2.2 n (Nat.le_refl n) (by omega) j).2]
    rfl
theorem aw_objInit (hd : decode (mC M) pc = .ok (.invokespecial idx, 3)) (hl : Cond.methodLink (mY M).cls idx Lib.objectInit ∈ lw_tbl) (h2 : Cond.instanceMethod Lib.objectInit ∈ lw_tbl) (h3 : Cond.code Lib.objectInit ⟨#[0xb1]⟩ 1 none ∈ lw_tbl) (hF : 1 ≤ mF M) (hO : st.length + 12 ≤ mO M)
    (kk : AW E M cu su (pc + 3) ls st hi hr n Q) : AW E M cu su pc ls (aR a :: st) hi hr n Q := by
  intro p e s m args below meth cd H locs lsA hX hC hL hR
  have hKE : KE E s := hX.2.2.2.2.2.2.2
  have g := kk p e s m args below meth cd H locs lsA hX hC hL hR
  refine W.objInit hX.1 hX.2.1 hX.2.2.2.2.2.1 (hKE.1 _ hl rfl _) (hKE.1 _ h2 rfl _) (hKE.1 _ h3 rfl _) rfl (hR.1.trans hX.2.2.1.symm) rfl hd hF ?_ g
  have : ((st.map (cv E)).map fun v => v.category).sum = st.length := by
    clear hd kk g hO
    induction st with
    | nil => rfl
    | cons a t ih => simp only [List.map_cons, List.sum_cons, ih, cv_cat, List.length_cons]; omega
  rw [this]
  show 2 * 0 + st.length + 12 ≤ mO M
  omega
def cpy (f : HI) (a b m : Nat) : HI := fun x y => if x = b ∧ y < m then f a y else f x y
theorem aw_copy0 {N1 m0 : Nat} (hd : decode (mC M) pc = .ok (.invokestatic idx, 3)) (hl : Cond.methodLink (mY M).cls idx arraycopyName ∈ lw_tbl) (h2 : Cond.native arraycopyName ∈ lw_tbl) (h3 : Cond.static arraycopyName ∈ lw_tbl) (h4 : Cond.initialized "java/lang/System" ∈ lw_tbl)
    (hA : AOK E n a N) (hb : b < n) (hs : sh b = (10, N1)) (hm : m0 ≤ N) (hm1 : m0 ≤ N1) (hm2 : m0 < 2000) (hF : 1 ≤ mF M) (hO : st.length + 20 ≤ mO M)
    (kk : AW E M cu su (pc + 3) ls st (cpy hi a b m0) hr n Q) : AW E M cu su pc ls (aI (m0 : Int) :: aI 0 :: aR b :: aI 0 :: aR a :: st) hi hr n Q := by
  intro p e s m args below meth cd H locs lsA hX hC hL hR
  have hKE : KE E s := hX.2.2.2.2.2.2.2
  obtain ⟨cs, q1, q2, q3, q4, q5⟩ := hC.arr hKE hA
  have hB := (hC.cell hb).2.1 (by rw [hs])
  rw [hs] at hB
  have hj : InR (m0 : Int) := ⟨by omega, by omega⟩
  have hcl : (Int32.ofInt (m0 : Int)).toNatClampNeg = m0 := by rw [oi_clamp (by omega) hj]; rfl
  have hci : (Int32.ofInt (m0 : Int)).toInt = (m0 : Int) := oi_toInt hj
  have h00 : (Int32.ofInt 0).toNatClampNeg = 0 := rfl
  obtain ⟨q2a, ks, hks, sc, hsk⟩ := q2
  obtain ⟨-, kd, hkd, dc, hdk⟩ := hKE.2.2.1.1 N1 (fun j => cv E (.inl (hi b j)))
  have hcat : ((st.map (cv E)).map fun v => v.category).sum = st.length := by
    clear hd kk hO
    induction st with
    | nil => rfl
    | cons a t ih => simp only [List.map_cons, List.sum_cons, ih, cv_cat, List.length_cons]; omega
  intro T hT X
  obtain ⟨vm', X', step⟩ := X.arraycopy hX.1 hX.2.2.2.2.2.1 (hKE.1 _ hl rfl _) (hKE.1 _ h2 rfl _) (hKE.1 _ h3 rfl _) (hKE.1 _ h4 rfl _) (src := ad E a) (dst := ad E b) (cs := cs) (cd := arrV (eA E) N1 (fun j => cv E (.inl (hi b j)))) (srcPos := Int32.ofInt 0) (destPos := Int32.ofInt 0) (n := Int32.ofInt (m0 : Int))
    (by rw [hT]; exact q1) (by rw [hT, hC.adr hb]; exact hB) q2a (fun _ h => by cases h) q3 (fun h => by cases h) hks hkd hsk hdk (by rfl) (by decide) (by decide) (fun q => oi_in (j := (m0 : Int)) (N := m0 + 1) (by omega) (by omega) hj (Or.inl q))
    (by rw [hci, q4, show (Int32.ofInt 0).toInt = 0 from rfl]; omega) (by rw [hci, arrV_size, show (Int32.ofInt 0).toInt = 0 from rfl]; omega)
    (fun vm₁ _ i hi2 => by
      rw [hcl] at hi2
      have e : cs.slots.getD ((Int32.ofInt 0).toNatClampNeg + i) .null = .int (Int32.ofInt (hi a i)) := by
        rw [h00, Array.getD_eq_getD_getElem?, Nat.zero_add, q5 i (by omega)]
        rfl
      rw [e]
      exact ⟨rfl, trivial⟩)
    (g := F0 m pc lsA ((aI (m0 : Int) :: aI 0 :: aR b :: aI 0 :: aR a :: st).map (cv E))) rfl (hR.1.trans hX.2.2.1.symm) (rest := st.map (cv E)) rfl (by rw [hX.2.1]; exact hd) hF (by rw [hcat]; show 2 * 0 + st.length + (7 + 11) ≤ mO M; omega)
  have e1 : copied cs (arrV (eA E) N1 (fun j => cv E (.inl (hi b j)))) (Int32.ofInt 0) (Int32.ofInt 0) (Int32.ofInt (m0 : Int)) = arrV (eA E) N1 (fun j => cv E (.inl (va_cpy (hi a) (hi b) 0 0 m0 j))) := by
    have := va_copiedX (fun z => cv E (.inl z)) cs (eA E) (n0 := N) (n1 := N1) (sp := 0) (dp := 0) (n := m0) (hi a) (hi b) q5 (by omega)
    unfold copied
    rw [hcl, h00]
    exact this
  rw [e1] at X' step
  have hlt : eB E + b < H.size := (Array.getElem?_eq_some_iff.mp hB).1
  have hheap : ((T.setVm vm').setCell (ad E b) (arrV (eA E) N1 (fun j => cv E (.inl (va_cpy (hi a) (hi b) 0 0 m0 j))))).heap = H.setIfInBounds (eB E + b) (arrV (eA E) N1 (fun j => cv E (.inl (va_cpy (hi a) (hi b) 0 0 m0 j)))) := by rw [hC.adr hb, ← hT]; rfl
  have hCC : CC E (cpy hi a b m0) hr n (H.setIfInBounds (eB E + b) (arrV (eA E) N1 (fun j => cv E (.inl (va_cpy (hi a) (hi b) 0 0 m0 j))))) := by
    refine hC.upd hb (by simp) (fun q hq => by simp [Array.getElem?_setIfInBounds, Ne.symm hq]) ⟨fun q => ?_, fun _ => ?_, fun q => ?_⟩ (fun x hx y => by simp [cpy, hx]) (fun _ _ _ => rfl)
    · rw [hs] at q; dsimp only at q; omega
    · rw [hs]
      rw [show (H.setIfInBounds (eB E + b) (arrV (eA E) N1 (fun j => cv E (.inl (va_cpy (hi a) (hi b) 0 0 m0 j)))))[eB E + b]? = some (arrV (eA E) N1 (fun j => cv E (.inl (va_cpy (hi a) (hi b) 0 0 m0 j)))) by simp [Array.getElem?_setIfInBounds, hlt]]
      congr 2
      funext j
      unfold va_cpy cpy
      by_cases e : j < m0
      · simp [e]
      · simp [e]
    · rw [hs] at q; dsimp only at q; omega
  obtain ⟨t, a1, b1⟩ := kk p e s m args below meth cd _ _ lsA hX hCC (fun q hq => by
    rcases List.mem_append.mp hq with h | h
    · exact hL q h
    · obtain ⟨z, -, hz⟩ := List.mem_map.mp h
      rw [← hz, hC.adr hb]
      exact Nat.le_add_right _ _) hR _ hheap X'
  exact ⟨t, step t a1, b1⟩
end ARR
end
section
/-! calls of the abstract machine -/
/-- what a program decides of a call from the class own by the entry idx -/
def CL (own : String) (idx : Nat) (M : MT) (k : Nat) : Prop :=
  ((Cond.methodLink own idx (mY M) ∈ lw_tbl) ∨ ∃ host : String, Cond.methodLinkNest own idx (mY M) host ∈ lw_tbl) ∧ Cond.code (mY M) (mC M) (mL M) (mT M) ∈ lw_tbl ∧ Cond.initialized (mY M).cls ∈ lw_tbl ∧
  ((mY M).cls ≠ "java/lang/invoke/MethodHandle" ∧ (mY M).cls ≠ "java/lang/invoke/VarHandle") ∧ (parseMethodDescriptor (mY M).desc).map (fun d => d.parameters.length) = some k
def CLV (own : String) (idx : Nat) (M : MT) (k : Nat) : Prop := CL own idx M k ∧ Cond.instanceMethod (mY M) ∈ lw_tbl ∧ Cond.selects (mY M).cls (mY M) (mY M) ∈ lw_tbl
def CLS (own : String) (idx : Nat) (M : MT) (k : Nat) : Prop := CL own idx M k ∧ Cond.static (mY M) ∈ lw_tbl
def CLI (own : String) (idx : Nat) (M : MT) (k : Nat) : Prop := CL own idx M k ∧ (mY M).name = "<init>" ∧ Cond.instanceMethod (mY M) ∈ lw_tbl ∧ mT M = none
/-- the callee's room in the caller's -/
def fitsIn (M M2 : MT) : Prop := mF M2 + 1 ≤ mF M ∧ 8 + (mL M2 + 11) + mO M2 ≤ mO M
/-- ends: exactly so; a number, and what holds; nothing, and what holds -/
def EX (r1 : Option AV) (h1 : HI) (r2 : HR) (n1 : Nat) : QT := fun r hi hr n => r = r1 ∧ hi = h1 ∧ hr = r2 ∧ n = n1
def PI (P : Int → HI → HR → Nat → Prop) : QT := fun r hi hr n => ∃ v : Int, r = some (aI v) ∧ P v hi hr n
def PV (P : HI → HR → Nat → Prop) : QT := fun r hi hr n => r = none ∧ P hi hr n
theorem EX.rf {r1 : Option AV} {h1 : HI} {r2 : HR} {n1 : Nat} : EX r1 h1 r2 n1 r1 h1 r2 n1 := ⟨rfl, rfl, rfl, rfl⟩
theorem st_cat (E : ET) (st : List AV) : ((st.map (cv E)).map fun v => v.category).sum = st.length := by
  induction st with
  | nil => rfl
  | cons a t ih => simp only [List.map_cons, List.sum_cons, ih, cv_cat, List.length_cons]; omega
section CALLS
variable {E : ET} {M M2 : MT} {cu su pc : Nat} {ls : List (Option AV)} {st : List AV} {hi : HI} {hr : HR} {n : Nat} {Q Q2 : QT} {idx : Nat}
theorem code_ws {s : State} (hK : KE E s) (h : Cond.code (mY M2) (mC M2) (mL M2) (mT M2) ∈ lw_tbl) : ∀ w ∈ [Cond.code (mY M2) (mC M2) (mL M2) (mT M2)], ∀ (a' : Array Value) (U : State), s.WarmedH U.vm → w.before a' U = true := by
  intro w hw a' U hW
  rw [List.mem_singleton] at hw
  subst hw
  exact (hK.warm hW).1 _ h rfl a'
theorem pc_blind (as : List AV) : FrameBlind (fun v U => v = (as.map (cv E)).toArray ∧ CC E hi hr n U.heap ∧ KE E U) := fun a U g mk q => ⟨q.1, q.2.1, KE.same (s := U) (U := U.calling g mk a) rfl q.2.2⟩
theorem aw_after {p : Program} {e : Env} {s : State} {m : MethodId} {args a2 : Array Value} {below : List Frame} {meth : Method} {c : Code} {H : Heap} {locs : List Loc} {lsA : Array Slot} {st0 : List Value}
    (hR : va_Run p (eL E) e (mR M) s m args below meth c H locs cu su (mMc M2) (mMs M2) (F0 m pc lsA st0) (st.map (cv E)) (QA E Q2 a2) (fr E)) (hX : Cx E M p s m meth c) (hL : ∀ q ∈ locs, fr E q.base) (hl : LR E (mL M) ls lsA)
    (kk : ∀ (r : Option AV) (hi1 : HI) (hr1 : HR) (n1 : Nat), Q2 r hi1 hr1 n1 → AW E M (cu + mMc M2) (su + mMs M2) (pc + 3) ls (r.toList ++ st) hi1 hr1 n1 Q) :
    W p (eL E) e (mR M) s m args below meth c H locs cu su (MQ below (QA E Q) args s (mMc M) (mMs M) (fr E)) (F0 m pc lsA st0) := by
  intro T hT X
  obtain ⟨v, st₀, t, T', L, h0, X', hL2, e1, e2, ⟨r, hi1, hr1, n1, hv, hq, hC⟩, stp⟩ := hR T hT X
  cases hv
  rw [← e1] at hC
  have g := kk r hi1 hr1 n1 hq p e s m args below meth c T'.heap (locs ++ L) lsA hX hC (fun q h => by
    rcases List.mem_append.mp h with h | h
    · exact hL q h
    · exact hL2 q h) hl
  obtain ⟨t2, a1, b1⟩ := g T' rfl X'
  refine ⟨t2, stp t2 ?_, b1⟩
  have e3 : (r.toList ++ st).map (cv E) = (r.map (cv E)).toList ++ st.map (cv E) := by cases r <;> simp
  rw [e3] at a1
  exact a1
theorem recv {s : State} {H : Heap} {b c N : Nat} {C : String} {T : u_T} (hK : KE E s) (hC : CC E hi hr n H) (hb : b < n) (hs : sh b = (c, N)) (hc : vwCl[c]? = some (C, T, N)) : ∃ cellB : Cell, H[ad E b]? = some cellB ∧ cellB.vm.isStatics = false ∧ s.vm.findClass C = some cellB.cls := by
  have hc10 : c < 10 := (List.getElem?_eq_some_iff.mp hc).1
  obtain ⟨cell, q1, q2, q3, -⟩ := (hC.cell hb).1 (by rw [hs]; exact hc10)
  rw [hs] at q2
  refine ⟨cell, by rw [hC.adr hb]; exact q1, by rw [q3]; rfl, ?_⟩
  rw [q2]
  exact (hK.2.1 c _ hc).2.1
theorem aw_S1 {v1 : AV} (hd : decode (mC M) pc = .ok (.invokestatic idx, 3)) (hc : CLS (mY M).cls idx M2 1) (hf : fitsIn M M2) (hM : AMet E M2 [v1] hi hr n Q2) (hw1 : cu + mMc M2 ≤ mMc M) (hw2 : su + mMs M2 ≤ mMs M) (hst : st.length ≤ 8)
    (kk : ∀ (r : Option AV) (hi1 : HI) (hr1 : HR) (n1 : Nat), Q2 r hi1 hr1 n1 → AW E M (cu + mMc M2) (su + mMs M2) (pc + 3) ls (r.toList ++ st) hi1 hr1 n1 Q) : AW E M cu su pc ls (v1 :: st) hi hr n Q := by
  intro p e s m args below meth c H locs lsA hX hC hL hR
  have hK : KE E s := hX.2.2.2.2.2.2.2
  obtain ⟨⟨h1, h2, h3, h4, h5⟩, h6⟩ := hc
  have hlen : ∀ sig, parseMethodDescriptor (mY M2).desc = some sig → 1 = sig.parameters.length := fun sig h => by rw [h] at h5; exact (Option.some.inj h5).symm
  have hp : PreS s H (fun v U => v = (([v1] : List AV).map (cv E)).toArray ∧ CC E hi hr n U.heap ∧ KE E U) (([v1] : List AV).map (cv E)) := ⟨pc_blind [v1], fun U hU hW => ⟨rfl, by rw [hU]; exact hC, hK.warm hW⟩⟩
  have S : CallFix p m c (mC M) (mL M) s args [] (mY M).cls := ⟨hX.1, hX.2.1, hX.2.2.1, hX.2.2.2.2.2.1, fun w h => by cases h⟩
  have hW : 2 * (F0 m pc lsA ((v1 :: st : List AV).map (cv E))).monitorRoom + ((st.map (cv E)).map fun v => v.category).sum ≤ 8 := by rw [st_cat]; show 2 * 0 + _ ≤ 8; omega
  rcases h1 with h1 | ⟨host, h1⟩
  · exact aw_after (va_runS (As := ([v1] : List AV).map (cv E)) (rest := st.map (cv E)) S hM ⟨⟨rfl, rfl, hf.1, hf.2, code_ws hK h2, List.mem_singleton.mpr rfl, hK.1 _ h2 rfl _, hK.1 _ h3 rfl _, h4, hlen, hK.1 _ h1 rfl _⟩, hK.1 _ h6 rfl _⟩ hp rfl rfl hR.1 rfl hW hd ⟨hw1, hw2⟩) hX hL hR kk
  · exact aw_after (va_runSN (As := ([v1] : List AV).map (cv E)) (rest := st.map (cv E)) S hM ⟨⟨⟨rfl, rfl, hf.1, hf.2, code_ws hK h2, List.mem_singleton.mpr rfl⟩, hK.1 _ h2 rfl _, hK.1 _ h3 rfl _, h4, hlen, hK.1 _ h1 rfl _⟩, hK.1 _ h6 rfl _, trivial⟩ hp rfl rfl hR.1 rfl hW hd ⟨hw1, hw2⟩) hX hL hR kk
theorem aw_S2 {v1 v2 : AV} (hd : decode (mC M) pc = .ok (.invokestatic idx, 3)) (hc : CLS (mY M).cls idx M2 2) (hf : fitsIn M M2) (hM : AMet E M2 [v1, v2] hi hr n Q2) (hw1 : cu + mMc M2 ≤ mMc M) (hw2 : su + mMs M2 ≤ mMs M) (hst : st.length ≤ 8)
    (kk : ∀ (r : Option AV) (hi1 : HI) (hr1 : HR) (n1 : Nat), Q2 r hi1 hr1 n1 → AW E M (cu + mMc M2) (su + mMs M2) (pc + 3) ls (r.toList ++ st) hi1 hr1 n1 Q) : AW E M cu su pc ls (v2 :: v1 :: st) hi hr n Q := by
  intro p e s m args below meth c H locs lsA hX hC hL hR
  have hK : KE E s := hX.2.2.2.2.2.2.2
  obtain ⟨⟨h1, h2, h3, h4, h5⟩, h6⟩ := hc
  have hlen : ∀ sig, parseMethodDescriptor (mY M2).desc = some sig → 2 = sig.parameters.length := fun sig h => by rw [h] at h5; exact (Option.some.inj h5).symm
  have hp : PreS s H (fun v U => v = (([v1, v2] : List AV).map (cv E)).toArray ∧ CC E hi hr n U.heap ∧ KE E U) (([v1, v2] : List AV).map (cv E)) := ⟨pc_blind [v1, v2], fun U hU hW => ⟨rfl, by rw [hU]; exact hC, hK.warm hW⟩⟩
  have S : CallFix p m c (mC M) (mL M) s args [] (mY M).cls := ⟨hX.1, hX.2.1, hX.2.2.1, hX.2.2.2.2.2.1, fun w h => by cases h⟩
  have hW : 2 * (F0 m pc lsA ((v2 :: v1 :: st : List AV).map (cv E))).monitorRoom + ((st.map (cv E)).map fun v => v.category).sum ≤ 8 := by rw [st_cat]; show 2 * 0 + _ ≤ 8; omega
  rcases h1 with h1 | ⟨host, h1⟩
  · exact aw_after (va_runS (As := ([v1, v2] : List AV).map (cv E)) (rest := st.map (cv E)) S hM ⟨⟨rfl, rfl, hf.1, hf.2, code_ws hK h2, List.mem_singleton.mpr rfl, hK.1 _ h2 rfl _, hK.1 _ h3 rfl _, h4, hlen, hK.1 _ h1 rfl _⟩, hK.1 _ h6 rfl _⟩ hp rfl rfl hR.1 rfl hW hd ⟨hw1, hw2⟩) hX hL hR kk
  · exact aw_after (va_runSN (As := ([v1, v2] : List AV).map (cv E)) (rest := st.map (cv E)) S hM ⟨⟨⟨rfl, rfl, hf.1, hf.2, code_ws hK h2, List.mem_singleton.mpr rfl⟩, hK.1 _ h2 rfl _, hK.1 _ h3 rfl _, h4, hlen, hK.1 _ h1 rfl _⟩, hK.1 _ h6 rfl _, trivial⟩ hp rfl rfl hR.1 rfl hW hd ⟨hw1, hw2⟩) hX hL hR kk
theorem aw_S3 {v1 v2 v3 : AV} (hd : decode (mC M) pc = .ok (.invokestatic idx, 3)) (hc : CLS (mY M).cls idx M2 3) (hf : fitsIn M M2) (hM : AMet E M2 [v1, v2, v3] hi hr n Q2) (hw1 : cu + mMc M2 ≤ mMc M) (hw2 : su + mMs M2 ≤ mMs M) (hst : st.length ≤ 8)
    (kk : ∀ (r : Option AV) (hi1 : HI) (hr1 : HR) (n1 : Nat), Q2 r hi1 hr1 n1 → AW E M (cu + mMc M2) (su + mMs M2) (pc + 3) ls (r.toList ++ st) hi1 hr1 n1 Q) : AW E M cu su pc ls (v3 :: v2 :: v1 :: st) hi hr n Q := by
  intro p e s m args below meth c H locs lsA hX hC hL hR
  have hK : KE E s := hX.2.2.2.2.2.2.2
  obtain ⟨⟨h1, h2, h3, h4, h5⟩, h6⟩ := hc
  have hlen : ∀ sig, parseMethodDescriptor (mY M2).desc = some sig → 3 = sig.parameters.length := fun sig h => by rw [h] at h5; exact (Option.some.inj h5).symm
  have hp : PreS s H (fun v U => v = (([v1, v2, v3] : List AV).map (cv E)).toArray ∧ CC E hi hr n U.heap ∧ KE E U) (([v1, v2, v3] : List AV).map (cv E)) := ⟨pc_blind [v1, v2, v3], fun U hU hW => ⟨rfl, by rw [hU]; exact hC, hK.warm hW⟩⟩
  have S : CallFix p m c (mC M) (mL M) s args [] (mY M).cls := ⟨hX.1, hX.2.1, hX.2.2.1, hX.2.2.2.2.2.1, fun w h => by cases h⟩
  have hW : 2 * (F0 m pc lsA ((v3 :: v2 :: v1 :: st : List AV).map (cv E))).monitorRoom + ((st.map (cv E)).map fun v => v.category).sum ≤ 8 := by rw [st_cat]; show 2 * 0 + _ ≤ 8; omega
  rcases h1 with h1 | ⟨host, h1⟩
  · exact aw_after (va_runS (As := ([v1, v2, v3] : List AV).map (cv E)) (rest := st.map (cv E)) S hM ⟨⟨rfl, rfl, hf.1, hf.2, code_ws hK h2, List.mem_singleton.mpr rfl, hK.1 _ h2 rfl _, hK.1 _ h3 rfl _, h4, hlen, hK.1 _ h1 rfl _⟩, hK.1 _ h6 rfl _⟩ hp rfl rfl hR.1 rfl hW hd ⟨hw1, hw2⟩) hX hL hR kk
  · exact aw_after (va_runSN (As := ([v1, v2, v3] : List AV).map (cv E)) (rest := st.map (cv E)) S hM ⟨⟨⟨rfl, rfl, hf.1, hf.2, code_ws hK h2, List.mem_singleton.mpr rfl⟩, hK.1 _ h2 rfl _, hK.1 _ h3 rfl _, h4, hlen, hK.1 _ h1 rfl _⟩, hK.1 _ h6 rfl _, trivial⟩ hp rfl rfl hR.1 rfl hW hd ⟨hw1, hw2⟩) hX hL hR kk
theorem aw_V0 {b : Nat} (hd : decode (mC M) pc = .ok (.invokevirtual idx, 3)) (hc : CLV (mY M).cls idx M2 0) (hf : fitsIn M M2) (hb : b < n) {c N : Nat} {T : u_T} (hs : sh b = (c, N)) (hcl : vwCl[c]? = some ((mY M2).cls, T, N)) (hM : AMet E M2 [aR b] hi hr n Q2) (hw1 : cu + mMc M2 ≤ mMc M) (hw2 : su + mMs M2 ≤ mMs M) (hst : st.length ≤ 8)
    (kk : ∀ (r : Option AV) (hi1 : HI) (hr1 : HR) (n1 : Nat), Q2 r hi1 hr1 n1 → AW E M (cu + mMc M2) (su + mMs M2) (pc + 3) ls (r.toList ++ st) hi1 hr1 n1 Q) : AW E M cu su pc ls (aR b :: st) hi hr n Q := by
  intro p e s m args below meth c0 H locs lsA hX hC hL hR
  have hK : KE E s := hX.2.2.2.2.2.2.2
  obtain ⟨⟨h1, h2, h3, h4, h5⟩, h6, h7⟩ := hc
  have hlen : ∀ sig, parseMethodDescriptor (mY M2).desc = some sig → 0 = sig.parameters.length := fun sig h => by rw [h] at h5; exact (Option.some.inj h5).symm
  have hp : PreV s H (mY M2).cls (ad E b) (fun v U => v = (([aR b] : List AV).map (cv E)).toArray ∧ CC E hi hr n U.heap ∧ KE E U) (([] : List AV).map (cv E)) := ⟨pc_blind [aR b], recv hK hC hb hs hcl, fun U hU hW => ⟨rfl, by rw [hU]; exact hC, hK.warm hW⟩⟩
  have S : CallFix p m c0 (mC M) (mL M) s args [] (mY M).cls := ⟨hX.1, hX.2.1, hX.2.2.1, hX.2.2.2.2.2.1, fun w h => by cases h⟩
  have hW : 2 * (F0 m pc lsA ((aR b :: st : List AV).map (cv E))).monitorRoom + ((st.map (cv E)).map fun v => v.category).sum ≤ 8 := by rw [st_cat]; show 2 * 0 + _ ≤ 8; omega
  rcases h1 with h1 | ⟨host, h1⟩
  · exact aw_after (va_runV (b := ad E b) (As := ([] : List AV).map (cv E)) (rest := st.map (cv E)) S hM ⟨⟨rfl, rfl, hf.1, hf.2, code_ws hK h2, List.mem_singleton.mpr rfl, hK.1 _ h2 rfl _, hK.1 _ h3 rfl _, h4, hlen, hK.1 _ h1 rfl _⟩, hK.1 _ h6 rfl _, hK.1 _ h7 rfl _⟩ hp rfl rfl hR.1 rfl hW hd ⟨hw1, hw2⟩) hX hL hR kk
  · exact aw_after (va_runVN (b := ad E b) (As := ([] : List AV).map (cv E)) (rest := st.map (cv E)) S hM ⟨⟨⟨rfl, rfl, hf.1, hf.2, code_ws hK h2, List.mem_singleton.mpr rfl⟩, hK.1 _ h2 rfl _, hK.1 _ h3 rfl _, h4, hlen, hK.1 _ h1 rfl _⟩, hK.1 _ h6 rfl _, hK.1 _ h7 rfl _⟩ hp rfl rfl hR.1 rfl hW hd ⟨hw1, hw2⟩) hX hL hR kk
theorem aw_V1 {b : Nat} {v1 : AV} (hd : decode (mC M) pc = .ok (.invokevirtual idx, 3)) (hc : CLV (mY M).cls idx M2 1) (hf : fitsIn M M2) (hb : b < n) {c N : Nat} {T : u_T} (hs : sh b = (c, N)) (hcl : vwCl[c]? = some ((mY M2).cls, T, N)) (hM : AMet E M2 [aR b, v1] hi hr n Q2) (hw1 : cu + mMc M2 ≤ mMc M) (hw2 : su + mMs M2 ≤ mMs M) (hst : st.length ≤ 8)
    (kk : ∀ (r : Option AV) (hi1 : HI) (hr1 : HR) (n1 : Nat), Q2 r hi1 hr1 n1 → AW E M (cu + mMc M2) (su + mMs M2) (pc + 3) ls (r.toList ++ st) hi1 hr1 n1 Q) : AW E M cu su pc ls (v1 :: aR b :: st) hi hr n Q := by
  intro p e s m args below meth c0 H locs lsA hX hC hL hR
  have hK : KE E s := hX.2.2.2.2.2.2.2
  obtain ⟨⟨h1, h2, h3, h4, h5⟩, h6, h7⟩ := hc
  have hlen : ∀ sig, parseMethodDescriptor (mY M2).desc = some sig → 1 = sig.parameters.length := fun sig h => by rw [h] at h5; exact (Option.some.inj h5).symm
  have hp : PreV s H (mY M2).cls (ad E b) (fun v U => v = (([aR b, v1] : List AV).map (cv E)).toArray ∧ CC E hi hr n U.heap ∧ KE E U) (([v1] : List AV).map (cv E)) := ⟨pc_blind [aR b, v1], recv hK hC hb hs hcl, fun U hU hW => ⟨rfl, by rw [hU]; exact hC, hK.warm hW⟩⟩
  have S : CallFix p m c0 (mC M) (mL M) s args [] (mY M).cls := ⟨hX.1, hX.2.1, hX.2.2.1, hX.2.2.2.2.2.1, fun w h => by cases h⟩
  have hW : 2 * (F0 m pc lsA ((v1 :: aR b :: st : List AV).map (cv E))).monitorRoom + ((st.map (cv E)).map fun v => v.category).sum ≤ 8 := by rw [st_cat]; show 2 * 0 + _ ≤ 8; omega
  rcases h1 with h1 | ⟨host, h1⟩
  · exact aw_after (va_runV (b := ad E b) (As := ([v1] : List AV).map (cv E)) (rest := st.map (cv E)) S hM ⟨⟨rfl, rfl, hf.1, hf.2, code_ws hK h2, List.mem_singleton.mpr rfl, hK.1 _ h2 rfl _, hK.1 _ h3 rfl _, h4, hlen, hK.1 _ h1 rfl _⟩, hK.1 _ h6 rfl _, hK.1 _ h7 rfl _⟩ hp rfl rfl hR.1 rfl hW hd ⟨hw1, hw2⟩) hX hL hR kk
  · exact aw_after (va_runVN (b := ad E b) (As := ([v1] : List AV).map (cv E)) (rest := st.map (cv E)) S hM ⟨⟨⟨rfl, rfl, hf.1, hf.2, code_ws hK h2, List.mem_singleton.mpr rfl⟩, hK.1 _ h2 rfl _, hK.1 _ h3 rfl _, h4, hlen, hK.1 _ h1 rfl _⟩, hK.1 _ h6 rfl _, hK.1 _ h7 rfl _⟩ hp rfl rfl hR.1 rfl hW hd ⟨hw1, hw2⟩) hX hL hR kk
theorem aw_V2 {b : Nat} {v1 v2 : AV} (hd : decode (mC M) pc = .ok (.invokevirtual idx, 3)) (hc : CLV (mY M).cls idx M2 2) (hf : fitsIn M M2) (hb : b < n) {c N : Nat} {T : u_T} (hs : sh b = (c, N)) (hcl : vwCl[c]? = some ((mY M2).cls, T, N)) (hM : AMet E M2 [aR b, v1, v2] hi hr n Q2) (hw1 : cu + mMc M2 ≤ mMc M) (hw2 : su + mMs M2 ≤ mMs M) (hst : st.length ≤ 8)
    (kk : ∀ (r : Option AV) (hi1 : HI) (hr1 : HR) (n1 : Nat), Q2 r hi1 hr1 n1 → AW E M (cu + mMc M2) (su + mMs M2) (pc + 3) ls (r.toList ++ st) hi1 hr1 n1 Q) : AW E M cu su pc ls (v2 :: v1 :: aR b :: st) hi hr n Q := by
  intro p e s m args below meth c0 H locs lsA hX hC hL hR
  have hK : KE E s := hX.2.2.2.2.2.2.2
  obtain ⟨⟨h1, h2, h3, h4, h5⟩, h6, h7⟩ := hc
  have hlen : ∀ sig, parseMethodDescriptor (mY M2).desc = some sig → 2 = sig.parameters.length := fun sig h => by rw [h] at h5; exact (Option.some.inj h5).symm
  have hp : PreV s H (mY M2).cls (ad E b) (fun v U => v = (([aR b, v1, v2] : List AV).map (cv E)).toArray ∧ CC E hi hr n U.heap ∧ KE E U) (([v1, v2] : List AV).map (cv E)) := ⟨pc_blind [aR b, v1, v2], recv hK hC hb hs hcl, fun U hU hW => ⟨rfl, by rw [hU]; exact hC, hK.warm hW⟩⟩
  have S : CallFix p m c0 (mC M) (mL M) s args [] (mY M).cls := ⟨hX.1, hX.2.1, hX.2.2.1, hX.2.2.2.2.2.1, fun w h => by cases h⟩
  have hW : 2 * (F0 m pc lsA ((v2 :: v1 :: aR b :: st : List AV).map (cv E))).monitorRoom + ((st.map (cv E)).map fun v => v.category).sum ≤ 8 := by rw [st_cat]; show 2 * 0 + _ ≤ 8; omega
  rcases h1 with h1 | ⟨host, h1⟩
  · exact aw_after (va_runV (b := ad E b) (As := ([v1, v2] : List AV).map (cv E)) (rest := st.map (cv E)) S hM ⟨⟨rfl, rfl, hf.1, hf.2, code_ws hK h2, List.mem_singleton.mpr rfl, hK.1 _ h2 rfl _, hK.1 _ h3 rfl _, h4, hlen, hK.1 _ h1 rfl _⟩, hK.1 _ h6 rfl _, hK.1 _ h7 rfl _⟩ hp rfl rfl hR.1 rfl hW hd ⟨hw1, hw2⟩) hX hL hR kk
  · exact aw_after (va_runVN (b := ad E b) (As := ([v1, v2] : List AV).map (cv E)) (rest := st.map (cv E)) S hM ⟨⟨⟨rfl, rfl, hf.1, hf.2, code_ws hK h2, List.mem_singleton.mpr rfl⟩, hK.1 _ h2 rfl _, hK.1 _ h3 rfl _, h4, hlen, hK.1 _ h1 rfl _⟩, hK.1 _ h6 rfl _, hK.1 _ h7 rfl _⟩ hp rfl rfl hR.1 rfl hW hd ⟨hw1, hw2⟩) hX hL hR kk
theorem aw_V3 {b : Nat} {v1 v2 v3 : AV} (hd : decode (mC M) pc = .ok (.invokevirtual idx, 3)) (hc : CLV (mY M).cls idx M2 3) (hf : fitsIn M M2) (hb : b < n) {c N : Nat} {T : u_T} (hs : sh b = (c, N)) (hcl : vwCl[c]? = some ((mY M2).cls, T, N)) (hM : AMet E M2 [aR b, v1, v2, v3] hi hr n Q2) (hw1 : cu + mMc M2 ≤ mMc M) (hw2 : su + mMs M2 ≤ mMs M) (hst : st.length ≤ 8)
    (kk : ∀ (r : Option AV) (hi1 : HI) (hr1 : HR) (n1 : Nat), Q2 r hi1 hr1 n1 → AW E M (cu + mMc M2) (su + mMs M2) (pc + 3) ls (r.toList ++ st) hi1 hr1 n1 Q) : AW E M cu su pc ls (v3 :: v2 :: v1 :: aR b :: st) hi hr n Q := by
  intro p e s m args below meth c0 H locs lsA hX hC hL hR
  have hK : KE E s := hX.2.2.2.2.2.2.2
  obtain ⟨⟨h1, h2, h3, h4, h5⟩, h6, h7⟩ := hc
  have hlen : ∀ sig, parseMethodDescriptor (mY M2).desc = some sig → 3 = sig.parameters.length := fun sig h => by rw [h] at h5; exact (Option.some.inj h5).symm
  have hp : PreV s H (mY M2).cls (ad E b) (fun v U => v = (([aR b, v1, v2, v3] : List AV).map (cv E)).toArray ∧ CC E hi hr n U.heap ∧ KE E U) (([v1, v2, v3] : List AV).map (cv E)) := ⟨pc_blind [aR b, v1, v2, v3], recv hK hC hb hs hcl, fun U hU hW => ⟨rfl, by rw [hU]; exact hC, hK.warm hW⟩⟩
  have S : CallFix p m c0 (mC M) (mL M) s args [] (mY M).cls := ⟨hX.1, hX.2.1, hX.2.2.1, hX.2.2.2.2.2.1, fun w h => by cases h⟩
  have hW : 2 * (F0 m pc lsA ((v3 :: v2 :: v1 :: aR b :: st : List AV).map (cv E))).monitorRoom + ((st.map (cv E)).map fun v => v.category).sum ≤ 8 := by rw [st_cat]; show 2 * 0 + _ ≤ 8; omega
  rcases h1 with h1 | ⟨host, h1⟩
  · exact aw_after (va_runV (b := ad E b) (As := ([v1, v2, v3] : List AV).map (cv E)) (rest := st.map (cv E)) S hM ⟨⟨rfl, rfl, hf.1, hf.2, code_ws hK h2, List.mem_singleton.mpr rfl, hK.1 _ h2 rfl _, hK.1 _ h3 rfl _, h4, hlen, hK.1 _ h1 rfl _⟩, hK.1 _ h6 rfl _, hK.1 _ h7 rfl _⟩ hp rfl rfl hR.1 rfl hW hd ⟨hw1, hw2⟩) hX hL hR kk
  · exact aw_after (va_runVN (b := ad E b) (As := ([v1, v2, v3] : List AV).map (cv E)) (rest := st.map (cv E)) S hM ⟨⟨⟨rfl, rfl, hf.1, hf.2, code_ws hK h2, List.mem_singleton.mpr rfl⟩, hK.1 _ h2 rfl _, hK.1 _ h3 rfl _, h4, hlen, hK.1 _ h1 rfl _⟩, hK.1 _ h6 rfl _, hK.1 _ h7 rfl _⟩ hp rfl rfl hR.1 rfl hW hd ⟨hw1, hw2⟩) hX hL hR kk
theorem aw_V4 {b : Nat} {v1 v2 v3 v4 : AV} (hd : decode (mC M) pc = .ok (.invokevirtual idx, 3)) (hc : CLV (mY M).cls idx M2 4) (hf : fitsIn M M2) (hb : b < n) {c N : Nat} {T : u_T} (hs : sh b = (c, N)) (hcl : vwCl[c]? = some ((mY M2).cls, T, N)) (hM : AMet E M2 [aR b, v1, v2, v3, v4] hi hr n Q2) (hw1 : cu + mMc M2 ≤ mMc M) (hw2 : su + mMs M2 ≤ mMs M) (hst : st.length ≤ 8)
    (kk : ∀ (r : Option AV) (hi1 : HI) (hr1 : HR) (n1 : Nat), Q2 r hi1 hr1 n1 → AW E M (cu + mMc M2) (su + mMs M2) (pc + 3) ls (r.toList ++ st) hi1 hr1 n1 Q) : AW E M cu su pc ls (v4 :: v3 :: v2 :: v1 :: aR b :: st) hi hr n Q := by
  intro p e s m args below meth c0 H locs lsA hX hC hL hR
  have hK : KE E s := hX.2.2.2.2.2.2.2
  obtain ⟨⟨h1, h2, h3, h4, h5⟩, h6, h7⟩ := hc
  have hlen : ∀ sig, parseMethodDescriptor (mY M2).desc = some sig → 4 = sig.parameters.length := fun sig h => by rw [h] at h5; exact (Option.some.inj h5).symm
  have hp : PreV s H (mY M2).cls (ad E b) (fun v U => v = (([aR b, v1, v2, v3, v4] : List AV).map (cv E)).toArray ∧ CC E hi hr n U.heap ∧ KE E U) (([v1, v2, v3, v4] : List AV).map (cv E)) := ⟨pc_blind [aR b, v1, v2, v3, v4], recv hK hC hb hs hcl, fun U hU hW => ⟨rfl, by rw [hU]; exact hC, hK.warm hW⟩⟩
  have S : CallFix p m c0 (mC M) (mL M) s args [] (mY M).cls := ⟨hX.1, hX.2.1, hX.2.2.1, hX.2.2.2.2.2.1, fun w h => by cases h⟩
  have hW : 2 * (F0 m pc lsA ((v4 :: v3 :: v2 :: v1 :: aR b :: st : List AV).map (cv E))).monitorRoom + ((st.map (cv E)).map fun v => v.category).sum ≤ 8 := by rw [st_cat]; show 2 * 0 + _ ≤ 8; omega
  rcases h1 with h1 | ⟨host, h1⟩
  · exact aw_after (va_runV (b := ad E b) (As := ([v1, v2, v3, v4] : List AV).map (cv E)) (rest := st.map (cv E)) S hM ⟨⟨rfl, rfl, hf.1, hf.2, code_ws hK h2, List.mem_singleton.mpr rfl, hK.1 _ h2 rfl _, hK.1 _ h3 rfl _, h4, hlen, hK.1 _ h1 rfl _⟩, hK.1 _ h6 rfl _, hK.1 _ h7 rfl _⟩ hp rfl rfl hR.1 rfl hW hd ⟨hw1, hw2⟩) hX hL hR kk
  · exact aw_after (va_runVN (b := ad E b) (As := ([v1, v2, v3, v4] : List AV).map (cv E)) (rest := st.map (cv E)) S hM ⟨⟨⟨rfl, rfl, hf.1, hf.2, code_ws hK h2, List.mem_singleton.mpr rfl⟩, hK.1 _ h2 rfl _, hK.1 _ h3 rfl _, h4, hlen, hK.1 _ h1 rfl _⟩, hK.1 _ h6 rfl _, hK.1 _ h7 rfl _⟩ hp rfl rfl hR.1 rfl hW hd ⟨hw1, hw2⟩) hX hL hR kk
theorem aw_V5 {b : Nat} {v1 v2 v3 v4 v5 : AV} (hd : decode (mC M) pc = .ok (.invokevirtual idx, 3)) (hc : CLV (mY M).cls idx M2 5) (hf : fitsIn M M2) (hb : b < n) {c N : Nat} {T : u_T} (hs : sh b = (c, N)) (hcl : vwCl[c]? = some ((mY M2).cls, T, N)) (hM : AMet E M2 [aR b, v1, v2, v3, v4, v5] hi hr n Q2) (hw1 : cu + mMc M2 ≤ mMc M) (hw2 : su + mMs M2 ≤ mMs M) (hst : st.length ≤ 8)
    (kk : ∀ (r : Option AV) (hi1 : HI) (hr1 : HR) (n1 : Nat), Q2 r hi1 hr1 n1 → AW E M (cu + mMc M2) (su + mMs M2) (pc + 3) ls (r.toList ++ st) hi1 hr1 n1 Q) : AW E M cu su pc ls (v5 :: v4 :: v3 :: v2 :: v1 :: aR b :: st) hi hr n Q := by
  intro p e s m args below meth c0 H locs lsA hX hC hL hR
  have hK : KE E s := hX.2.2.2.2.2.2.2
  obtain ⟨⟨h1, h2, h3, h4, h5⟩, h6, h7⟩ := hc
  have hlen : ∀ sig, parseMethodDescriptor (mY M2).desc = some sig → 5 = sig.parameters.length := fun sig h => by rw [h] at h5; exact (Option.some.inj h5).symm
  have hp : PreV s H (mY M2).cls (ad E b) (fun v U => v = (([aR b, v1, v2, v3, v4, v5] : List AV).map (cv E)).toArray ∧ CC E hi hr n U.heap ∧ KE E U) (([v1, v2, v3, v4, v5] : List AV).map (cv E)) := ⟨pc_blind [aR b, v1, v2, v3, v4, v5], recv hK hC hb hs hcl, fun U hU hW => ⟨rfl, by rw [hU]; exact hC, hK.warm hW⟩⟩
  have S : CallFix p m c0 (mC M) (mL M) s args [] (mY M).cls := ⟨hX.1, hX.2.1, hX.2.2.1, hX.2.2.2.2.2.1, fun w h => by cases h⟩
  have hW : 2 * (F0 m pc lsA ((v5 :: v4 :: v3 :: v2 :: v1 :: aR b :: st : List AV).map (cv E))).monitorRoom + ((st.map (cv E)).map fun v => v.category).sum ≤ 8 := by rw [st_cat]; show 2 * 0 + _ ≤ 8; omega
  rcases h1 with h1 | ⟨host, h1⟩
  · exact aw_after (va_runV (b := ad E b) (As := ([v1, v2, v3, v4, v5] : List AV).map (cv E)) (rest := st.map (cv E)) S hM ⟨⟨rfl, rfl, hf.1, hf.2, code_ws hK h2, List.mem_singleton.mpr rfl, hK.1 _ h2 rfl _, hK.1 _ h3 rfl _, h4, hlen, hK.1 _ h1 rfl _⟩, hK.1 _ h6 rfl _, hK.1 _ h7 rfl _⟩ hp rfl rfl hR.1 rfl hW hd ⟨hw1, hw2⟩) hX hL hR kk
  · exact aw_after (va_runVN (b := ad E b) (As := ([v1, v2, v3, v4, v5] : List AV).map (cv E)) (rest := st.map (cv E)) S hM ⟨⟨⟨rfl, rfl, hf.1, hf.2, code_ws hK h2, List.mem_singleton.mpr rfl⟩, hK.1 _ h2 rfl _, hK.1 _ h3 rfl _, h4, hlen, hK.1 _ h1 rfl _⟩, hK.1 _ h6 rfl _, hK.1 _ h7 rfl _⟩ hp rfl rfl hR.1 rfl hW hd ⟨hw1, hw2⟩) hX hL hR kk
theorem aw_I0 {b : Nat} (hd : decode (mC M) pc = .ok (.invokespecial idx, 3)) (hc : CLI (mY M).cls idx M2 0) (hf : fitsIn M M2) (hM : AMet E M2 [aR b] hi hr n Q2) (hw1 : cu + mMc M2 ≤ mMc M) (hw2 : su + mMs M2 ≤ mMs M) (hst : st.length ≤ 8)
    (kk : ∀ (r : Option AV) (hi1 : HI) (hr1 : HR) (n1 : Nat), Q2 r hi1 hr1 n1 → AW E M (cu + mMc M2) (su + mMs M2) (pc + 3) ls (r.toList ++ st) hi1 hr1 n1 Q) : AW E M cu su pc ls (aR b :: st) hi hr n Q := by
  intro p e s m args below meth c H locs lsA hX hC hL hR
  have hK : KE E s := hX.2.2.2.2.2.2.2
  obtain ⟨⟨h1, h2, h3, h4, h5⟩, h6, h7, h8⟩ := hc
  have hlen : ∀ sig, parseMethodDescriptor (mY M2).desc = some sig → 0 = sig.parameters.length := fun sig h => by rw [h] at h5; exact (Option.some.inj h5).symm
  have hp : PreS s H (fun v U => v = (([aR b] : List AV).map (cv E)).toArray ∧ CC E hi hr n U.heap ∧ KE E U) (.ref (ad E b) :: ([] : List AV).map (cv E)) := ⟨pc_blind [aR b], fun U hU hW => ⟨rfl, by rw [hU]; exact hC, hK.warm hW⟩⟩
  have hM : Met (eL E) (mY M2) [Cond.code (mY M2) (mC M2) (mL M2) (mT M2)] (mR M2) (fun v U => v = (([aR b] : List AV).map (cv E)).toArray ∧ CC E hi hr n U.heap ∧ KE E U) (QA E Q2) (mMc M2) (mMs M2) (fr E) := hM
  have hcw := code_ws hK h2
  have hcm := hK.1 _ h2 rfl
  rw [h8] at hM hcw hcm
  have S : CallFix p m c (mC M) (mL M) s args [] (mY M).cls := ⟨hX.1, hX.2.1, hX.2.2.1, hX.2.2.2.2.2.1, fun w h => by cases h⟩
  have hW : 2 * (F0 m pc lsA ((aR b :: st : List AV).map (cv E))).monitorRoom + ((st.map (cv E)).map fun v => v.category).sum ≤ 8 := by rw [st_cat]; show 2 * 0 + _ ≤ 8; omega
  rcases h1 with h1 | ⟨host, h1⟩
  · exact aw_after (va_runI (b := ad E b) (As := ([] : List AV).map (cv E)) (rest := st.map (cv E)) S hM ⟨⟨rfl, rfl, hf.1, hf.2, hcw, List.mem_singleton.mpr rfl, hcm _, hK.1 _ h3 rfl _, h4, hlen, hK.1 _ h1 rfl _⟩, h6, hK.1 _ h7 rfl _⟩ hp rfl rfl hR.1 rfl hW hd ⟨hw1, hw2⟩) hX hL hR kk
  · exact aw_after (va_runIN (b := ad E b) (As := ([] : List AV).map (cv E)) (rest := st.map (cv E)) S hM ⟨⟨⟨rfl, rfl, hf.1, hf.2, hcw, List.mem_singleton.mpr rfl⟩, hcm _, hK.1 _ h3 rfl _, h4, hlen, hK.1 _ h1 rfl _⟩, h6, hK.1 _ h7 rfl _⟩ hp rfl rfl hR.1 rfl hW hd ⟨hw1, hw2⟩) hX hL hR kk
end CALLS
end
section
/-! links: what a program decides of classes, fields and calls -/
theorem ci0 : CI 0 RX0 TX0 4 tyX0 := by
  refine ⟨rfl, ?_, tyX0_ok, nmX0, by decide +kernel, by decide +kernel, by decide +kernel, by decide⟩
  intro w hw
  obtain ⟨k, hk, rfl⟩ := List.mem_map.mp hw
  have hk := List.mem_range.mp hk
  match k, hk with
    | 0, _ => exact ⟨(mem_tb (List.mem_of_getElem? (i := 38) (by decide +kernel))), by decide +kernel⟩
    | 1, _ => exact ⟨(mem_tb (List.mem_of_getElem? (i := 40) (by decide +kernel))), by decide +kernel⟩
    | 2, _ => exact ⟨(mem_tb (List.mem_of_getElem? (i := 42) (by decide +kernel))), by decide +kernel⟩
    | 3, _ => exact ⟨(mem_tb (List.mem_of_getElem? (i := 44) (by decide +kernel))), by decide +kernel⟩
    | k + 4, h => exact absurd h (by omega)
theorem ci1 : CI 1 RX1 TX1 2 tyX1 := by
  refine ⟨rfl, ?_, tyX1_ok, nmX1, by decide +kernel, by decide +kernel, by decide +kernel, by decide⟩
  intro w hw
  obtain ⟨k, hk, rfl⟩ := List.mem_map.mp hw
  have hk := List.mem_range.mp hk
  match k, hk with
    | 0, _ => exact ⟨(mem_tb (List.mem_of_getElem? (i := 200) (by decide +kernel))), by decide +kernel⟩
    | 1, _ => exact ⟨(mem_tb (List.mem_of_getElem? (i := 202) (by decide +kernel))), by decide +kernel⟩
    | k + 2, h => exact absurd h (by omega)
theorem ci2 : CI 2 RX2 TX2 5 tyX2 := by
  refine ⟨rfl, ?_, tyX2_ok, nmX2, by decide +kernel, by decide +kernel, by decide +kernel, by decide⟩
  intro w hw
  obtain ⟨k, hk, rfl⟩ := List.mem_map.mp hw
  have hk := List.mem_range.mp hk
  match k, hk with
    | 0, _ => exact ⟨(mem_tb (List.mem_of_getElem? (i := 59) (by decide +kernel))), by decide +kernel⟩
    | 1, _ => exact ⟨(mem_tb (List.mem_of_getElem? (i := 61) (by decide +kernel))), by decide +kernel⟩
    | 2, _ => exact ⟨(mem_tb (List.mem_of_getElem? (i := 63) (by decide +kernel))), by decide +kernel⟩
    | 3, _ => exact ⟨(mem_tb (List.mem_of_getElem? (i := 65) (by decide +kernel))), by decide +kernel⟩
    | 4, _ => exact ⟨(mem_tb (List.mem_of_getElem? (i := 67) (by decide +kernel))), by decide +kernel⟩
    | k + 5, h => exact absurd h (by omega)
theorem ci3 : CI 3 RX3 TX3 5 tyX3 := by
  refine ⟨rfl, ?_, tyX3_ok, nmX3, by decide +kernel, by decide +kernel, by decide +kernel, by decide⟩
  intro w hw
  obtain ⟨k, hk, rfl⟩ := List.mem_map.mp hw
  have hk := List.mem_range.mp hk
  match k, hk with
    | 0, _ => exact ⟨(mem_tb (List.mem_of_getElem? (i := 245) (by decide +kernel))), by decide +kernel⟩
    | 1, _ => exact ⟨(mem_tb (List.mem_of_getElem? (i := 247) (by decide +kernel))), by decide +kernel⟩
    | 2, _ => exact ⟨(mem_tb (List.mem_of_getElem? (i := 249) (by decide +kernel))), by decide +kernel⟩
    | 3, _ => exact ⟨(mem_tb (List.mem_of_getElem? (i := 251) (by decide +kernel))), by decide +kernel⟩
    | 4, _ => exact ⟨(mem_tb (List.mem_of_getElem? (i := 253) (by decide +kernel))), by decide +kernel⟩
    | k + 5, h => exact absurd h (by omega)
theorem ci4 : CI 4 RX4 TX4 11 tyX4 := by
  refine ⟨rfl, ?_, tyX4_ok, nmX4, by decide +kernel, by decide +kernel, by decide +kernel, by decide⟩
  intro w hw
  obtain ⟨k, hk, rfl⟩ := List.mem_map.mp hw
  have hk := List.mem_range.mp hk
  match k, hk with
    | 0, _ => exact ⟨(mem_tb (List.mem_of_getElem? (i := 166) (by decide +kernel))), by decide +kernel⟩
    | 1, _ => exact ⟨(mem_tb (List.mem_of_getElem? (i := 168) (by decide +kernel))), by decide +kernel⟩
    | 2, _ => exact ⟨(mem_tb (List.mem_of_getElem? (i := 170) (by decide +kernel))), by decide +kernel⟩
    | 3, _ => exact ⟨(mem_tb (List.mem_of_getElem? (i := 172) (by decide +kernel))), by decide +kernel⟩
    | 4, _ => exact ⟨(mem_tb (List.mem_of_getElem? (i := 174) (by decide +kernel))), by decide +kernel⟩
    | 5, _ => exact ⟨(mem_tb (List.mem_of_getElem? (i := 176) (by decide +kernel))), by decide +kernel⟩
    | 6, _ => exact ⟨(mem_tb (List.mem_of_getElem? (i := 178) (by decide +kernel))), by decide +kernel⟩
    | 7, _ => exact ⟨(mem_tb (List.mem_of_getElem? (i := 180) (by decide +kernel))), by decide +kernel⟩
    | 8, _ => exact ⟨(mem_tb (List.mem_of_getElem? (i := 182) (by decide +kernel))), by decide +kernel⟩
    | 9, _ => exact ⟨(mem_tb (List.mem_of_getElem? (i := 184) (by decide +kernel))), by decide +kernel⟩
    | 10, _ => exact ⟨(mem_tb (List.mem_of_getElem? (i := 186) (by decide +kernel))), by decide +kernel⟩
    | k + 11, h => exact absurd h (by omega)
theorem ci5 : CI 5 RX5 TX5 7 tyX5 := by
  refine ⟨rfl, ?_, tyX5_ok, nmX5, by decide +kernel, by decide +kernel, by decide +kernel, by decide⟩
  intro w hw
  obtain ⟨k, hk, rfl⟩ := List.mem_map.mp hw
  have hk := List.mem_range.mp hk
  match k, hk with
    | 0, _ => exact ⟨(mem_tb (List.mem_of_getElem? (i := 129) (by decide +kernel))), by decide +kernel⟩
    | 1, _ => exact ⟨(mem_tb (List.mem_of_getElem? (i := 131) (by decide +kernel))), by decide +kernel⟩
    | 2, _ => exact ⟨(mem_tb (List.mem_of_getElem? (i := 133) (by decide +kernel))), by decide +kernel⟩
    | 3, _ => exact ⟨(mem_tb (List.mem_of_getElem? (i := 135) (by decide +kernel))), by decide +kernel⟩
    | 4, _ => exact ⟨(mem_tb (List.mem_of_getElem? (i := 137) (by decide +kernel))), by decide +kernel⟩
    | 5, _ => exact ⟨(mem_tb (List.mem_of_getElem? (i := 139) (by decide +kernel))), by decide +kernel⟩
    | 6, _ => exact ⟨(mem_tb (List.mem_of_getElem? (i := 141) (by decide +kernel))), by decide +kernel⟩
    | k + 7, h => exact absurd h (by omega)
theorem ci6 : CI 6 RX6 TX6 6 tyX6 := by
  refine ⟨rfl, ?_, tyX6_ok, nmX6, by decide +kernel, by decide +kernel, by decide +kernel, by decide⟩
  intro w hw
  obtain ⟨k, hk, rfl⟩ := List.mem_map.mp hw
  have hk := List.mem_range.mp hk
  match k, hk with
    | 0, _ => exact ⟨(mem_tb (List.mem_of_getElem? (i := 221) (by decide +kernel))), by decide +kernel⟩
    | 1, _ => exact ⟨(mem_tb (List.mem_of_getElem? (i := 223) (by decide +kernel))), by decide +kernel⟩
    | 2, _ => exact ⟨(mem_tb (List.mem_of_getElem? (i := 225) (by decide +kernel))), by decide +kernel⟩
    | 3, _ => exact ⟨(mem_tb (List.mem_of_getElem? (i := 227) (by decide +kernel))), by decide +kernel⟩
    | 4, _ => exact ⟨(mem_tb (List.mem_of_getElem? (i := 229) (by decide +kernel))), by decide +kernel⟩
    | 5, _ => exact ⟨(mem_tb (List.mem_of_getElem? (i := 231) (by decide +kernel))), by decide +kernel⟩
    | k + 6, h => exact absurd h (by omega)
theorem ci7 : CI 7 RX7 TX7 8 tyX7 := by
  refine ⟨rfl, ?_, tyX7_ok, nmX7, by decide +kernel, by decide +kernel, by decide +kernel, by decide⟩
  intro w hw
  obtain ⟨k, hk, rfl⟩ := List.mem_map.mp hw
  have hk := List.mem_range.mp hk
  match k, hk with
    | 0, _ => exact ⟨(mem_tb (List.mem_of_getElem? (i := 92) (by decide +kernel))), by decide +kernel⟩
    | 1, _ => exact ⟨(mem_tb (List.mem_of_getElem? (i := 94) (by decide +kernel))), by decide +kernel⟩
    | 2, _ => exact ⟨(mem_tb (List.mem_of_getElem? (i := 96) (by decide +kernel))), by decide +kernel⟩
    | 3, _ => exact ⟨(mem_tb (List.mem_of_getElem? (i := 98) (by decide +kernel))), by decide +kernel⟩
    | 4, _ => exact ⟨(mem_tb (List.mem_of_getElem? (i := 100) (by decide +kernel))), by decide +kernel⟩
    | 5, _ => exact ⟨(mem_tb (List.mem_of_getElem? (i := 102) (by decide +kernel))), by decide +kernel⟩
    | 6, _ => exact ⟨(mem_tb (List.mem_of_getElem? (i := 104) (by decide +kernel))), by decide +kernel⟩
    | 7, _ => exact ⟨(mem_tb (List.mem_of_getElem? (i := 106) (by decide +kernel))), by decide +kernel⟩
    | k + 8, h => exact absurd h (by omega)
theorem ci8 : CI 8 RX8 TX8 5 tyX8 := by
  refine ⟨rfl, ?_, tyX8_ok, nmX8, by decide +kernel, by decide +kernel, by decide +kernel, by decide⟩
  intro w hw
  obtain ⟨k, hk, rfl⟩ := List.mem_map.mp hw
  have hk := List.mem_range.mp hk
  match k, hk with
    | 0, _ => exact ⟨(mem_tb (List.mem_of_getElem? (i := 261) (by decide +kernel))), by decide +kernel⟩
    | 1, _ => exact ⟨(mem_tb (List.mem_of_getElem? (i := 263) (by decide +kernel))), by decide +kernel⟩
    | 2, _ => exact ⟨(mem_tb (List.mem_of_getElem? (i := 265) (by decide +kernel))), by decide +kernel⟩
    | 3, _ => exact ⟨(mem_tb (List.mem_of_getElem? (i := 267) (by decide +kernel))), by decide +kernel⟩
    | 4, _ => exact ⟨(mem_tb (List.mem_of_getElem? (i := 269) (by decide +kernel))), by decide +kernel⟩
    | k + 5, h => exact absurd h (by omega)
theorem ci9 : CI 9 RX9 TX9 11 tyX9 := by
  refine ⟨rfl, ?_, tyX9_ok, nmX9, by decide +kernel, by decide +kernel, by decide +kernel, by decide⟩
  intro w hw
  obtain ⟨k, hk, rfl⟩ := List.mem_map.mp hw
  have hk := List.mem_range.mp hk
  match k, hk with
    | 0, _ => exact ⟨(mem_tb (List.mem_of_getElem? (i := 777) (by decide +kernel))), by decide +kernel⟩
    | 1, _ => exact ⟨(mem_tb (List.mem_of_getElem? (i := 779) (by decide +kernel))), by decide +kernel⟩
    | 2, _ => exact ⟨(mem_tb (List.mem_of_getElem? (i := 781) (by decide +kernel))), by decide +kernel⟩
    | 3, _ => exact ⟨(mem_tb (List.mem_of_getElem? (i := 783) (by decide +kernel))), by decide +kernel⟩
    | 4, _ => exact ⟨(mem_tb (List.mem_of_getElem? (i := 785) (by decide +kernel))), by decide +kernel⟩
    | 5, _ => exact ⟨(mem_tb (List.mem_of_getElem? (i := 787) (by decide +kernel))), by decide +kernel⟩
    | 6, _ => exact ⟨(mem_tb (List.mem_of_getElem? (i := 789) (by decide +kernel))), by decide +kernel⟩
    | 7, _ => exact ⟨(mem_tb (List.mem_of_getElem? (i := 791) (by decide +kernel))), by decide +kernel⟩
    | 8, _ => exact ⟨(mem_tb (List.mem_of_getElem? (i := 793) (by decide +kernel))), by decide +kernel⟩
    | 9, _ => exact ⟨(mem_tb (List.mem_of_getElem? (i := 795) (by decide +kernel))), by decide +kernel⟩
    | 10, _ => exact ⟨(mem_tb (List.mem_of_getElem? (i := 797) (by decide +kernel))), by decide +kernel⟩
    | k + 11, h => exact absurd h (by omega)
theorem fX0_9 : FL RX0 9 RX0 TX0 0 := Or.inl (mem_tb (List.mem_of_getElem? (i := 34) (by decide +kernel)))
theorem flX0_9 : Cond.fieldLink RX0 9 RX0 (TX0 0).2.1 (TX0 0).2.2.1 ∈ lw_tbl := (mem_tb (List.mem_of_getElem? (i := 34) (by decide +kernel)))
theorem fX0_15 : FL RX0 15 RX0 TX0 1 := Or.inl (mem_tb (List.mem_of_getElem? (i := 35) (by decide +kernel)))
theorem flX0_15 : Cond.fieldLink RX0 15 RX0 (TX0 1).2.1 (TX0 1).2.2.1 ∈ lw_tbl := (mem_tb (List.mem_of_getElem? (i := 35) (by decide +kernel)))
theorem fX0_18 : FL RX0 18 RX0 TX0 2 := Or.inl (mem_tb (List.mem_of_getElem? (i := 36) (by decide +kernel)))
theorem flX0_18 : Cond.fieldLink RX0 18 RX0 (TX0 2).2.1 (TX0 2).2.2.1 ∈ lw_tbl := (mem_tb (List.mem_of_getElem? (i := 36) (by decide +kernel)))
theorem fX0_21 : FL RX0 21 RX0 TX0 3 := Or.inl (mem_tb (List.mem_of_getElem? (i := 37) (by decide +kernel)))
theorem flX0_21 : Cond.fieldLink RX0 21 RX0 (TX0 3).2.1 (TX0 3).2.2.1 ∈ lw_tbl := (mem_tb (List.mem_of_getElem? (i := 37) (by decide +kernel)))
theorem fX2_9 : FL RX2 9 RX2 TX2 0 := Or.inl (mem_tb (List.mem_of_getElem? (i := 54) (by decide +kernel)))
theorem flX2_9 : Cond.fieldLink RX2 9 RX2 (TX2 0).2.1 (TX2 0).2.2.1 ∈ lw_tbl := (mem_tb (List.mem_of_getElem? (i := 54) (by decide +kernel)))
theorem fX2_15 : FL RX2 15 RX2 TX2 1 := Or.inl (mem_tb (List.mem_of_getElem? (i := 55) (by decide +kernel)))
theorem flX2_15 : Cond.fieldLink RX2 15 RX2 (TX2 1).2.1 (TX2 1).2.2.1 ∈ lw_tbl := (mem_tb (List.mem_of_getElem? (i := 55) (by decide +kernel)))
theorem fX2_18 : FL RX2 18 RX2 TX2 2 := Or.inl (mem_tb (List.mem_of_getElem? (i := 56) (by decide +kernel)))
theorem flX2_18 : Cond.fieldLink RX2 18 RX2 (TX2 2).2.1 (TX2 2).2.2.1 ∈ lw_tbl := (mem_tb (List.mem_of_getElem? (i := 56) (by decide +kernel)))
theorem fX2_21 : FL RX2 21 RX2 TX2 3 := Or.inl (mem_tb (List.mem_of_getElem? (i := 57) (by decide +kernel)))
theorem flX2_21 : Cond.fieldLink RX2 21 RX2 (TX2 3).2.1 (TX2 3).2.2.1 ∈ lw_tbl := (mem_tb (List.mem_of_getElem? (i := 57) (by decide +kernel)))
theorem fX2_28 : FL RX2 28 RX2 TX2 4 := Or.inl (mem_tb (List.mem_of_getElem? (i := 58) (by decide +kernel)))
theorem flX2_28 : Cond.fieldLink RX2 28 RX2 (TX2 4).2.1 (TX2 4).2.2.1 ∈ lw_tbl := (mem_tb (List.mem_of_getElem? (i := 58) (by decide +kernel)))
theorem fX7_9 : FL RX7 9 RX7 TX7 0 := Or.inl (mem_tb (List.mem_of_getElem? (i := 76) (by decide +kernel)))
theorem flX7_9 : Cond.fieldLink RX7 9 RX7 (TX7 0).2.1 (TX7 0).2.2.1 ∈ lw_tbl := (mem_tb (List.mem_of_getElem? (i := 76) (by decide +kernel)))
theorem fX4_105 : FL RX4 105 RX7 TX7 0 := Or.inr ⟨"PagePairs", (mem_tb (List.mem_of_getElem? (i := 77) (by decide +kernel)))⟩
theorem fX7_15 : FL RX7 15 RX7 TX7 1 := Or.inl (mem_tb (List.mem_of_getElem? (i := 78) (by decide +kernel)))
theorem flX7_15 : Cond.fieldLink RX7 15 RX7 (TX7 1).2.1 (TX7 1).2.2.1 ∈ lw_tbl := (mem_tb (List.mem_of_getElem? (i := 78) (by decide +kernel)))
theorem fX4_163 : FL RX4 163 RX7 TX7 1 := Or.inr ⟨"PagePairs", (mem_tb (List.mem_of_getElem? (i := 79) (by decide +kernel)))⟩
theorem fX7_18 : FL RX7 18 RX7 TX7 2 := Or.inl (mem_tb (List.mem_of_getElem? (i := 80) (by decide +kernel)))
theorem flX7_18 : Cond.fieldLink RX7 18 RX7 (TX7 2).2.1 (TX7 2).2.2.1 ∈ lw_tbl := (mem_tb (List.mem_of_getElem? (i := 80) (by decide +kernel)))
theorem fX4_166 : FL RX4 166 RX7 TX7 2 := Or.inr ⟨"PagePairs", (mem_tb (List.mem_of_getElem? (i := 81) (by decide +kernel)))⟩
theorem fX7_22 : FL RX7 22 RX7 TX7 3 := Or.inl (mem_tb (List.mem_of_getElem? (i := 82) (by decide +kernel)))
theorem flX7_22 : Cond.fieldLink RX7 22 RX7 (TX7 3).2.1 (TX7 3).2.2.1 ∈ lw_tbl := (mem_tb (List.mem_of_getElem? (i := 82) (by decide +kernel)))
theorem fX4_171 : FL RX4 171 RX7 TX7 3 := Or.inr ⟨"PagePairs", (mem_tb (List.mem_of_getElem? (i := 83) (by decide +kernel)))⟩
theorem fX7_25 : FL RX7 25 RX7 TX7 4 := Or.inl (mem_tb (List.mem_of_getElem? (i := 84) (by decide +kernel)))
theorem flX7_25 : Cond.fieldLink RX7 25 RX7 (TX7 4).2.1 (TX7 4).2.2.1 ∈ lw_tbl := (mem_tb (List.mem_of_getElem? (i := 84) (by decide +kernel)))
theorem fX4_177 : FL RX4 177 RX7 TX7 4 := Or.inr ⟨"PagePairs", (mem_tb (List.mem_of_getElem? (i := 85) (by decide +kernel)))⟩
theorem fX7_28 : FL RX7 28 RX7 TX7 5 := Or.inl (mem_tb (List.mem_of_getElem? (i := 86) (by decide +kernel)))
theorem flX7_28 : Cond.fieldLink RX7 28 RX7 (TX7 5).2.1 (TX7 5).2.2.1 ∈ lw_tbl := (mem_tb (List.mem_of_getElem? (i := 86) (by decide +kernel)))
theorem fX4_180 : FL RX4 180 RX7 TX7 5 := Or.inr ⟨"PagePairs", (mem_tb (List.mem_of_getElem? (i := 87) (by decide +kernel)))⟩
theorem fX7_31 : FL RX7 31 RX7 TX7 6 := Or.inl (mem_tb (List.mem_of_getElem? (i := 88) (by decide +kernel)))
theorem flX7_31 : Cond.fieldLink RX7 31 RX7 (TX7 6).2.1 (TX7 6).2.2.1 ∈ lw_tbl := (mem_tb (List.mem_of_getElem? (i := 88) (by decide +kernel)))
theorem fX4_186 : FL RX4 186 RX7 TX7 6 := Or.inr ⟨"PagePairs", (mem_tb (List.mem_of_getElem? (i := 89) (by decide +kernel)))⟩
theorem fX7_34 : FL RX7 34 RX7 TX7 7 := Or.inl (mem_tb (List.mem_of_getElem? (i := 90) (by decide +kernel)))
theorem flX7_34 : Cond.fieldLink RX7 34 RX7 (TX7 7).2.1 (TX7 7).2.2.1 ∈ lw_tbl := (mem_tb (List.mem_of_getElem? (i := 90) (by decide +kernel)))
theorem fX4_111 : FL RX4 111 RX7 TX7 7 := Or.inr ⟨"PagePairs", (mem_tb (List.mem_of_getElem? (i := 91) (by decide +kernel)))⟩
theorem fX5_7 : FL RX5 7 RX5 TX5 0 := Or.inl (mem_tb (List.mem_of_getElem? (i := 115) (by decide +kernel)))
theorem flX5_7 : Cond.fieldLink RX5 7 RX5 (TX5 0).2.1 (TX5 0).2.2.1 ∈ lw_tbl := (mem_tb (List.mem_of_getElem? (i := 115) (by decide +kernel)))
theorem fX4_95 : FL RX4 95 RX5 TX5 0 := Or.inr ⟨"PagePairs", (mem_tb (List.mem_of_getElem? (i := 116) (by decide +kernel)))⟩
theorem fX5_13 : FL RX5 13 RX5 TX5 1 := Or.inl (mem_tb (List.mem_of_getElem? (i := 117) (by decide +kernel)))
theorem flX5_13 : Cond.fieldLink RX5 13 RX5 (TX5 1).2.1 (TX5 1).2.2.1 ∈ lw_tbl := (mem_tb (List.mem_of_getElem? (i := 117) (by decide +kernel)))
theorem fX4_189 : FL RX4 189 RX5 TX5 1 := Or.inr ⟨"PagePairs", (mem_tb (List.mem_of_getElem? (i := 118) (by decide +kernel)))⟩
theorem fX5_16 : FL RX5 16 RX5 TX5 2 := Or.inl (mem_tb (List.mem_of_getElem? (i := 119) (by decide +kernel)))
theorem flX5_16 : Cond.fieldLink RX5 16 RX5 (TX5 2).2.1 (TX5 2).2.2.1 ∈ lw_tbl := (mem_tb (List.mem_of_getElem? (i := 119) (by decide +kernel)))
theorem fX4_98 : FL RX4 98 RX5 TX5 2 := Or.inr ⟨"PagePairs", (mem_tb (List.mem_of_getElem? (i := 120) (by decide +kernel)))⟩
theorem fX5_19 : FL RX5 19 RX5 TX5 3 := Or.inl (mem_tb (List.mem_of_getElem? (i := 121) (by decide +kernel)))
theorem flX5_19 : Cond.fieldLink RX5 19 RX5 (TX5 3).2.1 (TX5 3).2.2.1 ∈ lw_tbl := (mem_tb (List.mem_of_getElem? (i := 121) (by decide +kernel)))
theorem fX4_234 : FL RX4 234 RX5 TX5 3 := Or.inr ⟨"PagePairs", (mem_tb (List.mem_of_getElem? (i := 122) (by decide +kernel)))⟩
theorem fX5_22 : FL RX5 22 RX5 TX5 4 := Or.inl (mem_tb (List.mem_of_getElem? (i := 123) (by decide +kernel)))
theorem flX5_22 : Cond.fieldLink RX5 22 RX5 (TX5 4).2.1 (TX5 4).2.2.1 ∈ lw_tbl := (mem_tb (List.mem_of_getElem? (i := 123) (by decide +kernel)))
theorem fX4_243 : FL RX4 243 RX5 TX5 4 := Or.inr ⟨"PagePairs", (mem_tb (List.mem_of_getElem? (i := 124) (by decide +kernel)))⟩
theorem fX5_25 : FL RX5 25 RX5 TX5 5 := Or.inl (mem_tb (List.mem_of_getElem? (i := 125) (by decide +kernel)))
theorem flX5_25 : Cond.fieldLink RX5 25 RX5 (TX5 5).2.1 (TX5 5).2.2.1 ∈ lw_tbl := (mem_tb (List.mem_of_getElem? (i := 125) (by decide +kernel)))
theorem fX4_231 : FL RX4 231 RX5 TX5 5 := Or.inr ⟨"PagePairs", (mem_tb (List.mem_of_getElem? (i := 126) (by decide +kernel)))⟩
theorem fX5_28 : FL RX5 28 RX5 TX5 6 := Or.inl (mem_tb (List.mem_of_getElem? (i := 127) (by decide +kernel)))
theorem flX5_28 : Cond.fieldLink RX5 28 RX5 (TX5 6).2.1 (TX5 6).2.2.1 ∈ lw_tbl := (mem_tb (List.mem_of_getElem? (i := 127) (by decide +kernel)))
theorem fX4_211 : FL RX4 211 RX5 TX5 6 := Or.inr ⟨"PagePairs", (mem_tb (List.mem_of_getElem? (i := 128) (by decide +kernel)))⟩
theorem gsX4_56 : (Cond.fieldLink RX4 56 "PagePairs" (stn 0) "[I" ∈ lw_tbl) ∨ ∃ host : String, Cond.fieldLinkNest RX4 56 "PagePairs" (stn 0) "[I" host ∈ lw_tbl := Or.inr ⟨"PagePairs", (mem_tb (List.mem_of_getElem? (i := 144) (by decide +kernel)))⟩
theorem fX4_12 : FL RX4 12 RX4 TX4 0 := Or.inl (mem_tb (List.mem_of_getElem? (i := 155) (by decide +kernel)))
theorem flX4_12 : Cond.fieldLink RX4 12 RX4 (TX4 0).2.1 (TX4 0).2.2.1 ∈ lw_tbl := (mem_tb (List.mem_of_getElem? (i := 155) (by decide +kernel)))
theorem fX4_21 : FL RX4 21 RX4 TX4 1 := Or.inl (mem_tb (List.mem_of_getElem? (i := 156) (by decide +kernel)))
theorem flX4_21 : Cond.fieldLink RX4 21 RX4 (TX4 1).2.1 (TX4 1).2.2.1 ∈ lw_tbl := (mem_tb (List.mem_of_getElem? (i := 156) (by decide +kernel)))
theorem fX4_28 : FL RX4 28 RX4 TX4 2 := Or.inl (mem_tb (List.mem_of_getElem? (i := 157) (by decide +kernel)))
theorem flX4_28 : Cond.fieldLink RX4 28 RX4 (TX4 2).2.1 (TX4 2).2.2.1 ∈ lw_tbl := (mem_tb (List.mem_of_getElem? (i := 157) (by decide +kernel)))
theorem fX4_35 : FL RX4 35 RX4 TX4 3 := Or.inl (mem_tb (List.mem_of_getElem? (i := 158) (by decide +kernel)))
theorem flX4_35 : Cond.fieldLink RX4 35 RX4 (TX4 3).2.1 (TX4 3).2.2.1 ∈ lw_tbl := (mem_tb (List.mem_of_getElem? (i := 158) (by decide +kernel)))
theorem fX4_39 : FL RX4 39 RX4 TX4 4 := Or.inl (mem_tb (List.mem_of_getElem? (i := 159) (by decide +kernel)))
theorem flX4_39 : Cond.fieldLink RX4 39 RX4 (TX4 4).2.1 (TX4 4).2.2.1 ∈ lw_tbl := (mem_tb (List.mem_of_getElem? (i := 159) (by decide +kernel)))
theorem fX4_43 : FL RX4 43 RX4 TX4 5 := Or.inl (mem_tb (List.mem_of_getElem? (i := 160) (by decide +kernel)))
theorem flX4_43 : Cond.fieldLink RX4 43 RX4 (TX4 5).2.1 (TX4 5).2.2.1 ∈ lw_tbl := (mem_tb (List.mem_of_getElem? (i := 160) (by decide +kernel)))
theorem fX4_46 : FL RX4 46 RX4 TX4 6 := Or.inl (mem_tb (List.mem_of_getElem? (i := 161) (by decide +kernel)))
theorem flX4_46 : Cond.fieldLink RX4 46 RX4 (TX4 6).2.1 (TX4 6).2.2.1 ∈ lw_tbl := (mem_tb (List.mem_of_getElem? (i := 161) (by decide +kernel)))
theorem fX4_49 : FL RX4 49 RX4 TX4 7 := Or.inl (mem_tb (List.mem_of_getElem? (i := 162) (by decide +kernel)))
theorem flX4_49 : Cond.fieldLink RX4 49 RX4 (TX4 7).2.1 (TX4 7).2.2.1 ∈ lw_tbl := (mem_tb (List.mem_of_getElem? (i := 162) (by decide +kernel)))
theorem fX4_52 : FL RX4 52 RX4 TX4 8 := Or.inl (mem_tb (List.mem_of_getElem? (i := 163) (by decide +kernel)))
theorem flX4_52 : Cond.fieldLink RX4 52 RX4 (TX4 8).2.1 (TX4 8).2.2.1 ∈ lw_tbl := (mem_tb (List.mem_of_getElem? (i := 163) (by decide +kernel)))
theorem fX4_76 : FL RX4 76 RX4 TX4 9 := Or.inl (mem_tb (List.mem_of_getElem? (i := 164) (by decide +kernel)))
theorem flX4_76 : Cond.fieldLink RX4 76 RX4 (TX4 9).2.1 (TX4 9).2.2.1 ∈ lw_tbl := (mem_tb (List.mem_of_getElem? (i := 164) (by decide +kernel)))
theorem fX4_80 : FL RX4 80 RX4 TX4 10 := Or.inl (mem_tb (List.mem_of_getElem? (i := 165) (by decide +kernel)))
theorem flX4_80 : Cond.fieldLink RX4 80 RX4 (TX4 10).2.1 (TX4 10).2.2.1 ∈ lw_tbl := (mem_tb (List.mem_of_getElem? (i := 165) (by decide +kernel)))
theorem fX1_11 : FL RX1 11 RX1 TX1 0 := Or.inl (mem_tb (List.mem_of_getElem? (i := 198) (by decide +kernel)))
theorem flX1_11 : Cond.fieldLink RX1 11 RX1 (TX1 0).2.1 (TX1 0).2.2.1 ∈ lw_tbl := (mem_tb (List.mem_of_getElem? (i := 198) (by decide +kernel)))
theorem fX1_18 : FL RX1 18 RX1 TX1 1 := Or.inl (mem_tb (List.mem_of_getElem? (i := 199) (by decide +kernel)))
theorem flX1_18 : Cond.fieldLink RX1 18 RX1 (TX1 1).2.1 (TX1 1).2.2.1 ∈ lw_tbl := (mem_tb (List.mem_of_getElem? (i := 199) (by decide +kernel)))
theorem fX6_9 : FL RX6 9 RX6 TX6 0 := Or.inl (mem_tb (List.mem_of_getElem? (i := 211) (by decide +kernel)))
theorem flX6_9 : Cond.fieldLink RX6 9 RX6 (TX6 0).2.1 (TX6 0).2.2.1 ∈ lw_tbl := (mem_tb (List.mem_of_getElem? (i := 211) (by decide +kernel)))
theorem fX6_15 : FL RX6 15 RX6 TX6 1 := Or.inl (mem_tb (List.mem_of_getElem? (i := 212) (by decide +kernel)))
theorem flX6_15 : Cond.fieldLink RX6 15 RX6 (TX6 1).2.1 (TX6 1).2.2.1 ∈ lw_tbl := (mem_tb (List.mem_of_getElem? (i := 212) (by decide +kernel)))
theorem fX3_28 : FL RX3 28 RX6 TX6 2 := Or.inr ⟨"PagePairs", (mem_tb (List.mem_of_getElem? (i := 213) (by decide +kernel)))⟩
theorem fX6_27 : FL RX6 27 RX6 TX6 2 := Or.inl (mem_tb (List.mem_of_getElem? (i := 214) (by decide +kernel)))
theorem flX6_27 : Cond.fieldLink RX6 27 RX6 (TX6 2).2.1 (TX6 2).2.2.1 ∈ lw_tbl := (mem_tb (List.mem_of_getElem? (i := 214) (by decide +kernel)))
theorem fX3_51 : FL RX3 51 RX6 TX6 3 := Or.inr ⟨"PagePairs", (mem_tb (List.mem_of_getElem? (i := 215) (by decide +kernel)))⟩
theorem fX6_34 : FL RX6 34 RX6 TX6 3 := Or.inl (mem_tb (List.mem_of_getElem? (i := 216) (by decide +kernel)))
theorem flX6_34 : Cond.fieldLink RX6 34 RX6 (TX6 3).2.1 (TX6 3).2.2.1 ∈ lw_tbl := (mem_tb (List.mem_of_getElem? (i := 216) (by decide +kernel)))
theorem fX6_44 : FL RX6 44 RX6 TX6 4 := Or.inl (mem_tb (List.mem_of_getElem? (i := 217) (by decide +kernel)))
theorem flX6_44 : Cond.fieldLink RX6 44 RX6 (TX6 4).2.1 (TX6 4).2.2.1 ∈ lw_tbl := (mem_tb (List.mem_of_getElem? (i := 217) (by decide +kernel)))
theorem fX3_54 : FL RX3 54 RX6 TX6 4 := Or.inr ⟨"PagePairs", (mem_tb (List.mem_of_getElem? (i := 218) (by decide +kernel)))⟩
theorem fX6_51 : FL RX6 51 RX6 TX6 5 := Or.inl (mem_tb (List.mem_of_getElem? (i := 219) (by decide +kernel)))
theorem flX6_51 : Cond.fieldLink RX6 51 RX6 (TX6 5).2.1 (TX6 5).2.2.1 ∈ lw_tbl := (mem_tb (List.mem_of_getElem? (i := 219) (by decide +kernel)))
theorem fX3_57 : FL RX3 57 RX6 TX6 5 := Or.inr ⟨"PagePairs", (mem_tb (List.mem_of_getElem? (i := 220) (by decide +kernel)))⟩
theorem fX3_9 : FL RX3 9 RX3 TX3 0 := Or.inl (mem_tb (List.mem_of_getElem? (i := 240) (by decide +kernel)))
theorem flX3_9 : Cond.fieldLink RX3 9 RX3 (TX3 0).2.1 (TX3 0).2.2.1 ∈ lw_tbl := (mem_tb (List.mem_of_getElem? (i := 240) (by decide +kernel)))
theorem fX3_15 : FL RX3 15 RX3 TX3 1 := Or.inl (mem_tb (List.mem_of_getElem? (i := 241) (by decide +kernel)))
theorem flX3_15 : Cond.fieldLink RX3 15 RX3 (TX3 1).2.1 (TX3 1).2.2.1 ∈ lw_tbl := (mem_tb (List.mem_of_getElem? (i := 241) (by decide +kernel)))
theorem fX3_31 : FL RX3 31 RX3 TX3 2 := Or.inl (mem_tb (List.mem_of_getElem? (i := 242) (by decide +kernel)))
theorem flX3_31 : Cond.fieldLink RX3 31 RX3 (TX3 2).2.1 (TX3 2).2.2.1 ∈ lw_tbl := (mem_tb (List.mem_of_getElem? (i := 242) (by decide +kernel)))
theorem fX3_45 : FL RX3 45 RX3 TX3 3 := Or.inl (mem_tb (List.mem_of_getElem? (i := 243) (by decide +kernel)))
theorem flX3_45 : Cond.fieldLink RX3 45 RX3 (TX3 3).2.1 (TX3 3).2.2.1 ∈ lw_tbl := (mem_tb (List.mem_of_getElem? (i := 243) (by decide +kernel)))
theorem fX3_48 : FL RX3 48 RX3 TX3 4 := Or.inl (mem_tb (List.mem_of_getElem? (i := 244) (by decide +kernel)))
theorem flX3_48 : Cond.fieldLink RX3 48 RX3 (TX3 4).2.1 (TX3 4).2.2.1 ∈ lw_tbl := (mem_tb (List.mem_of_getElem? (i := 244) (by decide +kernel)))
theorem fX8_12 : FL RX8 12 RX8 TX8 0 := Or.inl (mem_tb (List.mem_of_getElem? (i := 256) (by decide +kernel)))
theorem flX8_12 : Cond.fieldLink RX8 12 RX8 (TX8 0).2.1 (TX8 0).2.2.1 ∈ lw_tbl := (mem_tb (List.mem_of_getElem? (i := 256) (by decide +kernel)))
theorem fX8_16 : FL RX8 16 RX8 TX8 1 := Or.inl (mem_tb (List.mem_of_getElem? (i := 257) (by decide +kernel)))
theorem flX8_16 : Cond.fieldLink RX8 16 RX8 (TX8 1).2.1 (TX8 1).2.2.1 ∈ lw_tbl := (mem_tb (List.mem_of_getElem? (i := 257) (by decide +kernel)))
theorem fX8_22 : FL RX8 22 RX8 TX8 2 := Or.inl (mem_tb (List.mem_of_getElem? (i := 258) (by decide +kernel)))
theorem flX8_22 : Cond.fieldLink RX8 22 RX8 (TX8 2).2.1 (TX8 2).2.2.1 ∈ lw_tbl := (mem_tb (List.mem_of_getElem? (i := 258) (by decide +kernel)))
theorem fX8_29 : FL RX8 29 RX8 TX8 3 := Or.inl (mem_tb (List.mem_of_getElem? (i := 259) (by decide +kernel)))
theorem flX8_29 : Cond.fieldLink RX8 29 RX8 (TX8 3).2.1 (TX8 3).2.2.1 ∈ lw_tbl := (mem_tb (List.mem_of_getElem? (i := 259) (by decide +kernel)))
theorem fX8_36 : FL RX8 36 RX8 TX8 4 := Or.inl (mem_tb (List.mem_of_getElem? (i := 260) (by decide +kernel)))
theorem flX8_36 : Cond.fieldLink RX8 36 RX8 (TX8 4).2.1 (TX8 4).2.2.1 ∈ lw_tbl := (mem_tb (List.mem_of_getElem? (i := 260) (by decide +kernel)))
theorem gsX4_153 : (Cond.fieldLink RX4 153 "PagePairs" (stn 1) "[I" ∈ lw_tbl) ∨ ∃ host : String, Cond.fieldLinkNest RX4 153 "PagePairs" (stn 1) "[I" host ∈ lw_tbl := Or.inr ⟨"PagePairs", (mem_tb (List.mem_of_getElem? (i := 391) (by decide +kernel)))⟩
theorem gsX4_160 : (Cond.fieldLink RX4 160 "PagePairs" (stn 2) "[I" ∈ lw_tbl) ∨ ∃ host : String, Cond.fieldLinkNest RX4 160 "PagePairs" (stn 2) "[I" host ∈ lw_tbl := Or.inr ⟨"PagePairs", (mem_tb (List.mem_of_getElem? (i := 396) (by decide +kernel)))⟩
theorem gsX4_271 : (Cond.fieldLink RX4 271 "PagePairs" (stn 3) "[I" ∈ lw_tbl) ∨ ∃ host : String, Cond.fieldLinkNest RX4 271 "PagePairs" (stn 3) "[I" host ∈ lw_tbl := Or.inr ⟨"PagePairs", (mem_tb (List.mem_of_getElem? (i := 572) (by decide +kernel)))⟩
theorem gsX4_274 : (Cond.fieldLink RX4 274 "PagePairs" (stn 4) "[I" ∈ lw_tbl) ∨ ∃ host : String, Cond.fieldLinkNest RX4 274 "PagePairs" (stn 4) "[I" host ∈ lw_tbl := Or.inr ⟨"PagePairs", (mem_tb (List.mem_of_getElem? (i := 574) (by decide +kernel)))⟩
theorem fX9_7 : FL RX9 7 RX9 TX9 0 := Or.inl (mem_tb (List.mem_of_getElem? (i := 766) (by decide +kernel)))
theorem flX9_7 : Cond.fieldLink RX9 7 RX9 (TX9 0).2.1 (TX9 0).2.2.1 ∈ lw_tbl := (mem_tb (List.mem_of_getElem? (i := 766) (by decide +kernel)))
theorem fX9_13 : FL RX9 13 RX9 TX9 1 := Or.inl (mem_tb (List.mem_of_getElem? (i := 767) (by decide +kernel)))
theorem flX9_13 : Cond.fieldLink RX9 13 RX9 (TX9 1).2.1 (TX9 1).2.2.1 ∈ lw_tbl := (mem_tb (List.mem_of_getElem? (i := 767) (by decide +kernel)))
theorem fX9_16 : FL RX9 16 RX9 TX9 2 := Or.inl (mem_tb (List.mem_of_getElem? (i := 768) (by decide +kernel)))
theorem flX9_16 : Cond.fieldLink RX9 16 RX9 (TX9 2).2.1 (TX9 2).2.2.1 ∈ lw_tbl := (mem_tb (List.mem_of_getElem? (i := 768) (by decide +kernel)))
theorem fX9_28 : FL RX9 28 RX9 TX9 3 := Or.inl (mem_tb (List.mem_of_getElem? (i := 769) (by decide +kernel)))
theorem flX9_28 : Cond.fieldLink RX9 28 RX9 (TX9 3).2.1 (TX9 3).2.2.1 ∈ lw_tbl := (mem_tb (List.mem_of_getElem? (i := 769) (by decide +kernel)))
theorem fX9_19 : FL RX9 19 RX9 TX9 4 := Or.inl (mem_tb (List.mem_of_getElem? (i := 770) (by decide +kernel)))
theorem flX9_19 : Cond.fieldLink RX9 19 RX9 (TX9 4).2.1 (TX9 4).2.2.1 ∈ lw_tbl := (mem_tb (List.mem_of_getElem? (i := 770) (by decide +kernel)))
theorem fX9_171 : FL RX9 171 RX9 TX9 5 := Or.inl (mem_tb (List.mem_of_getElem? (i := 771) (by decide +kernel)))
theorem flX9_171 : Cond.fieldLink RX9 171 RX9 (TX9 5).2.1 (TX9 5).2.2.1 ∈ lw_tbl := (mem_tb (List.mem_of_getElem? (i := 771) (by decide +kernel)))
theorem fX9_22 : FL RX9 22 RX9 TX9 6 := Or.inl (mem_tb (List.mem_of_getElem? (i := 772) (by decide +kernel)))
theorem flX9_22 : Cond.fieldLink RX9 22 RX9 (TX9 6).2.1 (TX9 6).2.2.1 ∈ lw_tbl := (mem_tb (List.mem_of_getElem? (i := 772) (by decide +kernel)))
theorem fX9_177 : FL RX9 177 RX9 TX9 7 := Or.inl (mem_tb (List.mem_of_getElem? (i := 773) (by decide +kernel)))
theorem flX9_177 : Cond.fieldLink RX9 177 RX9 (TX9 7).2.1 (TX9 7).2.2.1 ∈ lw_tbl := (mem_tb (List.mem_of_getElem? (i := 773) (by decide +kernel)))
theorem fX9_190 : FL RX9 190 RX9 TX9 8 := Or.inl (mem_tb (List.mem_of_getElem? (i := 774) (by decide +kernel)))
theorem flX9_190 : Cond.fieldLink RX9 190 RX9 (TX9 8).2.1 (TX9 8).2.2.1 ∈ lw_tbl := (mem_tb (List.mem_of_getElem? (i := 774) (by decide +kernel)))
theorem fX9_208 : FL RX9 208 RX9 TX9 9 := Or.inl (mem_tb (List.mem_of_getElem? (i := 775) (by decide +kernel)))
theorem flX9_208 : Cond.fieldLink RX9 208 RX9 (TX9 9).2.1 (TX9 9).2.2.1 ∈ lw_tbl := (mem_tb (List.mem_of_getElem? (i := 775) (by decide +kernel)))
theorem fX9_183 : FL RX9 183 RX9 TX9 10 := Or.inl (mem_tb (List.mem_of_getElem? (i := 776) (by decide +kernel)))
theorem flX9_183 : Cond.fieldLink RX9 183 RX9 (TX9 10).2.1 (TX9 10).2.2.1 ∈ lw_tbl := (mem_tb (List.mem_of_getElem? (i := 776) (by decide +kernel)))
abbrev M_J6_bitCount_0f7a4 : MT := (yJ6_bitCount_0f7a4, cJ6_bitCount_0f7a4, 1, some .int, 0, 0, 0, 0)
abbrev M_J9_max_7cf53 : MT := (yJ9_max_7cf53, cJ9_max_7cf53, 2, some .int, 0, 0, 0, 0)
abbrev M_J9_min_7cf53 : MT := (yJ9_min_7cf53, cJ9_min_7cf53, 2, some .int, 0, 0, 0, 0)
abbrev M_L_law : MT := (yL_law, cL_law, 4, some .boolean, 14, 534, 600000, 7302250)
abbrev M_X0_begin : MT := (yX0_begin, cX0_begin, 5, none, 0, 0, 0, 0)
abbrev M_X0_beginBackup : MT := (yX0_beginBackup, cX0_beginBackup, 3, none, 0, 0, 0, 0)
abbrev M_X0_blankBlock : MT := (yX0_blankBlock, cX0_blankBlock, 3, none, 1, 22, 0, 0)
abbrev M_X0_copyFrom : MT := (yX0_copyFrom, cX0_copyFrom, 2, none, 2, 51, 0, 0)
abbrev M_X0_fact : MT := (yX0_fact, cX0_fact, 3, some .int, 1, 21, 0, 0)
abbrev M_X0_init : MT := (yX0_init, cX0_init, 1, none, 1, 20, 4, 192)
abbrev M_X0_isBlankBlock : MT := (yX0_isBlankBlock, cX0_isBlankBlock, 3, some .boolean, 1, 21, 0, 0)
abbrev M_X0_isPlace : MT := (yX0_isPlace, cX0_isPlace, 2, some .boolean, 1, 24, 0, 0)
abbrev M_X0_key : MT := (yX0_key, cX0_key, 2, some .int, 0, 0, 0, 0)
abbrev M_X0_keysWithPlace : MT := (yX0_keysWithPlace, cX0_keysWithPlace, 3, some .int, 1, 24, 0, 0)
abbrev M_X0_kind : MT := (yX0_kind, cX0_kind, 2, some .int, 0, 0, 0, 0)
abbrev M_X0_mark : MT := (yX0_mark, cX0_mark, 3, none, 0, 0, 0, 0)
abbrev M_X0_place : MT := (yX0_place, cX0_place, 5, some .int, 0, 0, 0, 0)
abbrev M_X0_placeStamp : MT := (yX0_placeStamp, cX0_placeStamp, 3, some .int, 1, 24, 0, 0)
abbrev M_X0_placesInBlock : MT := (yX0_placesInBlock, cX0_placesInBlock, 4, some .int, 2, 45, 0, 0)
abbrev M_X0_stamp : MT := (yX0_stamp, cX0_stamp, 2, some .int, 0, 0, 0, 0)
abbrev M_X0_tornPages : MT := (yX0_tornPages, cX0_tornPages, 3, some .int, 0, 0, 0, 0)
abbrev M_X0_value : MT := (yX0_value, cX0_value, 2, some .int, 0, 0, 0, 0)
abbrev M_X1_dropOldest : MT := (yX1_dropOldest, cX1_dropOldest, 3, none, 1, 21, 0, 0)
abbrev M_X1_init : MT := (yX1_init, cX1_init, 2, none, 3, 71, 86, 1430)
abbrev M_X1_keep : MT := (yX1_keep, cX1_keep, 1, none, 2, 43, 0, 0)
abbrev M_X1_note : MT := (yX1_note, cX1_note, 3, none, 4, 93, 0, 0)
abbrev M_X1_restore : MT := (yX1_restore, cX1_restore, 3, some .int, 4, 93, 0, 0)
abbrev M_X1_size : MT := (yX1_size, cX1_size, 1, some .int, 0, 0, 0, 0)
abbrev M_X1_stateAt : MT := (yX1_stateAt, cX1_stateAt, 2, some (.object "PagePairs$State"), 0, 0, 0, 0)
abbrev M_X2_add : MT := (yX2_add, cX2_add, 7, none, 1, 25, 0, 0)
abbrev M_X2_copyFrom : MT := (yX2_copyFrom, cX2_copyFrom, 2, none, 2, 51, 0, 0)
abbrev M_X2_dropFirst : MT := (yX2_dropFirst, cX2_dropFirst, 2, none, 1, 22, 0, 0)
abbrev M_X2_init : MT := (yX2_init, cX2_init, 1, none, 1, 20, 4, 32)
abbrev M_X2_key : MT := (yX2_key, cX2_key, 2, some .int, 0, 0, 0, 0)
abbrev M_X2_makeEmpty : MT := (yX2_makeEmpty, cX2_makeEmpty, 1, none, 0, 0, 0, 0)
abbrev M_X2_move : MT := (yX2_move, cX2_move, 3, none, 0, 0, 0, 0)
abbrev M_X2_put : MT := (yX2_put, cX2_put, 6, none, 0, 0, 0, 0)
abbrev M_X2_size : MT := (yX2_size, cX2_size, 1, some .int, 0, 0, 0, 0)
abbrev M_X2_stamp : MT := (yX2_stamp, cX2_stamp, 2, some .int, 0, 0, 0, 0)
abbrev M_X2_urgency : MT := (yX2_urgency, cX2_urgency, 2, some .int, 0, 0, 0, 0)
abbrev M_X2_value : MT := (yX2_value, cX2_value, 2, some .int, 0, 0, 0, 0)
abbrev M_X3_commandsDone : MT := (yX3_commandsDone, cX3_commandsDone, 1, some .int, 0, 0, 0, 0)
abbrev M_X3_faultFact : MT := (yX3_faultFact, cX3_faultFact, 2, some .int, 0, 0, 0, 0)
abbrev M_X3_hasFault : MT := (yX3_hasFault, cX3_hasFault, 1, some .boolean, 0, 0, 0, 0)
abbrev M_X3_init : MT := (yX3_init, cX3_init, 1, none, 1, 20, 0, 0)
abbrev M_X3_perform : MT := (yX3_perform, cX3_perform, 2, some .int, 5, 112, 0, 0)
abbrev M_X3_run : MT := (yX3_run, cX3_run, 5, none, 6, 133, 0, 0)
abbrev M_X3_tellFault : MT := (yX3_tellFault, cX3_tellFault, 3, none, 0, 0, 0, 0)
abbrev M_X4_askFor : MT := (yX4_askFor, cX4_askFor, 4, some .int, 2, 51, 0, 0)
abbrev M_X4_askForCopy : MT := (yX4_askForCopy, cX4_askForCopy, 3, none, 2, 51, 0, 0)
abbrev M_X4_backupFact : MT := (yX4_backupFact, cX4_backupFact, 5, some .int, 2, 43, 0, 0)
abbrev M_X4_beginWriting : MT := (yX4_beginWriting, cX4_beginWriting, 2, none, 1, 24, 0, 0)
abbrev M_X4_changeSetting : MT := (yX4_changeSetting, cX4_changeSetting, 4, some .int, 1, 22, 0, 0)
abbrev M_X4_changeSlowness : MT := (yX4_changeSlowness, cX4_changeSlowness, 4, some .int, 1, 22, 0, 0)
abbrev M_X4_cleanBlock : MT := (yX4_cleanBlock, cX4_cleanBlock, 4, some .int, 3, 73, 0, 0)
abbrev M_X4_copyFrom : MT := (yX4_copyFrom, cX4_copyFrom, 2, none, 3, 72, 0, 0)
abbrev M_X4_cutPower : MT := (yX4_cutPower, cX4_cutPower, 1, some .int, 3, 68, 0, 0)
abbrev M_X4_eraseBlock : MT := (yX4_eraseBlock, cX4_eraseBlock, 3, some .int, 3, 68, 0, 0)
abbrev M_X4_finishWriting : MT := (yX4_finishWriting, cX4_finishWriting, 1, none, 1, 22, 0, 0)
abbrev M_X4_goOn : MT := (yX4_goOn, cX4_goOn, 2, none, 2, 42, 0, 0)
abbrev M_X4_hasPower : MT := (yX4_hasPower, cX4_hasPower, 1, some .boolean, 0, 0, 0, 0)
abbrev M_X4_init : MT := (yX4_init, cX4_init, 1, none, 2, 51, 16, 274)
abbrev M_X4_isFull : MT := (yX4_isFull, cX4_isFull, 1, some .boolean, 0, 0, 0, 0)
abbrev M_X4_isOutdated : MT := (yX4_isOutdated, cX4_isOutdated, 3, some .boolean, 1, 24, 0, 0)
abbrev M_X4_letTicks : MT := (yX4_letTicks, cX4_letTicks, 3, some .int, 4, 90, 0, 0)
abbrev M_X4_loseByCut : MT := (yX4_loseByCut, cX4_loseByCut, 3, some .int, 2, 46, 0, 0)
abbrev M_X4_numberOf : MT := (yX4_numberOf, cX4_numberOf, 2, some .int, 2, 46, 0, 0)
abbrev M_X4_pageFact : MT := (yX4_pageFact, cX4_pageFact, 5, some .int, 2, 43, 0, 0)
abbrev M_X4_pass : MT := (yX4_pass, cX4_pass, 4, none, 3, 67, 0, 0)
abbrev M_X4_passUntilDone : MT := (yX4_passUntilDone, cX4_passUntilDone, 3, some .int, 4, 90, 0, 0)
abbrev M_X4_placeFact : MT := (yX4_placeFact, cX4_placeFact, 4, some .int, 1, 24, 0, 0)
abbrev M_X4_requestFact : MT := (yX4_requestFact, cX4_requestFact, 3, some .int, 1, 22, 0, 0)
abbrev M_X4_restorePower : MT := (yX4_restorePower, cX4_restorePower, 3, some .int, 3, 73, 0, 0)
abbrev M_X4_settingOrSlowness : MT := (yX4_settingOrSlowness, cX4_settingOrSlowness, 2, some .int, 1, 22, 0, 0)
abbrev M_X4_takeRequests : MT := (yX4_takeRequests, cX4_takeRequests, 2, none, 2, 46, 0, 0)
abbrev M_X4_tearWriting : MT := (yX4_tearWriting, cX4_tearWriting, 1, none, 1, 22, 0, 0)
abbrev M_X4_turnToOther : MT := (yX4_turnToOther, cX4_turnToOther, 2, some .int, 2, 43, 0, 0)
abbrev M_X4_valueOfKey : MT := (yX4_valueOfKey, cX4_valueOfKey, 3, some .int, 1, 24, 0, 0)
abbrev M_X5_copyFrom : MT := (yX5_copyFrom, cX5_copyFrom, 2, none, 0, 0, 0, 0)
abbrev M_X5_init : MT := (yX5_init, cX5_init, 1, none, 1, 20, 0, 0)
abbrev M_X6_append : MT := (yX6_append, cX6_append, 2, some .int, 1, 22, 0, 0)
abbrev M_X6_hasMore : MT := (yX6_hasMore, cX6_hasMore, 1, some .boolean, 0, 0, 0, 0)
abbrev M_X6_init : MT := (yX6_init, cX6_init, 1, none, 1, 20, 1, 60)
abbrev M_X6_length : MT := (yX6_length, cX6_length, 1, some .int, 0, 0, 0, 0)
abbrev M_X6_makeEmpty : MT := (yX6_makeEmpty, cX6_makeEmpty, 2, some .int, 0, 0, 0, 0)
abbrev M_X6_numbersOf : MT := (yX6_numbersOf, cX6_numbersOf, 1, some .int, 0, 0, 0, 0)
abbrev M_X6_readCommand : MT := (yX6_readCommand, cX6_readCommand, 2, some .boolean, 3, 63, 0, 0)
abbrev M_X6_readNumber : MT := (yX6_readNumber, cX6_readNumber, 3, some .int, 2, 41, 0, 0)
abbrev M_X6_readSign : MT := (yX6_readSign, cX6_readSign, 3, some .boolean, 2, 41, 0, 0)
abbrev M_X6_rewind : MT := (yX6_rewind, cX6_rewind, 1, none, 0, 0, 0, 0)
abbrev M_X6_sign : MT := (yX6_sign, cX6_sign, 1, some .int, 1, 21, 0, 0)
abbrev M_X7_copyFrom : MT := (yX7_copyFrom, cX7_copyFrom, 2, none, 0, 0, 0, 0)
abbrev M_X7_hasBegunItself : MT := (yX7_hasBegunItself, cX7_hasBegunItself, 1, some .boolean, 0, 0, 0, 0)
abbrev M_X7_init : MT := (yX7_init, cX7_init, 1, none, 1, 20, 0, 0)
abbrev M_X7_isAskedFor : MT := (yX7_isAskedFor, cX7_isAskedFor, 1, some .boolean, 0, 0, 0, 0)
abbrev M_X7_isBehindBackup : MT := (yX7_isBehindBackup, cX7_isBehindBackup, 1, some .boolean, 0, 0, 0, 0)
abbrev M_X8_backupOf : MT := (yX8_backupOf, cX8_backupOf, 4, some .int, 3, 67, 0, 0)
abbrev M_X8_cellOf : MT := (yX8_cellOf, cX8_cellOf, 2, some .int, 0, 0, 0, 0)
abbrev M_X8_clean : MT := (yX8_clean, cX8_clean, 2, some .int, 5, 115, 0, 0)
abbrev M_X8_clearText : MT := (yX8_clearText, cX8_clearText, 1, some .int, 1, 21, 0, 0)
abbrev M_X8_copyRow : MT := (yX8_copyRow, cX8_copyRow, 2, none, 1, 30, 0, 0)
abbrev M_X8_count : MT := (yX8_count, cX8_count, 2, some .int, 3, 67, 0, 0)
abbrev M_X8_cut : MT := (yX8_cut, cX8_cut, 1, some .int, 5, 115, 0, 0)
abbrev M_X8_doneIn : MT := (yX8_doneIn, cX8_doneIn, 1, some .int, 5, 112, 0, 0)
abbrev M_X8_earlyPosition : MT := (yX8_earlyPosition, cX8_earlyPosition, 1, some .int, 0, 0, 0, 0)
abbrev M_X8_erase : MT := (yX8_erase, cX8_erase, 2, some .int, 5, 115, 0, 0)
abbrev M_X8_fault : MT := (yX8_fault, cX8_fault, 2, some .int, 7, 157, 0, 0)
abbrev M_X8_init : MT := (yX8_init, cX8_init, 1, none, 4, 92, 124, 2073)
abbrev M_X8_isIn : MT := (yX8_isIn, cX8_isIn, 3, some .boolean, 0, 0, 0, 0)
abbrev M_X8_keepChange : MT := (yX8_keepChange, cX8_keepChange, 2, some .int, 3, 63, 0, 0)
abbrev M_X8_on : MT := (yX8_on, cX8_on, 1, some .int, 5, 115, 0, 0)
abbrev M_X8_pageOf : MT := (yX8_pageOf, cX8_pageOf, 4, some .int, 3, 67, 0, 0)
abbrev M_X8_placeOf : MT := (yX8_placeOf, cX8_placeOf, 3, some .int, 2, 47, 0, 0)
abbrev M_X8_play : MT := (yX8_play, cX8_play, 1, some .int, 7, 157, 0, 0)
abbrev M_X8_putAt : MT := (yX8_putAt, cX8_putAt, 3, none, 0, 0, 0, 0)
abbrev M_X8_quotient : MT := (yX8_quotient, cX8_quotient, 2, some .int, 0, 0, 0, 0)
abbrev M_X8_read : MT := (yX8_read, cX8_read, 2, some .int, 2, 46, 0, 0)
abbrev M_X8_set : MT := (yX8_set, cX8_set, 3, some .int, 5, 115, 0, 0)
abbrev M_X8_slow : MT := (yX8_slow, cX8_slow, 3, some .int, 5, 115, 0, 0)
abbrev M_X8_tick : MT := (yX8_tick, cX8_tick, 2, some .int, 5, 115, 0, 0)
abbrev M_X8_turn : MT := (yX8_turn, cX8_turn, 1, some .int, 5, 115, 0, 0)
abbrev M_X8_type : MT := (yX8_type, cX8_type, 2, some .int, 2, 43, 0, 0)
abbrev M_X8_undo : MT := (yX8_undo, cX8_undo, 1, some .int, 5, 115, 0, 0)
abbrev M_X8_valueAt : MT := (yX8_valueAt, cX8_valueAt, 2, some .int, 0, 0, 0, 0)
abbrev M_X8_waits : MT := (yX8_waits, cX8_waits, 3, some .int, 2, 44, 0, 0)
abbrev M_X8_wouldLose : MT := (yX8_wouldLose, cX8_wouldLose, 2, some .int, 4, 93, 0, 0)
abbrev M_X8_write : MT := (yX8_write, cX8_write, 4, some .int, 5, 115, 0, 0)
abbrev M_X9_acted : MT := (yX9_acted, cX9_acted, 3, some .int, 1, 21, 0, 0)
abbrev M_X9_asks : MT := (yX9_asks, cX9_asks, 4, some .int, 1, 26, 0, 0)
abbrev M_X9_atPlace : MT := (yX9_atPlace, cX9_atPlace, 3, some .int, 1, 22, 0, 0)
abbrev M_X9_backupAt : MT := (yX9_backupAt, cX9_backupAt, 3, some .int, 0, 0, 0, 0)
abbrev M_X9_backupOf : MT := (yX9_backupOf, cX9_backupOf, 5, some .int, 2, 42, 0, 0)
abbrev M_X9_begin1 : MT := (yX9_begin1, cX9_begin1, 7, none, 2, 40, 0, 0)
abbrev M_X9_begins : MT := (yX9_begins, cX9_begins, 2, none, 0, 0, 0, 0)
abbrev M_X9_breaks : MT := (yX9_breaks, cX9_breaks, 3, some .int, 4, 92, 0, 0)
abbrev M_X9_called : MT := (yX9_called, cX9_called, 4, some .int, 9, 197, 0, 0)
abbrev M_X9_changes : MT := (yX9_changes, cX9_changes, 1, some .int, 2, 45, 0, 0)
abbrev M_X9_clean : MT := (yX9_clean, cX9_clean, 2, some .int, 5, 114, 0, 0)
abbrev M_X9_cleans : MT := (yX9_cleans, cX9_cleans, 4, some .int, 4, 91, 0, 0)
abbrev M_X9_clearText : MT := (yX9_clearText, cX9_clearText, 2, some .int, 0, 0, 0, 0)
abbrev M_X9_clearsBackup : MT := (yX9_clearsBackup, cX9_clearsBackup, 4, none, 1, 22, 0, 0)
abbrev M_X9_clearsNow : MT := (yX9_clearsNow, cX9_clearsNow, 2, none, 0, 0, 0, 0)
abbrev M_X9_comes : MT := (yX9_comes, cX9_comes, 7, none, 0, 0, 0, 0)
abbrev M_X9_copies : MT := (yX9_copies, cX9_copies, 4, none, 2, 44, 0, 0)
abbrev M_X9_count : MT := (yX9_count, cX9_count, 2, some .int, 5, 113, 0, 0)
abbrev M_X9_counted : MT := (yX9_counted, cX9_counted, 2, some .int, 4, 92, 0, 0)
abbrev M_X9_cut : MT := (yX9_cut, cX9_cut, 1, some .int, 6, 135, 0, 0)
abbrev M_X9_does : MT := (yX9_does, cX9_does, 5, some .int, 10, 220, 0, 0)
abbrev M_X9_doneIn : MT := (yX9_doneIn, cX9_doneIn, 3, some .int, 7, 153, 0, 0)
abbrev M_X9_earlyOf : MT := (yX9_earlyOf, cX9_earlyOf, 1, some .int, 0, 0, 0, 0)
abbrev M_X9_ends : MT := (yX9_ends, cX9_ends, 4, none, 2, 45, 0, 0)
abbrev M_X9_erase : MT := (yX9_erase, cX9_erase, 2, some .int, 5, 114, 0, 0)
abbrev M_X9_erases : MT := (yX9_erases, cX9_erases, 4, some .int, 4, 91, 0, 0)
abbrev M_X9_fault : MT := (yX9_fault, cX9_fault, 4, some .int, 11, 244, 0, 0)
abbrev M_X9_goes : MT := (yX9_goes, cX9_goes, 4, some .int, 7, 153, 0, 0)
abbrev M_X9_goesFirst : MT := (yX9_goesFirst, cX9_goesFirst, 2, none, 0, 0, 0, 0)
abbrev M_X9_hasOne : MT := (yX9_hasOne, cX9_hasOne, 1, some .boolean, 0, 0, 0, 0)
abbrev M_X9_hasTwo : MT := (yX9_hasTwo, cX9_hasTwo, 1, some .boolean, 0, 0, 0, 0)
abbrev M_X9_here : MT := (yX9_here, cX9_here, 1, some .int, 0, 0, 0, 0)
abbrev M_X9_in : MT := (yX9_in, cX9_in, 3, some .boolean, 0, 0, 0, 0)
abbrev M_X9_init : MT := (yX9_init, cX9_init, 1, none, 1, 20, 5, 1608)
abbrev M_X9_isBlank : MT := (yX9_isBlank, cX9_isBlank, 4, some .boolean, 1, 22, 0, 0)
abbrev M_X9_isBlock : MT := (yX9_isBlock, cX9_isBlock, 1, some .boolean, 1, 22, 0, 0)
abbrev M_X9_isDigit : MT := (yX9_isDigit, cX9_isDigit, 1, some .boolean, 1, 22, 0, 0)
abbrev M_X9_isKey : MT := (yX9_isKey, cX9_isKey, 1, some .boolean, 1, 22, 0, 0)
abbrev M_X9_isLate : MT := (yX9_isLate, cX9_isLate, 1, some .boolean, 0, 0, 0, 0)
abbrev M_X9_isOff : MT := (yX9_isOff, cX9_isOff, 1, some .boolean, 0, 0, 0, 0)
abbrev M_X9_isPassed : MT := (yX9_isPassed, cX9_isPassed, 1, some .boolean, 4, 92, 0, 0)
abbrev M_X9_isPlace : MT := (yX9_isPlace, cX9_isPlace, 2, some .boolean, 3, 70, 0, 0)
abbrev M_X9_isWriting : MT := (yX9_isWriting, cX9_isWriting, 1, some .boolean, 1, 21, 0, 0)
abbrev M_X9_keysThere : MT := (yX9_keysThere, cX9_keysThere, 3, some .int, 3, 70, 0, 0)
abbrev M_X9_lets : MT := (yX9_lets, cX9_lets, 2, some .int, 8, 176, 0, 0)
abbrev M_X9_lineOf : MT := (yX9_lineOf, cX9_lineOf, 1, some .int, 1, 20, 0, 0)
abbrev M_X9_next : MT := (yX9_next, cX9_next, 2, some .int, 1, 22, 0, 0)
abbrev M_X9_now : MT := (yX9_now, cX9_now, 2, some .int, 0, 0, 0, 0)
abbrev M_X9_number : MT := (yX9_number, cX9_number, 3, some .int, 2, 42, 0, 0)
abbrev M_X9_on : MT := (yX9_on, cX9_on, 1, some .int, 5, 112, 0, 0)
abbrev M_X9_ones : MT := (yX9_ones, cX9_ones, 3, some .int, 0, 0, 0, 0)
abbrev M_X9_pageAt : MT := (yX9_pageAt, cX9_pageAt, 3, some .int, 0, 0, 0, 0)
abbrev M_X9_pageOf : MT := (yX9_pageOf, cX9_pageOf, 5, some .int, 2, 42, 0, 0)
abbrev M_X9_placeOf : MT := (yX9_placeOf, cX9_placeOf, 4, some .int, 3, 70, 0, 0)
abbrev M_X9_placeOfKey : MT := (yX9_placeOfKey, cX9_placeOfKey, 7, some .int, 2, 44, 0, 0)
abbrev M_X9_play : MT := (yX9_play, cX9_play, 1, some .int, 11, 244, 0, 0)
abbrev M_X9_puts : MT := (yX9_puts, cX9_puts, 4, some .int, 0, 0, 0, 0)
abbrev M_X9_read : MT := (yX9_read, cX9_read, 3, some .int, 3, 70, 0, 0)
abbrev M_X9_returns : MT := (yX9_returns, cX9_returns, 2, none, 0, 0, 0, 0)
abbrev M_X9_set : MT := (yX9_set, cX9_set, 4, some .int, 2, 43, 0, 0)
abbrev M_X9_slow : MT := (yX9_slow, cX9_slow, 3, some .int, 2, 43, 0, 0)
abbrev M_X9_stampOf : MT := (yX9_stampOf, cX9_stampOf, 3, some .int, 3, 70, 0, 0)
abbrev M_X9_takes : MT := (yX9_takes, cX9_takes, 2, none, 5, 112, 0, 0)
abbrev M_X9_takesSign : MT := (yX9_takesSign, cX9_takesSign, 2, none, 1, 20, 0, 0)
abbrev M_X9_tears : MT := (yX9_tears, cX9_tears, 4, none, 1, 22, 0, 0)
abbrev M_X9_tick : MT := (yX9_tick, cX9_tick, 2, some .int, 9, 197, 0, 0)
abbrev M_X9_ticks : MT := (yX9_ticks, cX9_ticks, 1, none, 6, 133, 0, 0)
abbrev M_X9_torn : MT := (yX9_torn, cX9_torn, 3, some .int, 0, 0, 0, 0)
abbrev M_X9_turn : MT := (yX9_turn, cX9_turn, 1, some .int, 3, 65, 0, 0)
abbrev M_X9_turnsOff : MT := (yX9_turnsOff, cX9_turnsOff, 2, some .int, 5, 114, 0, 0)
abbrev M_X9_turnsOn : MT := (yX9_turnsOn, cX9_turnsOn, 2, some .int, 4, 91, 0, 0)
abbrev M_X9_type : MT := (yX9_type, cX9_type, 2, some .int, 1, 22, 0, 0)
abbrev M_X9_undo : MT := (yX9_undo, cX9_undo, 2, some .int, 0, 0, 0, 0)
abbrev M_X9_waits : MT := (yX9_waits, cX9_waits, 3, some .int, 1, 22, 0, 0)
abbrev M_X9_wouldLose : MT := (yX9_wouldLose, cX9_wouldLose, 4, some .int, 8, 176, 0, 0)
abbrev M_X9_write : MT := (yX9_write, cX9_write, 4, some .int, 2, 49, 0, 0)
theorem oiX0_3 : Cond.methodLink RX0 3 Lib.objectInit ∈ lw_tbl := (mem_tb (List.mem_of_getElem? (i := 33) (by decide +kernel)))
theorem clX0_24 : CLS RX0 24 M_X8_copyRow 2 := ⟨⟨Or.inr ⟨"PagePairs", (mem_tb (List.mem_of_getElem? (i := 295) (by decide +kernel)))⟩, (mem_tb (List.mem_of_getElem? (i := 148) (by decide +kernel))), (mem_tb (List.mem_of_getElem? (i := 1) (by decide +kernel))), by decide +kernel, by decide +kernel⟩, (mem_tb (List.mem_of_getElem? (i := 147) (by decide +kernel)))⟩
theorem clX0_28 : CLV RX0 28 M_X0_key 1 := ⟨⟨Or.inl (mem_tb (List.mem_of_getElem? (i := 505) (by decide +kernel))), (mem_tb (List.mem_of_getElem? (i := 508) (by decide +kernel))), (mem_tb (List.mem_of_getElem? (i := 3) (by decide +kernel))), by decide +kernel, by decide +kernel⟩, (mem_tb (List.mem_of_getElem? (i := 506) (by decide +kernel))), (mem_tb (List.mem_of_getElem? (i := 507) (by decide +kernel)))⟩
theorem clX0_32 : CLV RX0 32 M_X0_value 1 := ⟨⟨Or.inl (mem_tb (List.mem_of_getElem? (i := 604) (by decide +kernel))), (mem_tb (List.mem_of_getElem? (i := 513) (by decide +kernel))), (mem_tb (List.mem_of_getElem? (i := 3) (by decide +kernel))), by decide +kernel, by decide +kernel⟩, (mem_tb (List.mem_of_getElem? (i := 511) (by decide +kernel))), (mem_tb (List.mem_of_getElem? (i := 512) (by decide +kernel)))⟩
theorem clX0_35 : CLV RX0 35 M_X0_stamp 1 := ⟨⟨Or.inl (mem_tb (List.mem_of_getElem? (i := 469) (by decide +kernel))), (mem_tb (List.mem_of_getElem? (i := 382) (by decide +kernel))), (mem_tb (List.mem_of_getElem? (i := 3) (by decide +kernel))), by decide +kernel, by decide +kernel⟩, (mem_tb (List.mem_of_getElem? (i := 380) (by decide +kernel))), (mem_tb (List.mem_of_getElem? (i := 381) (by decide +kernel)))⟩
theorem clX0_38 : CLS RX0 38 M_X8_cellOf 2 := ⟨⟨Or.inr ⟨"PagePairs", (mem_tb (List.mem_of_getElem? (i := 526) (by decide +kernel)))⟩, (mem_tb (List.mem_of_getElem? (i := 400) (by decide +kernel))), (mem_tb (List.mem_of_getElem? (i := 1) (by decide +kernel))), by decide +kernel, by decide +kernel⟩, (mem_tb (List.mem_of_getElem? (i := 399) (by decide +kernel)))⟩
theorem clX0_42 : CLV RX0 42 M_X0_mark 2 := ⟨⟨Or.inl (mem_tb (List.mem_of_getElem? (i := 552) (by decide +kernel))), (mem_tb (List.mem_of_getElem? (i := 443) (by decide +kernel))), (mem_tb (List.mem_of_getElem? (i := 3) (by decide +kernel))), by decide +kernel, by decide +kernel⟩, (mem_tb (List.mem_of_getElem? (i := 441) (by decide +kernel))), (mem_tb (List.mem_of_getElem? (i := 442) (by decide +kernel)))⟩
theorem clX0_46 : CLV RX0 46 M_X0_kind 1 := ⟨⟨Or.inl (mem_tb (List.mem_of_getElem? (i := 504) (by decide +kernel))), (mem_tb (List.mem_of_getElem? (i := 418) (by decide +kernel))), (mem_tb (List.mem_of_getElem? (i := 3) (by decide +kernel))), by decide +kernel, by decide +kernel⟩, (mem_tb (List.mem_of_getElem? (i := 416) (by decide +kernel))), (mem_tb (List.mem_of_getElem? (i := 417) (by decide +kernel)))⟩
theorem clX0_49 : CLV RX0 49 M_X0_place 1 := ⟨⟨Or.inl (mem_tb (List.mem_of_getElem? (i := 468) (by decide +kernel))), (mem_tb (List.mem_of_getElem? (i := 378) (by decide +kernel))), (mem_tb (List.mem_of_getElem? (i := 3) (by decide +kernel))), by decide +kernel, by decide +kernel⟩, (mem_tb (List.mem_of_getElem? (i := 376) (by decide +kernel))), (mem_tb (List.mem_of_getElem? (i := 377) (by decide +kernel)))⟩
theorem clX0_52 : CLV RX0 52 M_X0_isPlace 1 := ⟨⟨Or.inl (mem_tb (List.mem_of_getElem? (i := 539) (by decide +kernel))), (mem_tb (List.mem_of_getElem? (i := 503) (by decide +kernel))), (mem_tb (List.mem_of_getElem? (i := 3) (by decide +kernel))), by decide +kernel, by decide +kernel⟩, (mem_tb (List.mem_of_getElem? (i := 501) (by decide +kernel))), (mem_tb (List.mem_of_getElem? (i := 502) (by decide +kernel)))⟩
theorem oiX1_3 : Cond.methodLink RX1 3 Lib.objectInit ∈ lw_tbl := (mem_tb (List.mem_of_getElem? (i := 194) (by decide +kernel)))
theorem clX1_17 : CLI RX1 17 M_X4_init 0 := ⟨⟨Or.inl (mem_tb (List.mem_of_getElem? (i := 197) (by decide +kernel))), (mem_tb (List.mem_of_getElem? (i := 26) (by decide +kernel))), (mem_tb (List.mem_of_getElem? (i := 2) (by decide +kernel))), by decide +kernel, by decide +kernel⟩, by decide +kernel, (mem_tb (List.mem_of_getElem? (i := 25) (by decide +kernel))), rfl⟩
theorem clX1_22 : CLV RX1 22 M_X1_stateAt 1 := ⟨⟨Or.inl (mem_tb (List.mem_of_getElem? (i := 283) (by decide +kernel))), (mem_tb (List.mem_of_getElem? (i := 286) (by decide +kernel))), (mem_tb (List.mem_of_getElem? (i := 9) (by decide +kernel))), by decide +kernel, by decide +kernel⟩, (mem_tb (List.mem_of_getElem? (i := 285) (by decide +kernel))), (mem_sel (List.mem_of_getElem? (i := 0) (by decide +kernel)))⟩
theorem clX1_26 : CLV RX1 26 M_X4_copyFrom 1 := ⟨⟨Or.inl (mem_tb (List.mem_of_getElem? (i := 287) (by decide +kernel))), (mem_tb (List.mem_of_getElem? (i := 290) (by decide +kernel))), (mem_tb (List.mem_of_getElem? (i := 2) (by decide +kernel))), by decide +kernel, by decide +kernel⟩, (mem_tb (List.mem_of_getElem? (i := 288) (by decide +kernel))), (mem_tb (List.mem_of_getElem? (i := 289) (by decide +kernel)))⟩
theorem clX1_30 : CLV RX1 30 M_X1_dropOldest 0 := ⟨⟨Or.inl (mem_tb (List.mem_of_getElem? (i := 342) (by decide +kernel))), (mem_tb (List.mem_of_getElem? (i := 345) (by decide +kernel))), (mem_tb (List.mem_of_getElem? (i := 9) (by decide +kernel))), by decide +kernel, by decide +kernel⟩, (mem_tb (List.mem_of_getElem? (i := 344) (by decide +kernel))), (mem_sel (List.mem_of_getElem? (i := 4) (by decide +kernel)))⟩
theorem oiX2_3 : Cond.methodLink RX2 3 Lib.objectInit ∈ lw_tbl := (mem_tb (List.mem_of_getElem? (i := 53) (by decide +kernel)))
theorem clX2_24 : CLS RX2 24 M_X8_copyRow 2 := ⟨⟨Or.inr ⟨"PagePairs", (mem_tb (List.mem_of_getElem? (i := 300) (by decide +kernel)))⟩, (mem_tb (List.mem_of_getElem? (i := 148) (by decide +kernel))), (mem_tb (List.mem_of_getElem? (i := 1) (by decide +kernel))), by decide +kernel, by decide +kernel⟩, (mem_tb (List.mem_of_getElem? (i := 147) (by decide +kernel)))⟩
theorem clX2_32 : CLV RX2 32 M_X2_urgency 1 := ⟨⟨Or.inl (mem_tb (List.mem_of_getElem? (i := 322) (by decide +kernel))), (mem_tb (List.mem_of_getElem? (i := 325) (by decide +kernel))), (mem_tb (List.mem_of_getElem? (i := 4) (by decide +kernel))), by decide +kernel, by decide +kernel⟩, (mem_tb (List.mem_of_getElem? (i := 323) (by decide +kernel))), (mem_tb (List.mem_of_getElem? (i := 324) (by decide +kernel)))⟩
theorem clX2_36 : CLV RX2 36 M_X2_move 2 := ⟨⟨Or.inl (mem_tb (List.mem_of_getElem? (i := 326) (by decide +kernel))), (mem_tb (List.mem_of_getElem? (i := 329) (by decide +kernel))), (mem_tb (List.mem_of_getElem? (i := 4) (by decide +kernel))), by decide +kernel, by decide +kernel⟩, (mem_tb (List.mem_of_getElem? (i := 328) (by decide +kernel))), (mem_sel (List.mem_of_getElem? (i := 1) (by decide +kernel)))⟩
theorem clX2_40 : CLV RX2 40 M_X2_put 5 := ⟨⟨Or.inl (mem_tb (List.mem_of_getElem? (i := 330) (by decide +kernel))), (mem_tb (List.mem_of_getElem? (i := 333) (by decide +kernel))), (mem_tb (List.mem_of_getElem? (i := 4) (by decide +kernel))), by decide +kernel, by decide +kernel⟩, (mem_tb (List.mem_of_getElem? (i := 332) (by decide +kernel))), (mem_sel (List.mem_of_getElem? (i := 2) (by decide +kernel)))⟩
theorem clX2_44 : CLS RX2 44 M_J9_max_7cf53 2 := ⟨⟨Or.inl (mem_tb (List.mem_of_getElem? (i := 427) (by decide +kernel))), (mem_tb (List.mem_of_getElem? (i := 429) (by decide +kernel))), (mem_tb (List.mem_of_getElem? (i := 7) (by decide +kernel))), by decide +kernel, by decide +kernel⟩, (mem_tb (List.mem_of_getElem? (i := 428) (by decide +kernel)))⟩
theorem oiX3_3 : Cond.methodLink RX3 3 Lib.objectInit ∈ lw_tbl := (mem_tb (List.mem_of_getElem? (i := 239) (by decide +kernel)))
theorem clX3_19 : CLV RX3 19 M_X6_rewind 0 := ⟨⟨Or.inl (mem_tb (List.mem_of_getElem? (i := 702) (by decide +kernel))), (mem_tb (List.mem_of_getElem? (i := 705) (by decide +kernel))), (mem_tb (List.mem_of_getElem? (i := 10) (by decide +kernel))), by decide +kernel, by decide +kernel⟩, (mem_tb (List.mem_of_getElem? (i := 703) (by decide +kernel))), (mem_tb (List.mem_of_getElem? (i := 704) (by decide +kernel)))⟩
theorem clX3_24 : CLV RX3 24 M_X6_hasMore 0 := ⟨⟨Or.inl (mem_tb (List.mem_of_getElem? (i := 706) (by decide +kernel))), (mem_tb (List.mem_of_getElem? (i := 709) (by decide +kernel))), (mem_tb (List.mem_of_getElem? (i := 10) (by decide +kernel))), by decide +kernel, by decide +kernel⟩, (mem_tb (List.mem_of_getElem? (i := 707) (by decide +kernel))), (mem_tb (List.mem_of_getElem? (i := 708) (by decide +kernel)))⟩
theorem clX3_34 : CLV RX3 34 M_X6_readCommand 0 := ⟨⟨Or.inl (mem_tb (List.mem_of_getElem? (i := 710) (by decide +kernel))), (mem_tb (List.mem_of_getElem? (i := 713) (by decide +kernel))), (mem_tb (List.mem_of_getElem? (i := 10) (by decide +kernel))), by decide +kernel, by decide +kernel⟩, (mem_tb (List.mem_of_getElem? (i := 711) (by decide +kernel))), (mem_tb (List.mem_of_getElem? (i := 712) (by decide +kernel)))⟩
theorem clX3_37 : CLV RX3 37 M_X3_tellFault 2 := ⟨⟨Or.inl (mem_tb (List.mem_of_getElem? (i := 730) (by decide +kernel))), (mem_tb (List.mem_of_getElem? (i := 733) (by decide +kernel))), (mem_tb (List.mem_of_getElem? (i := 11) (by decide +kernel))), by decide +kernel, by decide +kernel⟩, (mem_tb (List.mem_of_getElem? (i := 732) (by decide +kernel))), (mem_sel (List.mem_of_getElem? (i := 17) (by decide +kernel)))⟩
theorem clX3_41 : CLS RX3 41 M_X3_perform 2 := ⟨⟨Or.inl (mem_tb (List.mem_of_getElem? (i := 734) (by decide +kernel))), (mem_tb (List.mem_of_getElem? (i := 736) (by decide +kernel))), (mem_tb (List.mem_of_getElem? (i := 11) (by decide +kernel))), by decide +kernel, by decide +kernel⟩, (mem_tb (List.mem_of_getElem? (i := 735) (by decide +kernel)))⟩
theorem clX3_60 : CLV RX3 60 M_X4_askFor 3 := ⟨⟨Or.inl (mem_tb (List.mem_of_getElem? (i := 737) (by decide +kernel))), (mem_tb (List.mem_of_getElem? (i := 312) (by decide +kernel))), (mem_tb (List.mem_of_getElem? (i := 2) (by decide +kernel))), by decide +kernel, by decide +kernel⟩, (mem_tb (List.mem_of_getElem? (i := 310) (by decide +kernel))), (mem_tb (List.mem_of_getElem? (i := 311) (by decide +kernel)))⟩
theorem clX3_66 : CLV RX3 66 M_X4_letTicks 1 := ⟨⟨Or.inl (mem_tb (List.mem_of_getElem? (i := 738) (by decide +kernel))), (mem_tb (List.mem_of_getElem? (i := 353) (by decide +kernel))), (mem_tb (List.mem_of_getElem? (i := 2) (by decide +kernel))), by decide +kernel, by decide +kernel⟩, (mem_tb (List.mem_of_getElem? (i := 351) (by decide +kernel))), (mem_tb (List.mem_of_getElem? (i := 352) (by decide +kernel)))⟩
theorem clX3_70 : CLV RX3 70 M_X4_cutPower 0 := ⟨⟨Or.inl (mem_tb (List.mem_of_getElem? (i := 739) (by decide +kernel))), (mem_tb (List.mem_of_getElem? (i := 459) (by decide +kernel))), (mem_tb (List.mem_of_getElem? (i := 2) (by decide +kernel))), by decide +kernel, by decide +kernel⟩, (mem_tb (List.mem_of_getElem? (i := 457) (by decide +kernel))), (mem_tb (List.mem_of_getElem? (i := 458) (by decide +kernel)))⟩
theorem clX3_74 : CLV RX3 74 M_X4_restorePower 0 := ⟨⟨Or.inl (mem_tb (List.mem_of_getElem? (i := 740) (by decide +kernel))), (mem_tb (List.mem_of_getElem? (i := 495) (by decide +kernel))), (mem_tb (List.mem_of_getElem? (i := 2) (by decide +kernel))), by decide +kernel, by decide +kernel⟩, (mem_tb (List.mem_of_getElem? (i := 493) (by decide +kernel))), (mem_tb (List.mem_of_getElem? (i := 494) (by decide +kernel)))⟩
theorem clX3_77 : CLV RX3 77 M_X4_turnToOther 0 := ⟨⟨Or.inl (mem_tb (List.mem_of_getElem? (i := 741) (by decide +kernel))), (mem_tb (List.mem_of_getElem? (i := 521) (by decide +kernel))), (mem_tb (List.mem_of_getElem? (i := 2) (by decide +kernel))), by decide +kernel, by decide +kernel⟩, (mem_tb (List.mem_of_getElem? (i := 519) (by decide +kernel))), (mem_tb (List.mem_of_getElem? (i := 520) (by decide +kernel)))⟩
theorem clX3_80 : CLV RX3 80 M_X4_cleanBlock 1 := ⟨⟨Or.inl (mem_tb (List.mem_of_getElem? (i := 742) (by decide +kernel))), (mem_tb (List.mem_of_getElem? (i := 534) (by decide +kernel))), (mem_tb (List.mem_of_getElem? (i := 2) (by decide +kernel))), by decide +kernel, by decide +kernel⟩, (mem_tb (List.mem_of_getElem? (i := 532) (by decide +kernel))), (mem_tb (List.mem_of_getElem? (i := 533) (by decide +kernel)))⟩
theorem clX3_83 : CLV RX3 83 M_X4_eraseBlock 1 := ⟨⟨Or.inl (mem_tb (List.mem_of_getElem? (i := 743) (by decide +kernel))), (mem_tb (List.mem_of_getElem? (i := 547) (by decide +kernel))), (mem_tb (List.mem_of_getElem? (i := 2) (by decide +kernel))), by decide +kernel, by decide +kernel⟩, (mem_tb (List.mem_of_getElem? (i := 545) (by decide +kernel))), (mem_tb (List.mem_of_getElem? (i := 546) (by decide +kernel)))⟩
theorem oiX4_3 : Cond.methodLink RX4 3 Lib.objectInit ∈ lw_tbl := (mem_tb (List.mem_of_getElem? (i := 27) (by decide +kernel)))
theorem clX4_11 : CLI RX4 11 M_X0_init 0 := ⟨⟨Or.inr ⟨"PagePairs", (mem_tb (List.mem_of_getElem? (i := 30) (by decide +kernel)))⟩, (mem_tb (List.mem_of_getElem? (i := 32) (by decide +kernel))), (mem_tb (List.mem_of_getElem? (i := 3) (by decide +kernel))), by decide +kernel, by decide +kernel⟩, by decide +kernel, (mem_tb (List.mem_of_getElem? (i := 31) (by decide +kernel))), rfl⟩
theorem clX4_20 : CLI RX4 20 M_X2_init 0 := ⟨⟨Or.inr ⟨"PagePairs", (mem_tb (List.mem_of_getElem? (i := 50) (by decide +kernel)))⟩, (mem_tb (List.mem_of_getElem? (i := 52) (by decide +kernel))), (mem_tb (List.mem_of_getElem? (i := 4) (by decide +kernel))), by decide +kernel, by decide +kernel⟩, by decide +kernel, (mem_tb (List.mem_of_getElem? (i := 51) (by decide +kernel))), rfl⟩
theorem clX4_27 : CLI RX4 27 M_X7_init 0 := ⟨⟨Or.inr ⟨"PagePairs", (mem_tb (List.mem_of_getElem? (i := 72) (by decide +kernel)))⟩, (mem_tb (List.mem_of_getElem? (i := 74) (by decide +kernel))), (mem_tb (List.mem_of_getElem? (i := 5) (by decide +kernel))), by decide +kernel, by decide +kernel⟩, by decide +kernel, (mem_tb (List.mem_of_getElem? (i := 73) (by decide +kernel))), rfl⟩
theorem clX4_34 : CLI RX4 34 M_X5_init 0 := ⟨⟨Or.inr ⟨"PagePairs", (mem_tb (List.mem_of_getElem? (i := 111) (by decide +kernel)))⟩, (mem_tb (List.mem_of_getElem? (i := 113) (by decide +kernel))), (mem_tb (List.mem_of_getElem? (i := 6) (by decide +kernel))), by decide +kernel, by decide +kernel⟩, by decide +kernel, (mem_tb (List.mem_of_getElem? (i := 112) (by decide +kernel))), rfl⟩
theorem clX4_59 : CLS RX4 59 M_X8_copyRow 2 := ⟨⟨Or.inr ⟨"PagePairs", (mem_tb (List.mem_of_getElem? (i := 146) (by decide +kernel)))⟩, (mem_tb (List.mem_of_getElem? (i := 148) (by decide +kernel))), (mem_tb (List.mem_of_getElem? (i := 1) (by decide +kernel))), by decide +kernel, by decide +kernel⟩, (mem_tb (List.mem_of_getElem? (i := 147) (by decide +kernel)))⟩
theorem clX4_63 : CLV RX4 63 M_X0_copyFrom 1 := ⟨⟨Or.inl (mem_tb (List.mem_of_getElem? (i := 291) (by decide +kernel))), (mem_tb (List.mem_of_getElem? (i := 294) (by decide +kernel))), (mem_tb (List.mem_of_getElem? (i := 3) (by decide +kernel))), by decide +kernel, by decide +kernel⟩, (mem_tb (List.mem_of_getElem? (i := 292) (by decide +kernel))), (mem_tb (List.mem_of_getElem? (i := 293) (by decide +kernel)))⟩
theorem clX4_67 : CLV RX4 67 M_X2_copyFrom 1 := ⟨⟨Or.inl (mem_tb (List.mem_of_getElem? (i := 296) (by decide +kernel))), (mem_tb (List.mem_of_getElem? (i := 299) (by decide +kernel))), (mem_tb (List.mem_of_getElem? (i := 4) (by decide +kernel))), by decide +kernel, by decide +kernel⟩, (mem_tb (List.mem_of_getElem? (i := 297) (by decide +kernel))), (mem_tb (List.mem_of_getElem? (i := 298) (by decide +kernel)))⟩
theorem clX4_70 : CLV RX4 70 M_X7_copyFrom 1 := ⟨⟨Or.inl (mem_tb (List.mem_of_getElem? (i := 301) (by decide +kernel))), (mem_tb (List.mem_of_getElem? (i := 304) (by decide +kernel))), (mem_tb (List.mem_of_getElem? (i := 5) (by decide +kernel))), by decide +kernel, by decide +kernel⟩, (mem_tb (List.mem_of_getElem? (i := 302) (by decide +kernel))), (mem_tb (List.mem_of_getElem? (i := 303) (by decide +kernel)))⟩
theorem clX4_73 : CLV RX4 73 M_X5_copyFrom 1 := ⟨⟨Or.inl (mem_tb (List.mem_of_getElem? (i := 305) (by decide +kernel))), (mem_tb (List.mem_of_getElem? (i := 308) (by decide +kernel))), (mem_tb (List.mem_of_getElem? (i := 6) (by decide +kernel))), by decide +kernel, by decide +kernel⟩, (mem_tb (List.mem_of_getElem? (i := 306) (by decide +kernel))), (mem_tb (List.mem_of_getElem? (i := 307) (by decide +kernel)))⟩
theorem clX4_83 : CLS RX4 83 M_X8_isIn 3 := ⟨⟨Or.inr ⟨"PagePairs", (mem_tb (List.mem_of_getElem? (i := 313) (by decide +kernel)))⟩, (mem_tb (List.mem_of_getElem? (i := 278) (by decide +kernel))), (mem_tb (List.mem_of_getElem? (i := 1) (by decide +kernel))), by decide +kernel, by decide +kernel⟩, (mem_tb (List.mem_of_getElem? (i := 277) (by decide +kernel)))⟩
theorem clX4_87 : CLV RX4 87 M_X2_size 0 := ⟨⟨Or.inl (mem_tb (List.mem_of_getElem? (i := 314) (by decide +kernel))), (mem_tb (List.mem_of_getElem? (i := 317) (by decide +kernel))), (mem_tb (List.mem_of_getElem? (i := 4) (by decide +kernel))), by decide +kernel, by decide +kernel⟩, (mem_tb (List.mem_of_getElem? (i := 315) (by decide +kernel))), (mem_tb (List.mem_of_getElem? (i := 316) (by decide +kernel)))⟩
theorem clX4_91 : CLV RX4 91 M_X2_add 4 := ⟨⟨Or.inl (mem_tb (List.mem_of_getElem? (i := 318) (by decide +kernel))), (mem_tb (List.mem_of_getElem? (i := 321) (by decide +kernel))), (mem_tb (List.mem_of_getElem? (i := 4) (by decide +kernel))), by decide +kernel, by decide +kernel⟩, (mem_tb (List.mem_of_getElem? (i := 319) (by decide +kernel))), (mem_tb (List.mem_of_getElem? (i := 320) (by decide +kernel)))⟩
theorem clX4_101 : CLV RX4 101 M_X4_pass 1 := ⟨⟨Or.inl (mem_tb (List.mem_of_getElem? (i := 354) (by decide +kernel))), (mem_tb (List.mem_of_getElem? (i := 357) (by decide +kernel))), (mem_tb (List.mem_of_getElem? (i := 2) (by decide +kernel))), by decide +kernel, by decide +kernel⟩, (mem_tb (List.mem_of_getElem? (i := 355) (by decide +kernel))), (mem_tb (List.mem_of_getElem? (i := 356) (by decide +kernel)))⟩
theorem clX4_108 : CLV RX4 108 M_X4_takeRequests 0 := ⟨⟨Or.inl (mem_tb (List.mem_of_getElem? (i := 358) (by decide +kernel))), (mem_tb (List.mem_of_getElem? (i := 361) (by decide +kernel))), (mem_tb (List.mem_of_getElem? (i := 2) (by decide +kernel))), by decide +kernel, by decide +kernel⟩, (mem_tb (List.mem_of_getElem? (i := 360) (by decide +kernel))), (mem_sel (List.mem_of_getElem? (i := 5) (by decide +kernel)))⟩
theorem clX4_114 : CLS RX4 114 M_J9_min_7cf53 2 := ⟨⟨Or.inl (mem_tb (List.mem_of_getElem? (i := 430) (by decide +kernel))), (mem_tb (List.mem_of_getElem? (i := 151) (by decide +kernel))), (mem_tb (List.mem_of_getElem? (i := 7) (by decide +kernel))), by decide +kernel, by decide +kernel⟩, (mem_tb (List.mem_of_getElem? (i := 150) (by decide +kernel)))⟩
theorem clX4_120 : CLS RX4 120 M_J9_max_7cf53 2 := ⟨⟨Or.inl (mem_tb (List.mem_of_getElem? (i := 431) (by decide +kernel))), (mem_tb (List.mem_of_getElem? (i := 429) (by decide +kernel))), (mem_tb (List.mem_of_getElem? (i := 7) (by decide +kernel))), by decide +kernel, by decide +kernel⟩, (mem_tb (List.mem_of_getElem? (i := 428) (by decide +kernel)))⟩
theorem clX4_123 : CLV RX4 123 M_X4_goOn 1 := ⟨⟨Or.inl (mem_tb (List.mem_of_getElem? (i := 432) (by decide +kernel))), (mem_tb (List.mem_of_getElem? (i := 435) (by decide +kernel))), (mem_tb (List.mem_of_getElem? (i := 2) (by decide +kernel))), by decide +kernel, by decide +kernel⟩, (mem_tb (List.mem_of_getElem? (i := 434) (by decide +kernel))), (mem_sel (List.mem_of_getElem? (i := 9) (by decide +kernel)))⟩
theorem clX4_126 : CLV RX4 126 M_X4_isFull 0 := ⟨⟨Or.inl (mem_tb (List.mem_of_getElem? (i := 362) (by decide +kernel))), (mem_tb (List.mem_of_getElem? (i := 365) (by decide +kernel))), (mem_tb (List.mem_of_getElem? (i := 2) (by decide +kernel))), by decide +kernel, by decide +kernel⟩, (mem_tb (List.mem_of_getElem? (i := 364) (by decide +kernel))), (mem_sel (List.mem_of_getElem? (i := 6) (by decide +kernel)))⟩
theorem clX4_130 : CLV RX4 130 M_X4_isOutdated 0 := ⟨⟨Or.inl (mem_tb (List.mem_of_getElem? (i := 366) (by decide +kernel))), (mem_tb (List.mem_of_getElem? (i := 369) (by decide +kernel))), (mem_tb (List.mem_of_getElem? (i := 2) (by decide +kernel))), by decide +kernel, by decide +kernel⟩, (mem_tb (List.mem_of_getElem? (i := 368) (by decide +kernel))), (mem_sel (List.mem_of_getElem? (i := 7) (by decide +kernel)))⟩
theorem clX4_133 : CLV RX4 133 M_X4_beginWriting 0 := ⟨⟨Or.inl (mem_tb (List.mem_of_getElem? (i := 387) (by decide +kernel))), (mem_tb (List.mem_of_getElem? (i := 390) (by decide +kernel))), (mem_tb (List.mem_of_getElem? (i := 2) (by decide +kernel))), by decide +kernel, by decide +kernel⟩, (mem_tb (List.mem_of_getElem? (i := 389) (by decide +kernel))), (mem_sel (List.mem_of_getElem? (i := 8) (by decide +kernel)))⟩
theorem clX4_136 : CLV RX4 136 M_X2_dropFirst 0 := ⟨⟨Or.inl (mem_tb (List.mem_of_getElem? (i := 423) (by decide +kernel))), (mem_tb (List.mem_of_getElem? (i := 426) (by decide +kernel))), (mem_tb (List.mem_of_getElem? (i := 4) (by decide +kernel))), by decide +kernel, by decide +kernel⟩, (mem_tb (List.mem_of_getElem? (i := 424) (by decide +kernel))), (mem_tb (List.mem_of_getElem? (i := 425) (by decide +kernel)))⟩
theorem clX4_139 : CLV RX4 139 M_X2_urgency 1 := ⟨⟨Or.inl (mem_tb (List.mem_of_getElem? (i := 370) (by decide +kernel))), (mem_tb (List.mem_of_getElem? (i := 325) (by decide +kernel))), (mem_tb (List.mem_of_getElem? (i := 4) (by decide +kernel))), by decide +kernel, by decide +kernel⟩, (mem_tb (List.mem_of_getElem? (i := 323) (by decide +kernel))), (mem_tb (List.mem_of_getElem? (i := 324) (by decide +kernel)))⟩
theorem clX4_143 : CLV RX4 143 M_X2_key 1 := ⟨⟨Or.inl (mem_tb (List.mem_of_getElem? (i := 371) (by decide +kernel))), (mem_tb (List.mem_of_getElem? (i := 374) (by decide +kernel))), (mem_tb (List.mem_of_getElem? (i := 4) (by decide +kernel))), by decide +kernel, by decide +kernel⟩, (mem_tb (List.mem_of_getElem? (i := 372) (by decide +kernel))), (mem_tb (List.mem_of_getElem? (i := 373) (by decide +kernel)))⟩
theorem clX4_146 : CLV RX4 146 M_X0_place 1 := ⟨⟨Or.inl (mem_tb (List.mem_of_getElem? (i := 375) (by decide +kernel))), (mem_tb (List.mem_of_getElem? (i := 378) (by decide +kernel))), (mem_tb (List.mem_of_getElem? (i := 3) (by decide +kernel))), by decide +kernel, by decide +kernel⟩, (mem_tb (List.mem_of_getElem? (i := 376) (by decide +kernel))), (mem_tb (List.mem_of_getElem? (i := 377) (by decide +kernel)))⟩
theorem clX4_149 : CLV RX4 149 M_X0_stamp 1 := ⟨⟨Or.inl (mem_tb (List.mem_of_getElem? (i := 379) (by decide +kernel))), (mem_tb (List.mem_of_getElem? (i := 382) (by decide +kernel))), (mem_tb (List.mem_of_getElem? (i := 3) (by decide +kernel))), by decide +kernel, by decide +kernel⟩, (mem_tb (List.mem_of_getElem? (i := 380) (by decide +kernel))), (mem_tb (List.mem_of_getElem? (i := 381) (by decide +kernel)))⟩
theorem clX4_152 : CLV RX4 152 M_X2_stamp 1 := ⟨⟨Or.inl (mem_tb (List.mem_of_getElem? (i := 383) (by decide +kernel))), (mem_tb (List.mem_of_getElem? (i := 386) (by decide +kernel))), (mem_tb (List.mem_of_getElem? (i := 4) (by decide +kernel))), by decide +kernel, by decide +kernel⟩, (mem_tb (List.mem_of_getElem? (i := 384) (by decide +kernel))), (mem_tb (List.mem_of_getElem? (i := 385) (by decide +kernel)))⟩
theorem clX4_156 : CLS RX4 156 M_X8_valueAt 2 := ⟨⟨Or.inr ⟨"PagePairs", (mem_tb (List.mem_of_getElem? (i := 393) (by decide +kernel)))⟩, (mem_tb (List.mem_of_getElem? (i := 395) (by decide +kernel))), (mem_tb (List.mem_of_getElem? (i := 1) (by decide +kernel))), by decide +kernel, by decide +kernel⟩, (mem_tb (List.mem_of_getElem? (i := 394) (by decide +kernel)))⟩
theorem clX4_168 : CLS RX4 168 M_X8_cellOf 2 := ⟨⟨Or.inr ⟨"PagePairs", (mem_tb (List.mem_of_getElem? (i := 398) (by decide +kernel)))⟩, (mem_tb (List.mem_of_getElem? (i := 400) (by decide +kernel))), (mem_tb (List.mem_of_getElem? (i := 1) (by decide +kernel))), by decide +kernel, by decide +kernel⟩, (mem_tb (List.mem_of_getElem? (i := 399) (by decide +kernel)))⟩
theorem clX4_174 : CLS RX4 174 M_X8_earlyPosition 1 := ⟨⟨Or.inr ⟨"PagePairs", (mem_tb (List.mem_of_getElem? (i := 401) (by decide +kernel)))⟩, (mem_tb (List.mem_of_getElem? (i := 403) (by decide +kernel))), (mem_tb (List.mem_of_getElem? (i := 1) (by decide +kernel))), by decide +kernel, by decide +kernel⟩, (mem_tb (List.mem_of_getElem? (i := 402) (by decide +kernel)))⟩
theorem clX4_183 : CLS RX4 183 M_X8_quotient 2 := ⟨⟨Or.inr ⟨"PagePairs", (mem_tb (List.mem_of_getElem? (i := 404) (by decide +kernel)))⟩, (mem_tb (List.mem_of_getElem? (i := 406) (by decide +kernel))), (mem_tb (List.mem_of_getElem? (i := 1) (by decide +kernel))), by decide +kernel, by decide +kernel⟩, (mem_tb (List.mem_of_getElem? (i := 405) (by decide +kernel)))⟩
theorem clX4_192 : CLV RX4 192 M_X2_value 1 := ⟨⟨Or.inl (mem_tb (List.mem_of_getElem? (i := 407) (by decide +kernel))), (mem_tb (List.mem_of_getElem? (i := 410) (by decide +kernel))), (mem_tb (List.mem_of_getElem? (i := 4) (by decide +kernel))), by decide +kernel, by decide +kernel⟩, (mem_tb (List.mem_of_getElem? (i := 408) (by decide +kernel))), (mem_tb (List.mem_of_getElem? (i := 409) (by decide +kernel)))⟩
theorem clX4_195 : CLV RX4 195 M_X0_begin 4 := ⟨⟨Or.inl (mem_tb (List.mem_of_getElem? (i := 411) (by decide +kernel))), (mem_tb (List.mem_of_getElem? (i := 414) (by decide +kernel))), (mem_tb (List.mem_of_getElem? (i := 3) (by decide +kernel))), by decide +kernel, by decide +kernel⟩, (mem_tb (List.mem_of_getElem? (i := 412) (by decide +kernel))), (mem_tb (List.mem_of_getElem? (i := 413) (by decide +kernel)))⟩
theorem clX4_198 : CLV RX4 198 M_X0_kind 1 := ⟨⟨Or.inl (mem_tb (List.mem_of_getElem? (i := 415) (by decide +kernel))), (mem_tb (List.mem_of_getElem? (i := 418) (by decide +kernel))), (mem_tb (List.mem_of_getElem? (i := 3) (by decide +kernel))), by decide +kernel, by decide +kernel⟩, (mem_tb (List.mem_of_getElem? (i := 416) (by decide +kernel))), (mem_tb (List.mem_of_getElem? (i := 417) (by decide +kernel)))⟩
theorem clX4_201 : CLV RX4 201 M_X0_beginBackup 2 := ⟨⟨Or.inl (mem_tb (List.mem_of_getElem? (i := 419) (by decide +kernel))), (mem_tb (List.mem_of_getElem? (i := 422) (by decide +kernel))), (mem_tb (List.mem_of_getElem? (i := 3) (by decide +kernel))), by decide +kernel, by decide +kernel⟩, (mem_tb (List.mem_of_getElem? (i := 420) (by decide +kernel))), (mem_tb (List.mem_of_getElem? (i := 421) (by decide +kernel)))⟩
theorem clX4_205 : CLV RX4 205 M_X7_isBehindBackup 0 := ⟨⟨Or.inl (mem_tb (List.mem_of_getElem? (i := 436) (by decide +kernel))), (mem_tb (List.mem_of_getElem? (i := 439) (by decide +kernel))), (mem_tb (List.mem_of_getElem? (i := 5) (by decide +kernel))), by decide +kernel, by decide +kernel⟩, (mem_tb (List.mem_of_getElem? (i := 437) (by decide +kernel))), (mem_tb (List.mem_of_getElem? (i := 438) (by decide +kernel)))⟩
theorem clX4_208 : CLV RX4 208 M_X0_mark 2 := ⟨⟨Or.inl (mem_tb (List.mem_of_getElem? (i := 440) (by decide +kernel))), (mem_tb (List.mem_of_getElem? (i := 443) (by decide +kernel))), (mem_tb (List.mem_of_getElem? (i := 3) (by decide +kernel))), by decide +kernel, by decide +kernel⟩, (mem_tb (List.mem_of_getElem? (i := 441) (by decide +kernel))), (mem_tb (List.mem_of_getElem? (i := 442) (by decide +kernel)))⟩
theorem clX4_214 : CLV RX4 214 M_X4_finishWriting 0 := ⟨⟨Or.inl (mem_tb (List.mem_of_getElem? (i := 444) (by decide +kernel))), (mem_tb (List.mem_of_getElem? (i := 447) (by decide +kernel))), (mem_tb (List.mem_of_getElem? (i := 2) (by decide +kernel))), by decide +kernel, by decide +kernel⟩, (mem_tb (List.mem_of_getElem? (i := 446) (by decide +kernel))), (mem_sel (List.mem_of_getElem? (i := 10) (by decide +kernel)))⟩
theorem clX4_217 : CLV RX4 217 M_X7_isAskedFor 0 := ⟨⟨Or.inl (mem_tb (List.mem_of_getElem? (i := 448) (by decide +kernel))), (mem_tb (List.mem_of_getElem? (i := 451) (by decide +kernel))), (mem_tb (List.mem_of_getElem? (i := 5) (by decide +kernel))), by decide +kernel, by decide +kernel⟩, (mem_tb (List.mem_of_getElem? (i := 449) (by decide +kernel))), (mem_tb (List.mem_of_getElem? (i := 450) (by decide +kernel)))⟩
theorem clX4_220 : CLV RX4 220 M_X4_loseByCut 0 := ⟨⟨Or.inl (mem_tb (List.mem_of_getElem? (i := 460) (by decide +kernel))), (mem_tb (List.mem_of_getElem? (i := 463) (by decide +kernel))), (mem_tb (List.mem_of_getElem? (i := 2) (by decide +kernel))), by decide +kernel, by decide +kernel⟩, (mem_tb (List.mem_of_getElem? (i := 461) (by decide +kernel))), (mem_tb (List.mem_of_getElem? (i := 462) (by decide +kernel)))⟩
theorem clX4_223 : CLS RX4 223 M_J6_bitCount_0f7a4 1 := ⟨⟨Or.inl (mem_tb (List.mem_of_getElem? (i := 482) (by decide +kernel))), (mem_tb (List.mem_of_getElem? (i := 484) (by decide +kernel))), (mem_tb (List.mem_of_getElem? (i := 13) (by decide +kernel))), by decide +kernel, by decide +kernel⟩, (mem_tb (List.mem_of_getElem? (i := 483) (by decide +kernel)))⟩
theorem clX4_228 : CLV RX4 228 M_X0_placeStamp 1 := ⟨⟨Or.inl (mem_tb (List.mem_of_getElem? (i := 464) (by decide +kernel))), (mem_tb (List.mem_of_getElem? (i := 467) (by decide +kernel))), (mem_tb (List.mem_of_getElem? (i := 3) (by decide +kernel))), by decide +kernel, by decide +kernel⟩, (mem_tb (List.mem_of_getElem? (i := 465) (by decide +kernel))), (mem_tb (List.mem_of_getElem? (i := 466) (by decide +kernel)))⟩
theorem clX4_237 : CLV RX4 237 M_X2_makeEmpty 0 := ⟨⟨Or.inl (mem_tb (List.mem_of_getElem? (i := 470) (by decide +kernel))), (mem_tb (List.mem_of_getElem? (i := 473) (by decide +kernel))), (mem_tb (List.mem_of_getElem? (i := 4) (by decide +kernel))), by decide +kernel, by decide +kernel⟩, (mem_tb (List.mem_of_getElem? (i := 471) (by decide +kernel))), (mem_tb (List.mem_of_getElem? (i := 472) (by decide +kernel)))⟩
theorem clX4_240 : CLV RX4 240 M_X4_tearWriting 0 := ⟨⟨Or.inl (mem_tb (List.mem_of_getElem? (i := 474) (by decide +kernel))), (mem_tb (List.mem_of_getElem? (i := 477) (by decide +kernel))), (mem_tb (List.mem_of_getElem? (i := 2) (by decide +kernel))), by decide +kernel, by decide +kernel⟩, (mem_tb (List.mem_of_getElem? (i := 476) (by decide +kernel))), (mem_sel (List.mem_of_getElem? (i := 11) (by decide +kernel)))⟩
theorem clX4_246 : CLV RX4 246 M_X7_hasBegunItself 0 := ⟨⟨Or.inl (mem_tb (List.mem_of_getElem? (i := 478) (by decide +kernel))), (mem_tb (List.mem_of_getElem? (i := 481) (by decide +kernel))), (mem_tb (List.mem_of_getElem? (i := 5) (by decide +kernel))), by decide +kernel, by decide +kernel⟩, (mem_tb (List.mem_of_getElem? (i := 479) (by decide +kernel))), (mem_tb (List.mem_of_getElem? (i := 480) (by decide +kernel)))⟩
theorem clX4_249 : CLV RX4 249 M_X4_askForCopy 2 := ⟨⟨Or.inl (mem_tb (List.mem_of_getElem? (i := 496) (by decide +kernel))), (mem_tb (List.mem_of_getElem? (i := 499) (by decide +kernel))), (mem_tb (List.mem_of_getElem? (i := 2) (by decide +kernel))), by decide +kernel, by decide +kernel⟩, (mem_tb (List.mem_of_getElem? (i := 498) (by decide +kernel))), (mem_sel (List.mem_of_getElem? (i := 12) (by decide +kernel)))⟩
theorem clX4_252 : CLV RX4 252 M_X0_isPlace 1 := ⟨⟨Or.inl (mem_tb (List.mem_of_getElem? (i := 500) (by decide +kernel))), (mem_tb (List.mem_of_getElem? (i := 503) (by decide +kernel))), (mem_tb (List.mem_of_getElem? (i := 3) (by decide +kernel))), by decide +kernel, by decide +kernel⟩, (mem_tb (List.mem_of_getElem? (i := 501) (by decide +kernel))), (mem_tb (List.mem_of_getElem? (i := 502) (by decide +kernel)))⟩
theorem clX4_256 : CLV RX4 256 M_X0_key 1 := ⟨⟨Or.inl (mem_tb (List.mem_of_getElem? (i := 509) (by decide +kernel))), (mem_tb (List.mem_of_getElem? (i := 508) (by decide +kernel))), (mem_tb (List.mem_of_getElem? (i := 3) (by decide +kernel))), by decide +kernel, by decide +kernel⟩, (mem_tb (List.mem_of_getElem? (i := 506) (by decide +kernel))), (mem_tb (List.mem_of_getElem? (i := 507) (by decide +kernel)))⟩
theorem clX4_257 : CLV RX4 257 M_X0_value 1 := ⟨⟨Or.inl (mem_tb (List.mem_of_getElem? (i := 510) (by decide +kernel))), (mem_tb (List.mem_of_getElem? (i := 513) (by decide +kernel))), (mem_tb (List.mem_of_getElem? (i := 3) (by decide +kernel))), by decide +kernel, by decide +kernel⟩, (mem_tb (List.mem_of_getElem? (i := 511) (by decide +kernel))), (mem_tb (List.mem_of_getElem? (i := 512) (by decide +kernel)))⟩
theorem clX4_258 : CLV RX4 258 M_X0_isBlankBlock 1 := ⟨⟨Or.inl (mem_tb (List.mem_of_getElem? (i := 522) (by decide +kernel))), (mem_tb (List.mem_of_getElem? (i := 525) (by decide +kernel))), (mem_tb (List.mem_of_getElem? (i := 3) (by decide +kernel))), by decide +kernel, by decide +kernel⟩, (mem_tb (List.mem_of_getElem? (i := 523) (by decide +kernel))), (mem_tb (List.mem_of_getElem? (i := 524) (by decide +kernel)))⟩
theorem clX4_261 : CLV RX4 261 M_X0_placesInBlock 1 := ⟨⟨Or.inl (mem_tb (List.mem_of_getElem? (i := 535) (by decide +kernel))), (mem_tb (List.mem_of_getElem? (i := 538) (by decide +kernel))), (mem_tb (List.mem_of_getElem? (i := 3) (by decide +kernel))), by decide +kernel, by decide +kernel⟩, (mem_tb (List.mem_of_getElem? (i := 536) (by decide +kernel))), (mem_tb (List.mem_of_getElem? (i := 537) (by decide +kernel)))⟩
theorem clX4_264 : CLV RX4 264 M_X0_blankBlock 1 := ⟨⟨Or.inl (mem_tb (List.mem_of_getElem? (i := 548) (by decide +kernel))), (mem_tb (List.mem_of_getElem? (i := 551) (by decide +kernel))), (mem_tb (List.mem_of_getElem? (i := 3) (by decide +kernel))), by decide +kernel, by decide +kernel⟩, (mem_tb (List.mem_of_getElem? (i := 549) (by decide +kernel))), (mem_tb (List.mem_of_getElem? (i := 550) (by decide +kernel)))⟩
theorem clX4_267 : CLS RX4 267 M_X8_putAt 3 := ⟨⟨Or.inr ⟨"PagePairs", (mem_tb (List.mem_of_getElem? (i := 553) (by decide +kernel)))⟩, (mem_tb (List.mem_of_getElem? (i := 555) (by decide +kernel))), (mem_tb (List.mem_of_getElem? (i := 1) (by decide +kernel))), by decide +kernel, by decide +kernel⟩, (mem_tb (List.mem_of_getElem? (i := 554) (by decide +kernel)))⟩
theorem clX4_277 : CLV RX4 277 M_X0_fact 2 := ⟨⟨Or.inl (mem_tb (List.mem_of_getElem? (i := 600) (by decide +kernel))), (mem_tb (List.mem_of_getElem? (i := 603) (by decide +kernel))), (mem_tb (List.mem_of_getElem? (i := 3) (by decide +kernel))), by decide +kernel, by decide +kernel⟩, (mem_tb (List.mem_of_getElem? (i := 601) (by decide +kernel))), (mem_tb (List.mem_of_getElem? (i := 602) (by decide +kernel)))⟩
theorem clX4_280 : CLV RX4 280 M_X0_tornPages 0 := ⟨⟨Or.inl (mem_tb (List.mem_of_getElem? (i := 637) (by decide +kernel))), (mem_tb (List.mem_of_getElem? (i := 640) (by decide +kernel))), (mem_tb (List.mem_of_getElem? (i := 3) (by decide +kernel))), by decide +kernel, by decide +kernel⟩, (mem_tb (List.mem_of_getElem? (i := 638) (by decide +kernel))), (mem_tb (List.mem_of_getElem? (i := 639) (by decide +kernel)))⟩
theorem clX4_283 : CLV RX4 283 M_X0_keysWithPlace 0 := ⟨⟨Or.inl (mem_tb (List.mem_of_getElem? (i := 641) (by decide +kernel))), (mem_tb (List.mem_of_getElem? (i := 644) (by decide +kernel))), (mem_tb (List.mem_of_getElem? (i := 3) (by decide +kernel))), by decide +kernel, by decide +kernel⟩, (mem_tb (List.mem_of_getElem? (i := 642) (by decide +kernel))), (mem_tb (List.mem_of_getElem? (i := 643) (by decide +kernel)))⟩
theorem clX4_286 : CLV RX4 286 M_X4_settingOrSlowness 1 := ⟨⟨Or.inl (mem_tb (List.mem_of_getElem? (i := 645) (by decide +kernel))), (mem_tb (List.mem_of_getElem? (i := 648) (by decide +kernel))), (mem_tb (List.mem_of_getElem? (i := 2) (by decide +kernel))), by decide +kernel, by decide +kernel⟩, (mem_tb (List.mem_of_getElem? (i := 647) (by decide +kernel))), (mem_sel (List.mem_of_getElem? (i := 13) (by decide +kernel)))⟩
theorem oiX5_1 : Cond.methodLink RX5 1 Lib.objectInit ∈ lw_tbl := (mem_tb (List.mem_of_getElem? (i := 114) (by decide +kernel)))
theorem oiX6_3 : Cond.methodLink RX6 3 Lib.objectInit ∈ lw_tbl := (mem_tb (List.mem_of_getElem? (i := 210) (by decide +kernel)))
theorem clX6_19 : CLS RX6 19 M_X8_isIn 3 := ⟨⟨Or.inr ⟨"PagePairs", (mem_tb (List.mem_of_getElem? (i := 684) (by decide +kernel)))⟩, (mem_tb (List.mem_of_getElem? (i := 278) (by decide +kernel))), (mem_tb (List.mem_of_getElem? (i := 1) (by decide +kernel))), by decide +kernel, by decide +kernel⟩, (mem_tb (List.mem_of_getElem? (i := 277) (by decide +kernel)))⟩
theorem clX6_23 : CLS RX6 23 M_X8_putAt 3 := ⟨⟨Or.inr ⟨"PagePairs", (mem_tb (List.mem_of_getElem? (i := 685) (by decide +kernel)))⟩, (mem_tb (List.mem_of_getElem? (i := 555) (by decide +kernel))), (mem_tb (List.mem_of_getElem? (i := 1) (by decide +kernel))), by decide +kernel, by decide +kernel⟩, (mem_tb (List.mem_of_getElem? (i := 554) (by decide +kernel)))⟩
theorem clX6_30 : CLV RX6 30 M_X6_sign 0 := ⟨⟨Or.inl (mem_tb (List.mem_of_getElem? (i := 714) (by decide +kernel))), (mem_tb (List.mem_of_getElem? (i := 717) (by decide +kernel))), (mem_tb (List.mem_of_getElem? (i := 10) (by decide +kernel))), by decide +kernel, by decide +kernel⟩, (mem_tb (List.mem_of_getElem? (i := 716) (by decide +kernel))), (mem_sel (List.mem_of_getElem? (i := 14) (by decide +kernel)))⟩
theorem clX6_37 : CLS RX6 37 M_X6_numbersOf 1 := ⟨⟨Or.inl (mem_tb (List.mem_of_getElem? (i := 719) (by decide +kernel))), (mem_tb (List.mem_of_getElem? (i := 721) (by decide +kernel))), (mem_tb (List.mem_of_getElem? (i := 10) (by decide +kernel))), by decide +kernel, by decide +kernel⟩, (mem_tb (List.mem_of_getElem? (i := 720) (by decide +kernel)))⟩
theorem clX6_41 : CLV RX6 41 M_X6_readNumber 0 := ⟨⟨Or.inl (mem_tb (List.mem_of_getElem? (i := 722) (by decide +kernel))), (mem_tb (List.mem_of_getElem? (i := 725) (by decide +kernel))), (mem_tb (List.mem_of_getElem? (i := 10) (by decide +kernel))), by decide +kernel, by decide +kernel⟩, (mem_tb (List.mem_of_getElem? (i := 724) (by decide +kernel))), (mem_sel (List.mem_of_getElem? (i := 15) (by decide +kernel)))⟩
theorem clX6_47 : CLV RX6 47 M_X6_readSign 1 := ⟨⟨Or.inl (mem_tb (List.mem_of_getElem? (i := 726) (by decide +kernel))), (mem_tb (List.mem_of_getElem? (i := 729) (by decide +kernel))), (mem_tb (List.mem_of_getElem? (i := 10) (by decide +kernel))), by decide +kernel, by decide +kernel⟩, (mem_tb (List.mem_of_getElem? (i := 728) (by decide +kernel))), (mem_sel (List.mem_of_getElem? (i := 16) (by decide +kernel)))⟩
theorem clX6_54 : CLS RX6 54 M_X8_valueAt 2 := ⟨⟨Or.inr ⟨"PagePairs", (mem_tb (List.mem_of_getElem? (i := 718) (by decide +kernel)))⟩, (mem_tb (List.mem_of_getElem? (i := 395) (by decide +kernel))), (mem_tb (List.mem_of_getElem? (i := 1) (by decide +kernel))), by decide +kernel, by decide +kernel⟩, (mem_tb (List.mem_of_getElem? (i := 394) (by decide +kernel)))⟩
theorem oiX7_3 : Cond.methodLink RX7 3 Lib.objectInit ∈ lw_tbl := (mem_tb (List.mem_of_getElem? (i := 75) (by decide +kernel)))
theorem oiX8_3 : Cond.methodLink RX8 3 Lib.objectInit ∈ lw_tbl := (mem_tb (List.mem_of_getElem? (i := 19) (by decide +kernel)))
theorem clX8_11 : CLI RX8 11 M_X4_init 0 := ⟨⟨Or.inl (mem_tb (List.mem_of_getElem? (i := 24) (by decide +kernel))), (mem_tb (List.mem_of_getElem? (i := 26) (by decide +kernel))), (mem_tb (List.mem_of_getElem? (i := 2) (by decide +kernel))), by decide +kernel, by decide +kernel⟩, by decide +kernel, (mem_tb (List.mem_of_getElem? (i := 25) (by decide +kernel))), rfl⟩
theorem clX8_21 : CLI RX8 21 M_X1_init 0 := ⟨⟨Or.inl (mem_tb (List.mem_of_getElem? (i := 191) (by decide +kernel))), (mem_tb (List.mem_of_getElem? (i := 193) (by decide +kernel))), (mem_tb (List.mem_of_getElem? (i := 9) (by decide +kernel))), by decide +kernel, by decide +kernel⟩, by decide +kernel, (mem_tb (List.mem_of_getElem? (i := 192) (by decide +kernel))), rfl⟩
theorem clX8_28 : CLI RX8 28 M_X6_init 0 := ⟨⟨Or.inr ⟨"PagePairs", (mem_tb (List.mem_of_getElem? (i := 207) (by decide +kernel)))⟩, (mem_tb (List.mem_of_getElem? (i := 209) (by decide +kernel))), (mem_tb (List.mem_of_getElem? (i := 10) (by decide +kernel))), by decide +kernel, by decide +kernel⟩, by decide +kernel, (mem_tb (List.mem_of_getElem? (i := 208) (by decide +kernel))), rfl⟩
theorem clX8_35 : CLI RX8 35 M_X3_init 0 := ⟨⟨Or.inr ⟨"PagePairs", (mem_tb (List.mem_of_getElem? (i := 236) (by decide +kernel)))⟩, (mem_tb (List.mem_of_getElem? (i := 238) (by decide +kernel))), (mem_tb (List.mem_of_getElem? (i := 11) (by decide +kernel))), by decide +kernel, by decide +kernel⟩, by decide +kernel, (mem_tb (List.mem_of_getElem? (i := 237) (by decide +kernel))), rfl⟩
theorem clX8_40 : CLS RX8 40 M_X8_isIn 3 := ⟨⟨Or.inl (mem_tb (List.mem_of_getElem? (i := 276) (by decide +kernel))), (mem_tb (List.mem_of_getElem? (i := 278) (by decide +kernel))), (mem_tb (List.mem_of_getElem? (i := 1) (by decide +kernel))), by decide +kernel, by decide +kernel⟩, (mem_tb (List.mem_of_getElem? (i := 277) (by decide +kernel)))⟩
theorem clX8_44 : CLV RX8 44 M_X1_note 1 := ⟨⟨Or.inl (mem_tb (List.mem_of_getElem? (i := 279) (by decide +kernel))), (mem_tb (List.mem_of_getElem? (i := 282) (by decide +kernel))), (mem_tb (List.mem_of_getElem? (i := 9) (by decide +kernel))), by decide +kernel, by decide +kernel⟩, (mem_tb (List.mem_of_getElem? (i := 280) (by decide +kernel))), (mem_tb (List.mem_of_getElem? (i := 281) (by decide +kernel)))⟩
theorem clX8_48 : CLV RX8 48 M_X4_askFor 3 := ⟨⟨Or.inl (mem_tb (List.mem_of_getElem? (i := 309) (by decide +kernel))), (mem_tb (List.mem_of_getElem? (i := 312) (by decide +kernel))), (mem_tb (List.mem_of_getElem? (i := 2) (by decide +kernel))), by decide +kernel, by decide +kernel⟩, (mem_tb (List.mem_of_getElem? (i := 310) (by decide +kernel))), (mem_tb (List.mem_of_getElem? (i := 311) (by decide +kernel)))⟩
theorem clX8_52 : CLV RX8 52 M_X8_keepChange 1 := ⟨⟨Or.inl (mem_tb (List.mem_of_getElem? (i := 334) (by decide +kernel))), (mem_tb (List.mem_of_getElem? (i := 337) (by decide +kernel))), (mem_tb (List.mem_of_getElem? (i := 1) (by decide +kernel))), by decide +kernel, by decide +kernel⟩, (mem_tb (List.mem_of_getElem? (i := 336) (by decide +kernel))), (mem_sel (List.mem_of_getElem? (i := 3) (by decide +kernel)))⟩
theorem clX8_56 : CLV RX8 56 M_X4_letTicks 1 := ⟨⟨Or.inl (mem_tb (List.mem_of_getElem? (i := 350) (by decide +kernel))), (mem_tb (List.mem_of_getElem? (i := 353) (by decide +kernel))), (mem_tb (List.mem_of_getElem? (i := 2) (by decide +kernel))), by decide +kernel, by decide +kernel⟩, (mem_tb (List.mem_of_getElem? (i := 351) (by decide +kernel))), (mem_tb (List.mem_of_getElem? (i := 352) (by decide +kernel)))⟩
theorem clX8_59 : CLV RX8 59 M_X4_cutPower 0 := ⟨⟨Or.inl (mem_tb (List.mem_of_getElem? (i := 456) (by decide +kernel))), (mem_tb (List.mem_of_getElem? (i := 459) (by decide +kernel))), (mem_tb (List.mem_of_getElem? (i := 2) (by decide +kernel))), by decide +kernel, by decide +kernel⟩, (mem_tb (List.mem_of_getElem? (i := 457) (by decide +kernel))), (mem_tb (List.mem_of_getElem? (i := 458) (by decide +kernel)))⟩
theorem clX8_63 : CLV RX8 63 M_X4_restorePower 0 := ⟨⟨Or.inl (mem_tb (List.mem_of_getElem? (i := 492) (by decide +kernel))), (mem_tb (List.mem_of_getElem? (i := 495) (by decide +kernel))), (mem_tb (List.mem_of_getElem? (i := 2) (by decide +kernel))), by decide +kernel, by decide +kernel⟩, (mem_tb (List.mem_of_getElem? (i := 493) (by decide +kernel))), (mem_tb (List.mem_of_getElem? (i := 494) (by decide +kernel)))⟩
theorem clX8_66 : CLV RX8 66 M_X4_turnToOther 0 := ⟨⟨Or.inl (mem_tb (List.mem_of_getElem? (i := 518) (by decide +kernel))), (mem_tb (List.mem_of_getElem? (i := 521) (by decide +kernel))), (mem_tb (List.mem_of_getElem? (i := 2) (by decide +kernel))), by decide +kernel, by decide +kernel⟩, (mem_tb (List.mem_of_getElem? (i := 519) (by decide +kernel))), (mem_tb (List.mem_of_getElem? (i := 520) (by decide +kernel)))⟩
theorem clX8_69 : CLV RX8 69 M_X4_cleanBlock 1 := ⟨⟨Or.inl (mem_tb (List.mem_of_getElem? (i := 531) (by decide +kernel))), (mem_tb (List.mem_of_getElem? (i := 534) (by decide +kernel))), (mem_tb (List.mem_of_getElem? (i := 2) (by decide +kernel))), by decide +kernel, by decide +kernel⟩, (mem_tb (List.mem_of_getElem? (i := 532) (by decide +kernel))), (mem_tb (List.mem_of_getElem? (i := 533) (by decide +kernel)))⟩
theorem clX8_72 : CLV RX8 72 M_X4_eraseBlock 1 := ⟨⟨Or.inl (mem_tb (List.mem_of_getElem? (i := 544) (by decide +kernel))), (mem_tb (List.mem_of_getElem? (i := 547) (by decide +kernel))), (mem_tb (List.mem_of_getElem? (i := 2) (by decide +kernel))), by decide +kernel, by decide +kernel⟩, (mem_tb (List.mem_of_getElem? (i := 545) (by decide +kernel))), (mem_tb (List.mem_of_getElem? (i := 546) (by decide +kernel)))⟩
theorem clX8_75 : CLV RX8 75 M_X4_changeSlowness 2 := ⟨⟨Or.inl (mem_tb (List.mem_of_getElem? (i := 560) (by decide +kernel))), (mem_tb (List.mem_of_getElem? (i := 563) (by decide +kernel))), (mem_tb (List.mem_of_getElem? (i := 2) (by decide +kernel))), by decide +kernel, by decide +kernel⟩, (mem_tb (List.mem_of_getElem? (i := 561) (by decide +kernel))), (mem_tb (List.mem_of_getElem? (i := 562) (by decide +kernel)))⟩
theorem clX8_79 : CLV RX8 79 M_X4_changeSetting 2 := ⟨⟨Or.inl (mem_tb (List.mem_of_getElem? (i := 568) (by decide +kernel))), (mem_tb (List.mem_of_getElem? (i := 571) (by decide +kernel))), (mem_tb (List.mem_of_getElem? (i := 2) (by decide +kernel))), by decide +kernel, by decide +kernel⟩, (mem_tb (List.mem_of_getElem? (i := 569) (by decide +kernel))), (mem_tb (List.mem_of_getElem? (i := 570) (by decide +kernel)))⟩
theorem clX8_82 : CLV RX8 82 M_X4_valueOfKey 1 := ⟨⟨Or.inl (mem_tb (List.mem_of_getElem? (i := 580) (by decide +kernel))), (mem_tb (List.mem_of_getElem? (i := 583) (by decide +kernel))), (mem_tb (List.mem_of_getElem? (i := 2) (by decide +kernel))), by decide +kernel, by decide +kernel⟩, (mem_tb (List.mem_of_getElem? (i := 581) (by decide +kernel))), (mem_tb (List.mem_of_getElem? (i := 582) (by decide +kernel)))⟩
theorem clX8_85 : CLV RX8 85 M_X4_placeFact 2 := ⟨⟨Or.inl (mem_tb (List.mem_of_getElem? (i := 588) (by decide +kernel))), (mem_tb (List.mem_of_getElem? (i := 591) (by decide +kernel))), (mem_tb (List.mem_of_getElem? (i := 2) (by decide +kernel))), by decide +kernel, by decide +kernel⟩, (mem_tb (List.mem_of_getElem? (i := 589) (by decide +kernel))), (mem_tb (List.mem_of_getElem? (i := 590) (by decide +kernel)))⟩
theorem clX8_88 : CLV RX8 88 M_X4_pageFact 3 := ⟨⟨Or.inl (mem_tb (List.mem_of_getElem? (i := 596) (by decide +kernel))), (mem_tb (List.mem_of_getElem? (i := 599) (by decide +kernel))), (mem_tb (List.mem_of_getElem? (i := 2) (by decide +kernel))), by decide +kernel, by decide +kernel⟩, (mem_tb (List.mem_of_getElem? (i := 597) (by decide +kernel))), (mem_tb (List.mem_of_getElem? (i := 598) (by decide +kernel)))⟩
theorem clX8_91 : CLV RX8 91 M_X4_backupFact 3 := ⟨⟨Or.inl (mem_tb (List.mem_of_getElem? (i := 609) (by decide +kernel))), (mem_tb (List.mem_of_getElem? (i := 612) (by decide +kernel))), (mem_tb (List.mem_of_getElem? (i := 2) (by decide +kernel))), by decide +kernel, by decide +kernel⟩, (mem_tb (List.mem_of_getElem? (i := 610) (by decide +kernel))), (mem_tb (List.mem_of_getElem? (i := 611) (by decide +kernel)))⟩
theorem clX8_94 : CLV RX8 94 M_X4_requestFact 2 := ⟨⟨Or.inl (mem_tb (List.mem_of_getElem? (i := 617) (by decide +kernel))), (mem_tb (List.mem_of_getElem? (i := 620) (by decide +kernel))), (mem_tb (List.mem_of_getElem? (i := 2) (by decide +kernel))), by decide +kernel, by decide +kernel⟩, (mem_tb (List.mem_of_getElem? (i := 618) (by decide +kernel))), (mem_tb (List.mem_of_getElem? (i := 619) (by decide +kernel)))⟩
theorem clX8_97 : CLV RX8 97 M_X1_size 0 := ⟨⟨Or.inl (mem_tb (List.mem_of_getElem? (i := 625) (by decide +kernel))), (mem_tb (List.mem_of_getElem? (i := 628) (by decide +kernel))), (mem_tb (List.mem_of_getElem? (i := 9) (by decide +kernel))), by decide +kernel, by decide +kernel⟩, (mem_tb (List.mem_of_getElem? (i := 626) (by decide +kernel))), (mem_tb (List.mem_of_getElem? (i := 627) (by decide +kernel)))⟩
theorem clX8_100 : CLV RX8 100 M_X6_length 0 := ⟨⟨Or.inl (mem_tb (List.mem_of_getElem? (i := 629) (by decide +kernel))), (mem_tb (List.mem_of_getElem? (i := 632) (by decide +kernel))), (mem_tb (List.mem_of_getElem? (i := 10) (by decide +kernel))), by decide +kernel, by decide +kernel⟩, (mem_tb (List.mem_of_getElem? (i := 630) (by decide +kernel))), (mem_tb (List.mem_of_getElem? (i := 631) (by decide +kernel)))⟩
theorem clX8_103 : CLV RX8 103 M_X4_numberOf 1 := ⟨⟨Or.inl (mem_tb (List.mem_of_getElem? (i := 633) (by decide +kernel))), (mem_tb (List.mem_of_getElem? (i := 636) (by decide +kernel))), (mem_tb (List.mem_of_getElem? (i := 2) (by decide +kernel))), by decide +kernel, by decide +kernel⟩, (mem_tb (List.mem_of_getElem? (i := 634) (by decide +kernel))), (mem_tb (List.mem_of_getElem? (i := 635) (by decide +kernel)))⟩
theorem clX8_106 : CLV RX8 106 M_X4_hasPower 0 := ⟨⟨Or.inl (mem_tb (List.mem_of_getElem? (i := 653) (by decide +kernel))), (mem_tb (List.mem_of_getElem? (i := 656) (by decide +kernel))), (mem_tb (List.mem_of_getElem? (i := 2) (by decide +kernel))), by decide +kernel, by decide +kernel⟩, (mem_tb (List.mem_of_getElem? (i := 654) (by decide +kernel))), (mem_tb (List.mem_of_getElem? (i := 655) (by decide +kernel)))⟩
theorem clX8_110 : CLV RX8 110 M_X4_copyFrom 1 := ⟨⟨Or.inl (mem_tb (List.mem_of_getElem? (i := 657) (by decide +kernel))), (mem_tb (List.mem_of_getElem? (i := 290) (by decide +kernel))), (mem_tb (List.mem_of_getElem? (i := 2) (by decide +kernel))), by decide +kernel, by decide +kernel⟩, (mem_tb (List.mem_of_getElem? (i := 288) (by decide +kernel))), (mem_tb (List.mem_of_getElem? (i := 289) (by decide +kernel)))⟩
theorem clX8_113 : CLV RX8 113 M_X4_pass 1 := ⟨⟨Or.inl (mem_tb (List.mem_of_getElem? (i := 658) (by decide +kernel))), (mem_tb (List.mem_of_getElem? (i := 357) (by decide +kernel))), (mem_tb (List.mem_of_getElem? (i := 2) (by decide +kernel))), by decide +kernel, by decide +kernel⟩, (mem_tb (List.mem_of_getElem? (i := 355) (by decide +kernel))), (mem_tb (List.mem_of_getElem? (i := 356) (by decide +kernel)))⟩
theorem clX8_117 : CLV RX8 117 M_X4_loseByCut 0 := ⟨⟨Or.inl (mem_tb (List.mem_of_getElem? (i := 659) (by decide +kernel))), (mem_tb (List.mem_of_getElem? (i := 463) (by decide +kernel))), (mem_tb (List.mem_of_getElem? (i := 2) (by decide +kernel))), by decide +kernel, by decide +kernel⟩, (mem_tb (List.mem_of_getElem? (i := 461) (by decide +kernel))), (mem_tb (List.mem_of_getElem? (i := 462) (by decide +kernel)))⟩
theorem clX8_120 : CLV RX8 120 M_X4_passUntilDone 0 := ⟨⟨Or.inl (mem_tb (List.mem_of_getElem? (i := 664) (by decide +kernel))), (mem_tb (List.mem_of_getElem? (i := 667) (by decide +kernel))), (mem_tb (List.mem_of_getElem? (i := 2) (by decide +kernel))), by decide +kernel, by decide +kernel⟩, (mem_tb (List.mem_of_getElem? (i := 665) (by decide +kernel))), (mem_tb (List.mem_of_getElem? (i := 666) (by decide +kernel)))⟩
theorem clX8_123 : CLV RX8 123 M_X1_restore 1 := ⟨⟨Or.inl (mem_tb (List.mem_of_getElem? (i := 672) (by decide +kernel))), (mem_tb (List.mem_of_getElem? (i := 675) (by decide +kernel))), (mem_tb (List.mem_of_getElem? (i := 9) (by decide +kernel))), by decide +kernel, by decide +kernel⟩, (mem_tb (List.mem_of_getElem? (i := 673) (by decide +kernel))), (mem_tb (List.mem_of_getElem? (i := 674) (by decide +kernel)))⟩
theorem clX8_127 : CLV RX8 127 M_X6_append 1 := ⟨⟨Or.inl (mem_tb (List.mem_of_getElem? (i := 680) (by decide +kernel))), (mem_tb (List.mem_of_getElem? (i := 683) (by decide +kernel))), (mem_tb (List.mem_of_getElem? (i := 10) (by decide +kernel))), by decide +kernel, by decide +kernel⟩, (mem_tb (List.mem_of_getElem? (i := 681) (by decide +kernel))), (mem_tb (List.mem_of_getElem? (i := 682) (by decide +kernel)))⟩
theorem clX8_130 : CLV RX8 130 M_X6_makeEmpty 0 := ⟨⟨Or.inl (mem_tb (List.mem_of_getElem? (i := 690) (by decide +kernel))), (mem_tb (List.mem_of_getElem? (i := 693) (by decide +kernel))), (mem_tb (List.mem_of_getElem? (i := 10) (by decide +kernel))), by decide +kernel, by decide +kernel⟩, (mem_tb (List.mem_of_getElem? (i := 691) (by decide +kernel))), (mem_tb (List.mem_of_getElem? (i := 692) (by decide +kernel)))⟩
theorem clX8_133 : CLV RX8 133 M_X3_run 2 := ⟨⟨Or.inl (mem_tb (List.mem_of_getElem? (i := 698) (by decide +kernel))), (mem_tb (List.mem_of_getElem? (i := 701) (by decide +kernel))), (mem_tb (List.mem_of_getElem? (i := 11) (by decide +kernel))), by decide +kernel, by decide +kernel⟩, (mem_tb (List.mem_of_getElem? (i := 699) (by decide +kernel))), (mem_tb (List.mem_of_getElem? (i := 700) (by decide +kernel)))⟩
theorem clX8_137 : CLV RX8 137 M_X3_faultFact 1 := ⟨⟨Or.inl (mem_tb (List.mem_of_getElem? (i := 744) (by decide +kernel))), (mem_tb (List.mem_of_getElem? (i := 747) (by decide +kernel))), (mem_tb (List.mem_of_getElem? (i := 11) (by decide +kernel))), by decide +kernel, by decide +kernel⟩, (mem_tb (List.mem_of_getElem? (i := 745) (by decide +kernel))), (mem_tb (List.mem_of_getElem? (i := 746) (by decide +kernel)))⟩
theorem clX8_140 : CLV RX8 140 M_X3_hasFault 0 := ⟨⟨Or.inl (mem_tb (List.mem_of_getElem? (i := 752) (by decide +kernel))), (mem_tb (List.mem_of_getElem? (i := 755) (by decide +kernel))), (mem_tb (List.mem_of_getElem? (i := 11) (by decide +kernel))), by decide +kernel, by decide +kernel⟩, (mem_tb (List.mem_of_getElem? (i := 753) (by decide +kernel))), (mem_tb (List.mem_of_getElem? (i := 754) (by decide +kernel)))⟩
theorem clX8_143 : CLV RX8 143 M_X3_commandsDone 0 := ⟨⟨Or.inl (mem_tb (List.mem_of_getElem? (i := 756) (by decide +kernel))), (mem_tb (List.mem_of_getElem? (i := 759) (by decide +kernel))), (mem_tb (List.mem_of_getElem? (i := 11) (by decide +kernel))), by decide +kernel, by decide +kernel⟩, (mem_tb (List.mem_of_getElem? (i := 757) (by decide +kernel))), (mem_tb (List.mem_of_getElem? (i := 758) (by decide +kernel)))⟩
theorem clX8_146 : CLV RX8 146 M_X1_keep 0 := ⟨⟨Or.inl (mem_tb (List.mem_of_getElem? (i := 338) (by decide +kernel))), (mem_tb (List.mem_of_getElem? (i := 341) (by decide +kernel))), (mem_tb (List.mem_of_getElem? (i := 9) (by decide +kernel))), by decide +kernel, by decide +kernel⟩, (mem_tb (List.mem_of_getElem? (i := 339) (by decide +kernel))), (mem_tb (List.mem_of_getElem? (i := 340) (by decide +kernel)))⟩
theorem clX8_149 : CLS RX8 149 M_J9_min_7cf53 2 := ⟨⟨Or.inl (mem_tb (List.mem_of_getElem? (i := 149) (by decide +kernel))), (mem_tb (List.mem_of_getElem? (i := 151) (by decide +kernel))), (mem_tb (List.mem_of_getElem? (i := 7) (by decide +kernel))), by decide +kernel, by decide +kernel⟩, (mem_tb (List.mem_of_getElem? (i := 150) (by decide +kernel)))⟩
theorem acX8_154 : Cond.methodLink RX8 154 arraycopyName ∈ lw_tbl := (mem_tb (List.mem_of_getElem? (i := 152) (by decide +kernel)))
theorem oiX9_1 : Cond.methodLink RX9 1 Lib.objectInit ∈ lw_tbl := (mem_tb (List.mem_of_getElem? (i := 765) (by decide +kernel)))
theorem clX9_25 : CLV RX9 25 M_X9_returns 0 := ⟨⟨Or.inl (mem_tb (List.mem_of_getElem? (i := 827) (by decide +kernel))), (mem_tb (List.mem_of_getElem? (i := 830) (by decide +kernel))), (mem_tb (List.mem_of_getElem? (i := 12) (by decide +kernel))), by decide +kernel, by decide +kernel⟩, (mem_tb (List.mem_of_getElem? (i := 829) (by decide +kernel))), (mem_sel (List.mem_of_getElem? (i := 23) (by decide +kernel)))⟩
theorem clX9_32 : CLS RX9 32 M_X9_in 3 := ⟨⟨Or.inl (mem_tb (List.mem_of_getElem? (i := 812) (by decide +kernel))), (mem_tb (List.mem_of_getElem? (i := 814) (by decide +kernel))), (mem_tb (List.mem_of_getElem? (i := 12) (by decide +kernel))), by decide +kernel, by decide +kernel⟩, (mem_tb (List.mem_of_getElem? (i := 813) (by decide +kernel)))⟩
theorem clX9_36 : CLS RX9 36 M_X9_isLate 1 := ⟨⟨Or.inl (mem_tb (List.mem_of_getElem? (i := 898) (by decide +kernel))), (mem_tb (List.mem_of_getElem? (i := 900) (by decide +kernel))), (mem_tb (List.mem_of_getElem? (i := 12) (by decide +kernel))), by decide +kernel, by decide +kernel⟩, (mem_tb (List.mem_of_getElem? (i := 899) (by decide +kernel)))⟩
theorem clX9_40 : CLV RX9 40 M_X9_pageAt 2 := ⟨⟨Or.inl (mem_tb (List.mem_of_getElem? (i := 863) (by decide +kernel))), (mem_tb (List.mem_of_getElem? (i := 866) (by decide +kernel))), (mem_tb (List.mem_of_getElem? (i := 12) (by decide +kernel))), by decide +kernel, by decide +kernel⟩, (mem_tb (List.mem_of_getElem? (i := 865) (by decide +kernel))), (mem_sel (List.mem_of_getElem? (i := 31) (by decide +kernel)))⟩
theorem clX9_44 : CLV RX9 44 M_X9_atPlace 1 := ⟨⟨Or.inl (mem_tb (List.mem_of_getElem? (i := 879) (by decide +kernel))), (mem_tb (List.mem_of_getElem? (i := 882) (by decide +kernel))), (mem_tb (List.mem_of_getElem? (i := 12) (by decide +kernel))), by decide +kernel, by decide +kernel⟩, (mem_tb (List.mem_of_getElem? (i := 881) (by decide +kernel))), (mem_sel (List.mem_of_getElem? (i := 35) (by decide +kernel)))⟩
theorem clX9_48 : CLV RX9 48 M_X9_backupAt 2 := ⟨⟨Or.inl (mem_tb (List.mem_of_getElem? (i := 883) (by decide +kernel))), (mem_tb (List.mem_of_getElem? (i := 886) (by decide +kernel))), (mem_tb (List.mem_of_getElem? (i := 12) (by decide +kernel))), by decide +kernel, by decide +kernel⟩, (mem_tb (List.mem_of_getElem? (i := 885) (by decide +kernel))), (mem_sel (List.mem_of_getElem? (i := 36) (by decide +kernel)))⟩
theorem clX9_51 : CLV RX9 51 M_X9_placeOfKey 1 := ⟨⟨Or.inl (mem_tb (List.mem_of_getElem? (i := 875) (by decide +kernel))), (mem_tb (List.mem_of_getElem? (i := 878) (by decide +kernel))), (mem_tb (List.mem_of_getElem? (i := 12) (by decide +kernel))), by decide +kernel, by decide +kernel⟩, (mem_tb (List.mem_of_getElem? (i := 877) (by decide +kernel))), (mem_sel (List.mem_of_getElem? (i := 34) (by decide +kernel)))⟩
theorem clX9_54 : CLV RX9 54 M_X9_comes 4 := ⟨⟨Or.inl (mem_tb (List.mem_of_getElem? (i := 819) (by decide +kernel))), (mem_tb (List.mem_of_getElem? (i := 822) (by decide +kernel))), (mem_tb (List.mem_of_getElem? (i := 12) (by decide +kernel))), by decide +kernel, by decide +kernel⟩, (mem_tb (List.mem_of_getElem? (i := 821) (by decide +kernel))), (mem_sel (List.mem_of_getElem? (i := 21) (by decide +kernel)))⟩
theorem clX9_58 : CLV RX9 58 M_X9_stampOf 1 := ⟨⟨Or.inl (mem_tb (List.mem_of_getElem? (i := 871) (by decide +kernel))), (mem_tb (List.mem_of_getElem? (i := 874) (by decide +kernel))), (mem_tb (List.mem_of_getElem? (i := 12) (by decide +kernel))), by decide +kernel, by decide +kernel⟩, (mem_tb (List.mem_of_getElem? (i := 873) (by decide +kernel))), (mem_sel (List.mem_of_getElem? (i := 33) (by decide +kernel)))⟩
theorem clX9_61 : CLV RX9 61 M_X9_now 1 := ⟨⟨Or.inl (mem_tb (List.mem_of_getElem? (i := 851) (by decide +kernel))), (mem_tb (List.mem_of_getElem? (i := 854) (by decide +kernel))), (mem_tb (List.mem_of_getElem? (i := 12) (by decide +kernel))), by decide +kernel, by decide +kernel⟩, (mem_tb (List.mem_of_getElem? (i := 853) (by decide +kernel))), (mem_sel (List.mem_of_getElem? (i := 28) (by decide +kernel)))⟩
theorem clX9_64 : CLS RX9 64 M_X9_lineOf 1 := ⟨⟨Or.inl (mem_tb (List.mem_of_getElem? (i := 895) (by decide +kernel))), (mem_tb (List.mem_of_getElem? (i := 897) (by decide +kernel))), (mem_tb (List.mem_of_getElem? (i := 12) (by decide +kernel))), by decide +kernel, by decide +kernel⟩, (mem_tb (List.mem_of_getElem? (i := 896) (by decide +kernel)))⟩
theorem clX9_67 : CLS RX9 67 M_X9_earlyOf 1 := ⟨⟨Or.inl (mem_tb (List.mem_of_getElem? (i := 901) (by decide +kernel))), (mem_tb (List.mem_of_getElem? (i := 903) (by decide +kernel))), (mem_tb (List.mem_of_getElem? (i := 12) (by decide +kernel))), by decide +kernel, by decide +kernel⟩, (mem_tb (List.mem_of_getElem? (i := 902) (by decide +kernel)))⟩
theorem clX9_70 : CLV RX9 70 M_X9_goesFirst 0 := ⟨⟨Or.inl (mem_tb (List.mem_of_getElem? (i := 887) (by decide +kernel))), (mem_tb (List.mem_of_getElem? (i := 890) (by decide +kernel))), (mem_tb (List.mem_of_getElem? (i := 12) (by decide +kernel))), by decide +kernel, by decide +kernel⟩, (mem_tb (List.mem_of_getElem? (i := 889) (by decide +kernel))), (mem_sel (List.mem_of_getElem? (i := 37) (by decide +kernel)))⟩
theorem clX9_73 : CLV RX9 73 M_X9_next 0 := ⟨⟨Or.inl (mem_tb (List.mem_of_getElem? (i := 859) (by decide +kernel))), (mem_tb (List.mem_of_getElem? (i := 862) (by decide +kernel))), (mem_tb (List.mem_of_getElem? (i := 12) (by decide +kernel))), by decide +kernel, by decide +kernel⟩, (mem_tb (List.mem_of_getElem? (i := 861) (by decide +kernel))), (mem_sel (List.mem_of_getElem? (i := 30) (by decide +kernel)))⟩
theorem clX9_77 : CLV RX9 77 M_X9_isWriting 0 := ⟨⟨Or.inl (mem_tb (List.mem_of_getElem? (i := 847) (by decide +kernel))), (mem_tb (List.mem_of_getElem? (i := 850) (by decide +kernel))), (mem_tb (List.mem_of_getElem? (i := 12) (by decide +kernel))), by decide +kernel, by decide +kernel⟩, (mem_tb (List.mem_of_getElem? (i := 849) (by decide +kernel))), (mem_sel (List.mem_of_getElem? (i := 27) (by decide +kernel)))⟩
theorem clX9_81 : CLV RX9 81 M_X9_isPassed 0 := ⟨⟨Or.inl (mem_tb (List.mem_of_getElem? (i := 867) (by decide +kernel))), (mem_tb (List.mem_of_getElem? (i := 870) (by decide +kernel))), (mem_tb (List.mem_of_getElem? (i := 12) (by decide +kernel))), by decide +kernel, by decide +kernel⟩, (mem_tb (List.mem_of_getElem? (i := 869) (by decide +kernel))), (mem_sel (List.mem_of_getElem? (i := 32) (by decide +kernel)))⟩
theorem clX9_84 : CLV RX9 84 M_X9_begin1 1 := ⟨⟨Or.inl (mem_tb (List.mem_of_getElem? (i := 891) (by decide +kernel))), (mem_tb (List.mem_of_getElem? (i := 894) (by decide +kernel))), (mem_tb (List.mem_of_getElem? (i := 12) (by decide +kernel))), by decide +kernel, by decide +kernel⟩, (mem_tb (List.mem_of_getElem? (i := 893) (by decide +kernel))), (mem_sel (List.mem_of_getElem? (i := 38) (by decide +kernel)))⟩
theorem clX9_88 : CLV RX9 88 M_X9_clearsBackup 2 := ⟨⟨Or.inl (mem_tb (List.mem_of_getElem? (i := 908) (by decide +kernel))), (mem_tb (List.mem_of_getElem? (i := 911) (by decide +kernel))), (mem_tb (List.mem_of_getElem? (i := 12) (by decide +kernel))), by decide +kernel, by decide +kernel⟩, (mem_tb (List.mem_of_getElem? (i := 910) (by decide +kernel))), (mem_sel (List.mem_of_getElem? (i := 40) (by decide +kernel)))⟩
theorem clX9_92 : CLV RX9 92 M_X9_clearsNow 0 := ⟨⟨Or.inl (mem_tb (List.mem_of_getElem? (i := 912) (by decide +kernel))), (mem_tb (List.mem_of_getElem? (i := 915) (by decide +kernel))), (mem_tb (List.mem_of_getElem? (i := 12) (by decide +kernel))), by decide +kernel, by decide +kernel⟩, (mem_tb (List.mem_of_getElem? (i := 914) (by decide +kernel))), (mem_sel (List.mem_of_getElem? (i := 41) (by decide +kernel)))⟩
theorem clX9_95 : CLV RX9 95 M_X9_takes 0 := ⟨⟨Or.inl (mem_tb (List.mem_of_getElem? (i := 855) (by decide +kernel))), (mem_tb (List.mem_of_getElem? (i := 858) (by decide +kernel))), (mem_tb (List.mem_of_getElem? (i := 12) (by decide +kernel))), by decide +kernel, by decide +kernel⟩, (mem_tb (List.mem_of_getElem? (i := 857) (by decide +kernel))), (mem_sel (List.mem_of_getElem? (i := 29) (by decide +kernel)))⟩
theorem clX9_98 : CLV RX9 98 M_X9_ends 0 := ⟨⟨Or.inl (mem_tb (List.mem_of_getElem? (i := 904) (by decide +kernel))), (mem_tb (List.mem_of_getElem? (i := 907) (by decide +kernel))), (mem_tb (List.mem_of_getElem? (i := 12) (by decide +kernel))), by decide +kernel, by decide +kernel⟩, (mem_tb (List.mem_of_getElem? (i := 906) (by decide +kernel))), (mem_sel (List.mem_of_getElem? (i := 39) (by decide +kernel)))⟩
theorem clX9_101 : CLV RX9 101 M_X9_ticks 0 := ⟨⟨Or.inl (mem_tb (List.mem_of_getElem? (i := 843) (by decide +kernel))), (mem_tb (List.mem_of_getElem? (i := 846) (by decide +kernel))), (mem_tb (List.mem_of_getElem? (i := 12) (by decide +kernel))), by decide +kernel, by decide +kernel⟩, (mem_tb (List.mem_of_getElem? (i := 845) (by decide +kernel))), (mem_sel (List.mem_of_getElem? (i := 26) (by decide +kernel)))⟩
theorem clX9_104 : CLV RX9 104 M_X9_tears 2 := ⟨⟨Or.inl (mem_tb (List.mem_of_getElem? (i := 928) (by decide +kernel))), (mem_tb (List.mem_of_getElem? (i := 931) (by decide +kernel))), (mem_tb (List.mem_of_getElem? (i := 12) (by decide +kernel))), by decide +kernel, by decide +kernel⟩, (mem_tb (List.mem_of_getElem? (i := 930) (by decide +kernel))), (mem_sel (List.mem_of_getElem? (i := 44) (by decide +kernel)))⟩
theorem clX9_107 : CLV RX9 107 M_X9_isOff 0 := ⟨⟨Or.inl (mem_tb (List.mem_of_getElem? (i := 815) (by decide +kernel))), (mem_tb (List.mem_of_getElem? (i := 818) (by decide +kernel))), (mem_tb (List.mem_of_getElem? (i := 12) (by decide +kernel))), by decide +kernel, by decide +kernel⟩, (mem_tb (List.mem_of_getElem? (i := 817) (by decide +kernel))), (mem_sel (List.mem_of_getElem? (i := 20) (by decide +kernel)))⟩
theorem clX9_110 : CLV RX9 110 M_X9_breaks 0 := ⟨⟨Or.inl (mem_tb (List.mem_of_getElem? (i := 924) (by decide +kernel))), (mem_tb (List.mem_of_getElem? (i := 927) (by decide +kernel))), (mem_tb (List.mem_of_getElem? (i := 12) (by decide +kernel))), by decide +kernel, by decide +kernel⟩, (mem_tb (List.mem_of_getElem? (i := 926) (by decide +kernel))), (mem_sel (List.mem_of_getElem? (i := 43) (by decide +kernel)))⟩
theorem clX9_113 : CLS RX9 113 M_X9_ones 1 := ⟨⟨Or.inl (mem_tb (List.mem_of_getElem? (i := 932) (by decide +kernel))), (mem_tb (List.mem_of_getElem? (i := 934) (by decide +kernel))), (mem_tb (List.mem_of_getElem? (i := 12) (by decide +kernel))), by decide +kernel, by decide +kernel⟩, (mem_tb (List.mem_of_getElem? (i := 933) (by decide +kernel)))⟩
theorem clX9_116 : CLV RX9 116 M_X9_isPlace 1 := ⟨⟨Or.inl (mem_tb (List.mem_of_getElem? (i := 943) (by decide +kernel))), (mem_tb (List.mem_of_getElem? (i := 946) (by decide +kernel))), (mem_tb (List.mem_of_getElem? (i := 12) (by decide +kernel))), by decide +kernel, by decide +kernel⟩, (mem_tb (List.mem_of_getElem? (i := 945) (by decide +kernel))), (mem_sel (List.mem_of_getElem? (i := 46) (by decide +kernel)))⟩
theorem clX9_119 : CLV RX9 119 M_X9_copies 2 := ⟨⟨Or.inl (mem_tb (List.mem_of_getElem? (i := 947) (by decide +kernel))), (mem_tb (List.mem_of_getElem? (i := 950) (by decide +kernel))), (mem_tb (List.mem_of_getElem? (i := 12) (by decide +kernel))), by decide +kernel, by decide +kernel⟩, (mem_tb (List.mem_of_getElem? (i := 949) (by decide +kernel))), (mem_sel (List.mem_of_getElem? (i := 47) (by decide +kernel)))⟩
theorem clX9_122 : CLV RX9 122 M_X9_goes 1 := ⟨⟨Or.inl (mem_tb (List.mem_of_getElem? (i := 839) (by decide +kernel))), (mem_tb (List.mem_of_getElem? (i := 842) (by decide +kernel))), (mem_tb (List.mem_of_getElem? (i := 12) (by decide +kernel))), by decide +kernel, by decide +kernel⟩, (mem_tb (List.mem_of_getElem? (i := 841) (by decide +kernel))), (mem_sel (List.mem_of_getElem? (i := 25) (by decide +kernel)))⟩
theorem clX9_125 : CLV RX9 125 M_X9_isBlank 1 := ⟨⟨Or.inl (mem_tb (List.mem_of_getElem? (i := 959) (by decide +kernel))), (mem_tb (List.mem_of_getElem? (i := 962) (by decide +kernel))), (mem_tb (List.mem_of_getElem? (i := 12) (by decide +kernel))), by decide +kernel, by decide +kernel⟩, (mem_tb (List.mem_of_getElem? (i := 961) (by decide +kernel))), (mem_sel (List.mem_of_getElem? (i := 49) (by decide +kernel)))⟩
theorem clX9_128 : CLS RX9 128 M_X9_isBlock 1 := ⟨⟨Or.inl (mem_tb (List.mem_of_getElem? (i := 971) (by decide +kernel))), (mem_tb (List.mem_of_getElem? (i := 973) (by decide +kernel))), (mem_tb (List.mem_of_getElem? (i := 12) (by decide +kernel))), by decide +kernel, by decide +kernel⟩, (mem_tb (List.mem_of_getElem? (i := 972) (by decide +kernel)))⟩
theorem clX9_131 : CLV RX9 131 M_X9_begins 0 := ⟨⟨Or.inl (mem_tb (List.mem_of_getElem? (i := 804) (by decide +kernel))), (mem_tb (List.mem_of_getElem? (i := 807) (by decide +kernel))), (mem_tb (List.mem_of_getElem? (i := 12) (by decide +kernel))), by decide +kernel, by decide +kernel⟩, (mem_tb (List.mem_of_getElem? (i := 806) (by decide +kernel))), (mem_sel (List.mem_of_getElem? (i := 18) (by decide +kernel)))⟩
theorem clX9_134 : CLV RX9 134 M_X9_asks 3 := ⟨⟨Or.inl (mem_tb (List.mem_of_getElem? (i := 808) (by decide +kernel))), (mem_tb (List.mem_of_getElem? (i := 811) (by decide +kernel))), (mem_tb (List.mem_of_getElem? (i := 12) (by decide +kernel))), by decide +kernel, by decide +kernel⟩, (mem_tb (List.mem_of_getElem? (i := 810) (by decide +kernel))), (mem_sel (List.mem_of_getElem? (i := 19) (by decide +kernel)))⟩
theorem clX9_138 : CLV RX9 138 M_X9_acted 1 := ⟨⟨Or.inl (mem_tb (List.mem_of_getElem? (i := 823) (by decide +kernel))), (mem_tb (List.mem_of_getElem? (i := 826) (by decide +kernel))), (mem_tb (List.mem_of_getElem? (i := 12) (by decide +kernel))), by decide +kernel, by decide +kernel⟩, (mem_tb (List.mem_of_getElem? (i := 825) (by decide +kernel))), (mem_sel (List.mem_of_getElem? (i := 22) (by decide +kernel)))⟩
theorem clX9_141 : CLV RX9 141 M_X9_lets 1 := ⟨⟨Or.inl (mem_tb (List.mem_of_getElem? (i := 835) (by decide +kernel))), (mem_tb (List.mem_of_getElem? (i := 838) (by decide +kernel))), (mem_tb (List.mem_of_getElem? (i := 12) (by decide +kernel))), by decide +kernel, by decide +kernel⟩, (mem_tb (List.mem_of_getElem? (i := 837) (by decide +kernel))), (mem_sel (List.mem_of_getElem? (i := 24) (by decide +kernel)))⟩
theorem clX9_144 : CLV RX9 144 M_X9_turnsOff 0 := ⟨⟨Or.inl (mem_tb (List.mem_of_getElem? (i := 920) (by decide +kernel))), (mem_tb (List.mem_of_getElem? (i := 923) (by decide +kernel))), (mem_tb (List.mem_of_getElem? (i := 12) (by decide +kernel))), by decide +kernel, by decide +kernel⟩, (mem_tb (List.mem_of_getElem? (i := 922) (by decide +kernel))), (mem_sel (List.mem_of_getElem? (i := 42) (by decide +kernel)))⟩
theorem clX9_147 : CLV RX9 147 M_X9_turnsOn 0 := ⟨⟨Or.inl (mem_tb (List.mem_of_getElem? (i := 939) (by decide +kernel))), (mem_tb (List.mem_of_getElem? (i := 942) (by decide +kernel))), (mem_tb (List.mem_of_getElem? (i := 12) (by decide +kernel))), by decide +kernel, by decide +kernel⟩, (mem_tb (List.mem_of_getElem? (i := 941) (by decide +kernel))), (mem_sel (List.mem_of_getElem? (i := 45) (by decide +kernel)))⟩
theorem clX9_150 : CLV RX9 150 M_X9_changes 0 := ⟨⟨Or.inl (mem_tb (List.mem_of_getElem? (i := 955) (by decide +kernel))), (mem_tb (List.mem_of_getElem? (i := 958) (by decide +kernel))), (mem_tb (List.mem_of_getElem? (i := 12) (by decide +kernel))), by decide +kernel, by decide +kernel⟩, (mem_tb (List.mem_of_getElem? (i := 957) (by decide +kernel))), (mem_sel (List.mem_of_getElem? (i := 48) (by decide +kernel)))⟩
theorem clX9_153 : CLV RX9 153 M_X9_cleans 1 := ⟨⟨Or.inl (mem_tb (List.mem_of_getElem? (i := 967) (by decide +kernel))), (mem_tb (List.mem_of_getElem? (i := 970) (by decide +kernel))), (mem_tb (List.mem_of_getElem? (i := 12) (by decide +kernel))), by decide +kernel, by decide +kernel⟩, (mem_tb (List.mem_of_getElem? (i := 969) (by decide +kernel))), (mem_sel (List.mem_of_getElem? (i := 50) (by decide +kernel)))⟩
theorem clX9_156 : CLV RX9 156 M_X9_erases 1 := ⟨⟨Or.inl (mem_tb (List.mem_of_getElem? (i := 978) (by decide +kernel))), (mem_tb (List.mem_of_getElem? (i := 981) (by decide +kernel))), (mem_tb (List.mem_of_getElem? (i := 12) (by decide +kernel))), by decide +kernel, by decide +kernel⟩, (mem_tb (List.mem_of_getElem? (i := 980) (by decide +kernel))), (mem_sel (List.mem_of_getElem? (i := 51) (by decide +kernel)))⟩
theorem clX9_159 : CLV RX9 159 M_X9_puts 2 := ⟨⟨Or.inl (mem_tb (List.mem_of_getElem? (i := 986) (by decide +kernel))), (mem_tb (List.mem_of_getElem? (i := 989) (by decide +kernel))), (mem_tb (List.mem_of_getElem? (i := 12) (by decide +kernel))), by decide +kernel, by decide +kernel⟩, (mem_tb (List.mem_of_getElem? (i := 988) (by decide +kernel))), (mem_sel (List.mem_of_getElem? (i := 52) (by decide +kernel)))⟩
theorem clX9_162 : CLS RX9 162 M_X9_isKey 1 := ⟨⟨Or.inl (mem_tb (List.mem_of_getElem? (i := 998) (by decide +kernel))), (mem_tb (List.mem_of_getElem? (i := 1000) (by decide +kernel))), (mem_tb (List.mem_of_getElem? (i := 12) (by decide +kernel))), by decide +kernel, by decide +kernel⟩, (mem_tb (List.mem_of_getElem? (i := 999) (by decide +kernel)))⟩
theorem clX9_165 : CLV RX9 165 M_X9_torn 0 := ⟨⟨Or.inl (mem_tb (List.mem_of_getElem? (i := 1025) (by decide +kernel))), (mem_tb (List.mem_of_getElem? (i := 1028) (by decide +kernel))), (mem_tb (List.mem_of_getElem? (i := 12) (by decide +kernel))), by decide +kernel, by decide +kernel⟩, (mem_tb (List.mem_of_getElem? (i := 1027) (by decide +kernel))), (mem_sel (List.mem_of_getElem? (i := 54) (by decide +kernel)))⟩
theorem clX9_168 : CLV RX9 168 M_X9_keysThere 0 := ⟨⟨Or.inl (mem_tb (List.mem_of_getElem? (i := 1029) (by decide +kernel))), (mem_tb (List.mem_of_getElem? (i := 1032) (by decide +kernel))), (mem_tb (List.mem_of_getElem? (i := 12) (by decide +kernel))), by decide +kernel, by decide +kernel⟩, (mem_tb (List.mem_of_getElem? (i := 1031) (by decide +kernel))), (mem_sel (List.mem_of_getElem? (i := 55) (by decide +kernel)))⟩
theorem clX9_174 : CLV RX9 174 M_X9_counted 1 := ⟨⟨Or.inl (mem_tb (List.mem_of_getElem? (i := 1021) (by decide +kernel))), (mem_tb (List.mem_of_getElem? (i := 1024) (by decide +kernel))), (mem_tb (List.mem_of_getElem? (i := 12) (by decide +kernel))), by decide +kernel, by decide +kernel⟩, (mem_tb (List.mem_of_getElem? (i := 1023) (by decide +kernel))), (mem_sel (List.mem_of_getElem? (i := 53) (by decide +kernel)))⟩
theorem clX9_180 : CLV RX9 180 M_X9_here 0 := ⟨⟨Or.inl (mem_tb (List.mem_of_getElem? (i := 1061) (by decide +kernel))), (mem_tb (List.mem_of_getElem? (i := 1064) (by decide +kernel))), (mem_tb (List.mem_of_getElem? (i := 12) (by decide +kernel))), by decide +kernel, by decide +kernel⟩, (mem_tb (List.mem_of_getElem? (i := 1063) (by decide +kernel))), (mem_sel (List.mem_of_getElem? (i := 57) (by decide +kernel)))⟩
theorem clX9_187 : CLV RX9 187 M_X9_isDigit 0 := ⟨⟨Or.inl (mem_tb (List.mem_of_getElem? (i := 1075) (by decide +kernel))), (mem_tb (List.mem_of_getElem? (i := 1078) (by decide +kernel))), (mem_tb (List.mem_of_getElem? (i := 12) (by decide +kernel))), by decide +kernel, by decide +kernel⟩, (mem_tb (List.mem_of_getElem? (i := 1077) (by decide +kernel))), (mem_sel (List.mem_of_getElem? (i := 59) (by decide +kernel)))⟩
theorem clX9_193 : CLS RX9 193 M_X9_hasTwo 1 := ⟨⟨Or.inl (mem_tb (List.mem_of_getElem? (i := 1065) (by decide +kernel))), (mem_tb (List.mem_of_getElem? (i := 1067) (by decide +kernel))), (mem_tb (List.mem_of_getElem? (i := 12) (by decide +kernel))), by decide +kernel, by decide +kernel⟩, (mem_tb (List.mem_of_getElem? (i := 1066) (by decide +kernel)))⟩
theorem clX9_196 : CLS RX9 196 M_X9_hasOne 1 := ⟨⟨Or.inl (mem_tb (List.mem_of_getElem? (i := 1068) (by decide +kernel))), (mem_tb (List.mem_of_getElem? (i := 1070) (by decide +kernel))), (mem_tb (List.mem_of_getElem? (i := 12) (by decide +kernel))), by decide +kernel, by decide +kernel⟩, (mem_tb (List.mem_of_getElem? (i := 1069) (by decide +kernel)))⟩
theorem clX9_199 : CLV RX9 199 M_X9_number 0 := ⟨⟨Or.inl (mem_tb (List.mem_of_getElem? (i := 1071) (by decide +kernel))), (mem_tb (List.mem_of_getElem? (i := 1074) (by decide +kernel))), (mem_tb (List.mem_of_getElem? (i := 12) (by decide +kernel))), by decide +kernel, by decide +kernel⟩, (mem_tb (List.mem_of_getElem? (i := 1073) (by decide +kernel))), (mem_sel (List.mem_of_getElem? (i := 58) (by decide +kernel)))⟩
theorem clX9_202 : CLV RX9 202 M_X9_takesSign 1 := ⟨⟨Or.inl (mem_tb (List.mem_of_getElem? (i := 1079) (by decide +kernel))), (mem_tb (List.mem_of_getElem? (i := 1082) (by decide +kernel))), (mem_tb (List.mem_of_getElem? (i := 12) (by decide +kernel))), by decide +kernel, by decide +kernel⟩, (mem_tb (List.mem_of_getElem? (i := 1081) (by decide +kernel))), (mem_sel (List.mem_of_getElem? (i := 60) (by decide +kernel)))⟩
theorem clX9_205 : CLV RX9 205 M_X9_called 3 := ⟨⟨Or.inl (mem_tb (List.mem_of_getElem? (i := 1083) (by decide +kernel))), (mem_tb (List.mem_of_getElem? (i := 1086) (by decide +kernel))), (mem_tb (List.mem_of_getElem? (i := 12) (by decide +kernel))), by decide +kernel, by decide +kernel⟩, (mem_tb (List.mem_of_getElem? (i := 1085) (by decide +kernel))), (mem_sel (List.mem_of_getElem? (i := 61) (by decide +kernel)))⟩
theorem clX9_211 : CLV RX9 211 M_X9_does 0 := ⟨⟨Or.inl (mem_tb (List.mem_of_getElem? (i := 1057) (by decide +kernel))), (mem_tb (List.mem_of_getElem? (i := 1060) (by decide +kernel))), (mem_tb (List.mem_of_getElem? (i := 12) (by decide +kernel))), by decide +kernel, by decide +kernel⟩, (mem_tb (List.mem_of_getElem? (i := 1059) (by decide +kernel))), (mem_sel (List.mem_of_getElem? (i := 56) (by decide +kernel)))⟩
theorem clL_9 : CLI RL 9 M_X8_init 0 := ⟨⟨Or.inl (mem_tb (List.mem_of_getElem? (i := 16) (by decide +kernel))), (mem_tb (List.mem_of_getElem? (i := 18) (by decide +kernel))), (mem_tb (List.mem_of_getElem? (i := 1) (by decide +kernel))), by decide +kernel, by decide +kernel⟩, by decide +kernel, (mem_tb (List.mem_of_getElem? (i := 17) (by decide +kernel))), rfl⟩
theorem clL_12 : CLI RL 12 M_X9_init 0 := ⟨⟨Or.inl (mem_tb (List.mem_of_getElem? (i := 762) (by decide +kernel))), (mem_tb (List.mem_of_getElem? (i := 764) (by decide +kernel))), (mem_tb (List.mem_of_getElem? (i := 12) (by decide +kernel))), by decide +kernel, by decide +kernel⟩, by decide +kernel, (mem_tb (List.mem_of_getElem? (i := 763) (by decide +kernel))), rfl⟩
theorem clL_13 : CLV RL 13 M_X8_write 3 := ⟨⟨Or.inl (mem_tb (List.mem_of_getElem? (i := 272) (by decide +kernel))), (mem_tb (List.mem_of_getElem? (i := 275) (by decide +kernel))), (mem_tb (List.mem_of_getElem? (i := 1) (by decide +kernel))), by decide +kernel, by decide +kernel⟩, (mem_tb (List.mem_of_getElem? (i := 273) (by decide +kernel))), (mem_tb (List.mem_of_getElem? (i := 274) (by decide +kernel)))⟩
theorem clL_17 : CLV RL 17 M_X9_write 3 := ⟨⟨Or.inl (mem_tb (List.mem_of_getElem? (i := 800) (by decide +kernel))), (mem_tb (List.mem_of_getElem? (i := 803) (by decide +kernel))), (mem_tb (List.mem_of_getElem? (i := 12) (by decide +kernel))), by decide +kernel, by decide +kernel⟩, (mem_tb (List.mem_of_getElem? (i := 801) (by decide +kernel))), (mem_tb (List.mem_of_getElem? (i := 802) (by decide +kernel)))⟩
theorem clL_18 : CLV RL 18 M_X8_tick 1 := ⟨⟨Or.inl (mem_tb (List.mem_of_getElem? (i := 346) (by decide +kernel))), (mem_tb (List.mem_of_getElem? (i := 349) (by decide +kernel))), (mem_tb (List.mem_of_getElem? (i := 1) (by decide +kernel))), by decide +kernel, by decide +kernel⟩, (mem_tb (List.mem_of_getElem? (i := 347) (by decide +kernel))), (mem_tb (List.mem_of_getElem? (i := 348) (by decide +kernel)))⟩
theorem clL_22 : CLV RL 22 M_X9_tick 1 := ⟨⟨Or.inl (mem_tb (List.mem_of_getElem? (i := 831) (by decide +kernel))), (mem_tb (List.mem_of_getElem? (i := 834) (by decide +kernel))), (mem_tb (List.mem_of_getElem? (i := 12) (by decide +kernel))), by decide +kernel, by decide +kernel⟩, (mem_tb (List.mem_of_getElem? (i := 832) (by decide +kernel))), (mem_tb (List.mem_of_getElem? (i := 833) (by decide +kernel)))⟩
theorem clL_23 : CLV RL 23 M_X8_cut 0 := ⟨⟨Or.inl (mem_tb (List.mem_of_getElem? (i := 452) (by decide +kernel))), (mem_tb (List.mem_of_getElem? (i := 455) (by decide +kernel))), (mem_tb (List.mem_of_getElem? (i := 1) (by decide +kernel))), by decide +kernel, by decide +kernel⟩, (mem_tb (List.mem_of_getElem? (i := 453) (by decide +kernel))), (mem_tb (List.mem_of_getElem? (i := 454) (by decide +kernel)))⟩
theorem clL_27 : CLV RL 27 M_X9_cut 0 := ⟨⟨Or.inl (mem_tb (List.mem_of_getElem? (i := 916) (by decide +kernel))), (mem_tb (List.mem_of_getElem? (i := 919) (by decide +kernel))), (mem_tb (List.mem_of_getElem? (i := 12) (by decide +kernel))), by decide +kernel, by decide +kernel⟩, (mem_tb (List.mem_of_getElem? (i := 917) (by decide +kernel))), (mem_tb (List.mem_of_getElem? (i := 918) (by decide +kernel)))⟩
theorem clL_28 : CLV RL 28 M_X8_on 0 := ⟨⟨Or.inl (mem_tb (List.mem_of_getElem? (i := 488) (by decide +kernel))), (mem_tb (List.mem_of_getElem? (i := 491) (by decide +kernel))), (mem_tb (List.mem_of_getElem? (i := 1) (by decide +kernel))), by decide +kernel, by decide +kernel⟩, (mem_tb (List.mem_of_getElem? (i := 489) (by decide +kernel))), (mem_tb (List.mem_of_getElem? (i := 490) (by decide +kernel)))⟩
theorem clL_31 : CLV RL 31 M_X9_on 0 := ⟨⟨Or.inl (mem_tb (List.mem_of_getElem? (i := 935) (by decide +kernel))), (mem_tb (List.mem_of_getElem? (i := 938) (by decide +kernel))), (mem_tb (List.mem_of_getElem? (i := 12) (by decide +kernel))), by decide +kernel, by decide +kernel⟩, (mem_tb (List.mem_of_getElem? (i := 936) (by decide +kernel))), (mem_tb (List.mem_of_getElem? (i := 937) (by decide +kernel)))⟩
theorem clL_32 : CLV RL 32 M_X8_turn 0 := ⟨⟨Or.inl (mem_tb (List.mem_of_getElem? (i := 514) (by decide +kernel))), (mem_tb (List.mem_of_getElem? (i := 517) (by decide +kernel))), (mem_tb (List.mem_of_getElem? (i := 1) (by decide +kernel))), by decide +kernel, by decide +kernel⟩, (mem_tb (List.mem_of_getElem? (i := 515) (by decide +kernel))), (mem_tb (List.mem_of_getElem? (i := 516) (by decide +kernel)))⟩
theorem clL_35 : CLV RL 35 M_X9_turn 0 := ⟨⟨Or.inl (mem_tb (List.mem_of_getElem? (i := 951) (by decide +kernel))), (mem_tb (List.mem_of_getElem? (i := 954) (by decide +kernel))), (mem_tb (List.mem_of_getElem? (i := 12) (by decide +kernel))), by decide +kernel, by decide +kernel⟩, (mem_tb (List.mem_of_getElem? (i := 952) (by decide +kernel))), (mem_tb (List.mem_of_getElem? (i := 953) (by decide +kernel)))⟩
theorem clL_36 : CLV RL 36 M_X8_clean 1 := ⟨⟨Or.inl (mem_tb (List.mem_of_getElem? (i := 527) (by decide +kernel))), (mem_tb (List.mem_of_getElem? (i := 530) (by decide +kernel))), (mem_tb (List.mem_of_getElem? (i := 1) (by decide +kernel))), by decide +kernel, by decide +kernel⟩, (mem_tb (List.mem_of_getElem? (i := 528) (by decide +kernel))), (mem_tb (List.mem_of_getElem? (i := 529) (by decide +kernel)))⟩
theorem clL_39 : CLV RL 39 M_X9_clean 1 := ⟨⟨Or.inl (mem_tb (List.mem_of_getElem? (i := 963) (by decide +kernel))), (mem_tb (List.mem_of_getElem? (i := 966) (by decide +kernel))), (mem_tb (List.mem_of_getElem? (i := 12) (by decide +kernel))), by decide +kernel, by decide +kernel⟩, (mem_tb (List.mem_of_getElem? (i := 964) (by decide +kernel))), (mem_tb (List.mem_of_getElem? (i := 965) (by decide +kernel)))⟩
theorem clL_40 : CLV RL 40 M_X8_erase 1 := ⟨⟨Or.inl (mem_tb (List.mem_of_getElem? (i := 540) (by decide +kernel))), (mem_tb (List.mem_of_getElem? (i := 543) (by decide +kernel))), (mem_tb (List.mem_of_getElem? (i := 1) (by decide +kernel))), by decide +kernel, by decide +kernel⟩, (mem_tb (List.mem_of_getElem? (i := 541) (by decide +kernel))), (mem_tb (List.mem_of_getElem? (i := 542) (by decide +kernel)))⟩
theorem clL_43 : CLV RL 43 M_X9_erase 1 := ⟨⟨Or.inl (mem_tb (List.mem_of_getElem? (i := 974) (by decide +kernel))), (mem_tb (List.mem_of_getElem? (i := 977) (by decide +kernel))), (mem_tb (List.mem_of_getElem? (i := 12) (by decide +kernel))), by decide +kernel, by decide +kernel⟩, (mem_tb (List.mem_of_getElem? (i := 975) (by decide +kernel))), (mem_tb (List.mem_of_getElem? (i := 976) (by decide +kernel)))⟩
theorem clL_44 : CLV RL 44 M_X8_slow 2 := ⟨⟨Or.inl (mem_tb (List.mem_of_getElem? (i := 556) (by decide +kernel))), (mem_tb (List.mem_of_getElem? (i := 559) (by decide +kernel))), (mem_tb (List.mem_of_getElem? (i := 1) (by decide +kernel))), by decide +kernel, by decide +kernel⟩, (mem_tb (List.mem_of_getElem? (i := 557) (by decide +kernel))), (mem_tb (List.mem_of_getElem? (i := 558) (by decide +kernel)))⟩
theorem clL_48 : CLV RL 48 M_X9_slow 2 := ⟨⟨Or.inl (mem_tb (List.mem_of_getElem? (i := 982) (by decide +kernel))), (mem_tb (List.mem_of_getElem? (i := 985) (by decide +kernel))), (mem_tb (List.mem_of_getElem? (i := 12) (by decide +kernel))), by decide +kernel, by decide +kernel⟩, (mem_tb (List.mem_of_getElem? (i := 983) (by decide +kernel))), (mem_tb (List.mem_of_getElem? (i := 984) (by decide +kernel)))⟩
theorem clL_49 : CLV RL 49 M_X8_set 2 := ⟨⟨Or.inl (mem_tb (List.mem_of_getElem? (i := 564) (by decide +kernel))), (mem_tb (List.mem_of_getElem? (i := 567) (by decide +kernel))), (mem_tb (List.mem_of_getElem? (i := 1) (by decide +kernel))), by decide +kernel, by decide +kernel⟩, (mem_tb (List.mem_of_getElem? (i := 565) (by decide +kernel))), (mem_tb (List.mem_of_getElem? (i := 566) (by decide +kernel)))⟩
theorem clL_52 : CLV RL 52 M_X9_set 2 := ⟨⟨Or.inl (mem_tb (List.mem_of_getElem? (i := 990) (by decide +kernel))), (mem_tb (List.mem_of_getElem? (i := 993) (by decide +kernel))), (mem_tb (List.mem_of_getElem? (i := 12) (by decide +kernel))), by decide +kernel, by decide +kernel⟩, (mem_tb (List.mem_of_getElem? (i := 991) (by decide +kernel))), (mem_tb (List.mem_of_getElem? (i := 992) (by decide +kernel)))⟩
theorem clL_53 : CLV RL 53 M_X8_read 1 := ⟨⟨Or.inl (mem_tb (List.mem_of_getElem? (i := 576) (by decide +kernel))), (mem_tb (List.mem_of_getElem? (i := 579) (by decide +kernel))), (mem_tb (List.mem_of_getElem? (i := 1) (by decide +kernel))), by decide +kernel, by decide +kernel⟩, (mem_tb (List.mem_of_getElem? (i := 577) (by decide +kernel))), (mem_tb (List.mem_of_getElem? (i := 578) (by decide +kernel)))⟩
theorem clL_56 : CLV RL 56 M_X9_read 1 := ⟨⟨Or.inl (mem_tb (List.mem_of_getElem? (i := 994) (by decide +kernel))), (mem_tb (List.mem_of_getElem? (i := 997) (by decide +kernel))), (mem_tb (List.mem_of_getElem? (i := 12) (by decide +kernel))), by decide +kernel, by decide +kernel⟩, (mem_tb (List.mem_of_getElem? (i := 995) (by decide +kernel))), (mem_tb (List.mem_of_getElem? (i := 996) (by decide +kernel)))⟩
theorem clL_57 : CLV RL 57 M_X8_placeOf 2 := ⟨⟨Or.inl (mem_tb (List.mem_of_getElem? (i := 584) (by decide +kernel))), (mem_tb (List.mem_of_getElem? (i := 587) (by decide +kernel))), (mem_tb (List.mem_of_getElem? (i := 1) (by decide +kernel))), by decide +kernel, by decide +kernel⟩, (mem_tb (List.mem_of_getElem? (i := 585) (by decide +kernel))), (mem_tb (List.mem_of_getElem? (i := 586) (by decide +kernel)))⟩
theorem clL_60 : CLV RL 60 M_X9_placeOf 2 := ⟨⟨Or.inl (mem_tb (List.mem_of_getElem? (i := 1001) (by decide +kernel))), (mem_tb (List.mem_of_getElem? (i := 1004) (by decide +kernel))), (mem_tb (List.mem_of_getElem? (i := 12) (by decide +kernel))), by decide +kernel, by decide +kernel⟩, (mem_tb (List.mem_of_getElem? (i := 1002) (by decide +kernel))), (mem_tb (List.mem_of_getElem? (i := 1003) (by decide +kernel)))⟩
theorem clL_61 : CLV RL 61 M_X8_pageOf 3 := ⟨⟨Or.inl (mem_tb (List.mem_of_getElem? (i := 592) (by decide +kernel))), (mem_tb (List.mem_of_getElem? (i := 595) (by decide +kernel))), (mem_tb (List.mem_of_getElem? (i := 1) (by decide +kernel))), by decide +kernel, by decide +kernel⟩, (mem_tb (List.mem_of_getElem? (i := 593) (by decide +kernel))), (mem_tb (List.mem_of_getElem? (i := 594) (by decide +kernel)))⟩
theorem clL_64 : CLV RL 64 M_X9_pageOf 3 := ⟨⟨Or.inl (mem_tb (List.mem_of_getElem? (i := 1005) (by decide +kernel))), (mem_tb (List.mem_of_getElem? (i := 1008) (by decide +kernel))), (mem_tb (List.mem_of_getElem? (i := 12) (by decide +kernel))), by decide +kernel, by decide +kernel⟩, (mem_tb (List.mem_of_getElem? (i := 1006) (by decide +kernel))), (mem_tb (List.mem_of_getElem? (i := 1007) (by decide +kernel)))⟩
theorem clL_65 : CLV RL 65 M_X8_backupOf 3 := ⟨⟨Or.inl (mem_tb (List.mem_of_getElem? (i := 605) (by decide +kernel))), (mem_tb (List.mem_of_getElem? (i := 608) (by decide +kernel))), (mem_tb (List.mem_of_getElem? (i := 1) (by decide +kernel))), by decide +kernel, by decide +kernel⟩, (mem_tb (List.mem_of_getElem? (i := 606) (by decide +kernel))), (mem_tb (List.mem_of_getElem? (i := 607) (by decide +kernel)))⟩
theorem clL_68 : CLV RL 68 M_X9_backupOf 3 := ⟨⟨Or.inl (mem_tb (List.mem_of_getElem? (i := 1009) (by decide +kernel))), (mem_tb (List.mem_of_getElem? (i := 1012) (by decide +kernel))), (mem_tb (List.mem_of_getElem? (i := 12) (by decide +kernel))), by decide +kernel, by decide +kernel⟩, (mem_tb (List.mem_of_getElem? (i := 1010) (by decide +kernel))), (mem_tb (List.mem_of_getElem? (i := 1011) (by decide +kernel)))⟩
theorem clL_69 : CLV RL 69 M_X8_waits 2 := ⟨⟨Or.inl (mem_tb (List.mem_of_getElem? (i := 613) (by decide +kernel))), (mem_tb (List.mem_of_getElem? (i := 616) (by decide +kernel))), (mem_tb (List.mem_of_getElem? (i := 1) (by decide +kernel))), by decide +kernel, by decide +kernel⟩, (mem_tb (List.mem_of_getElem? (i := 614) (by decide +kernel))), (mem_tb (List.mem_of_getElem? (i := 615) (by decide +kernel)))⟩
theorem clL_72 : CLV RL 72 M_X9_waits 2 := ⟨⟨Or.inl (mem_tb (List.mem_of_getElem? (i := 1013) (by decide +kernel))), (mem_tb (List.mem_of_getElem? (i := 1016) (by decide +kernel))), (mem_tb (List.mem_of_getElem? (i := 12) (by decide +kernel))), by decide +kernel, by decide +kernel⟩, (mem_tb (List.mem_of_getElem? (i := 1014) (by decide +kernel))), (mem_tb (List.mem_of_getElem? (i := 1015) (by decide +kernel)))⟩
theorem clL_73 : CLV RL 73 M_X8_count 1 := ⟨⟨Or.inl (mem_tb (List.mem_of_getElem? (i := 621) (by decide +kernel))), (mem_tb (List.mem_of_getElem? (i := 624) (by decide +kernel))), (mem_tb (List.mem_of_getElem? (i := 1) (by decide +kernel))), by decide +kernel, by decide +kernel⟩, (mem_tb (List.mem_of_getElem? (i := 622) (by decide +kernel))), (mem_tb (List.mem_of_getElem? (i := 623) (by decide +kernel)))⟩
theorem clL_76 : CLV RL 76 M_X9_count 1 := ⟨⟨Or.inl (mem_tb (List.mem_of_getElem? (i := 1017) (by decide +kernel))), (mem_tb (List.mem_of_getElem? (i := 1020) (by decide +kernel))), (mem_tb (List.mem_of_getElem? (i := 12) (by decide +kernel))), by decide +kernel, by decide +kernel⟩, (mem_tb (List.mem_of_getElem? (i := 1018) (by decide +kernel))), (mem_tb (List.mem_of_getElem? (i := 1019) (by decide +kernel)))⟩
theorem clL_77 : CLV RL 77 M_X8_wouldLose 1 := ⟨⟨Or.inl (mem_tb (List.mem_of_getElem? (i := 649) (by decide +kernel))), (mem_tb (List.mem_of_getElem? (i := 652) (by decide +kernel))), (mem_tb (List.mem_of_getElem? (i := 1) (by decide +kernel))), by decide +kernel, by decide +kernel⟩, (mem_tb (List.mem_of_getElem? (i := 650) (by decide +kernel))), (mem_tb (List.mem_of_getElem? (i := 651) (by decide +kernel)))⟩
theorem clL_80 : CLV RL 80 M_X9_wouldLose 1 := ⟨⟨Or.inl (mem_tb (List.mem_of_getElem? (i := 1033) (by decide +kernel))), (mem_tb (List.mem_of_getElem? (i := 1036) (by decide +kernel))), (mem_tb (List.mem_of_getElem? (i := 12) (by decide +kernel))), by decide +kernel, by decide +kernel⟩, (mem_tb (List.mem_of_getElem? (i := 1034) (by decide +kernel))), (mem_tb (List.mem_of_getElem? (i := 1035) (by decide +kernel)))⟩
theorem clL_81 : CLV RL 81 M_X8_doneIn 0 := ⟨⟨Or.inl (mem_tb (List.mem_of_getElem? (i := 660) (by decide +kernel))), (mem_tb (List.mem_of_getElem? (i := 663) (by decide +kernel))), (mem_tb (List.mem_of_getElem? (i := 1) (by decide +kernel))), by decide +kernel, by decide +kernel⟩, (mem_tb (List.mem_of_getElem? (i := 661) (by decide +kernel))), (mem_tb (List.mem_of_getElem? (i := 662) (by decide +kernel)))⟩
theorem clL_84 : CLV RL 84 M_X9_doneIn 0 := ⟨⟨Or.inl (mem_tb (List.mem_of_getElem? (i := 1037) (by decide +kernel))), (mem_tb (List.mem_of_getElem? (i := 1040) (by decide +kernel))), (mem_tb (List.mem_of_getElem? (i := 12) (by decide +kernel))), by decide +kernel, by decide +kernel⟩, (mem_tb (List.mem_of_getElem? (i := 1038) (by decide +kernel))), (mem_tb (List.mem_of_getElem? (i := 1039) (by decide +kernel)))⟩
theorem clL_85 : CLV RL 85 M_X8_undo 0 := ⟨⟨Or.inl (mem_tb (List.mem_of_getElem? (i := 668) (by decide +kernel))), (mem_tb (List.mem_of_getElem? (i := 671) (by decide +kernel))), (mem_tb (List.mem_of_getElem? (i := 1) (by decide +kernel))), by decide +kernel, by decide +kernel⟩, (mem_tb (List.mem_of_getElem? (i := 669) (by decide +kernel))), (mem_tb (List.mem_of_getElem? (i := 670) (by decide +kernel)))⟩
theorem clL_88 : CLV RL 88 M_X9_undo 0 := ⟨⟨Or.inl (mem_tb (List.mem_of_getElem? (i := 1041) (by decide +kernel))), (mem_tb (List.mem_of_getElem? (i := 1044) (by decide +kernel))), (mem_tb (List.mem_of_getElem? (i := 12) (by decide +kernel))), by decide +kernel, by decide +kernel⟩, (mem_tb (List.mem_of_getElem? (i := 1042) (by decide +kernel))), (mem_tb (List.mem_of_getElem? (i := 1043) (by decide +kernel)))⟩
theorem clL_89 : CLV RL 89 M_X8_type 1 := ⟨⟨Or.inl (mem_tb (List.mem_of_getElem? (i := 676) (by decide +kernel))), (mem_tb (List.mem_of_getElem? (i := 679) (by decide +kernel))), (mem_tb (List.mem_of_getElem? (i := 1) (by decide +kernel))), by decide +kernel, by decide +kernel⟩, (mem_tb (List.mem_of_getElem? (i := 677) (by decide +kernel))), (mem_tb (List.mem_of_getElem? (i := 678) (by decide +kernel)))⟩
theorem clL_92 : CLV RL 92 M_X9_type 1 := ⟨⟨Or.inl (mem_tb (List.mem_of_getElem? (i := 1045) (by decide +kernel))), (mem_tb (List.mem_of_getElem? (i := 1048) (by decide +kernel))), (mem_tb (List.mem_of_getElem? (i := 12) (by decide +kernel))), by decide +kernel, by decide +kernel⟩, (mem_tb (List.mem_of_getElem? (i := 1046) (by decide +kernel))), (mem_tb (List.mem_of_getElem? (i := 1047) (by decide +kernel)))⟩
theorem clL_93 : CLV RL 93 M_X8_clearText 0 := ⟨⟨Or.inl (mem_tb (List.mem_of_getElem? (i := 686) (by decide +kernel))), (mem_tb (List.mem_of_getElem? (i := 689) (by decide +kernel))), (mem_tb (List.mem_of_getElem? (i := 1) (by decide +kernel))), by decide +kernel, by decide +kernel⟩, (mem_tb (List.mem_of_getElem? (i := 687) (by decide +kernel))), (mem_tb (List.mem_of_getElem? (i := 688) (by decide +kernel)))⟩
theorem clL_96 : CLV RL 96 M_X9_clearText 0 := ⟨⟨Or.inl (mem_tb (List.mem_of_getElem? (i := 1049) (by decide +kernel))), (mem_tb (List.mem_of_getElem? (i := 1052) (by decide +kernel))), (mem_tb (List.mem_of_getElem? (i := 12) (by decide +kernel))), by decide +kernel, by decide +kernel⟩, (mem_tb (List.mem_of_getElem? (i := 1050) (by decide +kernel))), (mem_tb (List.mem_of_getElem? (i := 1051) (by decide +kernel)))⟩
theorem clL_97 : CLV RL 97 M_X8_fault 1 := ⟨⟨Or.inl (mem_tb (List.mem_of_getElem? (i := 694) (by decide +kernel))), (mem_tb (List.mem_of_getElem? (i := 697) (by decide +kernel))), (mem_tb (List.mem_of_getElem? (i := 1) (by decide +kernel))), by decide +kernel, by decide +kernel⟩, (mem_tb (List.mem_of_getElem? (i := 695) (by decide +kernel))), (mem_tb (List.mem_of_getElem? (i := 696) (by decide +kernel)))⟩
theorem clL_100 : CLV RL 100 M_X9_fault 1 := ⟨⟨Or.inl (mem_tb (List.mem_of_getElem? (i := 1053) (by decide +kernel))), (mem_tb (List.mem_of_getElem? (i := 1056) (by decide +kernel))), (mem_tb (List.mem_of_getElem? (i := 12) (by decide +kernel))), by decide +kernel, by decide +kernel⟩, (mem_tb (List.mem_of_getElem? (i := 1054) (by decide +kernel))), (mem_tb (List.mem_of_getElem? (i := 1055) (by decide +kernel)))⟩
theorem clL_101 : CLV RL 101 M_X8_play 0 := ⟨⟨Or.inl (mem_tb (List.mem_of_getElem? (i := 748) (by decide +kernel))), (mem_tb (List.mem_of_getElem? (i := 751) (by decide +kernel))), (mem_tb (List.mem_of_getElem? (i := 1) (by decide +kernel))), by decide +kernel, by decide +kernel⟩, (mem_tb (List.mem_of_getElem? (i := 749) (by decide +kernel))), (mem_tb (List.mem_of_getElem? (i := 750) (by decide +kernel)))⟩
theorem clL_104 : CLV RL 104 M_X9_play 0 := ⟨⟨Or.inl (mem_tb (List.mem_of_getElem? (i := 1087) (by decide +kernel))), (mem_tb (List.mem_of_getElem? (i := 1090) (by decide +kernel))), (mem_tb (List.mem_of_getElem? (i := 12) (by decide +kernel))), by decide +kernel, by decide +kernel⟩, (mem_tb (List.mem_of_getElem? (i := 1088) (by decide +kernel))), (mem_tb (List.mem_of_getElem? (i := 1089) (by decide +kernel)))⟩
theorem kL_7 : Cond.classLink RL 7 RX8 ∈ lw_tbl := (mem_tb (List.mem_of_getElem? (i := 14) (by decide +kernel)))
theorem kX8_9 : Cond.classLink RX8 9 RX4 ∈ lw_tbl := (mem_tb (List.mem_of_getElem? (i := 22) (by decide +kernel)))
theorem kX4_9 : Cond.classLink RX4 9 RX0 ∈ lw_tbl := (mem_tb (List.mem_of_getElem? (i := 28) (by decide +kernel)))
theorem kX4_18 : Cond.classLink RX4 18 RX2 ∈ lw_tbl := (mem_tb (List.mem_of_getElem? (i := 48) (by decide +kernel)))
theorem kX4_25 : Cond.classLink RX4 25 RX7 ∈ lw_tbl := (mem_tb (List.mem_of_getElem? (i := 70) (by decide +kernel)))
theorem kX4_32 : Cond.classLink RX4 32 RX5 ∈ lw_tbl := (mem_tb (List.mem_of_getElem? (i := 109) (by decide +kernel)))
theorem kX8_19 : Cond.classLink RX8 19 RX1 ∈ lw_tbl := (mem_tb (List.mem_of_getElem? (i := 189) (by decide +kernel)))
theorem kX1_9 : Cond.classLink RX1 9 RX4 ∈ lw_tbl := (mem_tb (List.mem_of_getElem? (i := 195) (by decide +kernel)))
theorem kX8_26 : Cond.classLink RX8 26 RX6 ∈ lw_tbl := (mem_tb (List.mem_of_getElem? (i := 205) (by decide +kernel)))
theorem kX8_33 : Cond.classLink RX8 33 RX3 ∈ lw_tbl := (mem_tb (List.mem_of_getElem? (i := 234) (by decide +kernel)))
theorem kL_10 : Cond.classLink RL 10 RX9 ∈ lw_tbl := (mem_tb (List.mem_of_getElem? (i := 760) (by decide +kernel)))
theorem nwX8 : Cond.instantiable RX8 5 ∈ lw_tbl := (mem_tb (List.mem_of_getElem? (i := 15) (by decide +kernel)))
theorem nwX4 : Cond.instantiable RX4 11 ∈ lw_tbl := (mem_tb (List.mem_of_getElem? (i := 23) (by decide +kernel)))
theorem nwX0 : Cond.instantiable RX0 4 ∈ lw_tbl := (mem_tb (List.mem_of_getElem? (i := 29) (by decide +kernel)))
theorem nwX2 : Cond.instantiable RX2 5 ∈ lw_tbl := (mem_tb (List.mem_of_getElem? (i := 49) (by decide +kernel)))
theorem nwX7 : Cond.instantiable RX7 8 ∈ lw_tbl := (mem_tb (List.mem_of_getElem? (i := 71) (by decide +kernel)))
theorem nwX5 : Cond.instantiable RX5 7 ∈ lw_tbl := (mem_tb (List.mem_of_getElem? (i := 110) (by decide +kernel)))
theorem nwX1 : Cond.instantiable RX1 2 ∈ lw_tbl := (mem_tb (List.mem_of_getElem? (i := 190) (by decide +kernel)))
theorem nwX6 : Cond.instantiable RX6 6 ∈ lw_tbl := (mem_tb (List.mem_of_getElem? (i := 206) (by decide +kernel)))
theorem nwX3 : Cond.instantiable RX3 5 ∈ lw_tbl := (mem_tb (List.mem_of_getElem? (i := 235) (by decide +kernel)))
theorem nwX9 : Cond.instantiable RX9 11 ∈ lw_tbl := (mem_tb (List.mem_of_getElem? (i := 761) (by decide +kernel)))
theorem itL : Cond.initialized RL ∈ lw_tbl := (mem_tb (List.mem_of_getElem? (i := 0) (by decide +kernel)))
theorem itX8 : Cond.initialized RX8 ∈ lw_tbl := (mem_tb (List.mem_of_getElem? (i := 1) (by decide +kernel)))
theorem itX4 : Cond.initialized RX4 ∈ lw_tbl := (mem_tb (List.mem_of_getElem? (i := 2) (by decide +kernel)))
theorem itX0 : Cond.initialized RX0 ∈ lw_tbl := (mem_tb (List.mem_of_getElem? (i := 3) (by decide +kernel)))
theorem itX2 : Cond.initialized RX2 ∈ lw_tbl := (mem_tb (List.mem_of_getElem? (i := 4) (by decide +kernel)))
theorem itX7 : Cond.initialized RX7 ∈ lw_tbl := (mem_tb (List.mem_of_getElem? (i := 5) (by decide +kernel)))
theorem itX5 : Cond.initialized RX5 ∈ lw_tbl := (mem_tb (List.mem_of_getElem? (i := 6) (by decide +kernel)))
theorem itJ9 : Cond.initialized RJ9 ∈ lw_tbl := (mem_tb (List.mem_of_getElem? (i := 7) (by decide +kernel)))
theorem itJ10 : Cond.initialized RJ10 ∈ lw_tbl := (mem_tb (List.mem_of_getElem? (i := 8) (by decide +kernel)))
theorem itX1 : Cond.initialized RX1 ∈ lw_tbl := (mem_tb (List.mem_of_getElem? (i := 9) (by decide +kernel)))
theorem itX6 : Cond.initialized RX6 ∈ lw_tbl := (mem_tb (List.mem_of_getElem? (i := 10) (by decide +kernel)))
theorem itX3 : Cond.initialized RX3 ∈ lw_tbl := (mem_tb (List.mem_of_getElem? (i := 11) (by decide +kernel)))
theorem itX9 : Cond.initialized RX9 ∈ lw_tbl := (mem_tb (List.mem_of_getElem? (i := 12) (by decide +kernel)))
theorem itJ6 : Cond.initialized RJ6 ∈ lw_tbl := (mem_tb (List.mem_of_getElem? (i := 13) (by decide +kernel)))
theorem w_oi2 : Cond.instanceMethod Lib.objectInit ∈ lw_tbl := (mem_tb (List.mem_of_getElem? (i := 20) (by decide +kernel)))
theorem w_oi3 : Cond.code Lib.objectInit ⟨#[0xb1]⟩ 1 none ∈ lw_tbl := (mem_tb (List.mem_of_getElem? (i := 21) (by decide +kernel)))
theorem w_ac2 : Cond.native arraycopyName ∈ lw_tbl := (mem_tb (List.mem_of_getElem? (i := 154) (by decide +kernel)))
theorem w_ac3 : Cond.static arraycopyName ∈ lw_tbl := (mem_tb (List.mem_of_getElem? (i := 153) (by decide +kernel)))
theorem w_ac4 : Cond.initialized "java/lang/System" ∈ lw_tbl := (mem_tb (List.mem_of_getElem? (i := 8) (by decide +kernel)))
theorem w_arr : Cond.arrayClass .int ∈ lw_tbl := (mem_tb (List.mem_of_getElem? (i := 47) (by decide +kernel)))
theorem w_stc : Cond.arrayOver (.object "PagePairs$State") ∈ lw_tbl := (mem_tb (List.mem_of_getElem? (i := 196) (by decide +kernel)))
theorem w_k265 : Cond.constant RJ6 265 1431655765 ∈ lw_tbl := (mem_tb (List.mem_of_getElem? (i := 485) (by decide +kernel)))
theorem w_k266 : Cond.constant RJ6 266 858993459 ∈ lw_tbl := (mem_tb (List.mem_of_getElem? (i := 486) (by decide +kernel)))
theorem w_k267 : Cond.constant RJ6 267 252645135 ∈ lw_tbl := (mem_tb (List.mem_of_getElem? (i := 487) (by decide +kernel)))
theorem w_ls0 : Cond.laysStatic "PagePairs" (stn 0) "[I" ∈ lw_tbl := (mem_tb (List.mem_of_getElem? (i := 145) (by decide +kernel)))
theorem w_ls1 : Cond.laysStatic "PagePairs" (stn 1) "[I" ∈ lw_tbl := (mem_tb (List.mem_of_getElem? (i := 392) (by decide +kernel)))
theorem w_ls2 : Cond.laysStatic "PagePairs" (stn 2) "[I" ∈ lw_tbl := (mem_tb (List.mem_of_getElem? (i := 397) (by decide +kernel)))
theorem w_ls3 : Cond.laysStatic "PagePairs" (stn 3) "[I" ∈ lw_tbl := (mem_tb (List.mem_of_getElem? (i := 573) (by decide +kernel)))
theorem w_ls4 : Cond.laysStatic "PagePairs" (stn 4) "[I" ∈ lw_tbl := (mem_tb (List.mem_of_getElem? (i := 575) (by decide +kernel)))
end
section
/-! the made heap, pictures of its parts, short rows -/
/-- what the reference fields hold when all is made; the rows of States apart -/
def offS : List Nat := [1, 6, 11, 12, 13, 14, 15, 16]
def offP : List Nat := [1, 18, 35, 122, 124]
def offM : List Nat := [126, 127, 128, 0, 129, 0, 130]
def HR0 : HR := fun a k => match (sh a).1 with
  | 0 => some (a + 1 + k)
  | 2 => some (a + 1 + k)
  | 4 => some (a + offS.getD k 0)
  | 1 => some 36
  | 6 => some 123
  | 8 => some (offP.getD k 0)
  | 9 => some (offM.getD k 0)
  | _ => none
/-- the references are as they were made, but the row of the history's States -/
def HRk (hr : HR) : Prop := ∀ a k : Nat, a ≠ 36 → frf (sh a).1 k = true → hr a k = HR0 a k
def stIds : List Nat := [1, 18, 37, 54, 71, 88, 105]
def St (o : Nat) : Prop := o ∈ stIds
theorem st_lt {o : Nat} (h : St o) : 0 < o ∧ o + 17 ≤ 122 := (show ∀ o, o ∈ stIds → 0 < o ∧ o + 17 ≤ 122 by decide) o h
theorem st_sh {o : Nat} (h : St o) (j : Nat) (hj : j < 17 := by decide) : sh (o + j) = shSt.getD j (12, 0) := (show ∀ o, o ∈ stIds → ∀ j, j < 17 → sh (o + j) = shSt.getD j (12, 0) by decide +kernel) o h j hj
theorem st_sh0 {o : Nat} (h : St o) : sh o = (4, 11) := st_sh h 0
theorem st_r0 {o : Nat} {hr : HR} (h : St o) (hR : HRk hr) (k : Nat) (hk : k < 8 := by decide) : hr o k = some (o + offS.getD k 0) := by
  have h0 := st_lt h
  rw [hR o k (fun e => by subst e; revert h; unfold St; decide) (by rw [st_sh0 h]; revert k; decide)]
  unfold HR0
  rw [st_sh0 h]
  rfl
theorem st_r1 {o : Nat} {hr : HR} (h : St o) (hR : HRk hr) (k : Nat) (hk : k < 4 := by decide) : hr (o + 1) k = some (o + 2 + k) := by
  have e : sh (o + 1) = (0, 4) := st_sh h 1
  have h36 : o + 1 ≠ 36 := (show ∀ o, o ∈ stIds → o + 1 ≠ 36 by decide) o h
  rw [hR (o + 1) k h36 (by rw [e]; revert k; decide)]
  unfold HR0
  rw [e]
  rfl
theorem st_r6 {o : Nat} {hr : HR} (h : St o) (hR : HRk hr) (k : Nat) (hk : k < 4 := by decide) : hr (o + 6) k = some (o + 7 + k) := by
  have e : sh (o + 6) = (2, 5) := st_sh h 6
  have h36 : o + 6 ≠ 36 := (show ∀ o, o ∈ stIds → o + 6 ≠ 36 by decide) o h
  rw [hR (o + 6) k h36 (by rw [e]; revert k; decide)]
  unfold HR0
  rw [e]
  rfl
/-- one object or array of the heap, by a function -/
def pa (a : Nat) (hi : HI) (f : Int → Int) : HI := fun x k => if x = a then f (k : Int) else hi x k
def up1 (f : Int → Int) (k v : Int) : Int → Int := fun x => if x = k then v else f x
theorem up1_s (f : Int → Int) (k v : Int) : up1 f k v k = v := by simp [up1]
theorem up1_n (f : Int → Int) {k x : Int} (v : Int) (h : x ≠ k) : up1 f k v x = f x := by simp [up1, h]
theorem pa_g (a : Nat) (hi : HI) (f : Int → Int) (k : Nat) : pa a hi f a k = f (k : Int) := by simp [pa]
theorem pa_gn {a x : Nat} (hi : HI) (f : Int → Int) (k : Nat) (h : x ≠ a) : pa a hi f x k = hi x k := by simp [pa, h]
theorem pa_gi (a : Nat) (hi : HI) (f : Int → Int) {j : Int} (h : 0 ≤ j) : pa a hi f a j.toNat = f j := by
  rw [pa_g, Int.toNat_of_nonneg h]
theorem pa_u (a : Nat) (hi : HI) (f : Int → Int) (k : Nat) (v : Int) : up2 (pa a hi f) a k v = pa a hi (up1 f (k : Int) v) := by
  funext x y
  unfold up2 pa up1
  by_cases h : x = a
  · by_cases h2 : y = k
    · simp [h, h2]
    · simp only [h, h2, and_false, if_false, if_true]
      rw [if_neg (by omega)]
  · simp [h]
theorem pa_ui (a : Nat) (hi : HI) (f : Int → Int) {j : Int} (v : Int) (h : 0 ≤ j) : up2 (pa a hi f) a j.toNat v = pa a hi (up1 f j v) := by
  rw [pa_u, Int.toNat_of_nonneg h]
theorem pa_un {a x : Nat} (hi : HI) (f : Int → Int) (k : Nat) (v : Int) (h : x ≠ a) : up2 (pa a hi f) x k v = pa a (up2 hi x k v) f := by
  funext y z
  unfold up2 pa
  by_cases h1 : y = a
  · subst h1; simp [Ne.symm h]
  · simp [h1]
theorem pa_self (a : Nat) (hi : HI) : pa a hi (fun k => hi a k.toNat) = hi := by
  funext x y
  unfold pa
  by_cases h : x = a
  · subst h; simp
  · simp [h]
theorem pa_pa (a : Nat) (hi : HI) (f g : Int → Int) : pa a (pa a hi f) g = pa a hi g := by
  funext x y
  unfold pa
  by_cases h : x = a <;> simp [h]
theorem pa_comm {a b : Nat} (hi : HI) (f g : Int → Int) (h : a ≠ b) : pa a (pa b hi f) g = pa b (pa a hi g) f := by
  funext x y
  unfold pa
  by_cases h1 : x = a
  · subst h1; simp [h]
  · simp [h1]
/-- a State's cells by a function of their places -/
abbrev TS : Type := Nat → Int → Int
def putS (o : Nat) (hi : HI) (t : TS) : HI := fun x k => if o ≤ x ∧ x < o + 17 then t (x - o) (k : Int) else hi x k
def getS (o : Nat) (hi : HI) : TS := fun j k => hi (o + j) k.toNat
def ut (t : TS) (j : Nat) (k v : Int) : TS := fun x y => if x = j ∧ y = k then v else t x y
theorem ut_s (t : TS) (j : Nat) (k v : Int) : ut t j k v j k = v := by simp [ut]
theorem ut_n (t : TS) {j x : Nat} {k y : Int} (v : Int) (h : ¬ (x = j ∧ y = k)) : ut t j k v x y = t x y := by simp only [ut, if_neg h]
theorem putS_g (o : Nat) (hi : HI) (t : TS) (j : Nat) (k : Nat) (hj : j < 17 := by decide) : putS o hi t (o + j) k = t j (k : Int) := by
  unfold putS
  rw [if_pos (by omega), Nat.add_sub_cancel_left]
theorem putS_g0 (o : Nat) (hi : HI) (t : TS) (k : Nat) : putS o hi t o k = t 0 (k : Int) := putS_g o hi t 0 k
theorem putS_gi (o : Nat) (hi : HI) (t : TS) (j : Nat) {k : Int} (hk : 0 ≤ k) (hj : j < 17 := by decide) : putS o hi t (o + j) k.toNat = t j k := by
  rw [putS_g o hi t j _ hj, Int.toNat_of_nonneg hk]
theorem putS_u (o : Nat) (hi : HI) (t : TS) (j : Nat) (k : Nat) (v : Int) (hj : j < 17 := by decide) : up2 (putS o hi t) (o + j) k v = putS o hi (ut t j (k : Int) v) := by
  funext x y
  unfold up2 putS ut
  by_cases h : x = o + j ∧ y = k
  · obtain ⟨rfl, rfl⟩ := h
    rw [if_pos ⟨rfl, rfl⟩, if_pos (by omega), if_pos ⟨by omega, rfl⟩]
  · rw [if_neg h]
    by_cases h2 : o ≤ x ∧ x < o + 17
    · rw [if_pos h2, if_pos h2, if_neg]
      rintro ⟨e1, e2⟩
      exact h ⟨by omega, by omega⟩
    · rw [if_neg h2, if_neg h2]
theorem putS_u0 (o : Nat) (hi : HI) (t : TS) (k : Nat) (v : Int) : up2 (putS o hi t) o k v = putS o hi (ut t 0 (k : Int) v) := putS_u o hi t 0 k v
theorem putS_ui (o : Nat) (hi : HI) (t : TS) (j : Nat) {k : Int} (v : Int) (hk : 0 ≤ k) (hj : j < 17 := by decide) : up2 (putS o hi t) (o + j) k.toNat v = putS o hi (ut t j k v) := by
  rw [putS_u o hi t j _ v hj, Int.toNat_of_nonneg hk]
theorem putS_self (o : Nat) (hi : HI) : putS o hi (getS o hi) = hi := by
  funext x y
  unfold putS getS
  by_cases h : o ≤ x ∧ x < o + 17
  · rw [if_pos h, show o + (x - o) = x by omega, Int.toNat_natCast]
  · rw [if_neg h]
theorem putS_out {o x : Nat} (hi : HI) (t : TS) (k : Nat) (h : x < o ∨ o + 17 ≤ x) : putS o hi t x k = hi x k := by
  unfold putS
  rw [if_neg (by omega)]
theorem putS_putS (o : Nat) (hi : HI) (t u : TS) : putS o (putS o hi t) u = putS o hi u := by
  funext x y
  unfold putS
  by_cases h : o ≤ x ∧ x < o + 17 <;> simp [h]
section SHORT
variable {E : ET} {M M2 : MT} {cu su pc : Nat} {ls : List (Option AV)} {st : List AV} {hi h1 : HI} {hr : HR} {n : Nat} {Q : QT} {idx a N : Nat} {r1 : AV} {C : String} {T : u_T} {ty : Nat → FieldType} {c k : Nat}
/-- loads and stores that name what comes -/
theorem aw_getv {v : Int} (hd : decode (mC M) pc = .ok (.getfield idx, 3)) (hc : CI c C T N ty) (hk : k < N) (hl : FL (mY M).cls idx C T k) (ha : a < n) (hs : sh a = (c, N)) (hf : frf c k = false) (hv : hi a k = v)
    (kk : AW E M cu su (pc + 3) ls (aI v :: st) hi hr n Q) : AW E M cu su pc ls (aR a :: st) hi hr n Q := aw_geti hd hc hk hl ha hs hf (by rw [hv]; exact kk)
theorem aw_putv {v : Int} (hd : decode (mC M) pc = .ok (.putfield idx, 3)) (hc : CI c C T N ty) (hk : k < N) (hl : FL (mY M).cls idx C T k) (ha : a < n) (hs : sh a = (c, N)) (hf : frf c k = false) (hfin : (T k).2.2.2 = false) (hty : ty k = .int ∨ (ty k = .boolean ∧ (v = 0 ∨ v = 1))) (hh : up2 hi a k v = h1)
    (kk : AW E M cu su (pc + 3) ls st h1 hr n Q) : AW E M cu su pc ls (aI v :: aR a :: st) hi hr n Q := aw_puti hd hc hk hl ha hs hf hfin hty (by rw [hh]; exact kk)
theorem aw_iald {v j : Int} (hd : decode (mC M) pc = .ok (.iaload, 1)) (hA : AOK E n a N) (h0 : 0 ≤ j) (h1 : j < N) (hN : N ≤ 100000) (hv : hi a j.toNat = v) (kk : AW E M cu su (pc + 1) ls (aI v :: st) hi hr n Q) : AW E M cu su pc ls (aI j :: aR a :: st) hi hr n Q :=
  aw_iaload hd hA h0 h1 ⟨by omega, by omega⟩ (by rw [hv]; exact kk)
theorem aw_iast {j v : Int} {h2 : HI} (hd : decode (mC M) pc = .ok (.iastore, 1)) (ha : a < n) (hs : sh a = (10, N)) (h0 : 0 ≤ j) (h1 : j < N) (hN : N ≤ 100000) (hh : up2 hi a j.toNat v = h2) (kk : AW E M cu su (pc + 1) ls st h2 hr n Q) : AW E M cu su pc ls (aI v :: aI j :: aR a :: st) hi hr n Q :=
  aw_iastore hd ha hs h0 h1 ⟨by omega, by omega⟩ (by rw [hh]; exact kk)
end SHORT
end
section
/-! calls by their ends -/
theorem putS_gk (o : Nat) (hi : HI) (t : TS) (j k : Nat) (kk : Int) (h : ((k : Nat) : Int) = kk) (hj : j < 17 := by decide) : putS o hi t (o + j) k = t j kk := by rw [putS_g o hi t j k hj, h]
theorem putS_gk0 (o : Nat) (hi : HI) (t : TS) (k : Nat) (kk : Int) (h : ((k : Nat) : Int) = kk) : putS o hi t o k = t 0 kk := by rw [putS_g0, h]
theorem putS_uk (o : Nat) (hi : HI) (t : TS) (j k : Nat) (kk v : Int) (h : ((k : Nat) : Int) = kk) (hj : j < 17 := by decide) : up2 (putS o hi t) (o + j) k v = putS o hi (ut t j kk v) := by rw [putS_u o hi t j k v hj, h]
theorem putS_uk0 (o : Nat) (hi : HI) (t : TS) (k : Nat) (kk v : Int) (h : ((k : Nat) : Int) = kk) : up2 (putS o hi t) o k v = putS o hi (ut t 0 kk v) := by rw [putS_u0, h]
theorem pa_gk (a : Nat) (hi : HI) (f : Int → Int) (k : Nat) (kk : Int) (h : ((k : Nat) : Int) = kk) : pa a hi f a k = f kk := by rw [pa_g, h]
theorem pa_uk (a : Nat) (hi : HI) (f : Int → Int) (k : Nat) (kk v : Int) (h : ((k : Nat) : Int) = kk) : up2 (pa a hi f) a k v = pa a hi (up1 f kk v) := by rw [pa_u, h]
section CALLS2
variable {E : ET} {M M2 : MT} {cu su pc : Nat} {ls : List (Option AV)} {st : List AV} {hi h1 : HI} {hr hr1 : HR} {n n1 : Nat} {Q : QT} {idx b c N : Nat} {T : u_T} {v : AV} {P : Int → HI → HR → Nat → Prop} {PW : HI → HR → Nat → Prop}
theorem aw_S1x {v1 : AV} (hd : decode (mC M) pc = .ok (.invokestatic idx, 3)) (hc : CLS (mY M).cls idx M2 1) (hf : fitsIn M M2) (hM : AMet E M2 [v1] hi hr n (EX (some v) h1 hr1 n1)) (hw1 : cu ≤ mMc M) (hw2 : su ≤ mMs M) (z1 : mMc M2 = 0) (z2 : mMs M2 = 0) (hst : st.length ≤ 8) (kk : AW E M cu su (pc + 3) ls (v :: st) h1 hr1 n1 Q) : AW E M cu su pc ls (v1 :: st) hi hr n Q := by
  refine aw_S1 hd hc hf hM (by rw [z1]; exact hw1) (by rw [z2]; exact hw2) hst fun r h2 r2 n2 hq => ?_
  rw [z1, z2, Nat.add_zero, Nat.add_zero]
  obtain ⟨rfl, rfl, rfl, rfl⟩ := hq
  exact kk
theorem aw_S1v {v1 : AV} (hd : decode (mC M) pc = .ok (.invokestatic idx, 3)) (hc : CLS (mY M).cls idx M2 1) (hf : fitsIn M M2) (hM : AMet E M2 [v1] hi hr n (EX none h1 hr1 n1)) (hw1 : cu ≤ mMc M) (hw2 : su ≤ mMs M) (z1 : mMc M2 = 0) (z2 : mMs M2 = 0) (hst : st.length ≤ 8) (kk : AW E M cu su (pc + 3) ls st h1 hr1 n1 Q) : AW E M cu su pc ls (v1 :: st) hi hr n Q := by
  refine aw_S1 hd hc hf hM (by rw [z1]; exact hw1) (by rw [z2]; exact hw2) hst fun r h2 r2 n2 hq => ?_
  rw [z1, z2, Nat.add_zero, Nat.add_zero]
  obtain ⟨rfl, rfl, rfl, rfl⟩ := hq
  exact kk
theorem aw_S1i {v1 : AV} (hd : decode (mC M) pc = .ok (.invokestatic idx, 3)) (hc : CLS (mY M).cls idx M2 1) (hf : fitsIn M M2) (hM : AMet E M2 [v1] hi hr n (PI P)) (hw1 : cu ≤ mMc M) (hw2 : su ≤ mMs M) (z1 : mMc M2 = 0) (z2 : mMs M2 = 0) (hst : st.length ≤ 8) (kk : ∀ (v : Int) (h1 : HI) (hr1 : HR) (n1 : Nat), P v h1 hr1 n1 → AW E M cu su (pc + 3) ls (aI v :: st) h1 hr1 n1 Q) : AW E M cu su pc ls (v1 :: st) hi hr n Q := by
  refine aw_S1 hd hc hf hM (by rw [z1]; exact hw1) (by rw [z2]; exact hw2) hst fun r h2 r2 n2 hq => ?_
  rw [z1, z2, Nat.add_zero, Nat.add_zero]
  obtain ⟨v, rfl, hq⟩ := hq
  exact kk v h2 r2 n2 hq
theorem aw_S1w {v1 : AV} (hd : decode (mC M) pc = .ok (.invokestatic idx, 3)) (hc : CLS (mY M).cls idx M2 1) (hf : fitsIn M M2) (hM : AMet E M2 [v1] hi hr n (PV PW)) (hw1 : cu ≤ mMc M) (hw2 : su ≤ mMs M) (z1 : mMc M2 = 0) (z2 : mMs M2 = 0) (hst : st.length ≤ 8) (kk : ∀ (h1 : HI) (hr1 : HR) (n1 : Nat), PW h1 hr1 n1 → AW E M cu su (pc + 3) ls st h1 hr1 n1 Q) : AW E M cu su pc ls (v1 :: st) hi hr n Q := by
  refine aw_S1 hd hc hf hM (by rw [z1]; exact hw1) (by rw [z2]; exact hw2) hst fun r h2 r2 n2 hq => ?_
  rw [z1, z2, Nat.add_zero, Nat.add_zero]
  obtain ⟨rfl, hq⟩ := hq
  exact kk h2 r2 n2 hq
theorem aw_S2x {v1 v2 : AV} (hd : decode (mC M) pc = .ok (.invokestatic idx, 3)) (hc : CLS (mY M).cls idx M2 2) (hf : fitsIn M M2) (hM : AMet E M2 [v1, v2] hi hr n (EX (some v) h1 hr1 n1)) (hw1 : cu ≤ mMc M) (hw2 : su ≤ mMs M) (z1 : mMc M2 = 0) (z2 : mMs M2 = 0) (hst : st.length ≤ 8) (kk : AW E M cu su (pc + 3) ls (v :: st) h1 hr1 n1 Q) : AW E M cu su pc ls (v2 :: v1 :: st) hi hr n Q := by
  refine aw_S2 hd hc hf hM (by rw [z1]; exact hw1) (by rw [z2]; exact hw2) hst fun r h2 r2 n2 hq => ?_
  rw [z1, z2, Nat.add_zero, Nat.add_zero]
  obtain ⟨rfl, rfl, rfl, rfl⟩ := hq
  exact kk
theorem aw_S2v {v1 v2 : AV} (hd : decode (mC M) pc = .ok (.invokestatic idx, 3)) (hc : CLS (mY M).cls idx M2 2) (hf : fitsIn M M2) (hM : AMet E M2 [v1, v2] hi hr n (EX none h1 hr1 n1)) (hw1 : cu ≤ mMc M) (hw2 : su ≤ mMs M) (z1 : mMc M2 = 0) (z2 : mMs M2 = 0) (hst : st.length ≤ 8) (kk : AW E M cu su (pc + 3) ls st h1 hr1 n1 Q) : AW E M cu su pc ls (v2 :: v1 :: st) hi hr n Q := by
  refine aw_S2 hd hc hf hM (by rw [z1]; exact hw1) (by rw [z2]; exact hw2) hst fun r h2 r2 n2 hq => ?_
  rw [z1, z2, Nat.add_zero, Nat.add_zero]
  obtain ⟨rfl, rfl, rfl, rfl⟩ := hq
  exact kk
theorem aw_S2i {v1 v2 : AV} (hd : decode (mC M) pc = .ok (.invokestatic idx, 3)) (hc : CLS (mY M).cls idx M2 2) (hf : fitsIn M M2) (hM : AMet E M2 [v1, v2] hi hr n (PI P)) (hw1 : cu ≤ mMc M) (hw2 : su ≤ mMs M) (z1 : mMc M2 = 0) (z2 : mMs M2 = 0) (hst : st.length ≤ 8) (kk : ∀ (v : Int) (h1 : HI) (hr1 : HR) (n1 : Nat), P v h1 hr1 n1 → AW E M cu su (pc + 3) ls (aI v :: st) h1 hr1 n1 Q) : AW E M cu su pc ls (v2 :: v1 :: st) hi hr n Q := by
  refine aw_S2 hd hc hf hM (by rw [z1]; exact hw1) (by rw [z2]; exact hw2) hst fun r h2 r2 n2 hq => ?_
  rw [z1, z2, Nat.add_zero, Nat.add_zero]
  obtain ⟨v, rfl, hq⟩ := hq
  exact kk v h2 r2 n2 hq
theorem aw_S2w {v1 v2 : AV} (hd : decode (mC M) pc = .ok (.invokestatic idx, 3)) (hc : CLS (mY M).cls idx M2 2) (hf : fitsIn M M2) (hM : AMet E M2 [v1, v2] hi hr n (PV PW)) (hw1 : cu ≤ mMc M) (hw2 : su ≤ mMs M) (z1 : mMc M2 = 0) (z2 : mMs M2 = 0) (hst : st.length ≤ 8) (kk : ∀ (h1 : HI) (hr1 : HR) (n1 : Nat), PW h1 hr1 n1 → AW E M cu su (pc + 3) ls st h1 hr1 n1 Q) : AW E M cu su pc ls (v2 :: v1 :: st) hi hr n Q := by
  refine aw_S2 hd hc hf hM (by rw [z1]; exact hw1) (by rw [z2]; exact hw2) hst fun r h2 r2 n2 hq => ?_
  rw [z1, z2, Nat.add_zero, Nat.add_zero]
  obtain ⟨rfl, hq⟩ := hq
  exact kk h2 r2 n2 hq
theorem aw_S3x {v1 v2 v3 : AV} (hd : decode (mC M) pc = .ok (.invokestatic idx, 3)) (hc : CLS (mY M).cls idx M2 3) (hf : fitsIn M M2) (hM : AMet E M2 [v1, v2, v3] hi hr n (EX (some v) h1 hr1 n1)) (hw1 : cu ≤ mMc M) (hw2 : su ≤ mMs M) (z1 : mMc M2 = 0) (z2 : mMs M2 = 0) (hst : st.length ≤ 8) (kk : AW E M cu su (pc + 3) ls (v :: st) h1 hr1 n1 Q) : AW E M cu su pc ls (v3 :: v2 :: v1 :: st) hi hr n Q := by
  refine aw_S3 hd hc hf hM (by rw [z1]; exact hw1) (by rw [z2]; exact hw2) hst fun r h2 r2 n2 hq => ?_
  rw [z1, z2, Nat.add_zero, Nat.add_zero]
  obtain ⟨rfl, rfl, rfl, rfl⟩ := hq
  exact kk
theorem aw_S3v {v1 v2 v3 : AV} (hd : decode (mC M) pc = .ok (.invokestatic idx, 3)) (hc : CLS (mY M).cls idx M2 3) (hf : fitsIn M M2) (hM : AMet E M2 [v1, v2, v3] hi hr n (EX none h1 hr1 n1)) (hw1 : cu ≤ mMc M) (hw2 : su ≤ mMs M) (z1 : mMc M2 = 0) (z2 : mMs M2 = 0) (hst : st.length ≤ 8) (kk : AW E M cu su (pc + 3) ls st h1 hr1 n1 Q) : AW E M cu su pc ls (v3 :: v2 :: v1 :: st) hi hr n Q := by
  refine aw_S3 hd hc hf hM (by rw [z1]; exact hw1) (by rw [z2]; exact hw2) hst fun r h2 r2 n2 hq => ?_
  rw [z1, z2, Nat.add_zero, Nat.add_zero]
  obtain ⟨rfl, rfl, rfl, rfl⟩ := hq
  exact kk
theorem aw_S3i {v1 v2 v3 : AV} (hd : decode (mC M) pc = .ok (.invokestatic idx, 3)) (hc : CLS (mY M).cls idx M2 3) (hf : fitsIn M M2) (hM : AMet E M2 [v1, v2, v3] hi hr n (PI P)) (hw1 : cu ≤ mMc M) (hw2 : su ≤ mMs M) (z1 : mMc M2 = 0) (z2 : mMs M2 = 0) (hst : st.length ≤ 8) (kk : ∀ (v : Int) (h1 : HI) (hr1 : HR) (n1 : Nat), P v h1 hr1 n1 → AW E M cu su (pc + 3) ls (aI v :: st) h1 hr1 n1 Q) : AW E M cu su pc ls (v3 :: v2 :: v1 :: st) hi hr n Q := by
  refine aw_S3 hd hc hf hM (by rw [z1]; exact hw1) (by rw [z2]; exact hw2) hst fun r h2 r2 n2 hq => ?_
  rw [z1, z2, Nat.add_zero, Nat.add_zero]
  obtain ⟨v, rfl, hq⟩ := hq
  exact kk v h2 r2 n2 hq
theorem aw_S3w {v1 v2 v3 : AV} (hd : decode (mC M) pc = .ok (.invokestatic idx, 3)) (hc : CLS (mY M).cls idx M2 3) (hf : fitsIn M M2) (hM : AMet E M2 [v1, v2, v3] hi hr n (PV PW)) (hw1 : cu ≤ mMc M) (hw2 : su ≤ mMs M) (z1 : mMc M2 = 0) (z2 : mMs M2 = 0) (hst : st.length ≤ 8) (kk : ∀ (h1 : HI) (hr1 : HR) (n1 : Nat), PW h1 hr1 n1 → AW E M cu su (pc + 3) ls st h1 hr1 n1 Q) : AW E M cu su pc ls (v3 :: v2 :: v1 :: st) hi hr n Q := by
  refine aw_S3 hd hc hf hM (by rw [z1]; exact hw1) (by rw [z2]; exact hw2) hst fun r h2 r2 n2 hq => ?_
  rw [z1, z2, Nat.add_zero, Nat.add_zero]
  obtain ⟨rfl, hq⟩ := hq
  exact kk h2 r2 n2 hq
theorem aw_V0x (hd : decode (mC M) pc = .ok (.invokevirtual idx, 3)) (hc : CLV (mY M).cls idx M2 0) (hf : fitsIn M M2) (hb : b < n) (hs : sh b = (c, N)) (hcl : vwCl[c]? = some ((mY M2).cls, T, N)) (hM : AMet E M2 [aR b] hi hr n (EX (some v) h1 hr1 n1)) (hw1 : cu ≤ mMc M) (hw2 : su ≤ mMs M) (z1 : mMc M2 = 0) (z2 : mMs M2 = 0) (hst : st.length ≤ 8) (kk : AW E M cu su (pc + 3) ls (v :: st) h1 hr1 n1 Q) : AW E M cu su pc ls (aR b :: st) hi hr n Q := by
  refine aw_V0 hd hc hf hb hs hcl hM (by rw [z1]; exact hw1) (by rw [z2]; exact hw2) hst fun r h2 r2 n2 hq => ?_
  rw [z1, z2, Nat.add_zero, Nat.add_zero]
  obtain ⟨rfl, rfl, rfl, rfl⟩ := hq
  exact kk
theorem aw_V0v (hd : decode (mC M) pc = .ok (.invokevirtual idx, 3)) (hc : CLV (mY M).cls idx M2 0) (hf : fitsIn M M2) (hb : b < n) (hs : sh b = (c, N)) (hcl : vwCl[c]? = some ((mY M2).cls, T, N)) (hM : AMet E M2 [aR b] hi hr n (EX none h1 hr1 n1)) (hw1 : cu ≤ mMc M) (hw2 : su ≤ mMs M) (z1 : mMc M2 = 0) (z2 : mMs M2 = 0) (hst : st.length ≤ 8) (kk : AW E M cu su (pc + 3) ls st h1 hr1 n1 Q) : AW E M cu su pc ls (aR b :: st) hi hr n Q := by
  refine aw_V0 hd hc hf hb hs hcl hM (by rw [z1]; exact hw1) (by rw [z2]; exact hw2) hst fun r h2 r2 n2 hq => ?_
  rw [z1, z2, Nat.add_zero, Nat.add_zero]
  obtain ⟨rfl, rfl, rfl, rfl⟩ := hq
  exact kk
theorem aw_V0i (hd : decode (mC M) pc = .ok (.invokevirtual idx, 3)) (hc : CLV (mY M).cls idx M2 0) (hf : fitsIn M M2) (hb : b < n) (hs : sh b = (c, N)) (hcl : vwCl[c]? = some ((mY M2).cls, T, N)) (hM : AMet E M2 [aR b] hi hr n (PI P)) (hw1 : cu ≤ mMc M) (hw2 : su ≤ mMs M) (z1 : mMc M2 = 0) (z2 : mMs M2 = 0) (hst : st.length ≤ 8) (kk : ∀ (v : Int) (h1 : HI) (hr1 : HR) (n1 : Nat), P v h1 hr1 n1 → AW E M cu su (pc + 3) ls (aI v :: st) h1 hr1 n1 Q) : AW E M cu su pc ls (aR b :: st) hi hr n Q := by
  refine aw_V0 hd hc hf hb hs hcl hM (by rw [z1]; exact hw1) (by rw [z2]; exact hw2) hst fun r h2 r2 n2 hq => ?_
  rw [z1, z2, Nat.add_zero, Nat.add_zero]
  obtain ⟨v, rfl, hq⟩ := hq
  exact kk v h2 r2 n2 hq
theorem aw_V0w (hd : decode (mC M) pc = .ok (.invokevirtual idx, 3)) (hc : CLV (mY M).cls idx M2 0) (hf : fitsIn M M2) (hb : b < n) (hs : sh b = (c, N)) (hcl : vwCl[c]? = some ((mY M2).cls, T, N)) (hM : AMet E M2 [aR b] hi hr n (PV PW)) (hw1 : cu ≤ mMc M) (hw2 : su ≤ mMs M) (z1 : mMc M2 = 0) (z2 : mMs M2 = 0) (hst : st.length ≤ 8) (kk : ∀ (h1 : HI) (hr1 : HR) (n1 : Nat), PW h1 hr1 n1 → AW E M cu su (pc + 3) ls st h1 hr1 n1 Q) : AW E M cu su pc ls (aR b :: st) hi hr n Q := by
  refine aw_V0 hd hc hf hb hs hcl hM (by rw [z1]; exact hw1) (by rw [z2]; exact hw2) hst fun r h2 r2 n2 hq => ?_
  rw [z1, z2, Nat.add_zero, Nat.add_zero]
  obtain ⟨rfl, hq⟩ := hq
  exact kk h2 r2 n2 hq
theorem aw_V1x {v1 : AV} (hd : decode (mC M) pc = .ok (.invokevirtual idx, 3)) (hc : CLV (mY M).cls idx M2 1) (hf : fitsIn M M2) (hb : b < n) (hs : sh b = (c, N)) (hcl : vwCl[c]? = some ((mY M2).cls, T, N)) (hM : AMet E M2 [aR b, v1] hi hr n (EX (some v) h1 hr1 n1)) (hw1 : cu ≤ mMc M) (hw2 : su ≤ mMs M) (z1 : mMc M2 = 0) (z2 : mMs M2 = 0) (hst : st.length ≤ 8) (kk : AW E M cu su (pc + 3) ls (v :: st) h1 hr1 n1 Q) : AW E M cu su pc ls (v1 :: aR b :: st) hi hr n Q := by
  refine aw_V1 hd hc hf hb hs hcl hM (by rw [z1]; exact hw1) (by rw [z2]; exact hw2) hst fun r h2 r2 n2 hq => ?_
  rw [z1, z2, Nat.add_zero, Nat.add_zero]
  obtain ⟨rfl, rfl, rfl, rfl⟩ := hq
  exact kk
theorem aw_V1v {v1 : AV} (hd : decode (mC M) pc = .ok (.invokevirtual idx, 3)) (hc : CLV (mY M).cls idx M2 1) (hf : fitsIn M M2) (hb : b < n) (hs : sh b = (c, N)) (hcl : vwCl[c]? = some ((mY M2).cls, T, N)) (hM : AMet E M2 [aR b, v1] hi hr n (EX none h1 hr1 n1)) (hw1 : cu ≤ mMc M) (hw2 : su ≤ mMs M) (z1 : mMc M2 = 0) (z2 : mMs M2 = 0) (hst : st.length ≤ 8) (kk : AW E M cu su (pc + 3) ls st h1 hr1 n1 Q) : AW E M cu su pc ls (v1 :: aR b :: st) hi hr n Q := by
  refine aw_V1 hd hc hf hb hs hcl hM (by rw [z1]; exact hw1) (by rw [z2]; exact hw2) hst fun r h2 r2 n2 hq => ?_
  rw [z1, z2, Nat.add_zero, Nat.add_zero]
  obtain ⟨rfl, rfl, rfl, rfl⟩ := hq
  exact kk
theorem aw_V1i {v1 : AV} (hd : decode (mC M) pc = .ok (.invokevirtual idx, 3)) (hc : CLV (mY M).cls idx M2 1) (hf : fitsIn M M2) (hb : b < n) (hs : sh b = (c, N)) (hcl : vwCl[c]? = some ((mY M2).cls, T, N)) (hM : AMet E M2 [aR b, v1] hi hr n (PI P)) (hw1 : cu ≤ mMc M) (hw2 : su ≤ mMs M) (z1 : mMc M2 = 0) (z2 : mMs M2 = 0) (hst : st.length ≤ 8) (kk : ∀ (v : Int) (h1 : HI) (hr1 : HR) (n1 : Nat), P v h1 hr1 n1 → AW E M cu su (pc + 3) ls (aI v :: st) h1 hr1 n1 Q) : AW E M cu su pc ls (v1 :: aR b :: st) hi hr n Q := by
  refine aw_V1 hd hc hf hb hs hcl hM (by rw [z1]; exact hw1) (by rw [z2]; exact hw2) hst fun r h2 r2 n2 hq => ?_
  rw [z1, z2, Nat.add_zero, Nat.add_zero]
  obtain ⟨v, rfl, hq⟩ := hq
  exact kk v h2 r2 n2 hq
theorem aw_V1w {v1 : AV} (hd : decode (mC M) pc = .ok (.invokevirtual idx, 3)) (hc : CLV (mY M).cls idx M2 1) (hf : fitsIn M M2) (hb : b < n) (hs : sh b = (c, N)) (hcl : vwCl[c]? = some ((mY M2).cls, T, N)) (hM : AMet E M2 [aR b, v1] hi hr n (PV PW)) (hw1 : cu ≤ mMc M) (hw2 : su ≤ mMs M) (z1 : mMc M2 = 0) (z2 : mMs M2 = 0) (hst : st.length ≤ 8) (kk : ∀ (h1 : HI) (hr1 : HR) (n1 : Nat), PW h1 hr1 n1 → AW E M cu su (pc + 3) ls st h1 hr1 n1 Q) : AW E M cu su pc ls (v1 :: aR b :: st) hi hr n Q := by
  refine aw_V1 hd hc hf hb hs hcl hM (by rw [z1]; exact hw1) (by rw [z2]; exact hw2) hst fun r h2 r2 n2 hq => ?_
  rw [z1, z2, Nat.add_zero, Nat.add_zero]
  obtain ⟨rfl, hq⟩ := hq
  exact kk h2 r2 n2 hq
theorem aw_V2x {v1 v2 : AV} (hd : decode (mC M) pc = .ok (.invokevirtual idx, 3)) (hc : CLV (mY M).cls idx M2 2) (hf : fitsIn M M2) (hb : b < n) (hs : sh b = (c, N)) (hcl : vwCl[c]? = some ((mY M2).cls, T, N)) (hM : AMet E M2 [aR b, v1, v2] hi hr n (EX (some v) h1 hr1 n1)) (hw1 : cu ≤ mMc M) (hw2 : su ≤ mMs M) (z1 : mMc M2 = 0) (z2 : mMs M2 = 0) (hst : st.length ≤ 8) (kk : AW E M cu su (pc + 3) ls (v :: st) h1 hr1 n1 Q) : AW E M cu su pc ls (v2 :: v1 :: aR b :: st) hi hr n Q := by
  refine aw_V2 hd hc hf hb hs hcl hM (by rw [z1]; exact hw1) (by rw [z2]; exact hw2) hst fun r h2 r2 n2 hq => ?_
  rw [z1, z2, Nat.add_zero, Nat.add_zero]
  obtain ⟨rfl, rfl, rfl, rfl⟩ := hq
  exact kk
theorem aw_V2v {v1 v2 : AV} (hd : decode (mC M) pc = .ok (.invokevirtual idx, 3)) (hc : CLV (mY M).cls idx M2 2) (hf : fitsIn M M2) (hb : b < n) (hs : sh b = (c, N)) (hcl : vwCl[c]? = some ((mY M2).cls, T, N)) (hM : AMet E M2 [aR b, v1, v2] hi hr n (EX none h1 hr1 n1)) (hw1 : cu ≤ mMc M) (hw2 : su ≤ mMs M) (z1 : mMc M2 = 0) (z2 : mMs M2 = 0) (hst : st.length ≤ 8) (kk : AW E M cu su (pc + 3) ls st h1 hr1 n1 Q) : AW E M cu su pc ls (v2 :: v1 :: aR b :: st) hi hr n Q := by
  refine aw_V2 hd hc hf hb hs hcl hM (by rw [z1]; exact hw1) (by rw [z2]; exact hw2) hst fun r h2 r2 n2 hq => ?_
  rw [z1, z2, Nat.add_zero, Nat.add_zero]
  obtain ⟨rfl, rfl, rfl, rfl⟩ := hq
  exact kk
theorem aw_V2i {v1 v2 : AV} (hd : decode (mC M) pc = .ok (.invokevirtual idx, 3)) (hc : CLV (mY M).cls idx M2 2) (hf : fitsIn M M2) (hb : b < n) (hs : sh b = (c, N)) (hcl : vwCl[c]? = some ((mY M2).cls, T, N)) (hM : AMet E M2 [aR b, v1, v2] hi hr n (PI P)) (hw1 : cu ≤ mMc M) (hw2 : su ≤ mMs M) (z1 : mMc M2 = 0) (z2 : mMs M2 = 0) (hst : st.length ≤ 8) (kk : ∀ (v : Int) (h1 : HI) (hr1 : HR) (n1 : Nat), P v h1 hr1 n1 → AW E M cu su (pc + 3) ls (aI v :: st) h1 hr1 n1 Q) : AW E M cu su pc ls (v2 :: v1 :: aR b :: st) hi hr n Q := by
  refine aw_V2 hd hc hf hb hs hcl hM (by rw [z1]; exact hw1) (by rw [z2]; exact hw2) hst fun r h2 r2 n2 hq => ?_
  rw [z1, z2, Nat.add_zero, Nat.add_zero]
  obtain ⟨v, rfl, hq⟩ := hq
  exact kk v h2 r2 n2 hq
theorem aw_V2w {v1 v2 : AV} (hd : decode (mC M) pc = .ok (.invokevirtual idx, 3)) (hc : CLV (mY M).cls idx M2 2) (hf : fitsIn M M2) (hb : b < n) (hs : sh b = (c, N)) (hcl : vwCl[c]? = some ((mY M2).cls, T, N)) (hM : AMet E M2 [aR b, v1, v2] hi hr n (PV PW)) (hw1 : cu ≤ mMc M) (hw2 : su ≤ mMs M) (z1 : mMc M2 = 0) (z2 : mMs M2 = 0) (hst : st.length ≤ 8) (kk : ∀ (h1 : HI) (hr1 : HR) (n1 : Nat), PW h1 hr1 n1 → AW E M cu su (pc + 3) ls st h1 hr1 n1 Q) : AW E M cu su pc ls (v2 :: v1 :: aR b :: st) hi hr n Q := by
  refine aw_V2 hd hc hf hb hs hcl hM (by rw [z1]; exact hw1) (by rw [z2]; exact hw2) hst fun r h2 r2 n2 hq => ?_
  rw [z1, z2, Nat.add_zero, Nat.add_zero]
  obtain ⟨rfl, hq⟩ := hq
  exact kk h2 r2 n2 hq
theorem aw_V3x {v1 v2 v3 : AV} (hd : decode (mC M) pc = .ok (.invokevirtual idx, 3)) (hc : CLV (mY M).cls idx M2 3) (hf : fitsIn M M2) (hb : b < n) (hs : sh b = (c, N)) (hcl : vwCl[c]? = some ((mY M2).cls, T, N)) (hM : AMet E M2 [aR b, v1, v2, v3] hi hr n (EX (some v) h1 hr1 n1)) (hw1 : cu ≤ mMc M) (hw2 : su ≤ mMs M) (z1 : mMc M2 = 0) (z2 : mMs M2 = 0) (hst : st.length ≤ 8) (kk : AW E M cu su (pc + 3) ls (v :: st) h1 hr1 n1 Q) : AW E M cu su pc ls (v3 :: v2 :: v1 :: aR b :: st) hi hr n Q := by
  refine aw_V3 hd hc hf hb hs hcl hM (by rw [z1]; exact hw1) (by rw [z2]; exact hw2) hst fun r h2 r2 n2 hq => ?_
  rw [z1, z2, Nat.add_zero, Nat.add_zero]
  obtain ⟨rfl, rfl, rfl, rfl⟩ := hq
  exact kk
theorem aw_V3v {v1 v2 v3 : AV} (hd : decode (mC M) pc = .ok (.invokevirtual idx, 3)) (hc : CLV (mY M).cls idx M2 3) (hf : fitsIn M M2) (hb : b < n) (hs : sh b = (c, N)) (hcl : vwCl[c]? = some ((mY M2).cls, T, N)) (hM : AMet E M2 [aR b, v1, v2, v3] hi hr n (EX none h1 hr1 n1)) (hw1 : cu ≤ mMc M) (hw2 : su ≤ mMs M) (z1 : mMc M2 = 0) (z2 : mMs M2 = 0) (hst : st.length ≤ 8) (kk : AW E M cu su (pc + 3) ls st h1 hr1 n1 Q) : AW E M cu su pc ls (v3 :: v2 :: v1 :: aR b :: st) hi hr n Q := by
  refine aw_V3 hd hc hf hb hs hcl hM (by rw [z1]; exact hw1) (by rw [z2]; exact hw2) hst fun r h2 r2 n2 hq => ?_
  rw [z1, z2, Nat.add_zero, Nat.add_zero]
  obtain ⟨rfl, rfl, rfl, rfl⟩ := hq
  exact kk
theorem aw_V3i {v1 v2 v3 : AV} (hd : decode (mC M) pc = .ok (.invokevirtual idx, 3)) (hc : CLV (mY M).cls idx M2 3) (hf : fitsIn M M2) (hb : b < n) (hs : sh b = (c, N)) (hcl : vwCl[c]? = some ((mY M2).cls, T, N)) (hM : AMet E M2 [aR b, v1, v2, v3] hi hr n (PI P)) (hw1 : cu ≤ mMc M) (hw2 : su ≤ mMs M) (z1 : mMc M2 = 0) (z2 : mMs M2 = 0) (hst : st.length ≤ 8) (kk : ∀ (v : Int) (h1 : HI) (hr1 : HR) (n1 : Nat), P v h1 hr1 n1 → AW E M cu su (pc + 3) ls (aI v :: st) h1 hr1 n1 Q) : AW E M cu su pc ls (v3 :: v2 :: v1 :: aR b :: st) hi hr n Q := by
  refine aw_V3 hd hc hf hb hs hcl hM (by rw [z1]; exact hw1) (by rw [z2]; exact hw2) hst fun r h2 r2 n2 hq => ?_
  rw [z1, z2, Nat.add_zero, Nat.add_zero]
  obtain ⟨v, rfl, hq⟩ := hq
  exact kk v h2 r2 n2 hq
theorem aw_V3w {v1 v2 v3 : AV} (hd : decode (mC M) pc = .ok (.invokevirtual idx, 3)) (hc : CLV (mY M).cls idx M2 3) (hf : fitsIn M M2) (hb : b < n) (hs : sh b = (c, N)) (hcl : vwCl[c]? = some ((mY M2).cls, T, N)) (hM : AMet E M2 [aR b, v1, v2, v3] hi hr n (PV PW)) (hw1 : cu ≤ mMc M) (hw2 : su ≤ mMs M) (z1 : mMc M2 = 0) (z2 : mMs M2 = 0) (hst : st.length ≤ 8) (kk : ∀ (h1 : HI) (hr1 : HR) (n1 : Nat), PW h1 hr1 n1 → AW E M cu su (pc + 3) ls st h1 hr1 n1 Q) : AW E M cu su pc ls (v3 :: v2 :: v1 :: aR b :: st) hi hr n Q := by
  refine aw_V3 hd hc hf hb hs hcl hM (by rw [z1]; exact hw1) (by rw [z2]; exact hw2) hst fun r h2 r2 n2 hq => ?_
  rw [z1, z2, Nat.add_zero, Nat.add_zero]
  obtain ⟨rfl, hq⟩ := hq
  exact kk h2 r2 n2 hq
theorem aw_V4x {v1 v2 v3 v4 : AV} (hd : decode (mC M) pc = .ok (.invokevirtual idx, 3)) (hc : CLV (mY M).cls idx M2 4) (hf : fitsIn M M2) (hb : b < n) (hs : sh b = (c, N)) (hcl : vwCl[c]? = some ((mY M2).cls, T, N)) (hM : AMet E M2 [aR b, v1, v2, v3, v4] hi hr n (EX (some v) h1 hr1 n1)) (hw1 : cu ≤ mMc M) (hw2 : su ≤ mMs M) (z1 : mMc M2 = 0) (z2 : mMs M2 = 0) (hst : st.length ≤ 8) (kk : AW E M cu su (pc + 3) ls (v :: st) h1 hr1 n1 Q) : AW E M cu su pc ls (v4 :: v3 :: v2 :: v1 :: aR b :: st) hi hr n Q := by
  refine aw_V4 hd hc hf hb hs hcl hM (by rw [z1]; exact hw1) (by rw [z2]; exact hw2) hst fun r h2 r2 n2 hq => ?_
  rw [z1, z2, Nat.add_zero, Nat.add_zero]
  obtain ⟨rfl, rfl, rfl, rfl⟩ := hq
  exact kk
theorem aw_V4v {v1 v2 v3 v4 : AV} (hd : decode (mC M) pc = .ok (.invokevirtual idx, 3)) (hc : CLV (mY M).cls idx M2 4) (hf : fitsIn M M2) (hb : b < n) (hs : sh b = (c, N)) (hcl : vwCl[c]? = some ((mY M2).cls, T, N)) (hM : AMet E M2 [aR b, v1, v2, v3, v4] hi hr n (EX none h1 hr1 n1)) (hw1 : cu ≤ mMc M) (hw2 : su ≤ mMs M) (z1 : mMc M2 = 0) (z2 : mMs M2 = 0) (hst : st.length ≤ 8) (kk : AW E M cu su (pc + 3) ls st h1 hr1 n1 Q) : AW E M cu su pc ls (v4 :: v3 :: v2 :: v1 :: aR b :: st) hi hr n Q := by
  refine aw_V4 hd hc hf hb hs hcl hM (by rw [z1]; exact hw1) (by rw [z2]; exact hw2) hst fun r h2 r2 n2 hq => ?_
  rw [z1, z2, Nat.add_zero, Nat.add_zero]
  obtain ⟨rfl, rfl, rfl, rfl⟩ := hq
  exact kk
theorem aw_V4i {v1 v2 v3 v4 : AV} (hd : decode (mC M) pc = .ok (.invokevirtual idx, 3)) (hc : CLV (mY M).cls idx M2 4) (hf : fitsIn M M2) (hb : b < n) (hs : sh b = (c, N)) (hcl : vwCl[c]? = some ((mY M2).cls, T, N)) (hM : AMet E M2 [aR b, v1, v2, v3, v4] hi hr n (PI P)) (hw1 : cu ≤ mMc M) (hw2 : su ≤ mMs M) (z1 : mMc M2 = 0) (z2 : mMs M2 = 0) (hst : st.length ≤ 8) (kk : ∀ (v : Int) (h1 : HI) (hr1 : HR) (n1 : Nat), P v h1 hr1 n1 → AW E M cu su (pc + 3) ls (aI v :: st) h1 hr1 n1 Q) : AW E M cu su pc ls (v4 :: v3 :: v2 :: v1 :: aR b :: st) hi hr n Q := by
  refine aw_V4 hd hc hf hb hs hcl hM (by rw [z1]; exact hw1) (by rw [z2]; exact hw2) hst fun r h2 r2 n2 hq => ?_
  rw [z1, z2, Nat.add_zero, Nat.add_zero]
  obtain ⟨v, rfl, hq⟩ := hq
  exact kk v h2 r2 n2 hq
theorem aw_V4w {v1 v2 v3 v4 : AV} (hd : decode (mC M) pc = .ok (.invokevirtual idx, 3)) (hc : CLV (mY M).cls idx M2 4) (hf : fitsIn M M2) (hb : b < n) (hs : sh b = (c, N)) (hcl : vwCl[c]? = some ((mY M2).cls, T, N)) (hM : AMet E M2 [aR b, v1, v2, v3, v4] hi hr n (PV PW)) (hw1 : cu ≤ mMc M) (hw2 : su ≤ mMs M) (z1 : mMc M2 = 0) (z2 : mMs M2 = 0) (hst : st.length ≤ 8) (kk : ∀ (h1 : HI) (hr1 : HR) (n1 : Nat), PW h1 hr1 n1 → AW E M cu su (pc + 3) ls st h1 hr1 n1 Q) : AW E M cu su pc ls (v4 :: v3 :: v2 :: v1 :: aR b :: st) hi hr n Q := by
  refine aw_V4 hd hc hf hb hs hcl hM (by rw [z1]; exact hw1) (by rw [z2]; exact hw2) hst fun r h2 r2 n2 hq => ?_
  rw [z1, z2, Nat.add_zero, Nat.add_zero]
  obtain ⟨rfl, hq⟩ := hq
  exact kk h2 r2 n2 hq
theorem aw_V5x {v1 v2 v3 v4 v5 : AV} (hd : decode (mC M) pc = .ok (.invokevirtual idx, 3)) (hc : CLV (mY M).cls idx M2 5) (hf : fitsIn M M2) (hb : b < n) (hs : sh b = (c, N)) (hcl : vwCl[c]? = some ((mY M2).cls, T, N)) (hM : AMet E M2 [aR b, v1, v2, v3, v4, v5] hi hr n (EX (some v) h1 hr1 n1)) (hw1 : cu ≤ mMc M) (hw2 : su ≤ mMs M) (z1 : mMc M2 = 0) (z2 : mMs M2 = 0) (hst : st.length ≤ 8) (kk : AW E M cu su (pc + 3) ls (v :: st) h1 hr1 n1 Q) : AW E M cu su pc ls (v5 :: v4 :: v3 :: v2 :: v1 :: aR b :: st) hi hr n Q := by
  refine aw_V5 hd hc hf hb hs hcl hM (by rw [z1]; exact hw1) (by rw [z2]; exact hw2) hst fun r h2 r2 n2 hq => ?_
  rw [z1, z2, Nat.add_zero, Nat.add_zero]
  obtain ⟨rfl, rfl, rfl, rfl⟩ := hq
  exact kk
theorem aw_V5v {v1 v2 v3 v4 v5 : AV} (hd : decode (mC M) pc = .ok (.invokevirtual idx, 3)) (hc : CLV (mY M).cls idx M2 5) (hf : fitsIn M M2) (hb : b < n) (hs : sh b = (c, N)) (hcl : vwCl[c]? = some ((mY M2).cls, T, N)) (hM : AMet E M2 [aR b, v1, v2, v3, v4, v5] hi hr n (EX none h1 hr1 n1)) (hw1 : cu ≤ mMc M) (hw2 : su ≤ mMs M) (z1 : mMc M2 = 0) (z2 : mMs M2 = 0) (hst : st.length ≤ 8) (kk : AW E M cu su (pc + 3) ls st h1 hr1 n1 Q) : AW E M cu su pc ls (v5 :: v4 :: v3 :: v2 :: v1 :: aR b :: st) hi hr n Q := by
  refine aw_V5 hd hc hf hb hs hcl hM (by rw [z1]; exact hw1) (by rw [z2]; exact hw2) hst fun r h2 r2 n2 hq => ?_
  rw [z1, z2, Nat.add_zero, Nat.add_zero]
  obtain ⟨rfl, rfl, rfl, rfl⟩ := hq
  exact kk
theorem aw_V5i {v1 v2 v3 v4 v5 : AV} (hd : decode (mC M) pc = .ok (.invokevirtual idx, 3)) (hc : CLV (mY M).cls idx M2 5) (hf : fitsIn M M2) (hb : b < n) (hs : sh b = (c, N)) (hcl : vwCl[c]? = some ((mY M2).cls, T, N)) (hM : AMet E M2 [aR b, v1, v2, v3, v4, v5] hi hr n (PI P)) (hw1 : cu ≤ mMc M) (hw2 : su ≤ mMs M) (z1 : mMc M2 = 0) (z2 : mMs M2 = 0) (hst : st.length ≤ 8) (kk : ∀ (v : Int) (h1 : HI) (hr1 : HR) (n1 : Nat), P v h1 hr1 n1 → AW E M cu su (pc + 3) ls (aI v :: st) h1 hr1 n1 Q) : AW E M cu su pc ls (v5 :: v4 :: v3 :: v2 :: v1 :: aR b :: st) hi hr n Q := by
  refine aw_V5 hd hc hf hb hs hcl hM (by rw [z1]; exact hw1) (by rw [z2]; exact hw2) hst fun r h2 r2 n2 hq => ?_
  rw [z1, z2, Nat.add_zero, Nat.add_zero]
  obtain ⟨v, rfl, hq⟩ := hq
  exact kk v h2 r2 n2 hq
theorem aw_V5w {v1 v2 v3 v4 v5 : AV} (hd : decode (mC M) pc = .ok (.invokevirtual idx, 3)) (hc : CLV (mY M).cls idx M2 5) (hf : fitsIn M M2) (hb : b < n) (hs : sh b = (c, N)) (hcl : vwCl[c]? = some ((mY M2).cls, T, N)) (hM : AMet E M2 [aR b, v1, v2, v3, v4, v5] hi hr n (PV PW)) (hw1 : cu ≤ mMc M) (hw2 : su ≤ mMs M) (z1 : mMc M2 = 0) (z2 : mMs M2 = 0) (hst : st.length ≤ 8) (kk : ∀ (h1 : HI) (hr1 : HR) (n1 : Nat), PW h1 hr1 n1 → AW E M cu su (pc + 3) ls st h1 hr1 n1 Q) : AW E M cu su pc ls (v5 :: v4 :: v3 :: v2 :: v1 :: aR b :: st) hi hr n Q := by
  refine aw_V5 hd hc hf hb hs hcl hM (by rw [z1]; exact hw1) (by rw [z2]; exact hw2) hst fun r h2 r2 n2 hq => ?_
  rw [z1, z2, Nat.add_zero, Nat.add_zero]
  obtain ⟨rfl, hq⟩ := hq
  exact kk h2 r2 n2 hq
theorem aw_I0x (hd : decode (mC M) pc = .ok (.invokespecial idx, 3)) (hc : CLI (mY M).cls idx M2 0) (hf : fitsIn M M2) (hM : AMet E M2 [aR b] hi hr n (EX (some v) h1 hr1 n1)) (hw1 : cu ≤ mMc M) (hw2 : su ≤ mMs M) (z1 : mMc M2 = 0) (z2 : mMs M2 = 0) (hst : st.length ≤ 8) (kk : AW E M cu su (pc + 3) ls (v :: st) h1 hr1 n1 Q) : AW E M cu su pc ls (aR b :: st) hi hr n Q := by
  refine aw_I0 hd hc hf hM (by rw [z1]; exact hw1) (by rw [z2]; exact hw2) hst fun r h2 r2 n2 hq => ?_
  rw [z1, z2, Nat.add_zero, Nat.add_zero]
  obtain ⟨rfl, rfl, rfl, rfl⟩ := hq
  exact kk
theorem aw_I0v (hd : decode (mC M) pc = .ok (.invokespecial idx, 3)) (hc : CLI (mY M).cls idx M2 0) (hf : fitsIn M M2) (hM : AMet E M2 [aR b] hi hr n (EX none h1 hr1 n1)) (hw1 : cu ≤ mMc M) (hw2 : su ≤ mMs M) (z1 : mMc M2 = 0) (z2 : mMs M2 = 0) (hst : st.length ≤ 8) (kk : AW E M cu su (pc + 3) ls st h1 hr1 n1 Q) : AW E M cu su pc ls (aR b :: st) hi hr n Q := by
  refine aw_I0 hd hc hf hM (by rw [z1]; exact hw1) (by rw [z2]; exact hw2) hst fun r h2 r2 n2 hq => ?_
  rw [z1, z2, Nat.add_zero, Nat.add_zero]
  obtain ⟨rfl, rfl, rfl, rfl⟩ := hq
  exact kk
theorem aw_I0i (hd : decode (mC M) pc = .ok (.invokespecial idx, 3)) (hc : CLI (mY M).cls idx M2 0) (hf : fitsIn M M2) (hM : AMet E M2 [aR b] hi hr n (PI P)) (hw1 : cu ≤ mMc M) (hw2 : su ≤ mMs M) (z1 : mMc M2 = 0) (z2 : mMs M2 = 0) (hst : st.length ≤ 8) (kk : ∀ (v : Int) (h1 : HI) (hr1 : HR) (n1 : Nat), P v h1 hr1 n1 → AW E M cu su (pc + 3) ls (aI v :: st) h1 hr1 n1 Q) : AW E M cu su pc ls (aR b :: st) hi hr n Q := by
  refine aw_I0 hd hc hf hM (by rw [z1]; exact hw1) (by rw [z2]; exact hw2) hst fun r h2 r2 n2 hq => ?_
  rw [z1, z2, Nat.add_zero, Nat.add_zero]
  obtain ⟨v, rfl, hq⟩ := hq
  exact kk v h2 r2 n2 hq
theorem aw_I0w (hd : decode (mC M) pc = .ok (.invokespecial idx, 3)) (hc : CLI (mY M).cls idx M2 0) (hf : fitsIn M M2) (hM : AMet E M2 [aR b] hi hr n (PV PW)) (hw1 : cu ≤ mMc M) (hw2 : su ≤ mMs M) (z1 : mMc M2 = 0) (z2 : mMs M2 = 0) (hst : st.length ≤ 8) (kk : ∀ (h1 : HI) (hr1 : HR) (n1 : Nat), PW h1 hr1 n1 → AW E M cu su (pc + 3) ls st h1 hr1 n1 Q) : AW E M cu su pc ls (aR b :: st) hi hr n Q := by
  refine aw_I0 hd hc hf hM (by rw [z1]; exact hw1) (by rw [z2]; exact hw2) hst fun r h2 r2 n2 hq => ?_
  rw [z1, z2, Nat.add_zero, Nat.add_zero]
  obtain ⟨rfl, hq⟩ := hq
  exact kk h2 r2 n2 hq
end CALLS2
end
section
/-! the small methods -/
section SMALL
variable {E : ET} {hi : HI} {hr : HR} {s : Int → Int}
set_option maxRecDepth 100000 in
set_option maxHeartbeats 4000000 in
theorem c_X8_isIn {v a b : Int} (hv : InR v) (ha : InR a) (hb : InR b) : AMet E M_X8_isIn [aI v, aI a, aI b] hi hr 131 (EX (some (aI (if a ≤ v ∧ v ≤ b then 1 else 0))) hi hr 131) := by
  refine am_of (by decide +kernel) (Nat.le_of_ble_eq_true rfl) ?_
  refine aw_iload_n dX8_isIn_0 rfl ?_
  refine aw_iload_n dX8_isIn_1 rfl ?_
  refine aw_ic_lt (tgt := 14) dX8_isIn_2 (by decide) (by assumption) (by assumption) (fun h2 => ?_) (fun h2 => ?_)
  · refine aw_iconst dX8_isIn_14 ?_
    refine aw_zret dX8_isIn_15 rfl (Or.inl rfl) (by decide) (by decide) ?_
    refine ⟨?_, rfl, rfl, rfl⟩; simp only [Option.some.injEq, Sum.inl.injEq]; (try rw [if_pos ⟨by omega, by omega⟩]); (try rw [if_neg (by omega)])
  · refine aw_iload_n dX8_isIn_5 rfl ?_
    refine aw_iload_n dX8_isIn_6 rfl ?_
    refine aw_ic_gt (tgt := 14) dX8_isIn_7 (by decide) (by assumption) (by assumption) (fun h7 => ?_) (fun h7 => ?_)
    · refine aw_iconst dX8_isIn_14 ?_
      refine aw_zret dX8_isIn_15 rfl (Or.inl rfl) (by decide) (by decide) ?_
      refine ⟨?_, rfl, rfl, rfl⟩; simp only [Option.some.injEq, Sum.inl.injEq]; (try rw [if_pos ⟨by omega, by omega⟩]); (try rw [if_neg (by omega)])
    · refine aw_iconst dX8_isIn_10 ?_
      refine aw_goto (tgt := 15) dX8_isIn_11 (by decide) ?_
      refine aw_zret dX8_isIn_15 rfl (Or.inr rfl) (by decide) (by decide) ?_
      refine ⟨?_, rfl, rfl, rfl⟩; simp only [Option.some.injEq, Sum.inl.injEq]; (try rw [if_pos ⟨by omega, by omega⟩]); (try rw [if_neg (by omega)])
set_option maxRecDepth 100000 in
set_option maxHeartbeats 4000000 in
theorem c_X9_in {v a b : Int} (hv : InR v) (ha : InR a) (hb : InR b) : AMet E M_X9_in [aI v, aI a, aI b] hi hr 131 (EX (some (aI (if a ≤ v ∧ v ≤ b then 1 else 0))) hi hr 131) := by
  refine am_of (by decide +kernel) (Nat.le_of_ble_eq_true rfl) ?_
  refine aw_iload_n dX9_in_0 rfl ?_
  refine aw_iload_n dX9_in_1 rfl ?_
  refine aw_ic_lt (tgt := 14) dX9_in_2 (by decide) (by assumption) (by assumption) (fun h2 => ?_) (fun h2 => ?_)
  · refine aw_iconst dX9_in_14 ?_
    refine aw_zret dX9_in_15 rfl (Or.inl rfl) (by decide) (by decide) ?_
    refine ⟨?_, rfl, rfl, rfl⟩; simp only [Option.some.injEq, Sum.inl.injEq]; (try rw [if_pos ⟨by omega, by omega⟩]); (try rw [if_neg (by omega)])
  · refine aw_iload_n dX9_in_5 rfl ?_
    refine aw_iload_n dX9_in_6 rfl ?_
    refine aw_ic_gt (tgt := 14) dX9_in_7 (by decide) (by assumption) (by assumption) (fun h7 => ?_) (fun h7 => ?_)
    · refine aw_iconst dX9_in_14 ?_
      refine aw_zret dX9_in_15 rfl (Or.inl rfl) (by decide) (by decide) ?_
      refine ⟨?_, rfl, rfl, rfl⟩; simp only [Option.some.injEq, Sum.inl.injEq]; (try rw [if_pos ⟨by omega, by omega⟩]); (try rw [if_neg (by omega)])
    · refine aw_iconst dX9_in_10 ?_
      refine aw_goto (tgt := 15) dX9_in_11 (by decide) ?_
      refine aw_zret dX9_in_15 rfl (Or.inr rfl) (by decide) (by decide) ?_
      refine ⟨?_, rfl, rfl, rfl⟩; simp only [Option.some.injEq, Sum.inl.injEq]; (try rw [if_pos ⟨by omega, by omega⟩]); (try rw [if_neg (by omega)])
end SMALL
end
section
/-! bits -/
section BITS
variable {E : ET} {M : MT} {cu su pc : Nat} {ls : List (Option AV)} {st : List AV} {hi : HI} {hr : HR} {n : Nat} {Q : QT} {idx : Nat}
theorem oi_ti (r : Int32) : Int32.ofInt r.toInt = r := Int32.ofInt_toInt r
theorem sh1_k : ∀ k : Nat, k < 12 → Int32.ofInt 1 <<< (Int32.ofInt (k : Int) &&& 31) = Int32.ofInt ((1 <<< k : Nat) : Int) := by decide +kernel
theorem shm_k : ∀ k : Nat, k < 12 → ((Int32.ofInt (k : Int) &&& 31).toBitVec.smod 32).toNat = k := by decide +kernel
theorem aw_shl1 {k : Nat} (hd : decode (mC M) pc = .ok (.ishl, 1)) (hk : k < 12) (kk : AW E M cu su (pc + 1) ls (aI ((1 <<< k : Nat) : Int) :: st) hi hr n Q) : AW E M cu su pc ls (aI (k : Int) :: aI 1 :: st) hi hr n Q := by
  intro p e s m args below meth c H locs lsA C hC hL hR
  refine lv_ishl C.1 C.2.1 hd ?_
  rw [sh1_k k hk]
  exact kk p e s m args below meth c H locs lsA C hC hL hR
theorem aw_shrN {a k : Nat} (hd : decode (mC M) pc = .ok (.ishr, 1)) (ha : a < 4096) (hk : k < 12) (kk : AW E M cu su (pc + 1) ls (aI ((a / 2 ^ k : Nat) : Int) :: st) hi hr n Q) : AW E M cu su pc ls (aI (k : Int) :: aI (a : Int) :: st) hi hr n Q := by
  intro p e s m args below meth c H locs lsA C hC hL hR
  refine lv_ishr C.1 C.2.1 hd ?_
  rw [oi_nI a, pk_shrN (by omega) _ k (shm_k k hk), ← oi_nI]
  exact kk p e s m args below meth c H locs lsA C hC hL hR
theorem aw_iushr {x y : Int} (hd : decode (mC M) pc = .ok (.iushr, 1)) (kk : AW E M cu su (pc + 1) ls (aI (((Int32.ofInt x).toUInt32 >>> ((Int32.ofInt y).toUInt32 &&& Int32.toUInt32 31)).toInt32.toInt) :: st) hi hr n Q) : AW E M cu su pc ls (aI y :: aI x :: st) hi hr n Q := by
  intro p e s m args below meth c H locs lsA C hC hL hR
  refine lv_iushr C.1 C.2.1 hd rfl ?_
  have g := kk p e s m args below meth c H locs lsA C hC hL hR
  rw [List.map_cons, cv_i, oi_ti] at g
  exact g
theorem aw_iandG {x y : Int} (hd : decode (mC M) pc = .ok (.iand, 1)) (kk : AW E M cu su (pc + 1) ls (aI ((Int32.ofInt x &&& Int32.ofInt y).toInt) :: st) hi hr n Q) : AW E M cu su pc ls (aI y :: aI x :: st) hi hr n Q := by
  intro p e s m args below meth c H locs lsA C hC hL hR
  refine lv_iand C.1 C.2.1 hd ?_
  have g := kk p e s m args below meth c H locs lsA C hC hL hR
  rw [List.map_cons, cv_i, oi_ti] at g
  exact g
theorem aw_ldcw {v : Int32} (hd : decode (mC M) pc = .ok (.ldc_w idx, 3)) (hc : Cond.constant (mY M).cls idx v ∈ lw_tbl) (kk : AW E M cu su (pc + 3) ls (aI v.toInt :: st) hi hr n Q) : AW E M cu su pc ls st hi hr n Q := by
  intro p e s m args below meth c H locs lsA C hC hL hR
  have g := kk p e s m args below meth c H locs lsA C hC hL hR
  rw [List.map_cons, cv_i, oi_ti] at g
  exact lv_ldcw C.1 C.2.1 C.2.2.2.2.2.1 (C.2.2.2.2.2.2.2.1 _ hc rfl _) hd g
end BITS
end
section
/-! the twin's first methods -/
theorem exI {x y : Int} {h1 : HI} {r1 : HR} {n1 : Nat} (h : x = y) : EX (some (aI y)) h1 r1 n1 (some (aI x)) h1 r1 n1 := ⟨by rw [h], rfl, rfl, rfl⟩
theorem exH {x y : Int} {h1 h2 : HI} {r1 : HR} {n1 : Nat} (h : x = y) (hh : h1 = h2) : EX (some (aI y)) h2 r1 n1 (some (aI x)) h1 r1 n1 := ⟨by rw [h], hh, rfl, rfl⟩
theorem exV {h1 h2 : HI} {r1 : HR} {n1 : Nat} (hh : h1 = h2) : EX none h2 r1 n1 none h1 r1 n1 := ⟨rfl, hh, rfl, rfl⟩
def BIG : Int := 1000000
def xc (x : Int) : Prop := x < 0 ∨ 255 < x ∨ x = 3 ∨ x = 4 ∨ x = 5 ∨ x = 8 ∨ x = 9
/-- the twin's state: ranges (but what is counted without a bound) -/
def MI (s : Int → Int) : Prop := (∀ x, ¬ xc x → 0 ≤ s x ∧ s x ≤ BIG) ∧ (s 2 = 0 ∨ s 2 = 1) ∧ s 11 ≤ 8 ∧ s 248 ≤ 15 ∧ 1 ≤ s 23 ∧ (s 1 = 0 ∨ s 1 = 1) ∧ s 10 ≤ s 0 ∧ s 6 ≤ 100000 ∧ s 7 ≤ 100000 ∧ (∀ x, 12 ≤ x → x < 24 → s x ≤ 99) ∧ 1 ≤ s 20 ∧ 1 ≤ s 21
theorem MI.r {s : Int → Int} (h : MI s) (x : Int) (hx : ¬ xc x) : InR (s x) := by
  have := h.1 x hx
  unfold BIG at this
  exact ⟨by omega, by omega⟩
theorem MI.z {s : Int → Int} (h : MI s) (x : Int) (hx : ¬ xc x) : 0 ≤ s x := (h.1 x hx).1
def lat (p : Int) : Int := if p = 15 ∨ (0 < p ∧ p % 2 = 0) then 1 else 0
def lin (p : Int) : Int := if p = 15 then 7 else if 0 < p ∧ p % 2 = 0 then p / 2 - 1 else (p + 1) / 2
def ear (l : Int) : Int := if l = 0 then 0 else 2 * l - 1
def atI (c : Int) : Int := if c % 24 < 16 then 24 + 4 * (16 * (c / 24) + c % 24) else 152 + 4 * (8 * (c / 24) + (c % 24 - 16))
theorem atI_b {c : Int} (h0 : 0 ≤ c) (h1 : c < 48) : 24 ≤ atI c ∧ atI c + 3 < 216 := by
  unfold atI
  split <;> omega
def nxA (s : Int → Int) : Nat → Int → Int
  | 0, p => p
  | d + 1, p => if p < 16 ∧ ¬ s (24 + 4 * (16 * s 2 + p)) = 0 then nxA s d (p + 1) else p
def nxt (s : Int → Int) : Int := nxA s 16 0
def blA (s : Int → Int) (b : Int) : Nat → Int
  | 0 => 1
  | k + 1 => if blA s b k = 1 ∧ s (24 + 4 * (16 * b + (k : Int))) = 0 then 1 else 0
def plA (s : Int → Int) (key : Int) : Nat → Int × Int
  | 0 => (-1, 0)
  | k + 1 => if s (atI k) = 2 ∧ s (atI k + 1) = key ∧ (plA s key k).2 < s (atI k + 3) then ((k : Int), s (atI k + 3)) else plA s key k
def plc (s : Int → Int) (key : Int) : Int := (plA s key 48).1
def stF (s : Int → Int) (key : Int) : Int := if plc s key < 0 then 0 else s (atI (plc s key) + 3)
theorem plA_b (s : Int → Int) (key : Int) : ∀ k : Nat, k ≤ 48 → (plA s key k).1 = -1 ∧ (plA s key k).2 = 0 ∨ 0 ≤ (plA s key k).1 ∧ (plA s key k).1 < k ∧ (plA s key k).2 = s (atI (plA s key k).1 + 3) ∧ s (atI (plA s key k).1) = 2 ∧ s (atI (plA s key k).1 + 1) = key ∧ 0 < (plA s key k).2 := by
  intro k
  induction k with
  | zero => intro _; left; exact ⟨rfl, rfl⟩
  | succ k ih =>
    intro hk
    unfold plA
    split
    · next h =>
      right
      refine ⟨by simp, by simp; omega, rfl, h.1, h.2.1, ?_⟩
      rcases ih (by omega) with g | g
      · have := h.2.2; show 0 < s _; omega
      · have := h.2.2; show 0 < s _; omega
    · rcases ih (by omega) with g | g
      · exact Or.inl g
      · exact Or.inr ⟨g.1, by omega, g.2.2⟩
theorem plc_b (s : Int → Int) (key : Int) : plc s key = -1 ∨ 0 ≤ plc s key ∧ plc s key < 48 := by
  rcases plA_b s key 48 (by omega) with g | g
  · exact Or.inl g.1
  · exact Or.inr ⟨g.1, g.2.1⟩
section TWIN1
variable {E : ET} {hi : HI} {hr : HR} {s : Int → Int}
set_option maxRecDepth 100000 in
set_option maxHeartbeats 4000000 in
theorem c_X9_isLate {p : Int} (hp : InR p) : AMet E M_X9_isLate [aI p] hi hr 131 (EX (some (aI (lat p))) hi hr 131) := by
  refine am_of (by decide +kernel) (Nat.le_of_ble_eq_true rfl) ?_
  refine aw_iload_n dX9_isLate_0 rfl ?_
  refine aw_bipush dX9_isLate_1 (by decide) ?_
  refine aw_ic_eq (tgt := 16) dX9_isLate_3 (by decide) hp ⟨by decide, by decide⟩ (fun h3 => ?_) (fun h3 => ?_)
  · refine aw_iconst dX9_isLate_16 ?_
    refine aw_goto (tgt := 21) dX9_isLate_17 (by decide) ?_
    refine aw_zret dX9_isLate_21 rfl (Or.inr rfl) (by decide) (by decide) ?_
    exact exI (by simp only [lat]; (repeat' split) <;> first | rfl | omega)
  · refine aw_iload_n dX9_isLate_6 rfl ?_
    refine aw_if_le (tgt := 20) dX9_isLate_7 (by decide) hp (fun h7 => ?_) (fun h7 => ?_)
    · refine aw_iconst dX9_isLate_20 ?_
      refine aw_zret dX9_isLate_21 rfl (Or.inl rfl) (by decide) (by decide) ?_
      exact exI (by simp only [lat]; (repeat' split) <;> first | rfl | omega)
    · refine aw_iload_n dX9_isLate_10 rfl ?_
      refine aw_iconst dX9_isLate_11 ?_
      refine aw_irem dX9_isLate_12 (by omega) hp (by decide) ⟨by decide, by decide⟩ ?_
      refine aw_if_ne (tgt := 20) dX9_isLate_13 (by decide) ⟨by omega, by omega⟩ (fun h13 => ?_) (fun h13 => ?_)
      · refine aw_iconst dX9_isLate_20 ?_
        refine aw_zret dX9_isLate_21 rfl (Or.inl rfl) (by decide) (by decide) ?_
        exact exI (by simp only [lat]; (repeat' split) <;> first | rfl | omega)
      · refine aw_iconst dX9_isLate_16 ?_
        refine aw_goto (tgt := 21) dX9_isLate_17 (by decide) ?_
        refine aw_zret dX9_isLate_21 rfl (Or.inr rfl) (by decide) (by decide) ?_
        exact exI (by simp only [lat]; (repeat' split) <;> first | rfl | omega)
set_option maxRecDepth 100000 in
set_option maxHeartbeats 4000000 in
theorem c_X9_lineOf {p : Int} (h0 : 0 ≤ p) (h1 : p < 16) : AMet E M_X9_lineOf [aI p] hi hr 131 (EX (some (aI (lin p))) hi hr 131) := by
  refine am_of (by decide +kernel) (Nat.le_of_ble_eq_true rfl) ?_
  refine aw_iload_n dX9_lineOf_0 rfl ?_
  refine aw_bipush dX9_lineOf_1 (by decide) ?_
  refine aw_ic_ne (tgt := 11) dX9_lineOf_3 (by decide) ⟨by omega, by omega⟩ ⟨by decide, by decide⟩ (fun h3 => ?_) (fun h3 => ?_)
  · refine aw_iload_n dX9_lineOf_11 rfl ?_
    refine aw_S1x dX9_lineOf_12 clX9_36 ⟨by decide, by decide⟩ (c_X9_isLate (p := p) ⟨by omega, by omega⟩) (by decide) (by decide) rfl rfl (by simp only [List.length_cons, List.length_nil]; omega) ?_
    refine aw_if_eq (tgt := 26) dX9_lineOf_15 (by decide) (by unfold lat; split <;> exact ⟨by decide, by decide⟩) (fun h15 => ?_) (fun h15 => ?_)
    · refine aw_iload_n dX9_lineOf_26 rfl ?_
      refine aw_iconst dX9_lineOf_27 ?_
      refine aw_iadd dX9_lineOf_28 ?_
      refine aw_iconst dX9_lineOf_29 ?_
      refine aw_idiv dX9_lineOf_30 (by omega) ⟨by omega, by omega⟩ (by decide) ⟨by decide, by decide⟩ ?_
      refine aw_iret dX9_lineOf_31 rfl (by decide) (by decide) ?_
      exact exI (by (try unfold lat at *); unfold lin; (repeat' split) <;> first | rfl | omega)
    · refine aw_iload_n dX9_lineOf_18 rfl ?_
      refine aw_iconst dX9_lineOf_19 ?_
      refine aw_idiv dX9_lineOf_20 (by omega) ⟨by omega, by omega⟩ (by decide) ⟨by decide, by decide⟩ ?_
      refine aw_iconst dX9_lineOf_21 ?_
      refine aw_isub dX9_lineOf_22 ?_
      refine aw_goto (tgt := 31) dX9_lineOf_23 (by decide) ?_
      refine aw_iret dX9_lineOf_31 rfl (by decide) (by decide) ?_
      exact exI (by (try unfold lat at *); unfold lin; (repeat' split) <;> first | rfl | omega)
  · refine aw_bipush dX9_lineOf_6 (by decide) ?_
    refine aw_goto (tgt := 31) dX9_lineOf_8 (by decide) ?_
    refine aw_iret dX9_lineOf_31 rfl (by decide) (by decide) ?_
    exact exI (by (try unfold lat at *); unfold lin; (repeat' split) <;> first | rfl | omega)
set_option maxRecDepth 100000 in
set_option maxHeartbeats 4000000 in
theorem c_X9_earlyOf {l : Int} (h0 : InR l) : AMet E M_X9_earlyOf [aI l] hi hr 131 (EX (some (aI (ear l))) hi hr 131) := by
  refine am_of (by decide +kernel) (Nat.le_of_ble_eq_true rfl) ?_
  refine aw_iload_n dX9_earlyOf_0 rfl ?_
  refine aw_if_ne (tgt := 8) dX9_earlyOf_1 (by decide) h0 (fun h1 => ?_) (fun h1 => ?_)
  · refine aw_iconst dX9_earlyOf_8 ?_
    refine aw_iload_n dX9_earlyOf_9 rfl ?_
    refine aw_imul dX9_earlyOf_10 ?_
    refine aw_iconst dX9_earlyOf_11 ?_
    refine aw_isub dX9_earlyOf_12 ?_
    refine aw_iret dX9_earlyOf_13 rfl (by decide) (by decide) ?_
    exact exI (by simp only [ear]; (repeat' split) <;> first | rfl | omega)
  · refine aw_iconst dX9_earlyOf_4 ?_
    refine aw_goto (tgt := 13) dX9_earlyOf_5 (by decide) ?_
    refine aw_iret dX9_earlyOf_13 rfl (by decide) (by decide) ?_
    exact exI (by simp only [ear]; (repeat' split) <;> first | rfl | omega)
set_option maxRecDepth 100000 in
set_option maxHeartbeats 4000000 in
theorem c_X9_pageAt {b p : Int} : AMet E M_X9_pageAt [aR 125, aI b, aI p] hi hr 131 (EX (some (aI (24 + 4 * (16 * b + p)))) hi hr 131) := by
  refine am_of (by decide +kernel) (Nat.le_of_ble_eq_true rfl) ?_
  refine aw_bipush dX9_pageAt_0 (by decide) ?_
  refine aw_iconst dX9_pageAt_2 ?_
  refine aw_bipush dX9_pageAt_3 (by decide) ?_
  refine aw_iload_n dX9_pageAt_5 rfl ?_
  refine aw_imul dX9_pageAt_6 ?_
  refine aw_iload_n dX9_pageAt_7 rfl ?_
  refine aw_iadd dX9_pageAt_8 ?_
  refine aw_imul dX9_pageAt_9 ?_
  refine aw_iadd dX9_pageAt_10 ?_
  refine aw_iret dX9_pageAt_11 rfl (by decide) (by decide) ?_
  exact EX.rf
set_option maxRecDepth 100000 in
set_option maxHeartbeats 4000000 in
theorem c_X9_backupAt {b p : Int} : AMet E M_X9_backupAt [aR 125, aI b, aI p] hi hr 131 (EX (some (aI (152 + 4 * (8 * b + p)))) hi hr 131) := by
  refine am_of (by decide +kernel) (Nat.le_of_ble_eq_true rfl) ?_
  refine aw_sipush dX9_backupAt_0 (by decide) ?_
  refine aw_iconst dX9_backupAt_3 ?_
  refine aw_bipush dX9_backupAt_4 (by decide) ?_
  refine aw_iload_n dX9_backupAt_6 rfl ?_
  refine aw_imul dX9_backupAt_7 ?_
  refine aw_iload_n dX9_backupAt_8 rfl ?_
  refine aw_iadd dX9_backupAt_9 ?_
  refine aw_imul dX9_backupAt_10 ?_
  refine aw_iadd dX9_backupAt_11 ?_
  refine aw_iret dX9_backupAt_12 rfl (by decide) (by decide) ?_
  exact EX.rf
set_option maxRecDepth 100000 in
set_option maxHeartbeats 4000000 in
theorem c_X9_next (hHR : HRk hr) (hM : MI s) : AMet E M_X9_next [aR 125] (pa 126 hi s) hr 131 (EX (some (aI (nxt s))) (pa 126 hi s) hr 131) := by
  refine am_of (by decide +kernel) (Nat.le_of_ble_eq_true rfl) ?_
  have h2 := hM.2.1
  have loop : ∀ (d : Nat) (p : Int), 0 ≤ p → p + d = 16 → AW E M_X9_next 0 0 2 [some (aR 125), some (aI p)] [] (pa 126 hi s) hr 131 (EX (some (aI (nxA s d p))) (pa 126 hi s) hr 131) := by
    intro d
    induction d with
    | zero =>
      intro p h0 hp
      refine aw_iload_n dX9_next_2 rfl ?_
      refine aw_bipush dX9_next_3 (by decide) ?_
      refine aw_ic_ge (tgt := 33) dX9_next_5 (by decide) ⟨by omega, by omega⟩ ⟨by decide, by decide⟩ (fun h5 => ?_) (fun h5 => ?_)
      · refine aw_iload_n dX9_next_33 rfl ?_
        refine aw_iret dX9_next_34 rfl (by decide) (by decide) ?_
        exact EX.rf
      · exact absurd h5 (by omega)
    | succ d ih =>
      intro p h0 hp
      refine aw_iload_n dX9_next_2 rfl ?_
      refine aw_bipush dX9_next_3 (by decide) ?_
      refine aw_ic_ge (tgt := 33) dX9_next_5 (by decide) ⟨by omega, by omega⟩ ⟨by decide, by decide⟩ (fun h5 => ?_) (fun h5 => ?_)
      · exact absurd h5 (by omega)
      · refine aw_aload_n dX9_next_8 rfl ?_
        refine aw_getr (x := 126) dX9_next_9 ci9 (by decide) fX9_7 (by decide) (by decide +kernel) rfl ((hHR 125 0 (by decide) (by decide +kernel)).trans rfl) ?_
        refine aw_aload_n dX9_next_12 rfl ?_
        refine aw_aload_n dX9_next_13 rfl ?_
        refine aw_getr (x := 126) dX9_next_14 ci9 (by decide) fX9_7 (by decide) (by decide +kernel) rfl ((hHR 125 0 (by decide) (by decide +kernel)).trans rfl) ?_
        refine aw_iconst dX9_next_17 ?_
        refine aw_iald (N := 256) dX9_next_18 (Or.inl ⟨(by decide), (by decide +kernel)⟩) (by decide) (by decide) (by decide) (pa_gi 126 _ _ (by decide)) ?_
        refine aw_iload_n dX9_next_19 rfl ?_
        refine aw_V2x dX9_next_20 clX9_40 ⟨by decide, by decide⟩ (c := 9) (N := 11) (by decide) (by decide +kernel) rfl c_X9_pageAt (by decide) (by decide) rfl rfl (by simp only [List.length_cons, List.length_nil]; omega) ?_
        refine aw_iald (N := 256) dX9_next_23 (Or.inl ⟨(by decide), (by decide +kernel)⟩) (by omega) (by omega) (by decide) (pa_gi 126 _ _ (by omega)) ?_
        refine aw_if_eq (tgt := 33) dX9_next_24 (by decide) (hM.r _ (by unfold xc; omega)) (fun h24 => ?_) (fun h24 => ?_)
        · refine aw_iload_n dX9_next_33 rfl ?_
          refine aw_iret dX9_next_34 rfl (by decide) (by decide) ?_
          exact exI (by simp only [nxA]; rw [if_neg (by omega)])
        · refine aw_iinc (ls2 := [_, _]) dX9_next_27 rfl (by decide) rfl ?_
          refine aw_goto (tgt := 2) dX9_next_30 (by decide) ?_
          rw [show nxA s (d + 1) p = nxA s d (p + 1) from by simp only [nxA]; rw [if_pos ⟨by omega, h24⟩]]
          exact ih (p + 1) (by omega) (by omega)
  refine aw_iconst dX9_next_0 ?_
  refine aw_istore_n (ls2 := [_, _]) dX9_next_1 (by decide) rfl ?_
  exact loop 16 0 (by omega) (by omega)
set_option maxRecDepth 100000 in
set_option maxHeartbeats 4000000 in
theorem c_X9_isBlank {b : Int} (hHR : HRk hr) (hM : MI s) (hb : b = 0 ∨ b = 1) : AMet E M_X9_isBlank [aR 125, aI b] (pa 126 hi s) hr 131 (EX (some (aI (blA s b 16))) (pa 126 hi s) hr 131) := by
  refine am_of (by decide +kernel) (Nat.le_of_ble_eq_true rfl) ?_
  have hb1 : ∀ k, blA s b k = 0 ∨ blA s b k = 1 := by
    intro k
    cases k with
    | zero => right; rfl
    | succ k => simp only [blA]; split <;> simp
  have loop : ∀ (d k : Nat), k + d = 16 → AW E M_X9_isBlank 0 0 4 [some (aR 125), some (aI b), some (aI (blA s b k)), some (aI (k : Int))] [] (pa 126 hi s) hr 131 (EX (some (aI (blA s b 16))) (pa 126 hi s) hr 131) := by
    intro d
    induction d with
    | zero =>
      intro k hk
      have hk' : k = 16 := by omega
      subst hk'
      refine aw_iload_n dX9_isBlank_4 rfl ?_
      refine aw_bipush dX9_isBlank_5 (by decide) ?_
      refine aw_ic_ge (tgt := 40) dX9_isBlank_7 (by decide) ⟨by decide, by decide⟩ ⟨by decide, by decide⟩ (fun h7 => ?_) (fun h7 => ?_)
      · refine aw_iload_n dX9_isBlank_40 rfl ?_
        refine aw_zret dX9_isBlank_41 rfl (by rcases hb1 16 with q | q <;> rw [q] <;> simp) (by decide) (by decide) ?_
        exact EX.rf
      · exact absurd h7 (by decide)
    | succ d ih =>
      intro k hk
      refine aw_iload_n dX9_isBlank_4 rfl ?_
      refine aw_bipush dX9_isBlank_5 (by decide) ?_
      refine aw_ic_ge (tgt := 40) dX9_isBlank_7 (by decide) ⟨by omega, by omega⟩ ⟨by decide, by decide⟩ (fun h7 => ?_) (fun h7 => ?_)
      · exact absurd h7 (by omega)
      · refine aw_iload_n dX9_isBlank_10 rfl ?_
        refine aw_if_eq (tgt := 32) dX9_isBlank_11 (by decide) (by rcases hb1 k with q | q <;> rw [q] <;> exact ⟨by decide, by decide⟩) (fun h11 => ?_) (fun h11 => ?_)
        · refine aw_iconst dX9_isBlank_32 ?_
          refine aw_istore_n (ls2 := [_, _, _, _]) dX9_isBlank_33 (by decide) rfl ?_
          refine aw_iinc (ls2 := [_, _, _, _]) dX9_isBlank_34 rfl (by decide) rfl ?_
          refine aw_goto (tgt := 4) dX9_isBlank_37 (by decide) ?_
          have e : blA s b (k + 1) = 0 := by
            simp only [blA]
            rcases hb1 k with q | q <;> simp_all
          have g := ih (k + 1) (by omega)
          rw [e] at g
          exact g
        · refine aw_aload_n dX9_isBlank_14 rfl ?_
          refine aw_getr (x := 126) dX9_isBlank_15 ci9 (by decide) fX9_7 (by decide) (by decide +kernel) rfl ((hHR 125 0 (by decide) (by decide +kernel)).trans rfl) ?_
          refine aw_aload_n dX9_isBlank_18 rfl ?_
          refine aw_iload_n dX9_isBlank_19 rfl ?_
          refine aw_iload_n dX9_isBlank_20 rfl ?_
          refine aw_V2x dX9_isBlank_21 clX9_40 ⟨by decide, by decide⟩ (c := 9) (N := 11) (by decide) (by decide +kernel) rfl c_X9_pageAt (by decide) (by decide) rfl rfl (by simp only [List.length_cons, List.length_nil]; omega) ?_
          refine aw_iald (N := 256) dX9_isBlank_24 (Or.inl ⟨(by decide), (by decide +kernel)⟩) (by omega) (by omega) (by decide) (pa_gi 126 _ _ (by omega)) ?_
          refine aw_if_ne (tgt := 32) dX9_isBlank_25 (by decide) (hM.r _ (by unfold xc; omega)) (fun h25 => ?_) (fun h25 => ?_)
          · refine aw_iconst dX9_isBlank_32 ?_
            refine aw_istore_n (ls2 := [_, _, _, _]) dX9_isBlank_33 (by decide) rfl ?_
            refine aw_iinc (ls2 := [_, _, _, _]) dX9_isBlank_34 rfl (by decide) rfl ?_
            refine aw_goto (tgt := 4) dX9_isBlank_37 (by decide) ?_
            have e : blA s b (k + 1) = 0 := by
              simp only [blA]
              rcases hb1 k with q | q <;> simp_all
            have g := ih (k + 1) (by omega)
            rw [e] at g
            exact g
          · refine aw_iconst dX9_isBlank_28 ?_
            refine aw_goto (tgt := 33) dX9_isBlank_29 (by decide) ?_
            refine aw_istore_n (ls2 := [_, _, _, _]) dX9_isBlank_33 (by decide) rfl ?_
            refine aw_iinc (ls2 := [_, _, _, _]) dX9_isBlank_34 rfl (by decide) rfl ?_
            refine aw_goto (tgt := 4) dX9_isBlank_37 (by decide) ?_
            have e : blA s b (k + 1) = 1 := by
              simp only [blA]
              rcases hb1 k with q | q <;> simp_all
            have g := ih (k + 1) (by omega)
            rw [e] at g
            exact g
  refine aw_iconst dX9_isBlank_0 ?_
  refine aw_istore_n (ls2 := [_, _, _, _]) dX9_isBlank_1 (by decide) rfl ?_
  refine aw_iconst dX9_isBlank_2 ?_
  refine aw_istore_n (ls2 := [_, _, _, _]) dX9_isBlank_3 (by decide) rfl ?_
  exact loop 16 0 (by omega)
set_option maxRecDepth 100000 in
set_option maxHeartbeats 4000000 in
theorem c_X9_atPlace {c : Int} (h0 : 0 ≤ c) (h1 : c < 48) : AMet E M_X9_atPlace [aR 125, aI c] hi hr 131 (EX (some (aI (atI c))) hi hr 131) := by
  refine am_of (by decide +kernel) (Nat.le_of_ble_eq_true rfl) ?_
  refine aw_iload_n dX9_atPlace_0 rfl ?_
  refine aw_bipush dX9_atPlace_1 (by decide) ?_
  refine aw_idiv dX9_atPlace_3 (by omega) ⟨by omega, by omega⟩ (by decide) ⟨by decide, by decide⟩ ?_
  refine aw_istore_n (ls2 := [_, _, _]) dX9_atPlace_4 (by decide) rfl ?_
  refine aw_iload_n dX9_atPlace_5 rfl ?_
  refine aw_bipush dX9_atPlace_6 (by decide) ?_
  refine aw_irem dX9_atPlace_8 (by omega) ⟨by omega, by omega⟩ (by decide) ⟨by decide, by decide⟩ ?_
  refine aw_bipush dX9_atPlace_9 (by decide) ?_
  refine aw_ic_ge (tgt := 26) dX9_atPlace_11 (by decide) ⟨by omega, by omega⟩ ⟨by decide, by decide⟩ (fun h11 => ?_) (fun h11 => ?_)
  · refine aw_aload_n dX9_atPlace_26 rfl ?_
    refine aw_iload_n dX9_atPlace_27 rfl ?_
    refine aw_iload_n dX9_atPlace_28 rfl ?_
    refine aw_bipush dX9_atPlace_29 (by decide) ?_
    refine aw_irem dX9_atPlace_31 (by omega) ⟨by omega, by omega⟩ (by decide) ⟨by decide, by decide⟩ ?_
    refine aw_bipush dX9_atPlace_32 (by decide) ?_
    refine aw_isub dX9_atPlace_34 ?_
    refine aw_V2x dX9_atPlace_35 clX9_48 ⟨by decide, by decide⟩ (c := 9) (N := 11) (by decide) (by decide +kernel) rfl c_X9_backupAt (by decide) (by decide) rfl rfl (by simp only [List.length_cons, List.length_nil]; omega) ?_
    refine aw_iret dX9_atPlace_38 rfl (by decide) (by decide) ?_
    exact exI (by simp only [atI]; (repeat' split) <;> first | rfl | omega)
  · refine aw_aload_n dX9_atPlace_14 rfl ?_
    refine aw_iload_n dX9_atPlace_15 rfl ?_
    refine aw_iload_n dX9_atPlace_16 rfl ?_
    refine aw_bipush dX9_atPlace_17 (by decide) ?_
    refine aw_irem dX9_atPlace_19 (by omega) ⟨by omega, by omega⟩ (by decide) ⟨by decide, by decide⟩ ?_
    refine aw_V2x dX9_atPlace_20 clX9_40 ⟨by decide, by decide⟩ (c := 9) (N := 11) (by decide) (by decide +kernel) rfl c_X9_pageAt (by decide) (by decide) rfl rfl (by simp only [List.length_cons, List.length_nil]; omega) ?_
    refine aw_goto (tgt := 38) dX9_atPlace_23 (by decide) ?_
    refine aw_iret dX9_atPlace_38 rfl (by decide) (by decide) ?_
    exact exI (by simp only [atI]; (repeat' split) <;> first | rfl | omega)
set_option maxRecDepth 100000 in
set_option maxHeartbeats 4000000 in
theorem c_X9_placeOfKey {key : Int} (hHR : HRk hr) (hM : MI s) (hkey : InR key) : AMet E M_X9_placeOfKey [aR 125, aI key] (pa 126 hi s) hr 131 (EX (some (aI (plc s key))) (pa 126 hi s) hr 131) := by
  refine am_of (by decide +kernel) (Nat.le_of_ble_eq_true rfl) ?_
  have loop : ∀ (d k : Nat) (v5 v6 : Option AV), k + d = 48 → AW E M_X9_placeOfKey 0 0 7 [some (aR 125), some (aI key), some (aI (plA s key k).1), some (aI (plA s key k).2), some (aI (k : Int)), v5, v6] [] (pa 126 hi s) hr 131 (EX (some (aI (plc s key))) (pa 126 hi s) hr 131) := by
    intro d
    induction d with
    | zero =>
      intro k v5 v6 hk
      have hk' : k = 48 := by omega
      subst hk'
      refine aw_iload dX9_placeOfKey_7 rfl ?_
      refine aw_bipush dX9_placeOfKey_9 (by decide) ?_
      refine aw_ic_ge (tgt := 103) dX9_placeOfKey_11 (by decide) ⟨by decide, by decide⟩ ⟨by decide, by decide⟩ (fun h11 => ?_) (fun h11 => ?_)
      · refine aw_iload_n dX9_placeOfKey_103 rfl ?_
        refine aw_iret dX9_placeOfKey_104 rfl (by decide) (by decide) ?_
        exact EX.rf
      · exact absurd h11 (by decide)
    | succ d ih =>
      intro k v5 v6 hk
      have hb := atI_b (c := (k : Int)) (by omega) (by omega)
      have hst : InR (plA s key k).2 := by
        rcases plA_b s key k (by omega) with g | g
        · rw [g.2]; exact ⟨by decide, by decide⟩
        · have hb2 := atI_b g.1 (by omega)
          rw [g.2.2.1]; exact hM.r _ (by unfold xc; omega)
      refine aw_iload dX9_placeOfKey_7 rfl ?_
      refine aw_bipush dX9_placeOfKey_9 (by decide) ?_
      refine aw_ic_ge (tgt := 103) dX9_placeOfKey_11 (by decide) ⟨by omega, by omega⟩ ⟨by decide, by decide⟩ (fun h11 => ?_) (fun h11 => ?_)
      · exact absurd h11 (by omega)
      · refine aw_aload_n dX9_placeOfKey_14 rfl ?_
        refine aw_iload dX9_placeOfKey_15 rfl ?_
        refine aw_V1x dX9_placeOfKey_17 clX9_44 ⟨by decide, by decide⟩ (c := 9) (N := 11) (by decide) (by decide +kernel) rfl (c_X9_atPlace (by omega) (by omega)) (by decide) (by decide) rfl rfl (by simp only [List.length_cons, List.length_nil]; omega) ?_
        refine aw_istore (ls2 := [_, _, _, _, _, _, _]) dX9_placeOfKey_20 (by decide) rfl ?_
        refine aw_aload_n dX9_placeOfKey_22 rfl ?_
        refine aw_getr (x := 126) dX9_placeOfKey_23 ci9 (by decide) fX9_7 (by decide) (by decide +kernel) rfl ((hHR 125 0 (by decide) (by decide +kernel)).trans rfl) ?_
        refine aw_iload dX9_placeOfKey_26 rfl ?_
        refine aw_iald (N := 256) dX9_placeOfKey_28 (Or.inl ⟨(by decide), (by decide +kernel)⟩) (by omega) (by omega) (by decide) (pa_gi 126 _ _ (by omega)) ?_
        refine aw_iconst dX9_placeOfKey_29 ?_
        refine aw_ic_ne (tgt := 63) dX9_placeOfKey_30 (by decide) (hM.r _ (by unfold xc; omega)) ⟨by decide, by decide⟩ (fun h30 => ?_) (fun h30 => ?_)
        · refine aw_iconst dX9_placeOfKey_63 ?_
          refine aw_istore (ls2 := [_, _, _, _, _, _, _]) dX9_placeOfKey_64 (by decide) rfl ?_
          refine aw_iload dX9_placeOfKey_66 rfl ?_
          refine aw_if_eq (tgt := 76) dX9_placeOfKey_68 (by decide) ⟨by decide, by decide⟩ (fun h68 => ?_) (fun h68 => ?_)
          · refine aw_iload_n dX9_placeOfKey_76 rfl ?_
            refine aw_istore_n (ls2 := [_, _, _, _, _, _, _]) dX9_placeOfKey_77 (by decide) rfl ?_
            refine aw_iload dX9_placeOfKey_78 rfl ?_
            refine aw_if_eq (tgt := 95) dX9_placeOfKey_80 (by decide) ⟨by decide, by decide⟩ (fun h80 => ?_) (fun h80 => ?_)
            · refine aw_iload_n dX9_placeOfKey_95 rfl ?_
              refine aw_istore_n (ls2 := [_, _, _, _, _, _, _]) dX9_placeOfKey_96 (by decide) rfl ?_
              refine aw_iinc (ls2 := [_, _, _, _, _, _, _]) dX9_placeOfKey_97 rfl (by decide) rfl ?_
              refine aw_goto (tgt := 7) dX9_placeOfKey_100 (by decide) ?_
              have e : plA s key (k + 1) = plA s key k := by
                simp only [plA]
                rw [if_neg (by omega)]
              have g := fun v5 v6 => ih (k + 1) v5 v6 (by omega)
              simp only [e] at g
              exact g _ _
            · exact absurd h80 (by decide)
          · exact absurd h68 (by decide)
        · refine aw_aload_n dX9_placeOfKey_33 rfl ?_
          refine aw_getr (x := 126) dX9_placeOfKey_34 ci9 (by decide) fX9_7 (by decide) (by decide +kernel) rfl ((hHR 125 0 (by decide) (by decide +kernel)).trans rfl) ?_
          refine aw_iload dX9_placeOfKey_37 rfl ?_
          refine aw_iconst dX9_placeOfKey_39 ?_
          refine aw_iadd dX9_placeOfKey_40 ?_
          refine aw_iald (N := 256) dX9_placeOfKey_41 (Or.inl ⟨(by decide), (by decide +kernel)⟩) (by omega) (by omega) (by decide) (pa_gi 126 _ _ (by omega)) ?_
          refine aw_iload_n dX9_placeOfKey_42 rfl ?_
          refine aw_ic_ne (tgt := 63) dX9_placeOfKey_43 (by decide) (hM.r _ (by unfold xc; omega)) hkey (fun h43 => ?_) (fun h43 => ?_)
          · refine aw_iconst dX9_placeOfKey_63 ?_
            refine aw_istore (ls2 := [_, _, _, _, _, _, _]) dX9_placeOfKey_64 (by decide) rfl ?_
            refine aw_iload dX9_placeOfKey_66 rfl ?_
            refine aw_if_eq (tgt := 76) dX9_placeOfKey_68 (by decide) ⟨by decide, by decide⟩ (fun h68 => ?_) (fun h68 => ?_)
            · refine aw_iload_n dX9_placeOfKey_76 rfl ?_
              refine aw_istore_n (ls2 := [_, _, _, _, _, _, _]) dX9_placeOfKey_77 (by decide) rfl ?_
              refine aw_iload dX9_placeOfKey_78 rfl ?_
              refine aw_if_eq (tgt := 95) dX9_placeOfKey_80 (by decide) ⟨by decide, by decide⟩ (fun h80 => ?_) (fun h80 => ?_)
              · refine aw_iload_n dX9_placeOfKey_95 rfl ?_
                refine aw_istore_n (ls2 := [_, _, _, _, _, _, _]) dX9_placeOfKey_96 (by decide) rfl ?_
                refine aw_iinc (ls2 := [_, _, _, _, _, _, _]) dX9_placeOfKey_97 rfl (by decide) rfl ?_
                refine aw_goto (tgt := 7) dX9_placeOfKey_100 (by decide) ?_
                have e : plA s key (k + 1) = plA s key k := by
                  simp only [plA]
                  rw [if_neg (by omega)]
                have g := fun v5 v6 => ih (k + 1) v5 v6 (by omega)
                simp only [e] at g
                exact g _ _
              · exact absurd h80 (by decide)
            · exact absurd h68 (by decide)
          · refine aw_aload_n dX9_placeOfKey_46 rfl ?_
            refine aw_getr (x := 126) dX9_placeOfKey_47 ci9 (by decide) fX9_7 (by decide) (by decide +kernel) rfl ((hHR 125 0 (by decide) (by decide +kernel)).trans rfl) ?_
            refine aw_iload dX9_placeOfKey_50 rfl ?_
            refine aw_iconst dX9_placeOfKey_52 ?_
            refine aw_iadd dX9_placeOfKey_53 ?_
            refine aw_iald (N := 256) dX9_placeOfKey_54 (Or.inl ⟨(by decide), (by decide +kernel)⟩) (by omega) (by omega) (by decide) (pa_gi 126 _ _ (by omega)) ?_
            refine aw_iload_n dX9_placeOfKey_55 rfl ?_
            refine aw_ic_le (tgt := 63) dX9_placeOfKey_56 (by decide) (hM.r _ (by unfold xc; omega)) hst (fun h56 => ?_) (fun h56 => ?_)
            · refine aw_iconst dX9_placeOfKey_63 ?_
              refine aw_istore (ls2 := [_, _, _, _, _, _, _]) dX9_placeOfKey_64 (by decide) rfl ?_
              refine aw_iload dX9_placeOfKey_66 rfl ?_
              refine aw_if_eq (tgt := 76) dX9_placeOfKey_68 (by decide) ⟨by decide, by decide⟩ (fun h68 => ?_) (fun h68 => ?_)
              · refine aw_iload_n dX9_placeOfKey_76 rfl ?_
                refine aw_istore_n (ls2 := [_, _, _, _, _, _, _]) dX9_placeOfKey_77 (by decide) rfl ?_
                refine aw_iload dX9_placeOfKey_78 rfl ?_
                refine aw_if_eq (tgt := 95) dX9_placeOfKey_80 (by decide) ⟨by decide, by decide⟩ (fun h80 => ?_) (fun h80 => ?_)
                · refine aw_iload_n dX9_placeOfKey_95 rfl ?_
                  refine aw_istore_n (ls2 := [_, _, _, _, _, _, _]) dX9_placeOfKey_96 (by decide) rfl ?_
                  refine aw_iinc (ls2 := [_, _, _, _, _, _, _]) dX9_placeOfKey_97 rfl (by decide) rfl ?_
                  refine aw_goto (tgt := 7) dX9_placeOfKey_100 (by decide) ?_
                  have e : plA s key (k + 1) = plA s key k := by
                    simp only [plA]
                    rw [if_neg (by omega)]
                  have g := fun v5 v6 => ih (k + 1) v5 v6 (by omega)
                  simp only [e] at g
                  exact g _ _
                · exact absurd h80 (by decide)
              · exact absurd h68 (by decide)
            · refine aw_iconst dX9_placeOfKey_59 ?_
              refine aw_goto (tgt := 64) dX9_placeOfKey_60 (by decide) ?_
              refine aw_istore (ls2 := [_, _, _, _, _, _, _]) dX9_placeOfKey_64 (by decide) rfl ?_
              refine aw_iload dX9_placeOfKey_66 rfl ?_
              refine aw_if_eq (tgt := 76) dX9_placeOfKey_68 (by decide) ⟨by decide, by decide⟩ (fun h68 => ?_) (fun h68 => ?_)
              · exact absurd h68 (by decide)
              · refine aw_iload dX9_placeOfKey_71 rfl ?_
                refine aw_goto (tgt := 77) dX9_placeOfKey_73 (by decide) ?_
                refine aw_istore_n (ls2 := [_, _, _, _, _, _, _]) dX9_placeOfKey_77 (by decide) rfl ?_
                refine aw_iload dX9_placeOfKey_78 rfl ?_
                refine aw_if_eq (tgt := 95) dX9_placeOfKey_80 (by decide) ⟨by decide, by decide⟩ (fun h80 => ?_) (fun h80 => ?_)
                · exact absurd h80 (by decide)
                · refine aw_aload_n dX9_placeOfKey_83 rfl ?_
                  refine aw_getr (x := 126) dX9_placeOfKey_84 ci9 (by decide) fX9_7 (by decide) (by decide +kernel) rfl ((hHR 125 0 (by decide) (by decide +kernel)).trans rfl) ?_
                  refine aw_iload dX9_placeOfKey_87 rfl ?_
                  refine aw_iconst dX9_placeOfKey_89 ?_
                  refine aw_iadd dX9_placeOfKey_90 ?_
                  refine aw_iald (N := 256) dX9_placeOfKey_91 (Or.inl ⟨(by decide), (by decide +kernel)⟩) (by omega) (by omega) (by decide) (pa_gi 126 _ _ (by omega)) ?_
                  refine aw_goto (tgt := 96) dX9_placeOfKey_92 (by decide) ?_
                  refine aw_istore_n (ls2 := [_, _, _, _, _, _, _]) dX9_placeOfKey_96 (by decide) rfl ?_
                  refine aw_iinc (ls2 := [_, _, _, _, _, _, _]) dX9_placeOfKey_97 rfl (by decide) rfl ?_
                  refine aw_goto (tgt := 7) dX9_placeOfKey_100 (by decide) ?_
                  have e : plA s key (k + 1) = ((k : Int), s (atI k + 3)) := by
                    simp only [plA]
                    rw [if_pos ⟨h30, h43, by omega⟩]
                  have g := fun v5 v6 => ih (k + 1) v5 v6 (by omega)
                  simp only [e] at g
                  exact g _ _
  refine aw_iconst dX9_placeOfKey_0 ?_
  refine aw_istore_n (ls2 := [_, _, _, _, _, _, _]) dX9_placeOfKey_1 (by decide) rfl ?_
  refine aw_iconst dX9_placeOfKey_2 ?_
  refine aw_istore_n (ls2 := [_, _, _, _, _, _, _]) dX9_placeOfKey_3 (by decide) rfl ?_
  refine aw_iconst dX9_placeOfKey_4 ?_
  refine aw_istore (ls2 := [_, _, _, _, _, _, _]) dX9_placeOfKey_5 (by decide) rfl ?_
  exact loop 48 0 _ _ (by omega)
set_option maxRecDepth 100000 in
set_option maxHeartbeats 4000000 in
theorem c_X9_stampOf {key : Int} (hHR : HRk hr) (hM : MI s) (hkey : InR key) : AMet E M_X9_stampOf [aR 125, aI key] (pa 126 hi s) hr 131 (EX (some (aI (stF s key))) (pa 126 hi s) hr 131) := by
  refine am_of (by decide +kernel) (Nat.le_of_ble_eq_true rfl) ?_
  have hpl := plc_b s key
  refine aw_aload_n dX9_stampOf_0 rfl ?_
  refine aw_iload_n dX9_stampOf_1 rfl ?_
  refine aw_V1x dX9_stampOf_2 clX9_51 ⟨by decide, by decide⟩ (c := 9) (N := 11) (by decide) (by decide +kernel) rfl (c_X9_placeOfKey hHR hM hkey) (by decide) (by decide) rfl rfl (by simp only [List.length_cons, List.length_nil]; omega) ?_
  refine aw_istore_n (ls2 := [_, _, _]) dX9_stampOf_5 (by decide) rfl ?_
  refine aw_iload_n dX9_stampOf_6 rfl ?_
  refine aw_if_ge (tgt := 14) dX9_stampOf_7 (by decide) ⟨by omega, by omega⟩ (fun h7 => ?_) (fun h7 => ?_)
  · refine aw_aload_n dX9_stampOf_14 rfl ?_
    refine aw_getr (x := 126) dX9_stampOf_15 ci9 (by decide) fX9_7 (by decide) (by decide +kernel) rfl ((hHR 125 0 (by decide) (by decide +kernel)).trans rfl) ?_
    refine aw_aload_n dX9_stampOf_18 rfl ?_
    refine aw_iload_n dX9_stampOf_19 rfl ?_
    refine aw_V1x dX9_stampOf_20 clX9_44 ⟨by decide, by decide⟩ (c := 9) (N := 11) (by decide) (by decide +kernel) rfl (c_X9_atPlace (c := plc s key) (by omega) (by omega)) (by decide) (by decide) rfl rfl (by simp only [List.length_cons, List.length_nil]; omega) ?_
    refine aw_iconst dX9_stampOf_23 ?_
    refine aw_iadd dX9_stampOf_24 ?_
    refine aw_iald (N := 256) dX9_stampOf_25 (Or.inl ⟨(by decide), (by decide +kernel)⟩) (by have := atI_b (c := plc s key) (by omega) (by omega); omega) (by have := atI_b (c := plc s key) (by omega) (by omega); omega) (by decide) (pa_gi 126 _ _ (by have := atI_b (c := plc s key) (by omega) (by omega); omega)) ?_
    refine aw_iret dX9_stampOf_26 rfl (by decide) (by decide) ?_
    exact exI (by simp only [stF]; (repeat' split) <;> first | rfl | omega)
  · refine aw_iconst dX9_stampOf_10 ?_
    refine aw_goto (tgt := 26) dX9_stampOf_11 (by decide) ?_
    refine aw_iret dX9_stampOf_26 rfl (by decide) (by decide) ?_
    exact exI (by simp only [stF]; (repeat' split) <;> first | rfl | omega)
end TWIN1
end
section
/-! the twin's acts as functions of its row, and what they keep -/
def okU (s : Int → Int) (k v : Int) : Prop := (¬ xc k → 0 ≤ v ∧ v ≤ BIG) ∧ (k = 2 → v = 0 ∨ v = 1) ∧ (k = 11 → v ≤ 8) ∧ (k = 248 → v ≤ 15) ∧ (k = 23 → 1 ≤ v) ∧ (k = 1 → v = 0 ∨ v = 1) ∧ (k = 10 → v ≤ s 0) ∧ (k = 0 → s 10 ≤ v) ∧ (k = 6 → v ≤ 100000) ∧ (k = 7 → v ≤ 100000) ∧ (12 ≤ k → k < 24 → v ≤ 99) ∧ (k = 20 → 1 ≤ v) ∧ (k = 21 → 1 ≤ v)
theorem MI.up {s : Int → Int} (h : MI s) {k v : Int} (ho : okU s k v) : MI (up1 s k v) := by
  obtain ⟨a1, a2, a3, a4, a5, a6, a7, a8, a9, a10, a11, a12⟩ := h
  obtain ⟨o1, o2, o3, o4, o5, o6, o7, o8, o9, o10, o11, o12, o13⟩ := ho
  refine ⟨fun x hx => ?_, ?_, ?_, ?_, ?_, ?_, ?_, ?_, ?_, fun x h1 h2 => ?_, ?_, ?_⟩
  · unfold up1; split
    · next e => subst e; exact o1 hx
    · exact a1 x hx
  · unfold up1; split
    · next e => exact o2 e.symm
    · exact a2
  · unfold up1; split
    · next e => exact o3 e.symm
    · exact a3
  · unfold up1; split
    · next e => exact o4 e.symm
    · exact a4
  · unfold up1; split
    · next e => exact o5 e.symm
    · exact a5
  · unfold up1; split
    · next e => exact o6 e.symm
    · exact a6
  · unfold up1; split <;> split
    · omega
    · next e _ => exact o7 e.symm
    · next _ e => exact o8 e.symm
    · exact a7
  · unfold up1; split
    · next e => exact o9 e.symm
    · exact a8
  · unfold up1; split
    · next e => exact o10 e.symm
    · exact a9
  · unfold up1; split
    · next e => subst e; exact o11 h1 h2
    · exact a10 x h1 h2
  · unfold up1; split
    · next e => exact o12 e.symm
    · exact a11
  · unfold up1; split
    · next e => exact o13 e.symm
    · exact a12
/-- far entries: the range alone -/
theorem MI.far {s : Int → Int} (h : MI s) {k v : Int} (hk : 24 ≤ k) (hk2 : k ≠ 248) (h0 : 0 ≤ v) (h1 : v ≤ BIG) : MI (up1 s k v) :=
  h.up ⟨fun _ => ⟨h0, h1⟩, fun e => by omega, fun e => by omega, fun e => absurd e hk2, fun e => by omega, fun e => by omega, fun e => by omega, fun e => by omega, fun e => by omega, fun e => by omega, fun e1 e2 => by omega, fun e => by omega, fun e => by omega⟩
theorem MI.cnt {s : Int → Int} (h : MI s) {k v : Int} (hk : xc k) : MI (up1 s k v) := by
  unfold xc at hk
  exact h.up ⟨fun e => absurd hk (by unfold xc at e; exact e), fun e => by omega, fun e => by omega, fun e => by omega, fun e => by omega, fun e => by omega, fun e => by omega, fun e => by omega, fun e => by omega, fun e => by omega, fun e1 e2 => by omega, fun e => by omega, fun e => by omega⟩
theorem MI.b {s : Int → Int} (h : MI s) (x : Int) (hx : ¬ xc x) : s x ≤ BIG := (h.1 x hx).2
/-- n entries copied, upward -/
def cpA (s : Int → Int) (a b : Int) : Nat → Int → Int
  | 0 => s
  | i + 1 => up1 (cpA s a b i) (a + (i : Int)) (cpA s a b i (b + (i : Int)))
theorem cpA_at (s : Int → Int) (a b : Int) (n : Nat) (hd : b < a → b + n ≤ a) : ∀ i : Nat, i ≤ n → ∀ x, cpA s a b i x = if a ≤ x ∧ x < a + i then s (x - a + b) else s x := by
  intro i
  induction i with
  | zero => intro _ x; rw [if_neg (by omega)]; rfl
  | succ i ih =>
    intro hi x
    unfold cpA up1
    by_cases e : x = a + (i : Int)
    · rw [if_pos e, if_pos (by omega), ih (by omega), if_neg (by omega)]
      congr 1; omega
    · rw [if_neg e, ih (by omega)]
      by_cases e2 : a ≤ x ∧ x < a + i
      · rw [if_pos e2, if_pos (by omega)]
      · rw [if_neg e2, if_neg (by omega)]
theorem MI.cp {s : Int → Int} (h : MI s) {a b : Int} (n : Nat) (ha : 24 ≤ a) (hb : 24 ≤ b) (h8 : a + n ≤ 248 ∨ 248 < a) (hb2 : b + n ≤ 256) : MI (cpA s a b n) := by
  induction n with
  | zero => exact h
  | succ n ih =>
    have g := ih (by omega) (by omega)
    exact g.far (by omega) (by omega) (g.z _ (by unfold xc; omega)) (g.b _ (by unfold xc; omega))
/-- n entries cleared -/
def zA (s : Int → Int) (a : Int) : Nat → Int → Int
  | 0 => s
  | i + 1 => up1 (zA s a i) (a + (i : Int)) 0
theorem zA_at (s : Int → Int) (a : Int) : ∀ (i : Nat) (x : Int), zA s a i x = if a ≤ x ∧ x < a + i then 0 else s x := by
  intro i
  induction i with
  | zero => intro x; rw [if_neg (by omega)]; rfl
  | succ i ih =>
    intro x
    unfold zA up1
    by_cases e : x = a + (i : Int)
    · rw [if_pos e, if_pos (by omega)]
    · rw [if_neg e, ih]
      by_cases e2 : a ≤ x ∧ x < a + i
      · rw [if_pos e2, if_pos (by omega)]
      · rw [if_neg e2, if_neg (by omega)]
theorem MI.zz {s : Int → Int} (h : MI s) {a : Int} (n : Nat) (ha : 24 ≤ a) : MI (zA s a n) := by
  induction n with
  | zero => exact h
  | succ n ih =>
    unfold zA
    exact ih.up ⟨fun _ => ⟨by omega, by unfold BIG; omega⟩, fun e => by omega, fun e => by omega, fun e => by omega, fun e => by omega, fun e => by omega, fun e => by omega, fun e => by omega, fun e => by omega, fun e => by omega, fun e1 e2 => by omega, fun e => by omega, fun e => by omega⟩
/-- comes -/
def cmA (u : Int) : Nat → Int → (Int → Int) → (Int → Int) × Int
  | 0, k, s => (s, k)
  | d + 1, k, s => if 0 < k ∧ u < s (216 + 4 * (k - 1) + 2) then cmA u d (k + -1) (cpA s (216 + 4 * k) (216 + 4 * (k - 1)) 4) else (s, k)
def cmE (s : Int → Int) (k key val u stp : Int) : Int → Int :=
  up1 (up1 (up1 (up1 s (216 + 4 * k) key) (216 + 4 * k + 1) val) (216 + 4 * k + 2) u) (216 + 4 * k + 3) stp
def cmF (s : Int → Int) (key val u stp : Int) : Int → Int :=
  let q := cmA u 9 (s 11) s
  let t := cmE q.1 q.2 key val u stp
  up1 t 11 (t 11 + 1)
theorem cmA_b (u : Int) : ∀ (d : Nat) (k : Int) (s : Int → Int), 0 ≤ k → k ≤ 7 → MI s → MI (cmA u d k s).1 ∧ 0 ≤ (cmA u d k s).2 ∧ (cmA u d k s).2 ≤ k ∧ ∀ x, x < 216 ∨ 248 ≤ x → (cmA u d k s).1 x = s x := by
  intro d
  induction d with
  | zero => intro k s h0 h7 hM; exact ⟨hM, h0, Int.le_refl _, fun _ _ => rfl⟩
  | succ d ih =>
    intro k s h0 h7 hM
    unfold cmA
    split
    · next h =>
      have g := ih (k + -1) (cpA s (216 + 4 * k) (216 + 4 * (k - 1)) 4) (by omega) (by omega) (hM.cp 4 (by omega) (by omega) (by omega) (by omega))
      refine ⟨g.1, g.2.1, by omega, fun x hx => ?_⟩
      rw [g.2.2.2 x hx, cpA_at s _ _ 4 (by omega) 4 (by omega), if_neg (by omega)]
    · exact ⟨hM, h0, Int.le_refl _, fun _ _ => rfl⟩
theorem cmF_M {s : Int → Int} {key val u stp : Int} (h : MI s) (h7 : s 11 ≤ 7) (hk : 0 ≤ key ∧ key ≤ BIG) (hv : 0 ≤ val ∧ val ≤ BIG) (hu : 0 ≤ u ∧ u ≤ BIG) (hs : 0 ≤ stp ∧ stp ≤ BIG) : MI (cmF s key val u stp) := by
  have h0 := h.z 11 (by unfold xc; omega)
  obtain ⟨g1, g2, g3, g4⟩ := cmA_b u 9 (s 11) s h0 h7 h
  have e11 := g4 11 (by omega)
  have m4 : MI (cmE (cmA u 9 (s 11) s).1 (cmA u 9 (s 11) s).2 key val u stp) := by
    unfold cmE
    exact (((g1.far (by omega) (by omega) hk.1 hk.2).far (by omega) (by omega) hv.1 hv.2).far (by omega) (by omega) hu.1 hu.2).far (by omega) (by omega) hs.1 hs.2
  have e : cmE (cmA u 9 (s 11) s).1 (cmA u 9 (s 11) s).2 key val u stp 11 = s 11 := by
    unfold cmE up1
    rw [if_neg (by omega), if_neg (by omega), if_neg (by omega), if_neg (by omega), e11]
  unfold cmF
  refine m4.up ⟨fun _ => ?_, fun e => by omega, fun _ => ?_, fun e => by omega, fun e => by omega, fun e => by omega, fun e => by omega, fun e => by omega, fun e => by omega, fun e => by omega, fun e1 e2 => by omega, fun e => by omega, fun e => by omega⟩
  · rw [e]; unfold BIG; omega
  · rw [e]; omega
/-- goesFirst -/
def gfA (s : Int → Int) : Nat → Int → Int
  | 0 => s
  | j + 1 => up1 (gfA s j) (216 + (j : Int)) (gfA s j (216 + (j : Int) + 4))
theorem gfA_at (s : Int → Int) : ∀ (n : Nat) (x : Int), gfA s n x = if 216 ≤ x ∧ x < 216 + n then s (x + 4) else s x := by
  intro n
  induction n with
  | zero => intro x; rw [if_neg (by omega)]; rfl
  | succ n ih =>
    intro x
    unfold gfA up1
    by_cases e : x = 216 + (n : Int)
    · rw [if_pos e, if_pos (by omega), ih, if_neg (by omega), e]
    · rw [if_neg e, ih]
      by_cases e2 : 216 ≤ x ∧ x < 216 + (n : Int)
      · rw [if_pos e2, if_pos (by omega)]
      · rw [if_neg e2, if_neg (by omega)]
def gfF (s : Int → Int) : Int → Int :=
  zA (gfA (up1 s 11 (s 11 - 1)) (4 * (s 11 - 1)).toNat) (216 + 4 * (s 11 - 1)) 4
theorem gfF_at (s : Int → Int) (h : 0 < s 11) (x : Int) : gfF s x = if x = 11 then s 11 - 1 else if 216 ≤ x ∧ x < 216 + 4 * (s 11 - 1) then s (x + 4) else if 216 + 4 * (s 11 - 1) ≤ x ∧ x < 216 + 4 * (s 11 - 1) + 4 then 0 else s x := by
  unfold gfF
  rw [zA_at, gfA_at]
  have e : ((4 * (s 11 - 1)).toNat : Int) = 4 * (s 11 - 1) := by omega
  rw [e]
  unfold up1
  by_cases h1 : x = 11
  · rw [if_neg (by omega), if_neg (by omega), if_pos h1, if_pos h1]
  · rw [if_neg h1, if_neg h1]
    by_cases h2 : 216 ≤ x ∧ x < 216 + 4 * (s 11 - 1)
    · rw [if_pos h2, if_neg (by omega), if_pos h2, if_neg (by omega)]
    · rw [if_neg h2, if_neg h2]
      rfl
theorem gfA_M {s : Int → Int} (h : MI s) (n : Nat) (hn : n ≤ 28) : MI (gfA s n) := by
  induction n with
  | zero => exact h
  | succ n ih =>
    have g := ih (by omega)
    exact g.far (by omega) (by omega) (g.z _ (by unfold xc; omega)) (g.b _ (by unfold xc; omega))
theorem MI.w {s : Int → Int} (h : MI s) {v : Int} (h0 : 0 ≤ v) (h8 : v ≤ 8) : MI (up1 s 11 v) :=
  h.up ⟨fun _ => ⟨h0, by unfold BIG; omega⟩, fun e => by omega, fun _ => h8, fun e => by omega, fun e => by omega, fun e => by omega, fun e => by omega, fun e => by omega, fun e => by omega, fun e => by omega, fun e1 e2 => by omega, fun e => by omega, fun e => by omega⟩
theorem gfF_M {s : Int → Int} (h : MI s) (h0 : 0 < s 11) : MI (gfF s) := by
  have h8 := h.2.2.1
  unfold gfF
  exact (gfA_M (h.w (by omega) (by omega)) _ (by omega)).zz 4 (by omega)
def psF (s : Int → Int) : Int := if s 218 % 3 = 0 ∧ ¬ stF s (s 216) = s 219 then 1 else 0
def iwF (s : Int → Int) : Int := if 0 < s 254 ∨ 0 < s 253 then 1 else 0
/-- begin1 -/
def mkF (s : Int → Int) (p : Int) : Int := if lat p = 1 ∧ s 22 = 1 ∧ s (24 + 4 * (16 * s 2 + ear (lin p))) = 2 then 1 else 0
def bg1 (s : Int → Int) (p mk : Int) : Int → Int :=
  let s1 := up1 s 10 (s 10 + 1)
  let s2 := up1 s1 248 p
  let s3 := up1 s2 249 (s2 216)
  let s4 := up1 s3 250 (s3 217)
  let s5 := up1 s4 251 (s4 218)
  let s6 := up1 s5 252 (s5 10)
  up1 s6 253 (if mk = 1 then 2 else 0)
def bg2 (t : Int → Int) (b p lt : Int) : Int → Int :=
  let s8 := up1 t 254 (t (20 + lt) + t (12 + lin p) + t (6 + b) / t 23)
  let s9 := up1 s8 255 0
  up1 s9 (24 + 4 * (16 * b + p)) 1
def cp3 (s : Int → Int) (a e : Int) : Nat → Int → Int
  | 0 => s
  | i + 1 => up1 (cp3 s a e i) (a + ((i : Int) + 1)) (cp3 s a e i (e + ((i : Int) + 1)))
def bg3 (t : Int → Int) (b p mk : Int) : Int → Int :=
  if mk = 1 then cp3 (up1 t (152 + 4 * (8 * b + lin p)) 1) (152 + 4 * (8 * b + lin p)) (24 + 4 * (16 * b + ear (lin p))) 3 else t
def bgF (s : Int → Int) (p : Int) : Int → Int := gfF (bg3 (bg2 (bg1 s p (mkF s p)) (s 2) p (lat p)) (s 2) p (mkF s p))
def tkA (p : Int) : Nat → (Int → Int) → Int → Int
  | 0, s => s
  | d + 1, s => if p < 16 ∧ 0 < s 11 ∧ iwF s = 0 then tkA p d (if psF s = 1 then gfF s else bgF s p) else s
def tkF (s : Int → Int) : Int → Int := tkA (nxt s) 9 s
def clN (s : Int → Int) : Int → Int := zA s 248 8
def clB (s : Int → Int) (b l : Int) : Int → Int := zA s (152 + 4 * (8 * b + l)) 4
def en1 (s : Int → Int) : Int → Int :=
  let a := 24 + 4 * (16 * s 2 + s 248)
  let s1 := up1 s a 2
  let s2 := up1 s1 (a + 1) (s1 249)
  let s3 := up1 s2 (a + 2) (s2 250)
  up1 s3 (a + 3) (s3 252)
def en2 (t : Int → Int) (b p : Int) : Int → Int := if lat p = 1 then clB t b (lin p) else t
def enF (s : Int → Int) : Int → Int :=
  let t := en2 (en1 s) (s 2) (s 248)
  clN (up1 t 3 (t 3 + if t 251 % 3 = 0 then 0 else 1))
def ti1 (s : Int → Int) : Int → Int := let t := up1 s 0 (s 0 + 1); if iwF t = 0 then tkF t else t
def ti2 (s : Int → Int) : Int → Int :=
  if 0 < s 253 then
    let t := up1 s 253 (s 253 - 1)
    if t 253 = 0 then let u := up1 t (152 + 4 * (8 * t 2 + lin (t 248))) 2; up1 u 9 (u 9 + 1) else t
  else if 0 < s 254 then
    let t := up1 (up1 s 254 (s 254 - 1)) 255 1
    if t 254 = 0 then enF t else t
  else s
def tiF (s : Int → Int) : Int → Int := ti2 (ti1 s)
def goA (s : Int → Int) : Nat → Int → Int
  | 0 => s
  | k + 1 => tiF (goA s k)
theorem lin_b {p : Int} (h0 : 0 ≤ p) (h1 : p < 16) : 0 ≤ lin p ∧ lin p < 8 := by
  unfold lin
  split
  · omega
  · split <;> omega
theorem ear_b {l : Int} (h0 : 0 ≤ l) (h1 : l < 8) : 0 ≤ ear l ∧ ear l < 16 := by
  unfold ear
  split <;> omega
theorem lat_b (p : Int) : lat p = 0 ∨ lat p = 1 := by unfold lat; split <;> simp
theorem nxA_b (s : Int → Int) : ∀ (d : Nat) (p : Int), 0 ≤ p → p + d ≤ 16 → p ≤ nxA s d p ∧ nxA s d p ≤ 16 := by
  intro d
  induction d with
  | zero => intro p h0 h1; exact ⟨Int.le_refl _, by show p ≤ 16; omega⟩
  | succ d ih =>
    intro p h0 h1
    unfold nxA
    split
    · have := ih (p + 1) (by omega) (by omega); omega
    · omega
theorem nxt_b (s : Int → Int) : 0 ≤ nxt s ∧ nxt s ≤ 16 := nxA_b s 16 0 (by omega) (by omega)
end
section
/-! .. what they keep, and what each entry is behind begin1 and ends -/
theorem ediv_b {a d : Int} (h0 : 0 ≤ a) (h1 : 1 ≤ d) : 0 ≤ a / d ∧ a / d ≤ a := ⟨Int.ediv_nonneg h0 (by omega), Int.ediv_le_self d h0⟩
theorem bg1_M {s : Int → Int} (h : MI s) {p mk : Int} (h1 : s 10 + 1 ≤ s 0) (h2 : 0 ≤ p) (h3 : p ≤ 15) : MI (bg1 s p mk) := by
  have hb := h.b 0 (by unfold xc; omega)
  have hz := h.z 10 (by unfold xc; omega)
  have m1 : MI (up1 s 10 (s 10 + 1)) := h.up ⟨fun _ => ⟨by omega, by omega⟩, fun e => by omega, fun e => by omega, fun e => by omega, fun e => by omega, fun e => by omega, fun e => by omega, fun e => by omega, fun e => by omega, fun e => by omega, fun e1 e2 => by omega, fun e => by omega, fun e => by omega⟩
  have m2 : MI (up1 (up1 s 10 (s 10 + 1)) 248 p) := m1.up ⟨fun _ => ⟨by omega, by unfold BIG; omega⟩, fun e => by omega, fun e => by omega, fun e => by omega, fun e => by omega, fun e => by omega, fun e => by omega, fun e => by omega, fun e => by omega, fun e => by omega, fun e1 e2 => by omega, fun e => by omega, fun e => by omega⟩
  have m3 := m2.far (k := 249) (by omega) (by omega) (m2.z 216 (by unfold xc; omega)) (m2.b 216 (by unfold xc; omega))
  have m4 := m3.far (k := 250) (by omega) (by omega) (m3.z 217 (by unfold xc; omega)) (m3.b 217 (by unfold xc; omega))
  have m5 := m4.far (k := 251) (by omega) (by omega) (m4.z 218 (by unfold xc; omega)) (m4.b 218 (by unfold xc; omega))
  have m6 := m5.far (k := 252) (by omega) (by omega) (m5.z 10 (by unfold xc; omega)) (m5.b 10 (by unfold xc; omega))
  exact m6.far (k := 253) (by omega) (by omega) (by split <;> omega) (by unfold BIG; split <;> omega)
theorem bg2_M {t : Int → Int} (h : MI t) {b p lt : Int} (hb : b = 0 ∨ b = 1) (h2 : 0 ≤ p) (h3 : p ≤ 15) (hl : lt = 0 ∨ lt = 1) : MI (bg2 t b p lt) := by
  have hl8 := lin_b h2 (by omega)
  have e1 := h.z (20 + lt) (by unfold xc; omega)
  have e2 := h.2.2.2.2.2.2.2.2.2.1 (20 + lt) (by omega) (by omega)
  have e3 := h.z (12 + lin p) (by unfold xc; omega)
  have e4 := h.2.2.2.2.2.2.2.2.2.1 (12 + lin p) (by omega) (by omega)
  have e5 := h.z (6 + b) (by unfold xc; omega)
  have e6 : t (6 + b) ≤ 100000 := by
    rcases hb with rfl | rfl
    · exact h.2.2.2.2.2.2.2.1
    · exact h.2.2.2.2.2.2.2.2.1
  have e7 := ediv_b e5 h.2.2.2.2.1
  have m1 := h.far (k := 254) (v := t (20 + lt) + t (12 + lin p) + t (6 + b) / t 23) (by omega) (by omega) (by omega) (by unfold BIG; omega)
  have m2 := m1.far (k := 255) (v := 0) (by omega) (by omega) (by omega) (by unfold BIG; omega)
  exact m2.far (by omega) (by omega) (by omega) (by unfold BIG; omega)
theorem cp3_M {s : Int → Int} (h : MI s) {a e : Int} (n : Nat) (hn : n ≤ 3) (ha : 24 ≤ a) (ha2 : a ≤ 240) (he : 24 ≤ e) (he2 : e ≤ 240) : MI (cp3 s a e n) := by
  induction n with
  | zero => exact h
  | succ n ih =>
    have g := ih (by omega)
    exact g.far (by omega) (by omega) (g.z _ (by unfold xc; omega)) (g.b _ (by unfold xc; omega))
theorem bg3_M {t : Int → Int} (h : MI t) {b p mk : Int} (hb : b = 0 ∨ b = 1) (h2 : 0 ≤ p) (h3 : p ≤ 15) : MI (bg3 t b p mk) := by
  have hl8 := lin_b h2 (by omega)
  have he := ear_b hl8.1 hl8.2
  unfold bg3
  split
  · exact cp3_M (h.far (by omega) (by omega) (by omega) (by unfold BIG; omega)) 3 (by omega) (by omega) (by omega) (by omega) (by omega)
  · exact h
theorem cp3_at (s : Int → Int) (a e : Int) (hd : e + 3 < a ∨ a + 3 < e) : ∀ i : Nat, i ≤ 3 → ∀ x, cp3 s a e i x = if a < x ∧ x ≤ a + i then s (x - a + e) else s x := by
  intro i
  induction i with
  | zero => intro _ x; rw [if_neg (by omega)]; rfl
  | succ i ih =>
    intro hi x
    unfold cp3 up1
    by_cases h : x = a + ((i : Int) + 1)
    · rw [if_pos h, if_pos (by omega), ih (by omega), if_neg (by omega)]
      congr 1; omega
    · rw [if_neg h, ih (by omega)]
      by_cases e2 : a < x ∧ x ≤ a + i
      · rw [if_pos e2, if_pos (by omega)]
      · rw [if_neg e2, if_neg (by omega)]
def bgB (s : Int → Int) (p : Int) : Int → Int := bg3 (bg2 (bg1 s p (mkF s p)) (s 2) p (lat p)) (s 2) p (mkF s p)
theorem bg1_at (s : Int → Int) (p mk x : Int) : bg1 s p mk x = if x = 253 then (if mk = 1 then 2 else 0) else if x = 252 then s 10 + 1 else if x = 251 then s 218 else if x = 250 then s 217 else if x = 249 then s 216 else if x = 248 then p else if x = 10 then s 10 + 1 else s x := by
  simp [bg1, up1]
theorem bg2_at (t : Int → Int) (b p lt x : Int) (hp : 0 ≤ 16 * b + p) (hp2 : 16 * b + p < 32) : bg2 t b p lt x = if x = 24 + 4 * (16 * b + p) then 1 else if x = 255 then 0 else if x = 254 then t (20 + lt) + t (12 + lin p) + t (6 + b) / t 23 else t x := by
  simp only [bg2, up1]
theorem bgB_at {s : Int → Int} (h : MI s) {p : Int} (h2 : 0 ≤ p) (h3 : p ≤ 15) (x : Int) : bgB s p x =
    if mkF s p = 1 ∧ 152 + 4 * (8 * s 2 + lin p) ≤ x ∧ x < 152 + 4 * (8 * s 2 + lin p) + 4 then (if x = 152 + 4 * (8 * s 2 + lin p) then 1 else s (x - (152 + 4 * (8 * s 2 + lin p)) + (24 + 4 * (16 * s 2 + ear (lin p)))))
    else if x = 24 + 4 * (16 * s 2 + p) then 1 else if x = 255 then 0 else if x = 254 then s (20 + lat p) + s (12 + lin p) + s (6 + s 2) / s 23
    else if x = 253 then (if mkF s p = 1 then 2 else 0) else if x = 252 then s 10 + 1 else if x = 251 then s 218 else if x = 250 then s 217 else if x = 249 then s 216 else if x = 248 then p else if x = 10 then s 10 + 1 else s x := by
  have hb := h.2.1
  have hl8 := lin_b h2 (by omega)
  have he := ear_b hl8.1 hl8.2
  have hlt := lat_b p
  have r1 : ∀ x, 11 ≤ x → x < 248 → bg1 s p (mkF s p) x = s x := fun x a b => by
    rw [bg1_at]
    rw [if_neg (by omega), if_neg (by omega), if_neg (by omega), if_neg (by omega), if_neg (by omega), if_neg (by omega), if_neg (by omega)]
  have r2 : bg1 s p (mkF s p) (6 + s 2) = s (6 + s 2) := by
    rw [bg1_at]
    rw [if_neg (by omega), if_neg (by omega), if_neg (by omega), if_neg (by omega), if_neg (by omega), if_neg (by omega), if_neg (by omega)]
  unfold bgB bg3
  by_cases hm : mkF s p = 1
  · rw [if_pos hm, cp3_at _ _ _ (by omega) 3 (by omega)]
    by_cases c1 : 152 + 4 * (8 * s 2 + lin p) < x ∧ x ≤ 152 + 4 * (8 * s 2 + lin p) + ((3 : Nat) : Int)
    · rw [if_pos c1, if_pos ⟨hm, by omega, by omega⟩, if_neg (by omega)]
      unfold up1
      rw [if_neg (by omega), bg2_at _ _ _ _ _ (by omega) (by omega), if_neg (by omega), if_neg (by omega), if_neg (by omega), r1 _ (by omega) (by omega)]
    · rw [if_neg c1]
      unfold up1
      by_cases c2 : x = 152 + 4 * (8 * s 2 + lin p)
      · rw [if_pos c2, if_pos ⟨hm, by omega, by omega⟩, if_pos c2]
      · rw [if_neg c2, if_neg (by omega), bg2_at _ _ _ _ _ (by omega) (by omega), r1 _ (by omega) (by omega), r1 (12 + lin p) (by omega) (by omega), r1 23 (by omega) (by omega), r2, bg1_at]
  · rw [if_neg hm, if_neg (by omega), bg2_at _ _ _ _ _ (by omega) (by omega), r1 _ (by omega) (by omega), r1 (12 + lin p) (by omega) (by omega), r1 23 (by omega) (by omega), r2, bg1_at]
theorem bgB_M {s : Int → Int} (h : MI s) {p : Int} (h1 : s 10 + 1 ≤ s 0) (h2 : 0 ≤ p) (h3 : p ≤ 15) : MI (bgB s p) :=
  bg3_M (bg2_M (bg1_M h h1 h2 h3) h.2.1 h2 h3 (lat_b p)) h.2.1 h2 h3
theorem bgF_e (s : Int → Int) (p : Int) : bgF s p = gfF (bgB s p) := rfl
theorem bgB_11 {s : Int → Int} (h : MI s) {p : Int} (h2 : 0 ≤ p) (h3 : p ≤ 15) : bgB s p 11 = s 11 := by
  have hb := h.2.1
  have hl8 := lin_b h2 (by omega)
  rw [bgB_at h h2 h3]
  simp only [if_neg (show ¬ (mkF s p = 1 ∧ 152 + 4 * (8 * s 2 + lin p) ≤ 11 ∧ (11 : Int) < 152 + 4 * (8 * s 2 + lin p) + 4) by omega), if_neg (show ¬ (11 : Int) = 24 + 4 * (16 * s 2 + p) by omega)]
  simp
theorem bgF_M {s : Int → Int} (h : MI s) {p : Int} (h1 : s 10 + 1 ≤ s 0) (h2 : 0 ≤ p) (h3 : p ≤ 15) (h4 : 0 < s 11) : MI (bgF s p) := by
  rw [bgF_e]
  exact gfF_M (bgB_M h h1 h2 h3) (by rw [bgB_11 h h2 h3]; exact h4)
theorem bgF_at {s : Int → Int} (h : MI s) {p : Int} (h2 : 0 ≤ p) (h3 : p ≤ 15) (h4 : 0 < s 11) (x : Int) : bgF s p x = if x = 11 then s 11 - 1 else if 216 ≤ x ∧ x < 216 + 4 * (s 11 - 1) then s (x + 4) else if 216 + 4 * (s 11 - 1) ≤ x ∧ x < 216 + 4 * (s 11 - 1) + 4 then 0 else bgB s p x := by
  have e11 := bgB_11 h h2 h3
  have hb := h.2.1
  have hl8 := lin_b h2 (by omega)
  have h8 := h.2.2.1
  rw [bgF_e, gfF_at _ (by rw [e11]; exact h4), e11]
  by_cases c1 : x = 11
  · rw [if_pos c1, if_pos c1]
  · rw [if_neg c1, if_neg c1]
    by_cases c2 : 216 ≤ x ∧ x < 216 + 4 * (s 11 - 1)
    · rw [if_pos c2, if_pos c2, bgB_at h h2 h3]
      rw [if_neg (by omega), if_neg (by omega), if_neg (by omega), if_neg (by omega), if_neg (by omega), if_neg (by omega), if_neg (by omega), if_neg (by omega), if_neg (by omega), if_neg (by omega), if_neg (by omega)]
    · rw [if_neg c2, if_neg c2]
theorem bgF_0 {s : Int → Int} (h : MI s) {p : Int} (h2 : 0 ≤ p) (h3 : p ≤ 15) (h4 : 0 < s 11) : bgF s p 0 = s 0 := by
  have hb := h.2.1
  have hl8 := lin_b h2 (by omega)
  rw [bgF_at h h2 h3 h4, if_neg (by omega), if_neg (by omega), if_neg (by omega), bgB_at h h2 h3]
  rw [if_neg (by omega), if_neg (by omega), if_neg (by omega), if_neg (by omega), if_neg (by omega), if_neg (by omega), if_neg (by omega), if_neg (by omega), if_neg (by omega), if_neg (by omega), if_neg (by omega)]
theorem bgF_254 {s : Int → Int} (h : MI s) {p : Int} (h2 : 0 ≤ p) (h3 : p ≤ 15) (h4 : 0 < s 11) : 0 < bgF s p 254 := by
  have hb := h.2.1
  have hl8 := lin_b h2 (by omega)
  have h8 := h.2.2.1
  rw [bgF_at h h2 h3 h4, if_neg (by omega), if_neg (by omega), if_neg (by omega), bgB_at h h2 h3]
  rw [if_neg (by omega), if_neg (by omega), if_neg (by omega), if_pos rfl]
  have e0 : 1 ≤ s (20 + lat p) := by rcases lat_b p with q | q <;> rw [q]; exact h.2.2.2.2.2.2.2.2.2.2.1; exact h.2.2.2.2.2.2.2.2.2.2.2
  have e3 := h.z (12 + lin p) (by unfold xc; omega)
  have e5 := h.z (6 + s 2) (by unfold xc; omega)
  have e7 := ediv_b e5 h.2.2.2.2.1
  omega
theorem gfF_x {s : Int → Int} (h4 : 0 < s 11) {x : Int} (h1 : x ≠ 11) (h2 : x < 216) : gfF s x = s x := by
  rw [gfF_at s h4, if_neg h1, if_neg (by omega), if_neg (by omega)]
theorem gfF_x2 {s : Int → Int} (h4 : 0 < s 11) (h8 : s 11 ≤ 8) {x : Int} (h2 : 248 ≤ x) : gfF s x = s x := by
  rw [gfF_at s h4, if_neg (by omega), if_neg (by omega), if_neg (by omega)]
theorem iw_b (s : Int → Int) : iwF s = 0 ∨ iwF s = 1 := by unfold iwF; split <;> simp
theorem ps_b (s : Int → Int) : psF s = 0 ∨ psF s = 1 := by unfold psF; split <;> simp
theorem iw_1 {s : Int → Int} (h : 0 < s 254) : iwF s = 1 := by unfold iwF; rw [if_pos (Or.inl h)]
theorem tkA_M {p : Int} (hp : 0 ≤ p) : ∀ (d : Nat) (s : Int → Int), MI s → (s 10 + 1 ≤ s 0 ∨ iwF s = 1) → MI (tkA p d s) ∧ tkA p d s 0 = s 0 := by
  intro d
  induction d with
  | zero => intro s h _; exact ⟨h, rfl⟩
  | succ d ih =>
    intro s h h1
    unfold tkA
    split
    · next c =>
      have h1 : s 10 + 1 ≤ s 0 := by
        rcases h1 with g | g
        · exact g
        · rw [c.2.2] at g; exact absurd g (by decide)
      by_cases hp1 : psF s = 1
      · rw [if_pos hp1]
        have g := ih (gfF s) (gfF_M h c.2.1) (Or.inl (by rw [gfF_x c.2.1 (by omega) (by omega), gfF_x c.2.1 (by omega) (by omega)]; exact h1))
        rw [gfF_x c.2.1 (by omega) (by omega)] at g
        exact g
      · rw [if_neg hp1]
        have g := ih (bgF s p) (bgF_M h h1 hp (by omega) c.2.1) (Or.inr (iw_1 (bgF_254 h hp (by omega) c.2.1)))
        rw [bgF_0 h hp (by omega) c.2.1] at g
        exact g
    · exact ⟨h, rfl⟩
theorem MI.time {s : Int → Int} (h : MI s) (hb : s 0 + 1 ≤ BIG) : MI (up1 s 0 (s 0 + 1)) := by
  have h0 := h.z 0 (by unfold xc; omega)
  have h10 := h.2.2.2.2.2.2.1
  exact h.up ⟨fun _ => ⟨by omega, by omega⟩, fun e => by omega, fun e => by omega, fun e => by omega, fun e => by omega, fun e => by omega, fun e => by omega, fun _ => by omega, fun e => by omega, fun e => by omega, fun e1 e2 => by omega, fun e => by omega, fun e => by omega⟩
theorem ti1_M {s : Int → Int} (h : MI s) (hb : s 0 + 1 ≤ BIG) : MI (ti1 s) ∧ ti1 s 0 = s 0 + 1 := by
  have h10 := h.2.2.2.2.2.2.1
  have m := h.time hb
  have e0 : up1 s 0 (s 0 + 1) 0 = s 0 + 1 := up1_s _ _ _
  have e10 : up1 s 0 (s 0 + 1) 10 = s 10 := up1_n _ _ (by omega)
  unfold ti1
  dsimp only
  split
  · have g := tkA_M (nxt_b (up1 s 0 (s 0 + 1))).1 9 _ m (Or.inl (by rw [e0, e10]; omega))
    exact ⟨g.1, g.2.trans e0⟩
  · exact ⟨m, e0⟩
theorem clB_M {s : Int → Int} (h : MI s) {b l : Int} (hb : b = 0 ∨ b = 1) (hl : 0 ≤ l ∧ l < 8) : MI (clB s b l) := h.zz 4 (by omega)
theorem clN_M {s : Int → Int} (h : MI s) : MI (clN s) := h.zz 8 (by omega)
theorem en1_M {s : Int → Int} (h : MI s) : MI (en1 s) := by
  have hb := h.2.1
  have hp := h.2.2.2.1
  have h0 := h.z 248 (by unfold xc; omega)
  have m1 := h.far (k := 24 + 4 * (16 * s 2 + s 248)) (v := 2) (by omega) (by omega) (by omega) (by unfold BIG; omega)
  have m2 := m1.far (k := 24 + 4 * (16 * s 2 + s 248) + 1) (by omega) (by omega) (m1.z 249 (by unfold xc; omega)) (m1.b 249 (by unfold xc; omega))
  have m3 := m2.far (k := 24 + 4 * (16 * s 2 + s 248) + 2) (by omega) (by omega) (m2.z 250 (by unfold xc; omega)) (m2.b 250 (by unfold xc; omega))
  exact m3.far (k := 24 + 4 * (16 * s 2 + s 248) + 3) (by omega) (by omega) (m3.z 252 (by unfold xc; omega)) (m3.b 252 (by unfold xc; omega))
theorem en1_x {s : Int → Int} (h : MI s) {x : Int} (hx : x < 24 ∨ 152 ≤ x) : en1 s x = s x := by
  have hb := h.2.1
  have hp := h.2.2.2.1
  have h0 := h.z 248 (by unfold xc; omega)
  simp only [en1, up1]
  rw [if_neg (by omega), if_neg (by omega), if_neg (by omega), if_neg (by omega)]
theorem enF_M {s : Int → Int} (h : MI s) : MI (enF s) ∧ enF s 0 = s 0 := by
  have hp := h.2.2.2.1
  have h0 := h.z 248 (by unfold xc; omega)
  have hb := h.2.1
  have hl8 := lin_b h0 (by omega)
  have m := en1_M h
  have m2 : MI (en2 (en1 s) (s 2) (s 248)) := by
    unfold en2; split
    · exact clB_M m hb hl8
    · exact m
  refine ⟨clN_M (m2.cnt (by unfold xc; omega)), ?_⟩
  simp only [enF, clN]
  rw [zA_at, if_neg (by omega), up1_n _ _ (by omega)]
  unfold en2
  split
  · unfold clB; rw [zA_at, if_neg (by omega), en1_x h (by omega)]
  · rw [en1_x h (by omega)]
theorem ti2_M {s : Int → Int} (h : MI s) : MI (ti2 s) ∧ ti2 s 0 = s 0 := by
  have hb := h.2.1
  have hp := h.2.2.2.1
  have h0 := h.z 248 (by unfold xc; omega)
  have hl8 := lin_b h0 (by omega)
  unfold ti2
  dsimp only
  split
  · next c =>
    have m1 := h.far (k := 253) (v := s 253 - 1) (by omega) (by omega) (by omega) (by have := h.b 253 (by unfold xc; omega); omega)
    split
    · have e2 : up1 s 253 (s 253 - 1) 2 = s 2 := up1_n _ _ (by omega)
      have e3 : up1 s 253 (s 253 - 1) 248 = s 248 := up1_n _ _ (by omega)
      rw [e2, e3]
      have m2 := m1.far (k := 152 + 4 * (8 * s 2 + lin (s 248))) (v := 2) (by omega) (by omega) (by omega) (by unfold BIG; omega)
      exact ⟨m2.cnt (by unfold xc; omega), by rw [up1_n _ _ (by omega), up1_n _ _ (by omega), up1_n _ _ (by omega)]⟩
    · exact ⟨m1, up1_n _ _ (by omega)⟩
  · split
    · next c =>
      have m1 := h.far (k := 254) (v := s 254 - 1) (by omega) (by omega) (by omega) (by have := h.b 254 (by unfold xc; omega); omega)
      have m2 := m1.far (k := 255) (v := 1) (by omega) (by omega) (by omega) (by unfold BIG; omega)
      have e0 : up1 (up1 s 254 (s 254 - 1)) 255 1 0 = s 0 := by rw [up1_n _ _ (by omega), up1_n _ _ (by omega)]
      split
      · have g := enF_M m2
        exact ⟨g.1, g.2.trans e0⟩
      · exact ⟨m2, e0⟩
    · exact ⟨h, rfl⟩
theorem tiF_M {s : Int → Int} (h : MI s) (hb : s 0 + 1 ≤ BIG) : MI (tiF s) ∧ tiF s 0 = s 0 + 1 := by
  have g := ti1_M h hb
  have g2 := ti2_M g.1
  exact ⟨g2.1, g2.2.trans g.2⟩
theorem goA_M {s : Int → Int} (h : MI s) : ∀ k : Nat, s 0 + k ≤ BIG → MI (goA s k) ∧ goA s k 0 = s 0 + k := by
  intro k
  induction k with
  | zero => intro _; exact ⟨h, by show s 0 = s 0 + ((0 : Nat) : Int); omega⟩
  | succ k ih =>
    intro hk
    have g := ih (by omega)
    have g2 := tiF_M g.1 (by rw [g.2]; omega)
    exact ⟨g2.1, by show tiF (goA s k) 0 = _; rw [g2.2, g.2]; omega⟩
end
section
/-! the twin's other acts: power, blocks, requests -/
def taF (s : Int → Int) (b p : Int) : Int → Int :=
  let a := 24 + 4 * (16 * b + p)
  up1 (up1 (up1 (up1 s a 3) (a + 1) 0) (a + 2) 0) (a + 3) 0
def br1 (s : Int → Int) : Int → Int := up1 s 4 (s 4 + (s 11 + iwF s))
def br2a (s : Int → Int) : Int → Int := if 0 < taF s (s 2) (s 248) 253 then clB (taF s (s 2) (s 248)) (s 2) (lin (s 248)) else taF s (s 2) (s 248)
def br2b (t : Int → Int) (b e : Int) : Int → Int := if lat (t 248) = 1 ∧ t 255 = 1 then taF t b e else t
def br2 (s : Int → Int) : Int → Int := if iwF s = 1 then br2b (br2a s) (s 2) (ear (lin (s 248))) else s
def rcA : Nat → (Int → Int) → Int → Int
  | 0, s => s
  | d + 1, s => if 0 < s 11 then rcA d (gfF s) else s
def br5 (s : Int → Int) : Int → Int := let t := up1 s 1 1; up1 t 8 (t 8 + 1)
def brS (s : Int → Int) : Int → Int := br5 (rcA 9 (clN (br2 (br1 s))))
def lsA (st t : Int → Int) : Nat → Nat
  | 0 => 0
  | k + 1 => lsA st t k ||| (if 0 < st (k : Int) ∧ ¬ stF t (k : Int) = st (k : Int) then 1 <<< k else 0)
def lsF (s : Int → Int) : Nat := lsA (stF s) (brS s) 12
def onA (a : Nat) : Nat → Int
  | 0 => 0
  | k + 1 => onA a k + (((a / 2 ^ k) &&& 1 : Nat) : Int)
def ofF (s : Int → Int) : Int × (Int → Int) := if s 1 = 1 then (-2, s) else (onA (lsF s) 12, up1 (brS s) 5 (brS s 5 + onA (lsF s) 12))
def ipF (s : Int → Int) (c : Int) : Int := if s (atI c) = 2 ∧ plc s (s (atI c + 1)) = c then 1 else 0
def cpF (s : Int → Int) (c u : Int) : Int → Int := cmF s (s (atI c + 1)) (s (atI c + 2)) u (s (atI c + 3))
def opA (s : Int → Int) : Nat → Int → Int
  | 0 => s
  | k + 1 => if 16 ≤ (k : Int) % 24 ∧ opA s k 11 < 8 ∧ ipF (opA s k) (k : Int) = 1 then cpF (opA s k) (k : Int) 0 else opA s k
def opF (s : Int → Int) : Int × (Int → Int) := if s 1 = 1 then (opA (up1 s 1 0) 48 11, opA (up1 s 1 0) 48) else (-2, s)
def asF (s : Int → Int) (key val urg : Int) : Int × (Int → Int) :=
  if ¬ (0 ≤ key ∧ key ≤ 11) ∨ ¬ (0 ≤ val ∧ val ≤ 999) ∨ ¬ (0 ≤ urg ∧ urg ≤ 1) then (-1, s)
  else if s 1 = 1 then (-2, s) else if s 11 = 8 then (-3, s) else (cmF s key val (2 - urg) 0 11, cmF s key val (2 - urg) 0)
def ltF (s : Int → Int) (many : Int) : Int × (Int → Int) :=
  if ¬ (1 ≤ many ∧ many ≤ 200) then (-1, s) else if s 1 = 1 then (-2, s) else if 9000 < s 0 + many then (-3, s) else (goA s many.toNat 3 - s 3, goA s many.toNat)
def chF (s : Int → Int) : Int × (Int → Int) :=
  if s 1 = 1 ∨ iwF s = 1 ∨ blA s (1 - s 2) 16 = 0 then (-2, s) else (1 - s 2, up1 s 2 (1 - s 2))
def ctA (s : Int → Int) (b : Int) : Nat → Int
  | 0 => 0
  | k + 1 => ctA s b k + ipF s (24 * b + (k : Int))
def clA (s : Int → Int) (b : Int) : Nat → Int → Int
  | 0 => s
  | k + 1 => if ipF (clA s b k) (24 * b + (k : Int)) = 1 then cpF (clA s b k) (24 * b + (k : Int)) 3 else clA s b k
def clF (s : Int → Int) (b : Int) : Int × (Int → Int) :=
  if ¬ (0 ≤ b ∧ b ≤ 1) then (-1, s) else if s 1 = 1 ∨ b = s 2 then (-2, s) else if 8 < s 11 + ctA s b 24 then (-3, s) else (ctA s b 24, clA s b 24)
def myA (s : Int → Int) (b m0 : Int) : Nat → Int
  | 0 => m0
  | k + 1 => if myA s b m0 k = 1 ∧ ipF s (24 * b + (k : Int)) = 0 then 1 else 0
def cbA (s : Int → Int) (b : Int) : Nat → Int → Int
  | 0 => s
  | k + 1 => clB (cbA s b k) b (k : Int)
def er1 (s : Int → Int) (b : Int) : Int → Int := cbA (zA s (24 + 4 * (16 * b + 0)) 64) b 8
def erF (s : Int → Int) (b : Int) : Int × (Int → Int) :=
  if ¬ (0 ≤ b ∧ b ≤ 1) then (-1, s) else if myA s b (if s 1 = 1 ∨ b = s 2 then 0 else 1) 24 = 0 then (-2, s)
  else (er1 s b (6 + b) + 1, up1 (er1 s b) (6 + b) (er1 s b (6 + b) + 1))
def slF (s : Int → Int) (w t : Int) : Int × (Int → Int) := if 0 ≤ w ∧ w ≤ 7 ∧ 0 ≤ t ∧ t ≤ 5 then (s (12 + w), up1 s (12 + w) t) else (-1, s)
def moF (w : Int) : Int := if w = 0 then 9 else if w = 1 then 20 else if w = 2 then 1 else 99
def seF (s : Int → Int) (w v : Int) : Int × (Int → Int) := if 0 ≤ w ∧ w ≤ 3 ∧ (if w = 2 then 0 else 1) ≤ v ∧ v ≤ moF w then (s (20 + w), up1 s (20 + w) v) else (-1, s)
theorem taF_M {s : Int → Int} (h : MI s) {b p : Int} (hb : b = 0 ∨ b = 1) (h0 : 0 ≤ p) (h1 : p ≤ 15) : MI (taF s b p) := by
  have m1 := h.far (k := 24 + 4 * (16 * b + p)) (v := 3) (by omega) (by omega) (by omega) (by unfold BIG; omega)
  have m2 := m1.far (k := 24 + 4 * (16 * b + p) + 1) (v := 0) (by omega) (by omega) (by omega) (by unfold BIG; omega)
  have m3 := m2.far (k := 24 + 4 * (16 * b + p) + 2) (v := 0) (by omega) (by omega) (by omega) (by unfold BIG; omega)
  exact m3.far (k := 24 + 4 * (16 * b + p) + 3) (v := 0) (by omega) (by omega) (by omega) (by unfold BIG; omega)
theorem taF_x (s : Int → Int) {b p x : Int} (hb : b = 0 ∨ b = 1) (h0 : 0 ≤ p) (h1 : p ≤ 15) (hx : x < 24 ∨ 152 ≤ x) : taF s b p x = s x := by
  simp only [taF, up1]
  rw [if_neg (by omega), if_neg (by omega), if_neg (by omega), if_neg (by omega)]
theorem br1_M {s : Int → Int} (h : MI s) : MI (br1 s) := h.cnt (by unfold xc; omega)
theorem br1_x (s : Int → Int) {x : Int} (hx : x ≠ 4) : br1 s x = s x := up1_n _ _ hx
theorem br2_M {s : Int → Int} (h : MI s) : MI (br2 s) := by
  have hb := h.2.1
  have h0 := h.z 248 (by unfold xc; omega)
  have h1 := h.2.2.2.1
  have hl := lin_b h0 (by omega)
  have he := ear_b hl.1 hl.2
  unfold br2
  split
  · have m1 := taF_M h hb h0 h1
    have m2 : MI (br2a s) := by
      unfold br2a
      split
      · exact clB_M m1 hb hl
      · exact m1
    unfold br2b
    split
    · exact taF_M m2 hb he.1 (by omega)
    · exact m2
  · exact h
theorem br2_x {s : Int → Int} (h : MI s) {x : Int} (hx : x < 24 ∨ 216 ≤ x) : br2 s x = s x := by
  have hb := h.2.1
  have h0 := h.z 248 (by unfold xc; omega)
  have h1 := h.2.2.2.1
  have hl := lin_b h0 (by omega)
  have he := ear_b hl.1 hl.2
  have e1 : ∀ y, y < 24 ∨ 216 ≤ y → taF s (s 2) (s 248) y = s y := fun y hy => taF_x s hb h0 h1 (by omega)
  have e2 : ∀ y, y < 24 ∨ 216 ≤ y → br2a s y = s y := fun y hy => by
    unfold br2a
    split
    · unfold clB; rw [zA_at, if_neg (by omega), e1 y hy]
    · exact e1 y hy
  unfold br2
  split
  · unfold br2b
    split
    · rw [taF_x _ hb he.1 (by omega) (by omega), e2 x hx]
    · exact e2 x hx
  · rfl
theorem rcA_M : ∀ (d : Nat) (s : Int → Int), MI s → MI (rcA d s) := by
  intro d
  induction d with
  | zero => intro s h; exact h
  | succ d ih =>
    intro s h
    unfold rcA
    split
    · next c => exact ih _ (gfF_M h c)
    · exact h
theorem br5_M {s : Int → Int} (h : MI s) : MI (br5 s) := by
  have m1 : MI (up1 s 1 1) := h.up ⟨fun _ => ⟨by omega, by unfold BIG; omega⟩, fun e => by omega, fun e => by omega, fun e => by omega, fun e => by omega, fun _ => Or.inr rfl, fun e => by omega, fun e => by omega, fun e => by omega, fun e => by omega, fun e1 e2 => by omega, fun e => by omega, fun e => by omega⟩
  exact m1.cnt (by unfold xc; omega)
theorem brS_M {s : Int → Int} (h : MI s) : MI (brS s) := br5_M (rcA_M 9 _ (clN_M (br2_M (br1_M h))))
theorem cpF_M {s : Int → Int} (h : MI s) (h7 : s 11 ≤ 7) {c u : Int} (h0 : 0 ≤ c) (h1 : c < 48) (hu : 0 ≤ u ∧ u ≤ 3) : MI (cpF s c u) := by
  have hb := atI_b h0 h1
  exact cmF_M h h7 ⟨h.z _ (by unfold xc; omega), h.b _ (by unfold xc; omega)⟩ ⟨h.z _ (by unfold xc; omega), h.b _ (by unfold xc; omega)⟩ ⟨hu.1, by unfold BIG; omega⟩ ⟨h.z _ (by unfold xc; omega), h.b _ (by unfold xc; omega)⟩
theorem cmF_x {s : Int → Int} (h : MI s) (h7 : s 11 ≤ 7) (key val u stp : Int) {x : Int} (hx : x < 216 ∨ 248 ≤ x) (h11 : x ≠ 11) : cmF s key val u stp x = s x := by
  have h0 := h.z 11 (by unfold xc; omega)
  obtain ⟨g1, g2, g3, g4⟩ := cmA_b u 9 (s 11) s h0 h7 h
  simp only [cmF, cmE]
  rw [up1_n _ _ h11, up1_n _ _ (by omega), up1_n _ _ (by omega), up1_n _ _ (by omega), up1_n _ _ (by omega), g4 x hx]
theorem cmF_11 {s : Int → Int} (h : MI s) (h7 : s 11 ≤ 7) (key val u stp : Int) : cmF s key val u stp 11 = s 11 + 1 := by
  have h0 := h.z 11 (by unfold xc; omega)
  obtain ⟨g1, g2, g3, g4⟩ := cmA_b u 9 (s 11) s h0 h7 h
  simp only [cmF, cmE]
  rw [up1_s, up1_n _ _ (by omega), up1_n _ _ (by omega), up1_n _ _ (by omega), up1_n _ _ (by omega), g4 11 (by omega)]
theorem opA_M {s : Int → Int} (h : MI s) : ∀ k : Nat, k ≤ 48 → MI (opA s k) := by
  intro k
  induction k with
  | zero => intro _; exact h
  | succ k ih =>
    intro hk
    unfold opA
    split
    · next c => exact cpF_M (ih (by omega)) (by omega) (by omega) (by omega) (by omega)
    · exact ih (by omega)
/-- what the places say rests on the pages and backups alone -/
theorem plA_cong {s t : Int → Int} (h : ∀ x, 24 ≤ x → x < 216 → s x = t x) (key : Int) : ∀ k : Nat, k ≤ 48 → plA s key k = plA t key k := by
  intro k
  induction k with
  | zero => intro _; rfl
  | succ k ih =>
    intro hk
    have hb := atI_b (c := (k : Int)) (by omega) (by omega)
    unfold plA
    rw [ih (by omega), h _ (by omega) (by omega), h (atI k + 1) (by omega) (by omega), h (atI k + 3) (by omega) (by omega)]
theorem plc_cong {s t : Int → Int} (h : ∀ x, 24 ≤ x → x < 216 → s x = t x) (key : Int) : plc s key = plc t key := by unfold plc; rw [plA_cong h key 48 (by omega)]
theorem stF_cong {s t : Int → Int} (h : ∀ x, 24 ≤ x → x < 216 → s x = t x) (key : Int) : stF s key = stF t key := by
  unfold stF
  rw [plc_cong h key]
  split
  · rfl
  · rcases plc_b t key with g | g
    · omega
    · have hb := atI_b g.1 g.2
      exact h _ (by omega) (by omega)
theorem ipF_cong {s t : Int → Int} (h : ∀ x, 24 ≤ x → x < 216 → s x = t x) {c : Int} (h0 : 0 ≤ c) (h1 : c < 48) : ipF s c = ipF t c := by
  have hb := atI_b h0 h1
  unfold ipF
  rw [h _ (by omega) (by omega), h (atI c + 1) (by omega) (by omega), plc_cong h]
theorem ip_b (s : Int → Int) (c : Int) : ipF s c = 0 ∨ ipF s c = 1 := by unfold ipF; split <;> simp
theorem ctA_b (s : Int → Int) (b : Int) : ∀ k : Nat, 0 ≤ ctA s b k ∧ ctA s b k ≤ k := by
  intro k
  induction k with
  | zero => exact ⟨Int.le_refl _, Int.le_refl _⟩
  | succ k ih =>
    unfold ctA
    rcases ip_b s (24 * b + (k : Int)) with g | g <;> rw [g] <;> omega
theorem ctA_le (s : Int → Int) (b : Int) {k n : Nat} (h : k ≤ n) : ctA s b k ≤ ctA s b n := by
  induction n with
  | zero => have : k = 0 := by omega
            subst this; exact Int.le_refl _
  | succ n ih =>
    by_cases e : k = n + 1
    · subst e; exact Int.le_refl _
    · have := ih (by omega)
      show ctA s b k ≤ ctA s b n + ipF s (24 * b + (n : Int))
      rcases ip_b s (24 * b + (n : Int)) with g | g <;> omega
theorem clA_M {s : Int → Int} (h : MI s) {b : Int} (hb : b = 0 ∨ b = 1) (h8 : s 11 + ctA s b 24 ≤ 8) : ∀ k : Nat, k ≤ 24 → MI (clA s b k) ∧ clA s b k 11 = s 11 + ctA s b k ∧ ∀ x, x < 216 ∨ 248 ≤ x → x ≠ 11 → clA s b k x = s x := by
  intro k
  induction k with
  | zero => intro _; exact ⟨h, by show s 11 = s 11 + 0; omega, fun _ _ _ => rfl⟩
  | succ k ih =>
    intro hk
    obtain ⟨g1, g2, g3⟩ := ih (by omega)
    have e : ipF (clA s b k) (24 * b + (k : Int)) = ipF s (24 * b + (k : Int)) := ipF_cong (fun x h1 h2 => g3 x (by omega) (by omega)) (by omega) (by omega)
    have hc := ctA_le s b (k := k + 1) (n := 24) hk
    have hc2 : ctA s b (k + 1) = ctA s b k + ipF s (24 * b + (k : Int)) := rfl
    unfold clA
    split
    · next c =>
      rw [e] at c
      have h7 : clA s b k 11 ≤ 7 := by omega
      refine ⟨cpF_M g1 h7 (by omega) (by omega) (by omega), ?_, fun x h1 h2 => ?_⟩
      · unfold cpF; rw [cmF_11 g1 h7, g2, hc2, c]; omega
      · unfold cpF; rw [cmF_x g1 h7 _ _ _ _ h1 h2, g3 x h1 h2]
    · next c =>
      rw [e] at c
      refine ⟨g1, ?_, g3⟩
      rw [g2, hc2]
      rcases ip_b s (24 * b + (k : Int)) with q | q
      · omega
      · exact absurd q c
theorem cbA_M {s : Int → Int} (h : MI s) {b : Int} (hb : b = 0 ∨ b = 1) : ∀ k : Nat, k ≤ 8 → MI (cbA s b k) := by
  intro k
  induction k with
  | zero => intro _; exact h
  | succ k ih => intro hk; exact clB_M (ih (by omega)) hb ⟨by omega, by omega⟩
theorem er1_M {s : Int → Int} (h : MI s) {b : Int} (hb : b = 0 ∨ b = 1) : MI (er1 s b) := cbA_M (h.zz 64 (by omega)) hb 8 (by omega)
theorem cbA_x (s : Int → Int) {b : Int} (hb : b = 0 ∨ b = 1) {x : Int} (hx : x < 152 ∨ 216 ≤ x) : ∀ k : Nat, k ≤ 8 → cbA s b k x = s x := by
  intro k
  induction k with
  | zero => intro _; rfl
  | succ k ih => intro hk; unfold cbA clB; rw [zA_at, if_neg (by omega), ih (by omega)]
theorem er1_x (s : Int → Int) {b : Int} (hb : b = 0 ∨ b = 1) {x : Int} (hx : x < 24 ∨ 216 ≤ x) : er1 s b x = s x := by
  unfold er1
  rw [cbA_x _ hb (by omega) 8 (by omega), zA_at, if_neg (by omega)]
end
section
/-! the JDK's small ones -/
def bcU (x y : Int) : Int := ((Int32.ofInt x).toUInt32 >>> ((Int32.ofInt y).toUInt32 &&& Int32.toUInt32 31)).toInt32.toInt
def bcA (x y : Int) : Int := (Int32.ofInt x &&& Int32.ofInt y).toInt
def bc1 (x : Int) : Int := x - bcA (bcU x 1) (Int32.toInt 1431655765)
def bc2 (x : Int) : Int := bcA x (Int32.toInt 858993459) + bcA (bcU x 2) (Int32.toInt 858993459)
def bc3 (x : Int) : Int := bcA (x + bcU x 4) (Int32.toInt 252645135)
def bc4 (x : Int) : Int := x + bcU x 8
def bc5 (x : Int) : Int := x + bcU x 16
theorem bc_sq : ∀ q : Nat, q < 64 → ∀ r : Nat, r < 64 → bcA (bc5 (bc4 (bc3 (bc2 (bc1 ((64 * q + r : Nat) : Int)))))) 63 = onA (64 * q + r) 12 := by decide +kernel
theorem bc_all (a : Nat) (h : a < 4096) : bcA (bc5 (bc4 (bc3 (bc2 (bc1 (a : Int)))))) 63 = onA a 12 := by
  have g := bc_sq (a / 64) (by omega) (a % 64) (by omega)
  rwa [show 64 * (a / 64) + a % 64 = a by omega] at g
section JDK
variable {E : ET} {hi : HI} {hr : HR}
set_option maxRecDepth 100000 in
set_option maxHeartbeats 4000000 in
theorem c_bitCount {a : Nat} (ha : a < 4096) : AMet E M_J6_bitCount_0f7a4 [aI (a : Int)] hi hr 131 (EX (some (aI (onA a 12))) hi hr 131) := by
  refine am_of (by decide +kernel) (Nat.le_of_ble_eq_true rfl) ?_
  refine aw_iload_n dJ6_bitCount_0f7a4_0 rfl ?_
  refine aw_iload_n dJ6_bitCount_0f7a4_1 rfl ?_
  refine aw_iconst dJ6_bitCount_0f7a4_2 ?_
  refine aw_iushr dJ6_bitCount_0f7a4_3 ?_
  refine aw_ldcw dJ6_bitCount_0f7a4_4 w_k265 ?_
  refine aw_iandG dJ6_bitCount_0f7a4_7 ?_
  refine aw_isub dJ6_bitCount_0f7a4_8 ?_
  refine aw_istore_n (ls2 := [_]) dJ6_bitCount_0f7a4_9 (by decide) rfl ?_
  refine aw_iload_n dJ6_bitCount_0f7a4_10 rfl ?_
  refine aw_ldcw dJ6_bitCount_0f7a4_11 w_k266 ?_
  refine aw_iandG dJ6_bitCount_0f7a4_14 ?_
  refine aw_iload_n dJ6_bitCount_0f7a4_15 rfl ?_
  refine aw_iconst dJ6_bitCount_0f7a4_16 ?_
  refine aw_iushr dJ6_bitCount_0f7a4_17 ?_
  refine aw_ldcw dJ6_bitCount_0f7a4_18 w_k266 ?_
  refine aw_iandG dJ6_bitCount_0f7a4_21 ?_
  refine aw_iadd dJ6_bitCount_0f7a4_22 ?_
  refine aw_istore_n (ls2 := [_]) dJ6_bitCount_0f7a4_23 (by decide) rfl ?_
  refine aw_iload_n dJ6_bitCount_0f7a4_24 rfl ?_
  refine aw_iload_n dJ6_bitCount_0f7a4_25 rfl ?_
  refine aw_iconst dJ6_bitCount_0f7a4_26 ?_
  refine aw_iushr dJ6_bitCount_0f7a4_27 ?_
  refine aw_iadd dJ6_bitCount_0f7a4_28 ?_
  refine aw_ldcw dJ6_bitCount_0f7a4_29 w_k267 ?_
  refine aw_iandG dJ6_bitCount_0f7a4_32 ?_
  refine aw_istore_n (ls2 := [_]) dJ6_bitCount_0f7a4_33 (by decide) rfl ?_
  refine aw_iload_n dJ6_bitCount_0f7a4_34 rfl ?_
  refine aw_iload_n dJ6_bitCount_0f7a4_35 rfl ?_
  refine aw_bipush dJ6_bitCount_0f7a4_36 (by decide) ?_
  refine aw_iushr dJ6_bitCount_0f7a4_38 ?_
  refine aw_iadd dJ6_bitCount_0f7a4_39 ?_
  refine aw_istore_n (ls2 := [_]) dJ6_bitCount_0f7a4_40 (by decide) rfl ?_
  refine aw_iload_n dJ6_bitCount_0f7a4_41 rfl ?_
  refine aw_iload_n dJ6_bitCount_0f7a4_42 rfl ?_
  refine aw_bipush dJ6_bitCount_0f7a4_43 (by decide) ?_
  refine aw_iushr dJ6_bitCount_0f7a4_45 ?_
  refine aw_iadd dJ6_bitCount_0f7a4_46 ?_
  refine aw_istore_n (ls2 := [_]) dJ6_bitCount_0f7a4_47 (by decide) rfl ?_
  refine aw_iload_n dJ6_bitCount_0f7a4_48 rfl ?_
  refine aw_bipush dJ6_bitCount_0f7a4_49 (by decide) ?_
  refine aw_iandG dJ6_bitCount_0f7a4_51 ?_
  refine aw_iret dJ6_bitCount_0f7a4_52 rfl (by decide) (by decide) ?_
  exact exI (bc_all a ha)
theorem aw_max {M : MT} {cu su pc : Nat} {ls : List (Option AV)} {st : List AV} {n : Nat} {Q : QT} {idx : Nat} {x y : Int} (hd : decode (mC M) pc = .ok (.invokestatic idx, 3)) (hl : Cond.methodLink (mY M).cls idx Lib.Math.max.name ∈ lw_tbl) (h2 : Cond.static Lib.Math.max.name ∈ lw_tbl) (h3 : Cond.initialized "java/lang/Math" ∈ lw_tbl) (h4 : Cond.code Lib.Math.max.name Lib.Math.max.code 2 (some .int) ∈ lw_tbl)
    (hF : 1 ≤ mF M) (hO : st.length + 13 ≤ mO M) (hw1 : cu ≤ mMc M) (hw2 : su ≤ mMs M) (hx : InR x) (hy : InR y) (kk : AW E M cu su (pc + 3) ls (aI (max x y) :: st) hi hr n Q) : AW E M cu su pc ls (aI y :: aI x :: st) hi hr n Q := by
  intro p e s m args below meth c H locs lsA hX hC hL hR
  have hK := hX.2.2.2.2.2.2.2
  refine va_mmax hX.1 hX.2.1 (hX.2.2.1.trans hR.1.symm) hX.2.2.2.2.2.1 (hK.1 _ hl rfl _) (hK.1 _ h2 rfl _) (hK.1 _ h3 rfl _) (hK.1 _ h4 rfl _) hF (by rw [st_cat]; exact hO) hw1 hw2 hd ?_
  have g := kk p e s m args below meth c H locs lsA hX hC hL hR
  rw [List.map_cons, cv_i] at g
  have e1 : (if Int32.ofInt x < Int32.ofInt y then Int32.ofInt y else Int32.ofInt x) = Int32.ofInt (max x y) := by
    by_cases h : x < y
    · rw [if_pos ((oi_lt hx hy).mpr h), show max x y = y by omega]
    · rw [if_neg (fun q => h ((oi_lt hx hy).mp q)), show max x y = x by omega]
  rw [e1]
  exact g
theorem aw_min {M : MT} {cu su pc : Nat} {ls : List (Option AV)} {st : List AV} {n : Nat} {Q : QT} {idx : Nat} {x y : Int} (hd : decode (mC M) pc = .ok (.invokestatic idx, 3)) (hl : Cond.methodLink (mY M).cls idx Lib.Math.min.name ∈ lw_tbl) (h2 : Cond.static Lib.Math.min.name ∈ lw_tbl) (h3 : Cond.initialized "java/lang/Math" ∈ lw_tbl) (h4 : Cond.code Lib.Math.min.name Lib.Math.min.code 2 (some .int) ∈ lw_tbl)
    (hF : 1 ≤ mF M) (hO : st.length + 13 ≤ mO M) (hw1 : cu ≤ mMc M) (hw2 : su ≤ mMs M) (hx : InR x) (hy : InR y) (kk : AW E M cu su (pc + 3) ls (aI (min x y) :: st) hi hr n Q) : AW E M cu su pc ls (aI y :: aI x :: st) hi hr n Q := by
  intro p e s m args below meth c H locs lsA hX hC hL hR
  have hK := hX.2.2.2.2.2.2.2
  refine va_mmin hX.1 hX.2.1 (hX.2.2.1.trans hR.1.symm) hX.2.2.2.2.2.1 (hK.1 _ hl rfl _) (hK.1 _ h2 rfl _) (hK.1 _ h3 rfl _) (hK.1 _ h4 rfl _) hF (by rw [st_cat]; exact hO) hw1 hw2 hd ?_
  have g := kk p e s m args below meth c H locs lsA hX hC hL hR
  rw [List.map_cons, cv_i] at g
  have e1 : (if Int32.ofInt y < Int32.ofInt x then Int32.ofInt y else Int32.ofInt x) = Int32.ofInt (min x y) := by
    by_cases h : y < x
    · rw [if_pos ((oi_lt hy hx).mpr h), show min x y = y by omega]
    · rw [if_neg (fun q => h ((oi_lt hy hx).mp q)), show min x y = x by omega]
  rw [e1]
  exact g
theorem cmX2_44 : Cond.methodLink RX2 44 Lib.Math.max.name ∈ lw_tbl := (mem_tb (List.mem_of_getElem? (i := 427) (by decide +kernel)))
theorem cmX4_120 : Cond.methodLink RX4 120 Lib.Math.max.name ∈ lw_tbl := (mem_tb (List.mem_of_getElem? (i := 431) (by decide +kernel)))
theorem w_max2 : Cond.static Lib.Math.max.name ∈ lw_tbl := (mem_tb (List.mem_of_getElem? (i := 428) (by decide +kernel)))
theorem w_max4 : Cond.code Lib.Math.max.name Lib.Math.max.code 2 (some .int) ∈ lw_tbl := (mem_tb (List.mem_of_getElem? (i := 429) (by decide +kernel)))
theorem cmX8_149 : Cond.methodLink RX8 149 Lib.Math.min.name ∈ lw_tbl := (mem_tb (List.mem_of_getElem? (i := 149) (by decide +kernel)))
theorem cmX4_114 : Cond.methodLink RX4 114 Lib.Math.min.name ∈ lw_tbl := (mem_tb (List.mem_of_getElem? (i := 430) (by decide +kernel)))
theorem w_min2 : Cond.static Lib.Math.min.name ∈ lw_tbl := (mem_tb (List.mem_of_getElem? (i := 150) (by decide +kernel)))
theorem w_min4 : Cond.code Lib.Math.min.name Lib.Math.min.code 2 (some .int) ∈ lw_tbl := (mem_tb (List.mem_of_getElem? (i := 151) (by decide +kernel)))
theorem w_math : Cond.initialized "java/lang/Math" ∈ lw_tbl := (mem_tb (List.mem_of_getElem? (i := 7) (by decide +kernel)))
end JDK
end
