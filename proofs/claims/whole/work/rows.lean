section
-- ===== PART A: goes FIRST, ahead of the names: the tables' words, and 'selects' of the private methods out of them =====
/-- a private method of a class that the tables say can be made, by its rows of tables_1 -/
def lw_okq (q : MethodName × Nat) : Prop := (q.1.cls ≠ "java/lang/invoke/MethodHandle" ∧ q.1.cls ≠ "java/lang/invoke/VarHandle") ∧ Cond.instantiable q.1.cls q.2 ∈ tables_1 ∧ Cond.privateMethod q.1 ∈ tables_1 ∧ Cond.instanceMethod q.1 ∈ tables_1
theorem lw_p0 : lw_okq (⟨"TwoEndQueues$HeapLayout", "down", "(I)V"⟩, 4) := ⟨⟨by decide +kernel, by decide +kernel⟩, List.mem_of_getElem? (i := 77) (by decide +kernel), List.mem_of_getElem? (i := 257) (by decide +kernel), List.mem_of_getElem? (i := 258) (by decide +kernel)⟩
theorem lw_p1 : lw_okq (⟨"TwoEndQueues$IntervalLayout", "sinkLow", "(I)V"⟩, 3) := ⟨⟨by decide +kernel, by decide +kernel⟩, List.mem_of_getElem? (i := 34) (by decide +kernel), List.mem_of_getElem? (i := 274) (by decide +kernel), List.mem_of_getElem? (i := 275) (by decide +kernel)⟩
theorem lw_p2 : lw_okq (⟨"TwoEndQueues$IntervalLayout", "order", "(I)V"⟩, 3) := ⟨⟨by decide +kernel, by decide +kernel⟩, List.mem_of_getElem? (i := 34) (by decide +kernel), List.mem_of_getElem? (i := 278) (by decide +kernel), List.mem_of_getElem? (i := 279) (by decide +kernel)⟩
theorem lw_p3 : lw_okq (⟨"TwoEndQueues$IntervalLayout", "sinkHigh", "(I)V"⟩, 3) := ⟨⟨by decide +kernel, by decide +kernel⟩, List.mem_of_getElem? (i := 34) (by decide +kernel), List.mem_of_getElem? (i := 294) (by decide +kernel), List.mem_of_getElem? (i := 295) (by decide +kernel)⟩
theorem lw_p4 : lw_okq (⟨"TwoEndQueues$IntervalLayout", "top", "(I)I"⟩, 3) := ⟨⟨by decide +kernel, by decide +kernel⟩, List.mem_of_getElem? (i := 34) (by decide +kernel), List.mem_of_getElem? (i := 298) (by decide +kernel), List.mem_of_getElem? (i := 299) (by decide +kernel)⟩
theorem lw_p5 : lw_okq (⟨"TwoEndQueues$LevelLayout", "sink", "(I)V"⟩, 3) := ⟨⟨by decide +kernel, by decide +kernel⟩, List.mem_of_getElem? (i := 67) (by decide +kernel), List.mem_of_getElem? (i := 305) (by decide +kernel), List.mem_of_getElem? (i := 306) (by decide +kernel)⟩
theorem lw_p6 : lw_okq (⟨"TwoEndQueues$LevelLayout", "foremostBelow", "(IZ)I"⟩, 3) := ⟨⟨by decide +kernel, by decide +kernel⟩, List.mem_of_getElem? (i := 67) (by decide +kernel), List.mem_of_getElem? (i := 315) (by decide +kernel), List.mem_of_getElem? (i := 316) (by decide +kernel)⟩
theorem lw_p7 : lw_okq (⟨"TwoEndQueues$Script", "current", "()C"⟩, 7) := ⟨⟨by decide +kernel, by decide +kernel⟩, List.mem_of_getElem? (i := 125) (by decide +kernel), List.mem_of_getElem? (i := 427) (by decide +kernel), List.mem_of_getElem? (i := 428) (by decide +kernel)⟩
theorem lw_p8 : lw_okq (⟨"TwoEndQueues$Script", "readArguments", "()Z"⟩, 7) := ⟨⟨by decide +kernel, by decide +kernel⟩, List.mem_of_getElem? (i := 125) (by decide +kernel), List.mem_of_getElem? (i := 434) (by decide +kernel), List.mem_of_getElem? (i := 435) (by decide +kernel)⟩
theorem lw_p9 : lw_okq (⟨"TwoEndQueues$Script", "readKey", "()Z"⟩, 7) := ⟨⟨by decide +kernel, by decide +kernel⟩, List.mem_of_getElem? (i := 125) (by decide +kernel), List.mem_of_getElem? (i := 438) (by decide +kernel), List.mem_of_getElem? (i := 439) (by decide +kernel)⟩
theorem lw_p10 : lw_okq (⟨"TwoEndQueues$Script", "readSign", "(C)Z"⟩, 7) := ⟨⟨by decide +kernel, by decide +kernel⟩, List.mem_of_getElem? (i := 125) (by decide +kernel), List.mem_of_getElem? (i := 442) (by decide +kernel), List.mem_of_getElem? (i := 443) (by decide +kernel)⟩
theorem lw_p11 : lw_okq (⟨"TwoEndQueues$Script", "readNumber", "(I)Z"⟩, 7) := ⟨⟨by decide +kernel, by decide +kernel⟩, List.mem_of_getElem? (i := 125) (by decide +kernel), List.mem_of_getElem? (i := 446) (by decide +kernel), List.mem_of_getElem? (i := 447) (by decide +kernel)⟩
theorem lw_p12 : lw_okq (⟨"TwoEndQueues$Script", "readHandle", "()Z"⟩, 7) := ⟨⟨by decide +kernel, by decide +kernel⟩, List.mem_of_getElem? (i := 125) (by decide +kernel), List.mem_of_getElem? (i := 450) (by decide +kernel), List.mem_of_getElem? (i := 451) (by decide +kernel)⟩
theorem lw_p13 : lw_okq (⟨"java/lang/Throwable", "fillInStackTrace", "(I)Ljava/lang/Throwable;"⟩, 6) := ⟨⟨by decide +kernel, by decide +kernel⟩, List.mem_of_getElem? (i := 538) (by decide +kernel), List.mem_of_getElem? (i := 536) (by decide +kernel), List.mem_of_getElem? (i := 537) (by decide +kernel)⟩
theorem lw_p14 : lw_okq (⟨"TwoEndQueues$Queues", "lowestFreeHandle", "()I"⟩, 4) := ⟨⟨by decide +kernel, by decide +kernel⟩, List.mem_of_getElem? (i := 28) (by decide +kernel), List.mem_of_getElem? (i := 588) (by decide +kernel), List.mem_of_getElem? (i := 589) (by decide +kernel)⟩
theorem lw_p15 : lw_okq (⟨"TwoEndQueues$IntervalLayout", "riseHigh", "(II)V"⟩, 3) := ⟨⟨by decide +kernel, by decide +kernel⟩, List.mem_of_getElem? (i := 34) (by decide +kernel), List.mem_of_getElem? (i := 609) (by decide +kernel), List.mem_of_getElem? (i := 610) (by decide +kernel)⟩
def lw_privs_1 : List (MethodName × Nat) := [(⟨"TwoEndQueues$HeapLayout", "down", "(I)V"⟩, 4), (⟨"TwoEndQueues$IntervalLayout", "sinkLow", "(I)V"⟩, 3), (⟨"TwoEndQueues$IntervalLayout", "order", "(I)V"⟩, 3), (⟨"TwoEndQueues$IntervalLayout", "sinkHigh", "(I)V"⟩, 3), (⟨"TwoEndQueues$IntervalLayout", "top", "(I)I"⟩, 3), (⟨"TwoEndQueues$LevelLayout", "sink", "(I)V"⟩, 3), (⟨"TwoEndQueues$LevelLayout", "foremostBelow", "(IZ)I"⟩, 3), (⟨"TwoEndQueues$Script", "current", "()C"⟩, 7), (⟨"TwoEndQueues$Script", "readArguments", "()Z"⟩, 7), (⟨"TwoEndQueues$Script", "readKey", "()Z"⟩, 7), (⟨"TwoEndQueues$Script", "readSign", "(C)Z"⟩, 7), (⟨"TwoEndQueues$Script", "readNumber", "(I)Z"⟩, 7), (⟨"TwoEndQueues$Script", "readHandle", "()Z"⟩, 7), (⟨"java/lang/Throwable", "fillInStackTrace", "(I)Ljava/lang/Throwable;"⟩, 6), (⟨"TwoEndQueues$Queues", "lowestFreeHandle", "()I"⟩, 4), (⟨"TwoEndQueues$IntervalLayout", "riseHigh", "(II)V"⟩, 3)]
theorem lw_r1 : ∀ q ∈ lw_privs_1, lw_okq q := List.forall_mem_cons.mpr ⟨lw_p0, List.forall_mem_cons.mpr ⟨lw_p1, List.forall_mem_cons.mpr ⟨lw_p2, List.forall_mem_cons.mpr ⟨lw_p3, List.forall_mem_cons.mpr ⟨lw_p4, List.forall_mem_cons.mpr ⟨lw_p5, List.forall_mem_cons.mpr ⟨lw_p6, List.forall_mem_cons.mpr ⟨lw_p7, List.forall_mem_cons.mpr ⟨lw_p8, List.forall_mem_cons.mpr ⟨lw_p9, List.forall_mem_cons.mpr ⟨lw_p10, List.forall_mem_cons.mpr ⟨lw_p11, List.forall_mem_cons.mpr ⟨lw_p12, List.forall_mem_cons.mpr ⟨lw_p13, List.forall_mem_cons.mpr ⟨lw_p14, List.forall_mem_cons.mpr ⟨lw_p15, fun _ h => absurd h List.not_mem_nil⟩⟩⟩⟩⟩⟩⟩⟩⟩⟩⟩⟩⟩⟩⟩⟩
theorem lw_p16 : lw_okq (⟨"TwoEndQueues$IntervalLayout", "riseLow", "(I)V"⟩, 3) := ⟨⟨by decide +kernel, by decide +kernel⟩, List.mem_of_getElem? (i := 34) (by decide +kernel), List.mem_of_getElem? (i := 613) (by decide +kernel), List.mem_of_getElem? (i := 614) (by decide +kernel)⟩
theorem lw_p17 : lw_okq (⟨"TwoEndQueues$LevelLayout", "rise", "(IZ)V"⟩, 3) := ⟨⟨by decide +kernel, by decide +kernel⟩, List.mem_of_getElem? (i := 67) (by decide +kernel), List.mem_of_getElem? (i := 620) (by decide +kernel), List.mem_of_getElem? (i := 621) (by decide +kernel)⟩
theorem lw_p18 : lw_okq (⟨"TwoEndQueues", "requireItems", "()V"⟩, 4) := ⟨⟨by decide +kernel, by decide +kernel⟩, List.mem_of_getElem? (i := 20) (by decide +kernel), List.mem_of_getElem? (i := 631) (by decide +kernel), List.mem_of_getElem? (i := 632) (by decide +kernel)⟩
theorem lw_p19 : lw_okq (⟨"TwoEndQueues$Queues", "isPossible", "(III)Z"⟩, 4) := ⟨⟨by decide +kernel, by decide +kernel⟩, List.mem_of_getElem? (i := 28) (by decide +kernel), List.mem_of_getElem? (i := 645) (by decide +kernel), List.mem_of_getElem? (i := 646) (by decide +kernel)⟩
theorem lw_p20 : lw_okq (⟨"TwoEndQueues", "requireItem", "(I)V"⟩, 4) := ⟨⟨by decide +kernel, by decide +kernel⟩, List.mem_of_getElem? (i := 20) (by decide +kernel), List.mem_of_getElem? (i := 728) (by decide +kernel), List.mem_of_getElem? (i := 729) (by decide +kernel)⟩
theorem lw_p21 : lw_okq (⟨"TwoEndQueues", "requirePosition", "(I)V"⟩, 4) := ⟨⟨by decide +kernel, by decide +kernel⟩, List.mem_of_getElem? (i := 20) (by decide +kernel), List.mem_of_getElem? (i := 836) (by decide +kernel), List.mem_of_getElem? (i := 837) (by decide +kernel)⟩
theorem lw_p22 : lw_okq (⟨"TwoEndQueuesModel", "refused", "(I)Z"⟩, 11) := ⟨⟨by decide +kernel, by decide +kernel⟩, List.mem_of_getElem? (i := 939) (by decide +kernel), List.mem_of_getElem? (i := 987) (by decide +kernel), List.mem_of_getElem? (i := 988) (by decide +kernel)⟩
theorem lw_p23 : lw_okq (⟨"TwoEndQueuesModel", "many", "()I"⟩, 11) := ⟨⟨by decide +kernel, by decide +kernel⟩, List.mem_of_getElem? (i := 939) (by decide +kernel), List.mem_of_getElem? (i := 1001) (by decide +kernel), List.mem_of_getElem? (i := 1002) (by decide +kernel)⟩
theorem lw_p24 : lw_okq (⟨"TwoEndQueuesModel", "saves", "()V"⟩, 11) := ⟨⟨by decide +kernel, by decide +kernel⟩, List.mem_of_getElem? (i := 939) (by decide +kernel), List.mem_of_getElem? (i := 1005) (by decide +kernel), List.mem_of_getElem? (i := 1006) (by decide +kernel)⟩
theorem lw_p25 : lw_okq (⟨"TwoEndQueuesModel", "inserts", "(II)I"⟩, 11) := ⟨⟨by decide +kernel, by decide +kernel⟩, List.mem_of_getElem? (i := 939) (by decide +kernel), List.mem_of_getElem? (i := 1009) (by decide +kernel), List.mem_of_getElem? (i := 1010) (by decide +kernel)⟩
theorem lw_p26 : lw_okq (⟨"TwoEndQueuesModel", "freeHandle", "()I"⟩, 11) := ⟨⟨by decide +kernel, by decide +kernel⟩, List.mem_of_getElem? (i := 939) (by decide +kernel), List.mem_of_getElem? (i := 1013) (by decide +kernel), List.mem_of_getElem? (i := 1014) (by decide +kernel)⟩
theorem lw_p27 : lw_okq (⟨"TwoEndQueuesModel", "enters", "(II)V"⟩, 11) := ⟨⟨by decide +kernel, by decide +kernel⟩, List.mem_of_getElem? (i := 939) (by decide +kernel), List.mem_of_getElem? (i := 1017) (by decide +kernel), List.mem_of_getElem? (i := 1018) (by decide +kernel)⟩
theorem lw_p28 : lw_okq (⟨"TwoEndQueuesModel", "lays", "(III)V"⟩, 11) := ⟨⟨by decide +kernel, by decide +kernel⟩, List.mem_of_getElem? (i := 939) (by decide +kernel), List.mem_of_getElem? (i := 1021) (by decide +kernel), List.mem_of_getElem? (i := 1022) (by decide +kernel)⟩
theorem lw_p29 : lw_okq (⟨"TwoEndQueuesModel", "comesFirst", "(I)V"⟩, 11) := ⟨⟨by decide +kernel, by decide +kernel⟩, List.mem_of_getElem? (i := 939) (by decide +kernel), List.mem_of_getElem? (i := 1025) (by decide +kernel), List.mem_of_getElem? (i := 1026) (by decide +kernel)⟩
theorem lw_p30 : lw_okq (⟨"TwoEndQueuesModel", "less", "(III)Z"⟩, 11) := ⟨⟨by decide +kernel, by decide +kernel⟩, List.mem_of_getElem? (i := 939) (by decide +kernel), List.mem_of_getElem? (i := 1029) (by decide +kernel), List.mem_of_getElem? (i := 1030) (by decide +kernel)⟩
theorem lw_p31 : lw_okq (⟨"TwoEndQueuesModel", "item", "(II)I"⟩, 11) := ⟨⟨by decide +kernel, by decide +kernel⟩, List.mem_of_getElem? (i := 939) (by decide +kernel), List.mem_of_getElem? (i := 1033) (by decide +kernel), List.mem_of_getElem? (i := 1034) (by decide +kernel)⟩
def lw_privs_2 : List (MethodName × Nat) := [(⟨"TwoEndQueues$IntervalLayout", "riseLow", "(I)V"⟩, 3), (⟨"TwoEndQueues$LevelLayout", "rise", "(IZ)V"⟩, 3), (⟨"TwoEndQueues", "requireItems", "()V"⟩, 4), (⟨"TwoEndQueues$Queues", "isPossible", "(III)Z"⟩, 4), (⟨"TwoEndQueues", "requireItem", "(I)V"⟩, 4), (⟨"TwoEndQueues", "requirePosition", "(I)V"⟩, 4), (⟨"TwoEndQueuesModel", "refused", "(I)Z"⟩, 11), (⟨"TwoEndQueuesModel", "many", "()I"⟩, 11), (⟨"TwoEndQueuesModel", "saves", "()V"⟩, 11), (⟨"TwoEndQueuesModel", "inserts", "(II)I"⟩, 11), (⟨"TwoEndQueuesModel", "freeHandle", "()I"⟩, 11), (⟨"TwoEndQueuesModel", "enters", "(II)V"⟩, 11), (⟨"TwoEndQueuesModel", "lays", "(III)V"⟩, 11), (⟨"TwoEndQueuesModel", "comesFirst", "(I)V"⟩, 11), (⟨"TwoEndQueuesModel", "less", "(III)Z"⟩, 11), (⟨"TwoEndQueuesModel", "item", "(II)I"⟩, 11)]
theorem lw_r2 : ∀ q ∈ lw_privs_2, lw_okq q := List.forall_mem_cons.mpr ⟨lw_p16, List.forall_mem_cons.mpr ⟨lw_p17, List.forall_mem_cons.mpr ⟨lw_p18, List.forall_mem_cons.mpr ⟨lw_p19, List.forall_mem_cons.mpr ⟨lw_p20, List.forall_mem_cons.mpr ⟨lw_p21, List.forall_mem_cons.mpr ⟨lw_p22, List.forall_mem_cons.mpr ⟨lw_p23, List.forall_mem_cons.mpr ⟨lw_p24, List.forall_mem_cons.mpr ⟨lw_p25, List.forall_mem_cons.mpr ⟨lw_p26, List.forall_mem_cons.mpr ⟨lw_p27, List.forall_mem_cons.mpr ⟨lw_p28, List.forall_mem_cons.mpr ⟨lw_p29, List.forall_mem_cons.mpr ⟨lw_p30, List.forall_mem_cons.mpr ⟨lw_p31, fun _ h => absurd h List.not_mem_nil⟩⟩⟩⟩⟩⟩⟩⟩⟩⟩⟩⟩⟩⟩⟩⟩
theorem lw_p32 : lw_okq (⟨"TwoEndQueuesModel", "isLess", "(II)Z"⟩, 11) := ⟨⟨by decide +kernel, by decide +kernel⟩, List.mem_of_getElem? (i := 939) (by decide +kernel), List.mem_of_getElem? (i := 1037) (by decide +kernel), List.mem_of_getElem? (i := 1038) (by decide +kernel)⟩
theorem lw_p33 : lw_okq (⟨"TwoEndQueuesModel", "exchange", "(III)V"⟩, 11) := ⟨⟨by decide +kernel, by decide +kernel⟩, List.mem_of_getElem? (i := 939) (by decide +kernel), List.mem_of_getElem? (i := 1041) (by decide +kernel), List.mem_of_getElem? (i := 1042) (by decide +kernel)⟩
theorem lw_p34 : lw_okq (⟨"TwoEndQueuesModel", "risesLow", "(I)V"⟩, 11) := ⟨⟨by decide +kernel, by decide +kernel⟩, List.mem_of_getElem? (i := 939) (by decide +kernel), List.mem_of_getElem? (i := 1045) (by decide +kernel), List.mem_of_getElem? (i := 1046) (by decide +kernel)⟩
theorem lw_p35 : lw_okq (⟨"TwoEndQueuesModel", "risesHigh", "(II)V"⟩, 11) := ⟨⟨by decide +kernel, by decide +kernel⟩, List.mem_of_getElem? (i := 939) (by decide +kernel), List.mem_of_getElem? (i := 1049) (by decide +kernel), List.mem_of_getElem? (i := 1050) (by decide +kernel)⟩
theorem lw_p36 : lw_okq (⟨"TwoEndQueuesModel", "enters", "(I)V"⟩, 11) := ⟨⟨by decide +kernel, by decide +kernel⟩, List.mem_of_getElem? (i := 939) (by decide +kernel), List.mem_of_getElem? (i := 1053) (by decide +kernel), List.mem_of_getElem? (i := 1054) (by decide +kernel)⟩
theorem lw_p37 : lw_okq (⟨"TwoEndQueuesModel", "leads", "(ZII)Z"⟩, 11) := ⟨⟨by decide +kernel, by decide +kernel⟩, List.mem_of_getElem? (i := 939) (by decide +kernel), List.mem_of_getElem? (i := 1063) (by decide +kernel), List.mem_of_getElem? (i := 1064) (by decide +kernel)⟩
theorem lw_p38 : lw_okq (⟨"TwoEndQueuesModel", "rises", "(I)V"⟩, 11) := ⟨⟨by decide +kernel, by decide +kernel⟩, List.mem_of_getElem? (i := 939) (by decide +kernel), List.mem_of_getElem? (i := 1067) (by decide +kernel), List.mem_of_getElem? (i := 1068) (by decide +kernel)⟩
theorem lw_p39 : lw_okq (⟨"TwoEndQueuesModel", "up", "(II)V"⟩, 11) := ⟨⟨by decide +kernel, by decide +kernel⟩, List.mem_of_getElem? (i := 939) (by decide +kernel), List.mem_of_getElem? (i := 1071) (by decide +kernel), List.mem_of_getElem? (i := 1072) (by decide +kernel)⟩
theorem lw_p40 : lw_okq (⟨"TwoEndQueuesModel", "isAhead", "(III)Z"⟩, 11) := ⟨⟨by decide +kernel, by decide +kernel⟩, List.mem_of_getElem? (i := 939) (by decide +kernel), List.mem_of_getElem? (i := 1075) (by decide +kernel), List.mem_of_getElem? (i := 1076) (by decide +kernel)⟩
theorem lw_p41 : lw_okq (⟨"TwoEndQueuesModel", "leastOf", "(I)I"⟩, 11) := ⟨⟨by decide +kernel, by decide +kernel⟩, List.mem_of_getElem? (i := 939) (by decide +kernel), List.mem_of_getElem? (i := 1083) (by decide +kernel), List.mem_of_getElem? (i := 1084) (by decide +kernel)⟩
theorem lw_p42 : lw_okq (⟨"TwoEndQueuesModel", "goes", "(II)V"⟩, 11) := ⟨⟨by decide +kernel, by decide +kernel⟩, List.mem_of_getElem? (i := 939) (by decide +kernel), List.mem_of_getElem? (i := 1087) (by decide +kernel), List.mem_of_getElem? (i := 1088) (by decide +kernel)⟩
theorem lw_p43 : lw_okq (⟨"TwoEndQueuesModel", "placeOf", "(II)I"⟩, 11) := ⟨⟨by decide +kernel, by decide +kernel⟩, List.mem_of_getElem? (i := 939) (by decide +kernel), List.mem_of_getElem? (i := 1091) (by decide +kernel), List.mem_of_getElem? (i := 1092) (by decide +kernel)⟩
theorem lw_p44 : lw_okq (⟨"TwoEndQueuesModel", "closes", "(III)I"⟩, 11) := ⟨⟨by decide +kernel, by decide +kernel⟩, List.mem_of_getElem? (i := 939) (by decide +kernel), List.mem_of_getElem? (i := 1095) (by decide +kernel), List.mem_of_getElem? (i := 1096) (by decide +kernel)⟩
theorem lw_p45 : lw_okq (⟨"TwoEndQueuesModel", "moves", "(III)V"⟩, 11) := ⟨⟨by decide +kernel, by decide +kernel⟩, List.mem_of_getElem? (i := 939) (by decide +kernel), List.mem_of_getElem? (i := 1099) (by decide +kernel), List.mem_of_getElem? (i := 1100) (by decide +kernel)⟩
theorem lw_p46 : lw_okq (⟨"TwoEndQueuesModel", "settles", "(II)V"⟩, 11) := ⟨⟨by decide +kernel, by decide +kernel⟩, List.mem_of_getElem? (i := 939) (by decide +kernel), List.mem_of_getElem? (i := 1103) (by decide +kernel), List.mem_of_getElem? (i := 1104) (by decide +kernel)⟩
theorem lw_p47 : lw_okq (⟨"TwoEndQueuesModel", "orders", "(II)V"⟩, 11) := ⟨⟨by decide +kernel, by decide +kernel⟩, List.mem_of_getElem? (i := 939) (by decide +kernel), List.mem_of_getElem? (i := 1107) (by decide +kernel), List.mem_of_getElem? (i := 1108) (by decide +kernel)⟩
def lw_privs_3 : List (MethodName × Nat) := [(⟨"TwoEndQueuesModel", "isLess", "(II)Z"⟩, 11), (⟨"TwoEndQueuesModel", "exchange", "(III)V"⟩, 11), (⟨"TwoEndQueuesModel", "risesLow", "(I)V"⟩, 11), (⟨"TwoEndQueuesModel", "risesHigh", "(II)V"⟩, 11), (⟨"TwoEndQueuesModel", "enters", "(I)V"⟩, 11), (⟨"TwoEndQueuesModel", "leads", "(ZII)Z"⟩, 11), (⟨"TwoEndQueuesModel", "rises", "(I)V"⟩, 11), (⟨"TwoEndQueuesModel", "up", "(II)V"⟩, 11), (⟨"TwoEndQueuesModel", "isAhead", "(III)Z"⟩, 11), (⟨"TwoEndQueuesModel", "leastOf", "(I)I"⟩, 11), (⟨"TwoEndQueuesModel", "goes", "(II)V"⟩, 11), (⟨"TwoEndQueuesModel", "placeOf", "(II)I"⟩, 11), (⟨"TwoEndQueuesModel", "closes", "(III)I"⟩, 11), (⟨"TwoEndQueuesModel", "moves", "(III)V"⟩, 11), (⟨"TwoEndQueuesModel", "settles", "(II)V"⟩, 11), (⟨"TwoEndQueuesModel", "orders", "(II)V"⟩, 11)]
theorem lw_r3 : ∀ q ∈ lw_privs_3, lw_okq q := List.forall_mem_cons.mpr ⟨lw_p32, List.forall_mem_cons.mpr ⟨lw_p33, List.forall_mem_cons.mpr ⟨lw_p34, List.forall_mem_cons.mpr ⟨lw_p35, List.forall_mem_cons.mpr ⟨lw_p36, List.forall_mem_cons.mpr ⟨lw_p37, List.forall_mem_cons.mpr ⟨lw_p38, List.forall_mem_cons.mpr ⟨lw_p39, List.forall_mem_cons.mpr ⟨lw_p40, List.forall_mem_cons.mpr ⟨lw_p41, List.forall_mem_cons.mpr ⟨lw_p42, List.forall_mem_cons.mpr ⟨lw_p43, List.forall_mem_cons.mpr ⟨lw_p44, List.forall_mem_cons.mpr ⟨lw_p45, List.forall_mem_cons.mpr ⟨lw_p46, List.forall_mem_cons.mpr ⟨lw_p47, fun _ h => absurd h List.not_mem_nil⟩⟩⟩⟩⟩⟩⟩⟩⟩⟩⟩⟩⟩⟩⟩⟩
theorem lw_p48 : lw_okq (⟨"TwoEndQueuesModel", "topOf", "(II)I"⟩, 11) := ⟨⟨by decide +kernel, by decide +kernel⟩, List.mem_of_getElem? (i := 939) (by decide +kernel), List.mem_of_getElem? (i := 1111) (by decide +kernel), List.mem_of_getElem? (i := 1112) (by decide +kernel)⟩
theorem lw_p49 : lw_okq (⟨"TwoEndQueuesModel", "sinksLow", "(II)V"⟩, 11) := ⟨⟨by decide +kernel, by decide +kernel⟩, List.mem_of_getElem? (i := 939) (by decide +kernel), List.mem_of_getElem? (i := 1115) (by decide +kernel), List.mem_of_getElem? (i := 1116) (by decide +kernel)⟩
theorem lw_p50 : lw_okq (⟨"TwoEndQueuesModel", "sinksHigh", "(II)V"⟩, 11) := ⟨⟨by decide +kernel, by decide +kernel⟩, List.mem_of_getElem? (i := 939) (by decide +kernel), List.mem_of_getElem? (i := 1119) (by decide +kernel), List.mem_of_getElem? (i := 1120) (by decide +kernel)⟩
theorem lw_p51 : lw_okq (⟨"TwoEndQueuesModel", "sinks", "(II)V"⟩, 11) := ⟨⟨by decide +kernel, by decide +kernel⟩, List.mem_of_getElem? (i := 939) (by decide +kernel), List.mem_of_getElem? (i := 1123) (by decide +kernel), List.mem_of_getElem? (i := 1124) (by decide +kernel)⟩
theorem lw_p52 : lw_okq (⟨"TwoEndQueuesModel", "down", "(III)V"⟩, 11) := ⟨⟨by decide +kernel, by decide +kernel⟩, List.mem_of_getElem? (i := 939) (by decide +kernel), List.mem_of_getElem? (i := 1127) (by decide +kernel), List.mem_of_getElem? (i := 1128) (by decide +kernel)⟩
theorem lw_p53 : lw_okq (⟨"TwoEndQueuesModel", "takesGreatest", "(I)I"⟩, 11) := ⟨⟨by decide +kernel, by decide +kernel⟩, List.mem_of_getElem? (i := 939) (by decide +kernel), List.mem_of_getElem? (i := 1135) (by decide +kernel), List.mem_of_getElem? (i := 1136) (by decide +kernel)⟩
theorem lw_p54 : lw_okq (⟨"TwoEndQueuesModel", "greatestOf", "(I)I"⟩, 11) := ⟨⟨by decide +kernel, by decide +kernel⟩, List.mem_of_getElem? (i := 939) (by decide +kernel), List.mem_of_getElem? (i := 1139) (by decide +kernel), List.mem_of_getElem? (i := 1140) (by decide +kernel)⟩
theorem lw_p55 : lw_okq (⟨"TwoEndQueuesModel", "isItem", "(I)Z"⟩, 11) := ⟨⟨by decide +kernel, by decide +kernel⟩, List.mem_of_getElem? (i := 939) (by decide +kernel), List.mem_of_getElem? (i := 1147) (by decide +kernel), List.mem_of_getElem? (i := 1148) (by decide +kernel)⟩
theorem lw_p56 : lw_okq (⟨"TwoEndQueuesModel", "changes", "(II)V"⟩, 11) := ⟨⟨by decide +kernel, by decide +kernel⟩, List.mem_of_getElem? (i := 939) (by decide +kernel), List.mem_of_getElem? (i := 1155) (by decide +kernel), List.mem_of_getElem? (i := 1156) (by decide +kernel)⟩
theorem lw_p57 : lw_okq (⟨"TwoEndQueuesModel", "counts", "()I"⟩, 11) := ⟨⟨by decide +kernel, by decide +kernel⟩, List.mem_of_getElem? (i := 939) (by decide +kernel), List.mem_of_getElem? (i := 1163) (by decide +kernel), List.mem_of_getElem? (i := 1164) (by decide +kernel)⟩
theorem lw_p58 : lw_okq (⟨"TwoEndQueuesModel", "builds", "(I)V"⟩, 11) := ⟨⟨by decide +kernel, by decide +kernel⟩, List.mem_of_getElem? (i := 939) (by decide +kernel), List.mem_of_getElem? (i := 1167) (by decide +kernel), List.mem_of_getElem? (i := 1168) (by decide +kernel)⟩
theorem lw_p59 : lw_okq (⟨"TwoEndQueuesModel", "laysAll", "(I)V"⟩, 11) := ⟨⟨by decide +kernel, by decide +kernel⟩, List.mem_of_getElem? (i := 939) (by decide +kernel), List.mem_of_getElem? (i := 1171) (by decide +kernel), List.mem_of_getElem? (i := 1172) (by decide +kernel)⟩
theorem lw_p60 : lw_okq (⟨"TwoEndQueuesModel", "buildsAt", "(III)V"⟩, 11) := ⟨⟨by decide +kernel, by decide +kernel⟩, List.mem_of_getElem? (i := 939) (by decide +kernel), List.mem_of_getElem? (i := 1175) (by decide +kernel), List.mem_of_getElem? (i := 1176) (by decide +kernel)⟩
theorem lw_p61 : lw_okq (⟨"TwoEndQueuesModel", "handleSet", "()I"⟩, 11) := ⟨⟨by decide +kernel, by decide +kernel⟩, List.mem_of_getElem? (i := 939) (by decide +kernel), List.mem_of_getElem? (i := 1191) (by decide +kernel), List.mem_of_getElem? (i := 1192) (by decide +kernel)⟩
theorem lw_p62 : lw_okq (⟨"TwoEndQueuesModel", "rankOf", "(I)I"⟩, 11) := ⟨⟨by decide +kernel, by decide +kernel⟩, List.mem_of_getElem? (i := 939) (by decide +kernel), List.mem_of_getElem? (i := 1220) (by decide +kernel), List.mem_of_getElem? (i := 1221) (by decide +kernel)⟩
theorem lw_p63 : lw_okq (⟨"TwoEndQueuesModel", "wrongIn", "(I)I"⟩, 11) := ⟨⟨by decide +kernel, by decide +kernel⟩, List.mem_of_getElem? (i := 939) (by decide +kernel), List.mem_of_getElem? (i := 1247) (by decide +kernel), List.mem_of_getElem? (i := 1248) (by decide +kernel)⟩
def lw_privs_4 : List (MethodName × Nat) := [(⟨"TwoEndQueuesModel", "topOf", "(II)I"⟩, 11), (⟨"TwoEndQueuesModel", "sinksLow", "(II)V"⟩, 11), (⟨"TwoEndQueuesModel", "sinksHigh", "(II)V"⟩, 11), (⟨"TwoEndQueuesModel", "sinks", "(II)V"⟩, 11), (⟨"TwoEndQueuesModel", "down", "(III)V"⟩, 11), (⟨"TwoEndQueuesModel", "takesGreatest", "(I)I"⟩, 11), (⟨"TwoEndQueuesModel", "greatestOf", "(I)I"⟩, 11), (⟨"TwoEndQueuesModel", "isItem", "(I)Z"⟩, 11), (⟨"TwoEndQueuesModel", "changes", "(II)V"⟩, 11), (⟨"TwoEndQueuesModel", "counts", "()I"⟩, 11), (⟨"TwoEndQueuesModel", "builds", "(I)V"⟩, 11), (⟨"TwoEndQueuesModel", "laysAll", "(I)V"⟩, 11), (⟨"TwoEndQueuesModel", "buildsAt", "(III)V"⟩, 11), (⟨"TwoEndQueuesModel", "handleSet", "()I"⟩, 11), (⟨"TwoEndQueuesModel", "rankOf", "(I)I"⟩, 11), (⟨"TwoEndQueuesModel", "wrongIn", "(I)I"⟩, 11)]
theorem lw_r4 : ∀ q ∈ lw_privs_4, lw_okq q := List.forall_mem_cons.mpr ⟨lw_p48, List.forall_mem_cons.mpr ⟨lw_p49, List.forall_mem_cons.mpr ⟨lw_p50, List.forall_mem_cons.mpr ⟨lw_p51, List.forall_mem_cons.mpr ⟨lw_p52, List.forall_mem_cons.mpr ⟨lw_p53, List.forall_mem_cons.mpr ⟨lw_p54, List.forall_mem_cons.mpr ⟨lw_p55, List.forall_mem_cons.mpr ⟨lw_p56, List.forall_mem_cons.mpr ⟨lw_p57, List.forall_mem_cons.mpr ⟨lw_p58, List.forall_mem_cons.mpr ⟨lw_p59, List.forall_mem_cons.mpr ⟨lw_p60, List.forall_mem_cons.mpr ⟨lw_p61, List.forall_mem_cons.mpr ⟨lw_p62, List.forall_mem_cons.mpr ⟨lw_p63, fun _ h => absurd h List.not_mem_nil⟩⟩⟩⟩⟩⟩⟩⟩⟩⟩⟩⟩⟩⟩⟩⟩
theorem lw_p64 : lw_okq (⟨"TwoEndQueuesModel", "wrongNodes", "()I"⟩, 11) := ⟨⟨by decide +kernel, by decide +kernel⟩, List.mem_of_getElem? (i := 939) (by decide +kernel), List.mem_of_getElem? (i := 1251) (by decide +kernel), List.mem_of_getElem? (i := 1252) (by decide +kernel)⟩
theorem lw_p65 : lw_okq (⟨"TwoEndQueuesModel", "wrong", "(III)I"⟩, 11) := ⟨⟨by decide +kernel, by decide +kernel⟩, List.mem_of_getElem? (i := 939) (by decide +kernel), List.mem_of_getElem? (i := 1255) (by decide +kernel), List.mem_of_getElem? (i := 1256) (by decide +kernel)⟩
theorem lw_p66 : lw_okq (⟨"TwoEndQueuesModel", "wrongLevels", "()I"⟩, 11) := ⟨⟨by decide +kernel, by decide +kernel⟩, List.mem_of_getElem? (i := 939) (by decide +kernel), List.mem_of_getElem? (i := 1259) (by decide +kernel), List.mem_of_getElem? (i := 1260) (by decide +kernel)⟩
theorem lw_p67 : lw_okq (⟨"TwoEndQueuesModel", "above", "(II)I"⟩, 11) := ⟨⟨by decide +kernel, by decide +kernel⟩, List.mem_of_getElem? (i := 939) (by decide +kernel), List.mem_of_getElem? (i := 1276) (by decide +kernel), List.mem_of_getElem? (i := 1277) (by decide +kernel)⟩
theorem lw_p68 : lw_okq (⟨"TwoEndQueuesModel", "canDo", "(II)Z"⟩, 11) := ⟨⟨by decide +kernel, by decide +kernel⟩, List.mem_of_getElem? (i := 939) (by decide +kernel), List.mem_of_getElem? (i := 1292) (by decide +kernel), List.mem_of_getElem? (i := 1293) (by decide +kernel)⟩
theorem lw_p69 : lw_okq (⟨"TwoEndQueuesModel", "keeps", "()V"⟩, 11) := ⟨⟨by decide +kernel, by decide +kernel⟩, List.mem_of_getElem? (i := 939) (by decide +kernel), List.mem_of_getElem? (i := 1296) (by decide +kernel), List.mem_of_getElem? (i := 1297) (by decide +kernel)⟩
theorem lw_p70 : lw_okq (⟨"TwoEndQueuesModel", "does", "(III)V"⟩, 11) := ⟨⟨by decide +kernel, by decide +kernel⟩, List.mem_of_getElem? (i := 939) (by decide +kernel), List.mem_of_getElem? (i := 1300) (by decide +kernel), List.mem_of_getElem? (i := 1301) (by decide +kernel)⟩
theorem lw_p71 : lw_okq (⟨"TwoEndQueuesModel", "returns", "()V"⟩, 11) := ⟨⟨by decide +kernel, by decide +kernel⟩, List.mem_of_getElem? (i := 939) (by decide +kernel), List.mem_of_getElem? (i := 1304) (by decide +kernel), List.mem_of_getElem? (i := 1305) (by decide +kernel)⟩
theorem lw_p72 : lw_okq (⟨"TwoEndQueuesModel", "reads", "(Z)I"⟩, 11) := ⟨⟨by decide +kernel, by decide +kernel⟩, List.mem_of_getElem? (i := 939) (by decide +kernel), List.mem_of_getElem? (i := 1328) (by decide +kernel), List.mem_of_getElem? (i := 1329) (by decide +kernel)⟩
theorem lw_p73 : lw_okq (⟨"TwoEndQueuesModel", "next", "()I"⟩, 11) := ⟨⟨by decide +kernel, by decide +kernel⟩, List.mem_of_getElem? (i := 939) (by decide +kernel), List.mem_of_getElem? (i := 1332) (by decide +kernel), List.mem_of_getElem? (i := 1333) (by decide +kernel)⟩
theorem lw_p74 : lw_okq (⟨"TwoEndQueuesModel", "fails", "()V"⟩, 11) := ⟨⟨by decide +kernel, by decide +kernel⟩, List.mem_of_getElem? (i := 939) (by decide +kernel), List.mem_of_getElem? (i := 1336) (by decide +kernel), List.mem_of_getElem? (i := 1337) (by decide +kernel)⟩
theorem lw_p75 : lw_okq (⟨"TwoEndQueuesModel", "number", "(IZ)I"⟩, 11) := ⟨⟨by decide +kernel, by decide +kernel⟩, List.mem_of_getElem? (i := 939) (by decide +kernel), List.mem_of_getElem? (i := 1340) (by decide +kernel), List.mem_of_getElem? (i := 1341) (by decide +kernel)⟩
theorem lw_p76 : lw_okq (⟨"TwoEndQueuesModel", "takes", "(I)V"⟩, 11) := ⟨⟨by decide +kernel, by decide +kernel⟩, List.mem_of_getElem? (i := 939) (by decide +kernel), List.mem_of_getElem? (i := 1344) (by decide +kernel), List.mem_of_getElem? (i := 1345) (by decide +kernel)⟩
theorem lw_p77 : lw_okq (⟨"TwoEndQueuesModel", "isDone", "(III)Z"⟩, 11) := ⟨⟨by decide +kernel, by decide +kernel⟩, List.mem_of_getElem? (i := 939) (by decide +kernel), List.mem_of_getElem? (i := 1348) (by decide +kernel), List.mem_of_getElem? (i := 1349) (by decide +kernel)⟩
theorem lw_p78 : lw_okq (⟨"TwoEndQueuesModel", "mix", "(J)V"⟩, 11) := ⟨⟨by decide +kernel, by decide +kernel⟩, List.mem_of_getElem? (i := 939) (by decide +kernel), List.mem_of_getElem? (i := 1361) (by decide +kernel), List.mem_of_getElem? (i := 1362) (by decide +kernel)⟩
def lw_privs_5 : List (MethodName × Nat) := [(⟨"TwoEndQueuesModel", "wrongNodes", "()I"⟩, 11), (⟨"TwoEndQueuesModel", "wrong", "(III)I"⟩, 11), (⟨"TwoEndQueuesModel", "wrongLevels", "()I"⟩, 11), (⟨"TwoEndQueuesModel", "above", "(II)I"⟩, 11), (⟨"TwoEndQueuesModel", "canDo", "(II)Z"⟩, 11), (⟨"TwoEndQueuesModel", "keeps", "()V"⟩, 11), (⟨"TwoEndQueuesModel", "does", "(III)V"⟩, 11), (⟨"TwoEndQueuesModel", "returns", "()V"⟩, 11), (⟨"TwoEndQueuesModel", "reads", "(Z)I"⟩, 11), (⟨"TwoEndQueuesModel", "next", "()I"⟩, 11), (⟨"TwoEndQueuesModel", "fails", "()V"⟩, 11), (⟨"TwoEndQueuesModel", "number", "(IZ)I"⟩, 11), (⟨"TwoEndQueuesModel", "takes", "(I)V"⟩, 11), (⟨"TwoEndQueuesModel", "isDone", "(III)Z"⟩, 11), (⟨"TwoEndQueuesModel", "mix", "(J)V"⟩, 11)]
theorem lw_r5 : ∀ q ∈ lw_privs_5, lw_okq q := List.forall_mem_cons.mpr ⟨lw_p64, List.forall_mem_cons.mpr ⟨lw_p65, List.forall_mem_cons.mpr ⟨lw_p66, List.forall_mem_cons.mpr ⟨lw_p67, List.forall_mem_cons.mpr ⟨lw_p68, List.forall_mem_cons.mpr ⟨lw_p69, List.forall_mem_cons.mpr ⟨lw_p70, List.forall_mem_cons.mpr ⟨lw_p71, List.forall_mem_cons.mpr ⟨lw_p72, List.forall_mem_cons.mpr ⟨lw_p73, List.forall_mem_cons.mpr ⟨lw_p74, List.forall_mem_cons.mpr ⟨lw_p75, List.forall_mem_cons.mpr ⟨lw_p76, List.forall_mem_cons.mpr ⟨lw_p77, List.forall_mem_cons.mpr ⟨lw_p78, fun _ h => absurd h List.not_mem_nil⟩⟩⟩⟩⟩⟩⟩⟩⟩⟩⟩⟩⟩⟩⟩
def lw_privs : List (MethodName × Nat) := lw_privs_1 ++ (lw_privs_2 ++ (lw_privs_3 ++ (lw_privs_4 ++ (lw_privs_5))))
def lw_tbl : List Cond := k2_sels lw_privs ++ tables_1
theorem lw_privs_ok : ∀ q ∈ lw_privs, lw_okq q := by
  show ∀ q ∈ lw_privs_1 ++ (lw_privs_2 ++ (lw_privs_3 ++ (lw_privs_4 ++ (lw_privs_5)))), lw_okq q
  exact List.forall_mem_append.mpr ⟨lw_r1, List.forall_mem_append.mpr ⟨lw_r2, List.forall_mem_append.mpr ⟨lw_r3, List.forall_mem_append.mpr ⟨lw_r4, lw_r5⟩⟩⟩⟩
-- ===== end of PART A; then your names; then what follows =====
end
section
/-! ===== BEGIN words of one list among another's, by their places ===== -/
theorem goodIn_r {big : List Cond} (ws : List Cond) (ps : List Nat) (hp : ws = ps.filterMap (fun i => big[i]?)) (h : ws.all goodWord = true) : GoodIn big ws := by
  intro w hw
  have h1 := List.all_eq_true.mp h w hw
  rw [hp] at hw
  obtain ⟨i, -, hi⟩ := List.mem_filterMap.mp hw
  have hm : w ∈ big := by first | exact List.mem_of_getElem? hi | exact List.getElem?_mem hi
  exact ⟨hm, good_of_word h1⟩
theorem goodIn_app {big a b : List Cond} (ha : GoodIn big a) (hb : GoodIn big b) : GoodIn big (a ++ b) := fun w h => (List.mem_append.mp h).elim (ha w) (hb w)
theorem goodIn_ca {big a b : List Cond} {c : Cond} (ha : GoodIn big (c :: a)) (hb : GoodIn big b) : GoodIn big (c :: (a ++ b)) := fun w h => (List.mem_cons.mp h).elim (fun e => ha w (List.mem_cons.mpr (Or.inl e))) (fun h => (List.mem_append.mp h).elim (fun h => ha w (List.mem_cons.mpr (Or.inr h))) (hb w))
theorem goodIn_sub {big ws : List Cond} (hm : ∀ w ∈ ws, w ∈ big) (h : ws.all goodWord = true) : GoodIn big ws := fun w hw => ⟨hm w hw, good_of_word (List.all_eq_true.mp h w hw)⟩
/-! ===== END ===== -/
/-! ===== BEGIN exceptions that leave a method, and their catching by the caller (launches without stack traces) ===== -/
section VXA
/-! The laws vx_back, vx_callV, vx_callS, vx_callSW, vx_throw0, vx_throwS follow proofs of the library, with one case more: JvmDerived/Free/Laws.lean (Back.of_free), Shelf42/LK1.lean (callV, callS), Shelf/KitTraced.lean (throwNew0V, throwNewS). -/
/-- where a method has thrown q: the class by its name, the cell, what was written, the world -/
def vx_T (XC : String → State → State → Prop) (st : State) (q : Addr) (t : State) (mc ms : Nat) (free : Addr → Prop) : Prop :=
  ∃ (E : String) (ce : Cell) (L : List Loc), XC E st t ∧ t.heap[q]? = some ce ∧ ce.vm = .none ∧ st.vm.findClass E = some ce.cls ∧ st.WarmedH t.vm ∧ st.sameButNew ({ t with vm := st.vm } : State) L mc ms ∧ ∀ z ∈ L, free z.base
def vx_Q (Qc : Array Value → State → Outcome → State → Prop) (XC : String → State → State → Prop) (mc ms : Nat) (free : Addr → Prop) : Array Value → State → Outcome → State → Prop := fun a st o t =>
  (Qc a st o t ∧ ∃ L, FrameEnd st o t L mc ms ∧ ∀ q ∈ L, free q.base) ∨ ∃ q, o = .threw q ∧ vx_T XC st q t mc ms free
/-- a callee that returns or throws -/
def vx_Met (l : Launch) (y : MethodName) (ws : List Cond) (rm : Room) (Pc : Array Value → State → Prop) (Qc : Array Value → State → Outcome → State → Prop) (XC : String → State → State → Prop) (mc ms : Nat) (free : Addr → Prop) : Prop :=
  MetFree l y (headSpec ws rm) Pc (fun _ _ _ _ _ => True) (vx_Q Qc XC mc ms free)
def vx_Post (XC : String → State → State → Prop) (mc ms : Nat) (free : Addr → Prop) : Pt → Array Value → Addr → Pt → Prop := fun A a q B =>
  ∃ (g : JFrame) (mk : MethodId) (t : State) (L : List Loc) (E : String) (ce : Cell), B.U.heap = t.heap ∧ B.U.vm = t.vm ∧ XC E (A.U.calling g mk a) t ∧ t.heap[q]? = some ce ∧ ce.vm = .none ∧ A.U.vm.findClass E = some ce.cls ∧ B.locs = A.locs ++ L ∧ (∀ z ∈ L, free z.base) ∧ B.cells = A.cells + mc ∧ B.slots = A.slots + ms
def vx_Back (l : Launch) (R : Room) (p : Program) (e : Env) (below : List Frame) (s : State) (sargs : Array Value) (y : MethodName) (len W9 : Nat)
    (Pre : Pt → Array Value → Prop) (Post : Pt → Array Value → Option Value → Pt → Prop) (PostX : Pt → Array Value → Addr → Pt → Prop) : Prop :=
  ∀ (m : MethodId) (meth : Method) (c : Code) (A : Pt) (g : JFrame) (ig : Instr) (mk : MethodId) (a : Array Value),
    Stand p l e R s m sargs below meth c A.U A.locs A.cells A.slots → g.method = m → g.locals.size = c.maxLocals → decode c.code g.pc = .ok (ig, len) →
    2 * g.monitorRoom + (g.stack.map fun v => v.category).sum ≤ W9 → A.U.methodNamed? y = some mk → Pre A a →
    (∃ (v : Option Value) (B : Pt), Stand p l e R s m sargs below meth c B.U B.locs B.cells B.slots ∧ Post A a v B ∧
      Steps p.tables e below (doInvoke e (A.U.setTop g) [] mk a).1 (B.U.setTop { g with pc := g.pc + len, stack := v.toList ++ g.stack })) ∨
    (∃ (q : Addr) (B : Pt), Stand p l e R s m sargs below meth c B.U B.locs B.cells B.slots ∧ PostX A a q B ∧
      Steps p.tables e below (doInvoke e (A.U.setTop g) [] mk a).1 ((B.U.setTop g).pushFrame (.throwing q)))
section Payer
variable {l : Launch} {R : Room} {p : Program} {e : Env} {below : List Frame} {s : State} {sargs : Array Value} {y : MethodName} {len W9 : Nat}
theorem vx_back {ws : List Cond} {rm : Room} {Pc : Array Value → State → Prop} {Qc : Array Value → State → Outcome → State → Prop} {XC : String → State → State → Prop} {mc ms : Nat} {free : Addr → Prop} {bytes : ByteArray} {maxL : Nat} {ret : Option FieldType}
    (hM : vx_Met l y ws rm Pc Qc XC mc ms free) (hblind : FrameBlind Pc) (hrc : rm.cells = mc) (hrs : rm.slots = ms)
    (hframes : rm.frames + 1 ≤ R.frames) (hlocals : W9 + (maxL + 11) + rm.locals ≤ R.locals)
    (hws : ∀ w ∈ ws, ∀ a' U, s.WarmedH U.vm → w.before a' U = true) (hcode : Cond.code y bytes maxL ret ∈ ws) (hinit : ∀ a' U, s.WarmedH U.vm → (Cond.initialized y.cls).before a' U = true) :
    vx_Back l R p e below s sargs y len W9 (PreOf R mc ms Pc) (PostOf Qc mc ms free) (vx_Post XC mc ms free) := by
  intro m meth c A g ig mk a X hg hsize hdg hW hn hp
  have h1 : (headSpec ws rm).pre.before a A.U = true := atoms_intro fun w hw => hws w hw _ _ X.warmed
  have h2 : (Cond.code y bytes maxL ret).before a A.U = true := hws _ hcode _ _ X.warmed
  have h3 : (Cond.initialized y.cls).before a A.U = true := hinit _ _ X.warmed
  have h4 : A.cells + (headSpec ws rm).room.cells ≤ R.cells := by rw [show (headSpec ws rm).room.cells = mc from hrc]; exact hp.1
  have h5 : A.slots + (headSpec ws rm).room.slots ≤ R.slots := by rw [show (headSpec ws rm).room.slots = ms from hrs]; exact hp.2.1
  have hPc : Pc a (A.U.calling g mk a) := hblind _ _ _ _ hp.2.2
  obtain ⟨U, Ls, c0, s0⟩ := A
  dsimp only [Pt.U, Pt.locs, Pt.cells, Pt.slots] at h1 h2 h3 h4 h5 X hn hPc ⊢
  obtain ⟨methY, cY, hmY, hcY, -, hlY, -, -, -, -⟩ := Cond.code_spec hn h2
  obtain ⟨kY, hkY, -⟩ := className_of_methodNamed hn
  have hinitY : kY.init = .initialized := Cond.initialized_spec (findClass_of_methodNamed hn) hkY h3
  have h : At U g.method c below := by rw [hg]; exact X.here
  have hlocals9 : W9 + (maxL + 11) + (headSpec ws rm).room.locals ≤ R.locals := hlocals
  have happ : (headSpec ws rm).appliesLoose y e.platform (U.calling g mk a) = true :=
    Spec.appliesLoose_calling (g := g) h hdg hn hkY hinitY
      (X.room_calling (g := g) (R' := (headSpec ws rm).room) hsize hmY hcY hframes (by rw [hlY]; omega) h4 h5) h1
  obtain ⟨mid, hmid⟩ := h.above
  have hfr : (U.setTop g).frames = (.java g :: mid) ++ below := by rw [State.frames_setTop' g h.top, hmid]; rfl
  obtain ⟨o, s₂, hsteps, -, hend, hq⟩ := Steps.callFree hM p X.admits X.cas X.clock (acts := []) hfr happ hPc trivial
  have hq' : vx_Q Qc XC mc ms free a (U.calling g mk a) o s₂ := hq
  rw [State.frames_setTop' g h.top] at hend
  obtain ⟨g₀, hg0⟩ := Option.isSome_iff_exists.mp h.top
  obtain ⟨r, hr⟩ := State.topJava?_eq_some.mp hg0
  have hr' : (({ U with heap := s₂.heap, slotsUsed := s₂.slotsUsed } : State).setVm s₂.vm).frames = .java g₀ :: r := hr
  rcases hq' with ⟨hqc, L, hfe, hL⟩ | ⟨q, rfl, E, ce, L, hx, hce, hcv, hcl, hW₂, hsm, hL⟩
  · obtain ⟨⟨v, rfl⟩, hW₂, e2, q2, q3, q4, q5, q6⟩ := id hfe
    have e3 : s₂ = ({ (U.calling g mk a).setFrames s₂.frames with heap := s₂.heap, slotsUsed := s₂.slotsUsed } : State).setVm s₂.vm := by
      have : s₂ = ({ s₂ with vm := (U.calling g mk a).vm } : State).setVm s₂.vm := rfl
      rw [e2] at this
      exact this
    obtain ⟨c₂, i₂, len₂, hc₂, hd₂, hf₂⟩ := hend
    have hW' : U.WarmedH s₂.vm := hW₂
    have hcc : c₂ = c := by
      have h1 : s₂.code? g.method = U.code? g.method := by
        rw [State.code?_eq, State.code?_eq, hW'.alike.method?]
      exact Option.some.inj (hc₂.symm.trans (h1.trans h.code))
    subst hcc
    have hlen : len₂ = len := by rw [hdg] at hd₂; cases hd₂; rfl
    subst hlen
    have hs₂ : s₂ = (({ U with heap := s₂.heap, slotsUsed := s₂.slotsUsed } : State).setVm s₂.vm).setTop { g with pc := g.pc + len₂, stack := v.toList ++ g.stack } := by
      refine e3.trans ?_
      rw [hf₂, State.calling_eq h.top, State.setFrames_setFrames, State.setTop_of_frames _ hr', hr]
      rfl
    have hsame : U.sameButNew ({ U with heap := s₂.heap, slotsUsed := s₂.slotsUsed } : State) L mc ms := by
      refine ⟨?_, q2, q3, q4, q5, q6⟩
      obtain ⟨t, ht, -⟩ := State.frames_cons hr
      show ({ U with heap := s₂.heap, slotsUsed := s₂.slotsUsed } : State) = { U.setFrames U.frames with heap := s₂.heap, slotsUsed := s₂.slotsUsed }
      rw [State.setFrames_self ht]
    subst hg
    refine Or.inl ⟨v, ⟨(({ U with heap := s₂.heap, slotsUsed := s₂.slotsUsed } : State).setVm s₂.vm), Ls ++ L, c0 + mc, s0 + ms⟩,
      ⟨X.admits, X.cas, X.clock, X.frames, X.room, X.hears, X.method, X.code, (X.here.setHeapUsed s₂.heap s₂.slotsUsed).setVm hW'.alike, X.tail, State.WarmedH.trans X.warmed hW', X.limits, X.bytes, X.same.trans (hsame.setVm s.vm)⟩,
      ⟨g, mk, s₂, L, rfl, rfl, hqc, rfl, hL, rfl, rfl⟩, ?_⟩
    show Steps p.tables e below _ ((({ U with heap := s₂.heap, slotsUsed := s₂.slotsUsed } : State).setVm s₂.vm).setTop { g with pc := g.pc + len₂, stack := v.toList ++ g.stack })
    rw [← hs₂]
    exact hsteps
  · obtain ⟨e2, q2, q3, q4, q5, q6⟩ := id hsm
    have e3 : s₂ = ({ (U.calling g mk a).setFrames s₂.frames with heap := s₂.heap, slotsUsed := s₂.slotsUsed } : State).setVm s₂.vm := by
      have : s₂ = ({ s₂ with vm := (U.calling g mk a).vm } : State).setVm s₂.vm := rfl
      rw [e2] at this
      exact this
    have hf₂ : s₂.frames = .throwing q :: .java g :: U.frames.tail := hend
    have hW' : U.WarmedH s₂.vm := hW₂
    have hs₂ : s₂ = ((({ U with heap := s₂.heap, slotsUsed := s₂.slotsUsed } : State).setVm s₂.vm).setTop g).pushFrame (.throwing q) := by
      refine e3.trans ?_
      rw [hf₂, State.calling_eq h.top, State.setFrames_setFrames, State.pushFrame, State.frames_setTop _ hr', State.setTop_of_frames _ hr', State.setFrames_setFrames, hr]
      rfl
    have hsame : U.sameButNew ({ U with heap := s₂.heap, slotsUsed := s₂.slotsUsed } : State) L mc ms := by
      refine ⟨?_, q2, q3, q4, q5, q6⟩
      obtain ⟨t, ht, -⟩ := State.frames_cons hr
      show ({ U with heap := s₂.heap, slotsUsed := s₂.slotsUsed } : State) = { U.setFrames U.frames with heap := s₂.heap, slotsUsed := s₂.slotsUsed }
      rw [State.setFrames_self ht]
    subst hg
    refine Or.inr ⟨q, ⟨(({ U with heap := s₂.heap, slotsUsed := s₂.slotsUsed } : State).setVm s₂.vm), Ls ++ L, c0 + mc, s0 + ms⟩,
      ⟨X.admits, X.cas, X.clock, X.frames, X.room, X.hears, X.method, X.code, (X.here.setHeapUsed s₂.heap s₂.slotsUsed).setVm hW'.alike, X.tail, State.WarmedH.trans X.warmed hW', X.limits, X.bytes, X.same.trans (hsame.setVm s.vm)⟩,
      ⟨g, mk, s₂, L, E, ce, rfl, rfl, hx, hce, hcv, hcl, rfl, hL, rfl, rfl⟩, ?_⟩
    show Steps p.tables e below _ (((({ U with heap := s₂.heap, slotsUsed := s₂.slotsUsed } : State).setVm s₂.vm).setTop g).pushFrame (.throwing q))
    rw [← hs₂]
    exact hsteps
end Payer
section Calls
variable {p : Program} {l : Launch} {e : Env} {R : Room} {s : State} {m : MethodId} {args : Array Value} {below : List Frame} {meth : Method} {c : Code} {T : State} {locs : List Loc} {cells slots : Nat}
theorem vx_callV (X : Stand p l e R s m args below meth c T locs cells slots) (hexec : p.tables.exec = Jvm.exec) {own C : String} {index : Nat} {y : MethodName} {bytes : ByteArray} {maxL : Nat} {ret : Option FieldType}
    (hown : s.vm.findClass own = some m.cls) (hlink : (Cond.methodLink own index y).before args s = true) (hinst : (Cond.instanceMethod y).before args s = true) (hsel : (Cond.selects C y y).before args s = true)
    (hcode : (Cond.code y bytes maxL ret).before args s = true) (hy : y.cls ≠ "java/lang/invoke/MethodHandle" ∧ y.cls ≠ "java/lang/invoke/VarHandle")
    {W9 : Nat} {Pre : Pt → Array Value → Prop} {Post : Pt → Array Value → Option Value → Pt → Prop} {PostX : Pt → Array Value → Addr → Pt → Prop} (hK : vx_Back l R p e below s args y 3 W9 Pre Post PostX)
    {b : Addr} {cellB : Cell} (hcell : T.heap[b]? = some cellB) (hobj : cellB.vm.isStatics = false) (hcls : s.vm.findClass C = some cellB.cls)
    {g : JFrame} (hg : g.method = m) (hsize : g.locals.size = c.maxLocals) {argsL rest : List Value} (hlen : ∀ sig, parseMethodDescriptor y.desc = some sig → argsL.length = sig.parameters.length)
    (hstack : g.stack = argsL.reverse ++ .ref b :: rest) (hW : 2 * g.monitorRoom + (rest.map fun v => v.category).sum ≤ W9) (hdg : decode c.code g.pc = .ok (.invokevirtual index, 3))
    (hpre : ∀ vm₁, s.WarmedH vm₁ → Pre ⟨T.setVm vm₁, locs, cells, slots⟩ (Value.ref b :: argsL).toArray) :
    (∃ (v : Option Value) (vm₁ : Vm) (B : Pt), s.WarmedH vm₁ ∧ Stand p l e R s m args below meth c B.U B.locs B.cells B.slots ∧ Post ⟨T.setVm vm₁, locs, cells, slots⟩ (Value.ref b :: argsL).toArray v B ∧
      ∀ target, Steps p.tables e below (B.U.setTop { g with pc := g.pc + 3, stack := v.toList ++ rest }) target → Steps p.tables e below (T.setTop g) target) ∨
    (∃ (q : Addr) (vm₁ : Vm) (B : Pt), s.WarmedH vm₁ ∧ Stand p l e R s m args below meth c B.U B.locs B.cells B.slots ∧ PostX ⟨T.setVm vm₁, locs, cells, slots⟩ (Value.ref b :: argsL).toArray q B ∧
      Steps p.tables e below (T.setTop g) ((B.U.setTop { g with stack := rest }).pushFrame (.throwing q))) := by
  obtain ⟨mk, methM, hnamed, hmethM, hstM, habM⟩ := Cond.instanceMethod_spec hinst
  obtain ⟨methM', cM, hmethM', -, -, -, -, -, -, hsigM⟩ := Cond.code_spec hnamed hcode
  cases hmethM.symm.trans hmethM'
  obtain ⟨c2, r2, m2, q1, q2, q3, q4, kP, hkP, hkPi⟩ := Cond.selects_spec hsel
  cases hcls.symm.trans q1
  cases (State.methodFound?_of_named hnamed hy).symm.trans q2
  cases hnamed.symm.trans q3
  have hselP : selectMethod e.platform s.vm cellB.cls mk = .method mk := by rw [Launch.admits_selectMethod X.admits]; exact q4
  obtain ⟨vm₁, X₁, hstep₁⟩ := X.invokevirtual hexec hown hlink hnamed hmethM hstM hkP hkPi hy (a := b) (cell := cellB) hcell
    (fun z h => by rw [h] at hobj; cases hobj) hselP hmethM habM hkP hkPi (g := g) hg (argsL := argsL) (rest := rest) (hlen _ hsigM) hstack hdg
  rcases hK m meth c ⟨T.setVm vm₁, locs, cells, slots⟩ { g with stack := rest } (.invokevirtual index) mk (Value.ref b :: argsL).toArray X₁ hg hsize hdg hW (X₁.named hnamed) (hpre vm₁ X₁.warmed) with ⟨v, B, X', hpost, hsteps⟩ | ⟨q, B, X', hpost, hsteps⟩
  · exact Or.inl ⟨v, vm₁, B, X₁.warmed, X', hpost, fun target h => hstep₁ _ fun acts => by rw [doInvoke_state]; exact hsteps.trans h⟩
  · exact Or.inr ⟨q, vm₁, B, X₁.warmed, X', hpost, hstep₁ _ fun acts => by rw [doInvoke_state]; exact hsteps⟩
theorem vx_callS (X : Stand p l e R s m args below meth c T locs cells slots) (hexec : p.tables.exec = Jvm.exec) {own : String} {index : Nat} {y : MethodName} {bytes : ByteArray} {maxL : Nat} {ret : Option FieldType}
    (hown : s.vm.findClass own = some m.cls) (hlink : (Cond.methodLink own index y).before args s = true) (hstat : (Cond.static y).before args s = true) (hinit : (Cond.initialized y.cls).before args s = true)
    (hcode : (Cond.code y bytes maxL ret).before args s = true) (hy : y.cls ≠ "java/lang/invoke/MethodHandle" ∧ y.cls ≠ "java/lang/invoke/VarHandle")
    {W9 : Nat} {Pre : Pt → Array Value → Prop} {Post : Pt → Array Value → Option Value → Pt → Prop} {PostX : Pt → Array Value → Addr → Pt → Prop} (hK : vx_Back l R p e below s args y 3 W9 Pre Post PostX)
    {g : JFrame} (hg : g.method = m) (hsize : g.locals.size = c.maxLocals) {argsL rest : List Value} (hlen : ∀ sig, parseMethodDescriptor y.desc = some sig → argsL.length = sig.parameters.length)
    (hstack : g.stack = argsL.reverse ++ rest) (hW : 2 * g.monitorRoom + (rest.map fun v => v.category).sum ≤ W9) (hdg : decode c.code g.pc = .ok (.invokestatic index, 3))
    (hpre : ∀ vm₁, s.WarmedH vm₁ → Pre ⟨T.setVm vm₁, locs, cells, slots⟩ argsL.toArray) :
    (∃ (v : Option Value) (vm₁ : Vm) (B : Pt), s.WarmedH vm₁ ∧ Stand p l e R s m args below meth c B.U B.locs B.cells B.slots ∧ Post ⟨T.setVm vm₁, locs, cells, slots⟩ argsL.toArray v B ∧
      ∀ target, Steps p.tables e below (B.U.setTop { g with pc := g.pc + 3, stack := v.toList ++ rest }) target → Steps p.tables e below (T.setTop g) target) ∨
    (∃ (q : Addr) (vm₁ : Vm) (B : Pt), s.WarmedH vm₁ ∧ Stand p l e R s m args below meth c B.U B.locs B.cells B.slots ∧ PostX ⟨T.setVm vm₁, locs, cells, slots⟩ argsL.toArray q B ∧
      Steps p.tables e below (T.setTop g) ((B.U.setTop { g with stack := rest }).pushFrame (.throwing q))) := by
  obtain ⟨mk, hnamed⟩ := Cond.code_named hcode
  obtain ⟨methM, cM, hmethM, -, -, -, -, -, -, hsigM⟩ := Cond.code_spec hnamed hcode
  have hstatic : methM.isStatic = true := Cond.static_spec hnamed hmethM hstat
  obtain ⟨kP, hkP, -⟩ := className_of_methodNamed hnamed
  have hinitP : kP.init = .initialized := Cond.initialized_spec (findClass_of_methodNamed hnamed) hkP hinit
  obtain ⟨vm₁, X₁, hstep₁⟩ := X.invokestatic hexec hown hlink hnamed hmethM hstatic hkP hinitP hy (g := g) hg (argsL := argsL) (rest := rest) (hlen _ hsigM) hstack hdg
  rcases hK m meth c ⟨T.setVm vm₁, locs, cells, slots⟩ { g with stack := rest } (.invokestatic index) mk argsL.toArray X₁ hg hsize hdg hW (X₁.named hnamed) (hpre vm₁ X₁.warmed) with ⟨v, B, X', hpost, hsteps⟩ | ⟨q, B, X', hpost, hsteps⟩
  · exact Or.inl ⟨v, vm₁, B, X₁.warmed, X', hpost, fun target h => hstep₁ _ fun acts => by rw [doInvoke_state]; exact hsteps.trans h⟩
  · exact Or.inr ⟨q, vm₁, B, X₁.warmed, X', hpost, hstep₁ _ fun acts => by rw [doInvoke_state]; exact hsteps⟩
end Calls
theorem vx_cls {s : State} {T : State} {vm₁ : Vm} {E : String} {k : ClassId} (hW : s.WarmedH vm₁) (h : (T.setVm vm₁).vm.findClass E = some k) : s.vm.findClass E = some k := by
  have h1 : vm₁.findClass E = some k := h
  rw [hW.alike.findClass] at h1
  exact h1
/-- the method's frame g, with q thrown over it -/
def vx_W (p : Program) (l : Launch) (e : Env) (R : Room) (s : State) (m : MethodId) (args : Array Value) (below : List Frame) (meth : Method) (c : Code) (H : Heap) (locs : List Loc) (cells slots : Nat) (Q : State → Prop) (g : JFrame) (q : Addr) : Prop :=
  ∀ T : State, T.heap = H → Stand p l e R s m args below meth c T locs cells slots → ∃ t, Steps p.tables e below ((T.setTop g).pushFrame (.throwing q)) t ∧ Q t
def vx_Run (p : Program) (l : Launch) (e : Env) (R : Room) (s : State) (m : MethodId) (args : Array Value) (below : List Frame) (meth : Method) (c : Code) (H : Heap) (locs : List Loc) (cells slots mc ms : Nat) (g : JFrame) (rest : List Value) (Qa : State → Outcome → State → Prop) (XC : String → State → State → Prop) (free : Addr → Prop) : Prop :=
  ∀ T : State, T.heap = H → Stand p l e R s m args below meth c T locs cells slots →
    (∃ (v : Option Value) (st₀ t T' : State) (L : List Loc), st₀.heap = H ∧ Stand p l e R s m args below meth c T' (locs ++ L) (cells + mc) (slots + ms) ∧ (∀ q ∈ L, free q.base) ∧ T'.heap = t.heap ∧ T'.vm = t.vm ∧ Qa st₀ (.returned v) t ∧
      Goes p e below T g T' { g with pc := g.pc + 3, stack := v.toList ++ rest }) ∨
    (∃ (q : Addr) (st₀ t T' : State) (L : List Loc) (E : String) (ce : Cell), st₀.heap = H ∧ Stand p l e R s m args below meth c T' (locs ++ L) (cells + mc) (slots + ms) ∧ (∀ z ∈ L, free z.base) ∧ T'.heap = t.heap ∧ T'.vm = t.vm ∧ XC E st₀ t ∧ t.heap[q]? = some ce ∧ ce.vm = .none ∧ s.vm.findClass E = some ce.cls ∧
      Steps p.tables e below (T.setTop g) ((T'.setTop { g with stack := rest }).pushFrame (.throwing q)))
def vx_X {S : Type} (px : S → Prop) (B : String → S → State → Prop) (A : Nat → Prop) : String → State → State → Prop := fun E st t => ∃ u : S, px u ∧ B E u t ∧ va_F A st t
section Runs
variable {p : Program} {l : Launch} {e : Env} {R : Room} {s : State} {m : MethodId} {args : Array Value} {below : List Frame} {meth : Method} {c : Code} {H : Heap} {locs : List Loc} {cells slots : Nat}
variable {y : MethodName} {bytes cc : ByteArray} {maxL nL mc ms n index : Nat} {ret : Option FieldType} {ws : List Cond} {rm : Room} {Pc : Array Value → State → Prop} {Qc : Array Value → State → Outcome → State → Prop} {XC : String → State → State → Prop} {free : Addr → Prop} {Ts : List Cond} {own C : String} {b : Addr} {As rest : List Value} {g : JFrame}
theorem vx_callBack (cb : CallB R s args own index y bytes maxL ret ws rm mc ms n) (hM : vx_Met l y ws rm Pc Qc XC mc ms free) (hbl : FrameBlind Pc) : vx_Back l R p e below s args y 3 8 (PreOf R mc ms Pc) (PostOf Qc mc ms free) (vx_Post XC mc ms free) := by
  obtain ⟨hrc, hrs, hfr, hlo, hws, hcw, -, hini, -⟩ := cb
  exact vx_back (bytes := bytes) (maxL := maxL) (ret := ret) hM hbl hrc hrs hfr hlo hws hcw (fun a' U hW => word_at hW (Or.inl (by first | rfl | simp [Cond.onTables, Cond.keeps, Cond.steady])) hini)
theorem vx_runV (S : CallFix p m c cc nL s args Ts own) (hM : vx_Met l y ws rm Pc Qc XC mc ms free) (cw : CallW R s args own C index y bytes maxL ret ws rm mc ms n) (hp : PreV s H C b Pc As)
    (hg : g.method = m) (hn : As.length = n) (hsize : g.locals.size = nL) (hstack : g.stack = As.reverse ++ .ref b :: rest) (hW : 2 * g.monitorRoom + (rest.map fun v => v.category).sum ≤ 8) (hdg : decode cc g.pc = .ok (.invokevirtual index, 3)) (hf : cells + mc ≤ R.cells ∧ slots + ms ≤ R.slots) :
    vx_Run p l e R s m args below meth c H locs cells slots mc ms g rest (Qc (Value.ref b :: As).toArray) XC free := by
  have hK : vx_Back l R p e below s args y 3 8 (PreOf R mc ms Pc) (PostOf Qc mc ms free) (vx_Post XC mc ms free) := vx_callBack cw.1 hM hp.1
  obtain ⟨⟨-, -, -, -, -, -, hcode, -, hy, hlen, hl⟩, hin, hse⟩ := cw
  obtain ⟨hx, hb, hml, ho, -⟩ := S
  obtain ⟨-, ⟨cellB, hcB, hoB, hclB⟩, hPc⟩ := hp
  intro T hT X
  rcases vx_callV X hx (C := C) (bytes := bytes) (maxL := maxL) (ret := ret) ho hl hin hse hcode hy hK (by rw [hT]; exact hcB) hoB hclB hg (hsize.trans hml.symm) (argsL := As) (rest := rest) (fun sig h => hn.trans (hlen sig h)) hstack hW (by rw [hb]; exact hdg)
    (fun vm₁ hW₁ => ⟨hf.1, hf.2, hPc (T.setVm vm₁) hT hW₁⟩) with ⟨v, vm₁, ⟨U', l2, c2, s2⟩, hW₁, X', ⟨g', mk, t, L, e1, e2, hq, h1, hL, h2, h3⟩, st⟩ | ⟨q, vm₁, ⟨U', l2, c2, s2⟩, hW₁, X', ⟨g', mk, t, L, E, ce, e1, e2, hq, hce, hcv, hcl, h1, hL, h2, h3⟩, st⟩
  · dsimp only [Pt.U, Pt.locs, Pt.cells, Pt.slots] at X' e1 e2 h1 h2 h3 st
    subst h1; subst h2; subst h3
    exact Or.inl ⟨v, (T.setVm vm₁).calling g' mk (Value.ref b :: As).toArray, t, U', L, hT, X', hL, e1, e2, hq, st⟩
  · dsimp only [Pt.U, Pt.locs, Pt.cells, Pt.slots] at X' e1 e2 h1 h2 h3 st hcl
    subst h1; subst h2; subst h3
    exact Or.inr ⟨q, (T.setVm vm₁).calling g' mk (Value.ref b :: As).toArray, t, U', L, E, ce, hT, X', hL, e1, e2, hq, hce, hcv, vx_cls hW₁ hcl, st⟩
theorem vx_runS (S : CallFix p m c cc nL s args Ts own) (hM : vx_Met l y ws rm Pc Qc XC mc ms free) (cw : CallB R s args own index y bytes maxL ret ws rm mc ms n ∧ (Cond.static y).before args s = true) (hp : PreS s H Pc As)
    (hg : g.method = m) (hn : As.length = n) (hsize : g.locals.size = nL) (hstack : g.stack = As.reverse ++ rest) (hW : 2 * g.monitorRoom + (rest.map fun v => v.category).sum ≤ 8) (hdg : decode cc g.pc = .ok (.invokestatic index, 3)) (hf : cells + mc ≤ R.cells ∧ slots + ms ≤ R.slots) :
    vx_Run p l e R s m args below meth c H locs cells slots mc ms g rest (Qc As.toArray) XC free := by
  have hK : vx_Back l R p e below s args y 3 8 (PreOf R mc ms Pc) (PostOf Qc mc ms free) (vx_Post XC mc ms free) := vx_callBack cw.1 hM hp.1
  obtain ⟨⟨-, -, -, -, -, -, hcode, hini, hy, hlen, hl⟩, hstt⟩ := cw
  obtain ⟨hx, hb, hml, ho, -⟩ := S
  intro T hT X
  rcases vx_callS X hx (bytes := bytes) (maxL := maxL) (ret := ret) ho hl hstt hini hcode hy hK hg (hsize.trans hml.symm) (argsL := As) (rest := rest) (fun sig h => hn.trans (hlen sig h)) hstack hW (by rw [hb]; exact hdg)
    (fun vm₁ hW₁ => ⟨hf.1, hf.2, hp.2 (T.setVm vm₁) hT hW₁⟩) with ⟨v, vm₁, ⟨U', l2, c2, s2⟩, hW₁, X', ⟨g', mk, t, L, e1, e2, hq, h1, hL, h2, h3⟩, st⟩ | ⟨q, vm₁, ⟨U', l2, c2, s2⟩, hW₁, X', ⟨g', mk, t, L, E, ce, e1, e2, hq, hce, hcv, hcl, h1, hL, h2, h3⟩, st⟩
  · dsimp only [Pt.U, Pt.locs, Pt.cells, Pt.slots] at X' e1 e2 h1 h2 h3 st
    subst h1; subst h2; subst h3
    exact Or.inl ⟨v, (T.setVm vm₁).calling g' mk As.toArray, t, U', L, hT, X', hL, e1, e2, hq, st⟩
  · dsimp only [Pt.U, Pt.locs, Pt.cells, Pt.slots] at X' e1 e2 h1 h2 h3 st hcl
    subst h1; subst h2; subst h3
    exact Or.inr ⟨q, (T.setVm vm₁).calling g' mk As.toArray, t, U', L, E, ce, hT, X', hL, e1, e2, hq, hce, hcv, vx_cls hW₁ hcl, st⟩
end Runs
section Rows
variable {p : Program} {l : Launch} {e : Env} {R : Room} {s : State} {m : MethodId} {args : Array Value} {below : List Frame} {meth : Method} {c : Code} {H : Heap} {locs : List Loc} {cells slots : Nat} {Q : State → Prop}
variable {mc ms : Nat} {free : Addr → Prop} {A0 A1 : Nat → Prop} {H0 : Heap} {a : Array Value} {pc : Nat} {ls : Array Slot} {st0 rest : List Value}
theorem vx_keep {st₀ t T' : State} {L : List Loc} (h0 : st₀.heap = H) (e1 : T'.heap = t.heap) (hS : va_S A0 H0 H locs) (hA : ∀ q, q < H.size → A1 q → A0 q) (hf : ∀ q, free q → A0 q) (hL : ∀ q ∈ L, free q.base) (hF : va_F A1 st₀ t) :
    H.size ≤ T'.heap.size ∧ (∀ q : Nat, q < H.size → ¬ A1 q → T'.heap[q]? = H[q]?) ∧ va_S A0 H0 T'.heap (locs ++ L) := by
  obtain ⟨hz, hk⟩ := hF
  rw [h0] at hz hk
  exact ⟨by rw [e1]; exact hz, fun q h1 h2 => by rw [e1]; exact hk q h1 h2,
    ⟨Nat.le_trans hS.1 (by rw [e1]; exact hz), fun q h1 h2 => by rw [e1, hk q (Nat.lt_of_lt_of_le h1 hS.1) (fun z => h2 (hA q (Nat.lt_of_lt_of_le h1 hS.1) z))]; exact hS.2.1 q h1 h2, fun q hq => by
      rcases List.mem_append.mp hq with h | h
      · exact hS.2.2 q h
      · exact hf _ (hL q h)⟩⟩
theorem vx_calli {S SX : Type} {post : Int32 → S → Prop} {px : SX → Prop} {B : S → State → Prop} {BX : String → SX → State → Prop} {AX : Nat → Prop} (hr : vx_Run p l e R s m args below meth c H locs cells slots mc ms (F0 m pc ls st0) rest (va_Qi post B A1 a) (vx_X px BX AX) free) (hS : va_S A0 H0 H locs) (hA : ∀ q, q < H.size → A1 q → A0 q) (hf : ∀ q, free q → A0 q) (hAX : ∀ q, q < H.size → AX q → A0 q)
    (kx : ∀ (E : String) (ce : Cell) (q9 : Addr) (u : SX) (t : State) (H1 : Heap) (locs1 : List Loc), t.heap = H1 → s.vm.Alike t.vm → px u → BX E u t → H.size ≤ H1.size → (∀ q : Nat, q < H.size → ¬ AX q → H1[q]? = H[q]?) → va_S A0 H0 H1 locs1 → H1[q9]? = some ce → ce.vm = .none → s.vm.findClass E = some ce.cls → vx_W p l e R s m args below meth c H1 locs1 (cells + mc) (slots + ms) Q (F0 m pc ls rest) q9)
    (kk : ∀ (r : Int32) (u : S) (t : State) (H1 : Heap) (locs1 : List Loc), t.heap = H1 → s.vm.Alike t.vm → post r u → B u t → H.size ≤ H1.size → (∀ q : Nat, q < H.size → ¬ A1 q → H1[q]? = H[q]?) → va_S A0 H0 H1 locs1 → W p l e R s m args below meth c H1 locs1 (cells + mc) (slots + ms) Q (F0 m (pc + 3) ls (.int r :: rest))) : W p l e R s m args below meth c H locs cells slots Q (F0 m pc ls st0) := by
  intro T hT X
  rcases hr T hT X with ⟨v, st₀, t, T', L, h0, X', hL, e1, e2, ⟨⟨r, u, hv, hp, hb⟩, hF⟩, st⟩ | ⟨q, st₀, t, T', L, E, ce, h0, X', hL, e1, e2, ⟨u, hp, hb, hF⟩, hce, hcv, hcl, st⟩
  · cases hv
    obtain ⟨k1, k2, k3⟩ := vx_keep h0 e1 hS hA hf hL hF
    obtain ⟨t2, a1, b1⟩ := kk r u t T'.heap (locs ++ L) e1.symm (by rw [← e2]; exact X'.warmed.alike) hp hb k1 k2 k3 T' rfl X'
    exact ⟨t2, st t2 a1, b1⟩
  · obtain ⟨k1, k2, k3⟩ := vx_keep h0 e1 hS hAX hf hL hF
    obtain ⟨t2, a1, b1⟩ := kx E ce q u t T'.heap (locs ++ L) e1.symm (by rw [← e2]; exact X'.warmed.alike) hp hb k1 k2 k3 (by rw [e1]; exact hce) hcv hcl T' rfl X'
    exact ⟨t2, st.trans a1, b1⟩
theorem vx_calll {S SX : Type} {post : Int64 → S → Prop} {px : SX → Prop} {B : S → State → Prop} {BX : String → SX → State → Prop} {AX : Nat → Prop} (hr : vx_Run p l e R s m args below meth c H locs cells slots mc ms (F0 m pc ls st0) rest (va_Ql post B A1 a) (vx_X px BX AX) free) (hS : va_S A0 H0 H locs) (hA : ∀ q, q < H.size → A1 q → A0 q) (hf : ∀ q, free q → A0 q) (hAX : ∀ q, q < H.size → AX q → A0 q)
    (kx : ∀ (E : String) (ce : Cell) (q9 : Addr) (u : SX) (t : State) (H1 : Heap) (locs1 : List Loc), t.heap = H1 → s.vm.Alike t.vm → px u → BX E u t → H.size ≤ H1.size → (∀ q : Nat, q < H.size → ¬ AX q → H1[q]? = H[q]?) → va_S A0 H0 H1 locs1 → H1[q9]? = some ce → ce.vm = .none → s.vm.findClass E = some ce.cls → vx_W p l e R s m args below meth c H1 locs1 (cells + mc) (slots + ms) Q (F0 m pc ls rest) q9)
    (kk : ∀ (r : Int64) (u : S) (t : State) (H1 : Heap) (locs1 : List Loc), t.heap = H1 → s.vm.Alike t.vm → post r u → B u t → H.size ≤ H1.size → (∀ q : Nat, q < H.size → ¬ A1 q → H1[q]? = H[q]?) → va_S A0 H0 H1 locs1 → W p l e R s m args below meth c H1 locs1 (cells + mc) (slots + ms) Q (F0 m (pc + 3) ls (.long r :: rest))) : W p l e R s m args below meth c H locs cells slots Q (F0 m pc ls st0) := by
  intro T hT X
  rcases hr T hT X with ⟨v, st₀, t, T', L, h0, X', hL, e1, e2, ⟨⟨r, u, hv, hp, hb⟩, hF⟩, st⟩ | ⟨q, st₀, t, T', L, E, ce, h0, X', hL, e1, e2, ⟨u, hp, hb, hF⟩, hce, hcv, hcl, st⟩
  · cases hv
    obtain ⟨k1, k2, k3⟩ := vx_keep h0 e1 hS hA hf hL hF
    obtain ⟨t2, a1, b1⟩ := kk r u t T'.heap (locs ++ L) e1.symm (by rw [← e2]; exact X'.warmed.alike) hp hb k1 k2 k3 T' rfl X'
    exact ⟨t2, st t2 a1, b1⟩
  · obtain ⟨k1, k2, k3⟩ := vx_keep h0 e1 hS hAX hf hL hF
    obtain ⟨t2, a1, b1⟩ := kx E ce q u t T'.heap (locs ++ L) e1.symm (by rw [← e2]; exact X'.warmed.alike) hp hb k1 k2 k3 (by rw [e1]; exact hce) hcv hcl T' rfl X'
    exact ⟨t2, st.trans a1, b1⟩
theorem vx_callf {S SX : Type} {post : UInt32 → S → Prop} {px : SX → Prop} {B : S → State → Prop} {BX : String → SX → State → Prop} {AX : Nat → Prop} (hr : vx_Run p l e R s m args below meth c H locs cells slots mc ms (F0 m pc ls st0) rest (va_Qf post B A1 a) (vx_X px BX AX) free) (hS : va_S A0 H0 H locs) (hA : ∀ q, q < H.size → A1 q → A0 q) (hf : ∀ q, free q → A0 q) (hAX : ∀ q, q < H.size → AX q → A0 q)
    (kx : ∀ (E : String) (ce : Cell) (q9 : Addr) (u : SX) (t : State) (H1 : Heap) (locs1 : List Loc), t.heap = H1 → s.vm.Alike t.vm → px u → BX E u t → H.size ≤ H1.size → (∀ q : Nat, q < H.size → ¬ AX q → H1[q]? = H[q]?) → va_S A0 H0 H1 locs1 → H1[q9]? = some ce → ce.vm = .none → s.vm.findClass E = some ce.cls → vx_W p l e R s m args below meth c H1 locs1 (cells + mc) (slots + ms) Q (F0 m pc ls rest) q9)
    (kk : ∀ (r : UInt32) (u : S) (t : State) (H1 : Heap) (locs1 : List Loc), t.heap = H1 → s.vm.Alike t.vm → post r u → B u t → H.size ≤ H1.size → (∀ q : Nat, q < H.size → ¬ A1 q → H1[q]? = H[q]?) → va_S A0 H0 H1 locs1 → W p l e R s m args below meth c H1 locs1 (cells + mc) (slots + ms) Q (F0 m (pc + 3) ls (.float r :: rest))) : W p l e R s m args below meth c H locs cells slots Q (F0 m pc ls st0) := by
  intro T hT X
  rcases hr T hT X with ⟨v, st₀, t, T', L, h0, X', hL, e1, e2, ⟨⟨r, u, hv, hp, hb⟩, hF⟩, st⟩ | ⟨q, st₀, t, T', L, E, ce, h0, X', hL, e1, e2, ⟨u, hp, hb, hF⟩, hce, hcv, hcl, st⟩
  · cases hv
    obtain ⟨k1, k2, k3⟩ := vx_keep h0 e1 hS hA hf hL hF
    obtain ⟨t2, a1, b1⟩ := kk r u t T'.heap (locs ++ L) e1.symm (by rw [← e2]; exact X'.warmed.alike) hp hb k1 k2 k3 T' rfl X'
    exact ⟨t2, st t2 a1, b1⟩
  · obtain ⟨k1, k2, k3⟩ := vx_keep h0 e1 hS hAX hf hL hF
    obtain ⟨t2, a1, b1⟩ := kx E ce q u t T'.heap (locs ++ L) e1.symm (by rw [← e2]; exact X'.warmed.alike) hp hb k1 k2 k3 (by rw [e1]; exact hce) hcv hcl T' rfl X'
    exact ⟨t2, st.trans a1, b1⟩
theorem vx_calld {S SX : Type} {post : UInt64 → S → Prop} {px : SX → Prop} {B : S → State → Prop} {BX : String → SX → State → Prop} {AX : Nat → Prop} (hr : vx_Run p l e R s m args below meth c H locs cells slots mc ms (F0 m pc ls st0) rest (va_Qd post B A1 a) (vx_X px BX AX) free) (hS : va_S A0 H0 H locs) (hA : ∀ q, q < H.size → A1 q → A0 q) (hf : ∀ q, free q → A0 q) (hAX : ∀ q, q < H.size → AX q → A0 q)
    (kx : ∀ (E : String) (ce : Cell) (q9 : Addr) (u : SX) (t : State) (H1 : Heap) (locs1 : List Loc), t.heap = H1 → s.vm.Alike t.vm → px u → BX E u t → H.size ≤ H1.size → (∀ q : Nat, q < H.size → ¬ AX q → H1[q]? = H[q]?) → va_S A0 H0 H1 locs1 → H1[q9]? = some ce → ce.vm = .none → s.vm.findClass E = some ce.cls → vx_W p l e R s m args below meth c H1 locs1 (cells + mc) (slots + ms) Q (F0 m pc ls rest) q9)
    (kk : ∀ (r : UInt64) (u : S) (t : State) (H1 : Heap) (locs1 : List Loc), t.heap = H1 → s.vm.Alike t.vm → post r u → B u t → H.size ≤ H1.size → (∀ q : Nat, q < H.size → ¬ A1 q → H1[q]? = H[q]?) → va_S A0 H0 H1 locs1 → W p l e R s m args below meth c H1 locs1 (cells + mc) (slots + ms) Q (F0 m (pc + 3) ls (.double r :: rest))) : W p l e R s m args below meth c H locs cells slots Q (F0 m pc ls st0) := by
  intro T hT X
  rcases hr T hT X with ⟨v, st₀, t, T', L, h0, X', hL, e1, e2, ⟨⟨r, u, hv, hp, hb⟩, hF⟩, st⟩ | ⟨q, st₀, t, T', L, E, ce, h0, X', hL, e1, e2, ⟨u, hp, hb, hF⟩, hce, hcv, hcl, st⟩
  · cases hv
    obtain ⟨k1, k2, k3⟩ := vx_keep h0 e1 hS hA hf hL hF
    obtain ⟨t2, a1, b1⟩ := kk r u t T'.heap (locs ++ L) e1.symm (by rw [← e2]; exact X'.warmed.alike) hp hb k1 k2 k3 T' rfl X'
    exact ⟨t2, st t2 a1, b1⟩
  · obtain ⟨k1, k2, k3⟩ := vx_keep h0 e1 hS hAX hf hL hF
    obtain ⟨t2, a1, b1⟩ := kx E ce q u t T'.heap (locs ++ L) e1.symm (by rw [← e2]; exact X'.warmed.alike) hp hb k1 k2 k3 (by rw [e1]; exact hce) hcv hcl T' rfl X'
    exact ⟨t2, st.trans a1, b1⟩
theorem vx_callv {S SX : Type} {post : S → Prop} {px : SX → Prop} {B : S → State → Prop} {BX : String → SX → State → Prop} {AX : Nat → Prop} (hr : vx_Run p l e R s m args below meth c H locs cells slots mc ms (F0 m pc ls st0) rest (va_Qv post B A1 a) (vx_X px BX AX) free) (hS : va_S A0 H0 H locs) (hA : ∀ q, q < H.size → A1 q → A0 q) (hf : ∀ q, free q → A0 q) (hAX : ∀ q, q < H.size → AX q → A0 q)
    (kx : ∀ (E : String) (ce : Cell) (q9 : Addr) (u : SX) (t : State) (H1 : Heap) (locs1 : List Loc), t.heap = H1 → s.vm.Alike t.vm → px u → BX E u t → H.size ≤ H1.size → (∀ q : Nat, q < H.size → ¬ AX q → H1[q]? = H[q]?) → va_S A0 H0 H1 locs1 → H1[q9]? = some ce → ce.vm = .none → s.vm.findClass E = some ce.cls → vx_W p l e R s m args below meth c H1 locs1 (cells + mc) (slots + ms) Q (F0 m pc ls rest) q9)
    (kk : ∀ (u : S) (t : State) (H1 : Heap) (locs1 : List Loc), t.heap = H1 → s.vm.Alike t.vm → post u → B u t → H.size ≤ H1.size → (∀ q : Nat, q < H.size → ¬ A1 q → H1[q]? = H[q]?) → va_S A0 H0 H1 locs1 → W p l e R s m args below meth c H1 locs1 (cells + mc) (slots + ms) Q (F0 m (pc + 3) ls (rest))) : W p l e R s m args below meth c H locs cells slots Q (F0 m pc ls st0) := by
  intro T hT X
  rcases hr T hT X with ⟨v, st₀, t, T', L, h0, X', hL, e1, e2, ⟨⟨u, hv, hp, hb⟩, hF⟩, st⟩ | ⟨q, st₀, t, T', L, E, ce, h0, X', hL, e1, e2, ⟨u, hp, hb, hF⟩, hce, hcv, hcl, st⟩
  · cases hv
    obtain ⟨k1, k2, k3⟩ := vx_keep h0 e1 hS hA hf hL hF
    obtain ⟨t2, a1, b1⟩ := kk u t T'.heap (locs ++ L) e1.symm (by rw [← e2]; exact X'.warmed.alike) hp hb k1 k2 k3 T' rfl X'
    exact ⟨t2, st t2 a1, b1⟩
  · obtain ⟨k1, k2, k3⟩ := vx_keep h0 e1 hS hAX hf hL hF
    obtain ⟨t2, a1, b1⟩ := kx E ce q u t T'.heap (locs ++ L) e1.symm (by rw [← e2]; exact X'.warmed.alike) hp hb k1 k2 k3 (by rw [e1]; exact hce) hcv hcl T' rfl X'
    exact ⟨t2, st.trans a1, b1⟩
/-- caught by the row x of this method's table; the rows ahead don't take it -/
theorem vx_catch {own name : String} {E : String} {ce : Cell} {q : Addr} (hown : s.vm.findClass own = some m.cls) (pre : List ExceptionTableEntry) (x : ExceptionTableEntry) (suf : List ExceptionTableEntry) (hsplit : c.exceptionTable.toList = pre ++ x :: suf)
    (hpass : ∀ z ∈ pre, covers z pc = false ∨ (z.catchType ≠ 0 ∧ ∃ nm : String, (Cond.classLink own z.catchType nm).before args s = true ∧ va_Nc E nm s)) (hx : covers x pc = true) (h0 : x.catchType ≠ 0)
    (hlink : (Cond.classLink own x.catchType name).before args s = true) (hcast : (Cond.castable E name).before args s = true) (hcell : H[q]? = some ce) (hv : ce.vm = .none) (hcl : s.vm.findClass E = some ce.cls)
    (kk : W p l e R s m args below meth c H locs cells slots Q (F0 m x.handlerPc ls [.ref q])) : vx_W p l e R s m args below meth c H locs cells slots Q (F0 m pc ls rest) q := by
  intro T hT X
  have hpl : e.platform.magicAccessors = ({} : Platform).magicAccessors := by rw [X.admits.platform]
  obtain ⟨c3, c4, hc3, hc4, hasg⟩ := Cond.castable_spec hcast
  cases Option.some.inj (hc3.symm.trans hcl)
  obtain ⟨c5, hc5, hcl5⟩ := Cond.classLink_spec hown hlink e.platform hpl
  cases Option.some.inj (hc4.symm.trans hc5)
  obtain ⟨vm', X', st⟩ := X.thenCaughtThrough q (g := F0 m pc ls rest) rfl (Steps.refl _) (by rw [hT]; exact hcell) (by rw [hv]; rfl) (by obtain ⟨k9, h9, -⟩ := Vm.findClass_spec hcl; exact ⟨k9, h9⟩) pre x suf hsplit
    (fun z hz => by
      rcases hpass z hz with h | ⟨hz0, nm, hl1, hn1⟩
      · exact Or.inl h
      · obtain ⟨c6, hc6, hcl6⟩ := Cond.classLink_spec hown hl1 e.platform hpl
        obtain ⟨a8, b8, h1, h2, h3⟩ := hn1
        cases Option.some.inj (h1.symm.trans hcl)
        cases Option.some.inj (h2.symm.trans hc6)
        exact Or.inr ⟨hz0, _, hcl6, h3⟩) hx (Or.inr ⟨h0, c4, hcl5, hasg⟩)
  obtain ⟨t, a1, b1⟩ := kk (T.setVm vm') hT X'
  exact ⟨t, st.trans a1, b1⟩
end Rows
section Ends
variable {p : Program} {l : Launch} {e : Env} {R : Room} {s : State} {m : MethodId} {args : Array Value} {below : List Frame} {meth : Method} {c : Code} {H : Heap} {locs : List Loc} {cells slots : Nat} {Q : State → Prop}
variable {mc ms : Nat} {free : Addr → Prop} {A0 A1 : Nat → Prop} {H0 : Heap} {a : Array Value} {ls : Array Slot} {st0 rest : List Value}
variable {Qc : Array Value → State → Outcome → State → Prop} {XC : String → State → State → Prop}
/-- what a body that may throw owes at its end -/
def vx_MQ (below : List Frame) (Qc : Array Value → State → Outcome → State → Prop) (XC : String → State → State → Prop) (a : Array Value) (s : State) (mc ms : Nat) (free : Addr → Prop) : State → Prop := fun t =>
  ∃ o, t.status = .running ∧ Ended t below o ∧ vx_Q Qc XC mc ms free a s o t
theorem vx_ret {g : JFrame} {mc ms : Nat} (k : W p l e R s m args below meth c H locs cells slots (MQ below Qc args s mc ms free) g) : W p l e R s m args below meth c H locs cells slots (vx_MQ below Qc XC args s mc ms free) g := by
  intro T hT X
  obtain ⟨t, a1, o, b1, b2, b3, b4⟩ := k T hT X
  exact ⟨t, a1, o, b1, b2, Or.inl ⟨b3, b4⟩⟩
/-- not caught here: it goes on to the caller -/
theorem vx_widen {g : JFrame} {q : Addr} {k n : Nat} (h1 : cells ≤ k) (h2 : slots ≤ n) (kk : vx_W p l e R s m args below meth c H locs k n Q g q) : vx_W p l e R s m args below meth c H locs cells slots Q g q := fun T hT X => kk T hT (stand_widen X h1 h2)
theorem vx_out {pc : Nat} {E : String} {ce : Cell} {q : Addr} {mc ms : Nat} (hout : ∀ x ∈ c.exceptionTable.toList, covers x pc = false) (hlocks : meth.locks = false) (hcell : H[q]? = some ce) (hv : ce.vm = .none) (hcl : s.vm.findClass E = some ce.cls)
    (hx : ∀ t : State, t.heap = H → s.vm.Alike t.vm → XC E s t) (hf : ∀ z ∈ locs, free z.base) (hc : cells ≤ mc) (hs : slots ≤ ms) :
    vx_W p l e R s m args below meth c H locs cells slots (vx_MQ below Qc XC args s mc ms free) (F0 m pc ls rest) q := by
  intro T hT X
  obtain ⟨st1, hrun, hend, hW, hsm⟩ := X.leaveThrown q (g := F0 m pc ls rest) rfl rfl rfl hout hlocks
  have hcell9 : (T.setFrames (.throwing q :: below)).heap[q]? = some ce := by
    show T.heap[q]? = some ce
    rw [hT]; exact hcell
  exact ⟨_, st1, .threw q, hrun, hend, Or.inr ⟨q, rfl, E, ce, locs, hx _ hT hW.alike, hcell9, hv, hcl, hW, hsm.mono hc hs, hf⟩⟩
theorem vx_frame {U : State} {k n : Nat} (h : s.sameButNew ({ U with vm := s.vm } : State) locs k n) : s.heap.size ≤ U.heap.size ∧ ∀ q : Nat, q < s.heap.size → (∀ z ∈ locs, z.base ≠ q) → U.heap[q]? = s.heap[q]? := by
  obtain ⟨-, h2, -, -, -, h6⟩ := h
  refine ⟨h2, fun q hq hz => ?_⟩
  obtain ⟨c9, e1, e2, e3, e4⟩ := h6 q _ (Array.getElem?_eq_getElem hq)
  have hs : c9.slots = (s.heap[q]).slots := Array.ext_getElem? fun i => e4 i fun hm => hz _ hm rfl
  have h9 : c9 = s.heap[q] := by
    rw [hs] at e2
    exact e2
  have e5 : U.heap[q]? = some c9 := e1
  rw [e5, h9, Array.getElem?_eq_getElem hq]
/-- the words of a throw but the four that speak of the heap -/
def vx_no (w : Cond) : Bool := decide (w ≠ .isRef (.static Bundle.tN "UNASSIGNED_STACK" Bundle.steD)) && decide (w ≠ .isRef (.static Bundle.tN "SUPPRESSED_SENTINEL" Bundle.listD)) && decide (w ≠ .laysStatic Bundle.tN "UNASSIGNED_STACK" Bundle.steD) && decide (w ≠ .laysStatic Bundle.tN "SUPPRESSED_SENTINEL" Bundle.listD)
def vx_at0 (own : String) (ic : Nat) (X : String) (names : List String) : List Cond := (Bundle.ownAtoms0 own ic X names).filter vx_no
def vx_atS (own : String) (ic : Nat) (X : String) (names : List String) : List Cond := (Bundle.ownAtoms own ic X names).filter vx_no
/-- a word that the tables alone decide, or a good one -/
def vx_ot (w : Cond) : Bool := w.onTables || goodWord w
theorem vx_ot_at {args a' : Array Value} {s U : State} {w : Cond} (hW : s.WarmedH U.vm) (hvm : s.vm = U.vm) (hg : vx_ot w = true) (h : w.before args s = true) : w.before a' U = true := by
  simp only [vx_ot, Bool.or_eq_true] at hg
  rcases hg with hg | hg
  · exact va_tabs hg hvm h
  · exact word_at hW (good_of_word hg) h
/-- a list's words: the good ones out of the method's own list, the others by premises of their own -/
theorem vx_hat {args : Array Value} {s : State} {L B : List Cond} (h1 : ∀ w ∈ L.filter goodWord, w.before args s = true) (h2 : ∀ w ∈ L.filter (fun w => !goodWord w), w ∈ B) (h3 : ∀ w ∈ B, w.before args s = true) : ∀ w ∈ L, w.before args s = true := by
  intro w hw
  by_cases g : goodWord w = true
  · exact h1 w (List.mem_filter.mpr ⟨hw, g⟩)
  · refine h3 w (h2 w (List.mem_filter.mpr ⟨hw, ?_⟩))
    show (!goodWord w) = true
    cases hgw : goodWord w
    · rfl
    · exact absurd hgw g
theorem vx_c {args : Array Value} {s : State} {w : Cond} {B : List Cond} (h : w.before args s = true) (t : ∀ w ∈ B, w.before args s = true) : ∀ w' ∈ w :: B, w'.before args s = true := fun w' h' => (List.mem_cons.mp h').elim (fun e => by rw [e]; exact h) (t w')
theorem vx_n {args : Array Value} {s : State} : ∀ w ∈ ([] : List Cond), w.before args s = true := fun _ h => nomatch h
theorem vx_own {args : Array Value} {s : State} {L : List Cond} (h1 : ∀ w ∈ L.filter vx_no, w.before args s = true)
    (hU : (Cond.isRef (.static Bundle.tN "UNASSIGNED_STACK" Bundle.steD)).before args s = true) (hN : (Cond.isRef (.static Bundle.tN "SUPPRESSED_SENTINEL" Bundle.listD)).before args s = true)
    (lU : (Cond.laysStatic Bundle.tN "UNASSIGNED_STACK" Bundle.steD).before args s = true) (lN : (Cond.laysStatic Bundle.tN "SUPPRESSED_SENTINEL" Bundle.listD).before args s = true) : ∀ w ∈ L, w.before args s = true := by
  intro w hw
  by_cases e1 : w = .isRef (.static Bundle.tN "UNASSIGNED_STACK" Bundle.steD)
  · rw [e1]; exact hU
  · by_cases e2 : w = .isRef (.static Bundle.tN "SUPPRESSED_SENTINEL" Bundle.listD)
    · rw [e2]; exact hN
    · by_cases e3 : w = .laysStatic Bundle.tN "UNASSIGNED_STACK" Bundle.steD
      · rw [e3]; exact lU
      · by_cases e4 : w = .laysStatic Bundle.tN "SUPPRESSED_SENTINEL" Bundle.listD
        · rw [e4]; exact lN
        · exact h1 w (List.mem_filter.mpr ⟨hw, by unfold vx_no; rw [decide_eq_true e1, decide_eq_true e2, decide_eq_true e3, decide_eq_true e4]; rfl⟩)
/-- where a static field lies, its class's statics cell in H -/
def vx_L (C n d : String) (A : Nat → Prop) (U : State) (H : Heap) : Prop := ∃ (c : ClassId) (k : Class) (i : Nat) (f : Field) (a : Nat) (cell : Cell), U.vm.findClass C = some c ∧ U.fieldFound? C n d = some (c, k, i, f) ∧ f.isStatic = true ∧ k.statics = some a ∧ H[a]? = some cell ∧ cell.vm.isStatics = true ∧ cell.cls = c ∧ f.slot < cell.slots.size ∧ k.staticTypes[f.slot]? = some f.type ∧ ¬ A a
theorem vx_L.moved {C n d : String} {A : Nat → Prop} {u U : State} {H : Heap} (hvm : u.vm.Alike U.vm) (h : vx_L C n d A u H) : vx_L C n d A U H := by
  obtain ⟨c, k, i, f, a, cell, h1, h2, h3, h4, h5, h6, h7, h8, h9, h10⟩ := h
  obtain ⟨k', hi', he⟩ := State.fieldFound?_setVm hvm h2
  exact ⟨c, k', i, f, a, cell, by rw [hvm.findClass]; exact h1, hi', h3, by rw [he]; exact h4, h5, h6, h7, h8, by rw [he]; exact h9, h10⟩
theorem vx_L.kept {C n d : String} {A : Nat → Prop} {U : State} {H H1 : Heap} (h : vx_L C n d A U H) (hq : ∀ a : Nat, a < H.size → ¬ A a → H1[a]? = H[a]?) : vx_L C n d A U H1 := by
  obtain ⟨c, k, i, f, a, cell, h1, h2, h3, h4, h5, h6, h7, h8, h9, h10⟩ := h
  exact ⟨c, k, i, f, a, cell, h1, h2, h3, h4, by rw [hq a (Array.getElem?_eq_some_iff.mp h5).1 h10]; exact h5, h6, h7, h8, h9, h10⟩
theorem vx_L.narrow {C n d : String} {A B : Nat → Prop} {U : State} {H : Heap} (h : vx_L C n d A U H) (hAB : ∀ q, B q → A q) : vx_L C n d B U H := by
  obtain ⟨c, k, i, f, a, cell, h1, h2, h3, h4, h5, h6, h7, h8, h9, h10⟩ := h
  exact ⟨c, k, i, f, a, cell, h1, h2, h3, h4, h5, h6, h7, h8, h9, fun z => h10 (hAB _ z)⟩
theorem vx_L.word {C n d : String} {A : Nat → Prop} {s : State} {args : Array Value} (h : vx_L C n d A s s.heap) : (Cond.laysStatic C n d).before args s = true := by
  obtain ⟨c, k, i, f, a, cell, h1, h2, h3, h4, h5, h6, h7, h8, h9, -⟩ := h
  show (Cond.laysStatic C n d).holds args s none s [] = true
  exact Cond.laysStatic_of h1 h2 h3 h4 h5 h6 h7 h8 h9
/-- .. and what it holds: null or some reference -/
def vx_Zq (C n d : String) (A : Nat → Prop) (U : State) (H : Heap) : Prop := va_Zq C n d A U H ∧ vx_L C n d A U H
theorem vx_Zq.moved {C n d : String} {A : Nat → Prop} {u U : State} {H : Heap} (hvm : u.vm.Alike U.vm) (h : vx_Zq C n d A u H) : vx_Zq C n d A U H := ⟨va_Zq.moved hvm h.1, vx_L.moved hvm h.2⟩
theorem vx_Zq.kept {C n d : String} {A : Nat → Prop} {U : State} {H H1 : Heap} (h : vx_Zq C n d A U H) (hq : ∀ a : Nat, a < H.size → ¬ A a → H1[a]? = H[a]?) : vx_Zq C n d A U H1 := ⟨va_Zq.kept h.1 hq, vx_L.kept h.2 hq⟩
theorem vx_Zq.narrow {C n d : String} {A B : Nat → Prop} {U : State} {H : Heap} (h : vx_Zq C n d A U H) (hAB : ∀ q, B q → A q) : vx_Zq C n d B U H := ⟨va_Zq.narrow h.1 hAB, vx_L.narrow h.2 hAB⟩
theorem vx_Zqof {args : Array Value} {s : State} {C n d : String} {A : Nat → Prop} (hl : (Cond.laysStatic C n d).before args s = true) (hini : (Cond.initialized C).before args s = true) (h : (Cond.isRef (.static C n d)).before args s = true) (hA : ∀ a : Nat, a < s.heap.size → ¬ A a) : vx_Zq C n d A s s.heap := by
  refine ⟨va_Zqof hl hini h hA, ?_⟩
  obtain ⟨c, k, i, f, a, cell, h1, h2, h3, h4, h5, h6, h7, h8, h9⟩ := Cond.laysStatic_spec hl
  exact ⟨c, k, i, f, a, cell, h1, h2, h3, h4, h5, h6, h7, h8, h9, hA a (Array.getElem?_eq_some_iff.mp h5).1⟩
theorem vx_isRef {C n d : String} {v : Value} {A : Nat → Prop} {s : State} {args : Array Value} (h : va_Z C n d v A s s.heap) (hv : v.isRef = true) : (Cond.isRef (.static C n d)).before args s = true := by
  obtain ⟨cf, kf, fi, f, a, cell, h1, h2, h3, h4, h5, h6, h7, -⟩ := h
  have he : (Term.static C n d).eval args s none [] s = some v := by
    simp [Term.eval, State.fieldNamed?, h1, h2, h4, h5, h6, h7]
  simp only [Cond.before, Cond.holds, Cond.value, he]
  cases v <;> simp_all [Value.isRef]
theorem vx_isRefq {C n d : String} {A : Nat → Prop} {s : State} {args : Array Value} (h : va_Zq C n d A s s.heap) : (Cond.isRef (.static C n d)).before args s = true := by
  rcases h with h | ⟨t, h⟩
  · exact vx_isRef h rfl
  · exact vx_isRef h rfl
/-- the same frame, seen from here: as if the method were called anew in this heap -/
theorem vx_rebase {T : State} (X : Stand p l e R s m args below meth c T locs cells slots) {R' : Room} (hf : R'.frames ≤ R.frames) (hl : R'.locals ≤ R.locals) (hc : cells + R'.cells ≤ R.cells) (hs : slots + R'.slots ≤ R.slots) :
    Stand p l e R' ((T.setVm s.vm).setFrames (.invoking m args :: below)) m args below meth c T [] 0 0 := by
  have htop : (T.setVm s.vm).topJava?.isSome := X.here.top
  have hF : ((T.setVm s.vm).setFrames (.invoking m args :: below)).frames = .invoking m args :: below := State.frames_setFrames _ (State.cur_lt_of_top htop)
  obtain ⟨g₀, hg0⟩ := Option.isSome_iff_exists.mp htop
  obtain ⟨r, hr⟩ := State.topJava?_eq_some.mp hg0
  have hl9 : e.platform.stackLimits (T.setVm s.vm).me = e.platform.stackLimits s.me := X.limits
  have hb9 : (T.setVm s.vm).me.stackBytes = s.me.stackBytes := X.bytes
  refine ⟨X.admits, X.cas, X.clock, hF, ?_, X.hears, X.method, X.code, X.here, X.tail, X.warmed, ?_, ?_, ?_⟩
  · have h := X.room
    have hU : ((T.setVm s.vm).setFrames (.invoking m args :: below)).localsInUse = s.localsInUse := by
      rw [State.localsInUse_invoking hF (meth := meth) (c := c) X.method X.code, State.localsInUse_invoking X.frames X.method X.code]
    simp only [State.hasRoom, Bool.and_eq_true, decide_eq_true_eq] at h ⊢
    obtain ⟨⟨⟨⟨h1, h2, h3, h4, h5, h6⟩, h7⟩, h8⟩, h9⟩ := h
    rw [X.frames, List.length_cons] at h2 h3
    have q1 := X.heapSize
    have q2 := X.used
    simp only [hF, hU, List.length_cons, State.stackLimits_setFrames, State.stackBytes_setFrames, hl9, hb9]
    refine ⟨⟨⟨⟨by omega, by omega, by omega, by omega, by omega, h6⟩, ?_⟩, ?_⟩, X.book⟩
    · show T.heap.size + R'.cells ≤ e.platform.maxCells
      omega
    · show T.slotsUsed + R'.slots ≤ e.platform.maxSlots
      omega
  · rw [State.stackLimits_setFrames]; rfl
  · rw [State.stackBytes_setFrames]; rfl
  · refine ⟨?_, Nat.le_refl _, Nat.le_refl _, ?_, ?_, fun a c9 h9 => ⟨c9, h9, rfl, rfl, fun _ _ => rfl⟩⟩
    · obtain ⟨t, ht, -⟩ := State.frames_cons hr
      show T.setVm s.vm = { ((T.setVm s.vm).setFrames (.invoking m args :: below)).setFrames (T.setVm s.vm).frames with heap := T.heap, slotsUsed := T.slotsUsed }
      rw [State.setFrames_setFrames, State.setFrames_self ht]
      rfl
    · show T.slotsUsed = T.slotsUsed + ((T.heap.toList.drop T.heap.size).map (·.slots.size)).sum
      rw [List.drop_eq_nil_of_le (Nat.le_of_eq Array.length_toList)]
      rfl
    · show ((T.heap.toList.drop T.heap.size).map (·.slots.size)).sum ≤ 0
      rw [List.drop_eq_nil_of_le (Nat.le_of_eq Array.length_toList)]
      exact Nat.le_refl _
/-- 'throw new E()': new; dup; invokespecial; athrow -/
theorem vx_throw0 {cc : ByteArray} {pc : Nat} (hexec : p.tables.exec = Jvm.exec) (hb : c.code = cc) (hl : l.stackTraces = false) {own cls : String} {names : List String} {ik ic mc ms : Nat} {A : Nat → Prop}
    (hown : s.vm.findClass own = some m.cls) (hcls : Bundle.fit cls = true) (hnames : ∀ n ∈ names, Bundle.fit n = true)
    (hk : (Cond.classLink own ik cls).before args s = true) (hini : (Cond.initialized cls).before args s = true) (hat : ∀ w ∈ vx_at0 own ic cls names, w.before args s = true)
    (hgood : ∀ w ∈ Cond.classLink own ik cls :: Cond.initialized cls :: vx_at0 own ic cls names, vx_ot w = true)
    (hU : vx_Zq Bundle.tN "UNASSIGNED_STACK" Bundle.steD A s s.heap) (hN : vx_Zq Bundle.tN "SUPPRESSED_SENTINEL" Bundle.listD A s s.heap) (hS : va_S A s.heap H locs) (hsize : ls.size = c.maxLocals)
    (d0 : decode cc pc = .ok (.new ik, 3)) (d3 : decode cc (pc + 3) = .ok (.dup, 1)) (d4 : decode cc (pc + 4) = .ok (.invokespecial ic, 3)) (d7 : decode cc (pc + 7) = .ok (.athrow, 1))
    (hout : ∀ x ∈ c.exceptionTable.toList, covers x (pc + 7) = false)
    (hRframes : names.length + 3 < R.frames) (hRlocals : (rest.map fun v => v.category).sum + (13 * (names.length + 1) + 42) ≤ R.locals) (hRcells : cells + 1 ≤ R.cells) (hRslots : slots + 6 ≤ R.slots) (hlocks : meth.locks = false)
    (hx : ∀ t : State, s.vm.Alike t.vm → H.size ≤ t.heap.size → (∀ q : Nat, q < H.size → t.heap[q]? = H[q]?) → XC cls s t)
    (hf : ∀ z ∈ locs, free z.base) (hc : cells + 1 ≤ mc) (hs : slots + 6 ≤ ms) :
    W p l e R s m args below meth c H locs cells slots (vx_MQ below Qc XC args s mc ms free) (F0 m pc ls rest) := by
  intro T hT X
  have htr : e.platform.stackTraces = false := (show e.platform.stackTraces = l.stackTraces by rw [X.admits.platform]).trans hl
  have Y := vx_rebase X (R' := { frames := R.frames, locals := R.locals, cells := 1, slots := 6 }) (Nat.le_refl _) (Nat.le_refl _) hRcells hRslots
  obtain ⟨s', hA⟩ : ∃ z, z = (T.setVm s.vm).setFrames (.invoking m args :: below) := ⟨_, rfl⟩
  rw [← hA] at Y
  have hvm : s'.vm = s.vm := by rw [hA]; rfl
  have hhp : s'.heap = H := by rw [hA]; exact hT
  have hW0 : s.WarmedH s'.vm := by rw [hvm]; exact State.WarmedH.refl s
  have hat' : ∀ w ∈ vx_at0 own ic cls names, w.before args s' = true := fun w hw => vx_ot_at hW0 hvm.symm (hgood w (List.mem_cons_of_mem _ (List.mem_cons_of_mem _ hw))) (hat w hw)
  have hk' : (Cond.classLink own ik cls).before args s' = true := vx_ot_at hW0 hvm.symm (hgood _ List.mem_cons_self) hk
  have hini' : (Cond.initialized cls).before args s' = true := vx_ot_at hW0 hvm.symm (hgood _ (List.mem_cons_of_mem _ List.mem_cons_self)) hini
  have hU' : vx_Zq Bundle.tN "UNASSIGNED_STACK" Bundle.steD A s' s'.heap := by rw [hhp]; exact vx_Zq.moved hW0.alike (hU.kept hS.2.1)
  have hN' : vx_Zq Bundle.tN "SUPPRESSED_SENTINEL" Bundle.listD A s' s'.heap := by rw [hhp]; exact vx_Zq.moved hW0.alike (hN.kept hS.2.1)
  have h : ∀ w ∈ Bundle.ownAtoms0 own ic cls names, w.before args s' = true := vx_own hat' (vx_isRefq hU'.1) (vx_isRefq hN'.1) hU'.2.word hN'.2.word
  have hown' : s'.vm.findClass own = some m.cls := by rw [hvm]; exact hown
  have hins : (Cond.instantiable cls 6).before args s' = true := h _ (by simp [Bundle.ownAtoms0])
  obtain ⟨vm₁, cX, kX, hfX, hkX, -, -, X₁, st1⟩ := Y.newCold hexec (own := own) (C := cls) (index := ik) (n := 6) hown' hk' hins hini'
    (g := F0 m pc ls rest) rfl (by rw [hb]; exact d0) (Nat.le_refl _) (Nat.le_refl _)
  generalize hT1 : (T.setVm vm₁).pushCell { cls := cX, slots := kX.instanceTypes.map defaultValue, vm := .none } = T1 at X₁ st1
  have hcat : (Value.ref T.heap.size).category = 1 := rfl
  have hcellA : T1.heap[T.heap.size]? = some (freshCell cX kX) := by rw [← hT1]; exact State.heap_pushCell_size _ _
  have d3' : decode c.code (pc + 3) = .ok (.dup, 1) := by rw [hb]; exact d3
  obtain ⟨U, hsteps, hrun, hend, hW, hsame, ce, hce, hO⟩ := X₁.ctorThrow0 hexec htr (own := own) (cls := cls) (names := names) (ic := ic) hown' hcls hnames h (fun x hx => nomatch hx) hfX hkX hcellA (by rw [hhp, hT]; exact Nat.le_refl _)
    (g := { method := m, pc := pc + 4, locals := ls, stack := .ref T.heap.size :: .ref T.heap.size :: rest, locked := none }) rfl hsize rfl rfl (rest := rest) rfl
    (by rw [hb]; exact d4) (by rw [hb]; exact d7) hout hRframes (by simp only [List.map_cons, List.sum_cons, hcat]; omega) hlocks
  obtain ⟨f1, f2⟩ := vx_frame hsame
  rw [hhp] at f1 f2
  have hWs : s.WarmedH U.vm := State.WarmedH.trans hW0 hW
  have hcl : s.vm.findClass cls = some ce.cls := by
    have h9 := hO.cls
    rw [hvm] at h9
    exact h9
  have hall : s.sameButNew ({ U with vm := s.vm } : State) locs mc ms := by
    subst hA
    obtain ⟨e1, e2⟩ := hsame
    rw [State.setFrames_setFrames] at e1
    have h2 : (T.setVm s.vm).sameButNew ({ U with vm := s.vm } : State) [] (0 + 1) (0 + 6) := ⟨e1, e2⟩
    have h3 := X.same.trans h2
    rw [List.append_nil] at h3
    exact h3.mono hc hs
  refine ⟨U, ?_, .threw T.heap.size, hrun, hend, Or.inr ⟨T.heap.size, rfl, cls, ce, locs, hx U hWs.alike f1 (fun q hq => f2 q hq (fun z hz => nomatch hz)), hce, hO.vm, hcl, hWs, hall, hf⟩⟩
  refine st1 _ ?_
  show Steps p.tables e below (T1.setTop { method := m, pc := pc + 3, locals := ls, stack := .ref T.heap.size :: rest, locked := none }) _
  jvm_step X₁.here [X₁.here.top, hexec, d3', Value.category]
  exact hsteps
/-- 'throw new E("text")': new; dup; ldc; invokespecial; athrow -/
theorem vx_throwS {cc : ByteArray} {pc : Nat} (hexec : p.tables.exec = Jvm.exec) (hb : c.code = cc) (hl : l.stackTraces = false) {own cls text : String} {names : List String} {ik is ic mc ms sa : Nat} {A : Nat → Prop}
    (hown : s.vm.findClass own = some m.cls) (hcls : Bundle.fit cls = true) (hnames : ∀ n ∈ names, Bundle.fit n = true)
    (hk : (Cond.classLink own ik cls).before args s = true) (hini : (Cond.initialized cls).before args s = true) (hstr : vk_R own is text sa s) (hat : ∀ w ∈ vx_atS own ic cls names, w.before args s = true)
    (hgood : ∀ w ∈ Cond.classLink own ik cls :: Cond.initialized cls :: vx_atS own ic cls names, vx_ot w = true)
    (hU : vx_Zq Bundle.tN "UNASSIGNED_STACK" Bundle.steD A s s.heap) (hN : vx_Zq Bundle.tN "SUPPRESSED_SENTINEL" Bundle.listD A s s.heap) (hS : va_S A s.heap H locs) (hsize : ls.size = c.maxLocals)
    (d0 : decode cc pc = .ok (.new ik, 3)) (d3 : decode cc (pc + 3) = .ok (.dup, 1)) (d4 : decode cc (pc + 4) = .ok (.ldc is, 2)) (d6 : decode cc (pc + 6) = .ok (.invokespecial ic, 3)) (d9 : decode cc (pc + 9) = .ok (.athrow, 1))
    (hout : ∀ x ∈ c.exceptionTable.toList, covers x (pc + 9) = false)
    (hRframes : names.length + 3 < R.frames) (hRlocals : (rest.map fun v => v.category).sum + (13 * (names.length + 1) + 43) ≤ R.locals) (hRcells : cells + 1 ≤ R.cells) (hRslots : slots + 6 ≤ R.slots) (hlocks : meth.locks = false)
    (hx : ∀ t : State, s.vm.Alike t.vm → H.size ≤ t.heap.size → (∀ q : Nat, q < H.size → t.heap[q]? = H[q]?) → XC cls s t)
    (hf : ∀ z ∈ locs, free z.base) (hc : cells + 1 ≤ mc) (hs : slots + 6 ≤ ms) :
    W p l e R s m args below meth c H locs cells slots (vx_MQ below Qc XC args s mc ms free) (F0 m pc ls rest) := by
  intro T hT X
  have htr : e.platform.stackTraces = false := (show e.platform.stackTraces = l.stackTraces by rw [X.admits.platform]).trans hl
  have Y := vx_rebase X (R' := { frames := R.frames, locals := R.locals, cells := 1, slots := 6 }) (Nat.le_refl _) (Nat.le_refl _) hRcells hRslots
  obtain ⟨s', hA⟩ : ∃ z, z = (T.setVm s.vm).setFrames (.invoking m args :: below) := ⟨_, rfl⟩
  rw [← hA] at Y
  have hvm : s'.vm = s.vm := by rw [hA]; rfl
  have hhp : s'.heap = H := by rw [hA]; exact hT
  have hW0 : s.WarmedH s'.vm := by rw [hvm]; exact State.WarmedH.refl s
  have hat' : ∀ w ∈ vx_atS own ic cls names, w.before args s' = true := fun w hw => vx_ot_at hW0 hvm.symm (hgood w (List.mem_cons_of_mem _ (List.mem_cons_of_mem _ hw))) (hat w hw)
  have hk' : (Cond.classLink own ik cls).before args s' = true := vx_ot_at hW0 hvm.symm (hgood _ List.mem_cons_self) hk
  have hini' : (Cond.initialized cls).before args s' = true := vx_ot_at hW0 hvm.symm (hgood _ (List.mem_cons_of_mem _ List.mem_cons_self)) hini
  have hU' : vx_Zq Bundle.tN "UNASSIGNED_STACK" Bundle.steD A s' s'.heap := by rw [hhp]; exact vx_Zq.moved hW0.alike (hU.kept hS.2.1)
  have hN' : vx_Zq Bundle.tN "SUPPRESSED_SENTINEL" Bundle.listD A s' s'.heap := by rw [hhp]; exact vx_Zq.moved hW0.alike (hN.kept hS.2.1)
  have h : ∀ w ∈ Bundle.ownAtoms own ic cls names, w.before args s' = true := vx_own hat' (vx_isRefq hU'.1) (vx_isRefq hN'.1) hU'.2.word hN'.2.word
  have hown' : s'.vm.findClass own = some m.cls := by rw [hvm]; exact hown
  have hins : (Cond.instantiable cls 6).before args s' = true := h _ (by simp [Bundle.ownAtoms])
  obtain ⟨vm₁, cX, kX, hfX, hkX, -, -, X₁, st1⟩ := Y.newCold hexec (own := own) (C := cls) (index := ik) (n := 6) hown' hk' hins hini'
    (g := F0 m pc ls rest) rfl (by rw [hb]; exact d0) (Nat.le_refl _) (Nat.le_refl _)
  generalize hT1 : (T.setVm vm₁).pushCell { cls := cX, slots := kX.instanceTypes.map defaultValue, vm := .none } = T1 at X₁ st1
  have hcat : (Value.ref T.heap.size).category = 1 := rfl
  have hcellA : T1.heap[T.heap.size]? = some (freshCell cX kX) := by rw [← hT1]; exact State.heap_pushCell_size _ _
  have d3' : decode c.code (pc + 3) = .ok (.dup, 1) := by rw [hb]; exact d3
  have d4' : decode c.code (pc + 4) = .ok (.ldc is, 2) := by rw [hb]; exact d4
  have hstr' : vk_R own is text sa s' := vk_R.warm hW0 hstr
  obtain ⟨U, hsteps, hrun, hend, hW, hsame, ce, hce, hO⟩ := X₁.ctorThrowS hexec htr (own := own) (cls := cls) (names := names) (ic := ic) hown' hcls hnames h (fun x hx => nomatch hx) hfX hkX hcellA (by rw [hhp, hT]; exact Nat.le_refl _) (msg := .ref sa) rfl
    (g := { method := m, pc := pc + 6, locals := ls, stack := .ref sa :: .ref T.heap.size :: .ref T.heap.size :: rest, locked := none }) rfl hsize rfl rfl (rest := rest) rfl
    (by rw [hb]; exact d6) (by rw [hb]; exact d9) hout hRframes (by simp only [List.map_cons, List.sum_cons, hcat]; omega) hlocks
  obtain ⟨f1, f2⟩ := vx_frame hsame
  rw [hhp] at f1 f2
  have hWs : s.WarmedH U.vm := State.WarmedH.trans hW0 hW
  have hcl : s.vm.findClass cls = some ce.cls := by
    have h9 := hO.cls
    rw [hvm] at h9
    exact h9
  have hall : s.sameButNew ({ U with vm := s.vm } : State) locs mc ms := by
    subst hA
    obtain ⟨e1, e2⟩ := hsame
    rw [State.setFrames_setFrames] at e1
    have h2 : (T.setVm s.vm).sameButNew ({ U with vm := s.vm } : State) [] (0 + 1) (0 + 6) := ⟨e1, e2⟩
    have h3 := X.same.trans h2
    rw [List.append_nil] at h3
    exact h3.mono hc hs
  refine ⟨U, ?_, .threw T.heap.size, hrun, hend, Or.inr ⟨T.heap.size, rfl, cls, ce, locs, hx U hWs.alike f1 (fun q hq => f2 q hq (fun z hz => nomatch hz)), hce, hO.vm, hcl, hWs, hall, hf⟩⟩
  refine st1 _ ?_
  show Steps p.tables e below (T1.setTop { method := m, pc := pc + 3, locals := ls, stack := .ref T.heap.size :: rest, locked := none }) _
  jvm_step X₁.here [X₁.here.top, hexec, d3', Value.category]
  exact X₁.ldcString hexec (own := own) (text := text) (index := is) (a := sa) hown' hstr'.1 hstr'.2
    (g := { method := m, pc := pc + 4, locals := ls, stack := .ref T.heap.size :: .ref T.heap.size :: rest, locked := none }) rfl d4' _ hsteps
/-- 'throw new E("text")', the text by a wide index -/
theorem vx_throwSW {cc : ByteArray} {pc : Nat} (hexec : p.tables.exec = Jvm.exec) (hb : c.code = cc) (hl : l.stackTraces = false) {own cls text : String} {names : List String} {ik is ic mc ms sa : Nat} {A : Nat → Prop}
    (hown : s.vm.findClass own = some m.cls) (hcls : Bundle.fit cls = true) (hnames : ∀ n ∈ names, Bundle.fit n = true)
    (hk : (Cond.classLink own ik cls).before args s = true) (hini : (Cond.initialized cls).before args s = true) (hstr : vk_R own is text sa s) (hat : ∀ w ∈ vx_atS own ic cls names, w.before args s = true)
    (hgood : ∀ w ∈ Cond.classLink own ik cls :: Cond.initialized cls :: vx_atS own ic cls names, vx_ot w = true)
    (hU : vx_Zq Bundle.tN "UNASSIGNED_STACK" Bundle.steD A s s.heap) (hN : vx_Zq Bundle.tN "SUPPRESSED_SENTINEL" Bundle.listD A s s.heap) (hS : va_S A s.heap H locs) (hsize : ls.size = c.maxLocals)
    (d0 : decode cc pc = .ok (.new ik, 3)) (d3 : decode cc (pc + 3) = .ok (.dup, 1)) (d4 : decode cc (pc + 4) = .ok (.ldc_w is, 3)) (d7 : decode cc (pc + 7) = .ok (.invokespecial ic, 3)) (d10 : decode cc (pc + 10) = .ok (.athrow, 1))
    (hout : ∀ x ∈ c.exceptionTable.toList, covers x (pc + 10) = false)
    (hRframes : names.length + 3 < R.frames) (hRlocals : (rest.map fun v => v.category).sum + (13 * (names.length + 1) + 43) ≤ R.locals) (hRcells : cells + 1 ≤ R.cells) (hRslots : slots + 6 ≤ R.slots) (hlocks : meth.locks = false)
    (hx : ∀ t : State, s.vm.Alike t.vm → H.size ≤ t.heap.size → (∀ q : Nat, q < H.size → t.heap[q]? = H[q]?) → XC cls s t)
    (hf : ∀ z ∈ locs, free z.base) (hc : cells + 1 ≤ mc) (hs : slots + 6 ≤ ms) :
    W p l e R s m args below meth c H locs cells slots (vx_MQ below Qc XC args s mc ms free) (F0 m pc ls rest) := by
  intro T hT X
  have htr : e.platform.stackTraces = false := (show e.platform.stackTraces = l.stackTraces by rw [X.admits.platform]).trans hl
  have Y := vx_rebase X (R' := { frames := R.frames, locals := R.locals, cells := 1, slots := 6 }) (Nat.le_refl _) (Nat.le_refl _) hRcells hRslots
  obtain ⟨s', hA⟩ : ∃ z, z = (T.setVm s.vm).setFrames (.invoking m args :: below) := ⟨_, rfl⟩
  rw [← hA] at Y
  have hvm : s'.vm = s.vm := by rw [hA]; rfl
  have hhp : s'.heap = H := by rw [hA]; exact hT
  have hW0 : s.WarmedH s'.vm := by rw [hvm]; exact State.WarmedH.refl s
  have hat' : ∀ w ∈ vx_atS own ic cls names, w.before args s' = true := fun w hw => vx_ot_at hW0 hvm.symm (hgood w (List.mem_cons_of_mem _ (List.mem_cons_of_mem _ hw))) (hat w hw)
  have hk' : (Cond.classLink own ik cls).before args s' = true := vx_ot_at hW0 hvm.symm (hgood _ List.mem_cons_self) hk
  have hini' : (Cond.initialized cls).before args s' = true := vx_ot_at hW0 hvm.symm (hgood _ (List.mem_cons_of_mem _ List.mem_cons_self)) hini
  have hU' : vx_Zq Bundle.tN "UNASSIGNED_STACK" Bundle.steD A s' s'.heap := by rw [hhp]; exact vx_Zq.moved hW0.alike (hU.kept hS.2.1)
  have hN' : vx_Zq Bundle.tN "SUPPRESSED_SENTINEL" Bundle.listD A s' s'.heap := by rw [hhp]; exact vx_Zq.moved hW0.alike (hN.kept hS.2.1)
  have h : ∀ w ∈ Bundle.ownAtoms own ic cls names, w.before args s' = true := vx_own hat' (vx_isRefq hU'.1) (vx_isRefq hN'.1) hU'.2.word hN'.2.word
  have hown' : s'.vm.findClass own = some m.cls := by rw [hvm]; exact hown
  have hins : (Cond.instantiable cls 6).before args s' = true := h _ (by simp [Bundle.ownAtoms])
  obtain ⟨vm₁, cX, kX, hfX, hkX, -, -, X₁, st1⟩ := Y.newCold hexec (own := own) (C := cls) (index := ik) (n := 6) hown' hk' hins hini'
    (g := F0 m pc ls rest) rfl (by rw [hb]; exact d0) (Nat.le_refl _) (Nat.le_refl _)
  generalize hT1 : (T.setVm vm₁).pushCell { cls := cX, slots := kX.instanceTypes.map defaultValue, vm := .none } = T1 at X₁ st1
  have hcat : (Value.ref T.heap.size).category = 1 := rfl
  have hcellA : T1.heap[T.heap.size]? = some (freshCell cX kX) := by rw [← hT1]; exact State.heap_pushCell_size _ _
  have d3' : decode c.code (pc + 3) = .ok (.dup, 1) := by rw [hb]; exact d3
  have d4' : decode c.code (pc + 4) = .ok (.ldc_w is, 3) := by rw [hb]; exact d4
  have hstr' : vk_R own is text sa s' := vk_R.warm hW0 hstr
  obtain ⟨U, hsteps, hrun, hend, hW, hsame, ce, hce, hO⟩ := X₁.ctorThrowS hexec htr (own := own) (cls := cls) (names := names) (ic := ic) hown' hcls hnames h (fun x hx => nomatch hx) hfX hkX hcellA (by rw [hhp, hT]; exact Nat.le_refl _) (msg := .ref sa) rfl
    (g := { method := m, pc := pc + 7, locals := ls, stack := .ref sa :: .ref T.heap.size :: .ref T.heap.size :: rest, locked := none }) rfl hsize rfl rfl (rest := rest) rfl
    (by rw [hb]; exact d7) (by rw [hb]; exact d10) hout hRframes (by simp only [List.map_cons, List.sum_cons, hcat]; omega) hlocks
  obtain ⟨f1, f2⟩ := vx_frame hsame
  rw [hhp] at f1 f2
  have hWs : s.WarmedH U.vm := State.WarmedH.trans hW0 hW
  have hcl : s.vm.findClass cls = some ce.cls := by
    have h9 := hO.cls
    rw [hvm] at h9
    exact h9
  have hall : s.sameButNew ({ U with vm := s.vm } : State) locs mc ms := by
    subst hA
    obtain ⟨e1, e2⟩ := hsame
    rw [State.setFrames_setFrames] at e1
    have h2 : (T.setVm s.vm).sameButNew ({ U with vm := s.vm } : State) [] (0 + 1) (0 + 6) := ⟨e1, e2⟩
    have h3 := X.same.trans h2
    rw [List.append_nil] at h3
    exact h3.mono hc hs
  refine ⟨U, ?_, .threw T.heap.size, hrun, hend, Or.inr ⟨T.heap.size, rfl, cls, ce, locs, hx U hWs.alike f1 (fun q hq => f2 q hq (fun z hz => nomatch hz)), hce, hO.vm, hcl, hWs, hall, hf⟩⟩
  refine st1 _ ?_
  show Steps p.tables e below (T1.setTop { method := m, pc := pc + 3, locals := ls, stack := .ref T.heap.size :: rest, locked := none }) _
  jvm_step X₁.here [X₁.here.top, hexec, d3', Value.category]
  exact X₁.ldcStringW hexec (own := own) (text := text) (index := is) (a := sa) hown' hstr'.1 hstr'.2
    (g := { method := m, pc := pc + 4, locals := ls, stack := .ref T.heap.size :: .ref T.heap.size :: rest, locked := none }) rfl d4' _ hsteps
end Ends
section Bodies
variable {l : Launch}
theorem vx_ofW {y : MethodName} {ws ws' : List Cond} {rm : Room} {Pc : Array Value → State → Prop} {Qc : Array Value → State → Outcome → State → Prop} {XC : String → State → State → Prop} {mc ms : Nat} {free : Addr → Prop} {cc : ByteArray} {maxL : Nat} {ret : Option FieldType}
    (hy : plainName y.cls = true) (hw : ws = Cond.code y cc maxL ret :: ws')
    (body : ∀ p e s m args below meth c s₁, BodyLoose p l y (headSpec ws rm) cc maxL ret e s m args below meth c s₁ → c.maxLocals = maxL → (∀ x ∈ c.exceptionTable.toList, False) → Pc args s →
      W p l e (headSpec ws rm).room s m args below meth c s.heap [] 0 0 (vx_MQ below Qc XC args s mc ms free) (entryFrame m args maxL)) : vx_Met l y ws rm Pc Qc XC mc ms free := by
  refine MetFree.of_bodyS (code := cc) (maxLocals := maxL) (ret := ret) hy ?_ ?_
  · intro args s m h hn
    obtain ⟨meth, c, h1, h2, h3, h4, h5, h6, -, -⟩ := Cond.code_spec hn (atoms_spec (ws := ws) h _ (by rw [hw]; exact List.mem_cons_self))
    exact ⟨meth, c, h1, h2, h3, h4, h5, h6⟩
  · intro p e s m args below meth c s₁ B hml hP _
    have hh0 : s₁.heap = s.heap := by rw [B.state]; rfl
    have ht : ∀ x ∈ c.exceptionTable.toList, False := by
      obtain ⟨meth9, c9, h1, h2, -, -, -, -, h7, -⟩ := Cond.code_spec B.named (atoms_spec (ws := ws) B.pre _ (by rw [hw]; exact List.mem_cons_self))
      cases Option.some.inj (h1.symm.trans B.method)
      cases Option.some.inj (h2.symm.trans (Stand.of_body B).code)
      intro x hx
      rw [Array.isEmpty_iff.mp h7] at hx
      cases hx
    obtain ⟨t, a1, o, b1, b2, b3⟩ := body p e s m args below meth c s₁ B hml ht hP s₁ hh0 (Stand.of_body B)
    exact ⟨t, o, a1, b1, b2, b3⟩
/-- the table of a body with handlers -/
theorem vx_table {p : Program} {x y : MethodName} {S : Spec} {cc bytes : ByteArray} {maxL maxL' : Nat} {ret ret' : Option FieldType} {e : Env} {s s₁ : State} {m : MethodId} {args : Array Value} {below : List Frame} {meth : Method} {c : Code} {hh : List (Nat × Nat × Nat × Nat)}
    (B : BodyLoose p l y S cc maxL ret e s m args below meth c s₁) (h : (Cond.codeWith y bytes maxL' ret' hh).before args s = true) : c.exceptionTable.toList = tableOf hh := by
  obtain ⟨m9, meth9, c9, hn9, h1, h2, -, -, h6, -⟩ := Cond.codeWith_spec h
  cases Option.some.inj (hn9.symm.trans B.named)
  cases Option.some.inj (h1.symm.trans B.method)
  cases Option.some.inj (h2.symm.trans (Stand.of_body B).code)
  rw [← h6, table_eq]
end Bodies
end VXA
/-! ===== END ===== -/
/-! ===== BEGIN a static call of a method with an exception table ===== -/
section VXS
variable {p : Program} {l : Launch} {e : Env} {R : Room} {s : State} {m : MethodId} {args : Array Value} {below : List Frame} {meth : Method} {c : Code} {T : State} {H : Heap} {locs : List Loc} {cells slots : Nat}
abbrev vx_CSW (R : Room) (s : State) (args : Array Value) (own : String) (index : Nat) (y : MethodName) (bytes : ByteArray) (maxL : Nat) (ret : Option FieldType) (hh : List (Nat × Nat × Nat × Nat)) (ws : List Cond) (rm : Room) (mc ms n : Nat) : Prop :=
  (rm.cells = mc ∧ rm.slots = ms ∧ rm.frames + 1 ≤ R.frames ∧ 8 + (maxL + 11) + rm.locals ≤ R.locals ∧ (∀ w ∈ ws, ∀ (a' : Array Value) (U : State), s.WarmedH U.vm → w.before a' U = true) ∧ Cond.codeWith y bytes maxL ret hh ∈ ws) ∧
  (Cond.codeWith y bytes maxL ret hh).before args s = true ∧ (Cond.initialized y.cls).before args s = true ∧ (y.cls ≠ "java/lang/invoke/MethodHandle" ∧ y.cls ≠ "java/lang/invoke/VarHandle") ∧
  (∀ sig, parseMethodDescriptor y.desc = some sig → n = sig.parameters.length) ∧ (Cond.methodLink own index y).before args s = true ∧ (Cond.static y).before args s = true
theorem vx_cwSW {own : String} {index maxL mc ms : Nat} {y : MethodName} {bytes : ByteArray} {ret : Option FieldType} {hh : List (Nat × Nat × Nat × Nat)} {Ts ws ws' : List Cond} {rm : Room} (n : Nat) (ht : ∀ w ∈ Ts, w.before args s = true) (hT : GoodIn Ts (va_wsS own index y ws)) (hw : ws = Cond.codeWith y bytes maxL ret hh :: ws') (hrc : rm.cells = mc) (hrs : rm.slots = ms)
    (hd : y.cls ≠ "java/lang/invoke/MethodHandle" ∧ y.cls ≠ "java/lang/invoke/VarHandle" ∧ (parseMethodDescriptor y.desc).map (fun d => d.parameters.length) = some n) (hR : rm.frames + 1 ≤ R.frames ∧ 8 + (maxL + 11) + rm.locals ≤ R.locals) :
    vx_CSW R s args own index y bytes maxL ret hh ws rm mc ms n := by
  have ok : ∀ w ∈ va_wsS own index y ws, w.before args s = true := fun w h => ht w (hT w h).1
  have hG : GoodIn Ts ws := fun w h => hT w (by unfold va_wsS; exact List.mem_append_right _ h)
  have hc : Cond.codeWith y bytes maxL ret hh ∈ ws := by rw [hw]; exact List.mem_cons_self
  refine ⟨⟨hrc, hrs, hR.1, hR.2, pay_in ht hG, hc⟩, ht _ (hG _ hc).1, ok _ (by simp [va_wsS]), ⟨hd.1, hd.2.1⟩, fun sig h => ?_, ok _ (by simp [va_wsS]), ok _ (by simp [va_wsS])⟩
  have h2 := hd.2.2
  rw [h] at h2
  exact (Option.some.inj h2).symm
theorem vx_callSW (X : Stand p l e R s m args below meth c T locs cells slots) (hexec : p.tables.exec = Jvm.exec) {own : String} {index : Nat} {y : MethodName} {bytes : ByteArray} {maxL : Nat} {ret : Option FieldType} {hh : List (Nat × Nat × Nat × Nat)}
    (hown : s.vm.findClass own = some m.cls) (hlink : (Cond.methodLink own index y).before args s = true) (hstat : (Cond.static y).before args s = true) (hinit : (Cond.initialized y.cls).before args s = true)
    (hcode : (Cond.codeWith y bytes maxL ret hh).before args s = true) (hy : y.cls ≠ "java/lang/invoke/MethodHandle" ∧ y.cls ≠ "java/lang/invoke/VarHandle")
    {W9 : Nat} {Pre : Pt → Array Value → Prop} {Post : Pt → Array Value → Option Value → Pt → Prop} (hK : Back l R p e below s args y 3 W9 Pre Post)
    {g : JFrame} (hg : g.method = m) (hsize : g.locals.size = c.maxLocals) {argsL rest : List Value} (hlen : ∀ sig, parseMethodDescriptor y.desc = some sig → argsL.length = sig.parameters.length)
    (hstack : g.stack = argsL.reverse ++ rest) (hW : 2 * g.monitorRoom + (rest.map fun v => v.category).sum ≤ W9) (hdg : decode c.code g.pc = .ok (.invokestatic index, 3))
    (hpre : ∀ vm₁, s.WarmedH vm₁ → Pre ⟨T.setVm vm₁, locs, cells, slots⟩ argsL.toArray) :
    ∃ (v : Option Value) (vm₁ : Vm) (B : Pt), s.WarmedH vm₁ ∧ Stand p l e R s m args below meth c B.U B.locs B.cells B.slots ∧ Post ⟨T.setVm vm₁, locs, cells, slots⟩ argsL.toArray v B ∧
      ∀ target, Steps p.tables e below (B.U.setTop { g with pc := g.pc + 3, stack := v.toList ++ rest }) target → Steps p.tables e below (T.setTop g) target := by
  obtain ⟨mk, methM, cM, hnamed, hmethM, -, -, -, -, -, -, hsigM⟩ := Cond.codeWith_spec hcode
  have hstatic : methM.isStatic = true := Cond.static_spec hnamed hmethM hstat
  obtain ⟨kP, hkP, -⟩ := className_of_methodNamed hnamed
  have hinitP : kP.init = .initialized := Cond.initialized_spec (findClass_of_methodNamed hnamed) hkP hinit
  obtain ⟨vm₁, X₁, hstep₁⟩ := X.invokestatic hexec hown hlink hnamed hmethM hstatic hkP hinitP hy (g := g) hg (argsL := argsL) (rest := rest) (hlen _ hsigM) hstack hdg
  obtain ⟨v, B, X', hpost, hsteps⟩ := hK m meth c ⟨T.setVm vm₁, locs, cells, slots⟩ { g with stack := rest } (.invokestatic index) mk argsL.toArray X₁ hg hsize hdg hW (X₁.named hnamed) (hpre vm₁ X₁.warmed)
  exact ⟨v, vm₁, B, X₁.warmed, X', hpost, fun target h => hstep₁ _ fun acts => by rw [doInvoke_state]; exact hsteps.trans h⟩
theorem vx_runSW {y : MethodName} {bytes cc : ByteArray} {maxL nL mc ms n index : Nat} {ret : Option FieldType} {hh : List (Nat × Nat × Nat × Nat)} {ws : List Cond} {rm : Room} {Pc : Array Value → State → Prop} {Qc : Array Value → State → Outcome → State → Prop} {free : Addr → Prop} {Ts : List Cond} {own : String} {As rest : List Value} {g : JFrame}
    (S : CallFix p m c cc nL s args Ts own) (hM : Met l y ws rm Pc Qc mc ms free) (cw : vx_CSW R s args own index y bytes maxL ret hh ws rm mc ms n) (hp : PreS s H Pc As)
    (hg : g.method = m) (hn : As.length = n) (hsize : g.locals.size = nL) (hstack : g.stack = As.reverse ++ rest) (hW : 2 * g.monitorRoom + (rest.map fun v => v.category).sum ≤ 8) (hdg : decode cc g.pc = .ok (.invokestatic index, 3)) (hf : cells + mc ≤ R.cells ∧ slots + ms ≤ R.slots) :
    va_Run p l e R s m args below meth c H locs cells slots mc ms g rest (Qc As.toArray) (free) := by
  obtain ⟨⟨hrc, hrs, hfr, hlo, hws, hcw⟩, hcode, hini, hy, hlen, hl, hstt⟩ := cw
  have hK : Back l R p e below s args y 3 8 (PreOf R mc ms Pc) (PostOf Qc mc ms free) := va_backW (hh := hh) (bytes := bytes) (maxL := maxL) (ret := ret) hM hp.1 hrc hrs hfr hlo hws hcw (fun a' U hW => word_at hW (Or.inl (by first | rfl | simp [Cond.onTables, Cond.keeps, Cond.steady])) hini)
  obtain ⟨hx, hb, hml, ho, -⟩ := S
  intro T hT X
  obtain ⟨v, vm₁, ⟨U', l2, c2, s2⟩, hW₁, X', ⟨g', mk, t, L, e1, e2, hq, h1, hL, h2, h3⟩, st⟩ := vx_callSW X hx (hh := hh) (bytes := bytes) (maxL := maxL) (ret := ret) ho hl hstt hini hcode hy hK hg (hsize.trans hml.symm) (argsL := As) (rest := rest) (fun sig h => hn.trans (hlen sig h)) hstack hW (by rw [hb]; exact hdg)
    (fun vm₁ hW₁ => ⟨hf.1, hf.2, hp.2 (T.setVm vm₁) hT hW₁⟩)
  dsimp only [Pt.U, Pt.locs, Pt.cells, Pt.slots] at X' e1 e2 h1 h2 h3 st
  subst h1; subst h2; subst h3
  exact ⟨v, (T.setVm vm₁).calling g' mk As.toArray, t, U', L, hT, X', hL, e1, e2, hq, st⟩
/-- not caught here, past rows that name other classes: it goes on to the caller -/
theorem vx_outP {p : Program} {l : Launch} {e : Env} {R : Room} {s : State} {m : MethodId} {args : Array Value} {below : List Frame} {meth : Method} {c : Code} {H : Heap} {locs : List Loc} {cells slots : Nat} {free : Addr → Prop} {ls : Array Slot} {rest : List Value} {Qc : Array Value → State → Outcome → State → Prop} {XC : String → State → State → Prop}
    {pc : Nat} {own E : String} {ce : Cell} {q : Addr} {mc ms : Nat} (hown : s.vm.findClass own = some m.cls) (hlocks : meth.locks = false)
    (hpass : ∀ z ∈ c.exceptionTable.toList, covers z pc = false ∨ (z.catchType ≠ 0 ∧ ∃ nm : String, (Cond.classLink own z.catchType nm).before args s = true ∧ va_Nc E nm s)) (hcell : H[q]? = some ce) (hv : ce.vm = .none) (hcl : s.vm.findClass E = some ce.cls)
    (hx : ∀ t : State, t.heap = H → s.vm.Alike t.vm → XC E s t) (hf : ∀ z ∈ locs, free z.base) (hc : cells ≤ mc) (hs : slots ≤ ms) :
    vx_W p l e R s m args below meth c H locs cells slots (vx_MQ below Qc XC args s mc ms free) (F0 m pc ls rest) q := by
  intro T hT X
  have hpl : e.platform.magicAccessors = ({} : Platform).magicAccessors := by rw [X.admits.platform]
  obtain ⟨vm', hW', X', st⟩ := X.outThrough hlocks q (g := F0 m pc ls rest) rfl rfl rfl (cell := ce) (by rw [hT]; exact hcell) (by rw [hv]; rfl)
    (by obtain ⟨k9, h9, -⟩ := Vm.findClass_spec hcl; exact ⟨k9, h9⟩) (fun z hz => by
      rcases hpass z hz with h | ⟨hz0, nm, hl1, hn1⟩
      · exact Or.inl h
      · obtain ⟨c6, hc6, hcl6⟩ := Cond.classLink_spec hown hl1 e.platform hpl
        obtain ⟨a8, b8, h1, h2, h3⟩ := hn1
        cases Option.some.inj (h1.symm.trans hcl)
        cases Option.some.inj (h2.symm.trans hc6)
        exact Or.inr ⟨hz0, _, hcl6, h3⟩)
  obtain ⟨g₀, hfr⟩ := X'.frames_eq
  have hcell9 : ((T.setVm vm').setFrames (.throwing q :: below)).heap[q]? = some ce := by
    show T.heap[q]? = some ce
    rw [hT]; exact hcell
  have hend : Ended ((T.setVm vm').setFrames (.throwing q :: below)) below (.threw q) := State.frames_setFrames _ (State.cur_lt_of_frames hfr)
  refine ⟨(T.setVm vm').setFrames (.throwing q :: below), ?_, .threw q, X'.here.running, hend, Or.inr ⟨q, rfl, E, ce, locs, hx _ hT (X'.ends _).1.alike, hcell9, hv, hcl, (X'.ends _).1, (X'.ends _).2.mono hc hs, hf⟩⟩
  rw [X.pushThrowing_eq]
  exact st
/-- a thing of a world lies in the heap -/
theorem vx_lt {D : va_G} {cl : List vw_C} {ws : va_W} {H1 : Heap} (h : va_P D cl ws H1) {k : Nat} {q : Nat × va_E} (hk : ws[k]? = some q) : q.1 < H1.size := (h k q hk).lt
end VXS
/-! ===== END ===== -/
/-! ===== BEGIN methods with a table of their own: called by a name, returning or throwing ===== -/
section VXH
/-! vx_backW, vx_callVX, vx_callSX, vx_callVW, vx_runVW, vx_runVX, vx_runSX, vx_ofWH follow the same proofs as their sisters above (Free/Laws.lean, Shelf42/LK1.lean); vx_outP calls Shelf42/NT130.lean (outThrough). -/
section
variable {l : Launch} {R : Room} {p : Program} {e : Env} {below : List Frame} {s : State} {sargs : Array Value} {y : MethodName} {len W9 : Nat}
theorem vx_backW {ws : List Cond} {rm : Room} {Pc : Array Value → State → Prop} {Qc : Array Value → State → Outcome → State → Prop} {XC : String → State → State → Prop} {mc ms : Nat} {free : Addr → Prop} {bytes : ByteArray} {maxL : Nat} {ret : Option FieldType} {hh : List (Nat × Nat × Nat × Nat)}
    (hM : vx_Met l y ws rm Pc Qc XC mc ms free) (hblind : FrameBlind Pc) (hrc : rm.cells = mc) (hrs : rm.slots = ms)
    (hframes : rm.frames + 1 ≤ R.frames) (hlocals : W9 + (maxL + 11) + rm.locals ≤ R.locals)
    (hws : ∀ w ∈ ws, ∀ a' U, s.WarmedH U.vm → w.before a' U = true) (hcode : Cond.codeWith y bytes maxL ret hh ∈ ws) (hinit : ∀ a' U, s.WarmedH U.vm → (Cond.initialized y.cls).before a' U = true) :
    vx_Back l R p e below s sargs y len W9 (PreOf R mc ms Pc) (PostOf Qc mc ms free) (vx_Post XC mc ms free) := by
  intro m meth c A g ig mk a X hg hsize hdg hW hn hp
  have h1 : (headSpec ws rm).pre.before a A.U = true := atoms_intro fun w hw => hws w hw _ _ X.warmed
  have h2 : (Cond.codeWith y bytes maxL ret hh).before a A.U = true := hws _ hcode _ _ X.warmed
  have h3 : (Cond.initialized y.cls).before a A.U = true := hinit _ _ X.warmed
  have h4 : A.cells + (headSpec ws rm).room.cells ≤ R.cells := by rw [show (headSpec ws rm).room.cells = mc from hrc]; exact hp.1
  have h5 : A.slots + (headSpec ws rm).room.slots ≤ R.slots := by rw [show (headSpec ws rm).room.slots = ms from hrs]; exact hp.2.1
  have hPc : Pc a (A.U.calling g mk a) := hblind _ _ _ _ hp.2.2
  obtain ⟨U, Ls, c0, s0⟩ := A
  dsimp only [Pt.U, Pt.locs, Pt.cells, Pt.slots] at h1 h2 h3 h4 h5 X hn hPc ⊢
  obtain ⟨m9, methY, cY, hn9, hmY, hcY, -, hlY, -⟩ := Cond.codeWith_spec h2
  cases Option.some.inj (hn9.symm.trans hn)
  obtain ⟨kY, hkY, -⟩ := className_of_methodNamed hn
  have hinitY : kY.init = .initialized := Cond.initialized_spec (findClass_of_methodNamed hn) hkY h3
  have h : At U g.method c below := by rw [hg]; exact X.here
  have hlocals9 : W9 + (maxL + 11) + (headSpec ws rm).room.locals ≤ R.locals := hlocals
  have happ : (headSpec ws rm).appliesLoose y e.platform (U.calling g mk a) = true :=
    Spec.appliesLoose_calling (g := g) h hdg hn hkY hinitY
      (X.room_calling (g := g) (R' := (headSpec ws rm).room) hsize hmY hcY hframes (by rw [hlY]; omega) h4 h5) h1
  obtain ⟨mid, hmid⟩ := h.above
  have hfr : (U.setTop g).frames = (.java g :: mid) ++ below := by rw [State.frames_setTop' g h.top, hmid]; rfl
  obtain ⟨o, s₂, hsteps, -, hend, hq⟩ := Steps.callFree hM p X.admits X.cas X.clock (acts := []) hfr happ hPc trivial
  have hq' : vx_Q Qc XC mc ms free a (U.calling g mk a) o s₂ := hq
  rw [State.frames_setTop' g h.top] at hend
  obtain ⟨g₀, hg0⟩ := Option.isSome_iff_exists.mp h.top
  obtain ⟨r, hr⟩ := State.topJava?_eq_some.mp hg0
  have hr' : (({ U with heap := s₂.heap, slotsUsed := s₂.slotsUsed } : State).setVm s₂.vm).frames = .java g₀ :: r := hr
  rcases hq' with ⟨hqc, L, hfe, hL⟩ | ⟨q, rfl, E, ce, L, hx, hce, hcv, hcl, hW₂, hsm, hL⟩
  · obtain ⟨⟨v, rfl⟩, hW₂, e2, q2, q3, q4, q5, q6⟩ := id hfe
    have e3 : s₂ = ({ (U.calling g mk a).setFrames s₂.frames with heap := s₂.heap, slotsUsed := s₂.slotsUsed } : State).setVm s₂.vm := by
      have : s₂ = ({ s₂ with vm := (U.calling g mk a).vm } : State).setVm s₂.vm := rfl
      rw [e2] at this
      exact this
    obtain ⟨c₂, i₂, len₂, hc₂, hd₂, hf₂⟩ := hend
    have hW' : U.WarmedH s₂.vm := hW₂
    have hcc : c₂ = c := by
      have h1 : s₂.code? g.method = U.code? g.method := by
        rw [State.code?_eq, State.code?_eq, hW'.alike.method?]
      exact Option.some.inj (hc₂.symm.trans (h1.trans h.code))
    subst hcc
    have hlen : len₂ = len := by rw [hdg] at hd₂; cases hd₂; rfl
    subst hlen
    have hs₂ : s₂ = (({ U with heap := s₂.heap, slotsUsed := s₂.slotsUsed } : State).setVm s₂.vm).setTop { g with pc := g.pc + len₂, stack := v.toList ++ g.stack } := by
      refine e3.trans ?_
      rw [hf₂, State.calling_eq h.top, State.setFrames_setFrames, State.setTop_of_frames _ hr', hr]
      rfl
    have hsame : U.sameButNew ({ U with heap := s₂.heap, slotsUsed := s₂.slotsUsed } : State) L mc ms := by
      refine ⟨?_, q2, q3, q4, q5, q6⟩
      obtain ⟨t, ht, -⟩ := State.frames_cons hr
      show ({ U with heap := s₂.heap, slotsUsed := s₂.slotsUsed } : State) = { U.setFrames U.frames with heap := s₂.heap, slotsUsed := s₂.slotsUsed }
      rw [State.setFrames_self ht]
    subst hg
    refine Or.inl ⟨v, ⟨(({ U with heap := s₂.heap, slotsUsed := s₂.slotsUsed } : State).setVm s₂.vm), Ls ++ L, c0 + mc, s0 + ms⟩,
      ⟨X.admits, X.cas, X.clock, X.frames, X.room, X.hears, X.method, X.code, (X.here.setHeapUsed s₂.heap s₂.slotsUsed).setVm hW'.alike, X.tail, State.WarmedH.trans X.warmed hW', X.limits, X.bytes, X.same.trans (hsame.setVm s.vm)⟩,
      ⟨g, mk, s₂, L, rfl, rfl, hqc, rfl, hL, rfl, rfl⟩, ?_⟩
    show Steps p.tables e below _ ((({ U with heap := s₂.heap, slotsUsed := s₂.slotsUsed } : State).setVm s₂.vm).setTop { g with pc := g.pc + len₂, stack := v.toList ++ g.stack })
    rw [← hs₂]
    exact hsteps
  · obtain ⟨e2, q2, q3, q4, q5, q6⟩ := id hsm
    have e3 : s₂ = ({ (U.calling g mk a).setFrames s₂.frames with heap := s₂.heap, slotsUsed := s₂.slotsUsed } : State).setVm s₂.vm := by
      have : s₂ = ({ s₂ with vm := (U.calling g mk a).vm } : State).setVm s₂.vm := rfl
      rw [e2] at this
      exact this
    have hf₂ : s₂.frames = .throwing q :: .java g :: U.frames.tail := hend
    have hW' : U.WarmedH s₂.vm := hW₂
    have hs₂ : s₂ = ((({ U with heap := s₂.heap, slotsUsed := s₂.slotsUsed } : State).setVm s₂.vm).setTop g).pushFrame (.throwing q) := by
      refine e3.trans ?_
      rw [hf₂, State.calling_eq h.top, State.setFrames_setFrames, State.pushFrame, State.frames_setTop _ hr', State.setTop_of_frames _ hr', State.setFrames_setFrames, hr]
      rfl
    have hsame : U.sameButNew ({ U with heap := s₂.heap, slotsUsed := s₂.slotsUsed } : State) L mc ms := by
      refine ⟨?_, q2, q3, q4, q5, q6⟩
      obtain ⟨t, ht, -⟩ := State.frames_cons hr
      show ({ U with heap := s₂.heap, slotsUsed := s₂.slotsUsed } : State) = { U.setFrames U.frames with heap := s₂.heap, slotsUsed := s₂.slotsUsed }
      rw [State.setFrames_self ht]
    subst hg
    refine Or.inr ⟨q, ⟨(({ U with heap := s₂.heap, slotsUsed := s₂.slotsUsed } : State).setVm s₂.vm), Ls ++ L, c0 + mc, s0 + ms⟩,
      ⟨X.admits, X.cas, X.clock, X.frames, X.room, X.hears, X.method, X.code, (X.here.setHeapUsed s₂.heap s₂.slotsUsed).setVm hW'.alike, X.tail, State.WarmedH.trans X.warmed hW', X.limits, X.bytes, X.same.trans (hsame.setVm s.vm)⟩,
      ⟨g, mk, s₂, L, E, ce, rfl, rfl, hx, hce, hcv, hcl, rfl, hL, rfl, rfl⟩, ?_⟩
    show Steps p.tables e below _ (((({ U with heap := s₂.heap, slotsUsed := s₂.slotsUsed } : State).setVm s₂.vm).setTop g).pushFrame (.throwing q))
    rw [← hs₂]
    exact hsteps
end
variable {p : Program} {l : Launch} {e : Env} {R : Room} {s : State} {m : MethodId} {args : Array Value} {below : List Frame} {meth : Method} {c : Code} {T : State} {H : Heap} {locs : List Loc} {cells slots : Nat}
theorem vx_callVX (X : Stand p l e R s m args below meth c T locs cells slots) (hexec : p.tables.exec = Jvm.exec) {own C : String} {index : Nat} {y : MethodName} {bytes : ByteArray} {maxL : Nat} {ret : Option FieldType} {hh : List (Nat × Nat × Nat × Nat)}
    (hown : s.vm.findClass own = some m.cls) (hlink : (Cond.methodLink own index y).before args s = true) (hinst : (Cond.instanceMethod y).before args s = true) (hsel : (Cond.selects C y y).before args s = true)
    (hcode : (Cond.codeWith y bytes maxL ret hh).before args s = true) (hy : y.cls ≠ "java/lang/invoke/MethodHandle" ∧ y.cls ≠ "java/lang/invoke/VarHandle")
    {W9 : Nat} {Pre : Pt → Array Value → Prop} {Post : Pt → Array Value → Option Value → Pt → Prop} {PostX : Pt → Array Value → Addr → Pt → Prop} (hK : vx_Back l R p e below s args y 3 W9 Pre Post PostX)
    {b : Addr} {cellB : Cell} (hcell : T.heap[b]? = some cellB) (hobj : cellB.vm.isStatics = false) (hcls : s.vm.findClass C = some cellB.cls)
    {g : JFrame} (hg : g.method = m) (hsize : g.locals.size = c.maxLocals) {argsL rest : List Value} (hlen : ∀ sig, parseMethodDescriptor y.desc = some sig → argsL.length = sig.parameters.length)
    (hstack : g.stack = argsL.reverse ++ .ref b :: rest) (hW : 2 * g.monitorRoom + (rest.map fun v => v.category).sum ≤ W9) (hdg : decode c.code g.pc = .ok (.invokevirtual index, 3))
    (hpre : ∀ vm₁, s.WarmedH vm₁ → Pre ⟨T.setVm vm₁, locs, cells, slots⟩ (Value.ref b :: argsL).toArray) :
    (∃ (v : Option Value) (vm₁ : Vm) (B : Pt), s.WarmedH vm₁ ∧ Stand p l e R s m args below meth c B.U B.locs B.cells B.slots ∧ Post ⟨T.setVm vm₁, locs, cells, slots⟩ (Value.ref b :: argsL).toArray v B ∧
      ∀ target, Steps p.tables e below (B.U.setTop { g with pc := g.pc + 3, stack := v.toList ++ rest }) target → Steps p.tables e below (T.setTop g) target) ∨
    (∃ (q : Addr) (vm₁ : Vm) (B : Pt), s.WarmedH vm₁ ∧ Stand p l e R s m args below meth c B.U B.locs B.cells B.slots ∧ PostX ⟨T.setVm vm₁, locs, cells, slots⟩ (Value.ref b :: argsL).toArray q B ∧
      Steps p.tables e below (T.setTop g) ((B.U.setTop { g with stack := rest }).pushFrame (.throwing q))) := by
  obtain ⟨mk, methM, hnamed, hmethM, hstM, habM⟩ := Cond.instanceMethod_spec hinst
  obtain ⟨m8, methM', cM, hn8, hmethM', -, -, -, -, -, -, hsigM⟩ := Cond.codeWith_spec hcode
  cases Option.some.inj (hn8.symm.trans hnamed)
  cases hmethM.symm.trans hmethM'
  obtain ⟨c2, r2, m2, q1, q2, q3, q4, kP, hkP, hkPi⟩ := Cond.selects_spec hsel
  cases hcls.symm.trans q1
  cases (State.methodFound?_of_named hnamed hy).symm.trans q2
  cases hnamed.symm.trans q3
  have hselP : selectMethod e.platform s.vm cellB.cls mk = .method mk := by rw [Launch.admits_selectMethod X.admits]; exact q4
  obtain ⟨vm₁, X₁, hstep₁⟩ := X.invokevirtual hexec hown hlink hnamed hmethM hstM hkP hkPi hy (a := b) (cell := cellB) hcell
    (fun z h => by rw [h] at hobj; cases hobj) hselP hmethM habM hkP hkPi (g := g) hg (argsL := argsL) (rest := rest) (hlen _ hsigM) hstack hdg
  rcases hK m meth c ⟨T.setVm vm₁, locs, cells, slots⟩ { g with stack := rest } (.invokevirtual index) mk (Value.ref b :: argsL).toArray X₁ hg hsize hdg hW (X₁.named hnamed) (hpre vm₁ X₁.warmed) with ⟨v, B, X', hpost, hsteps⟩ | ⟨q, B, X', hpost, hsteps⟩
  · exact Or.inl ⟨v, vm₁, B, X₁.warmed, X', hpost, fun target h => hstep₁ _ fun acts => by rw [doInvoke_state]; exact hsteps.trans h⟩
  · exact Or.inr ⟨q, vm₁, B, X₁.warmed, X', hpost, hstep₁ _ fun acts => by rw [doInvoke_state]; exact hsteps⟩
theorem vx_callSX (X : Stand p l e R s m args below meth c T locs cells slots) (hexec : p.tables.exec = Jvm.exec) {own : String} {index : Nat} {y : MethodName} {bytes : ByteArray} {maxL : Nat} {ret : Option FieldType} {hh : List (Nat × Nat × Nat × Nat)}
    (hown : s.vm.findClass own = some m.cls) (hlink : (Cond.methodLink own index y).before args s = true) (hstat : (Cond.static y).before args s = true) (hinit : (Cond.initialized y.cls).before args s = true)
    (hcode : (Cond.codeWith y bytes maxL ret hh).before args s = true) (hy : y.cls ≠ "java/lang/invoke/MethodHandle" ∧ y.cls ≠ "java/lang/invoke/VarHandle")
    {W9 : Nat} {Pre : Pt → Array Value → Prop} {Post : Pt → Array Value → Option Value → Pt → Prop} {PostX : Pt → Array Value → Addr → Pt → Prop} (hK : vx_Back l R p e below s args y 3 W9 Pre Post PostX)
    {g : JFrame} (hg : g.method = m) (hsize : g.locals.size = c.maxLocals) {argsL rest : List Value} (hlen : ∀ sig, parseMethodDescriptor y.desc = some sig → argsL.length = sig.parameters.length)
    (hstack : g.stack = argsL.reverse ++ rest) (hW : 2 * g.monitorRoom + (rest.map fun v => v.category).sum ≤ W9) (hdg : decode c.code g.pc = .ok (.invokestatic index, 3))
    (hpre : ∀ vm₁, s.WarmedH vm₁ → Pre ⟨T.setVm vm₁, locs, cells, slots⟩ argsL.toArray) :
    (∃ (v : Option Value) (vm₁ : Vm) (B : Pt), s.WarmedH vm₁ ∧ Stand p l e R s m args below meth c B.U B.locs B.cells B.slots ∧ Post ⟨T.setVm vm₁, locs, cells, slots⟩ argsL.toArray v B ∧
      ∀ target, Steps p.tables e below (B.U.setTop { g with pc := g.pc + 3, stack := v.toList ++ rest }) target → Steps p.tables e below (T.setTop g) target) ∨
    (∃ (q : Addr) (vm₁ : Vm) (B : Pt), s.WarmedH vm₁ ∧ Stand p l e R s m args below meth c B.U B.locs B.cells B.slots ∧ PostX ⟨T.setVm vm₁, locs, cells, slots⟩ argsL.toArray q B ∧
      Steps p.tables e below (T.setTop g) ((B.U.setTop { g with stack := rest }).pushFrame (.throwing q))) := by
  obtain ⟨mk, methM, cM, hnamed, hmethM, -, -, -, -, -, -, hsigM⟩ := Cond.codeWith_spec hcode
  have hstatic : methM.isStatic = true := Cond.static_spec hnamed hmethM hstat
  obtain ⟨kP, hkP, -⟩ := className_of_methodNamed hnamed
  have hinitP : kP.init = .initialized := Cond.initialized_spec (findClass_of_methodNamed hnamed) hkP hinit
  obtain ⟨vm₁, X₁, hstep₁⟩ := X.invokestatic hexec hown hlink hnamed hmethM hstatic hkP hinitP hy (g := g) hg (argsL := argsL) (rest := rest) (hlen _ hsigM) hstack hdg
  rcases hK m meth c ⟨T.setVm vm₁, locs, cells, slots⟩ { g with stack := rest } (.invokestatic index) mk argsL.toArray X₁ hg hsize hdg hW (X₁.named hnamed) (hpre vm₁ X₁.warmed) with ⟨v, B, X', hpost, hsteps⟩ | ⟨q, B, X', hpost, hsteps⟩
  · exact Or.inl ⟨v, vm₁, B, X₁.warmed, X', hpost, fun target h => hstep₁ _ fun acts => by rw [doInvoke_state]; exact hsteps.trans h⟩
  · exact Or.inr ⟨q, vm₁, B, X₁.warmed, X', hpost, hstep₁ _ fun acts => by rw [doInvoke_state]; exact hsteps⟩
theorem vx_callVW (X : Stand p l e R s m args below meth c T locs cells slots) (hexec : p.tables.exec = Jvm.exec) {own C : String} {index : Nat} {y : MethodName} {bytes : ByteArray} {maxL : Nat} {ret : Option FieldType} {hh : List (Nat × Nat × Nat × Nat)}
    (hown : s.vm.findClass own = some m.cls) (hlink : (Cond.methodLink own index y).before args s = true) (hinst : (Cond.instanceMethod y).before args s = true) (hsel : (Cond.selects C y y).before args s = true)
    (hcode : (Cond.codeWith y bytes maxL ret hh).before args s = true) (hy : y.cls ≠ "java/lang/invoke/MethodHandle" ∧ y.cls ≠ "java/lang/invoke/VarHandle")
    {W9 : Nat} {Pre : Pt → Array Value → Prop} {Post : Pt → Array Value → Option Value → Pt → Prop} (hK : Back l R p e below s args y 3 W9 Pre Post)
    {b : Addr} {cellB : Cell} (hcell : T.heap[b]? = some cellB) (hobj : cellB.vm.isStatics = false) (hcls : s.vm.findClass C = some cellB.cls)
    {g : JFrame} (hg : g.method = m) (hsize : g.locals.size = c.maxLocals) {argsL rest : List Value} (hlen : ∀ sig, parseMethodDescriptor y.desc = some sig → argsL.length = sig.parameters.length)
    (hstack : g.stack = argsL.reverse ++ .ref b :: rest) (hW : 2 * g.monitorRoom + (rest.map fun v => v.category).sum ≤ W9) (hdg : decode c.code g.pc = .ok (.invokevirtual index, 3))
    (hpre : ∀ vm₁, s.WarmedH vm₁ → Pre ⟨T.setVm vm₁, locs, cells, slots⟩ (Value.ref b :: argsL).toArray) :
    ∃ (v : Option Value) (vm₁ : Vm) (B : Pt), s.WarmedH vm₁ ∧ Stand p l e R s m args below meth c B.U B.locs B.cells B.slots ∧ Post ⟨T.setVm vm₁, locs, cells, slots⟩ (Value.ref b :: argsL).toArray v B ∧
      ∀ target, Steps p.tables e below (B.U.setTop { g with pc := g.pc + 3, stack := v.toList ++ rest }) target → Steps p.tables e below (T.setTop g) target := by
  obtain ⟨mk, methM, hnamed, hmethM, hstM, habM⟩ := Cond.instanceMethod_spec hinst
  obtain ⟨m8, methM', cM, hn8, hmethM', -, -, -, -, -, -, hsigM⟩ := Cond.codeWith_spec hcode
  cases Option.some.inj (hn8.symm.trans hnamed)
  cases hmethM.symm.trans hmethM'
  obtain ⟨c2, r2, m2, q1, q2, q3, q4, kP, hkP, hkPi⟩ := Cond.selects_spec hsel
  cases hcls.symm.trans q1
  cases (State.methodFound?_of_named hnamed hy).symm.trans q2
  cases hnamed.symm.trans q3
  have hselP : selectMethod e.platform s.vm cellB.cls mk = .method mk := by rw [Launch.admits_selectMethod X.admits]; exact q4
  obtain ⟨vm₁, X₁, hstep₁⟩ := X.invokevirtual hexec hown hlink hnamed hmethM hstM hkP hkPi hy (a := b) (cell := cellB) hcell
    (fun z h => by rw [h] at hobj; cases hobj) hselP hmethM habM hkP hkPi (g := g) hg (argsL := argsL) (rest := rest) (hlen _ hsigM) hstack hdg
  obtain ⟨v, B, X', hpost, hsteps⟩ := hK m meth c ⟨T.setVm vm₁, locs, cells, slots⟩ { g with stack := rest } (.invokevirtual index) mk (Value.ref b :: argsL).toArray X₁ hg hsize hdg hW (X₁.named hnamed) (hpre vm₁ X₁.warmed)
  exact ⟨v, vm₁, B, X₁.warmed, X', hpost, fun target h => hstep₁ _ fun acts => by rw [doInvoke_state]; exact hsteps.trans h⟩
abbrev vx_CVW (R : Room) (s : State) (args : Array Value) (own C : String) (index : Nat) (y : MethodName) (bytes : ByteArray) (maxL : Nat) (ret : Option FieldType) (hh : List (Nat × Nat × Nat × Nat)) (ws : List Cond) (rm : Room) (mc ms n : Nat) : Prop :=
  (rm.cells = mc ∧ rm.slots = ms ∧ rm.frames + 1 ≤ R.frames ∧ 8 + (maxL + 11) + rm.locals ≤ R.locals ∧ (∀ w ∈ ws, ∀ (a' : Array Value) (U : State), s.WarmedH U.vm → w.before a' U = true) ∧ Cond.codeWith y bytes maxL ret hh ∈ ws) ∧
  (Cond.codeWith y bytes maxL ret hh).before args s = true ∧ (Cond.initialized y.cls).before args s = true ∧ (y.cls ≠ "java/lang/invoke/MethodHandle" ∧ y.cls ≠ "java/lang/invoke/VarHandle") ∧
  (∀ sig, parseMethodDescriptor y.desc = some sig → n = sig.parameters.length) ∧ (Cond.methodLink own index y).before args s = true ∧ (Cond.instanceMethod y).before args s = true ∧ (Cond.selects C y y).before args s = true
theorem vx_cwVW {own C : String} {index maxL mc ms : Nat} {y : MethodName} {bytes : ByteArray} {ret : Option FieldType} {hh : List (Nat × Nat × Nat × Nat)} {Ts ws ws' : List Cond} {rm : Room} (n : Nat) (ht : ∀ w ∈ Ts, w.before args s = true) (hT : GoodIn Ts (wsV own index C y ws)) (hw : ws = Cond.codeWith y bytes maxL ret hh :: ws') (hrc : rm.cells = mc) (hrs : rm.slots = ms)
    (hd : y.cls = C ∧ y.cls ≠ "java/lang/invoke/MethodHandle" ∧ y.cls ≠ "java/lang/invoke/VarHandle" ∧ (parseMethodDescriptor y.desc).map (fun d => d.parameters.length) = some n) (hR : rm.frames + 1 ≤ R.frames ∧ 8 + (maxL + 11) + rm.locals ≤ R.locals) :
    vx_CVW R s args own C index y bytes maxL ret hh ws rm mc ms n := by
  obtain ⟨hC, hd⟩ := hd
  subst hC
  have ok : ∀ w ∈ wsV own index y.cls y ws, w.before args s = true := fun w h => ht w (hT w h).1
  have hG : GoodIn Ts ws := fun w h => hT w (by unfold wsV; exact List.mem_append_right _ h)
  have hc : Cond.codeWith y bytes maxL ret hh ∈ ws := by rw [hw]; exact List.mem_cons_self
  refine ⟨⟨hrc, hrs, hR.1, hR.2, pay_in ht hG, hc⟩, ht _ (hG _ hc).1, ok _ (by simp [wsV]), ⟨hd.1, hd.2.1⟩, fun sig h => ?_, ok _ (by simp [wsV]), ok _ (by simp [wsV]), ok _ (by simp [wsV])⟩
  have h2 := hd.2.2
  rw [h] at h2
  exact (Option.some.inj h2).symm
theorem vx_runVW {y : MethodName} {bytes cc : ByteArray} {maxL nL mc ms n index : Nat} {ret : Option FieldType} {hh : List (Nat × Nat × Nat × Nat)} {ws : List Cond} {rm : Room} {Pc : Array Value → State → Prop} {Qc : Array Value → State → Outcome → State → Prop} {free : Addr → Prop} {Ts : List Cond} {own C : String} {b : Addr} {As rest : List Value} {g : JFrame}
    (S : CallFix p m c cc nL s args Ts own) (hM : Met l y ws rm Pc Qc mc ms free) (cw : vx_CVW R s args own C index y bytes maxL ret hh ws rm mc ms n) (hp : PreV s H C b Pc As)
    (hg : g.method = m) (hn : As.length = n) (hsize : g.locals.size = nL) (hstack : g.stack = As.reverse ++ .ref b :: rest) (hW : 2 * g.monitorRoom + (rest.map fun v => v.category).sum ≤ 8) (hdg : decode cc g.pc = .ok (.invokevirtual index, 3)) (hf : cells + mc ≤ R.cells ∧ slots + ms ≤ R.slots) :
    va_Run p l e R s m args below meth c H locs cells slots mc ms g rest (Qc (Value.ref b :: As).toArray) free := by
  obtain ⟨⟨hrc, hrs, hfr, hlo, hws, hcw⟩, hcode, hini, hy, hlen, hl, hin, hse⟩ := cw
  have hK : Back l R p e below s args y 3 8 (PreOf R mc ms Pc) (PostOf Qc mc ms free) := va_backW (hh := hh) (bytes := bytes) (maxL := maxL) (ret := ret) hM hp.1 hrc hrs hfr hlo hws hcw (fun a' U hW => word_at hW (Or.inl (by first | rfl | simp [Cond.onTables, Cond.keeps, Cond.steady])) hini)
  obtain ⟨hx, hb, hml, ho, -⟩ := S
  obtain ⟨-, ⟨cellB, hcB, hoB, hclB⟩, hPc⟩ := hp
  intro T hT X
  obtain ⟨v, vm₁, ⟨U', l2, c2, s2⟩, hW₁, X', ⟨g', mk, t, L, e1, e2, hq, h1, hL, h2, h3⟩, st⟩ := vx_callVW X hx (C := C) (hh := hh) (bytes := bytes) (maxL := maxL) (ret := ret) ho hl hin hse hcode hy hK (by rw [hT]; exact hcB) hoB hclB hg (hsize.trans hml.symm) (argsL := As) (rest := rest) (fun sig h => hn.trans (hlen sig h)) hstack hW (by rw [hb]; exact hdg)
    (fun vm₁ hW₁ => ⟨hf.1, hf.2, hPc (T.setVm vm₁) hT hW₁⟩)
  dsimp only [Pt.U, Pt.locs, Pt.cells, Pt.slots] at X' e1 e2 h1 h2 h3 st
  subst h1; subst h2; subst h3
  exact ⟨v, (T.setVm vm₁).calling g' mk (Value.ref b :: As).toArray, t, U', L, hT, X', hL, e1, e2, hq, st⟩
section
variable {y : MethodName} {bytes cc : ByteArray} {maxL nL mc ms n index : Nat} {ret : Option FieldType} {ws : List Cond} {rm : Room} {Pc : Array Value → State → Prop} {Qc : Array Value → State → Outcome → State → Prop} {XC : String → State → State → Prop} {free : Addr → Prop} {Ts : List Cond} {own C : String} {b : Addr} {As rest : List Value} {g : JFrame}
theorem vx_runVX {hh : List (Nat × Nat × Nat × Nat)} (S : CallFix p m c cc nL s args Ts own) (hM : vx_Met l y ws rm Pc Qc XC mc ms free) (cw : vx_CVW R s args own C index y bytes maxL ret hh ws rm mc ms n) (hp : PreV s H C b Pc As)
    (hg : g.method = m) (hn : As.length = n) (hsize : g.locals.size = nL) (hstack : g.stack = As.reverse ++ .ref b :: rest) (hW : 2 * g.monitorRoom + (rest.map fun v => v.category).sum ≤ 8) (hdg : decode cc g.pc = .ok (.invokevirtual index, 3)) (hf : cells + mc ≤ R.cells ∧ slots + ms ≤ R.slots) :
    vx_Run p l e R s m args below meth c H locs cells slots mc ms g rest (Qc (Value.ref b :: As).toArray) XC free := by
  obtain ⟨⟨hrc, hrs, hfr, hlo, hws, hcw⟩, hcode, hini, hy, hlen, hl, hin, hse⟩ := cw
  have hK : vx_Back l R p e below s args y 3 8 (PreOf R mc ms Pc) (PostOf Qc mc ms free) (vx_Post XC mc ms free) := vx_backW (hh := hh) (bytes := bytes) (maxL := maxL) (ret := ret) hM hp.1 hrc hrs hfr hlo hws hcw (fun a' U hW => word_at hW (Or.inl (by first | rfl | simp [Cond.onTables, Cond.keeps, Cond.steady])) hini)
  obtain ⟨hx, hb, hml, ho, -⟩ := S
  obtain ⟨-, ⟨cellB, hcB, hoB, hclB⟩, hPc⟩ := hp
  intro T hT X
  rcases vx_callVX X hx (C := C) (hh := hh) (bytes := bytes) (maxL := maxL) (ret := ret) ho hl hin hse hcode hy hK (by rw [hT]; exact hcB) hoB hclB hg (hsize.trans hml.symm) (argsL := As) (rest := rest) (fun sig h => hn.trans (hlen sig h)) hstack hW (by rw [hb]; exact hdg)
    (fun vm₁ hW₁ => ⟨hf.1, hf.2, hPc (T.setVm vm₁) hT hW₁⟩) with ⟨v, vm₁, ⟨U', l2, c2, s2⟩, hW₁, X', ⟨g', mk, t, L, e1, e2, hq, h1, hL, h2, h3⟩, st⟩ | ⟨q, vm₁, ⟨U', l2, c2, s2⟩, hW₁, X', ⟨g', mk, t, L, E, ce, e1, e2, hq, hce, hcv, hcl, h1, hL, h2, h3⟩, st⟩
  · dsimp only [Pt.U, Pt.locs, Pt.cells, Pt.slots] at X' e1 e2 h1 h2 h3 st
    subst h1; subst h2; subst h3
    exact Or.inl ⟨v, (T.setVm vm₁).calling g' mk (Value.ref b :: As).toArray, t, U', L, hT, X', hL, e1, e2, hq, st⟩
  · dsimp only [Pt.U, Pt.locs, Pt.cells, Pt.slots] at X' e1 e2 h1 h2 h3 st hcl
    subst h1; subst h2; subst h3
    exact Or.inr ⟨q, (T.setVm vm₁).calling g' mk (Value.ref b :: As).toArray, t, U', L, E, ce, hT, X', hL, e1, e2, hq, hce, hcv, vx_cls hW₁ hcl, st⟩
theorem vx_runSX {hh : List (Nat × Nat × Nat × Nat)} (S : CallFix p m c cc nL s args Ts own) (hM : vx_Met l y ws rm Pc Qc XC mc ms free) (cw : vx_CSW R s args own index y bytes maxL ret hh ws rm mc ms n) (hp : PreS s H Pc As)
    (hg : g.method = m) (hn : As.length = n) (hsize : g.locals.size = nL) (hstack : g.stack = As.reverse ++ rest) (hW : 2 * g.monitorRoom + (rest.map fun v => v.category).sum ≤ 8) (hdg : decode cc g.pc = .ok (.invokestatic index, 3)) (hf : cells + mc ≤ R.cells ∧ slots + ms ≤ R.slots) :
    vx_Run p l e R s m args below meth c H locs cells slots mc ms g rest (Qc As.toArray) XC free := by
  obtain ⟨⟨hrc, hrs, hfr, hlo, hws, hcw⟩, hcode, hini, hy, hlen, hl, hstt⟩ := cw
  have hK : vx_Back l R p e below s args y 3 8 (PreOf R mc ms Pc) (PostOf Qc mc ms free) (vx_Post XC mc ms free) := vx_backW (hh := hh) (bytes := bytes) (maxL := maxL) (ret := ret) hM hp.1 hrc hrs hfr hlo hws hcw (fun a' U hW => word_at hW (Or.inl (by first | rfl | simp [Cond.onTables, Cond.keeps, Cond.steady])) hini)
  obtain ⟨hx, hb, hml, ho, -⟩ := S
  intro T hT X
  rcases vx_callSX X hx (hh := hh) (bytes := bytes) (maxL := maxL) (ret := ret) ho hl hstt hini hcode hy hK hg (hsize.trans hml.symm) (argsL := As) (rest := rest) (fun sig h => hn.trans (hlen sig h)) hstack hW (by rw [hb]; exact hdg)
    (fun vm₁ hW₁ => ⟨hf.1, hf.2, hp.2 (T.setVm vm₁) hT hW₁⟩) with ⟨v, vm₁, ⟨U', l2, c2, s2⟩, hW₁, X', ⟨g', mk, t, L, e1, e2, hq, h1, hL, h2, h3⟩, st⟩ | ⟨q, vm₁, ⟨U', l2, c2, s2⟩, hW₁, X', ⟨g', mk, t, L, E, ce, e1, e2, hq, hce, hcv, hcl, h1, hL, h2, h3⟩, st⟩
  · dsimp only [Pt.U, Pt.locs, Pt.cells, Pt.slots] at X' e1 e2 h1 h2 h3 st
    subst h1; subst h2; subst h3
    exact Or.inl ⟨v, (T.setVm vm₁).calling g' mk As.toArray, t, U', L, hT, X', hL, e1, e2, hq, st⟩
  · dsimp only [Pt.U, Pt.locs, Pt.cells, Pt.slots] at X' e1 e2 h1 h2 h3 st hcl
    subst h1; subst h2; subst h3
    exact Or.inr ⟨q, (T.setVm vm₁).calling g' mk As.toArray, t, U', L, E, ce, hT, X', hL, e1, e2, hq, hce, hcv, vx_cls hW₁ hcl, st⟩
end
end VXH
theorem vx_ofWH {l : Launch} {y : MethodName} {ws ws' : List Cond} {rm : Room} {Pc : Array Value → State → Prop} {Qc : Array Value → State → Outcome → State → Prop} {XC : String → State → State → Prop} {mc ms : Nat} {free : Addr → Prop} {cc : ByteArray} {maxL : Nat} {ret : Option FieldType} {hh : List (Nat × Nat × Nat × Nat)}
    (hy : plainName y.cls = true) (hw : ws = Cond.codeWith y cc maxL ret hh :: ws')
    (body : ∀ p e s m args below meth c s₁, BodyLoose p l y (headSpec ws rm) cc maxL ret e s m args below meth c s₁ → c.maxLocals = maxL → Pc args s →
      W p l e (headSpec ws rm).room s m args below meth c s.heap [] 0 0 (vx_MQ below Qc XC args s mc ms free) (entryFrame m args maxL)) : vx_Met l y ws rm Pc Qc XC mc ms free := by
  refine MetFree.of_bodyS (code := cc) (maxLocals := maxL) (ret := ret) hy ?_ ?_
  · intro args s m h hn
    obtain ⟨m9, meth, c, hn9, h1, h2, h3, h4, -, h5, h6, -⟩ := Cond.codeWith_spec (atoms_spec (ws := ws) h _ (by rw [hw]; exact List.mem_cons_self))
    cases hn.symm.trans hn9
    exact ⟨meth, c, h1, h2, h3, h4, h5, h6⟩
  · intro p e s m args below meth c s₁ B hml hP _
    have hh0 : s₁.heap = s.heap := by rw [B.state]; rfl
    obtain ⟨t, a1, o, b1, b2, b3⟩ := body p e s m args below meth c s₁ B hml hP s₁ hh0 (Stand.of_body B)
    exact ⟨t, o, a1, b1, b2, b3⟩
/-! ===== END ===== -/
/-! ===== BEGIN what the machine throws by itself, no traces kept ===== -/
section VXM
set_option maxHeartbeats 1000000 in
/-- the machine throws cls with the message text, no traces kept: from its note over the frame g to 'throwing' over the same frame (follows the proofs of Stand.vmThrowsMessage, Shelf/KitTracedVmS.lean, and Stand.throwsMessageColdBareV, StandMessageColdV.lean, without the step out of the frame) -/
theorem vx_vmAt {p : Program} {l : Launch} {e : Env} {R : Room} {s : State} {m₀ : MethodId} {args : Array Value} {below : List Frame} {meth : Method} {c : Code} {W : State} {locs : List Loc} {cells slots : Nat}
    (X : Stand p l e R s m₀ args below meth c W locs cells slots) (hexec : p.tables.exec = Jvm.exec) (htr : e.platform.stackTraces = false) {cls : String} {names : List String} {text : String}
    (hcls : Bundle.fit cls = true) (hnames : ∀ n ∈ names, Bundle.fit n = true) (hsoe : (cls == "java/lang/StackOverflowError") = false) (hoom : (cls == "java/lang/OutOfMemoryError") = false)
    (h : ∀ a ∈ Bundle.messageArmAtoms cls names, a.before args s = true)
    (hlocs : ∀ x ∈ locs, ∀ cell, s.heap[x.base]? = some cell → cell.vm.isStatics = false)
    (htext : (text == notModelled) = false) (hlimit : ¬ (stringBytes (stringToUtf16 text)).size > e.platform.arrayLengthLimit) (hheap : ¬ (stringBytes (stringToUtf16 text)).size * componentBytes .byte > e.platform.maxHeapBytes)
    {g : JFrame} (hg : g.method = m₀) (hsize : g.locals.size = c.maxLocals)
    (hRframes : names.length + 4 < R.frames) (hRlocals : 2 * g.monitorRoom + (g.stack.map fun v => v.category).sum + 10240 ≤ R.locals) (hshort : 13 * names.length + 55 ≤ 10240)
    (hRcells : cells + 3 ≤ R.cells) (hRslots : slots + ((stringBytes (stringToUtf16 text)).size + 4 + 6) ≤ R.slots) (hlocks : meth.locks = false) :
    ∃ (S : State) (q : Addr) (ce : Cell), (∀ target, Steps p.tables e below ((S.setTop g).pushFrame (.throwing q)) target → Steps p.tables e below ((W.setTop g).pushFrame (.throwNew cls (some text) none)) target) ∧
      Stand p l e R s m₀ args below meth c S locs (cells + 3) (slots + ((stringBytes (stringToUtf16 text)).size + 4 + 6)) ∧ S.heap[q]? = some ce ∧ s.vm.findClass cls = some ce.cls ∧ ce.vm = .none := by
  have howns : e.platform.frameOwnsMonitors = true := by rw [X.admits.platform]
  have hfin : e.platform.finalization = false := by rw [X.admits.platform]
  have hpl : e.platform.magicAccessors = ({} : Platform).magicAccessors := by rw [X.admits.platform]
  have a : ∀ x, x ∈ Bundle.messageArmAtoms cls names → x.holds args s none s [] = true := fun x hx => h x hx
  obtain ⟨T, Z0, L, -, Y⟩ := ThrowableC.of_atoms (args := args) howns hfin hpl (fun x hx => h x (by simp [Bundle.messageArmAtoms, hx]))
  obtain ⟨Z, M, LZ, LM, hnZ⟩ := Init0T.ofS_atoms (args := args) hpl L Y (fun x hx => h x (by simp [Bundle.messageArmAtoms, hx]))
  obtain ⟨P1, Ps, hlen, L1, hL, hP1m, hlink1, hlink⟩ := Bundle.chainS (args := args) hpl hnZ names cls hcls hnames (fun x hx => h x (by simp [Bundle.messageArmAtoms, hx]))
  obtain ⟨Zs, LZs, hn4, hfitv, hfitc⟩ := StringT.of_atoms (args := args) (fun x hx => h x (by simp [Bundle.messageArmAtoms, hx]))
  have hfound : s.vm.findClass cls = some P1.m.cls := findClass_of_methodNamed hP1m
  obtain ⟨c1, kX, hc1, hk, hord, -, -, hn6⟩ := Cond.instantiable_spec (a (.instantiable cls 6) (by simp [Bundle.messageArmAtoms]))
  cases Option.some.inj (hc1.symm.trans hfound)
  have hinit := Cond.initialized_spec hfound hk (a (.initialized cls) (by simp [Bundle.messageArmAtoms]))
  have hctor : kX.findMethod "<init>" "(Ljava/lang/String;)V" = some P1.m.idx := findMethod_of_methodNamed hP1m hk
  have hsel0 : selectMethod e.platform s.vm P1.m.cls T.fill0 = .method T.fill0 := by
    obtain ⟨c2, r2, m2, q1, q2, q3, q4, -⟩ := Cond.selects_spec (a (.selects cls Bundle.tFill0 Bundle.tFill0) (by simp [Bundle.messageArmAtoms]))
    cases Option.some.inj (q1.symm.trans hfound)
    cases Option.some.inj (q2.symm.trans (State.methodFound?_of_named Y.fill0 (by decide)))
    cases Option.some.inj (q3.symm.trans Y.fill0)
    rw [Launch.admits_selectMethod X.admits]; exact q4
  have hselF : selectMethod e.platform s.vm P1.m.cls T.fill = .method T.fill := by
    obtain ⟨c2, r2, m2, q1, q2, q3, q4, -⟩ := Cond.selects_spec (a (.selects cls Bundle.tFill Bundle.tFill) (by simp [Bundle.messageArmAtoms]))
    cases Option.some.inj (q1.symm.trans hfound)
    cases Option.some.inj (q2.symm.trans (State.methodFound?_of_named Y.fill (by decide)))
    cases Option.some.inj (q3.symm.trans Y.fill)
    rw [Launch.admits_selectMethod X.admits]; exact q4
  obtain ⟨cellS0, hcS0, hiss⟩ := Y.statics
  obtain ⟨u0, hu0⟩ := Cond.staticRefV Y.unassigned L.unassignedStatic L.statics hcS0 hiss (a (.isRef (.static Bundle.tN "UNASSIGNED_STACK" Bundle.steD)) (by simp [Bundle.messageArmAtoms]))
  obtain ⟨sen, hsen⟩ := Cond.staticRefV Y.sentinel L.sentinelStatic L.statics hcS0 hiss (a (.isRef (.static Bundle.tN "SUPPRESSED_SENTINEL" Bundle.listD)) (by simp [Bundle.messageArmAtoms]))
  obtain ⟨ci198, i198, fB, hk198, hg198, ha198, hsB, -, hnB, htB, hffB⟩ := Cond.ownField (t := .object "java/lang/Object") Y.found L.cls (by decide +kernel) (a (.fieldLink Bundle.tN 198 Bundle.tN "backtrace" "Ljava/lang/Object;") (by simp [Bundle.messageArmAtoms])) (a (.lays Bundle.tN Bundle.tN "backtrace" "Ljava/lang/Object;") (by simp [Bundle.messageArmAtoms])) e.platform hpl
  obtain ⟨cellS, hcS', heS, -, hkeep⟩ := X.same.2.2.2.2.2 T.aS cellS0 hcS0
  have hcellS : W.heap[T.aS]? = some cellS := hcS'
  have hout' : ∀ i, (⟨T.aS, i⟩ : Loc) ∉ locs := fun i hmem => by
    have := hlocs _ hmem cellS0 hcS0
    rw [hiss] at this; cases this
  have hknownS : cellS.vm ≠ .unknown := by
    rw [heS]; intro hu
    rw [show cellS0.vm = .unknown from hu] at hiss
    cases hiss
  have hvU : cellS.slots[T.fUnassigned.slot]? = some u0.v := by rw [hkeep _ (hout' _)]; exact hu0
  have hvSen : cellS.slots[T.fSentinel.slot]? = some sen.v := by rw [hkeep _ (hout' _)]; exact hsen
  obtain ⟨iM, hffM⟩ := Y.msg
  obtain ⟨tyC, dC, hdC, hdnC⟩ := Cond.laysAt hfound hk Y.cause (a (.lays cls Bundle.tN "cause" "Ljava/lang/Throwable;") (by simp [Bundle.messageArmAtoms]))
  obtain ⟨tyS, dS, hdS, hdnS⟩ := Cond.laysAt hfound hk Y.stack (a (.lays cls Bundle.tN "stackTrace" Bundle.steD) (by simp [Bundle.messageArmAtoms]))
  obtain ⟨tyP, dP, hdP, hdnP⟩ := Cond.laysAt hfound hk Y.supp (a (.lays cls Bundle.tN "suppressedExceptions" Bundle.listD) (by simp [Bundle.messageArmAtoms]))
  obtain ⟨tyM, dM, hdM, hdnM⟩ := Cond.laysAt hfound hk hffM (a (.lays cls Bundle.tN "detailMessage" "Ljava/lang/String;") (by simp [Bundle.messageArmAtoms]))
  obtain ⟨tyB, dB, hdB, hdnB⟩ := Cond.laysAt hfound hk hffB (a (.lays cls Bundle.tN "backtrace" "Ljava/lang/Object;") (by simp [Bundle.messageArmAtoms]))
  have bC := Cond.laysApart hdB hdC hdnB hdnC (by rw [hnB, Y.causeName]; decide)
  have bS := Cond.laysApart hdB hdS hdnB hdnS (by rw [hnB, Y.stackName]; decide)
  have bP := Cond.laysApart hdB hdP hdnB hdnP (by rw [hnB, Y.suppName]; decide)
  have hbk : ((preparedCellV T.toThrowableT (freshCell P1.m.cls kX) (W.heap.size + 2) u0 sen).withEntry W.cur).slots[fB.slot]? = some .null := by
    have := fresh_default (c := P1.m.cls) tyB
    rw [htB] at this
    simpa [preparedCellV, Cell.setSlot, Cell.withEntry, Array.getElem?_setIfInBounds, bC, bS, bP, bC.symm, bS.symm, bP.symm, defaultValue] using this
  have tkC := Takes.of_laid (v := .ref (W.heap.size + 2)) hk hord tyC (by rw [Y.causeType]; rfl)
  have tkS := Takes.of_laid (v := u0.v) hk hord tyS (by rw [Y.stackType]; exact fits_refV_array _ u0)
  have tkP := Takes.of_laid (v := sen.v) hk hord tyP (by rw [Y.suppType]; exact fits_refV_object _ sen)
  have tkM := Takes.of_laid (v := .ref (W.heap.size + 1)) hk hord tyM (by rw [Y.msgType]; rfl)
  have hskip : SkipFacts T e.platform s (fun u => u) u0 ((preparedCellV T.toThrowableT (freshCell P1.m.cls kX) (W.heap.size + 2) u0 sen).withEntry W.cur) := ⟨{ ci198 := ci198, i198 := i198, fBack := fB }, ⟨hk198, hg198, ha198, hsB⟩, hbk, fun _ _ => rfl⟩
  have h0 : At W g.method c below := by rw [hg]; exact X.here
  obtain ⟨hbeyond, hfreeW⟩ := X.vmMayThrow hsize (.throwNew cls (some text) none) (fun f hf => by cases hf) rfl hRlocals
  have hfr' : W.frames.length + Ps.length + 4 < (e.platform.stackLimits W.me).1 := by have := X.framesAbove hRframes; omega
  have hwd' : (stackUse (.java g :: W.frames.tail)).2 + 13 * Ps.length + 55 ≤ (e.platform.stackLimits W.me).2 := by have := X.stackAbove hsize (K := 13 * Ps.length + 55) (by omega); omega
  have hslots : W.slotsUsed + (stringBytes (stringToUtf16 text)).size + Zs.kS.instanceTypes.size + kX.instanceTypes.size ≤ e.platform.maxSlots := by
    have := X.slotsAbove hRslots
    rw [hn4, hn6]
    omega
  obtain ⟨vm', hW', st⟩ := Steps.vmThrowsMessageColdByV p (s₀ := s) (S := W) (g := g) h0 hexec T L Z LZ M LM X.warmed (t := W.cur) rfl Zs LZs P1 L1 Ps hL hlink1 hlink hsoe hoom hfound hk hinit hord hctor
    (Launch.admits_hotImplicitExceptions X.admits) hbeyond hfreeW htext hlimit hheap (X.cellsAbove hRcells) hslots (hfitv _) (hfitc _)
    (Nn := fun u => u) heapOnly_id (fun _ _ => rfl) (fun _ => rfl) (fun u x y => setCell_twice _ _ _ _) (fun _ => Nat.le_refl _) (cN := ((preparedCellV T.toThrowableT (freshCell P1.m.cls kX) (W.heap.size + 2) u0 sen).withEntry W.cur))
    hsel0 hcellS hknownS hvU tkS (fun _ hu => hu) (fun _ hu => hu) rfl rfl rfl (by simp [preparedCellV, Cell.setSlot, Cell.withEntry]) hskip (fun _ _ hA hW _ hroom _ hrest => L.nativeOff p htr hA hW hroom hrest) hselF hvSen tkC tkP tkM Y.objLocals rfl hfr' hwd'
  rw [plainBareV_eq T.toThrowableT (W.heap.size + 2) u0 sen (.ref (W.heap.size + 1)) W.cur rfl rfl] at st
  obtain ⟨-, -, w3, w4, -, -, -⟩ := withThrown_facts e.platform W Zs text P1.m.cls kX
  have X3 := ((X.pushed (bytesOf Zs.cB (stringToUtf16 text))).pushed (stringAt Zs.cS Zs.kS Zs.fv Zs.fc (stringToUtf16 text) W.heap.size)).pushed (freshCell P1.m.cls kX)
  rw [← withString_eq] at X3
  have X4 := X3.noted hW'
  have ha : (W.heap.size + 2) < ((withThrown W Zs text P1.m.cls kX).setVm vm').heap.size := by show _ < (withThrown W Zs text P1.m.cls kX).heap.size; rw [w3]; omega
  have hcell : ((withThrown W Zs text P1.m.cls kX).setVm vm').heap[(W.heap.size + 2)]? = some (freshCell P1.m.cls kX) := w4
  have X5 := ((((X4.stored hcell T.fCause.slot (.ref (W.heap.size + 2))).storedAgain ha T.fStack.slot u0.v).storedAgain ha T.fSupp.slot sen.v).storedAgain ha T.fStack.slot u0.v).storedAgain ha T.fMsg.slot (.ref (W.heap.size + 1))
  obtain ⟨g₁, hfrM⟩ := X5.frames_eq
  have hU : ((((withThrown W Zs text P1.m.cls kX).setVm vm').setCell (W.heap.size + 2) (plainBareV T.toThrowableT (freshCell P1.m.cls kX) (W.heap.size + 2) u0 sen (.ref (W.heap.size + 1)))).setTop g).pushFrame (.throwing (W.heap.size + 2)) = (((withThrown W Zs text P1.m.cls kX).setVm vm').setCell (W.heap.size + 2) (plainBareV T.toThrowableT (freshCell P1.m.cls kX) (W.heap.size + 2) u0 sen (.ref (W.heap.size + 1)))).setFrames (.throwing (W.heap.size + 2) :: .java g :: below) := by
    rw [State.pushFrame, State.frames_setTop _ hfrM, State.setTop_of_frames _ hfrM, State.setFrames_setFrames]
  have b1 : (bytesOf Zs.cB (stringToUtf16 text)).slots.size = (stringBytes (stringToUtf16 text)).size := by
    rw [(Cell.writeAll_facts _ _).2.2]; simp [bytes0]
  have b2 : (stringAt Zs.cS Zs.kS Zs.fv Zs.fc (stringToUtf16 text) W.heap.size).slots.size = 4 := by simp [string0, Cell.setSlot, hn4]
  have b3 : (freshCell P1.m.cls kX).slots.size = 6 := by simp [hn6]
  rw [b1, b2, b3] at X5
  have e9 : slots + (stringBytes (stringToUtf16 text)).size + 4 + 6 = slots + ((stringBytes (stringToUtf16 text)).size + 4 + 6) := by omega
  rw [e9] at X5
  simp only [List.append_assoc, List.cons_append, List.nil_append] at X5
  refine ⟨((withThrown W Zs text P1.m.cls kX).setVm vm').setCell (W.heap.size + 2) (plainBareV T.toThrowableT (freshCell P1.m.cls kX) (W.heap.size + 2) u0 sen (.ref (W.heap.size + 1))), W.heap.size + 2, _, fun target ht => st _ (by rw [X.tail, ← hU]; exact ht),
    X5.forget (fun y hy => ?_), heapAt_setCell_self _ ha, hfound, rfl⟩
  simp only [List.mem_cons, List.not_mem_nil, or_false] at hy
  have hge : s.heap.size ≤ W.heap.size := X.same.2.1
  rcases hy with rfl | rfl | rfl | rfl | rfl <;> exact Nat.le_trans hge (Nat.le_add_right _ 2)
set_option maxHeartbeats 1000000 in
/-- the machine throws NullPointerException, no traces kept: from its note over the frame g to 'throwing' over the same frame (follows the proof of Stand.vmThrowsNpe, Shelf42/KT2.lean; throwsNpeColdBareVAt, Shelf42/NT91.lean, called) -/
theorem vx_npeAt {p : Program} {l : Launch} {e : Env} {R : Room} {s : State} {m₀ : MethodId} {args : Array Value} {below : List Frame} {meth : Method} {c : Code} {W : State} {locs : List Loc} {cells slots : Nat}
    (X : Stand p l e R s m₀ args below meth c W locs cells slots) (hexec : p.tables.exec = Jvm.exec) (htr : e.platform.stackTraces = false) {n : Nat}
    (h : ∀ a ∈ Bundle.npeArmAtoms n, a.before args s = true)
    (hlocs : ∀ x ∈ locs, ∀ cell, s.heap[x.base]? = some cell → cell.vm.isStatics = false)
    {g : JFrame} (hg : g.method = m₀) (hsize : g.locals.size = c.maxLocals)
    (hRframes : 7 < R.frames) (hRlocals : 2 * g.monitorRoom + (g.stack.map fun v => v.category).sum + 10240 ≤ R.locals)
    (hRcells : cells + 1 ≤ R.cells) (hRslots : slots + n ≤ R.slots) (hlocks : meth.locks = false) :
    ∃ (S : State) (q : Addr) (ce : Cell), (∀ target, Steps p.tables e below ((S.setTop g).pushFrame (.throwing q)) target → Steps p.tables e below ((W.setTop g).pushFrame (.throwNew "java/lang/NullPointerException" none none)) target) ∧
      Stand p l e R s m₀ args below meth c S locs (cells + 1) (slots + n) ∧ S.heap[q]? = some ce ∧ s.vm.findClass "java/lang/NullPointerException" = some ce.cls ∧ ce.vm = .none := by
  have howns : e.platform.frameOwnsMonitors = true := by rw [X.admits.platform]
  have hfin : e.platform.finalization = false := by rw [X.admits.platform]
  have hpl : e.platform.magicAccessors = ({} : Platform).magicAccessors := by rw [X.admits.platform]
  have hpl2 : e.platform.arrayCloneIsPublic = true := by rw [X.admits.platform]
  have a' : ∀ x, x ∈ Bundle.npeArmAtoms n → x.holds args s none s [] = true := fun x hx => h x hx
  obtain ⟨T, Z, L, LZ, Y⟩ := ThrowableC.of_atoms (args := args) howns hfin hpl (fun x hx => h x (by simp [Bundle.npeArmAtoms, hx]))
  obtain ⟨N, LN, hcN, hnNF, hordN, hffS⟩ := NpeC.of_atoms (args := args) hpl hpl2 L Y (fun x hx => h x (by simp [Bundle.npeArmAtoms, hx]))
  obtain ⟨P1, L1, hP1m, hP1s⟩ := PassC.of_atoms (args := args) (s := s) hpl (X := Bundle.nN) (Y := Bundle.rN) (by decide) (by decide) LibCode.NullPointerException.Init0.at_0 LibCode.NullPointerException.Init0.at_1 LibCode.NullPointerException.Init0.at_4 (fun x hx => h x (by simp [Bundle.npeArmAtoms, hx]))
  obtain ⟨PR, LR, hPRm, hPRs⟩ := PassC.of_atoms (args := args) (s := s) hpl (X := Bundle.rN) (Y := Bundle.eN) (by decide) (by decide) LibCode.RuntimeException.Init0.at_0 LibCode.RuntimeException.Init0.at_1 LibCode.RuntimeException.Init0.at_4 (fun x hx => h x (by simp [Bundle.npeArmAtoms, hx]))
  obtain ⟨PE, LEx, hPEm, hPEs⟩ := PassC.of_atoms (args := args) (s := s) hpl (X := Bundle.eN) (Y := Bundle.tN) (by decide) (by decide) LibCode.Exception.Init0.at_0 LibCode.Exception.Init0.at_1 LibCode.Exception.Init0.at_4 (fun x hx => h x (by simp [Bundle.npeArmAtoms, hx]))
  have hfound : s.vm.findClass Bundle.nN = some P1.m.cls := findClass_of_methodNamed hP1m
  have ecls : N.cN = P1.m.cls := Option.some.inj (hcN.symm.trans hfound)
  have hk : s.vm.classes[P1.m.cls]? = some N.kN := by rw [← ecls]; exact LN.cls
  have hinit := Cond.initialized_spec hfound hk (a' (.initialized Bundle.nN) (by simp [Bundle.npeArmAtoms]))
  have hctor : N.kN.findMethod "<init>" "()V" = some P1.m.idx := findMethod_of_methodNamed hP1m hk
  obtain ⟨c1, k1, hc1, hk1, -, -, -, hn⟩ := Cond.instantiable_spec (a' (.instantiable Bundle.nN n) (by simp [Bundle.npeArmAtoms]))
  cases Option.some.inj (hc1.symm.trans hfound)
  cases Option.some.inj (hk1.symm.trans hk)
  have hfsz : (freshCell P1.m.cls N.kN).slots.size = n := by simp [hn]
  have hlink1 : P1.sup = PR.m := Option.some.inj (hP1s.symm.trans hPRm)
  have hlinkR : PR.sup = PE.m := Option.some.inj (hPRs.symm.trans hPEm)
  have hlinkE : PE.sup = Z.m T.toThrowableT := Option.some.inj (hPEs.symm.trans Y.init0)
  have hLs : ∀ P, P ∈ [PR, PE] → P.Links0 e.platform s := fun P hP => by
    simp only [List.mem_cons, List.not_mem_nil, or_false] at hP
    rcases hP with rfl | rfl
    · exact LR
    · exact LEx
  have hsel0 : selectMethod e.platform s.vm P1.m.cls T.fill0 = .method T.fill0 := by
    obtain ⟨c2, r2, m2, q1, q2, q3, q4, -⟩ := Cond.selects_spec (a' (.selects Bundle.nN Bundle.tFill0 Bundle.tFill0) (by simp [Bundle.npeArmAtoms]))
    cases Option.some.inj (q1.symm.trans hfound)
    cases Option.some.inj (q2.symm.trans (State.methodFound?_of_named Y.fill0 (by decide)))
    cases Option.some.inj (q3.symm.trans Y.fill0)
    rw [Launch.admits_selectMethod X.admits]; exact q4
  have hselF : selectMethod e.platform s.vm P1.m.cls T.fill = .method N.fill := by
    obtain ⟨c2, r2, m2, q1, q2, q3, q4, -⟩ := Cond.selects_spec (a' (.selects Bundle.nN Bundle.tFill Bundle.nFill) (by simp [Bundle.npeArmAtoms]))
    cases Option.some.inj (q1.symm.trans hfound)
    cases Option.some.inj (q2.symm.trans (State.methodFound?_of_named Y.fill (by decide)))
    cases Option.some.inj (q3.symm.trans hnNF)
    rw [Launch.admits_selectMethod X.admits]; exact q4
  obtain ⟨cellS0, hcS0, hiss⟩ := Y.statics
  obtain ⟨u0, hu0⟩ := Cond.staticRefV Y.unassigned L.unassignedStatic L.statics hcS0 hiss (a' (.isRef (.static Bundle.tN "UNASSIGNED_STACK" Bundle.steD)) (by simp [Bundle.npeArmAtoms]))
  obtain ⟨sen, hsen⟩ := Cond.staticRefV Y.sentinel L.sentinelStatic L.statics hcS0 hiss (a' (.isRef (.static Bundle.tN "SUPPRESSED_SENTINEL" Bundle.listD)) (by simp [Bundle.npeArmAtoms]))
  obtain ⟨ci198, i198, fB, hk198, hg198, ha198, hsB, -, hnB, htB, hffB⟩ := Cond.ownField (t := .object "java/lang/Object") Y.found L.cls (by decide +kernel) (a' (.fieldLink Bundle.tN 198 Bundle.tN "backtrace" Bundle.objD) (by simp [Bundle.npeArmAtoms])) (a' (.lays Bundle.tN Bundle.tN "backtrace" Bundle.objD) (by simp [Bundle.npeArmAtoms])) e.platform hpl
  obtain ⟨cellS, hcS', heS, -, hkeep⟩ := X.same.2.2.2.2.2 T.aS cellS0 hcS0
  have hcellS : W.heap[T.aS]? = some cellS := hcS'
  have hout' : ∀ i, (⟨T.aS, i⟩ : Loc) ∉ locs := fun i hmem => by
    have := hlocs _ hmem cellS0 hcS0
    rw [hiss] at this; cases this
  have hknownS : cellS.vm ≠ .unknown := by
    rw [heS]; intro hu
    rw [show cellS0.vm = .unknown from hu] at hiss
    cases hiss
  have hvU : cellS.slots[T.fUnassigned.slot]? = some u0.v := by rw [hkeep _ (hout' _)]; exact hu0
  have hvSen : cellS.slots[T.fSentinel.slot]? = some sen.v := by rw [hkeep _ (hout' _)]; exact hsen
  obtain ⟨tyC, dC, hdC, hdnC⟩ := Cond.laysAt hfound hk Y.cause (a' (.lays Bundle.nN Bundle.tN "cause" "Ljava/lang/Throwable;") (by simp [Bundle.npeArmAtoms]))
  obtain ⟨tyS, dS, hdS, hdnS⟩ := Cond.laysAt hfound hk Y.stack (a' (.lays Bundle.nN Bundle.tN "stackTrace" Bundle.steD) (by simp [Bundle.npeArmAtoms]))
  obtain ⟨tyP, dP, hdP, hdnP⟩ := Cond.laysAt hfound hk Y.supp (a' (.lays Bundle.nN Bundle.tN "suppressedExceptions" Bundle.listD) (by simp [Bundle.npeArmAtoms]))
  obtain ⟨tyX, dX, hdX, hdnX⟩ := Cond.laysAt hfound hk hffS (a' (.lays Bundle.nN Bundle.nN "extendedMessageState" "I") (by simp [Bundle.npeArmAtoms, Bundle.npeAtoms]))
  obtain ⟨hnX, htX⟩ := State.fieldFound?_type hffS (t := .int) (by decide +kernel)
  have xC := Cond.laysApart hdC hdX hdnC hdnX (by rw [hnX, Y.causeName]; decide)
  have xS := Cond.laysApart hdS hdX hdnS hdnX (by rw [hnX, Y.stackName]; decide)
  have xP := Cond.laysApart hdP hdX hdnP hdnX (by rw [hnX, Y.suppName]; decide)
  have hv0 : (freshCell P1.m.cls N.kN).slots[N.fState.slot]? = some (.int 0) := by
    have := fresh_default (c := P1.m.cls) tyX
    rw [htX] at this; exact this
  obtain ⟨tyB, dB, hdB, hdnB⟩ := Cond.laysAt hfound hk hffB (a' (.lays Bundle.nN Bundle.tN "backtrace" Bundle.objD) (by simp [Bundle.npeArmAtoms]))
  have bC := Cond.laysApart hdB hdC hdnB hdnC (by rw [hnB, Y.causeName]; decide)
  have bS := Cond.laysApart hdB hdS hdnB hdnS (by rw [hnB, Y.stackName]; decide)
  have bP := Cond.laysApart hdB hdP hdnB hdnP (by rw [hnB, Y.suppName]; decide)
  have bX := Cond.laysApart hdB hdX hdnB hdnX (by rw [hnB, hnX]; decide)
  have hbk : ((npeCell N.toNpeT (preparedCellV T.toThrowableT (freshCell P1.m.cls N.kN) W.heap.size u0 sen) W.cur).withEntry W.cur).slots[fB.slot]? = some .null := by
    have := fresh_default (c := P1.m.cls) tyB
    rw [htB] at this
    simpa [npeCell, preparedCellV, Cell.setSlot, Cell.withEntry, Array.getElem?_setIfInBounds, bC, bS, bP, bX, bC.symm, bS.symm, bP.symm, bX.symm, defaultValue] using this
  have tkC := Takes.of_laid (v := .ref W.heap.size) hk hordN tyC (by rw [Y.causeType]; rfl)
  have tkS := Takes.of_laid (v := u0.v) hk hordN tyS (by rw [Y.stackType]; exact fits_refV_array _ u0)
  have tkP := Takes.of_laid (v := sen.v) hk hordN tyP (by rw [Y.suppType]; exact fits_refV_object _ sen)
  have tkX := Takes.of_laid (v := .int 1) hk hordN tyX (by rw [htX]; rfl)
  have hskip : SkipFacts T e.platform s (fun u => u) u0 ((npeCell N.toNpeT (preparedCellV T.toThrowableT (freshCell P1.m.cls N.kN) W.heap.size u0 sen) W.cur).withEntry W.cur) := ⟨{ ci198 := ci198, i198 := i198, fBack := fB }, ⟨hk198, hg198, ha198, hsB⟩, hbk, fun _ _ => rfl⟩
  obtain ⟨vm', X3, st, -⟩ := X.throwsNpeColdBareVAt hexec hg hsize T L Z LZ N LN P1 L1 [PR, PE] hLs hlink1 ⟨hlinkR, hlinkE, trivial⟩ hfound hk hinit hordN hctor hsel0 hselF hcellS hknownS hvU hvSen
    hv0 xC xS xP tkC tkS tkP tkX Y.objLocals hskip (fun _ _ hA hW _ hroom _ hrest => L.nativeOff p htr hA hW hroom hrest) (by simpa using hRframes) hRlocals (by simp) hRcells (by rw [hn]; exact hRslots)
  have hlt : W.heap.size < ((W.pushCell (freshCell P1.m.cls N.kN)).setVm vm').heap.size := by
    show W.heap.size < (W.pushCell (freshCell P1.m.cls N.kN)).heap.size
    rw [State.heap_size_pushCell]; omega
  rw [hfsz] at X3
  obtain ⟨g₁, hfrM⟩ := X3.frames_eq
  have hU : ((((W.pushCell (freshCell P1.m.cls N.kN)).setVm vm').setCell W.heap.size (npeBareV T.toThrowableT N.toNpeT (freshCell P1.m.cls N.kN) W.heap.size u0 sen)).setTop g).pushFrame (.throwing W.heap.size) = (((W.pushCell (freshCell P1.m.cls N.kN)).setVm vm').setCell W.heap.size (npeBareV T.toThrowableT N.toNpeT (freshCell P1.m.cls N.kN) W.heap.size u0 sen)).setFrames (.throwing W.heap.size :: .java g :: below) := by
    rw [State.pushFrame, State.frames_setTop _ hfrM, State.setTop_of_frames _ hfrM, State.setFrames_setFrames]
  refine ⟨_, W.heap.size, _, fun target ht => st.trans (by rw [← hU]; exact ht), X3.forget (fun y hy => ?_), heapAt_setCell_self _ hlt, hfound, rfl⟩
  simp only [List.mem_cons, List.not_mem_nil, or_false] at hy
  have hge : s.heap.size ≤ W.heap.size := X.same.2.1
  rcases hy with rfl | rfl | rfl | rfl | rfl <;> exact hge
/-- the words of a machine's NullPointerException, but the four that speak of the heap -/
def vx_atN (n : Nat) : List Cond := (Bundle.npeArmAtoms n).filter vx_no
/-- the words of a machine's throw with a message, but the four that speak of the heap -/
def vx_atM (X : String) (names : List String) : List Cond := (Bundle.messageArmAtoms X names).filter vx_no
section
variable {p : Program} {l : Launch} {e : Env} {R : Room} {s : State} {m : MethodId} {args : Array Value} {below : List Frame} {meth : Method} {c : Code} {H : Heap} {locs : List Loc} {cells slots : Nat}
/-- a frame seen from a rebased start, seen from the first start again -/
theorem vx_back9 {T S : State} {R' : Room} {k n : Nat} (X : Stand p l e R s m args below meth c T locs cells slots) (Y : Stand p l e R' ((T.setVm s.vm).setFrames (.invoking m args :: below)) m args below meth c T [] 0 0) (Z : Stand p l e R' ((T.setVm s.vm).setFrames (.invoking m args :: below)) m args below meth c S [] k n) :
    Stand p l e R s m args below meth c S locs (cells + k) (slots + n) := by
  have hW0 : s.WarmedH ((T.setVm s.vm).setFrames (.invoking m args :: below)).vm := State.WarmedH.refl s
  refine { admits := X.admits, cas := X.cas, clock := X.clock, frames := X.frames, room := X.room, hears := X.hears, method := X.method, code := X.code, here := Z.here, tail := Z.tail, warmed := State.WarmedH.trans hW0 Z.warmed, limits := Z.limits.trans (Y.limits.symm.trans X.limits), bytes := Z.bytes.trans (Y.bytes.symm.trans X.bytes), same := ?_ }
  obtain ⟨e1, e2⟩ := Z.same
  rw [State.setFrames_setFrames] at e1
  have h2 : (T.setVm s.vm).sameButNew (S.setVm s.vm) [] k n := ⟨e1, e2⟩
  have h3 := X.same.trans h2
  rw [List.append_nil] at h3
  exact h3
/-- from the machine's note that E is thrown here with this text -/
def vx_Note (p : Program) (l : Launch) (e : Env) (R : Room) (s : State) (m : MethodId) (args : Array Value) (below : List Frame) (meth : Method) (c : Code) (H : Heap) (locs : List Loc) (cells slots : Nat) (Q : State → Prop) (g : JFrame) (E text : String) : Prop :=
  ∀ T : State, T.heap = H → Stand p l e R s m args below meth c T locs cells slots → ∃ t, Steps p.tables e below ((T.setTop g).pushFrame (.throwNew E (some text) none)) t ∧ Q t
theorem vx_vm {pc : Nat} {ls : Array Slot} {rest : List Value} {Q : State → Prop} (hexec : p.tables.exec = Jvm.exec) (hl : l.stackTraces = false) {cls text : String} {names : List String} {nb : Nat} {A : Nat → Prop}
    (hcls : Bundle.fit cls = true) (hnames : ∀ n ∈ names, Bundle.fit n = true) (hsoe : (cls == "java/lang/StackOverflowError") = false) (hoom : (cls == "java/lang/OutOfMemoryError") = false)
    (hat : ∀ w ∈ vx_atM cls names, w.before args s = true) (hgood : ∀ w ∈ vx_atM cls names, vx_ot w = true)
    (hU : vx_Zq Bundle.tN "UNASSIGNED_STACK" Bundle.steD A s s.heap) (hN : vx_Zq Bundle.tN "SUPPRESSED_SENTINEL" Bundle.listD A s s.heap) (hS : va_S A s.heap H locs) (hsize : ls.size = c.maxLocals)
    (htext : (text == notModelled) = false) (hnb : (stringBytes (stringToUtf16 text)).size ≤ nb) (hnb1 : nb ≤ 1000)
    (hRframes : names.length + 4 < R.frames) (hRlocals : (rest.map fun v => v.category).sum + 10240 ≤ R.locals) (hshort : 13 * names.length + 55 ≤ 10240) (hRcells : cells + 3 ≤ R.cells) (hRslots : slots + (nb + 10) ≤ R.slots) (hlocks : meth.locks = false)
    (k : ∀ (H1 : Heap) (q9 : Addr) (ce : Cell), H.size ≤ H1.size → (∀ q : Nat, q < H.size → H1[q]? = H[q]?) → va_S A s.heap H1 locs → H1[q9]? = some ce → ce.vm = .none → s.vm.findClass cls = some ce.cls → vx_W p l e R s m args below meth c H1 locs (cells + 3) (slots + (nb + 10)) Q (F0 m pc ls rest) q9) :
    vx_Note p l e R s m args below meth c H locs cells slots Q (F0 m pc ls rest) cls text := by
  intro T hT X
  have htr : e.platform.stackTraces = false := (show e.platform.stackTraces = l.stackTraces by rw [X.admits.platform]).trans hl
  have Y := vx_rebase X (R' := { frames := R.frames, locals := R.locals, cells := 3, slots := nb + 10 }) (Nat.le_refl _) (Nat.le_refl _) hRcells hRslots
  have hhp : ((T.setVm s.vm).setFrames (.invoking m args :: below)).heap = H := hT
  have hW0 : s.WarmedH ((T.setVm s.vm).setFrames (.invoking m args :: below)).vm := State.WarmedH.refl s
  have hat' : ∀ w ∈ vx_atM cls names, w.before args ((T.setVm s.vm).setFrames (.invoking m args :: below)) = true := fun w hw => vx_ot_at hW0 rfl (hgood w hw) (hat w hw)
  have hU' : vx_Zq Bundle.tN "UNASSIGNED_STACK" Bundle.steD A ((T.setVm s.vm).setFrames (.invoking m args :: below)) ((T.setVm s.vm).setFrames (.invoking m args :: below)).heap := by rw [hhp]; exact vx_Zq.moved hW0.alike (hU.kept hS.2.1)
  have hN' : vx_Zq Bundle.tN "SUPPRESSED_SENTINEL" Bundle.listD A ((T.setVm s.vm).setFrames (.invoking m args :: below)) ((T.setVm s.vm).setFrames (.invoking m args :: below)).heap := by rw [hhp]; exact vx_Zq.moved hW0.alike (hN.kept hS.2.1)
  obtain ⟨S, q, ce, st, Z, hce, hcl', hv⟩ := vx_vmAt Y hexec htr (cls := cls) (names := names) (text := text) hcls hnames hsoe hoom (vx_own hat' (vx_isRefq hU'.1) (vx_isRefq hN'.1) hU'.2.word hN'.2.word) (fun x hx => nomatch hx) htext
    (by rw [Launch.admits_arrayLengthLimit X.admits]; omega) (by rw [Launch.admits_maxHeapBytes X.admits]; simp only [componentBytes]; omega)
    (g := F0 m pc ls rest) rfl hsize hRframes (by show 2 * 0 + (rest.map fun v => v.category).sum + 10240 ≤ R.locals; omega) hshort (by show 0 + 3 ≤ 3; omega) (by show 0 + (_ + 4 + 6) ≤ nb + 10; omega) hlocks
  obtain ⟨f1, f2⟩ := vx_frame Z.same
  have f1' : H.size ≤ S.heap.size := by rw [← hT]; exact f1
  have f2' : ∀ q : Nat, q < H.size → S.heap[q]? = H[q]? := fun q hq => by
    rw [← hT]
    exact f2 q (by rw [← hT] at hq; exact hq) (fun z hz => nomatch hz)
  have X5 := vx_back9 X Y Z
  have X6 : Stand p l e R s m args below meth c S locs (cells + 3) (slots + (nb + 10)) := { X5 with same := X5.same.mono (by omega) (by omega) }
  obtain ⟨t, a1, b1⟩ := k S.heap q ce f1' f2' ⟨Nat.le_trans hS.1 f1', fun q h1 h2 => (f2' q (Nat.lt_of_lt_of_le h1 hS.1)).trans (hS.2.1 q h1 h2), hS.2.2⟩ hce hv hcl' S rfl X6
  exact ⟨t, st t a1, b1⟩
/-- from the machine's note that NullPointerException is thrown here -/
def vx_NoteN (p : Program) (l : Launch) (e : Env) (R : Room) (s : State) (m : MethodId) (args : Array Value) (below : List Frame) (meth : Method) (c : Code) (H : Heap) (locs : List Loc) (cells slots : Nat) (Q : State → Prop) (g : JFrame) : Prop :=
  ∀ T : State, T.heap = H → Stand p l e R s m args below meth c T locs cells slots → ∃ t, Steps p.tables e below ((T.setTop g).pushFrame (.throwNew "java/lang/NullPointerException" none none)) t ∧ Q t
theorem vx_npe {pc : Nat} {ls : Array Slot} {rest : List Value} {Q : State → Prop} (hexec : p.tables.exec = Jvm.exec) (hl : l.stackTraces = false) {nb : Nat} {A : Nat → Prop}
    (hat : ∀ w ∈ vx_atN nb, w.before args s = true) (hgood : ∀ w ∈ vx_atN nb, vx_ot w = true)
    (hU : vx_Zq Bundle.tN "UNASSIGNED_STACK" Bundle.steD A s s.heap) (hN : vx_Zq Bundle.tN "SUPPRESSED_SENTINEL" Bundle.listD A s s.heap) (hS : va_S A s.heap H locs) (hsize : ls.size = c.maxLocals)
    (hRframes : 7 < R.frames) (hRlocals : (rest.map fun v => v.category).sum + 10240 ≤ R.locals) (hRcells : cells + 1 ≤ R.cells) (hRslots : slots + nb ≤ R.slots) (hlocks : meth.locks = false)
    (k : ∀ (H1 : Heap) (q9 : Addr) (ce : Cell), H.size ≤ H1.size → (∀ q : Nat, q < H.size → H1[q]? = H[q]?) → va_S A s.heap H1 locs → H1[q9]? = some ce → ce.vm = .none → s.vm.findClass "java/lang/NullPointerException" = some ce.cls → vx_W p l e R s m args below meth c H1 locs (cells + 1) (slots + nb) Q (F0 m pc ls rest) q9) :
    vx_NoteN p l e R s m args below meth c H locs cells slots Q (F0 m pc ls rest) := by
  intro T hT X
  have htr : e.platform.stackTraces = false := (show e.platform.stackTraces = l.stackTraces by rw [X.admits.platform]).trans hl
  have Y := vx_rebase X (R' := { frames := R.frames, locals := R.locals, cells := 1, slots := nb }) (Nat.le_refl _) (Nat.le_refl _) hRcells hRslots
  have hhp : ((T.setVm s.vm).setFrames (.invoking m args :: below)).heap = H := hT
  have hW0 : s.WarmedH ((T.setVm s.vm).setFrames (.invoking m args :: below)).vm := State.WarmedH.refl s
  have hat' : ∀ w ∈ vx_atN nb, w.before args ((T.setVm s.vm).setFrames (.invoking m args :: below)) = true := fun w hw => vx_ot_at hW0 rfl (hgood w hw) (hat w hw)
  have hU' : vx_Zq Bundle.tN "UNASSIGNED_STACK" Bundle.steD A ((T.setVm s.vm).setFrames (.invoking m args :: below)) ((T.setVm s.vm).setFrames (.invoking m args :: below)).heap := by rw [hhp]; exact vx_Zq.moved hW0.alike (hU.kept hS.2.1)
  have hN' : vx_Zq Bundle.tN "SUPPRESSED_SENTINEL" Bundle.listD A ((T.setVm s.vm).setFrames (.invoking m args :: below)) ((T.setVm s.vm).setFrames (.invoking m args :: below)).heap := by rw [hhp]; exact vx_Zq.moved hW0.alike (hN.kept hS.2.1)
  obtain ⟨S, q, ce, st, Z, hce, hcl', hv⟩ := vx_npeAt Y hexec htr (n := nb) (vx_own hat' (vx_isRefq hU'.1) (vx_isRefq hN'.1) hU'.2.word hN'.2.word) (fun x hx => nomatch hx)
    (g := F0 m pc ls rest) rfl hsize hRframes (by show 2 * 0 + (rest.map fun v => v.category).sum + 10240 ≤ R.locals; omega) (by show 0 + 1 ≤ 1; omega) (by show 0 + nb ≤ nb; omega) hlocks
  obtain ⟨f1, f2⟩ := vx_frame Z.same
  have f1' : H.size ≤ S.heap.size := by rw [← hT]; exact f1
  have f2' : ∀ q : Nat, q < H.size → S.heap[q]? = H[q]? := fun q hq => by
    rw [← hT]
    exact f2 q (by rw [← hT] at hq; exact hq) (fun z hz => nomatch hz)
  have X5 := vx_back9 X Y Z
  have X6 : Stand p l e R s m args below meth c S locs (cells + 1) (slots + nb) := { X5 with same := X5.same.mono (by omega) (by omega) }
  obtain ⟨t, a1, b1⟩ := k S.heap q ce f1' f2' ⟨Nat.le_trans hS.1 f1', fun q h1 h2 => (f2' q (Nat.lt_of_lt_of_le h1 hS.1)).trans (hS.2.1 q h1 h2), hS.2.2⟩ hce hv hcl' S rfl X6
  exact ⟨t, st t a1, b1⟩
variable {Q : State → Prop} {cc : ByteArray} {pc : Nat} {ls : Array Slot} {rest : List Value}
theorem vx_idivZ (hexec : p.tables.exec = Jvm.exec) (hb : c.code = cc) {a b : Int32} (h0 : b = 0) (d : decode cc pc = .ok (.idiv, 1)) (k : vx_Note p l e R s m args below meth c H locs cells slots Q (F0 m pc ls rest) "java/lang/ArithmeticException" "/ by zero") :
    W p l e R s m args below meth c H locs cells slots Q (F0 m pc ls (.int b :: .int a :: rest)) := by
  intro T hT X
  obtain ⟨t, st, q⟩ := k T hT X
  exact ⟨t, X.idivZero hexec (g := F0 m pc ls (.int b :: .int a :: rest)) rfl (a := a) (rest := rest) (by rw [h0]) (by rw [hb]; exact d) t st, q⟩
theorem vx_iremZ (hexec : p.tables.exec = Jvm.exec) (hb : c.code = cc) {a b : Int32} (h0 : b = 0) (d : decode cc pc = .ok (.irem, 1)) (k : vx_Note p l e R s m args below meth c H locs cells slots Q (F0 m pc ls rest) "java/lang/ArithmeticException" "/ by zero") :
    W p l e R s m args below meth c H locs cells slots Q (F0 m pc ls (.int b :: .int a :: rest)) := by
  intro T hT X
  obtain ⟨t, st, q⟩ := k T hT X
  exact ⟨t, X.iremZero hexec (g := F0 m pc ls (.int b :: .int a :: rest)) rfl (a := a) (rest := rest) (by rw [h0]) (by rw [hb]; exact d) t st, q⟩
theorem vx_ldivZ (hexec : p.tables.exec = Jvm.exec) (hb : c.code = cc) {a b : Int64} (h0 : b = 0) (d : decode cc pc = .ok (.ldiv, 1)) (k : vx_Note p l e R s m args below meth c H locs cells slots Q (F0 m pc ls rest) "java/lang/ArithmeticException" "/ by zero") :
    W p l e R s m args below meth c H locs cells slots Q (F0 m pc ls (.long b :: .long a :: rest)) := by
  intro T hT X
  obtain ⟨t, st, q⟩ := k T hT X
  exact ⟨t, X.ldivZero hexec (g := F0 m pc ls (.long b :: .long a :: rest)) rfl (a := a) (rest := rest) (by rw [h0]) (by rw [hb]; exact d) t st, q⟩
theorem vx_lremZ (hexec : p.tables.exec = Jvm.exec) (hb : c.code = cc) {a b : Int64} (h0 : b = 0) (d : decode cc pc = .ok (.lrem, 1)) (k : vx_Note p l e R s m args below meth c H locs cells slots Q (F0 m pc ls rest) "java/lang/ArithmeticException" "/ by zero") :
    W p l e R s m args below meth c H locs cells slots Q (F0 m pc ls (.long b :: .long a :: rest)) := by
  intro T hT X
  obtain ⟨t, st, q⟩ := k T hT X
  exact ⟨t, X.lremZero hexec (g := F0 m pc ls (.long b :: .long a :: rest)) rfl (a := a) (rest := rest) (by rw [h0]) (by rw [hb]; exact d) t st, q⟩
theorem vx_ialdZ {D : va_G} {cl : List vw_C} {ws : va_W} {tys : List (ClassId × FieldType)} {a : Nat} (hexec : p.tables.exec = Jvm.exec) (hb : c.code = cc) (hK : va_K D cl tys s) (hP : va_P D cl ws H) (q0 t0 : Nat) {cA : ClassId} {n : Nat} {f : Nat → Int32} (ha : ws[q0]? = some (a, .inl (cA, n, .inl f))) (ht : tys[t0]? = some (cA, .int)) {i : Int32} (hout : ¬ vp_in i n) (hdg : decode cc pc = .ok (.iaload, 1))
    (k : ∀ tx : String, tx = (toString "Index " ++ toString i ++ toString " out of bounds for length " ++ toString n : String) → vx_Note p l e R s m args below meth c H locs cells slots Q (F0 m pc ls rest) "java/lang/ArrayIndexOutOfBoundsException" tx) : W p l e R s m args below meth c H locs cells slots Q (F0 m pc ls (.int i :: .ref a :: rest)) := by
  intro T hT X
  obtain ⟨t, st, q⟩ := k _ rfl T hT X
  refine ⟨t, ?_, q⟩
  have h1 := X.ialoadOut hexec (by rw [hT]; exact hP q0 _ ha) ((hK.2 t0 _ ht).1 n (fun j => .int (f j))) (j := i) (by show (i < 0 ∨ (arrV _ _ _).slots.size ≤ _); rw [arrV_size]; exact Classical.byContradiction hout) (g := F0 m pc ls (.int i :: .ref a :: rest)) rfl (rest := rest) rfl (by rw [hb]; exact hdg) t
  simp only [arrV_size] at h1
  exact h1 st
theorem vx_iastZ {D : va_G} {cl : List vw_C} {ws : va_W} {tys : List (ClassId × FieldType)} {a : Nat} (hexec : p.tables.exec = Jvm.exec) (hb : c.code = cc) (hK : va_K D cl tys s) (hP : va_P D cl ws H) (q0 t0 : Nat) {cA : ClassId} {n : Nat} {f : Nat → Int32} (ha : ws[q0]? = some (a, .inl (cA, n, .inl f))) (ht : tys[t0]? = some (cA, .int)) {i : Int32} {x : Int32} (hout : ¬ vp_in i n) (hdg : decode cc pc = .ok (.iastore, 1))
    (k : ∀ tx : String, tx = (toString "Index " ++ toString i ++ toString " out of bounds for length " ++ toString n : String) → vx_Note p l e R s m args below meth c H locs cells slots Q (F0 m pc ls rest) "java/lang/ArrayIndexOutOfBoundsException" tx) : W p l e R s m args below meth c H locs cells slots Q (F0 m pc ls (.int x :: .int i :: .ref a :: rest)) := by
  intro T hT X
  obtain ⟨t, st, q⟩ := k _ rfl T hT X
  refine ⟨t, ?_, q⟩
  have h1 := X.iastoreOut hexec (by rw [hT]; exact hP q0 _ ha) ((hK.2 t0 _ ht).1 n (fun j => .int (f j))) (j := i) (by show (i < 0 ∨ (arrV _ _ _).slots.size ≤ _); rw [arrV_size]; exact Classical.byContradiction hout) (g := F0 m pc ls (.int x :: .int i :: .ref a :: rest)) rfl (rest := rest) rfl (by rw [hb]; exact hdg) t
  simp only [arrV_size] at h1
  exact h1 st
theorem vx_baldZ {D : va_G} {cl : List vw_C} {ws : va_W} {tys : List (ClassId × FieldType)} {a : Nat} (hexec : p.tables.exec = Jvm.exec) (hb : c.code = cc) (hK : va_K D cl tys s) (hP : va_P D cl ws H) (q0 t0 : Nat) {cA : ClassId} {n : Nat} {f : Nat → Int32} (ha : ws[q0]? = some (a, .inl (cA, n, .inl f))) (ht : tys[t0]? = some (cA, .byte)) {i : Int32} (hout : ¬ vp_in i n) (hdg : decode cc pc = .ok (.baload, 1))
    (k : ∀ tx : String, tx = (toString "Index " ++ toString i ++ toString " out of bounds for length " ++ toString n : String) → vx_Note p l e R s m args below meth c H locs cells slots Q (F0 m pc ls rest) "java/lang/ArrayIndexOutOfBoundsException" tx) : W p l e R s m args below meth c H locs cells slots Q (F0 m pc ls (.int i :: .ref a :: rest)) := by
  intro T hT X
  obtain ⟨t, st, q⟩ := k _ rfl T hT X
  refine ⟨t, ?_, q⟩
  have h1 := X.baloadOut hexec (by rw [hT]; exact hP q0 _ ha) ((hK.2 t0 _ ht).1 n (fun j => .int (f j))) (j := i) (by show (i < 0 ∨ (arrV _ _ _).slots.size ≤ _); rw [arrV_size]; exact Classical.byContradiction hout) (g := F0 m pc ls (.int i :: .ref a :: rest)) rfl (rest := rest) rfl (by rw [hb]; exact hdg) t
  simp only [arrV_size] at h1
  exact h1 st
theorem vx_bastZ {D : va_G} {cl : List vw_C} {ws : va_W} {tys : List (ClassId × FieldType)} {a : Nat} (hexec : p.tables.exec = Jvm.exec) (hb : c.code = cc) (hK : va_K D cl tys s) (hP : va_P D cl ws H) (q0 t0 : Nat) {cA : ClassId} {n : Nat} {f : Nat → Int32} (ha : ws[q0]? = some (a, .inl (cA, n, .inl f))) (ht : tys[t0]? = some (cA, .byte)) {i : Int32} {x : Int32} (hout : ¬ vp_in i n) (hdg : decode cc pc = .ok (.bastore, 1))
    (k : ∀ tx : String, tx = (toString "Index " ++ toString i ++ toString " out of bounds for length " ++ toString n : String) → vx_Note p l e R s m args below meth c H locs cells slots Q (F0 m pc ls rest) "java/lang/ArrayIndexOutOfBoundsException" tx) : W p l e R s m args below meth c H locs cells slots Q (F0 m pc ls (.int x :: .int i :: .ref a :: rest)) := by
  intro T hT X
  obtain ⟨t, st, q⟩ := k _ rfl T hT X
  refine ⟨t, ?_, q⟩
  have h1 := X.bastoreOut hexec (by rw [hT]; exact hP q0 _ ha) ((hK.2 t0 _ ht).1 n (fun j => .int (f j))) (j := i) (by show (i < 0 ∨ (arrV _ _ _).slots.size ≤ _); rw [arrV_size]; exact Classical.byContradiction hout) (g := F0 m pc ls (.int x :: .int i :: .ref a :: rest)) rfl (rest := rest) rfl (by rw [hb]; exact hdg) t
  simp only [arrV_size] at h1
  exact h1 st
theorem vx_zaldZ {D : va_G} {cl : List vw_C} {ws : va_W} {tys : List (ClassId × FieldType)} {a : Nat} (hexec : p.tables.exec = Jvm.exec) (hb : c.code = cc) (hK : va_K D cl tys s) (hP : va_P D cl ws H) (q0 t0 : Nat) {cA : ClassId} {n : Nat} {f : Nat → Int32} (ha : ws[q0]? = some (a, .inl (cA, n, .inl f))) (ht : tys[t0]? = some (cA, .boolean)) {i : Int32} (hout : ¬ vp_in i n) (hdg : decode cc pc = .ok (.baload, 1))
    (k : ∀ tx : String, tx = (toString "Index " ++ toString i ++ toString " out of bounds for length " ++ toString n : String) → vx_Note p l e R s m args below meth c H locs cells slots Q (F0 m pc ls rest) "java/lang/ArrayIndexOutOfBoundsException" tx) : W p l e R s m args below meth c H locs cells slots Q (F0 m pc ls (.int i :: .ref a :: rest)) := by
  intro T hT X
  obtain ⟨t, st, q⟩ := k _ rfl T hT X
  refine ⟨t, ?_, q⟩
  have h1 := X.baloadOut hexec (by rw [hT]; exact hP q0 _ ha) ((hK.2 t0 _ ht).1 n (fun j => .int (f j))) (j := i) (by show (i < 0 ∨ (arrV _ _ _).slots.size ≤ _); rw [arrV_size]; exact Classical.byContradiction hout) (g := F0 m pc ls (.int i :: .ref a :: rest)) rfl (rest := rest) rfl (by rw [hb]; exact hdg) t
  simp only [arrV_size] at h1
  exact h1 st
theorem vx_zastZ {D : va_G} {cl : List vw_C} {ws : va_W} {tys : List (ClassId × FieldType)} {a : Nat} (hexec : p.tables.exec = Jvm.exec) (hb : c.code = cc) (hK : va_K D cl tys s) (hP : va_P D cl ws H) (q0 t0 : Nat) {cA : ClassId} {n : Nat} {f : Nat → Int32} (ha : ws[q0]? = some (a, .inl (cA, n, .inl f))) (ht : tys[t0]? = some (cA, .boolean)) {i : Int32} {x : Int32} (hout : ¬ vp_in i n) (hdg : decode cc pc = .ok (.bastore, 1))
    (k : ∀ tx : String, tx = (toString "Index " ++ toString i ++ toString " out of bounds for length " ++ toString n : String) → vx_Note p l e R s m args below meth c H locs cells slots Q (F0 m pc ls rest) "java/lang/ArrayIndexOutOfBoundsException" tx) : W p l e R s m args below meth c H locs cells slots Q (F0 m pc ls (.int x :: .int i :: .ref a :: rest)) := by
  intro T hT X
  obtain ⟨t, st, q⟩ := k _ rfl T hT X
  refine ⟨t, ?_, q⟩
  have h1 := X.bastoreOut hexec (by rw [hT]; exact hP q0 _ ha) ((hK.2 t0 _ ht).1 n (fun j => .int (f j))) (j := i) (by show (i < 0 ∨ (arrV _ _ _).slots.size ≤ _); rw [arrV_size]; exact Classical.byContradiction hout) (g := F0 m pc ls (.int x :: .int i :: .ref a :: rest)) rfl (rest := rest) rfl (by rw [hb]; exact hdg) t
  simp only [arrV_size] at h1
  exact h1 st
theorem vx_caldZ {D : va_G} {cl : List vw_C} {ws : va_W} {tys : List (ClassId × FieldType)} {a : Nat} (hexec : p.tables.exec = Jvm.exec) (hb : c.code = cc) (hK : va_K D cl tys s) (hP : va_P D cl ws H) (q0 t0 : Nat) {cA : ClassId} {n : Nat} {f : Nat → Int32} (ha : ws[q0]? = some (a, .inl (cA, n, .inl f))) (ht : tys[t0]? = some (cA, .char)) {i : Int32} (hout : ¬ vp_in i n) (hdg : decode cc pc = .ok (.caload, 1))
    (k : ∀ tx : String, tx = (toString "Index " ++ toString i ++ toString " out of bounds for length " ++ toString n : String) → vx_Note p l e R s m args below meth c H locs cells slots Q (F0 m pc ls rest) "java/lang/ArrayIndexOutOfBoundsException" tx) : W p l e R s m args below meth c H locs cells slots Q (F0 m pc ls (.int i :: .ref a :: rest)) := by
  intro T hT X
  obtain ⟨t, st, q⟩ := k _ rfl T hT X
  refine ⟨t, ?_, q⟩
  have h1 := X.caloadOut hexec (by rw [hT]; exact hP q0 _ ha) ((hK.2 t0 _ ht).1 n (fun j => .int (f j))) (j := i) (by show (i < 0 ∨ (arrV _ _ _).slots.size ≤ _); rw [arrV_size]; exact Classical.byContradiction hout) (g := F0 m pc ls (.int i :: .ref a :: rest)) rfl (rest := rest) rfl (by rw [hb]; exact hdg) t
  simp only [arrV_size] at h1
  exact h1 st
theorem vx_castZ {D : va_G} {cl : List vw_C} {ws : va_W} {tys : List (ClassId × FieldType)} {a : Nat} (hexec : p.tables.exec = Jvm.exec) (hb : c.code = cc) (hK : va_K D cl tys s) (hP : va_P D cl ws H) (q0 t0 : Nat) {cA : ClassId} {n : Nat} {f : Nat → Int32} (ha : ws[q0]? = some (a, .inl (cA, n, .inl f))) (ht : tys[t0]? = some (cA, .char)) {i : Int32} {x : Int32} (hout : ¬ vp_in i n) (hdg : decode cc pc = .ok (.castore, 1))
    (k : ∀ tx : String, tx = (toString "Index " ++ toString i ++ toString " out of bounds for length " ++ toString n : String) → vx_Note p l e R s m args below meth c H locs cells slots Q (F0 m pc ls rest) "java/lang/ArrayIndexOutOfBoundsException" tx) : W p l e R s m args below meth c H locs cells slots Q (F0 m pc ls (.int x :: .int i :: .ref a :: rest)) := by
  intro T hT X
  obtain ⟨t, st, q⟩ := k _ rfl T hT X
  refine ⟨t, ?_, q⟩
  have h1 := X.castoreOut hexec (by rw [hT]; exact hP q0 _ ha) ((hK.2 t0 _ ht).1 n (fun j => .int (f j))) (j := i) (by show (i < 0 ∨ (arrV _ _ _).slots.size ≤ _); rw [arrV_size]; exact Classical.byContradiction hout) (g := F0 m pc ls (.int x :: .int i :: .ref a :: rest)) rfl (rest := rest) rfl (by rw [hb]; exact hdg) t
  simp only [arrV_size] at h1
  exact h1 st
theorem vx_saldZ {D : va_G} {cl : List vw_C} {ws : va_W} {tys : List (ClassId × FieldType)} {a : Nat} (hexec : p.tables.exec = Jvm.exec) (hb : c.code = cc) (hK : va_K D cl tys s) (hP : va_P D cl ws H) (q0 t0 : Nat) {cA : ClassId} {n : Nat} {f : Nat → Int32} (ha : ws[q0]? = some (a, .inl (cA, n, .inl f))) (ht : tys[t0]? = some (cA, .short)) {i : Int32} (hout : ¬ vp_in i n) (hdg : decode cc pc = .ok (.saload, 1))
    (k : ∀ tx : String, tx = (toString "Index " ++ toString i ++ toString " out of bounds for length " ++ toString n : String) → vx_Note p l e R s m args below meth c H locs cells slots Q (F0 m pc ls rest) "java/lang/ArrayIndexOutOfBoundsException" tx) : W p l e R s m args below meth c H locs cells slots Q (F0 m pc ls (.int i :: .ref a :: rest)) := by
  intro T hT X
  obtain ⟨t, st, q⟩ := k _ rfl T hT X
  refine ⟨t, ?_, q⟩
  have h1 := X.saloadOut hexec (by rw [hT]; exact hP q0 _ ha) ((hK.2 t0 _ ht).1 n (fun j => .int (f j))) (j := i) (by show (i < 0 ∨ (arrV _ _ _).slots.size ≤ _); rw [arrV_size]; exact Classical.byContradiction hout) (g := F0 m pc ls (.int i :: .ref a :: rest)) rfl (rest := rest) rfl (by rw [hb]; exact hdg) t
  simp only [arrV_size] at h1
  exact h1 st
theorem vx_sastZ {D : va_G} {cl : List vw_C} {ws : va_W} {tys : List (ClassId × FieldType)} {a : Nat} (hexec : p.tables.exec = Jvm.exec) (hb : c.code = cc) (hK : va_K D cl tys s) (hP : va_P D cl ws H) (q0 t0 : Nat) {cA : ClassId} {n : Nat} {f : Nat → Int32} (ha : ws[q0]? = some (a, .inl (cA, n, .inl f))) (ht : tys[t0]? = some (cA, .short)) {i : Int32} {x : Int32} (hout : ¬ vp_in i n) (hdg : decode cc pc = .ok (.sastore, 1))
    (k : ∀ tx : String, tx = (toString "Index " ++ toString i ++ toString " out of bounds for length " ++ toString n : String) → vx_Note p l e R s m args below meth c H locs cells slots Q (F0 m pc ls rest) "java/lang/ArrayIndexOutOfBoundsException" tx) : W p l e R s m args below meth c H locs cells slots Q (F0 m pc ls (.int x :: .int i :: .ref a :: rest)) := by
  intro T hT X
  obtain ⟨t, st, q⟩ := k _ rfl T hT X
  refine ⟨t, ?_, q⟩
  have h1 := X.sastoreOut hexec (by rw [hT]; exact hP q0 _ ha) ((hK.2 t0 _ ht).1 n (fun j => .int (f j))) (j := i) (by show (i < 0 ∨ (arrV _ _ _).slots.size ≤ _); rw [arrV_size]; exact Classical.byContradiction hout) (g := F0 m pc ls (.int x :: .int i :: .ref a :: rest)) rfl (rest := rest) rfl (by rw [hb]; exact hdg) t
  simp only [arrV_size] at h1
  exact h1 st
theorem vx_laldZ {D : va_G} {cl : List vw_C} {ws : va_W} {tys : List (ClassId × FieldType)} {a : Nat} (hexec : p.tables.exec = Jvm.exec) (hb : c.code = cc) (hK : va_K D cl tys s) (hP : va_P D cl ws H) (q0 t0 : Nat) {cA : ClassId} {n : Nat} {f : Nat → Int64} (ha : ws[q0]? = some (a, .inl (cA, n, .inr (.inl f)))) (ht : tys[t0]? = some (cA, .long)) {i : Int32} (hout : ¬ vp_in i n) (hdg : decode cc pc = .ok (.laload, 1))
    (k : ∀ tx : String, tx = (toString "Index " ++ toString i ++ toString " out of bounds for length " ++ toString n : String) → vx_Note p l e R s m args below meth c H locs cells slots Q (F0 m pc ls rest) "java/lang/ArrayIndexOutOfBoundsException" tx) : W p l e R s m args below meth c H locs cells slots Q (F0 m pc ls (.int i :: .ref a :: rest)) := by
  intro T hT X
  obtain ⟨t, st, q⟩ := k _ rfl T hT X
  refine ⟨t, ?_, q⟩
  have h1 := X.laloadOut hexec (by rw [hT]; exact hP q0 _ ha) ((hK.2 t0 _ ht).1 n (fun j => .long (f j))) (j := i) (by show (i < 0 ∨ (arrV _ _ _).slots.size ≤ _); rw [arrV_size]; exact Classical.byContradiction hout) (g := F0 m pc ls (.int i :: .ref a :: rest)) rfl (rest := rest) rfl (by rw [hb]; exact hdg) t
  simp only [arrV_size] at h1
  exact h1 st
theorem vx_lastZ {D : va_G} {cl : List vw_C} {ws : va_W} {tys : List (ClassId × FieldType)} {a : Nat} (hexec : p.tables.exec = Jvm.exec) (hb : c.code = cc) (hK : va_K D cl tys s) (hP : va_P D cl ws H) (q0 t0 : Nat) {cA : ClassId} {n : Nat} {f : Nat → Int64} (ha : ws[q0]? = some (a, .inl (cA, n, .inr (.inl f)))) (ht : tys[t0]? = some (cA, .long)) {i : Int32} {x : Int64} (hout : ¬ vp_in i n) (hdg : decode cc pc = .ok (.lastore, 1))
    (k : ∀ tx : String, tx = (toString "Index " ++ toString i ++ toString " out of bounds for length " ++ toString n : String) → vx_Note p l e R s m args below meth c H locs cells slots Q (F0 m pc ls rest) "java/lang/ArrayIndexOutOfBoundsException" tx) : W p l e R s m args below meth c H locs cells slots Q (F0 m pc ls (.long x :: .int i :: .ref a :: rest)) := by
  intro T hT X
  obtain ⟨t, st, q⟩ := k _ rfl T hT X
  refine ⟨t, ?_, q⟩
  have h1 := X.lastoreOut hexec (by rw [hT]; exact hP q0 _ ha) ((hK.2 t0 _ ht).1 n (fun j => .long (f j))) (j := i) (by show (i < 0 ∨ (arrV _ _ _).slots.size ≤ _); rw [arrV_size]; exact Classical.byContradiction hout) (g := F0 m pc ls (.long x :: .int i :: .ref a :: rest)) rfl (rest := rest) rfl (by rw [hb]; exact hdg) t
  simp only [arrV_size] at h1
  exact h1 st
theorem vx_faldZ {D : va_G} {cl : List vw_C} {ws : va_W} {tys : List (ClassId × FieldType)} {a : Nat} (hexec : p.tables.exec = Jvm.exec) (hb : c.code = cc) (hK : va_K D cl tys s) (hP : va_P D cl ws H) (q0 t0 : Nat) {cA : ClassId} {n : Nat} {f : Nat → UInt32} (ha : ws[q0]? = some (a, .inl (cA, n, .inr (.inr (.inl f))))) (ht : tys[t0]? = some (cA, .float)) {i : Int32} (hout : ¬ vp_in i n) (hdg : decode cc pc = .ok (.faload, 1))
    (k : ∀ tx : String, tx = (toString "Index " ++ toString i ++ toString " out of bounds for length " ++ toString n : String) → vx_Note p l e R s m args below meth c H locs cells slots Q (F0 m pc ls rest) "java/lang/ArrayIndexOutOfBoundsException" tx) : W p l e R s m args below meth c H locs cells slots Q (F0 m pc ls (.int i :: .ref a :: rest)) := by
  intro T hT X
  obtain ⟨t, st, q⟩ := k _ rfl T hT X
  refine ⟨t, ?_, q⟩
  have h1 := X.faloadOut hexec (by rw [hT]; exact hP q0 _ ha) ((hK.2 t0 _ ht).1 n (fun j => .float (f j))) (j := i) (by show (i < 0 ∨ (arrV _ _ _).slots.size ≤ _); rw [arrV_size]; exact Classical.byContradiction hout) (g := F0 m pc ls (.int i :: .ref a :: rest)) rfl (rest := rest) rfl (by rw [hb]; exact hdg) t
  simp only [arrV_size] at h1
  exact h1 st
theorem vx_fastZ {D : va_G} {cl : List vw_C} {ws : va_W} {tys : List (ClassId × FieldType)} {a : Nat} (hexec : p.tables.exec = Jvm.exec) (hb : c.code = cc) (hK : va_K D cl tys s) (hP : va_P D cl ws H) (q0 t0 : Nat) {cA : ClassId} {n : Nat} {f : Nat → UInt32} (ha : ws[q0]? = some (a, .inl (cA, n, .inr (.inr (.inl f))))) (ht : tys[t0]? = some (cA, .float)) {i : Int32} {x : UInt32} (hout : ¬ vp_in i n) (hdg : decode cc pc = .ok (.fastore, 1))
    (k : ∀ tx : String, tx = (toString "Index " ++ toString i ++ toString " out of bounds for length " ++ toString n : String) → vx_Note p l e R s m args below meth c H locs cells slots Q (F0 m pc ls rest) "java/lang/ArrayIndexOutOfBoundsException" tx) : W p l e R s m args below meth c H locs cells slots Q (F0 m pc ls (.float x :: .int i :: .ref a :: rest)) := by
  intro T hT X
  obtain ⟨t, st, q⟩ := k _ rfl T hT X
  refine ⟨t, ?_, q⟩
  have h1 := X.fastoreOut hexec (by rw [hT]; exact hP q0 _ ha) ((hK.2 t0 _ ht).1 n (fun j => .float (f j))) (j := i) (by show (i < 0 ∨ (arrV _ _ _).slots.size ≤ _); rw [arrV_size]; exact Classical.byContradiction hout) (g := F0 m pc ls (.float x :: .int i :: .ref a :: rest)) rfl (rest := rest) rfl (by rw [hb]; exact hdg) t
  simp only [arrV_size] at h1
  exact h1 st
theorem vx_daldZ {D : va_G} {cl : List vw_C} {ws : va_W} {tys : List (ClassId × FieldType)} {a : Nat} (hexec : p.tables.exec = Jvm.exec) (hb : c.code = cc) (hK : va_K D cl tys s) (hP : va_P D cl ws H) (q0 t0 : Nat) {cA : ClassId} {n : Nat} {f : Nat → UInt64} (ha : ws[q0]? = some (a, .inl (cA, n, .inr (.inr (.inr (.inl f)))))) (ht : tys[t0]? = some (cA, .double)) {i : Int32} (hout : ¬ vp_in i n) (hdg : decode cc pc = .ok (.daload, 1))
    (k : ∀ tx : String, tx = (toString "Index " ++ toString i ++ toString " out of bounds for length " ++ toString n : String) → vx_Note p l e R s m args below meth c H locs cells slots Q (F0 m pc ls rest) "java/lang/ArrayIndexOutOfBoundsException" tx) : W p l e R s m args below meth c H locs cells slots Q (F0 m pc ls (.int i :: .ref a :: rest)) := by
  intro T hT X
  obtain ⟨t, st, q⟩ := k _ rfl T hT X
  refine ⟨t, ?_, q⟩
  have h1 := X.daloadOut hexec (by rw [hT]; exact hP q0 _ ha) ((hK.2 t0 _ ht).1 n (fun j => .double (f j))) (j := i) (by show (i < 0 ∨ (arrV _ _ _).slots.size ≤ _); rw [arrV_size]; exact Classical.byContradiction hout) (g := F0 m pc ls (.int i :: .ref a :: rest)) rfl (rest := rest) rfl (by rw [hb]; exact hdg) t
  simp only [arrV_size] at h1
  exact h1 st
theorem vx_dastZ {D : va_G} {cl : List vw_C} {ws : va_W} {tys : List (ClassId × FieldType)} {a : Nat} (hexec : p.tables.exec = Jvm.exec) (hb : c.code = cc) (hK : va_K D cl tys s) (hP : va_P D cl ws H) (q0 t0 : Nat) {cA : ClassId} {n : Nat} {f : Nat → UInt64} (ha : ws[q0]? = some (a, .inl (cA, n, .inr (.inr (.inr (.inl f)))))) (ht : tys[t0]? = some (cA, .double)) {i : Int32} {x : UInt64} (hout : ¬ vp_in i n) (hdg : decode cc pc = .ok (.dastore, 1))
    (k : ∀ tx : String, tx = (toString "Index " ++ toString i ++ toString " out of bounds for length " ++ toString n : String) → vx_Note p l e R s m args below meth c H locs cells slots Q (F0 m pc ls rest) "java/lang/ArrayIndexOutOfBoundsException" tx) : W p l e R s m args below meth c H locs cells slots Q (F0 m pc ls (.double x :: .int i :: .ref a :: rest)) := by
  intro T hT X
  obtain ⟨t, st, q⟩ := k _ rfl T hT X
  refine ⟨t, ?_, q⟩
  have h1 := X.dastoreOut hexec (by rw [hT]; exact hP q0 _ ha) ((hK.2 t0 _ ht).1 n (fun j => .double (f j))) (j := i) (by show (i < 0 ∨ (arrV _ _ _).slots.size ≤ _); rw [arrV_size]; exact Classical.byContradiction hout) (g := F0 m pc ls (.double x :: .int i :: .ref a :: rest)) rfl (rest := rest) rfl (by rw [hb]; exact hdg) t
  simp only [arrV_size] at h1
  exact h1 st
theorem vx_arraylengthN (hexec : p.tables.exec = Jvm.exec) (hb : c.code = cc) (hdg : decode cc pc = .ok (.arraylength, 1)) (k : vx_NoteN p l e R s m args below meth c H locs cells slots Q (F0 m pc ls rest)) : W p l e R s m args below meth c H locs cells slots Q (F0 m pc ls (.null :: rest)) := by
  intro T hT X
  obtain ⟨t, st, q⟩ := k T hT X
  exact ⟨t, X.arraylengthNull hexec (g := F0 m pc ls (.null :: rest)) rfl (rest := rest) rfl (by rw [hb]; exact hdg) t st, q⟩
theorem vx_ialoadN (hexec : p.tables.exec = Jvm.exec) (hb : c.code = cc) {i : Int32} (hdg : decode cc pc = .ok (.iaload, 1)) (k : vx_NoteN p l e R s m args below meth c H locs cells slots Q (F0 m pc ls rest)) : W p l e R s m args below meth c H locs cells slots Q (F0 m pc ls (.int i :: .null :: rest)) := by
  intro T hT X
  obtain ⟨t, st, q⟩ := k T hT X
  exact ⟨t, X.ialoadNull hexec (g := F0 m pc ls (.int i :: .null :: rest)) rfl (rest := rest) rfl (by rw [hb]; exact hdg) t st, q⟩
theorem vx_laloadN (hexec : p.tables.exec = Jvm.exec) (hb : c.code = cc) {i : Int32} (hdg : decode cc pc = .ok (.laload, 1)) (k : vx_NoteN p l e R s m args below meth c H locs cells slots Q (F0 m pc ls rest)) : W p l e R s m args below meth c H locs cells slots Q (F0 m pc ls (.int i :: .null :: rest)) := by
  intro T hT X
  obtain ⟨t, st, q⟩ := k T hT X
  exact ⟨t, X.laloadNull hexec (g := F0 m pc ls (.int i :: .null :: rest)) rfl (rest := rest) rfl (by rw [hb]; exact hdg) t st, q⟩
theorem vx_faloadN (hexec : p.tables.exec = Jvm.exec) (hb : c.code = cc) {i : Int32} (hdg : decode cc pc = .ok (.faload, 1)) (k : vx_NoteN p l e R s m args below meth c H locs cells slots Q (F0 m pc ls rest)) : W p l e R s m args below meth c H locs cells slots Q (F0 m pc ls (.int i :: .null :: rest)) := by
  intro T hT X
  obtain ⟨t, st, q⟩ := k T hT X
  exact ⟨t, X.faloadNull hexec (g := F0 m pc ls (.int i :: .null :: rest)) rfl (rest := rest) rfl (by rw [hb]; exact hdg) t st, q⟩
theorem vx_daloadN (hexec : p.tables.exec = Jvm.exec) (hb : c.code = cc) {i : Int32} (hdg : decode cc pc = .ok (.daload, 1)) (k : vx_NoteN p l e R s m args below meth c H locs cells slots Q (F0 m pc ls rest)) : W p l e R s m args below meth c H locs cells slots Q (F0 m pc ls (.int i :: .null :: rest)) := by
  intro T hT X
  obtain ⟨t, st, q⟩ := k T hT X
  exact ⟨t, X.daloadNull hexec (g := F0 m pc ls (.int i :: .null :: rest)) rfl (rest := rest) rfl (by rw [hb]; exact hdg) t st, q⟩
theorem vx_aaloadN (hexec : p.tables.exec = Jvm.exec) (hb : c.code = cc) {i : Int32} (hdg : decode cc pc = .ok (.aaload, 1)) (k : vx_NoteN p l e R s m args below meth c H locs cells slots Q (F0 m pc ls rest)) : W p l e R s m args below meth c H locs cells slots Q (F0 m pc ls (.int i :: .null :: rest)) := by
  intro T hT X
  obtain ⟨t, st, q⟩ := k T hT X
  exact ⟨t, X.aaloadNull hexec (g := F0 m pc ls (.int i :: .null :: rest)) rfl (rest := rest) rfl (by rw [hb]; exact hdg) t st, q⟩
theorem vx_baloadN (hexec : p.tables.exec = Jvm.exec) (hb : c.code = cc) {i : Int32} (hdg : decode cc pc = .ok (.baload, 1)) (k : vx_NoteN p l e R s m args below meth c H locs cells slots Q (F0 m pc ls rest)) : W p l e R s m args below meth c H locs cells slots Q (F0 m pc ls (.int i :: .null :: rest)) := by
  intro T hT X
  obtain ⟨t, st, q⟩ := k T hT X
  exact ⟨t, X.baloadNull hexec (g := F0 m pc ls (.int i :: .null :: rest)) rfl (rest := rest) rfl (by rw [hb]; exact hdg) t st, q⟩
theorem vx_caloadN (hexec : p.tables.exec = Jvm.exec) (hb : c.code = cc) {i : Int32} (hdg : decode cc pc = .ok (.caload, 1)) (k : vx_NoteN p l e R s m args below meth c H locs cells slots Q (F0 m pc ls rest)) : W p l e R s m args below meth c H locs cells slots Q (F0 m pc ls (.int i :: .null :: rest)) := by
  intro T hT X
  obtain ⟨t, st, q⟩ := k T hT X
  exact ⟨t, X.caloadNull hexec (g := F0 m pc ls (.int i :: .null :: rest)) rfl (rest := rest) rfl (by rw [hb]; exact hdg) t st, q⟩
theorem vx_saloadN (hexec : p.tables.exec = Jvm.exec) (hb : c.code = cc) {i : Int32} (hdg : decode cc pc = .ok (.saload, 1)) (k : vx_NoteN p l e R s m args below meth c H locs cells slots Q (F0 m pc ls rest)) : W p l e R s m args below meth c H locs cells slots Q (F0 m pc ls (.int i :: .null :: rest)) := by
  intro T hT X
  obtain ⟨t, st, q⟩ := k T hT X
  exact ⟨t, X.saloadNull hexec (g := F0 m pc ls (.int i :: .null :: rest)) rfl (rest := rest) rfl (by rw [hb]; exact hdg) t st, q⟩
theorem vx_iastoreN (hexec : p.tables.exec = Jvm.exec) (hb : c.code = cc) {x : Int32} {i : Int32} (hdg : decode cc pc = .ok (.iastore, 1)) (k : vx_NoteN p l e R s m args below meth c H locs cells slots Q (F0 m pc ls rest)) : W p l e R s m args below meth c H locs cells slots Q (F0 m pc ls (.int x :: .int i :: .null :: rest)) := by
  intro T hT X
  obtain ⟨t, st, q⟩ := k T hT X
  exact ⟨t, X.iastoreNull hexec (g := F0 m pc ls (.int x :: .int i :: .null :: rest)) rfl (rest := rest) rfl (by rw [hb]; exact hdg) t st, q⟩
theorem vx_lastoreN (hexec : p.tables.exec = Jvm.exec) (hb : c.code = cc) {x : Int64} {i : Int32} (hdg : decode cc pc = .ok (.lastore, 1)) (k : vx_NoteN p l e R s m args below meth c H locs cells slots Q (F0 m pc ls rest)) : W p l e R s m args below meth c H locs cells slots Q (F0 m pc ls (.long x :: .int i :: .null :: rest)) := by
  intro T hT X
  obtain ⟨t, st, q⟩ := k T hT X
  exact ⟨t, X.lastoreNull hexec (g := F0 m pc ls (.long x :: .int i :: .null :: rest)) rfl (rest := rest) rfl (by rw [hb]; exact hdg) t st, q⟩
theorem vx_fastoreN (hexec : p.tables.exec = Jvm.exec) (hb : c.code = cc) {x : UInt32} {i : Int32} (hdg : decode cc pc = .ok (.fastore, 1)) (k : vx_NoteN p l e R s m args below meth c H locs cells slots Q (F0 m pc ls rest)) : W p l e R s m args below meth c H locs cells slots Q (F0 m pc ls (.float x :: .int i :: .null :: rest)) := by
  intro T hT X
  obtain ⟨t, st, q⟩ := k T hT X
  exact ⟨t, X.fastoreNull hexec (g := F0 m pc ls (.float x :: .int i :: .null :: rest)) rfl (rest := rest) rfl (by rw [hb]; exact hdg) t st, q⟩
theorem vx_dastoreN (hexec : p.tables.exec = Jvm.exec) (hb : c.code = cc) {x : UInt64} {i : Int32} (hdg : decode cc pc = .ok (.dastore, 1)) (k : vx_NoteN p l e R s m args below meth c H locs cells slots Q (F0 m pc ls rest)) : W p l e R s m args below meth c H locs cells slots Q (F0 m pc ls (.double x :: .int i :: .null :: rest)) := by
  intro T hT X
  obtain ⟨t, st, q⟩ := k T hT X
  exact ⟨t, X.dastoreNull hexec (g := F0 m pc ls (.double x :: .int i :: .null :: rest)) rfl (rest := rest) rfl (by rw [hb]; exact hdg) t st, q⟩
theorem vx_bastoreN (hexec : p.tables.exec = Jvm.exec) (hb : c.code = cc) {x : Int32} {i : Int32} (hdg : decode cc pc = .ok (.bastore, 1)) (k : vx_NoteN p l e R s m args below meth c H locs cells slots Q (F0 m pc ls rest)) : W p l e R s m args below meth c H locs cells slots Q (F0 m pc ls (.int x :: .int i :: .null :: rest)) := by
  intro T hT X
  obtain ⟨t, st, q⟩ := k T hT X
  exact ⟨t, X.bastoreNull hexec (g := F0 m pc ls (.int x :: .int i :: .null :: rest)) rfl (rest := rest) rfl (by rw [hb]; exact hdg) t st, q⟩
theorem vx_castoreN (hexec : p.tables.exec = Jvm.exec) (hb : c.code = cc) {x : Int32} {i : Int32} (hdg : decode cc pc = .ok (.castore, 1)) (k : vx_NoteN p l e R s m args below meth c H locs cells slots Q (F0 m pc ls rest)) : W p l e R s m args below meth c H locs cells slots Q (F0 m pc ls (.int x :: .int i :: .null :: rest)) := by
  intro T hT X
  obtain ⟨t, st, q⟩ := k T hT X
  exact ⟨t, X.castoreNull hexec (g := F0 m pc ls (.int x :: .int i :: .null :: rest)) rfl (rest := rest) rfl (by rw [hb]; exact hdg) t st, q⟩
theorem vx_sastoreN (hexec : p.tables.exec = Jvm.exec) (hb : c.code = cc) {x : Int32} {i : Int32} (hdg : decode cc pc = .ok (.sastore, 1)) (k : vx_NoteN p l e R s m args below meth c H locs cells slots Q (F0 m pc ls rest)) : W p l e R s m args below meth c H locs cells slots Q (F0 m pc ls (.int x :: .int i :: .null :: rest)) := by
  intro T hT X
  obtain ⟨t, st, q⟩ := k T hT X
  exact ⟨t, X.sastoreNull hexec (g := F0 m pc ls (.int x :: .int i :: .null :: rest)) rfl (rest := rest) rfl (by rw [hb]; exact hdg) t st, q⟩
theorem vx_invokeN {own C : String} {index maxL : Nat} {y : MethodName} {bytes : ByteArray} {ret : Option FieldType} (hexec : p.tables.exec = Jvm.exec) (hb : c.code = cc) (hown : s.vm.findClass own = some m.cls) (hlink : (Cond.methodLink own index y).before args s = true) (hinst : (Cond.instanceMethod y).before args s = true) (hcode : (Cond.code y bytes maxL ret).before args s = true) (hsel : (Cond.selects C y y).before args s = true)
    (hx : y.cls ≠ "java/lang/invoke/MethodHandle" ∧ y.cls ≠ "java/lang/invoke/VarHandle") {As : List Value} (hlen : (parseMethodDescriptor y.desc).map (fun d => d.parameters.length) = some As.length) (hdg : decode cc pc = .ok (.invokevirtual index, 3))
    (k : vx_NoteN p l e R s m args below meth c H locs cells slots Q (F0 m pc ls rest)) {st0 : List Value} (hst : st0 = As.reverse ++ .null :: rest) : W p l e R s m args below meth c H locs cells slots Q (F0 m pc ls st0) := by
  intro T hT X
  obtain ⟨r0, r, hn, hrm, hstR, hsigR⟩ := va_Decl.of hinst hcode
  obtain ⟨c2, r2, m2, q1, q2, q3, q4, kP, hkP, hkPi⟩ := Cond.selects_spec hsel
  cases hn.symm.trans q3
  have hl9 : As.length = r.sig.parameters.length := by
    rw [hsigR] at hlen
    exact (Option.some.inj hlen).symm
  obtain ⟨vm', X1, st1⟩ := X.invokevirtualNull hexec hown hlink hn hrm hstR hkP hkPi hx (g := F0 m pc ls st0) rfl (argsL := As) (rest := rest) hl9 hst (by rw [hb]; exact hdg)
  obtain ⟨t, st, q⟩ := k (T.setVm vm') hT X1
  exact ⟨t, st1 t st, q⟩
theorem vx_newarrayZ {atype : ArrayType} (hexec : p.tables.exec = Jvm.exec) (hb : c.code = cc) {n : Int32} (h0 : n < 0) (hdg : decode cc pc = .ok (.newarray atype, 2)) (k : ∀ tx : String, tx = toString n → vx_Note p l e R s m args below meth c H locs cells slots Q (F0 m pc ls rest) "java/lang/NegativeArraySizeException" tx) : W p l e R s m args below meth c H locs cells slots Q (F0 m pc ls (.int n :: rest)) := by
  intro T hT X
  obtain ⟨t, st, q⟩ := k _ rfl T hT X
  exact ⟨t, X.newarrayNegative hexec (g := F0 m pc ls (.int n :: rest)) rfl h0 (rest := rest) rfl (by rw [hb]; exact hdg) t st, q⟩
end
end VXM
/-! ===== END ===== -/
/-! ===== BEGIN an exception as an object: made, kept, thrown later (no traces kept) ===== -/
section VXK
variable {p : Program} {l : Launch} {e : Env} {R : Room} {s : State} {m₀ : MethodId} {args : Array Value} {below : List Frame} {meth : Method} {c : Code} {W : State} {locs : List Loc} {cells slots : Nat}
set_option maxHeartbeats 1000000 in
theorem vx_ctorMadeS (X : Stand p l e R s m₀ args below meth c W locs cells slots) (hexec : p.tables.exec = Jvm.exec) (htr : e.platform.stackTraces = false) {own cls : String} {names : List String} {ic : Nat}
    (hown : s.vm.findClass own = some m₀.cls) (hcls : Bundle.fit cls = true) (hnames : ∀ n ∈ names, Bundle.fit n = true)
    (h : ∀ a ∈ Bundle.ownAtoms own ic cls names, a.before args s = true)
    (hlocs : ∀ x ∈ locs, ∀ cell, s.heap[x.base]? = some cell → cell.vm.isStatics = false)
    {a : Addr} {cX : ClassId} {kX : Class} (hfoundX : s.vm.findClass cls = some cX) (hkX : s.vm.classes[cX]? = some kX) (hcell : W.heap[a]? = some (freshCell cX kX)) (hnew : s.heap.size ≤ a)
    {msg : Value} (hmsg : msg.isRef = true)
    {g : JFrame} (hg : g.method = m₀) (hsize : g.locals.size = c.maxLocals) {rest : List Value} (hstack : g.stack = msg :: .ref a :: .ref a :: rest)
    (hd6 : decode c.code g.pc = .ok (.invokespecial ic, 3))
    (hRframes : names.length + 3 < R.frames) (hRlocals : 2 * g.monitorRoom + ((Value.ref a :: rest).map fun v => v.category).sum + (13 * (names.length + 1) + 42) ≤ R.locals) :
    ∃ (V : State) (ce : Cell) (L : List Loc), Stand p l e R s m₀ args below meth c (V.setCell a ce) (locs ++ L) cells slots ∧ (∀ y ∈ L, y.base = a) ∧ a < V.heap.size ∧ ce.cls = cX ∧ ce.vm = .none ∧
      ∀ target, Steps p.tables e below ((V.setCell a ce).setTop { g with stack := .ref a :: rest, pc := g.pc + 3 }) target → Steps p.tables e below (W.setTop g) target := by
  have howns : e.platform.frameOwnsMonitors = true := by rw [X.admits.platform]
  have hfin : e.platform.finalization = false := by rw [X.admits.platform]
  have hpl : e.platform.magicAccessors = ({} : Platform).magicAccessors := by rw [X.admits.platform]
  have a' : ∀ x, x ∈ Bundle.ownAtoms own ic cls names → x.holds args s none s [] = true := fun x hx => h x hx
  obtain ⟨T, Z0, L, -, Y⟩ := ThrowableC.of_atoms (args := args) howns hfin hpl (fun x hx => h x (by simp [Bundle.ownAtoms, hx]))
  obtain ⟨Z, M, LZ, LM, hnZ⟩ := Init0T.ofS_atoms (args := args) hpl L Y (fun x hx => h x (by simp [Bundle.ownAtoms, hx]))
  obtain ⟨P1, Ps, hlen, L1, hL, hP1m, hlink1, hlink⟩ := Bundle.chainS (args := args) hpl hnZ names cls hcls hnames (fun x hx => h x (by simp [Bundle.ownAtoms, hx]))
  have hfound : s.vm.findClass cls = some P1.m.cls := findClass_of_methodNamed hP1m
  cases Option.some.inj (hfoundX.symm.trans hfound)
  obtain ⟨c1, kX', hc1, hk, hord, -, -, hn6⟩ := Cond.instantiable_spec (a' (.instantiable cls 6) (by simp [Bundle.ownAtoms]))
  cases Option.some.inj (hc1.symm.trans hfound)
  cases Option.some.inj (hkX.symm.trans hk)
  have hsel0 : selectMethod e.platform s.vm P1.m.cls T.fill0 = .method T.fill0 := by
    obtain ⟨c2, r2, m2, q1, q2, q3, q4, -⟩ := Cond.selects_spec (a' (.selects cls Bundle.tFill0 Bundle.tFill0) (by simp [Bundle.ownAtoms]))
    cases Option.some.inj (q1.symm.trans hfound)
    cases Option.some.inj (q2.symm.trans (State.methodFound?_of_named Y.fill0 (by decide)))
    cases Option.some.inj (q3.symm.trans Y.fill0)
    rw [Launch.admits_selectMethod X.admits]; exact q4
  have hselF : selectMethod e.platform s.vm P1.m.cls T.fill = .method T.fill := by
    obtain ⟨c2, r2, m2, q1, q2, q3, q4, -⟩ := Cond.selects_spec (a' (.selects cls Bundle.tFill Bundle.tFill) (by simp [Bundle.ownAtoms]))
    cases Option.some.inj (q1.symm.trans hfound)
    cases Option.some.inj (q2.symm.trans (State.methodFound?_of_named Y.fill (by decide)))
    cases Option.some.inj (q3.symm.trans Y.fill)
    rw [Launch.admits_selectMethod X.admits]; exact q4
  obtain ⟨cellS0, hcS0, hiss⟩ := Y.statics
  obtain ⟨u0, hu0⟩ := Cond.staticRefV Y.unassigned L.unassignedStatic L.statics hcS0 hiss (a' (.isRef (.static Bundle.tN "UNASSIGNED_STACK" Bundle.steD)) (by simp [Bundle.ownAtoms]))
  obtain ⟨sen, hsen⟩ := Cond.staticRefV Y.sentinel L.sentinelStatic L.statics hcS0 hiss (a' (.isRef (.static Bundle.tN "SUPPRESSED_SENTINEL" Bundle.listD)) (by simp [Bundle.ownAtoms]))
  obtain ⟨ci198, i198, fB, hk198, hg198, ha198, hsB, -, hnB, htB, hffB⟩ := Cond.ownField (t := .object "java/lang/Object") Y.found L.cls (by decide +kernel) (a' (.fieldLink Bundle.tN 198 Bundle.tN "backtrace" "Ljava/lang/Object;") (by simp [Bundle.ownAtoms])) (a' (.lays Bundle.tN Bundle.tN "backtrace" "Ljava/lang/Object;") (by simp [Bundle.ownAtoms])) e.platform hpl
  obtain ⟨cellS, hcS', heS, -, hkeep⟩ := X.same.2.2.2.2.2 T.aS cellS0 hcS0
  have hcellS : W.heap[T.aS]? = some cellS := hcS'
  have hout' : ∀ i, (⟨T.aS, i⟩ : Loc) ∉ locs := fun i hmem => by
    have := hlocs _ hmem cellS0 hcS0
    rw [hiss] at this; cases this
  have hknownS : cellS.vm ≠ .unknown := by
    rw [heS]; intro hu
    rw [show cellS0.vm = .unknown from hu] at hiss
    cases hiss
  have hneS : T.aS ≠ a := Nat.ne_of_lt (Nat.lt_of_lt_of_le (Array.getElem?_eq_some_iff.mp hcS0).1 hnew)
  obtain ⟨iM, hffM⟩ := Y.msg
  obtain ⟨tyC, dC, hdC, hdnC⟩ := Cond.laysAt hfound hk Y.cause (a' (.lays cls Bundle.tN "cause" "Ljava/lang/Throwable;") (by simp [Bundle.ownAtoms]))
  obtain ⟨tyS, dS, hdS, hdnS⟩ := Cond.laysAt hfound hk Y.stack (a' (.lays cls Bundle.tN "stackTrace" Bundle.steD) (by simp [Bundle.ownAtoms]))
  obtain ⟨tyP, dP, hdP, hdnP⟩ := Cond.laysAt hfound hk Y.supp (a' (.lays cls Bundle.tN "suppressedExceptions" Bundle.listD) (by simp [Bundle.ownAtoms]))
  obtain ⟨tyM, dM, hdM, hdnM⟩ := Cond.laysAt hfound hk hffM (a' (.lays cls Bundle.tN "detailMessage" "Ljava/lang/String;") (by simp [Bundle.ownAtoms]))
  obtain ⟨tyB, dB, hdB, hdnB⟩ := Cond.laysAt hfound hk hffB (a' (.lays cls Bundle.tN "backtrace" "Ljava/lang/Object;") (by simp [Bundle.ownAtoms]))
  have bC := Cond.laysApart hdB hdC hdnB hdnC (by rw [hnB, Y.causeName]; decide)
  have bS := Cond.laysApart hdB hdS hdnB hdnS (by rw [hnB, Y.stackName]; decide)
  have bP := Cond.laysApart hdB hdP hdnB hdnP (by rw [hnB, Y.suppName]; decide)
  have hskip : SkipFacts T e.platform s (fun u => u) u0 ((preparedCellV T.toThrowableT (freshCell P1.m.cls kX) a u0 sen).withEntry W.cur) :=
    ⟨{ ci198 := ci198, i198 := i198, fBack := fB }, ⟨hk198, hg198, ha198, hsB⟩, by
      have := fresh_default (c := P1.m.cls) tyB
      rw [htB] at this
      simpa [preparedCellV, Cell.setSlot, Cell.withEntry, Array.getElem?_setIfInBounds, bC, bS, bP, bC.symm, bS.symm, bP.symm, defaultValue] using this, fun _ _ => rfl⟩
  obtain ⟨tm, methC, cdC, kC, vm₁, hnC, -, -, -, -, -, -, -, hW₁, st1⟩ := Steps.initColdS (tb := p.tables) (e := e) (below := below) (s := s) (U := W) X.here hexec X.warmed hpl hown (t := Bundle.initS cls) rfl rfl (Bundle.fit_spec hcls).2
    (a' (.methodLink own ic (Bundle.initS cls)) (by simp [Bundle.ownAtoms])) (h (.instanceMethod (Bundle.initS cls)) (by cases names <;> simp [Bundle.ownAtoms, Bundle.chainSAtoms, Bundle.passSAtoms])) (bytes := Bundle.six) (maxL := 2) (h (.code (Bundle.initS cls) Bundle.six 2 none) (by cases names <;> simp [Bundle.ownAtoms, Bundle.chainSAtoms, Bundle.passSAtoms]))
    (f := g) hg (a := a) (msg := msg) (rest := .ref a :: rest) hstack hd6
  cases Option.some.inj (hnC.symm.trans hP1m)
  have X₁ := X.noted hW₁
  obtain ⟨vm₂, X₂, st2⟩ := X₁.ctorMessageOffV hexec (g := { g with stack := .ref a :: rest }) hg hsize T L Z LZ M LM (P1 :: Ps)
    (fun P hP => by rcases List.mem_cons.mp hP with rfl | hP; exact L1; exact hL P hP) ⟨hlink1, hlink⟩ (u0 := u0) (sen := sen) (self := a) hmsg (cell := freshCell P1.m.cls kX) (cellS := cellS)
    hcell (fun _ => by simp) (by simp) rfl rfl hsel0 hselF hcellS hneS hknownS (by rw [hkeep _ (hout' _)]; exact hu0) (by rw [hkeep _ (hout' _)]; exact hsen)
    (Takes.of_laid hk hord tyC (by rw [Y.causeType]; rfl)) (Takes.of_laid hk hord tyS (by rw [Y.stackType]; exact fits_refV_array _ u0)) (Takes.of_laid hk hord tyP (by rw [Y.suppType]; exact fits_refV_object _ sen))
    (Takes.of_laid hk hord tyM (by rw [Y.msgType]; exact fits_refV_object _ ⟨msg, hmsg⟩)) Y.objLocals hskip htr [] hd6
    (by simp only [List.length_cons, hlen]; omega) (by simp only [List.length_cons, hlen]; exact hRlocals)
  have hlt : a < ((W.setVm vm₁).setVm vm₂).heap.size := (Array.getElem?_eq_some_iff.mp hcell).1
  refine ⟨(W.setVm vm₁).setVm vm₂, _, _, X₂, fun y hy => ?_, hlt, rfl, rfl, fun target hwalk => st1 _ (fun acts => ?_)⟩
  · simp only [List.mem_cons, List.not_mem_nil, or_false] at hy
    rcases hy with rfl | rfl | rfl | rfl | rfl <;> rfl
  · rw [doInvoke_state]
    exact st2 _ hwalk
set_option maxHeartbeats 1000000 in
theorem vx_ctorMade0 (X : Stand p l e R s m₀ args below meth c W locs cells slots) (hexec : p.tables.exec = Jvm.exec) (htr : e.platform.stackTraces = false) {own cls : String} {names : List String} {ic : Nat}
    (hown : s.vm.findClass own = some m₀.cls) (hcls : Bundle.fit cls = true) (hnames : ∀ n ∈ names, Bundle.fit n = true)
    (h : ∀ a ∈ Bundle.ownAtoms0 own ic cls names, a.before args s = true)
    (hlocs : ∀ x ∈ locs, ∀ cell, s.heap[x.base]? = some cell → cell.vm.isStatics = false)
    {a : Addr} {cX : ClassId} {kX : Class} (hfoundX : s.vm.findClass cls = some cX) (hkX : s.vm.classes[cX]? = some kX) (hcell : W.heap[a]? = some (freshCell cX kX)) (hnew : s.heap.size ≤ a)
    {g : JFrame} (hg : g.method = m₀) (hsize : g.locals.size = c.maxLocals) {rest : List Value} (hstack : g.stack = .ref a :: .ref a :: rest)
    (hd6 : decode c.code g.pc = .ok (.invokespecial ic, 3))
    (hRframes : names.length + 3 < R.frames) (hRlocals : 2 * g.monitorRoom + ((Value.ref a :: rest).map fun v => v.category).sum + (13 * (names.length + 1) + 41) ≤ R.locals) :
    ∃ (V : State) (ce : Cell) (L : List Loc), Stand p l e R s m₀ args below meth c (V.setCell a ce) (locs ++ L) cells slots ∧ (∀ y ∈ L, y.base = a) ∧ a < V.heap.size ∧ ce.cls = cX ∧ ce.vm = .none ∧
      ∀ target, Steps p.tables e below ((V.setCell a ce).setTop { g with stack := .ref a :: rest, pc := g.pc + 3 }) target → Steps p.tables e below (W.setTop g) target := by
  have howns : e.platform.frameOwnsMonitors = true := by rw [X.admits.platform]
  have hfin : e.platform.finalization = false := by rw [X.admits.platform]
  have hpl : e.platform.magicAccessors = ({} : Platform).magicAccessors := by rw [X.admits.platform]
  have a' : ∀ x, x ∈ Bundle.ownAtoms0 own ic cls names → x.holds args s none s [] = true := fun x hx => h x hx
  obtain ⟨T, Z, L, LZ, Y⟩ := ThrowableC.of_atoms (args := args) howns hfin hpl (fun x hx => h x (by simp [Bundle.ownAtoms0, hx]))
  obtain ⟨P1, Ps, hlen, L1, hL, hP1m, hlink1, hlink⟩ := Bundle.chain0 (args := args) hpl Y.init0 names cls hcls hnames (fun x hx => h x (by simp [Bundle.ownAtoms0, hx]))
  have hfound : s.vm.findClass cls = some P1.m.cls := findClass_of_methodNamed hP1m
  cases Option.some.inj (hfoundX.symm.trans hfound)
  obtain ⟨c1, kX', hc1, hk, hord, -, -, hn6⟩ := Cond.instantiable_spec (a' (.instantiable cls 6) (by simp [Bundle.ownAtoms0]))
  cases Option.some.inj (hc1.symm.trans hfound)
  cases Option.some.inj (hkX.symm.trans hk)
  have hsel0 : selectMethod e.platform s.vm P1.m.cls T.fill0 = .method T.fill0 := by
    obtain ⟨c2, r2, m2, q1, q2, q3, q4, -⟩ := Cond.selects_spec (a' (.selects cls Bundle.tFill0 Bundle.tFill0) (by simp [Bundle.ownAtoms0]))
    cases Option.some.inj (q1.symm.trans hfound)
    cases Option.some.inj (q2.symm.trans (State.methodFound?_of_named Y.fill0 (by decide)))
    cases Option.some.inj (q3.symm.trans Y.fill0)
    rw [Launch.admits_selectMethod X.admits]; exact q4
  have hselF : selectMethod e.platform s.vm P1.m.cls T.fill = .method T.fill := by
    obtain ⟨c2, r2, m2, q1, q2, q3, q4, -⟩ := Cond.selects_spec (a' (.selects cls Bundle.tFill Bundle.tFill) (by simp [Bundle.ownAtoms0]))
    cases Option.some.inj (q1.symm.trans hfound)
    cases Option.some.inj (q2.symm.trans (State.methodFound?_of_named Y.fill (by decide)))
    cases Option.some.inj (q3.symm.trans Y.fill)
    rw [Launch.admits_selectMethod X.admits]; exact q4
  obtain ⟨cellS0, hcS0, hiss⟩ := Y.statics
  obtain ⟨u0, hu0⟩ := Cond.staticRefV Y.unassigned L.unassignedStatic L.statics hcS0 hiss (a' (.isRef (.static Bundle.tN "UNASSIGNED_STACK" Bundle.steD)) (by simp [Bundle.ownAtoms0]))
  obtain ⟨sen, hsen⟩ := Cond.staticRefV Y.sentinel L.sentinelStatic L.statics hcS0 hiss (a' (.isRef (.static Bundle.tN "SUPPRESSED_SENTINEL" Bundle.listD)) (by simp [Bundle.ownAtoms0]))
  obtain ⟨ci198, i198, fB, hk198, hg198, ha198, hsB, -, hnB, htB, hffB⟩ := Cond.ownField (t := .object "java/lang/Object") Y.found L.cls (by decide +kernel) (a' (.fieldLink Bundle.tN 198 Bundle.tN "backtrace" "Ljava/lang/Object;") (by simp [Bundle.ownAtoms0])) (a' (.lays Bundle.tN Bundle.tN "backtrace" "Ljava/lang/Object;") (by simp [Bundle.ownAtoms0])) e.platform hpl
  obtain ⟨cellS, hcS', heS, -, hkeep⟩ := X.same.2.2.2.2.2 T.aS cellS0 hcS0
  have hcellS : W.heap[T.aS]? = some cellS := hcS'
  have hout' : ∀ i, (⟨T.aS, i⟩ : Loc) ∉ locs := fun i hmem => by
    have := hlocs _ hmem cellS0 hcS0
    rw [hiss] at this; cases this
  have hknownS : cellS.vm ≠ .unknown := by
    rw [heS]; intro hu
    rw [show cellS0.vm = .unknown from hu] at hiss
    cases hiss
  have hneS : T.aS ≠ a := Nat.ne_of_lt (Nat.lt_of_lt_of_le (Array.getElem?_eq_some_iff.mp hcS0).1 hnew)
  obtain ⟨iM, hffM⟩ := Y.msg
  obtain ⟨tyC, dC, hdC, hdnC⟩ := Cond.laysAt hfound hk Y.cause (a' (.lays cls Bundle.tN "cause" "Ljava/lang/Throwable;") (by simp [Bundle.ownAtoms0]))
  obtain ⟨tyS, dS, hdS, hdnS⟩ := Cond.laysAt hfound hk Y.stack (a' (.lays cls Bundle.tN "stackTrace" Bundle.steD) (by simp [Bundle.ownAtoms0]))
  obtain ⟨tyP, dP, hdP, hdnP⟩ := Cond.laysAt hfound hk Y.supp (a' (.lays cls Bundle.tN "suppressedExceptions" Bundle.listD) (by simp [Bundle.ownAtoms0]))
  obtain ⟨tyM, dM, hdM, hdnM⟩ := Cond.laysAt hfound hk hffM (a' (.lays cls Bundle.tN "detailMessage" "Ljava/lang/String;") (by simp [Bundle.ownAtoms0]))
  obtain ⟨tyB, dB, hdB, hdnB⟩ := Cond.laysAt hfound hk hffB (a' (.lays cls Bundle.tN "backtrace" "Ljava/lang/Object;") (by simp [Bundle.ownAtoms0]))
  have bC := Cond.laysApart hdB hdC hdnB hdnC (by rw [hnB, Y.causeName]; decide)
  have bS := Cond.laysApart hdB hdS hdnB hdnS (by rw [hnB, Y.stackName]; decide)
  have bP := Cond.laysApart hdB hdP hdnB hdnP (by rw [hnB, Y.suppName]; decide)
  have hskip : SkipFacts T e.platform s (fun u => u) u0 ((preparedCellV T.toThrowableT (freshCell P1.m.cls kX) a u0 sen).withEntry W.cur) :=
    ⟨{ ci198 := ci198, i198 := i198, fBack := fB }, ⟨hk198, hg198, ha198, hsB⟩, by
      have := fresh_default (c := P1.m.cls) tyB
      rw [htB] at this
      simpa [preparedCellV, Cell.setSlot, Cell.withEntry, Array.getElem?_setIfInBounds, bC, bS, bP, bC.symm, bS.symm, bP.symm, defaultValue] using this, fun _ _ => rfl⟩
  obtain ⟨tm, methC, cdC, kC, vm₁, hnC, -, -, -, -, -, -, -, hW₁, st1⟩ := Steps.initCold (tb := p.tables) (e := e) (below := below) (s := s) (U := W) X.here hexec X.warmed hpl hown (t := Bundle.init0 cls) rfl rfl (Bundle.fit_spec hcls).2
    (a' (.methodLink own ic (Bundle.init0 cls)) (by simp [Bundle.ownAtoms0])) (h (.instanceMethod (Bundle.init0 cls)) (by cases names <;> simp [Bundle.ownAtoms0, Bundle.chain0Atoms, Bundle.passAtoms])) (bytes := Bundle.five) (maxL := 1) (h (.code (Bundle.init0 cls) Bundle.five 1 none) (by cases names <;> simp [Bundle.ownAtoms0, Bundle.chain0Atoms, Bundle.passAtoms]))
    (f := g) hg (a := a) (rest := .ref a :: rest) hstack hd6
  cases Option.some.inj (hnC.symm.trans hP1m)
  have X₁ := X.noted hW₁
  obtain ⟨vm₂, X₂, st2⟩ := X₁.ctorPlainOffV hexec (g := { g with stack := .ref a :: rest }) hg hsize T L Z LZ (P1 :: Ps)
    (fun P hP => by rcases List.mem_cons.mp hP with rfl | hP; exact L1; exact hL P hP) ⟨hlink1, hlink⟩ (u0 := u0) (sen := sen) (self := a) (cell := freshCell P1.m.cls kX) (cellS := cellS)
    hcell (fun _ => by simp) (by simp) rfl rfl hsel0 hselF hcellS hneS hknownS (by rw [hkeep _ (hout' _)]; exact hu0) (by rw [hkeep _ (hout' _)]; exact hsen)
    (Takes.of_laid hk hord tyC (by rw [Y.causeType]; rfl)) (Takes.of_laid hk hord tyS (by rw [Y.stackType]; exact fits_refV_array _ u0)) (Takes.of_laid hk hord tyP (by rw [Y.suppType]; exact fits_refV_object _ sen)) Y.objLocals hskip htr [] hd6
    (by simp only [List.length_cons, hlen]; omega) (by simp only [List.length_cons, hlen]; exact hRlocals)
  have hlt : a < ((W.setVm vm₁).setVm vm₂).heap.size := (Array.getElem?_eq_some_iff.mp hcell).1
  refine ⟨(W.setVm vm₁).setVm vm₂, _, _, X₂, fun y hy => ?_, hlt, rfl, rfl, fun target hwalk => st1 _ (fun acts => ?_)⟩
  · simp only [List.mem_cons, List.not_mem_nil, or_false] at hy
    rcases hy with rfl | rfl | rfl | rfl <;> rfl
  · rw [doInvoke_state]
    exact st2 _ hwalk
end VXK
section VXK2
variable {p : Program} {l : Launch} {e : Env} {R : Room} {s : State} {m : MethodId} {args : Array Value} {below : List Frame} {meth : Method} {c : Code} {H : Heap} {locs : List Loc} {cells slots : Nat} {Q : State → Prop}
variable {ls : Array Slot} {rest : List Value} {D : va_G} {cl : List vw_C} {tys : List (ClassId × FieldType)} {ws : va_W}
/-- 'new E("text")' that isn't thrown at once: the object goes on the stack -/
theorem vx_makeS {cc : ByteArray} {pc : Nat} (hexec : p.tables.exec = Jvm.exec) (hb : c.code = cc) (hl : l.stackTraces = false) {own cls text : String} {names : List String} {ik is ic sa ci : Nat} {A : Nat → Prop} {T0 : u_T}
    (hown : s.vm.findClass own = some m.cls) (hcls : Bundle.fit cls = true) (hnames : ∀ n ∈ names, Bundle.fit n = true)
    (hk : (Cond.classLink own ik cls).before args s = true) (hini : (Cond.initialized cls).before args s = true) (hstr : vk_R own is text sa s) (hat : ∀ w ∈ vx_atS own ic cls names, w.before args s = true)
    (hgood : ∀ w ∈ Cond.classLink own ik cls :: Cond.initialized cls :: vx_atS own ic cls names, vx_ot w = true)
    (hU : vx_Zq Bundle.tN "UNASSIGNED_STACK" Bundle.steD A s s.heap) (hN : vx_Zq Bundle.tN "SUPPRESSED_SENTINEL" Bundle.listD A s s.heap) (hS : va_S A s.heap H locs) (hsize : ls.size = c.maxLocals)
    (d0 : decode cc pc = .ok (.new ik, 3)) (d3 : decode cc (pc + 3) = .ok (.dup, 1)) (d4 : decode cc (pc + 4) = .ok (.ldc is, 2)) (d6 : decode cc (pc + 6) = .ok (.invokespecial ic, 3))
    (hK : va_K D cl tys s) (hP : va_P D cl ws H) (hD : va_D A ws) (hA : ∀ q, s.heap.size ≤ q → A q) (hc : cl[ci]? = some (cls, T0, 0))
    (hRframes : names.length + 3 < R.frames) (hRlocals : (rest.map fun v => v.category).sum + (13 * (names.length + 1) + 43) ≤ R.locals) (hRcells : cells + 1 ≤ R.cells) (hRslots : slots + 6 ≤ R.slots)
    (kk : ∀ (q : Nat) (H1 : Heap), va_P D cl (ws ++ [(q, .inr (ci, []))]) H1 → va_D A (ws ++ [(q, .inr (ci, []))]) → va_S A s.heap H1 locs → W p l e R s m args below meth c H1 locs (cells + 1) (slots + 6) Q (F0 m (pc + 9) ls (.ref q :: rest))) :
    W p l e R s m args below meth c H locs cells slots Q (F0 m pc ls rest) := by
  intro T hT X
  subst hT
  have htr : e.platform.stackTraces = false := (show e.platform.stackTraces = l.stackTraces by rw [X.admits.platform]).trans hl
  have Y := vx_rebase X (R' := { frames := R.frames, locals := R.locals, cells := 1, slots := 6 }) (Nat.le_refl _) (Nat.le_refl _) hRcells hRslots
  obtain ⟨s', hA'⟩ : ∃ z, z = (T.setVm s.vm).setFrames (.invoking m args :: below) := ⟨_, rfl⟩
  rw [← hA'] at Y
  have hvm : s'.vm = s.vm := by rw [hA']; rfl
  have hhp : s'.heap = T.heap := by rw [hA']; rfl
  have hW0 : s.WarmedH s'.vm := by rw [hvm]; exact State.WarmedH.refl s
  have hat' : ∀ w ∈ vx_atS own ic cls names, w.before args s' = true := fun w hw => vx_ot_at hW0 hvm.symm (hgood w (List.mem_cons_of_mem _ (List.mem_cons_of_mem _ hw))) (hat w hw)
  have hk' : (Cond.classLink own ik cls).before args s' = true := vx_ot_at hW0 hvm.symm (hgood _ List.mem_cons_self) hk
  have hini' : (Cond.initialized cls).before args s' = true := vx_ot_at hW0 hvm.symm (hgood _ (List.mem_cons_of_mem _ List.mem_cons_self)) hini
  have hU' : vx_Zq Bundle.tN "UNASSIGNED_STACK" Bundle.steD A s' s'.heap := by rw [hhp]; exact vx_Zq.moved hW0.alike (hU.kept hS.2.1)
  have hN' : vx_Zq Bundle.tN "SUPPRESSED_SENTINEL" Bundle.listD A s' s'.heap := by rw [hhp]; exact vx_Zq.moved hW0.alike (hN.kept hS.2.1)
  have h : ∀ w ∈ Bundle.ownAtoms own ic cls names, w.before args s' = true := vx_own hat' (vx_isRefq hU'.1) (vx_isRefq hN'.1) hU'.2.word hN'.2.word
  have hown' : s'.vm.findClass own = some m.cls := by rw [hvm]; exact hown
  have hins : (Cond.instantiable cls 6).before args s' = true := h _ (by simp [Bundle.ownAtoms])
  obtain ⟨vm₁, cX, kX, hfX, hkX, -, -, X₁, st1⟩ := Y.newCold hexec (own := own) (C := cls) (index := ik) (n := 6) hown' hk' hins hini'
    (g := F0 m pc ls rest) rfl (by rw [hb]; exact d0) (Nat.le_refl _) (Nat.le_refl _)
  generalize hT1 : (T.setVm vm₁).pushCell { cls := cX, slots := kX.instanceTypes.map defaultValue, vm := .none } = T1 at X₁ st1
  have hcat : (Value.ref T.heap.size).category = 1 := rfl
  have hcellA : T1.heap[T.heap.size]? = some (freshCell cX kX) := by rw [← hT1]; exact State.heap_pushCell_size _ _
  have d3' : decode c.code (pc + 3) = .ok (.dup, 1) := by rw [hb]; exact d3
  have d4' : decode c.code (pc + 4) = .ok (.ldc is, 2) := by rw [hb]; exact d4
  have hstr' : vk_R own is text sa s' := vk_R.warm hW0 hstr
  obtain ⟨V, ce, L, Z, hL, hlt, hcl9, hvm9, st⟩ := vx_ctorMadeS X₁ hexec htr (own := own) (cls := cls) (names := names) (ic := ic) hown' hcls hnames h (fun x hx => nomatch hx) hfX hkX hcellA (by rw [hhp]; exact Nat.le_refl _) (msg := .ref sa) rfl
    (g := { method := m, pc := pc + 6, locals := ls, stack := .ref sa :: .ref T.heap.size :: .ref T.heap.size :: rest, locked := none }) rfl hsize (rest := rest) rfl
    (by rw [hb]; exact d6) hRframes (by simp only [List.map_cons, List.sum_cons, hcat]; omega)
  have Z0 := Stand.forget (locs := []) Z (fun y hy => by rw [hL y hy, hhp]; exact Nat.le_refl _)
  obtain ⟨f1, f2⟩ := vx_frame Z0.same
  rw [hhp] at f1 f2
  have hcid : ce.cls = D.1 ci := by
    rw [hcl9]
    have h1 := (hK.1 ci _ hc).2.1
    rw [hvm] at hfX
    exact Option.some.inj (hfX.symm.trans h1)
  have hh : (V.setCell T.heap.size ce).heap[T.heap.size]? = some ce := heapAt_setCell_self (s := V) ce hlt
  subst hA'
  have X5 := vx_back9 X Y Z0
  have X6 : Stand p l e R s m args below meth c (V.setCell T.heap.size ce) locs (cells + 1) (slots + 6) := { X5 with same := X5.same.mono (by omega) (by omega) }
  have hk9 : ∀ (k : Nat) (x : Nat × va_E), ws[k]? = some x → (V.setCell T.heap.size ce).heap[x.1]? = T.heap[x.1]? := fun k x hx => f2 x.1 ((hP k x hx).lt) (fun z hz => nomatch hz)
  obtain ⟨t, a1, b1⟩ := kk T.heap.size (V.setCell T.heap.size ce).heap ((hP.kept hk9).app (fun k x hx => by
      have hz : k < 1 := (List.getElem?_eq_some_iff.mp hx).1
      rw [show k = 0 by omega] at hx
      cases hx
      exact ⟨_, hc, ce, hh, hcid, hvm9, fun k hk => absurd hk (Nat.not_lt_zero k)⟩)) (hD.push hP rfl (hA _ hS.1)) ⟨Nat.le_trans hS.1 f1, fun q h1 h2 => (f2 q (Nat.lt_of_lt_of_le h1 hS.1) (fun z hz => nomatch hz)).trans (hS.2.1 q h1 h2), hS.2.2⟩ _ rfl X6
  refine ⟨t, st1 _ ?_, b1⟩
  show Steps p.tables e below (T1.setTop { method := m, pc := pc + 3, locals := ls, stack := .ref T.heap.size :: rest, locked := none }) _
  jvm_step X₁.here [X₁.here.top, hexec, d3', Value.category]
  exact X₁.ldcString hexec (own := own) (text := text) (index := is) (a := sa) hown' hstr'.1 hstr'.2
    (g := { method := m, pc := pc + 4, locals := ls, stack := .ref T.heap.size :: .ref T.heap.size :: rest, locked := none }) rfl d4' _ (st _ a1)
/-- 'new E()' that isn't thrown at once: the object goes on the stack -/
theorem vx_make0 {cc : ByteArray} {pc : Nat} (hexec : p.tables.exec = Jvm.exec) (hb : c.code = cc) (hl : l.stackTraces = false) {own cls : String} {names : List String} {ik ic ci : Nat} {A : Nat → Prop} {T0 : u_T}
    (hown : s.vm.findClass own = some m.cls) (hcls : Bundle.fit cls = true) (hnames : ∀ n ∈ names, Bundle.fit n = true)
    (hk : (Cond.classLink own ik cls).before args s = true) (hini : (Cond.initialized cls).before args s = true) (hat : ∀ w ∈ vx_at0 own ic cls names, w.before args s = true)
    (hgood : ∀ w ∈ Cond.classLink own ik cls :: Cond.initialized cls :: vx_at0 own ic cls names, vx_ot w = true)
    (hU : vx_Zq Bundle.tN "UNASSIGNED_STACK" Bundle.steD A s s.heap) (hN : vx_Zq Bundle.tN "SUPPRESSED_SENTINEL" Bundle.listD A s s.heap) (hS : va_S A s.heap H locs) (hsize : ls.size = c.maxLocals)
    (d0 : decode cc pc = .ok (.new ik, 3)) (d3 : decode cc (pc + 3) = .ok (.dup, 1)) (d4 : decode cc (pc + 4) = .ok (.invokespecial ic, 3))
    (hK : va_K D cl tys s) (hP : va_P D cl ws H) (hD : va_D A ws) (hA : ∀ q, s.heap.size ≤ q → A q) (hc : cl[ci]? = some (cls, T0, 0))
    (hRframes : names.length + 3 < R.frames) (hRlocals : (rest.map fun v => v.category).sum + (13 * (names.length + 1) + 42) ≤ R.locals) (hRcells : cells + 1 ≤ R.cells) (hRslots : slots + 6 ≤ R.slots)
    (kk : ∀ (q : Nat) (H1 : Heap), va_P D cl (ws ++ [(q, .inr (ci, []))]) H1 → va_D A (ws ++ [(q, .inr (ci, []))]) → va_S A s.heap H1 locs → W p l e R s m args below meth c H1 locs (cells + 1) (slots + 6) Q (F0 m (pc + 7) ls (.ref q :: rest))) :
    W p l e R s m args below meth c H locs cells slots Q (F0 m pc ls rest) := by
  intro T hT X
  subst hT
  have htr : e.platform.stackTraces = false := (show e.platform.stackTraces = l.stackTraces by rw [X.admits.platform]).trans hl
  have Y := vx_rebase X (R' := { frames := R.frames, locals := R.locals, cells := 1, slots := 6 }) (Nat.le_refl _) (Nat.le_refl _) hRcells hRslots
  obtain ⟨s', hA'⟩ : ∃ z, z = (T.setVm s.vm).setFrames (.invoking m args :: below) := ⟨_, rfl⟩
  rw [← hA'] at Y
  have hvm : s'.vm = s.vm := by rw [hA']; rfl
  have hhp : s'.heap = T.heap := by rw [hA']; rfl
  have hW0 : s.WarmedH s'.vm := by rw [hvm]; exact State.WarmedH.refl s
  have hat' : ∀ w ∈ vx_at0 own ic cls names, w.before args s' = true := fun w hw => vx_ot_at hW0 hvm.symm (hgood w (List.mem_cons_of_mem _ (List.mem_cons_of_mem _ hw))) (hat w hw)
  have hk' : (Cond.classLink own ik cls).before args s' = true := vx_ot_at hW0 hvm.symm (hgood _ List.mem_cons_self) hk
  have hini' : (Cond.initialized cls).before args s' = true := vx_ot_at hW0 hvm.symm (hgood _ (List.mem_cons_of_mem _ List.mem_cons_self)) hini
  have hU' : vx_Zq Bundle.tN "UNASSIGNED_STACK" Bundle.steD A s' s'.heap := by rw [hhp]; exact vx_Zq.moved hW0.alike (hU.kept hS.2.1)
  have hN' : vx_Zq Bundle.tN "SUPPRESSED_SENTINEL" Bundle.listD A s' s'.heap := by rw [hhp]; exact vx_Zq.moved hW0.alike (hN.kept hS.2.1)
  have h : ∀ w ∈ Bundle.ownAtoms0 own ic cls names, w.before args s' = true := vx_own hat' (vx_isRefq hU'.1) (vx_isRefq hN'.1) hU'.2.word hN'.2.word
  have hown' : s'.vm.findClass own = some m.cls := by rw [hvm]; exact hown
  have hins : (Cond.instantiable cls 6).before args s' = true := h _ (by simp [Bundle.ownAtoms0])
  obtain ⟨vm₁, cX, kX, hfX, hkX, -, -, X₁, st1⟩ := Y.newCold hexec (own := own) (C := cls) (index := ik) (n := 6) hown' hk' hins hini'
    (g := F0 m pc ls rest) rfl (by rw [hb]; exact d0) (Nat.le_refl _) (Nat.le_refl _)
  generalize hT1 : (T.setVm vm₁).pushCell { cls := cX, slots := kX.instanceTypes.map defaultValue, vm := .none } = T1 at X₁ st1
  have hcat : (Value.ref T.heap.size).category = 1 := rfl
  have hcellA : T1.heap[T.heap.size]? = some (freshCell cX kX) := by rw [← hT1]; exact State.heap_pushCell_size _ _
  have d3' : decode c.code (pc + 3) = .ok (.dup, 1) := by rw [hb]; exact d3
  obtain ⟨V, ce, L, Z, hL, hlt, hcl9, hvm9, st⟩ := vx_ctorMade0 X₁ hexec htr (own := own) (cls := cls) (names := names) (ic := ic) hown' hcls hnames h (fun x hx => nomatch hx) hfX hkX hcellA (by rw [hhp]; exact Nat.le_refl _)
    (g := { method := m, pc := pc + 4, locals := ls, stack := .ref T.heap.size :: .ref T.heap.size :: rest, locked := none }) rfl hsize (rest := rest) rfl
    (by rw [hb]; exact d4) hRframes (by simp only [List.map_cons, List.sum_cons, hcat]; omega)
  have Z0 := Stand.forget (locs := []) Z (fun y hy => by rw [hL y hy, hhp]; exact Nat.le_refl _)
  obtain ⟨f1, f2⟩ := vx_frame Z0.same
  rw [hhp] at f1 f2
  have hcid : ce.cls = D.1 ci := by
    rw [hcl9]
    have h1 := (hK.1 ci _ hc).2.1
    rw [hvm] at hfX
    exact Option.some.inj (hfX.symm.trans h1)
  have hh : (V.setCell T.heap.size ce).heap[T.heap.size]? = some ce := heapAt_setCell_self (s := V) ce hlt
  subst hA'
  have X5 := vx_back9 X Y Z0
  have X6 : Stand p l e R s m args below meth c (V.setCell T.heap.size ce) locs (cells + 1) (slots + 6) := { X5 with same := X5.same.mono (by omega) (by omega) }
  have hk9 : ∀ (k : Nat) (x : Nat × va_E), ws[k]? = some x → (V.setCell T.heap.size ce).heap[x.1]? = T.heap[x.1]? := fun k x hx => f2 x.1 ((hP k x hx).lt) (fun z hz => nomatch hz)
  obtain ⟨t, a1, b1⟩ := kk T.heap.size (V.setCell T.heap.size ce).heap ((hP.kept hk9).app (fun k x hx => by
      have hz : k < 1 := (List.getElem?_eq_some_iff.mp hx).1
      rw [show k = 0 by omega] at hx
      cases hx
      exact ⟨_, hc, ce, hh, hcid, hvm9, fun k hk => absurd hk (Nat.not_lt_zero k)⟩)) (hD.push hP rfl (hA _ hS.1)) ⟨Nat.le_trans hS.1 f1, fun q h1 h2 => (f2 q (Nat.lt_of_lt_of_le h1 hS.1) (fun z hz => nomatch hz)).trans (hS.2.1 q h1 h2), hS.2.2⟩ _ rfl X6
  refine ⟨t, st1 _ ?_, b1⟩
  show Steps p.tables e below (T1.setTop { method := m, pc := pc + 3, locals := ls, stack := .ref T.heap.size :: rest, locked := none }) _
  jvm_step X₁.here [X₁.here.top, hexec, d3', Value.category]
  exact st _ a1
/-- 'throw x' of an object that was made before -/
theorem vx_athrow {cc : ByteArray} {pc : Nat} (hexec : p.tables.exec = Jvm.exec) (hb : c.code = cc) {q : Addr} (hdg : decode cc pc = .ok (.athrow, 1)) (k : vx_W p l e R s m args below meth c H locs cells slots Q (F0 m pc ls rest) q) : W p l e R s m args below meth c H locs cells slots Q (F0 m pc ls (.ref q :: rest)) := by
  intro T hT X
  obtain ⟨t, st, hq⟩ := k T hT X
  refine ⟨t, ?_, hq⟩
  have hdg' : decode c.code pc = .ok (.athrow, 1) := by rw [hb]; exact hdg
  jvm_step X.here [X.here.top, hexec, hdg', athrow.wp_sem]
  exact st
end VXK2
/-! ===== END ===== -/
/-! ===== BEGIN a constructor that throws (launches without stack traces) ===== -/
section VXIA
variable {p : Program} {l : Launch} {e : Env} {R : Room} {s : State} {m : MethodId} {args : Array Value} {below : List Frame} {meth : Method} {c : Code} {T : State} {locs : List Loc} {cells slots : Nat}
theorem vx_callI (X : Stand p l e R s m args below meth c T locs cells slots) (hexec : p.tables.exec = Jvm.exec) {own : String} {index : Nat} {y : MethodName} {bytes : ByteArray} {maxL : Nat}
    (hown : s.vm.findClass own = some m.cls) (hy1 : y.name = "<init>") (hlink : (Cond.methodLink own index y).before args s = true) (hinst : (Cond.instanceMethod y).before args s = true)
    (hcode : (Cond.code y bytes maxL none).before args s = true) (hy : y.cls ≠ "java/lang/invoke/MethodHandle" ∧ y.cls ≠ "java/lang/invoke/VarHandle")
    {W9 : Nat} {Pre : Pt → Array Value → Prop} {Post : Pt → Array Value → Option Value → Pt → Prop} {PostX : Pt → Array Value → Addr → Pt → Prop} (hK : vx_Back l R p e below s args y 3 W9 Pre Post PostX)
    {g : JFrame} (hg : g.method = m) (hsize : g.locals.size = c.maxLocals) {a : Addr} {argsL rest : List Value} (hlen : ∀ sig, parseMethodDescriptor y.desc = some sig → argsL.length = sig.parameters.length)
    (hstack : g.stack = argsL.reverse ++ .ref a :: rest) (hW : 2 * g.monitorRoom + (rest.map fun v => v.category).sum ≤ W9) (hdg : decode c.code g.pc = .ok (.invokespecial index, 3))
    (hpre : ∀ vm₁, s.WarmedH vm₁ → Pre ⟨T.setVm vm₁, locs, cells, slots⟩ (Value.ref a :: argsL).toArray) :
    (∃ (v : Option Value) (vm₁ : Vm) (B : Pt), s.WarmedH vm₁ ∧ Stand p l e R s m args below meth c B.U B.locs B.cells B.slots ∧ Post ⟨T.setVm vm₁, locs, cells, slots⟩ (Value.ref a :: argsL).toArray v B ∧
      ∀ target, Steps p.tables e below (B.U.setTop { g with pc := g.pc + 3, stack := v.toList ++ rest }) target → Steps p.tables e below (T.setTop g) target) ∨
    (∃ (q : Addr) (vm₁ : Vm) (B : Pt), s.WarmedH vm₁ ∧ Stand p l e R s m args below meth c B.U B.locs B.cells B.slots ∧ PostX ⟨T.setVm vm₁, locs, cells, slots⟩ (Value.ref a :: argsL).toArray q B ∧
      Steps p.tables e below (T.setTop g) ((B.U.setTop { g with stack := rest }).pushFrame (.throwing q))) := by
  subst hg
  have hpl : e.platform.magicAccessors = ({} : Platform).magicAccessors := by rw [X.admits.platform]
  obtain ⟨mk, methM, cM, kP, vm₁, hnamed, hmethM, hcodeM, -, hlocalsM, -, hkP, -, hW₁, hstep₁⟩ := Steps.initColdArgs (e := e) X.here hexec X.warmed hpl hown hy1 hy hlink hinst hcode (f := g) rfl hlen hstack hdg
  have X₁ := X.noted hW₁
  rcases hK g.method meth c ⟨T.setVm vm₁, locs, cells, slots⟩ { g with stack := rest } (.invokespecial index) mk (Value.ref a :: argsL).toArray X₁ rfl hsize hdg hW (X₁.named hnamed) (hpre vm₁ X₁.warmed) with ⟨v, B, X', hpost, hsteps⟩ | ⟨q, B, X', hpost, hsteps⟩
  · exact Or.inl ⟨v, vm₁, B, X₁.warmed, X', hpost, fun target h => hstep₁ _ fun acts => by rw [doInvoke_state]; exact hsteps.trans h⟩
  · exact Or.inr ⟨q, vm₁, B, X₁.warmed, X', hpost, hstep₁ _ fun acts => by rw [doInvoke_state]; exact hsteps⟩
end VXIA
section VXIB
variable {p : Program} {l : Launch} {e : Env} {R : Room} {s : State} {m : MethodId} {args : Array Value} {below : List Frame} {meth : Method} {c : Code} {H : Heap} {locs : List Loc} {cells slots : Nat}
variable {y : MethodName} {bytes cc : ByteArray} {maxL nL mc ms n index : Nat} {ret : Option FieldType} {ws : List Cond} {rm : Room} {Pc : Array Value → State → Prop} {Qc : Array Value → State → Outcome → State → Prop} {XC : String → State → State → Prop} {free : Addr → Prop} {Ts : List Cond} {own C : String} {b : Addr} {As rest : List Value} {g : JFrame}
theorem vx_runI (S : CallFix p m c cc nL s args Ts own) (hM : vx_Met l y ws rm Pc Qc XC mc ms free) (cw : CallB R s args own index y bytes maxL none ws rm mc ms n ∧ y.name = "<init>" ∧ (Cond.instanceMethod y).before args s = true) (hp : PreS s H Pc (.ref b :: As))
    (hg : g.method = m) (hn : As.length = n) (hsize : g.locals.size = nL) (hstack : g.stack = As.reverse ++ .ref b :: rest) (hW : 2 * g.monitorRoom + (rest.map fun v => v.category).sum ≤ 8) (hdg : decode cc g.pc = .ok (.invokespecial index, 3)) (hf : cells + mc ≤ R.cells ∧ slots + ms ≤ R.slots) :
    vx_Run p l e R s m args below meth c H locs cells slots mc ms g rest (Qc (Value.ref b :: As).toArray) XC free := by
  have hK : vx_Back l R p e below s args y 3 8 (PreOf R mc ms Pc) (PostOf Qc mc ms free) (vx_Post XC mc ms free) := vx_callBack cw.1 hM hp.1
  obtain ⟨⟨-, -, -, -, -, -, hcode, -, hy, hlen, hl⟩, hy1, hin⟩ := cw
  obtain ⟨hx, hb, hml, ho, -⟩ := S
  have hPc := hp.2
  intro T hT X
  rcases vx_callI X hx (bytes := bytes) (maxL := maxL) ho hy1 hl hin hcode hy hK hg (hsize.trans hml.symm) (a := b) (argsL := As) (rest := rest) (fun sig h => hn.trans (hlen sig h)) hstack hW (by rw [hb]; exact hdg)
    (fun vm₁ hW₁ => ⟨hf.1, hf.2, hPc (T.setVm vm₁) hT hW₁⟩) with ⟨v, vm₁, ⟨U', l2, c2, s2⟩, hW₁, X', ⟨g', mk, t, L, e1, e2, hq, h1, hL, h2, h3⟩, st⟩ | ⟨q, vm₁, ⟨U', l2, c2, s2⟩, hW₁, X', ⟨g', mk, t, L, E, ce, e1, e2, hq, hce, hcv, hcl, h1, hL, h2, h3⟩, st⟩
  · dsimp only [Pt.U, Pt.locs, Pt.cells, Pt.slots] at X' e1 e2 h1 h2 h3 st
    subst h1; subst h2; subst h3
    exact Or.inl ⟨v, (T.setVm vm₁).calling g' mk (Value.ref b :: As).toArray, t, U', L, hT, X', hL, e1, e2, hq, st⟩
  · dsimp only [Pt.U, Pt.locs, Pt.cells, Pt.slots] at X' e1 e2 h1 h2 h3 st hcl
    subst h1; subst h2; subst h3
    exact Or.inr ⟨q, (T.setVm vm₁).calling g' mk (Value.ref b :: As).toArray, t, U', L, E, ce, hT, X', hL, e1, e2, hq, hce, hcv, vx_cls hW₁ hcl, st⟩
end VXIB
/-! ===== END ===== -/
/-! ===== BEGIN a private constructor of a nest mate that throws ===== -/
section VXIC
variable {p : Program} {l : Launch} {e : Env} {R : Room} {s : State} {m : MethodId} {args : Array Value} {below : List Frame} {meth : Method} {c : Code} {T : State} {locs : List Loc} {cells slots : Nat}
theorem vx_callIN (X : Stand p l e R s m args below meth c T locs cells slots) (hexec : p.tables.exec = Jvm.exec) {own : String} {index : Nat} {host : String} {y : MethodName} {bytes : ByteArray} {maxL : Nat}
    (hown : s.vm.findClass own = some m.cls) (hy1 : y.name = "<init>") (hlink : (Cond.methodLinkNest own index y host).before args s = true) (hinst : (Cond.instanceMethod y).before args s = true)
    (hcode : (Cond.code y bytes maxL none).before args s = true) (hy : y.cls ≠ "java/lang/invoke/MethodHandle" ∧ y.cls ≠ "java/lang/invoke/VarHandle")
    {W9 : Nat} {Pre : Pt → Array Value → Prop} {Post : Pt → Array Value → Option Value → Pt → Prop} {PostX : Pt → Array Value → Addr → Pt → Prop} (hK : vx_Back l R p e below s args y 3 W9 Pre Post PostX)
    {g : JFrame} (hg : g.method = m) (hsize : g.locals.size = c.maxLocals) {a : Addr} {argsL rest : List Value} (hlen : ∀ sig, parseMethodDescriptor y.desc = some sig → argsL.length = sig.parameters.length)
    (hstack : g.stack = argsL.reverse ++ .ref a :: rest) (hW : 2 * g.monitorRoom + (rest.map fun v => v.category).sum ≤ W9) (hdg : decode c.code g.pc = .ok (.invokespecial index, 3))
    (hpre : ∀ vm₁, s.WarmedH vm₁ → Pre ⟨T.setVm vm₁, locs, cells, slots⟩ (Value.ref a :: argsL).toArray) :
    (∃ (v : Option Value) (vm₁ : Vm) (B : Pt), s.WarmedH vm₁ ∧ Stand p l e R s m args below meth c B.U B.locs B.cells B.slots ∧ Post ⟨T.setVm vm₁, locs, cells, slots⟩ (Value.ref a :: argsL).toArray v B ∧
      ∀ target, Steps p.tables e below (B.U.setTop { g with pc := g.pc + 3, stack := v.toList ++ rest }) target → Steps p.tables e below (T.setTop g) target) ∨
    (∃ (q : Addr) (vm₁ : Vm) (B : Pt), s.WarmedH vm₁ ∧ Stand p l e R s m args below meth c B.U B.locs B.cells B.slots ∧ PostX ⟨T.setVm vm₁, locs, cells, slots⟩ (Value.ref a :: argsL).toArray q B ∧
      Steps p.tables e below (T.setTop g) ((B.U.setTop { g with stack := rest }).pushFrame (.throwing q))) := by
  subst hg
  have hpl : e.platform.magicAccessors = ({} : Platform).magicAccessors := by rw [X.admits.platform]
  obtain ⟨mk, methM, cM, kP, vm₁, hnamed, hmethM, hcodeM, -, hlocalsM, -, hkP, -, hW₁, hstep₁⟩ := Steps.initColdArgsNest (e := e) X.here hexec X.warmed hpl hown hy1 hy hlink hinst hcode (f := g) rfl hlen hstack hdg
  have X₁ := X.noted hW₁
  rcases hK g.method meth c ⟨T.setVm vm₁, locs, cells, slots⟩ { g with stack := rest } (.invokespecial index) mk (Value.ref a :: argsL).toArray X₁ rfl hsize hdg hW (X₁.named hnamed) (hpre vm₁ X₁.warmed) with ⟨v, B, X', hpost, hsteps⟩ | ⟨q, B, X', hpost, hsteps⟩
  · exact Or.inl ⟨v, vm₁, B, X₁.warmed, X', hpost, fun target h => hstep₁ _ fun acts => by rw [doInvoke_state]; exact hsteps.trans h⟩
  · exact Or.inr ⟨q, vm₁, B, X₁.warmed, X', hpost, hstep₁ _ fun acts => by rw [doInvoke_state]; exact hsteps⟩
end VXIC
section VXID
variable {p : Program} {l : Launch} {e : Env} {R : Room} {s : State} {m : MethodId} {args : Array Value} {below : List Frame} {meth : Method} {c : Code} {H : Heap} {locs : List Loc} {cells slots : Nat}
theorem vx_runIN {y : MethodName} {bytes cc : ByteArray} {maxL nL mc ms n index : Nat} {ws : List Cond} {rm : Room} {Pc : Array Value → State → Prop} {Qc : Array Value → State → Outcome → State → Prop} {XC : String → State → State → Prop} {free : Addr → Prop} {Ts : List Cond} {own host : String} {b : Addr} {As rest : List Value} {g : JFrame}
    (S : CallFix p m c cc nL s args Ts own) (hM : vx_Met l y ws rm Pc Qc XC mc ms free) (cw : va_CN R s args own index y host bytes maxL none ws rm mc ms n ∧ y.name = "<init>" ∧ (Cond.instanceMethod y).before args s = true) (hp : PreS s H Pc (.ref b :: As))
    (hg : g.method = m) (hn : As.length = n) (hsize : g.locals.size = nL) (hstack : g.stack = As.reverse ++ .ref b :: rest) (hW : 2 * g.monitorRoom + (rest.map fun v => v.category).sum ≤ 8) (hdg : decode cc g.pc = .ok (.invokespecial index, 3)) (hf : cells + mc ≤ R.cells ∧ slots + ms ≤ R.slots) :
    vx_Run p l e R s m args below meth c H locs cells slots mc ms g rest (Qc (Value.ref b :: As).toArray) XC free := by
  obtain ⟨⟨⟨hrc, hrs, hfr, hlo, hws, hcw⟩, hcode, hini, hy, hlen, hl⟩, hx1, hx2⟩ := cw
  have hK : vx_Back l R p e below s args y 3 8 (PreOf R mc ms Pc) (PostOf Qc mc ms free) (vx_Post XC mc ms free) := vx_back (bytes := bytes) (maxL := maxL) (ret := none) hM hp.1 hrc hrs hfr hlo hws hcw (fun a' U hW => word_at hW (Or.inl (by first | rfl | simp [Cond.onTables, Cond.keeps, Cond.steady])) hini)
  obtain ⟨hx, hb, hml, ho, -⟩ := S
  have hPc := hp.2
  intro T hT X
  rcases vx_callIN X hx (bytes := bytes) (maxL := maxL) ho hx1 hl hx2 hcode hy hK hg (hsize.trans hml.symm) (a := b) (argsL := As) (rest := rest) (fun sig h => hn.trans (hlen sig h)) hstack hW (by rw [hb]; exact hdg)
    (fun vm₁ hW₁ => ⟨hf.1, hf.2, hPc (T.setVm vm₁) hT hW₁⟩) with ⟨v, vm₁, ⟨U', l2, c2, s2⟩, hW₁, X', ⟨g', mk, t, L, e1, e2, hq, h1, hL, h2, h3⟩, st⟩ | ⟨q, vm₁, ⟨U', l2, c2, s2⟩, hW₁, X', ⟨g', mk, t, L, E, ce, e1, e2, hq, hce, hcv, hcl, h1, hL, h2, h3⟩, st⟩
  · dsimp only [Pt.U, Pt.locs, Pt.cells, Pt.slots] at X' e1 e2 h1 h2 h3 st
    subst h1; subst h2; subst h3
    exact Or.inl ⟨v, (T.setVm vm₁).calling g' mk (Value.ref b :: As).toArray, t, U', L, hT, X', hL, e1, e2, hq, st⟩
  · dsimp only [Pt.U, Pt.locs, Pt.cells, Pt.slots] at X' e1 e2 h1 h2 h3 st hcl
    subst h1; subst h2; subst h3
    exact Or.inr ⟨q, (T.setVm vm₁).calling g' mk (Value.ref b :: As).toArray, t, U', L, E, ce, hT, X', hL, e1, e2, hq, hce, hcv, vx_cls hW₁ hcl, st⟩
end VXID
/-! ===== END ===== -/
/-! ===== BEGIN a method of a class above, found by the receiver, that may throw (follows va_callVU, va_runU of this kit) ===== -/
section
variable {p : Program} {l : Launch} {e : Env} {R : Room} {s : State} {m : MethodId} {args : Array Value} {below : List Frame} {meth : Method} {c : Code} {H : Heap} {locs : List Loc} {cells slots : Nat}
theorem vx_callVU {T : State} {locs : List Loc} {cells slots : Nat} (X : Stand p l e R s m args below meth c T locs cells slots) (hexec : p.tables.exec = Jvm.exec) {own C owner : String} {index : Nat} {x y : MethodName} {bytes : ByteArray} {maxL : Nat} {ret : Option FieldType}
    (hown : s.vm.findClass own = some m.cls) (hlink : (Cond.methodLink own index x).before args s = true) (hsame : (Cond.sameMethod x.cls owner x.name x.desc).before args s = true)
    (hd0 : va_Decl s ⟨owner, x.name, x.desc⟩) (howner : owner ≠ "java/lang/invoke/MethodHandle" ∧ owner ≠ "java/lang/invoke/VarHandle")
    (hsel : (Cond.selects C x y).before args s = true) (hinst : (Cond.instanceMethod y).before args s = true) (hcode : (Cond.code y bytes maxL ret).before args s = true)
    {W : Nat} {Pre : Pt → Array Value → Prop} {Post : Pt → Array Value → Option Value → Pt → Prop} {PostX : Pt → Array Value → Addr → Pt → Prop} (hK : vx_Back l R p e below s args y 3 W Pre Post PostX)
    {b : Addr} {cellB : Cell} (hcell : T.heap[b]? = some cellB) (hobj : cellB.vm.isStatics = false) (hcls : s.vm.findClass C = some cellB.cls)
    {g : JFrame} (hg : g.method = m) (hsize : g.locals.size = c.maxLocals) {argsL rest : List Value} (hlen : ∀ sig, parseMethodDescriptor x.desc = some sig → argsL.length = sig.parameters.length)
    (hstack : g.stack = argsL.reverse ++ .ref b :: rest) (hW : 2 * g.monitorRoom + (rest.map fun v => v.category).sum ≤ W) (hdg : decode c.code g.pc = .ok (.invokevirtual index, 3))
    (hpre : ∀ vm₁, s.WarmedH vm₁ → Pre ⟨T.setVm vm₁, locs, cells, slots⟩ (Value.ref b :: argsL).toArray) :
    (∃ (v : Option Value) (vm₁ : Vm) (B : Pt), s.WarmedH vm₁ ∧ Stand p l e R s m args below meth c B.U B.locs B.cells B.slots ∧ Post ⟨T.setVm vm₁, locs, cells, slots⟩ (Value.ref b :: argsL).toArray v B ∧
      ∀ target, Steps p.tables e below (B.U.setTop { g with pc := g.pc + 3, stack := v.toList ++ rest }) target → Steps p.tables e below (T.setTop g) target) ∨
    (∃ (q : Addr) (vm₁ : Vm) (B : Pt), s.WarmedH vm₁ ∧ Stand p l e R s m args below meth c B.U B.locs B.cells B.slots ∧ PostX ⟨T.setVm vm₁, locs, cells, slots⟩ (Value.ref b :: argsL).toArray q B ∧
      Steps p.tables e below (T.setTop g) ((B.U.setTop { g with stack := rest }).pushFrame (.throwing q))) := by
  obtain ⟨r0, r, hn, hrm, hstR, hsigR⟩ := hd0
  obtain ⟨cn, ck, r1, hcn, hck, hni, hf, hn1⟩ := Cond.sameMethod_found hsame
  cases hn.symm.trans hn1
  obtain ⟨mk, methM, hnamed, hmethM, -, habM⟩ := Cond.instanceMethod_spec hinst
  obtain ⟨c2, r2, m2, q1, q2, q3, q4, kP, hkP, hkPi⟩ := Cond.selects_spec hsel
  cases hcls.symm.trans q1
  cases hf.symm.trans q2
  cases hnamed.symm.trans q3
  have hselP : selectMethod e.platform s.vm cellB.cls r0 = .method mk := by rw [Launch.admits_selectMethod X.admits]; exact q4
  obtain ⟨vm₁, X₁, hstep₁⟩ := X.invokevirtualUp hexec hown hlink hsame howner hn hrm hstR (a := b) (cell := cellB) hcell
    (fun z h => by rw [h] at hobj; cases hobj) hselP hmethM habM hkP hkPi (g := g) hg (argsL := argsL) (rest := rest) (hlen _ hsigR) hstack hdg
  rcases hK m meth c ⟨T.setVm vm₁, locs, cells, slots⟩ { g with stack := rest } (.invokevirtual index) mk (Value.ref b :: argsL).toArray X₁ hg hsize hdg hW (X₁.named hnamed) (hpre vm₁ X₁.warmed) with ⟨v, B, X', hpost, hsteps⟩ | ⟨q, B, X', hpost, hsteps⟩
  · exact Or.inl ⟨v, vm₁, B, X₁.warmed, X', hpost, fun target h => hstep₁ _ fun acts => by rw [doInvoke_state]; exact hsteps.trans h⟩
  · exact Or.inr ⟨q, vm₁, B, X₁.warmed, X', hpost, hstep₁ _ fun acts => by rw [doInvoke_state]; exact hsteps⟩
theorem vx_runU {x y : MethodName} {bytes cc : ByteArray} {maxL nL mc ms n index : Nat} {ret : Option FieldType} {ws : List Cond} {rm : Room} {Pc : Array Value → State → Prop} {Qc : Array Value → State → Outcome → State → Prop} {XC : String → State → State → Prop} {free : Addr → Prop} {Ts : List Cond} {own C owner : String} {b : Addr} {As rest : List Value} {g : JFrame}
    (S : CallFix p m c cc nL s args Ts own) (hM : vx_Met l y ws rm Pc Qc XC mc ms free) (cw : va_CU R s args own C owner index x y bytes maxL ret ws rm mc ms n) (hp : PreV s H C b Pc As)
    (hg : g.method = m) (hn : As.length = n) (hsize : g.locals.size = nL) (hstack : g.stack = As.reverse ++ .ref b :: rest) (hW : 2 * g.monitorRoom + (rest.map fun v => v.category).sum ≤ 8) (hdg : decode cc g.pc = .ok (.invokevirtual index, 3)) (hf : cells + mc ≤ R.cells ∧ slots + ms ≤ R.slots) :
    vx_Run p l e R s m args below meth c H locs cells slots mc ms g rest (Qc (Value.ref b :: As).toArray) XC free := by
  obtain ⟨hrc, hrs, hfr, hlo, hws, hcw⟩ := cw.back
  have hini := cw.init
  have hK : vx_Back l R p e below s args y 3 8 (PreOf R mc ms Pc) (PostOf Qc mc ms free) (vx_Post XC mc ms free) := vx_back (bytes := bytes) (maxL := maxL) (ret := ret) hM hp.1 hrc hrs hfr hlo hws hcw (fun a' U hW => word_at hW (Or.inl (by first | rfl | simp [Cond.onTables, Cond.keeps, Cond.steady])) hini)
  obtain ⟨hx, hb, hml, ho, -⟩ := S
  obtain ⟨-, ⟨cellB, hcB, hoB, hclB⟩, hPc⟩ := hp
  intro T hT X
  rcases vx_callVU X hx (C := C) (owner := owner) (bytes := bytes) (maxL := maxL) (ret := ret) ho cw.link cw.same cw.decl cw.notMH cw.sel cw.inst cw.code hK (by rw [hT]; exact hcB) hoB hclB hg (hsize.trans hml.symm) (argsL := As) (rest := rest) (fun sig h => hn.trans (cw.len sig h)) hstack hW (by rw [hb]; exact hdg)
    (fun vm₁ hW₁ => ⟨hf.1, hf.2, hPc (T.setVm vm₁) hT hW₁⟩) with ⟨v, vm₁, ⟨U', l2, c2, s2⟩, hW₁, X', ⟨g', mk, t, L, e1, e2, hq, h1, hL, h2, h3⟩, st⟩ | ⟨q, vm₁, ⟨U', l2, c2, s2⟩, hW₁, X', ⟨g', mk, t, L, E, ce, e1, e2, hq, hce, hcv, hcl, h1, hL, h2, h3⟩, st⟩
  · dsimp only [Pt.U, Pt.locs, Pt.cells, Pt.slots] at X' e1 e2 h1 h2 h3 st
    subst h1; subst h2; subst h3
    exact Or.inl ⟨v, (T.setVm vm₁).calling g' mk (Value.ref b :: As).toArray, t, U', L, hT, X', hL, e1, e2, hq, st⟩
  · dsimp only [Pt.U, Pt.locs, Pt.cells, Pt.slots] at X' e1 e2 h1 h2 h3 st hcl
    subst h1; subst h2; subst h3
    exact Or.inr ⟨q, (T.setVm vm₁).calling g' mk (Value.ref b :: As).toArray, t, U', L, E, ce, hT, X', hL, e1, e2, hq, hce, hcv, vx_cls hW₁ hcl, st⟩
end
/-! ===== END ===== -/
/-! ===== BEGIN super.m(..) that may throw (follows va_callSU, va_runSU) ===== -/
section
variable {p : Program} {l : Launch} {e : Env} {R : Room} {s : State} {m : MethodId} {args : Array Value} {below : List Frame} {meth : Method} {c : Code} {H : Heap} {locs : List Loc} {cells slots : Nat}
theorem vx_callSU {T : State} {locs : List Loc} {cells slots : Nat} (X : Stand p l e R s m args below meth c T locs cells slots) (hexec : p.tables.exec = Jvm.exec) {own : String} {index : Nat} {y : MethodName} {bytes : ByteArray} {maxL : Nat} {ret : Option FieldType}
    (hown : s.vm.findClass own = some m.cls) (hlink : (Cond.methodLink own index y).before args s = true) (hsame : (Cond.sameMethod y.cls y.cls y.name y.desc).before args s = true) (hsup : (Cond.superclass own y.cls).before args s = true)
    (hinst : (Cond.instanceMethod y).before args s = true) (hcode : (Cond.code y bytes maxL ret).before args s = true) (hno : y.name ≠ "<init>")
    {W : Nat} {Pre : Pt → Array Value → Prop} {Post : Pt → Array Value → Option Value → Pt → Prop} {PostX : Pt → Array Value → Addr → Pt → Prop} (hK : vx_Back l R p e below s args y 3 W Pre Post PostX)
    {b : Addr} {cellB : Cell} {kB : Class} (hcell : T.heap[b]? = some cellB) (hobj : cellB.vm.isStatics = false) (hkB : s.vm.classes[cellB.cls]? = some kB)
    {g : JFrame} (hg : g.method = m) (hsize : g.locals.size = c.maxLocals) {argsL rest : List Value} (hlen : ∀ sig, parseMethodDescriptor y.desc = some sig → argsL.length = sig.parameters.length)
    (hstack : g.stack = argsL.reverse ++ .ref b :: rest) (hW : 2 * g.monitorRoom + (rest.map fun v => v.category).sum ≤ W) (hdg : decode c.code g.pc = .ok (.invokespecial index, 3))
    (hpre : ∀ vm₁, s.WarmedH vm₁ → Pre ⟨T.setVm vm₁, locs, cells, slots⟩ (Value.ref b :: argsL).toArray) :
    (∃ (v : Option Value) (vm₁ : Vm) (B : Pt), s.WarmedH vm₁ ∧ Stand p l e R s m args below meth c B.U B.locs B.cells B.slots ∧ Post ⟨T.setVm vm₁, locs, cells, slots⟩ (Value.ref b :: argsL).toArray v B ∧
      ∀ target, Steps p.tables e below (B.U.setTop { g with pc := g.pc + 3, stack := v.toList ++ rest }) target → Steps p.tables e below (T.setTop g) target) ∨
    (∃ (q : Addr) (vm₁ : Vm) (B : Pt), s.WarmedH vm₁ ∧ Stand p l e R s m args below meth c B.U B.locs B.cells B.slots ∧ PostX ⟨T.setVm vm₁, locs, cells, slots⟩ (Value.ref b :: argsL).toArray q B ∧
      Steps p.tables e below (T.setTop g) ((B.U.setTop { g with stack := rest }).pushFrame (.throwing q))) := by
  obtain ⟨mk, methM, hnamed, hmethM, hstM, habM⟩ := Cond.instanceMethod_spec hinst
  obtain ⟨methM', cM, hmethM', -, -, -, -, -, -, hsigM⟩ := Cond.code_spec hnamed hcode
  cases hmethM.symm.trans hmethM'
  obtain ⟨ps, dk, kp, hps, hdk, hkp, hsuper, -, -, hnid⟩ := Cond.superclass_spec hown hsup
  have hn : s.methodNamed? ⟨y.cls, y.name, y.desc⟩ = some mk := hnamed
  have hpm : ps = mk.cls := Option.some.inj (hps.symm.trans (findClass_of_methodNamed hnamed))
  have hsub : s.vm.isSubclass ps mk.cls = true := by rw [hpm]; simp [Vm.isSubclass, Vm.isSubclassAux]
  obtain ⟨vm₁, X₁, hstep₁⟩ := X.invokespecialUp hexec hown hlink hsame hn hmethM hstM habM hno hdk hnid hps hsuper hsub (a := b) (cell := cellB) hcell
    (fun z h => by rw [h] at hobj; cases hobj) hkB (g := g) hg (argsL := argsL) (rest := rest) (hlen _ hsigM) hstack hdg
  rcases hK m meth c ⟨T.setVm vm₁, locs, cells, slots⟩ { g with stack := rest } (.invokespecial index) mk (Value.ref b :: argsL).toArray X₁ hg hsize hdg hW (X₁.named hnamed) (hpre vm₁ X₁.warmed) with ⟨v, B, X', hpost, hsteps⟩ | ⟨q, B, X', hpost, hsteps⟩
  · exact Or.inl ⟨v, vm₁, B, X₁.warmed, X', hpost, fun target h => hstep₁ _ (by rw [doInvoke_state]; exact hsteps.trans h)⟩
  · exact Or.inr ⟨q, vm₁, B, X₁.warmed, X', hpost, hstep₁ _ (by rw [doInvoke_state]; exact hsteps)⟩
theorem vx_runSU {y : MethodName} {bytes cc : ByteArray} {maxL nL mc ms n index : Nat} {ret : Option FieldType} {ws : List Cond} {rm : Room} {Pc : Array Value → State → Prop} {Qc : Array Value → State → Outcome → State → Prop} {XC : String → State → State → Prop} {free : Addr → Prop} {Ts : List Cond} {own C : String} {cC : ClassId} {b : Addr} {As rest : List Value} {g : JFrame}
    (hat : ClassAt s C cC) (S : CallFix p m c cc nL s args Ts own) (hM : vx_Met l y ws rm Pc Qc XC mc ms free) (cw : va_CS R s args own index y bytes maxL ret ws rm mc ms n) (hp : PreV s H C b Pc As)
    (hg : g.method = m) (hn : As.length = n) (hsize : g.locals.size = nL) (hstack : g.stack = As.reverse ++ .ref b :: rest) (hW : 2 * g.monitorRoom + (rest.map fun v => v.category).sum ≤ 8) (hdg : decode cc g.pc = .ok (.invokespecial index, 3)) (hf : cells + mc ≤ R.cells ∧ slots + ms ≤ R.slots) :
    vx_Run p l e R s m args below meth c H locs cells slots mc ms g rest (Qc (Value.ref b :: As).toArray) XC free := by
  obtain ⟨⟨hrc, hrs, hfr, hlo, hws, hcw⟩, hl1, hl2, hl3, hl4, hini, hcode, hno, hlen⟩ := cw
  have hK : vx_Back l R p e below s args y 3 8 (PreOf R mc ms Pc) (PostOf Qc mc ms free) (vx_Post XC mc ms free) := vx_back (bytes := bytes) (maxL := maxL) (ret := ret) hM hp.1 hrc hrs hfr hlo hws hcw (fun a' U hW => word_at hW (Or.inl (by first | rfl | simp [Cond.onTables, Cond.keeps, Cond.steady])) hini)
  obtain ⟨hx, hb, hml, ho, -⟩ := S
  obtain ⟨-, ⟨cellB, hcB, hoB, hclB⟩, hPc⟩ := hp
  obtain ⟨hfc, kB, hkB, -⟩ := hat
  cases hfc.symm.trans hclB
  intro T hT X
  rcases vx_callSU X hx (bytes := bytes) (maxL := maxL) (ret := ret) ho hl1 hl2 hl3 hl4 hcode hno hK (by rw [hT]; exact hcB) hoB hkB hg (hsize.trans hml.symm) (argsL := As) (rest := rest) (fun sig h => hn.trans (hlen sig h)) hstack hW (by rw [hb]; exact hdg)
    (fun vm₁ hW₁ => ⟨hf.1, hf.2, hPc (T.setVm vm₁) hT hW₁⟩) with ⟨v, vm₁, ⟨U', l2, c2, s2⟩, hW₁, X', ⟨g', mk, t, L, e1, e2, hq, h1, hL, h2, h3⟩, st⟩ | ⟨q, vm₁, ⟨U', l2, c2, s2⟩, hW₁, X', ⟨g', mk, t, L, E, ce, e1, e2, hq, hce, hcv, hcl, h1, hL, h2, h3⟩, st⟩
  · dsimp only [Pt.U, Pt.locs, Pt.cells, Pt.slots] at X' e1 e2 h1 h2 h3 st
    subst h1; subst h2; subst h3
    exact Or.inl ⟨v, (T.setVm vm₁).calling g' mk (Value.ref b :: As).toArray, t, U', L, hT, X', hL, e1, e2, hq, st⟩
  · dsimp only [Pt.U, Pt.locs, Pt.cells, Pt.slots] at X' e1 e2 h1 h2 h3 st hcl
    subst h1; subst h2; subst h3
    exact Or.inr ⟨q, (T.setVm vm₁).calling g' mk (Value.ref b :: As).toArray, t, U', L, E, ce, hT, X', hL, e1, e2, hq, hce, hcv, vx_cls hW₁ hcl, st⟩
end
/-! ===== END ===== -/
/-! ===== BEGIN a private method of a nest mate that may throw (follows va_callVN, va_callSN, va_runVN, va_runSN) ===== -/
section
variable {p : Program} {l : Launch} {e : Env} {R : Room} {s : State} {m : MethodId} {args : Array Value} {below : List Frame} {meth : Method} {c : Code} {H : Heap} {locs : List Loc} {cells slots : Nat}
variable {T : State}
theorem vx_callVN (X : Stand p l e R s m args below meth c T locs cells slots) (hexec : p.tables.exec = Jvm.exec) {own C : String} {index : Nat} {host : String} {y : MethodName} {bytes : ByteArray} {maxL : Nat} {ret : Option FieldType}
    (hown : s.vm.findClass own = some m.cls) (hlink : (Cond.methodLinkNest own index y host).before args s = true) (hinst : (Cond.instanceMethod y).before args s = true) (hsel : (Cond.selects C y y).before args s = true)
    (hcode : (Cond.code y bytes maxL ret).before args s = true) (hy : y.cls ≠ "java/lang/invoke/MethodHandle" ∧ y.cls ≠ "java/lang/invoke/VarHandle")
    {W : Nat} {Pre : Pt → Array Value → Prop} {Post : Pt → Array Value → Option Value → Pt → Prop} {PostX : Pt → Array Value → Addr → Pt → Prop} (hK : vx_Back l R p e below s args y 3 W Pre Post PostX)
    {b : Addr} {cellB : Cell} (hcell : T.heap[b]? = some cellB) (hobj : cellB.vm.isStatics = false) (hcls : s.vm.findClass C = some cellB.cls)
    {g : JFrame} (hg : g.method = m) (hsize : g.locals.size = c.maxLocals) {argsL rest : List Value} (hlen : ∀ sig, parseMethodDescriptor y.desc = some sig → argsL.length = sig.parameters.length)
    (hstack : g.stack = argsL.reverse ++ .ref b :: rest) (hW : 2 * g.monitorRoom + (rest.map fun v => v.category).sum ≤ W) (hdg : decode c.code g.pc = .ok (.invokevirtual index, 3))
    (hpre : ∀ vm₁, s.WarmedH vm₁ → Pre ⟨T.setVm vm₁, locs, cells, slots⟩ (Value.ref b :: argsL).toArray) :
    (∃ (v : Option Value) (vm₁ : Vm) (B : Pt), s.WarmedH vm₁ ∧ Stand p l e R s m args below meth c B.U B.locs B.cells B.slots ∧ Post ⟨T.setVm vm₁, locs, cells, slots⟩ (Value.ref b :: argsL).toArray v B ∧
      ∀ target, Steps p.tables e below (B.U.setTop { g with pc := g.pc + 3, stack := v.toList ++ rest }) target → Steps p.tables e below (T.setTop g) target) ∨
    (∃ (q : Addr) (vm₁ : Vm) (B : Pt), s.WarmedH vm₁ ∧ Stand p l e R s m args below meth c B.U B.locs B.cells B.slots ∧ PostX ⟨T.setVm vm₁, locs, cells, slots⟩ (Value.ref b :: argsL).toArray q B ∧
      Steps p.tables e below (T.setTop g) ((B.U.setTop { g with stack := rest }).pushFrame (.throwing q))) := by
  obtain ⟨mk, methM, hnamed, hmethM, hstM, habM⟩ := Cond.instanceMethod_spec hinst
  obtain ⟨methM', cM, hmethM', -, -, -, -, -, -, hsigM⟩ := Cond.code_spec hnamed hcode
  cases hmethM.symm.trans hmethM'
  obtain ⟨c2, r2, m2, q1, q2, q3, q4, kP, hkP, hkPi⟩ := Cond.selects_spec hsel
  cases hcls.symm.trans q1
  cases (State.methodFound?_of_named hnamed hy).symm.trans q2
  cases hnamed.symm.trans q3
  have hselP : selectMethod e.platform s.vm cellB.cls mk = .method mk := by rw [Launch.admits_selectMethod X.admits]; exact q4
  obtain ⟨vm₁, X₁, hstep₁⟩ := X.invokevirtualNest hexec hown hlink hnamed hmethM hstM hkP hkPi hy (a := b) (cell := cellB) hcell
    (fun z h => by rw [h] at hobj; cases hobj) hselP hmethM habM hkP hkPi (g := g) hg (argsL := argsL) (rest := rest) (hlen _ hsigM) hstack hdg
  rcases hK m meth c ⟨T.setVm vm₁, locs, cells, slots⟩ { g with stack := rest } (.invokevirtual index) mk (Value.ref b :: argsL).toArray X₁ hg hsize hdg hW (X₁.named hnamed) (hpre vm₁ X₁.warmed) with ⟨v, B, X', hpost, hsteps⟩ | ⟨q, B, X', hpost, hsteps⟩
  · exact Or.inl ⟨v, vm₁, B, X₁.warmed, X', hpost, fun target h => hstep₁ _ fun acts => by rw [doInvoke_state]; exact hsteps.trans h⟩
  · exact Or.inr ⟨q, vm₁, B, X₁.warmed, X', hpost, hstep₁ _ fun acts => by rw [doInvoke_state]; exact hsteps⟩
theorem vx_callSN (X : Stand p l e R s m args below meth c T locs cells slots) (hexec : p.tables.exec = Jvm.exec) {own : String} {index : Nat} {host : String} {y : MethodName} {bytes : ByteArray} {maxL : Nat} {ret : Option FieldType}
    (hown : s.vm.findClass own = some m.cls) (hlink : (Cond.methodLinkNest own index y host).before args s = true) (hstat : (Cond.static y).before args s = true) (hinit : (Cond.initialized y.cls).before args s = true)
    (hcode : (Cond.code y bytes maxL ret).before args s = true) (hy : y.cls ≠ "java/lang/invoke/MethodHandle" ∧ y.cls ≠ "java/lang/invoke/VarHandle")
    {W : Nat} {Pre : Pt → Array Value → Prop} {Post : Pt → Array Value → Option Value → Pt → Prop} {PostX : Pt → Array Value → Addr → Pt → Prop} (hK : vx_Back l R p e below s args y 3 W Pre Post PostX)
    {g : JFrame} (hg : g.method = m) (hsize : g.locals.size = c.maxLocals) {argsL rest : List Value} (hlen : ∀ sig, parseMethodDescriptor y.desc = some sig → argsL.length = sig.parameters.length)
    (hstack : g.stack = argsL.reverse ++ rest) (hW : 2 * g.monitorRoom + (rest.map fun v => v.category).sum ≤ W) (hdg : decode c.code g.pc = .ok (.invokestatic index, 3))
    (hpre : ∀ vm₁, s.WarmedH vm₁ → Pre ⟨T.setVm vm₁, locs, cells, slots⟩ argsL.toArray) :
    (∃ (v : Option Value) (vm₁ : Vm) (B : Pt), s.WarmedH vm₁ ∧ Stand p l e R s m args below meth c B.U B.locs B.cells B.slots ∧ Post ⟨T.setVm vm₁, locs, cells, slots⟩ argsL.toArray v B ∧
      ∀ target, Steps p.tables e below (B.U.setTop { g with pc := g.pc + 3, stack := v.toList ++ rest }) target → Steps p.tables e below (T.setTop g) target) ∨
    (∃ (q : Addr) (vm₁ : Vm) (B : Pt), s.WarmedH vm₁ ∧ Stand p l e R s m args below meth c B.U B.locs B.cells B.slots ∧ PostX ⟨T.setVm vm₁, locs, cells, slots⟩ argsL.toArray q B ∧
      Steps p.tables e below (T.setTop g) ((B.U.setTop { g with stack := rest }).pushFrame (.throwing q))) := by
  obtain ⟨mk, hnamed⟩ := Cond.code_named hcode
  obtain ⟨methM, cM, hmethM, -, -, -, -, -, -, hsigM⟩ := Cond.code_spec hnamed hcode
  have hstatic : methM.isStatic = true := Cond.static_spec hnamed hmethM hstat
  obtain ⟨kP, hkP, -⟩ := className_of_methodNamed hnamed
  have hinitP : kP.init = .initialized := Cond.initialized_spec (findClass_of_methodNamed hnamed) hkP hinit
  obtain ⟨vm₁, X₁, hstep₁⟩ := X.invokestaticNest hexec hown hlink hnamed hmethM hstatic hkP hinitP hy (g := g) hg (argsL := argsL) (rest := rest) (hlen _ hsigM) hstack hdg
  rcases hK m meth c ⟨T.setVm vm₁, locs, cells, slots⟩ { g with stack := rest } (.invokestatic index) mk argsL.toArray X₁ hg hsize hdg hW (X₁.named hnamed) (hpre vm₁ X₁.warmed) with ⟨v, B, X', hpost, hsteps⟩ | ⟨q, B, X', hpost, hsteps⟩
  · exact Or.inl ⟨v, vm₁, B, X₁.warmed, X', hpost, fun target h => hstep₁ _ fun acts => by rw [doInvoke_state]; exact hsteps.trans h⟩
  · exact Or.inr ⟨q, vm₁, B, X₁.warmed, X', hpost, hstep₁ _ fun acts => by rw [doInvoke_state]; exact hsteps⟩
theorem vx_runVN {y : MethodName} {bytes cc : ByteArray} {maxL nL mc ms n index : Nat} {ret : Option FieldType} {ws : List Cond} {rm : Room} {Pc : Array Value → State → Prop} {Qc : Array Value → State → Outcome → State → Prop} {XC : String → State → State → Prop} {free : Addr → Prop} {Ts : List Cond} {own C host : String} {b : Addr} {As rest : List Value} {g : JFrame}
    (S : CallFix p m c cc nL s args Ts own) (hM : vx_Met l y ws rm Pc Qc XC mc ms free) (cw : va_CN R s args own index y host bytes maxL ret ws rm mc ms n ∧ (Cond.instanceMethod y).before args s = true ∧ (Cond.selects C y y).before args s = true) (hp : PreV s H C b Pc As)
    (hg : g.method = m) (hn : As.length = n) (hsize : g.locals.size = nL) (hstack : g.stack = As.reverse ++ .ref b :: rest) (hW : 2 * g.monitorRoom + (rest.map fun v => v.category).sum ≤ 8) (hdg : decode cc g.pc = .ok (.invokevirtual index, 3)) (hf : cells + mc ≤ R.cells ∧ slots + ms ≤ R.slots) :
    vx_Run p l e R s m args below meth c H locs cells slots mc ms g rest (Qc (Value.ref b :: As).toArray) XC free := by
  obtain ⟨⟨⟨hrc, hrs, hfr, hlo, hws, hcw⟩, hcode, hini, hy, hlen, hl⟩, hx1, hx2⟩ := cw
  have hK : vx_Back l R p e below s args y 3 8 (PreOf R mc ms Pc) (PostOf Qc mc ms free) (vx_Post XC mc ms free) := vx_back (bytes := bytes) (maxL := maxL) (ret := ret) hM hp.1 hrc hrs hfr hlo hws hcw (fun a' U hW => word_at hW (Or.inl (by first | rfl | simp [Cond.onTables, Cond.keeps, Cond.steady])) hini)
  obtain ⟨hx, hb, hml, ho, -⟩ := S
  obtain ⟨-, ⟨cellB, hcB, hoB, hclB⟩, hPc⟩ := hp
  intro T hT X
  rcases vx_callVN X hx (C := C) (bytes := bytes) (maxL := maxL) (ret := ret) ho hl hx1 hx2 hcode hy hK (by rw [hT]; exact hcB) hoB hclB hg (hsize.trans hml.symm) (argsL := As) (rest := rest) (fun sig h => hn.trans (hlen sig h)) hstack hW (by rw [hb]; exact hdg)
    (fun vm₁ hW₁ => ⟨hf.1, hf.2, hPc (T.setVm vm₁) hT hW₁⟩) with ⟨v, vm₁, ⟨U', l2, c2, s2⟩, hW₁, X', ⟨g', mk, t, L, e1, e2, hq, h1, hL, h2, h3⟩, st⟩ | ⟨q, vm₁, ⟨U', l2, c2, s2⟩, hW₁, X', ⟨g', mk, t, L, E, ce, e1, e2, hq, hce, hcv, hcl, h1, hL, h2, h3⟩, st⟩
  · dsimp only [Pt.U, Pt.locs, Pt.cells, Pt.slots] at X' e1 e2 h1 h2 h3 st
    subst h1; subst h2; subst h3
    exact Or.inl ⟨v, (T.setVm vm₁).calling g' mk (Value.ref b :: As).toArray, t, U', L, hT, X', hL, e1, e2, hq, st⟩
  · dsimp only [Pt.U, Pt.locs, Pt.cells, Pt.slots] at X' e1 e2 h1 h2 h3 st hcl
    subst h1; subst h2; subst h3
    exact Or.inr ⟨q, (T.setVm vm₁).calling g' mk (Value.ref b :: As).toArray, t, U', L, E, ce, hT, X', hL, e1, e2, hq, hce, hcv, vx_cls hW₁ hcl, st⟩
theorem vx_runSN {y : MethodName} {bytes cc : ByteArray} {maxL nL mc ms n index : Nat} {ret : Option FieldType} {ws : List Cond} {rm : Room} {Pc : Array Value → State → Prop} {Qc : Array Value → State → Outcome → State → Prop} {XC : String → State → State → Prop} {free : Addr → Prop} {Ts : List Cond} {own host : String} {As rest : List Value} {g : JFrame}
    (S : CallFix p m c cc nL s args Ts own) (hM : vx_Met l y ws rm Pc Qc XC mc ms free) (cw : va_CN R s args own index y host bytes maxL ret ws rm mc ms n ∧ (Cond.static y).before args s = true ∧ True) (hp : PreS s H Pc As)
    (hg : g.method = m) (hn : As.length = n) (hsize : g.locals.size = nL) (hstack : g.stack = As.reverse ++ rest) (hW : 2 * g.monitorRoom + (rest.map fun v => v.category).sum ≤ 8) (hdg : decode cc g.pc = .ok (.invokestatic index, 3)) (hf : cells + mc ≤ R.cells ∧ slots + ms ≤ R.slots) :
    vx_Run p l e R s m args below meth c H locs cells slots mc ms g rest (Qc As.toArray) XC free := by
  obtain ⟨⟨⟨hrc, hrs, hfr, hlo, hws, hcw⟩, hcode, hini, hy, hlen, hl⟩, hx1, hx2⟩ := cw
  have hK : vx_Back l R p e below s args y 3 8 (PreOf R mc ms Pc) (PostOf Qc mc ms free) (vx_Post XC mc ms free) := vx_back (bytes := bytes) (maxL := maxL) (ret := ret) hM hp.1 hrc hrs hfr hlo hws hcw (fun a' U hW => word_at hW (Or.inl (by first | rfl | simp [Cond.onTables, Cond.keeps, Cond.steady])) hini)
  obtain ⟨hx, hb, hml, ho, -⟩ := S
  have hPc := hp.2
  intro T hT X
  rcases vx_callSN X hx (bytes := bytes) (maxL := maxL) (ret := ret) ho hl hx1 hini hcode hy hK hg (hsize.trans hml.symm) (argsL := As) (rest := rest) (fun sig h => hn.trans (hlen sig h)) hstack hW (by rw [hb]; exact hdg)
    (fun vm₁ hW₁ => ⟨hf.1, hf.2, hPc (T.setVm vm₁) hT hW₁⟩) with ⟨v, vm₁, ⟨U', l2, c2, s2⟩, hW₁, X', ⟨g', mk, t, L, e1, e2, hq, h1, hL, h2, h3⟩, st⟩ | ⟨q, vm₁, ⟨U', l2, c2, s2⟩, hW₁, X', ⟨g', mk, t, L, E, ce, e1, e2, hq, hce, hcv, hcl, h1, hL, h2, h3⟩, st⟩
  · dsimp only [Pt.U, Pt.locs, Pt.cells, Pt.slots] at X' e1 e2 h1 h2 h3 st
    subst h1; subst h2; subst h3
    exact Or.inl ⟨v, (T.setVm vm₁).calling g' mk As.toArray, t, U', L, hT, X', hL, e1, e2, hq, st⟩
  · dsimp only [Pt.U, Pt.locs, Pt.cells, Pt.slots] at X' e1 e2 h1 h2 h3 st hcl
    subst h1; subst h2; subst h3
    exact Or.inr ⟨q, (T.setVm vm₁).calling g' mk As.toArray, t, U', L, E, ce, hT, X', hL, e1, e2, hq, hce, hcv, vx_cls hW₁ hcl, st⟩
end
/-! ===== END ===== -/
/-! ===== BEGIN calls by an interface of methods that may throw (vx_callIF, vx_runF follow va_callIF, va_runF of this kit) ===== -/
section
variable {p : Program} {l : Launch} {e : Env} {R : Room} {s : State} {m : MethodId} {args : Array Value} {below : List Frame} {meth : Method} {c : Code} {H : Heap} {locs : List Loc} {cells slots : Nat} {Q : State → Prop}
variable {mc ms : Nat} {free : Addr → Prop} {A0 A1 : Nat → Prop} {H0 : Heap} {a : Array Value} {pc : Nat} {ls : Array Slot} {st0 rest : List Value}
def vx_Run5 (p : Program) (l : Launch) (e : Env) (R : Room) (s : State) (m : MethodId) (args : Array Value) (below : List Frame) (meth : Method) (c : Code) (H : Heap) (locs : List Loc) (cells slots mc ms : Nat) (g : JFrame) (rest : List Value) (Qa : State → Outcome → State → Prop) (XC : String → State → State → Prop) (free : Addr → Prop) : Prop :=
  ∀ T : State, T.heap = H → Stand p l e R s m args below meth c T locs cells slots →
    (∃ (v : Option Value) (st₀ t T' : State) (L : List Loc), st₀.heap = H ∧ Stand p l e R s m args below meth c T' (locs ++ L) (cells + mc) (slots + ms) ∧ (∀ q ∈ L, free q.base) ∧ T'.heap = t.heap ∧ T'.vm = t.vm ∧ Qa st₀ (.returned v) t ∧
      Goes p e below T g T' { g with pc := g.pc + 5, stack := v.toList ++ rest }) ∨
    (∃ (q : Addr) (st₀ t T' : State) (L : List Loc) (E : String) (ce : Cell), st₀.heap = H ∧ Stand p l e R s m args below meth c T' (locs ++ L) (cells + mc) (slots + ms) ∧ (∀ z ∈ L, free z.base) ∧ T'.heap = t.heap ∧ T'.vm = t.vm ∧ XC E st₀ t ∧ t.heap[q]? = some ce ∧ ce.vm = .none ∧ s.vm.findClass E = some ce.cls ∧
      Steps p.tables e below (T.setTop g) ((T'.setTop { g with stack := rest }).pushFrame (.throwing q)))
theorem vx_callIF {T : State} (X : Stand p l e R s m args below meth c T locs cells slots) (hexec : p.tables.exec = Jvm.exec) {own C : String} {index count : Nat} {x y : MethodName} {bytes : ByteArray} {maxL : Nat} {ret : Option FieldType}
    (hown : s.vm.findClass own = some m.cls) (hlink : (Cond.methodLink own index x).before args s = true) (hdecl : (Cond.declares x).before args s = true) (hface : (Cond.interfaceMethod x.cls x.cls x.name x.desc).before args s = true)
    (hsel : (Cond.selects C x y).before args s = true) (hinst : (Cond.instanceMethod y).before args s = true) (hpub : (Cond.publicMethod y).before args s = true) (hunh : (Cond.unhidden C x.name x.desc).before args s = true)
    (hcast : (Cond.castable C x.cls).before args s = true) (hcode : (Cond.code y bytes maxL ret).before args s = true) (hx : x.cls ≠ "java/lang/invoke/MethodHandle" ∧ x.cls ≠ "java/lang/invoke/VarHandle")
    {W9 : Nat} {Pre : Pt → Array Value → Prop} {Post : Pt → Array Value → Option Value → Pt → Prop} {PostX : Pt → Array Value → Addr → Pt → Prop} (hK : vx_Back l R p e below s args y 5 W9 Pre Post PostX)
    {b : Addr} {cellB : Cell} {kB : Class} (hcell : T.heap[b]? = some cellB) (hobj : cellB.vm.isStatics = false) (hcls : s.vm.findClass C = some cellB.cls) (hkB : s.vm.classes[cellB.cls]? = some kB)
    {g : JFrame} (hg : g.method = m) (hsize : g.locals.size = c.maxLocals) {argsL rest : List Value} (hlen : ∀ sig, parseMethodDescriptor x.desc = some sig → argsL.length = sig.parameters.length)
    (hstack : g.stack = argsL.reverse ++ .ref b :: rest) (hW : 2 * g.monitorRoom + (rest.map fun v => v.category).sum ≤ W9) (hdg : decode c.code g.pc = .ok (.invokeinterface index count, 5))
    (hpre : ∀ vm₁, s.WarmedH vm₁ → Pre ⟨T.setVm vm₁, locs, cells, slots⟩ (Value.ref b :: argsL).toArray) :
    (∃ (v : Option Value) (vm₁ : Vm) (B : Pt), s.WarmedH vm₁ ∧ Stand p l e R s m args below meth c B.U B.locs B.cells B.slots ∧ Post ⟨T.setVm vm₁, locs, cells, slots⟩ (Value.ref b :: argsL).toArray v B ∧
      ∀ target, Steps p.tables e below (B.U.setTop { g with pc := g.pc + 5, stack := v.toList ++ rest }) target → Steps p.tables e below (T.setTop g) target) ∨
    (∃ (q : Addr) (vm₁ : Vm) (B : Pt), s.WarmedH vm₁ ∧ Stand p l e R s m args below meth c B.U B.locs B.cells B.slots ∧ PostX ⟨T.setVm vm₁, locs, cells, slots⟩ (Value.ref b :: argsL).toArray q B ∧
      Steps p.tables e below (T.setTop g) ((B.U.setTop { g with stack := rest }).pushFrame (.throwing q))) := by
  obtain ⟨r0, r, hn, hrm, hstR, hsigR⟩ := Cond.declares_spec hdecl
  obtain ⟨cL, kL, r1, hcL, hkL, hiL, hfoundL, hn1⟩ := Cond.interfaceMethod_spec hface
  cases hn.symm.trans hn1
  have hr0cls : r0.cls = cL := Option.some.inj ((findClass_of_methodNamed hn).symm.trans hcL)
  obtain ⟨hnameR, hdescR⟩ := name_of_methodNamed hn hrm
  obtain ⟨mk, methM, hnamed, hmethM, -, habM⟩ := Cond.instanceMethod_spec hinst
  obtain ⟨c2, r2, m2, q1, q2, q3, q4, -⟩ := Cond.selects_spec hsel
  cases hcls.symm.trans q1
  cases hfoundL.symm.trans q2
  cases hnamed.symm.trans q3
  have hselP : selectMethod e.platform s.vm cellB.cls r0 = .method mk := by rw [Launch.admits_selectMethod X.admits]; exact q4
  have hpubM : hasFlag methM.accessFlags Acc.public_ = true := Cond.publicMethod_spec hnamed hmethM hpub
  have hway : ((cellB.cls :: s.vm.superclasses cellB.cls).any fun k => (declaredIn s.vm r.name r.desc k).any fun (_, z) => z.isPrivate || z.isStatic) = false := by
    rw [hnameR, hdescR]; exact Cond.unhidden_spec hcls hunh
  obtain ⟨c3, t3, w1, w2, w3⟩ := Cond.castable_spec hcast
  cases hcls.symm.trans w1
  cases hcL.symm.trans w2
  obtain ⟨vm₁, X₁, hstep₁⟩ := X.invokeinterface hexec hown hlink hn hrm hstR (by rw [hr0cls]; exact hkL) hiL hx (a := b) (cell := cellB) (kcell := kB) hcell
    (fun z h => by rw [h] at hobj; cases hobj) hkB (by rw [hr0cls]; exact w3) hselP hmethM hway hpubM habM (g := g) hg (argsL := argsL) (rest := rest) (hlen _ hsigR) hstack hdg
  rcases hK m meth c ⟨T.setVm vm₁, locs, cells, slots⟩ { g with stack := rest } (.invokeinterface index count) mk (Value.ref b :: argsL).toArray X₁ hg hsize hdg hW (X₁.named hnamed) (hpre vm₁ X₁.warmed) with ⟨v, B, X', hpost, hsteps⟩ | ⟨q, B, X', hpost, hsteps⟩
  · exact Or.inl ⟨v, vm₁, B, X₁.warmed, X', hpost, fun target h => hstep₁ _ fun acts => by rw [doInvoke_state]; exact hsteps.trans h⟩
  · exact Or.inr ⟨q, vm₁, B, X₁.warmed, X', hpost, hstep₁ _ fun acts => by rw [doInvoke_state]; exact hsteps⟩
theorem vx_runF {x y : MethodName} {bytes cc : ByteArray} {maxL nL mc ms n index count : Nat} {ret : Option FieldType} {ws : List Cond} {rm : Room} {Pc : Array Value → State → Prop} {Qc : Array Value → State → Outcome → State → Prop} {XC : String → State → State → Prop} {free : Addr → Prop} {Ts : List Cond} {own C : String} {cC : ClassId} {b : Addr} {As rest : List Value} {g : JFrame}
    (hat : ClassAt s C cC) (S : CallFix p m c cc nL s args Ts own) (hM : vx_Met l y ws rm Pc Qc XC mc ms free) (cw : va_CI R s args own C index x y bytes maxL ret ws rm mc ms n) (hp : PreV s H C b Pc As)
    (hg : g.method = m) (hn : As.length = n) (hsize : g.locals.size = nL) (hstack : g.stack = As.reverse ++ .ref b :: rest) (hW : 2 * g.monitorRoom + (rest.map fun v => v.category).sum ≤ 8) (hdg : decode cc g.pc = .ok (.invokeinterface index count, 5)) (hf : cells + mc ≤ R.cells ∧ slots + ms ≤ R.slots) :
    vx_Run5 p l e R s m args below meth c H locs cells slots mc ms g rest (Qc (Value.ref b :: As).toArray) XC free := by
  obtain ⟨hrc, hrs, hfr, hlo, hws, hcw⟩ := cw.back
  have hini := cw.init
  have hK : vx_Back l R p e below s args y 5 8 (PreOf R mc ms Pc) (PostOf Qc mc ms free) (vx_Post XC mc ms free) := vx_back (bytes := bytes) (maxL := maxL) (ret := ret) hM hp.1 hrc hrs hfr hlo hws hcw (fun a' U hW => word_at hW (Or.inl (by first | rfl | simp [Cond.onTables, Cond.keeps, Cond.steady])) hini)
  obtain ⟨hx, hb, hml, ho, -⟩ := S
  obtain ⟨-, ⟨cellB, hcB, hoB, hclB⟩, hPc⟩ := hp
  obtain ⟨hfc, kB, hkB, -⟩ := hat
  cases hfc.symm.trans hclB
  intro T hT X
  rcases vx_callIF X hx (C := C) (bytes := bytes) (maxL := maxL) (ret := ret) ho cw.link cw.decl cw.face cw.sel cw.inst cw.pub cw.unh cw.cast cw.code cw.notMH hK (by rw [hT]; exact hcB) hoB hclB hkB hg (hsize.trans hml.symm) (argsL := As) (rest := rest) (fun sig h => hn.trans (cw.len sig h)) hstack hW (by rw [hb]; exact hdg)
    (fun vm₁ hW₁ => ⟨hf.1, hf.2, hPc (T.setVm vm₁) hT hW₁⟩) with ⟨v, vm₁, ⟨U', l2, c2, s2⟩, hW₁, X', ⟨g', mk, t, L, e1, e2, hq, h1, hL, h2, h3⟩, st⟩ | ⟨q, vm₁, ⟨U', l2, c2, s2⟩, hW₁, X', ⟨g', mk, t, L, E, ce, e1, e2, hq, hce, hcv, hcl, h1, hL, h2, h3⟩, st⟩
  · dsimp only [Pt.U, Pt.locs, Pt.cells, Pt.slots] at X' e1 e2 h1 h2 h3 st
    subst h1; subst h2; subst h3
    exact Or.inl ⟨v, (T.setVm vm₁).calling g' mk (Value.ref b :: As).toArray, t, U', L, hT, X', hL, e1, e2, hq, st⟩
  · dsimp only [Pt.U, Pt.locs, Pt.cells, Pt.slots] at X' e1 e2 h1 h2 h3 st hcl
    subst h1; subst h2; subst h3
    exact Or.inr ⟨q, (T.setVm vm₁).calling g' mk (Value.ref b :: As).toArray, t, U', L, E, ce, hT, X', hL, e1, e2, hq, hce, hcv, vx_cls hW₁ hcl, st⟩
theorem vx_callFv {S SX : Type} {post : S → Prop} {px : SX → Prop} {B : S → State → Prop} {BX : String → SX → State → Prop} {AX : Nat → Prop} (hr : vx_Run5 p l e R s m args below meth c H locs cells slots mc ms (F0 m pc ls st0) rest (va_Qv post B A1 a) (vx_X px BX AX) free) (hS : va_S A0 H0 H locs) (hA : ∀ q, q < H.size → A1 q → A0 q) (hf : ∀ q, free q → A0 q) (hAX : ∀ q, q < H.size → AX q → A0 q)
    (kx : ∀ (E : String) (ce : Cell) (q9 : Addr) (u : SX) (t : State) (H1 : Heap) (locs1 : List Loc), t.heap = H1 → s.vm.Alike t.vm → px u → BX E u t → H.size ≤ H1.size → (∀ q : Nat, q < H.size → ¬ AX q → H1[q]? = H[q]?) → va_S A0 H0 H1 locs1 → H1[q9]? = some ce → ce.vm = .none → s.vm.findClass E = some ce.cls → vx_W p l e R s m args below meth c H1 locs1 (cells + mc) (slots + ms) Q (F0 m pc ls rest) q9)
    (kk : ∀ (u : S) (t : State) (H1 : Heap) (locs1 : List Loc), t.heap = H1 → s.vm.Alike t.vm → post u → B u t → H.size ≤ H1.size → (∀ q : Nat, q < H.size → ¬ A1 q → H1[q]? = H[q]?) → va_S A0 H0 H1 locs1 → W p l e R s m args below meth c H1 locs1 (cells + mc) (slots + ms) Q (F0 m (pc + 5) ls (rest))) : W p l e R s m args below meth c H locs cells slots Q (F0 m pc ls st0) := by
  intro T hT X
  rcases hr T hT X with ⟨v, st₀, t, T', L, h0, X', hL, e1, e2, ⟨⟨u, hv, hp, hb⟩, hF⟩, st⟩ | ⟨q, st₀, t, T', L, E, ce, h0, X', hL, e1, e2, ⟨u, hp, hb, hF⟩, hce, hcv, hcl, st⟩
  · cases hv
    obtain ⟨k1, k2, k3⟩ := vx_keep h0 e1 hS hA hf hL hF
    obtain ⟨t2, a1, b1⟩ := kk u t T'.heap (locs ++ L) e1.symm (by rw [← e2]; exact X'.warmed.alike) hp hb k1 k2 k3 T' rfl X'
    exact ⟨t2, st t2 a1, b1⟩
  · obtain ⟨k1, k2, k3⟩ := vx_keep h0 e1 hS hAX hf hL hF
    obtain ⟨t2, a1, b1⟩ := kx E ce q u t T'.heap (locs ++ L) e1.symm (by rw [← e2]; exact X'.warmed.alike) hp hb k1 k2 k3 (by rw [e1]; exact hce) hcv hcl T' rfl X'
    exact ⟨t2, st.trans a1, b1⟩
theorem vx_callFi {S SX : Type} {post : Int32 → S → Prop} {px : SX → Prop} {B : S → State → Prop} {BX : String → SX → State → Prop} {AX : Nat → Prop} (hr : vx_Run5 p l e R s m args below meth c H locs cells slots mc ms (F0 m pc ls st0) rest (va_Qi post B A1 a) (vx_X px BX AX) free) (hS : va_S A0 H0 H locs) (hA : ∀ q, q < H.size → A1 q → A0 q) (hf : ∀ q, free q → A0 q) (hAX : ∀ q, q < H.size → AX q → A0 q)
    (kx : ∀ (E : String) (ce : Cell) (q9 : Addr) (u : SX) (t : State) (H1 : Heap) (locs1 : List Loc), t.heap = H1 → s.vm.Alike t.vm → px u → BX E u t → H.size ≤ H1.size → (∀ q : Nat, q < H.size → ¬ AX q → H1[q]? = H[q]?) → va_S A0 H0 H1 locs1 → H1[q9]? = some ce → ce.vm = .none → s.vm.findClass E = some ce.cls → vx_W p l e R s m args below meth c H1 locs1 (cells + mc) (slots + ms) Q (F0 m pc ls rest) q9)
    (kk : ∀ (r : Int32) (u : S) (t : State) (H1 : Heap) (locs1 : List Loc), t.heap = H1 → s.vm.Alike t.vm → post r u → B u t → H.size ≤ H1.size → (∀ q : Nat, q < H.size → ¬ A1 q → H1[q]? = H[q]?) → va_S A0 H0 H1 locs1 → W p l e R s m args below meth c H1 locs1 (cells + mc) (slots + ms) Q (F0 m (pc + 5) ls (.int r :: rest))) : W p l e R s m args below meth c H locs cells slots Q (F0 m pc ls st0) := by
  intro T hT X
  rcases hr T hT X with ⟨v, st₀, t, T', L, h0, X', hL, e1, e2, ⟨⟨r, u, hv, hp, hb⟩, hF⟩, st⟩ | ⟨q, st₀, t, T', L, E, ce, h0, X', hL, e1, e2, ⟨u, hp, hb, hF⟩, hce, hcv, hcl, st⟩
  · cases hv
    obtain ⟨k1, k2, k3⟩ := vx_keep h0 e1 hS hA hf hL hF
    obtain ⟨t2, a1, b1⟩ := kk r u t T'.heap (locs ++ L) e1.symm (by rw [← e2]; exact X'.warmed.alike) hp hb k1 k2 k3 T' rfl X'
    exact ⟨t2, st t2 a1, b1⟩
  · obtain ⟨k1, k2, k3⟩ := vx_keep h0 e1 hS hAX hf hL hF
    obtain ⟨t2, a1, b1⟩ := kx E ce q u t T'.heap (locs ++ L) e1.symm (by rw [← e2]; exact X'.warmed.alike) hp hb k1 k2 k3 (by rw [e1]; exact hce) hcv hcl T' rfl X'
    exact ⟨t2, st.trans a1, b1⟩
theorem vx_callFl {S SX : Type} {post : Int64 → S → Prop} {px : SX → Prop} {B : S → State → Prop} {BX : String → SX → State → Prop} {AX : Nat → Prop} (hr : vx_Run5 p l e R s m args below meth c H locs cells slots mc ms (F0 m pc ls st0) rest (va_Ql post B A1 a) (vx_X px BX AX) free) (hS : va_S A0 H0 H locs) (hA : ∀ q, q < H.size → A1 q → A0 q) (hf : ∀ q, free q → A0 q) (hAX : ∀ q, q < H.size → AX q → A0 q)
    (kx : ∀ (E : String) (ce : Cell) (q9 : Addr) (u : SX) (t : State) (H1 : Heap) (locs1 : List Loc), t.heap = H1 → s.vm.Alike t.vm → px u → BX E u t → H.size ≤ H1.size → (∀ q : Nat, q < H.size → ¬ AX q → H1[q]? = H[q]?) → va_S A0 H0 H1 locs1 → H1[q9]? = some ce → ce.vm = .none → s.vm.findClass E = some ce.cls → vx_W p l e R s m args below meth c H1 locs1 (cells + mc) (slots + ms) Q (F0 m pc ls rest) q9)
    (kk : ∀ (r : Int64) (u : S) (t : State) (H1 : Heap) (locs1 : List Loc), t.heap = H1 → s.vm.Alike t.vm → post r u → B u t → H.size ≤ H1.size → (∀ q : Nat, q < H.size → ¬ A1 q → H1[q]? = H[q]?) → va_S A0 H0 H1 locs1 → W p l e R s m args below meth c H1 locs1 (cells + mc) (slots + ms) Q (F0 m (pc + 5) ls (.long r :: rest))) : W p l e R s m args below meth c H locs cells slots Q (F0 m pc ls st0) := by
  intro T hT X
  rcases hr T hT X with ⟨v, st₀, t, T', L, h0, X', hL, e1, e2, ⟨⟨r, u, hv, hp, hb⟩, hF⟩, st⟩ | ⟨q, st₀, t, T', L, E, ce, h0, X', hL, e1, e2, ⟨u, hp, hb, hF⟩, hce, hcv, hcl, st⟩
  · cases hv
    obtain ⟨k1, k2, k3⟩ := vx_keep h0 e1 hS hA hf hL hF
    obtain ⟨t2, a1, b1⟩ := kk r u t T'.heap (locs ++ L) e1.symm (by rw [← e2]; exact X'.warmed.alike) hp hb k1 k2 k3 T' rfl X'
    exact ⟨t2, st t2 a1, b1⟩
  · obtain ⟨k1, k2, k3⟩ := vx_keep h0 e1 hS hAX hf hL hF
    obtain ⟨t2, a1, b1⟩ := kx E ce q u t T'.heap (locs ++ L) e1.symm (by rw [← e2]; exact X'.warmed.alike) hp hb k1 k2 k3 (by rw [e1]; exact hce) hcv hcl T' rfl X'
    exact ⟨t2, st.trans a1, b1⟩
theorem vx_callFf {S SX : Type} {post : UInt32 → S → Prop} {px : SX → Prop} {B : S → State → Prop} {BX : String → SX → State → Prop} {AX : Nat → Prop} (hr : vx_Run5 p l e R s m args below meth c H locs cells slots mc ms (F0 m pc ls st0) rest (va_Qf post B A1 a) (vx_X px BX AX) free) (hS : va_S A0 H0 H locs) (hA : ∀ q, q < H.size → A1 q → A0 q) (hf : ∀ q, free q → A0 q) (hAX : ∀ q, q < H.size → AX q → A0 q)
    (kx : ∀ (E : String) (ce : Cell) (q9 : Addr) (u : SX) (t : State) (H1 : Heap) (locs1 : List Loc), t.heap = H1 → s.vm.Alike t.vm → px u → BX E u t → H.size ≤ H1.size → (∀ q : Nat, q < H.size → ¬ AX q → H1[q]? = H[q]?) → va_S A0 H0 H1 locs1 → H1[q9]? = some ce → ce.vm = .none → s.vm.findClass E = some ce.cls → vx_W p l e R s m args below meth c H1 locs1 (cells + mc) (slots + ms) Q (F0 m pc ls rest) q9)
    (kk : ∀ (r : UInt32) (u : S) (t : State) (H1 : Heap) (locs1 : List Loc), t.heap = H1 → s.vm.Alike t.vm → post r u → B u t → H.size ≤ H1.size → (∀ q : Nat, q < H.size → ¬ A1 q → H1[q]? = H[q]?) → va_S A0 H0 H1 locs1 → W p l e R s m args below meth c H1 locs1 (cells + mc) (slots + ms) Q (F0 m (pc + 5) ls (.float r :: rest))) : W p l e R s m args below meth c H locs cells slots Q (F0 m pc ls st0) := by
  intro T hT X
  rcases hr T hT X with ⟨v, st₀, t, T', L, h0, X', hL, e1, e2, ⟨⟨r, u, hv, hp, hb⟩, hF⟩, st⟩ | ⟨q, st₀, t, T', L, E, ce, h0, X', hL, e1, e2, ⟨u, hp, hb, hF⟩, hce, hcv, hcl, st⟩
  · cases hv
    obtain ⟨k1, k2, k3⟩ := vx_keep h0 e1 hS hA hf hL hF
    obtain ⟨t2, a1, b1⟩ := kk r u t T'.heap (locs ++ L) e1.symm (by rw [← e2]; exact X'.warmed.alike) hp hb k1 k2 k3 T' rfl X'
    exact ⟨t2, st t2 a1, b1⟩
  · obtain ⟨k1, k2, k3⟩ := vx_keep h0 e1 hS hAX hf hL hF
    obtain ⟨t2, a1, b1⟩ := kx E ce q u t T'.heap (locs ++ L) e1.symm (by rw [← e2]; exact X'.warmed.alike) hp hb k1 k2 k3 (by rw [e1]; exact hce) hcv hcl T' rfl X'
    exact ⟨t2, st.trans a1, b1⟩
theorem vx_callFd {S SX : Type} {post : UInt64 → S → Prop} {px : SX → Prop} {B : S → State → Prop} {BX : String → SX → State → Prop} {AX : Nat → Prop} (hr : vx_Run5 p l e R s m args below meth c H locs cells slots mc ms (F0 m pc ls st0) rest (va_Qd post B A1 a) (vx_X px BX AX) free) (hS : va_S A0 H0 H locs) (hA : ∀ q, q < H.size → A1 q → A0 q) (hf : ∀ q, free q → A0 q) (hAX : ∀ q, q < H.size → AX q → A0 q)
    (kx : ∀ (E : String) (ce : Cell) (q9 : Addr) (u : SX) (t : State) (H1 : Heap) (locs1 : List Loc), t.heap = H1 → s.vm.Alike t.vm → px u → BX E u t → H.size ≤ H1.size → (∀ q : Nat, q < H.size → ¬ AX q → H1[q]? = H[q]?) → va_S A0 H0 H1 locs1 → H1[q9]? = some ce → ce.vm = .none → s.vm.findClass E = some ce.cls → vx_W p l e R s m args below meth c H1 locs1 (cells + mc) (slots + ms) Q (F0 m pc ls rest) q9)
    (kk : ∀ (r : UInt64) (u : S) (t : State) (H1 : Heap) (locs1 : List Loc), t.heap = H1 → s.vm.Alike t.vm → post r u → B u t → H.size ≤ H1.size → (∀ q : Nat, q < H.size → ¬ A1 q → H1[q]? = H[q]?) → va_S A0 H0 H1 locs1 → W p l e R s m args below meth c H1 locs1 (cells + mc) (slots + ms) Q (F0 m (pc + 5) ls (.double r :: rest))) : W p l e R s m args below meth c H locs cells slots Q (F0 m pc ls st0) := by
  intro T hT X
  rcases hr T hT X with ⟨v, st₀, t, T', L, h0, X', hL, e1, e2, ⟨⟨r, u, hv, hp, hb⟩, hF⟩, st⟩ | ⟨q, st₀, t, T', L, E, ce, h0, X', hL, e1, e2, ⟨u, hp, hb, hF⟩, hce, hcv, hcl, st⟩
  · cases hv
    obtain ⟨k1, k2, k3⟩ := vx_keep h0 e1 hS hA hf hL hF
    obtain ⟨t2, a1, b1⟩ := kk r u t T'.heap (locs ++ L) e1.symm (by rw [← e2]; exact X'.warmed.alike) hp hb k1 k2 k3 T' rfl X'
    exact ⟨t2, st t2 a1, b1⟩
  · obtain ⟨k1, k2, k3⟩ := vx_keep h0 e1 hS hAX hf hL hF
    obtain ⟨t2, a1, b1⟩ := kx E ce q u t T'.heap (locs ++ L) e1.symm (by rw [← e2]; exact X'.warmed.alike) hp hb k1 k2 k3 (by rw [e1]; exact hce) hcv hcl T' rfl X'
    exact ⟨t2, st.trans a1, b1⟩
end
/-! ===== END ===== -/
/-! ===== BEGIN by an interface, a method with a table of its own that may throw (follows va_callIFW, va_runFW) ===== -/
section
variable {p : Program} {l : Launch} {e : Env} {R : Room} {s : State} {m : MethodId} {args : Array Value} {below : List Frame} {meth : Method} {c : Code} {H : Heap} {locs : List Loc} {cells slots : Nat}
theorem vx_callIFW {T : State} (X : Stand p l e R s m args below meth c T locs cells slots) (hexec : p.tables.exec = Jvm.exec) {own C : String} {index count : Nat} {x y : MethodName} {bytes : ByteArray} {maxL : Nat} {ret : Option FieldType} {hh : List (Nat × Nat × Nat × Nat)}
    (hown : s.vm.findClass own = some m.cls) (hlink : (Cond.methodLink own index x).before args s = true) (hdecl : (Cond.declares x).before args s = true) (hface : (Cond.interfaceMethod x.cls x.cls x.name x.desc).before args s = true)
    (hsel : (Cond.selects C x y).before args s = true) (hinst : (Cond.instanceMethod y).before args s = true) (hpub : (Cond.publicMethod y).before args s = true) (hunh : (Cond.unhidden C x.name x.desc).before args s = true)
    (hcast : (Cond.castable C x.cls).before args s = true) (hcode : (Cond.codeWith y bytes maxL ret hh).before args s = true) (hx : x.cls ≠ "java/lang/invoke/MethodHandle" ∧ x.cls ≠ "java/lang/invoke/VarHandle")
    {W : Nat} {Pre : Pt → Array Value → Prop} {Post : Pt → Array Value → Option Value → Pt → Prop} {PostX : Pt → Array Value → Addr → Pt → Prop} (hK : vx_Back l R p e below s args y 5 W Pre Post PostX)
    {b : Addr} {cellB : Cell} {kB : Class} (hcell : T.heap[b]? = some cellB) (hobj : cellB.vm.isStatics = false) (hcls : s.vm.findClass C = some cellB.cls) (hkB : s.vm.classes[cellB.cls]? = some kB)
    {g : JFrame} (hg : g.method = m) (hsize : g.locals.size = c.maxLocals) {argsL rest : List Value} (hlen : ∀ sig, parseMethodDescriptor x.desc = some sig → argsL.length = sig.parameters.length)
    (hstack : g.stack = argsL.reverse ++ .ref b :: rest) (hW : 2 * g.monitorRoom + (rest.map fun v => v.category).sum ≤ W) (hdg : decode c.code g.pc = .ok (.invokeinterface index count, 5))
    (hpre : ∀ vm₁, s.WarmedH vm₁ → Pre ⟨T.setVm vm₁, locs, cells, slots⟩ (Value.ref b :: argsL).toArray) :
    (∃ (v : Option Value) (vm₁ : Vm) (B : Pt), s.WarmedH vm₁ ∧ Stand p l e R s m args below meth c B.U B.locs B.cells B.slots ∧ Post ⟨T.setVm vm₁, locs, cells, slots⟩ (Value.ref b :: argsL).toArray v B ∧
      ∀ target, Steps p.tables e below (B.U.setTop { g with pc := g.pc + 5, stack := v.toList ++ rest }) target → Steps p.tables e below (T.setTop g) target) ∨
    (∃ (q : Addr) (vm₁ : Vm) (B : Pt), s.WarmedH vm₁ ∧ Stand p l e R s m args below meth c B.U B.locs B.cells B.slots ∧ PostX ⟨T.setVm vm₁, locs, cells, slots⟩ (Value.ref b :: argsL).toArray q B ∧
      Steps p.tables e below (T.setTop g) ((B.U.setTop { g with stack := rest }).pushFrame (.throwing q))) := by
  obtain ⟨r0, r, hn, hrm, hstR, hsigR⟩ := Cond.declares_spec hdecl
  obtain ⟨cL, kL, r1, hcL, hkL, hiL, hfoundL, hn1⟩ := Cond.interfaceMethod_spec hface
  cases hn.symm.trans hn1
  have hr0cls : r0.cls = cL := Option.some.inj ((findClass_of_methodNamed hn).symm.trans hcL)
  obtain ⟨hnameR, hdescR⟩ := name_of_methodNamed hn hrm
  obtain ⟨mk, methM, hnamed, hmethM, -, habM⟩ := Cond.instanceMethod_spec hinst
  obtain ⟨c2, r2, m2, q1, q2, q3, q4, -⟩ := Cond.selects_spec hsel
  cases hcls.symm.trans q1
  cases hfoundL.symm.trans q2
  cases hnamed.symm.trans q3
  have hselP : selectMethod e.platform s.vm cellB.cls r0 = .method mk := by rw [Launch.admits_selectMethod X.admits]; exact q4
  have hpubM : hasFlag methM.accessFlags Acc.public_ = true := Cond.publicMethod_spec hnamed hmethM hpub
  have hway : ((cellB.cls :: s.vm.superclasses cellB.cls).any fun k => (declaredIn s.vm r.name r.desc k).any fun (_, z) => z.isPrivate || z.isStatic) = false := by
    rw [hnameR, hdescR]; exact Cond.unhidden_spec hcls hunh
  obtain ⟨c3, t3, w1, w2, w3⟩ := Cond.castable_spec hcast
  cases hcls.symm.trans w1
  cases hcL.symm.trans w2
  obtain ⟨vm₁, X₁, hstep₁⟩ := X.invokeinterface hexec hown hlink hn hrm hstR (by rw [hr0cls]; exact hkL) hiL hx (a := b) (cell := cellB) (kcell := kB) hcell
    (fun z h => by rw [h] at hobj; cases hobj) hkB (by rw [hr0cls]; exact w3) hselP hmethM hway hpubM habM (g := g) hg (argsL := argsL) (rest := rest) (hlen _ hsigR) hstack hdg
  rcases hK m meth c ⟨T.setVm vm₁, locs, cells, slots⟩ { g with stack := rest } (.invokeinterface index count) mk (Value.ref b :: argsL).toArray X₁ hg hsize hdg hW (X₁.named hnamed) (hpre vm₁ X₁.warmed) with ⟨v, B, X', hpost, hsteps⟩ | ⟨q, B, X', hpost, hsteps⟩
  · exact Or.inl ⟨v, vm₁, B, X₁.warmed, X', hpost, fun target h => hstep₁ _ fun acts => by rw [doInvoke_state]; exact hsteps.trans h⟩
  · exact Or.inr ⟨q, vm₁, B, X₁.warmed, X', hpost, hstep₁ _ fun acts => by rw [doInvoke_state]; exact hsteps⟩
theorem vx_runFW {x y : MethodName} {bytes cc : ByteArray} {maxL nL mc ms n index count : Nat} {ret : Option FieldType} {hh : List (Nat × Nat × Nat × Nat)} {ws : List Cond} {rm : Room} {Pc : Array Value → State → Prop} {Qc : Array Value → State → Outcome → State → Prop} {XC : String → State → State → Prop} {free : Addr → Prop} {Ts : List Cond} {own C : String} {cC : ClassId} {b : Addr} {As rest : List Value} {g : JFrame}
    (hat : ClassAt s C cC) (S : CallFix p m c cc nL s args Ts own) (hM : vx_Met l y ws rm Pc Qc XC mc ms free) (cw : va_CIW R s args own C index x y bytes maxL ret hh ws rm mc ms n) (hp : PreV s H C b Pc As)
    (hg : g.method = m) (hn : As.length = n) (hsize : g.locals.size = nL) (hstack : g.stack = As.reverse ++ .ref b :: rest) (hW : 2 * g.monitorRoom + (rest.map fun v => v.category).sum ≤ 8) (hdg : decode cc g.pc = .ok (.invokeinterface index count, 5)) (hf : cells + mc ≤ R.cells ∧ slots + ms ≤ R.slots) :
    vx_Run5 p l e R s m args below meth c H locs cells slots mc ms g rest (Qc (Value.ref b :: As).toArray) XC free := by
  obtain ⟨hrc, hrs, hfr, hlo, hws, hcw⟩ := cw.back
  have hini := cw.init
  have hK : vx_Back l R p e below s args y 5 8 (PreOf R mc ms Pc) (PostOf Qc mc ms free) (vx_Post XC mc ms free) := vx_backW (hh := hh) (bytes := bytes) (maxL := maxL) (ret := ret) hM hp.1 hrc hrs hfr hlo hws hcw (fun a' U hW => word_at hW (Or.inl (by first | rfl | simp [Cond.onTables, Cond.keeps, Cond.steady])) hini)
  obtain ⟨hx, hb, hml, ho, -⟩ := S
  obtain ⟨-, ⟨cellB, hcB, hoB, hclB⟩, hPc⟩ := hp
  obtain ⟨hfc, kB, hkB, -⟩ := hat
  cases hfc.symm.trans hclB
  intro T hT X
  rcases vx_callIFW X hx (C := C) (hh := hh) (bytes := bytes) (maxL := maxL) (ret := ret) ho cw.link cw.decl cw.face cw.sel cw.inst cw.pub cw.unh cw.cast cw.code cw.notMH hK (by rw [hT]; exact hcB) hoB hclB hkB hg (hsize.trans hml.symm) (argsL := As) (rest := rest) (fun sig h => hn.trans (cw.len sig h)) hstack hW (by rw [hb]; exact hdg)
    (fun vm₁ hW₁ => ⟨hf.1, hf.2, hPc (T.setVm vm₁) hT hW₁⟩) with ⟨v, vm₁, ⟨U', l2, c2, s2⟩, hW₁, X', ⟨g', mk, t, L, e1, e2, hq, h1, hL, h2, h3⟩, st⟩ | ⟨q, vm₁, ⟨U', l2, c2, s2⟩, hW₁, X', ⟨g', mk, t, L, E, ce, e1, e2, hq, hce, hcv, hcl, h1, hL, h2, h3⟩, st⟩
  · dsimp only [Pt.U, Pt.locs, Pt.cells, Pt.slots] at X' e1 e2 h1 h2 h3 st
    subst h1; subst h2; subst h3
    exact Or.inl ⟨v, (T.setVm vm₁).calling g' mk (Value.ref b :: As).toArray, t, U', L, hT, X', hL, e1, e2, hq, st⟩
  · dsimp only [Pt.U, Pt.locs, Pt.cells, Pt.slots] at X' e1 e2 h1 h2 h3 st hcl
    subst h1; subst h2; subst h3
    exact Or.inr ⟨q, (T.setVm vm₁).calling g' mk (Value.ref b :: As).toArray, t, U', L, E, ce, hT, X', hL, e1, e2, hq, hce, hcv, vx_cls hW₁ hcl, st⟩
end
/-! ===== END ===== -/
/-! ===== BEGIN .. of methods that hand back an object of the pool ===== -/
section
variable {p : Program} {l : Launch} {e : Env} {R : Room} {s : State} {m : MethodId} {args : Array Value} {below : List Frame} {meth : Method} {c : Code} {H : Heap} {locs : List Loc} {cells slots : Nat} {Q : State → Prop}
variable {mc ms : Nat} {free : Addr → Prop} {A0 A1 : Nat → Prop} {H0 : Heap} {a : Array Value} {pc : Nat} {ls : Array Slot} {st0 rest : List Value}
theorem vx_callq {S SX : Type} {post : Option Nat → S → Prop} {px : SX → Prop} {B : S → State → Prop} {BX : String → SX → State → Prop} {AX : Nat → Prop} (hr : vx_Run p l e R s m args below meth c H locs cells slots mc ms (F0 m pc ls st0) rest (va_Qq post B A1 a) (vx_X px BX AX) free) (hS : va_S A0 H0 H locs) (hA : ∀ q, q < H.size → A1 q → A0 q) (hf : ∀ q, free q → A0 q) (hAX : ∀ q, q < H.size → AX q → A0 q)
    (kx : ∀ (E : String) (ce : Cell) (q9 : Addr) (u : SX) (t : State) (H1 : Heap) (locs1 : List Loc), t.heap = H1 → s.vm.Alike t.vm → px u → BX E u t → H.size ≤ H1.size → (∀ q : Nat, q < H.size → ¬ AX q → H1[q]? = H[q]?) → va_S A0 H0 H1 locs1 → H1[q9]? = some ce → ce.vm = .none → s.vm.findClass E = some ce.cls → vx_W p l e R s m args below meth c H1 locs1 (cells + mc) (slots + ms) Q (F0 m pc ls rest) q9)
    (kk : ∀ (r : Option Nat) (u : S) (t : State) (H1 : Heap) (locs1 : List Loc), t.heap = H1 → s.vm.Alike t.vm → post r u → B u t → H.size ≤ H1.size → (∀ q : Nat, q < H.size → ¬ A1 q → H1[q]? = H[q]?) → va_S A0 H0 H1 locs1 → W p l e R s m args below meth c H1 locs1 (cells + mc) (slots + ms) Q (F0 m (pc + 3) ls (va_rf r :: rest))) : W p l e R s m args below meth c H locs cells slots Q (F0 m pc ls st0) := by
  intro T hT X
  rcases hr T hT X with ⟨v, st₀, t, T', L, h0, X', hL, e1, e2, ⟨⟨r, u, hv, hp, hb⟩, hF⟩, st⟩ | ⟨q, st₀, t, T', L, E, ce, h0, X', hL, e1, e2, ⟨u, hp, hb, hF⟩, hce, hcv, hcl, st⟩
  · cases hv
    obtain ⟨k1, k2, k3⟩ := vx_keep h0 e1 hS hA hf hL hF
    obtain ⟨t2, a1, b1⟩ := kk r u t T'.heap (locs ++ L) e1.symm (by rw [← e2]; exact X'.warmed.alike) hp hb k1 k2 k3 T' rfl X'
    exact ⟨t2, st t2 a1, b1⟩
  · obtain ⟨k1, k2, k3⟩ := vx_keep h0 e1 hS hAX hf hL hF
    obtain ⟨t2, a1, b1⟩ := kx E ce q u t T'.heap (locs ++ L) e1.symm (by rw [← e2]; exact X'.warmed.alike) hp hb k1 k2 k3 (by rw [e1]; exact hce) hcv hcl T' rfl X'
    exact ⟨t2, st.trans a1, b1⟩
end
/-! ===== END ===== -/
/-! ===== BEGIN .. a constant ===== -/
section
variable {p : Program} {l : Launch} {e : Env} {R : Room} {s : State} {m : MethodId} {args : Array Value} {below : List Frame} {meth : Method} {c : Code} {H : Heap} {locs : List Loc} {cells slots : Nat} {Q : State → Prop}
variable {mc ms : Nat} {free : Addr → Prop} {A0 A1 : Nat → Prop} {H0 : Heap} {a : Array Value} {pc : Nat} {ls : Array Slot} {st0 rest : List Value}
theorem vx_calle {ad : Nat → Nat} {S SX : Type} {post : Option Nat → S → Prop} {px : SX → Prop} {B : S → State → Prop} {BX : String → SX → State → Prop} {AX : Nat → Prop} (hr : vx_Run p l e R s m args below meth c H locs cells slots mc ms (F0 m pc ls st0) rest (va_Qe ad post B A1 a) (vx_X px BX AX) free) (hS : va_S A0 H0 H locs) (hA : ∀ q, q < H.size → A1 q → A0 q) (hf : ∀ q, free q → A0 q) (hAX : ∀ q, q < H.size → AX q → A0 q)
    (kx : ∀ (E : String) (ce : Cell) (q9 : Addr) (u : SX) (t : State) (H1 : Heap) (locs1 : List Loc), t.heap = H1 → s.vm.Alike t.vm → px u → BX E u t → H.size ≤ H1.size → (∀ q : Nat, q < H.size → ¬ AX q → H1[q]? = H[q]?) → va_S A0 H0 H1 locs1 → H1[q9]? = some ce → ce.vm = .none → s.vm.findClass E = some ce.cls → vx_W p l e R s m args below meth c H1 locs1 (cells + mc) (slots + ms) Q (F0 m pc ls rest) q9)
    (kk : ∀ (r : Option Nat) (u : S) (t : State) (H1 : Heap) (locs1 : List Loc), t.heap = H1 → s.vm.Alike t.vm → post r u → B u t → H.size ≤ H1.size → (∀ q : Nat, q < H.size → ¬ A1 q → H1[q]? = H[q]?) → va_S A0 H0 H1 locs1 → W p l e R s m args below meth c H1 locs1 (cells + mc) (slots + ms) Q (F0 m (pc + 3) ls (va_re ad r :: rest))) : W p l e R s m args below meth c H locs cells slots Q (F0 m pc ls st0) := by
  intro T hT X
  rcases hr T hT X with ⟨v, st₀, t, T', L, h0, X', hL, e1, e2, ⟨⟨r, u, hv, hp, hb⟩, hF⟩, st⟩ | ⟨q, st₀, t, T', L, E, ce, h0, X', hL, e1, e2, ⟨u, hp, hb, hF⟩, hce, hcv, hcl, st⟩
  · cases hv
    obtain ⟨k1, k2, k3⟩ := vx_keep h0 e1 hS hA hf hL hF
    obtain ⟨t2, a1, b1⟩ := kk r u t T'.heap (locs ++ L) e1.symm (by rw [← e2]; exact X'.warmed.alike) hp hb k1 k2 k3 T' rfl X'
    exact ⟨t2, st t2 a1, b1⟩
  · obtain ⟨k1, k2, k3⟩ := vx_keep h0 e1 hS hAX hf hL hF
    obtain ⟨t2, a1, b1⟩ := kx E ce q u t T'.heap (locs ++ L) e1.symm (by rw [← e2]; exact X'.warmed.alike) hp hb k1 k2 k3 (by rw [e1]; exact hce) hcv hcl T' rfl X'
    exact ⟨t2, st.trans a1, b1⟩
end
/-! ===== END ===== -/
/-! ===== BEGIN .. by an interface, an object ===== -/
section
variable {p : Program} {l : Launch} {e : Env} {R : Room} {s : State} {m : MethodId} {args : Array Value} {below : List Frame} {meth : Method} {c : Code} {H : Heap} {locs : List Loc} {cells slots : Nat} {Q : State → Prop}
variable {mc ms : Nat} {free : Addr → Prop} {A0 A1 : Nat → Prop} {H0 : Heap} {a : Array Value} {pc : Nat} {ls : Array Slot} {st0 rest : List Value}
theorem vx_callFq {S SX : Type} {post : Option Nat → S → Prop} {px : SX → Prop} {B : S → State → Prop} {BX : String → SX → State → Prop} {AX : Nat → Prop} (hr : vx_Run5 p l e R s m args below meth c H locs cells slots mc ms (F0 m pc ls st0) rest (va_Qq post B A1 a) (vx_X px BX AX) free) (hS : va_S A0 H0 H locs) (hA : ∀ q, q < H.size → A1 q → A0 q) (hf : ∀ q, free q → A0 q) (hAX : ∀ q, q < H.size → AX q → A0 q)
    (kx : ∀ (E : String) (ce : Cell) (q9 : Addr) (u : SX) (t : State) (H1 : Heap) (locs1 : List Loc), t.heap = H1 → s.vm.Alike t.vm → px u → BX E u t → H.size ≤ H1.size → (∀ q : Nat, q < H.size → ¬ AX q → H1[q]? = H[q]?) → va_S A0 H0 H1 locs1 → H1[q9]? = some ce → ce.vm = .none → s.vm.findClass E = some ce.cls → vx_W p l e R s m args below meth c H1 locs1 (cells + mc) (slots + ms) Q (F0 m pc ls rest) q9)
    (kk : ∀ (r : Option Nat) (u : S) (t : State) (H1 : Heap) (locs1 : List Loc), t.heap = H1 → s.vm.Alike t.vm → post r u → B u t → H.size ≤ H1.size → (∀ q : Nat, q < H.size → ¬ A1 q → H1[q]? = H[q]?) → va_S A0 H0 H1 locs1 → W p l e R s m args below meth c H1 locs1 (cells + mc) (slots + ms) Q (F0 m (pc + 5) ls (va_rf r :: rest))) : W p l e R s m args below meth c H locs cells slots Q (F0 m pc ls st0) := by
  intro T hT X
  rcases hr T hT X with ⟨v, st₀, t, T', L, h0, X', hL, e1, e2, ⟨⟨r, u, hv, hp, hb⟩, hF⟩, st⟩ | ⟨q, st₀, t, T', L, E, ce, h0, X', hL, e1, e2, ⟨u, hp, hb, hF⟩, hce, hcv, hcl, st⟩
  · cases hv
    obtain ⟨k1, k2, k3⟩ := vx_keep h0 e1 hS hA hf hL hF
    obtain ⟨t2, a1, b1⟩ := kk r u t T'.heap (locs ++ L) e1.symm (by rw [← e2]; exact X'.warmed.alike) hp hb k1 k2 k3 T' rfl X'
    exact ⟨t2, st t2 a1, b1⟩
  · obtain ⟨k1, k2, k3⟩ := vx_keep h0 e1 hS hAX hf hL hF
    obtain ⟨t2, a1, b1⟩ := kx E ce q u t T'.heap (locs ++ L) e1.symm (by rw [← e2]; exact X'.warmed.alike) hp hb k1 k2 k3 (by rw [e1]; exact hce) hcv hcl T' rfl X'
    exact ⟨t2, st.trans a1, b1⟩
end
/-! ===== END ===== -/
/-! ===== BEGIN .. by an interface, a constant ===== -/
section
variable {p : Program} {l : Launch} {e : Env} {R : Room} {s : State} {m : MethodId} {args : Array Value} {below : List Frame} {meth : Method} {c : Code} {H : Heap} {locs : List Loc} {cells slots : Nat} {Q : State → Prop}
variable {mc ms : Nat} {free : Addr → Prop} {A0 A1 : Nat → Prop} {H0 : Heap} {a : Array Value} {pc : Nat} {ls : Array Slot} {st0 rest : List Value}
theorem vx_callFe {ad : Nat → Nat} {S SX : Type} {post : Option Nat → S → Prop} {px : SX → Prop} {B : S → State → Prop} {BX : String → SX → State → Prop} {AX : Nat → Prop} (hr : vx_Run5 p l e R s m args below meth c H locs cells slots mc ms (F0 m pc ls st0) rest (va_Qe ad post B A1 a) (vx_X px BX AX) free) (hS : va_S A0 H0 H locs) (hA : ∀ q, q < H.size → A1 q → A0 q) (hf : ∀ q, free q → A0 q) (hAX : ∀ q, q < H.size → AX q → A0 q)
    (kx : ∀ (E : String) (ce : Cell) (q9 : Addr) (u : SX) (t : State) (H1 : Heap) (locs1 : List Loc), t.heap = H1 → s.vm.Alike t.vm → px u → BX E u t → H.size ≤ H1.size → (∀ q : Nat, q < H.size → ¬ AX q → H1[q]? = H[q]?) → va_S A0 H0 H1 locs1 → H1[q9]? = some ce → ce.vm = .none → s.vm.findClass E = some ce.cls → vx_W p l e R s m args below meth c H1 locs1 (cells + mc) (slots + ms) Q (F0 m pc ls rest) q9)
    (kk : ∀ (r : Option Nat) (u : S) (t : State) (H1 : Heap) (locs1 : List Loc), t.heap = H1 → s.vm.Alike t.vm → post r u → B u t → H.size ≤ H1.size → (∀ q : Nat, q < H.size → ¬ A1 q → H1[q]? = H[q]?) → va_S A0 H0 H1 locs1 → W p l e R s m args below meth c H1 locs1 (cells + mc) (slots + ms) Q (F0 m (pc + 5) ls (va_re ad r :: rest))) : W p l e R s m args below meth c H locs cells slots Q (F0 m pc ls st0) := by
  intro T hT X
  rcases hr T hT X with ⟨v, st₀, t, T', L, h0, X', hL, e1, e2, ⟨⟨r, u, hv, hp, hb⟩, hF⟩, st⟩ | ⟨q, st₀, t, T', L, E, ce, h0, X', hL, e1, e2, ⟨u, hp, hb, hF⟩, hce, hcv, hcl, st⟩
  · cases hv
    obtain ⟨k1, k2, k3⟩ := vx_keep h0 e1 hS hA hf hL hF
    obtain ⟨t2, a1, b1⟩ := kk r u t T'.heap (locs ++ L) e1.symm (by rw [← e2]; exact X'.warmed.alike) hp hb k1 k2 k3 T' rfl X'
    exact ⟨t2, st t2 a1, b1⟩
  · obtain ⟨k1, k2, k3⟩ := vx_keep h0 e1 hS hAX hf hL hF
    obtain ⟨t2, a1, b1⟩ := kx E ce q u t T'.heap (locs ++ L) e1.symm (by rw [← e2]; exact X'.warmed.alike) hp hb k1 k2 k3 (by rw [e1]; exact hce) hcv hcl T' rfl X'
    exact ⟨t2, st.trans a1, b1⟩
end
/-! ===== END ===== -/
/-! ===== BEGIN what the machine throws by itself: null at a field, at athrow ===== -/
section VXM2
variable {p : Program} {l : Launch} {e : Env} {R : Room} {s : State} {m : MethodId} {args : Array Value} {below : List Frame} {meth : Method} {c : Code} {H : Heap} {locs : List Loc} {cells slots : Nat}
variable {Q : State → Prop} {cc : ByteArray} {pc : Nat} {ls : Array Slot} {rest : List Value}
theorem vx_getfN {D cl tys} {own ref C : String} {T : u_T} {N ci index : Nat} {Ts : List Cond} (hexec : p.tables.exec = Jvm.exec) (hb : c.code = cc) (hts : ∀ w ∈ Ts, w.before args s = true) (hin : ∀ w ∈ u_ws C T N, w ∈ Ts) (hown : s.vm.findClass own = some m.cls) (hK : va_K D cl tys s) (hc : cl[ci]? = some (C, T, N)) (k : Nat) (hk : k < N) (hlink : (Cond.fieldLink own index ref (T k).2.1 (T k).2.2.1).before args s = true) (hsame : ∀ x, s.fieldFound? (T k).1 (T k).2.1 (T k).2.2.1 = some x → s.fieldFound? ref (T k).2.1 (T k).2.2.1 = some x) (hdg : decode cc pc = .ok (.getfield index, 3)) (kk : vx_NoteN p l e R s m args below meth c H locs cells slots Q (F0 m pc ls rest)) : W p l e R s m args below meth c H locs cells slots Q (F0 m pc ls (.null :: rest)) := by
  obtain ⟨hS, hfc, kC, hkC, -⟩ := hK.1 ci _ hc
  obtain ⟨cf, kf, fi, f, hi, -⟩ := hS k hk
  intro U hU X
  obtain ⟨vm', X1, st1⟩ := X.getfieldNull hexec hown hlink (hsame _ hi) (u_facts hfc hkC (u_lays hts hin hk) hi).1 (g := F0 m pc ls (.null :: rest)) rfl (rest := rest) rfl (by rw [hb]; exact hdg)
  obtain ⟨t, st, q⟩ := kk (U.setVm vm') hU X1
  exact ⟨t, st1 t st, q⟩
theorem vx_getfNN {D cl tys} {own ref C host : String} {T : u_T} {N ci index : Nat} {Ts : List Cond} (hexec : p.tables.exec = Jvm.exec) (hb : c.code = cc) (hts : ∀ w ∈ Ts, w.before args s = true) (hin : ∀ w ∈ u_ws C T N, w ∈ Ts) (hown : s.vm.findClass own = some m.cls) (hK : va_K D cl tys s) (hc : cl[ci]? = some (C, T, N)) (k : Nat) (hk : k < N) (hlink : (Cond.fieldLinkNest own index ref (T k).2.1 (T k).2.2.1 host).before args s = true) (hsame : ∀ x, s.fieldFound? (T k).1 (T k).2.1 (T k).2.2.1 = some x → s.fieldFound? ref (T k).2.1 (T k).2.2.1 = some x) (hdg : decode cc pc = .ok (.getfield index, 3)) (kk : vx_NoteN p l e R s m args below meth c H locs cells slots Q (F0 m pc ls rest)) : W p l e R s m args below meth c H locs cells slots Q (F0 m pc ls (.null :: rest)) := by
  obtain ⟨hS, hfc, kC, hkC, -⟩ := hK.1 ci _ hc
  obtain ⟨cf, kf, fi, f, hi, -⟩ := hS k hk
  intro U hU X
  obtain ⟨vm', X1, st1⟩ := X.getfieldNullNest hexec hown hlink (hsame _ hi) (u_facts hfc hkC (u_lays hts hin hk) hi).1 (g := F0 m pc ls (.null :: rest)) rfl (rest := rest) rfl (by rw [hb]; exact hdg)
  obtain ⟨t, st, q⟩ := kk (U.setVm vm') hU X1
  exact ⟨t, st1 t st, q⟩
theorem vx_putfN {D cl tys} {own ref C : String} {T : u_T} {N ci index : Nat} {Ts : List Cond} (hexec : p.tables.exec = Jvm.exec) (hb : c.code = cc) (hts : ∀ w ∈ Ts, w.before args s = true) (hin : ∀ w ∈ u_ws C T N, w ∈ Ts) (hown : s.vm.findClass own = some m.cls) (hK : va_K D cl tys s) (hc : cl[ci]? = some (C, T, N)) (k : Nat) (hk : k < N) (hlink : (Cond.fieldLink own index ref (T k).2.1 (T k).2.2.1).before args s = true) (hsame : ∀ x, s.fieldFound? (T k).1 (T k).2.1 (T k).2.2.1 = some x → s.fieldFound? ref (T k).2.1 (T k).2.2.1 = some x) (hfin : (T k).2.2.2 = false) {v : Value} (hdg : decode cc pc = .ok (.putfield index, 3)) (kk : vx_NoteN p l e R s m args below meth c H locs cells slots Q (F0 m pc ls rest)) : W p l e R s m args below meth c H locs cells slots Q (F0 m pc ls (v :: .null :: rest)) := by
  obtain ⟨hS, hfc, kC, hkC, -⟩ := hK.1 ci _ hc
  obtain ⟨cf, kf, fi, f, hi, -⟩ := hS k hk
  have hlay := hts _ (hin _ (u_in_lay hk))
  unfold u_lay at hlay
  rw [if_neg (by rw [hfin]; decide)] at hlay
  obtain ⟨c9, k9, cf9, kf9, fi9, f9, -, -, hi9, hst9, hnf9, -⟩ := Cond.lays_spec hlay
  cases hi.symm.trans hi9
  intro U hU X
  obtain ⟨vm', X1, st1⟩ := X.putfieldNull hexec hown hlink (hsame _ hi) hst9 hnf9 (g := F0 m pc ls (v :: .null :: rest)) rfl (v := v) (rest := rest) rfl (by rw [hb]; exact hdg)
  obtain ⟨t, st, q⟩ := kk (U.setVm vm') hU X1
  exact ⟨t, st1 t st, q⟩
theorem vx_putfNN {D cl tys} {own ref C host : String} {T : u_T} {N ci index : Nat} {Ts : List Cond} (hexec : p.tables.exec = Jvm.exec) (hb : c.code = cc) (hts : ∀ w ∈ Ts, w.before args s = true) (hin : ∀ w ∈ u_ws C T N, w ∈ Ts) (hown : s.vm.findClass own = some m.cls) (hK : va_K D cl tys s) (hc : cl[ci]? = some (C, T, N)) (k : Nat) (hk : k < N) (hlink : (Cond.fieldLinkNest own index ref (T k).2.1 (T k).2.2.1 host).before args s = true) (hsame : ∀ x, s.fieldFound? (T k).1 (T k).2.1 (T k).2.2.1 = some x → s.fieldFound? ref (T k).2.1 (T k).2.2.1 = some x) (hfin : (T k).2.2.2 = false) {v : Value} (hdg : decode cc pc = .ok (.putfield index, 3)) (kk : vx_NoteN p l e R s m args below meth c H locs cells slots Q (F0 m pc ls rest)) : W p l e R s m args below meth c H locs cells slots Q (F0 m pc ls (v :: .null :: rest)) := by
  obtain ⟨hS, hfc, kC, hkC, -⟩ := hK.1 ci _ hc
  obtain ⟨cf, kf, fi, f, hi, -⟩ := hS k hk
  have hlay := hts _ (hin _ (u_in_lay hk))
  unfold u_lay at hlay
  rw [if_neg (by rw [hfin]; decide)] at hlay
  obtain ⟨c9, k9, cf9, kf9, fi9, f9, -, -, hi9, hst9, hnf9, -⟩ := Cond.lays_spec hlay
  cases hi.symm.trans hi9
  intro U hU X
  obtain ⟨vm', X1, st1⟩ := X.putfieldNullNest hexec hown hlink (hsame _ hi) hst9 hnf9 (g := F0 m pc ls (v :: .null :: rest)) rfl (v := v) (rest := rest) rfl (by rw [hb]; exact hdg)
  obtain ⟨t, st, q⟩ := kk (U.setVm vm') hU X1
  exact ⟨t, st1 t st, q⟩
theorem vx_athrowN (hexec : p.tables.exec = Jvm.exec) (hb : c.code = cc) (hdg : decode cc pc = .ok (.athrow, 1)) (k : vx_NoteN p l e R s m args below meth c H locs cells slots Q (F0 m pc ls rest)) : W p l e R s m args below meth c H locs cells slots Q (F0 m pc ls (.null :: rest)) := by
  intro T hT X
  obtain ⟨t, st, q⟩ := k T hT X
  exact ⟨t, X.athrowNull hexec (g := F0 m pc ls (.null :: rest)) rfl (rest := rest) rfl (by rw [hb]; exact hdg) t st, q⟩
end VXM2
/-! ===== END ===== -/
end
section
def RX0 : String := "TwoEndQueues$HeapLayout"
def TX0 : u_T := fun k => match k with
  | 0 => ("TwoEndQueues$Layout", "items", "[I", true)
  | 1 => ("TwoEndQueues$Layout", "length", "I", false)
  | 2 => ("TwoEndQueues$Layout", "counted", "I", false)
  | _ => ("TwoEndQueues$HeapLayout", "forLeast", "Z", true)
def tyX0 : Nat → FieldType := fun k => match k with
  | 0 => .array .int
  | 1 => .int
  | 2 => .int
  | _ => .boolean
abbrev wsX00 : List Cond := u_ws RX0 TX0 4
theorem nmX0 : ∀ a, a < 4 → ∀ b, b < 4 → a ≠ b → (TX0 a).2.1 ≠ (TX0 b).2.1 := by decide +kernel
theorem tyX0_ok : ∀ k, k < 4 → parseFieldDescriptor (TX0 k).2.2.1 = some (tyX0 k) := by decide +kernel
abbrev cX0_init : ByteArray := prog_2_method_1_code
def yX0_init : MethodName := ⟨RX0, "<init>", "(Z)V"⟩
abbrev cX0_handlesAbove : ByteArray := prog_2_method_2_code
def yX0_handlesAbove : MethodName := ⟨RX0, "handlesAbove", "(I)I"⟩
abbrev cX0_down : ByteArray := prog_2_method_3_code
def yX0_down : MethodName := ⟨RX0, "down", "(I)V"⟩
abbrev cX0_enter : ByteArray := prog_2_method_4_code
def yX0_enter : MethodName := ⟨RX0, "enter", "(I)V"⟩
abbrev cX0_settle : ByteArray := prog_2_method_5_code
def yX0_settle : MethodName := ⟨RX0, "settle", "(I)V"⟩
abbrev cX0_settleAll : ByteArray := prog_2_method_6_code
def yX0_settleAll : MethodName := ⟨RX0, "settleAll", "()V"⟩
abbrev cX0_brokenPairs : ByteArray := prog_2_method_7_code
def yX0_brokenPairs : MethodName := ⟨RX0, "brokenPairs", "()I"⟩
def RX1 : String := "TwoEndQueues$History"
def TX1 : u_T := fun k => match k with
  | 0 => ("TwoEndQueues$History", "ring", "[LTwoEndQueues$Queues;", true)
  | 1 => ("TwoEndQueues$History", "next", "I", false)
  | _ => ("TwoEndQueues$History", "kept", "I", false)
def tyX1 : Nat → FieldType := fun k => match k with
  | 0 => .array (.object "TwoEndQueues$Queues")
  | 1 => .int
  | _ => .int
abbrev wsX10 : List Cond := u_ws RX1 TX1 3
theorem nmX1 : ∀ a, a < 3 → ∀ b, b < 3 → a ≠ b → (TX1 a).2.1 ≠ (TX1 b).2.1 := by decide +kernel
theorem tyX1_ok : ∀ k, k < 3 → parseFieldDescriptor (TX1 k).2.2.1 = some (tyX1 k) := by decide +kernel
abbrev cX1_init : ByteArray := prog_3_method_1_code
def yX1_init : MethodName := ⟨RX1, "<init>", "()V"⟩
abbrev cX1_keep : ByteArray := prog_3_method_2_code
def yX1_keep : MethodName := ⟨RX1, "keep", "(LTwoEndQueues$Queues;)V"⟩
abbrev cX1_restore : ByteArray := prog_3_method_3_code
def yX1_restore : MethodName := ⟨RX1, "restore", "(LTwoEndQueues$Queues;)V"⟩
def RX2 : String := "TwoEndQueues$IntervalLayout"
def TX2 : u_T := fun k => match k with
  | 0 => ("TwoEndQueues$Layout", "items", "[I", true)
  | 1 => ("TwoEndQueues$Layout", "length", "I", false)
  | _ => ("TwoEndQueues$Layout", "counted", "I", false)
def tyX2 : Nat → FieldType := fun k => match k with
  | 0 => .array .int
  | 1 => .int
  | _ => .int
abbrev wsX20 : List Cond := u_ws RX2 TX2 3
theorem nmX2 : ∀ a, a < 3 → ∀ b, b < 3 → a ≠ b → (TX2 a).2.1 ≠ (TX2 b).2.1 := by decide +kernel
theorem tyX2_ok : ∀ k, k < 3 → parseFieldDescriptor (TX2 k).2.2.1 = some (tyX2 k) := by decide +kernel
abbrev cX2_init : ByteArray := prog_4_method_1_code
def yX2_init : MethodName := ⟨RX2, "<init>", "()V"⟩
abbrev cX2_low : ByteArray := prog_4_method_2_code
def yX2_low : MethodName := ⟨RX2, "low", "(I)I"⟩
abbrev cX2_high : ByteArray := prog_4_method_3_code
def yX2_high : MethodName := ⟨RX2, "high", "(I)I"⟩
abbrev cX2_top : ByteArray := prog_4_method_4_code
def yX2_top : MethodName := ⟨RX2, "top", "(I)I"⟩
abbrev cX2_greatestPosition : ByteArray := prog_4_method_5_code
def yX2_greatestPosition : MethodName := ⟨RX2, "greatestPosition", "()I"⟩
abbrev cX2_order : ByteArray := prog_4_method_6_code
def yX2_order : MethodName := ⟨RX2, "order", "(I)V"⟩
abbrev cX2_riseLow : ByteArray := prog_4_method_7_code
def yX2_riseLow : MethodName := ⟨RX2, "riseLow", "(I)V"⟩
abbrev cX2_riseHigh : ByteArray := prog_4_method_8_code
def yX2_riseHigh : MethodName := ⟨RX2, "riseHigh", "(II)V"⟩
abbrev cX2_sinkLow : ByteArray := prog_4_method_9_code
def yX2_sinkLow : MethodName := ⟨RX2, "sinkLow", "(I)V"⟩
abbrev cX2_sinkHigh : ByteArray := prog_4_method_10_code
def yX2_sinkHigh : MethodName := ⟨RX2, "sinkHigh", "(I)V"⟩
abbrev cX2_enter : ByteArray := prog_4_method_11_code
def yX2_enter : MethodName := ⟨RX2, "enter", "(I)V"⟩
abbrev cX2_settle : ByteArray := prog_4_method_12_code
def yX2_settle : MethodName := ⟨RX2, "settle", "(I)V"⟩
abbrev cX2_settleAll : ByteArray := prog_4_method_13_code
def yX2_settleAll : MethodName := ⟨RX2, "settleAll", "()V"⟩
abbrev cX2_brokenPairs : ByteArray := prog_4_method_14_code
def yX2_brokenPairs : MethodName := ⟨RX2, "brokenPairs", "()I"⟩
def RX3 : String := "TwoEndQueues$Layout"
def TX3 : u_T := fun k => match k with
  | _ => ("", "", "", false)
def tyX3 : Nat → FieldType := fun k => match k with
  | _ => .int
abbrev wsX30 : List Cond := u_ws RX3 TX3 0
theorem nmX3 : ∀ a, a < 0 → ∀ b, b < 0 → a ≠ b → (TX3 a).2.1 ≠ (TX3 b).2.1 := by decide +kernel
theorem tyX3_ok : ∀ k, k < 0 → parseFieldDescriptor (TX3 k).2.2.1 = some (tyX3 k) := by decide +kernel
abbrev cX3_init : ByteArray := prog_5_method_1_code
def yX3_init : MethodName := ⟨RX3, "<init>", "()V"⟩
abbrev cX3_parentOf : ByteArray := prog_5_method_6_code
def yX3_parentOf : MethodName := ⟨RX3, "parentOf", "(I)I"⟩
abbrev cX3_isPosition : ByteArray := prog_5_method_7_code
def yX3_isPosition : MethodName := ⟨RX3, "isPosition", "(I)Z"⟩
abbrev cX3_itemAt : ByteArray := prog_5_method_8_code
def yX3_itemAt : MethodName := ⟨RX3, "itemAt", "(I)I"⟩
abbrev cX3_handleAt : ByteArray := prog_5_method_9_code
def yX3_handleAt : MethodName := ⟨RX3, "handleAt", "(I)I"⟩
abbrev cX3_keyAt : ByteArray := prog_5_method_10_code
def yX3_keyAt : MethodName := ⟨RX3, "keyAt", "(I)I"⟩
abbrev cX3_find : ByteArray := prog_5_method_11_code
def yX3_find : MethodName := ⟨RX3, "find", "(I)I"⟩
abbrev cX3_ahead : ByteArray := prog_5_method_12_code
def yX3_ahead : MethodName := ⟨RX3, "ahead", "(IIZ)Z"⟩
abbrev cX3_exchange : ByteArray := prog_5_method_13_code
def yX3_exchange : MethodName := ⟨RX3, "exchange", "(II)V"⟩
abbrev cX3_putIn : ByteArray := prog_5_method_14_code
def yX3_putIn : MethodName := ⟨RX3, "putIn", "(II)V"⟩
abbrev cX3_takeOut : ByteArray := prog_5_method_15_code
def yX3_takeOut : MethodName := ⟨RX3, "takeOut", "(I)V"⟩
abbrev cX3_giveKey : ByteArray := prog_5_method_16_code
def yX3_giveKey : MethodName := ⟨RX3, "giveKey", "(II)V"⟩
abbrev cX3_arrange : ByteArray := prog_5_method_17_code
def yX3_arrange : MethodName := ⟨RX3, "arrange", "()V"⟩
abbrev cX3_lineUp : ByteArray := prog_5_method_18_code
def yX3_lineUp : MethodName := ⟨RX3, "lineUp", "()V"⟩
abbrev cX3_copyFrom : ByteArray := prog_5_method_19_code
def yX3_copyFrom : MethodName := ⟨RX3, "copyFrom", "(LTwoEndQueues$Layout;)V"⟩
def RX4 : String := "TwoEndQueues$LevelLayout"
def TX4 : u_T := fun k => match k with
  | 0 => ("TwoEndQueues$Layout", "items", "[I", true)
  | 1 => ("TwoEndQueues$Layout", "length", "I", false)
  | _ => ("TwoEndQueues$Layout", "counted", "I", false)
def tyX4 : Nat → FieldType := fun k => match k with
  | 0 => .array .int
  | 1 => .int
  | _ => .int
abbrev wsX40 : List Cond := u_ws RX4 TX4 3
theorem nmX4 : ∀ a, a < 3 → ∀ b, b < 3 → a ≠ b → (TX4 a).2.1 ≠ (TX4 b).2.1 := by decide +kernel
theorem tyX4_ok : ∀ k, k < 3 → parseFieldDescriptor (TX4 k).2.2.1 = some (tyX4 k) := by decide +kernel
abbrev cX4_init : ByteArray := prog_6_method_1_code
def yX4_init : MethodName := ⟨RX4, "<init>", "()V"⟩
abbrev cX4_levelOf : ByteArray := prog_6_method_2_code
def yX4_levelOf : MethodName := ⟨RX4, "levelOf", "(I)I"⟩
abbrev cX4_isLow : ByteArray := prog_6_method_3_code
def yX4_isLow : MethodName := ⟨RX4, "isLow", "(I)Z"⟩
abbrev cX4_greatestPosition : ByteArray := prog_6_method_4_code
def yX4_greatestPosition : MethodName := ⟨RX4, "greatestPosition", "()I"⟩
abbrev cX4_countFindingGreatest : ByteArray := prog_6_method_5_code
def yX4_countFindingGreatest : MethodName := ⟨RX4, "countFindingGreatest", "()V"⟩
abbrev cX4_rise : ByteArray := prog_6_method_6_code
def yX4_rise : MethodName := ⟨RX4, "rise", "(IZ)V"⟩
abbrev cX4_foremostBelow : ByteArray := prog_6_method_7_code
def yX4_foremostBelow : MethodName := ⟨RX4, "foremostBelow", "(IZ)I"⟩
abbrev cX4_sink : ByteArray := prog_6_method_8_code
def yX4_sink : MethodName := ⟨RX4, "sink", "(I)V"⟩
abbrev cX4_enter : ByteArray := prog_6_method_9_code
def yX4_enter : MethodName := ⟨RX4, "enter", "(I)V"⟩
abbrev cX4_settle : ByteArray := prog_6_method_10_code
def yX4_settle : MethodName := ⟨RX4, "settle", "(I)V"⟩
abbrev cX4_settleAll : ByteArray := prog_6_method_11_code
def yX4_settleAll : MethodName := ⟨RX4, "settleAll", "()V"⟩
abbrev cX4_brokenPairs : ByteArray := prog_6_method_12_code
def yX4_brokenPairs : MethodName := ⟨RX4, "brokenPairs", "()I"⟩
def RX5 : String := "TwoEndQueues$Queues"
def TX5 : u_T := fun k => match k with
  | 0 => ("TwoEndQueues$Queues", "interval", "LTwoEndQueues$IntervalLayout;", true)
  | 1 => ("TwoEndQueues$Queues", "levels", "LTwoEndQueues$LevelLayout;", true)
  | 2 => ("TwoEndQueues$Queues", "leastFirst", "LTwoEndQueues$HeapLayout;", true)
  | _ => ("TwoEndQueues$Queues", "greatestFirst", "LTwoEndQueues$HeapLayout;", true)
def tyX5 : Nat → FieldType := fun k => match k with
  | 0 => .object "TwoEndQueues$IntervalLayout"
  | 1 => .object "TwoEndQueues$LevelLayout"
  | 2 => .object "TwoEndQueues$HeapLayout"
  | _ => .object "TwoEndQueues$HeapLayout"
abbrev wsX50 : List Cond := u_ws RX5 TX5 4
theorem nmX5 : ∀ a, a < 4 → ∀ b, b < 4 → a ≠ b → (TX5 a).2.1 ≠ (TX5 b).2.1 := by decide +kernel
theorem tyX5_ok : ∀ k, k < 4 → parseFieldDescriptor (TX5 k).2.2.1 = some (tyX5 k) := by decide +kernel
abbrev cX5_init : ByteArray := prog_7_method_1_code
def yX5_init : MethodName := ⟨RX5, "<init>", "()V"⟩
abbrev cX5_layout : ByteArray := prog_7_method_2_code
def yX5_layout : MethodName := ⟨RX5, "layout", "(I)LTwoEndQueues$Layout;"⟩
abbrev cX5_itemCount : ByteArray := prog_7_method_3_code
def yX5_itemCount : MethodName := ⟨RX5, "itemCount", "()I"⟩
abbrev cX5_has : ByteArray := prog_7_method_4_code
def yX5_has : MethodName := ⟨RX5, "has", "(I)Z"⟩
abbrev cX5_keyOf : ByteArray := prog_7_method_5_code
def yX5_keyOf : MethodName := ⟨RX5, "keyOf", "(I)I"⟩
abbrev cX5_handleSet : ByteArray := prog_7_method_6_code
def yX5_handleSet : MethodName := ⟨RX5, "handleSet", "()I"⟩
abbrev cX5_countLess : ByteArray := prog_7_method_7_code
def yX5_countLess : MethodName := ⟨RX5, "countLess", "(I)I"⟩
abbrev cX5_leastOf : ByteArray := prog_7_method_8_code
def yX5_leastOf : MethodName := ⟨RX5, "leastOf", "(I)I"⟩
abbrev cX5_greatestOf : ByteArray := prog_7_method_9_code
def yX5_greatestOf : MethodName := ⟨RX5, "greatestOf", "(I)I"⟩
abbrev cX5_countedIn : ByteArray := prog_7_method_10_code
def yX5_countedIn : MethodName := ⟨RX5, "countedIn", "(I)I"⟩
abbrev cX5_countedInAll : ByteArray := prog_7_method_11_code
def yX5_countedInAll : MethodName := ⟨RX5, "countedInAll", "()I"⟩
abbrev cX5_forgetCounts : ByteArray := prog_7_method_12_code
def yX5_forgetCounts : MethodName := ⟨RX5, "forgetCounts", "()V"⟩
abbrev cX5_lowestFreeHandle : ByteArray := prog_7_method_13_code
def yX5_lowestFreeHandle : MethodName := ⟨RX5, "lowestFreeHandle", "()I"⟩
abbrev cX5_putIn : ByteArray := prog_7_method_14_code
def yX5_putIn : MethodName := ⟨RX5, "putIn", "(I)I"⟩
abbrev cX5_takeOut : ByteArray := prog_7_method_15_code
def yX5_takeOut : MethodName := ⟨RX5, "takeOut", "(I)V"⟩
abbrev cX5_takeOutOf : ByteArray := prog_7_method_16_code
def yX5_takeOutOf : MethodName := ⟨RX5, "takeOutOf", "(II)V"⟩
abbrev cX5_giveKey : ByteArray := prog_7_method_17_code
def yX5_giveKey : MethodName := ⟨RX5, "giveKey", "(II)V"⟩
abbrev cX5_arrange : ByteArray := prog_7_method_18_code
def yX5_arrange : MethodName := ⟨RX5, "arrange", "()V"⟩
abbrev cX5_empty : ByteArray := prog_7_method_19_code
def yX5_empty : MethodName := ⟨RX5, "empty", "()V"⟩
abbrev cX5_copyFrom : ByteArray := prog_7_method_20_code
def yX5_copyFrom : MethodName := ⟨RX5, "copyFrom", "(LTwoEndQueues$Queues;)V"⟩
abbrev cX5_isPossible : ByteArray := prog_7_method_21_code
def yX5_isPossible : MethodName := ⟨RX5, "isPossible", "(III)Z"⟩
abbrev cX5_carryOut : ByteArray := prog_7_method_22_code
def yX5_carryOut : MethodName := ⟨RX5, "carryOut", "(III)Z"⟩
def RX6 : String := "TwoEndQueues$Script"
def TX6 : u_T := fun k => match k with
  | 0 => ("TwoEndQueues$Script", "signs", "[C", true)
  | 1 => ("TwoEndQueues$Script", "cursor", "I", false)
  | 2 => ("TwoEndQueues$Script", "number", "I", false)
  | 3 => ("TwoEndQueues$Script", "length", "I", false)
  | 4 => ("TwoEndQueues$Script", "command", "I", false)
  | 5 => ("TwoEndQueues$Script", "handle", "I", false)
  | _ => ("TwoEndQueues$Script", "key", "I", false)
def tyX6 : Nat → FieldType := fun k => match k with
  | 0 => .array .char
  | 1 => .int
  | 2 => .int
  | 3 => .int
  | 4 => .int
  | 5 => .int
  | _ => .int
abbrev wsX60 : List Cond := u_ws RX6 TX6 7
theorem nmX6 : ∀ a, a < 7 → ∀ b, b < 7 → a ≠ b → (TX6 a).2.1 ≠ (TX6 b).2.1 := by decide +kernel
theorem tyX6_ok : ∀ k, k < 7 → parseFieldDescriptor (TX6 k).2.2.1 = some (tyX6 k) := by decide +kernel
abbrev cX6_init : ByteArray := prog_8_method_1_code
def yX6_init : MethodName := ⟨RX6, "<init>", "()V"⟩
abbrev cX6_append : ByteArray := prog_8_method_2_code
def yX6_append : MethodName := ⟨RX6, "append", "(C)V"⟩
abbrev cX6_rewind : ByteArray := prog_8_method_3_code
def yX6_rewind : MethodName := ⟨RX6, "rewind", "()V"⟩
abbrev cX6_firstFault : ByteArray := prog_8_method_4_code
def yX6_firstFault : MethodName := ⟨RX6, "firstFault", "()I"⟩
abbrev cX6_readCommand : ByteArray := prog_8_method_5_code
def yX6_readCommand : MethodName := ⟨RX6, "readCommand", "()Z"⟩
abbrev cX6_commandOf : ByteArray := prog_8_method_6_code
def yX6_commandOf : MethodName := ⟨RX6, "commandOf", "(C)I"⟩
abbrev cX6_readArguments : ByteArray := prog_8_method_7_code
def yX6_readArguments : MethodName := ⟨RX6, "readArguments", "()Z"⟩
abbrev cX6_readKey : ByteArray := prog_8_method_8_code
def yX6_readKey : MethodName := ⟨RX6, "readKey", "()Z"⟩
abbrev cX6_readHandle : ByteArray := prog_8_method_9_code
def yX6_readHandle : MethodName := ⟨RX6, "readHandle", "()Z"⟩
abbrev cX6_readNumber : ByteArray := prog_8_method_10_code
def yX6_readNumber : MethodName := ⟨RX6, "readNumber", "(I)Z"⟩
abbrev cX6_readSign : ByteArray := prog_8_method_11_code
def yX6_readSign : MethodName := ⟨RX6, "readSign", "(C)Z"⟩
abbrev cX6_current : ByteArray := prog_8_method_12_code
def yX6_current : MethodName := ⟨RX6, "current", "()C"⟩
def RX7 : String := "TwoEndQueues"
def TX7 : u_T := fun k => match k with
  | 0 => ("TwoEndQueues", "queues", "LTwoEndQueues$Queues;", true)
  | 1 => ("TwoEndQueues", "thought", "LTwoEndQueues$Queues;", true)
  | 2 => ("TwoEndQueues", "history", "LTwoEndQueues$History;", true)
  | _ => ("TwoEndQueues", "script", "LTwoEndQueues$Script;", true)
def tyX7 : Nat → FieldType := fun k => match k with
  | 0 => .object "TwoEndQueues$Queues"
  | 1 => .object "TwoEndQueues$Queues"
  | 2 => .object "TwoEndQueues$History"
  | _ => .object "TwoEndQueues$Script"
abbrev wsX70 : List Cond := u_ws RX7 TX7 4
theorem nmX7 : ∀ a, a < 4 → ∀ b, b < 4 → a ≠ b → (TX7 a).2.1 ≠ (TX7 b).2.1 := by decide +kernel
theorem tyX7_ok : ∀ k, k < 4 → parseFieldDescriptor (TX7 k).2.2.1 = some (tyX7 k) := by decide +kernel
abbrev cX7_init : ByteArray := prog_1_method_1_code
def yX7_init : MethodName := ⟨RX7, "<init>", "()V"⟩
abbrev cX7_insert : ByteArray := prog_1_method_2_code
def yX7_insert : MethodName := ⟨RX7, "insert", "(I)I"⟩
abbrev cX7_takeLeast : ByteArray := prog_1_method_3_code
def yX7_takeLeast : MethodName := ⟨RX7, "takeLeast", "()I"⟩
abbrev cX7_takeGreatest : ByteArray := prog_1_method_4_code
def yX7_takeGreatest : MethodName := ⟨RX7, "takeGreatest", "()I"⟩
abbrev cX7_remove : ByteArray := prog_1_method_5_code
def yX7_remove : MethodName := ⟨RX7, "remove", "(I)I"⟩
abbrev cX7_change : ByteArray := prog_1_method_6_code
def yX7_change : MethodName := ⟨RX7, "change", "(II)I"⟩
abbrev cX7_build : ByteArray := prog_1_method_7_code
def yX7_build : MethodName := ⟨RX7, "build", "()I"⟩
abbrev cX7_clear : ByteArray := prog_1_method_8_code
def yX7_clear : MethodName := ⟨RX7, "clear", "()I"⟩
abbrev cX7_size : ByteArray := prog_1_method_9_code
def yX7_size : MethodName := ⟨RX7, "size", "()I"⟩
abbrev cX7_handles : ByteArray := prog_1_method_10_code
def yX7_handles : MethodName := ⟨RX7, "handles", "()I"⟩
abbrev cX7_key : ByteArray := prog_1_method_11_code
def yX7_key : MethodName := ⟨RX7, "key", "(I)I"⟩
abbrev cX7_fill : ByteArray := prog_1_method_12_code
def yX7_fill : MethodName := ⟨RX7, "fill", "(II)I"⟩
abbrev cX7_least : ByteArray := prog_1_method_13_code
def yX7_least : MethodName := ⟨RX7, "least", "(I)I"⟩
abbrev cX7_greatest : ByteArray := prog_1_method_14_code
def yX7_greatest : MethodName := ⟨RX7, "greatest", "(I)I"⟩
abbrev cX7_ranked : ByteArray := prog_1_method_15_code
def yX7_ranked : MethodName := ⟨RX7, "ranked", "(I)I"⟩
abbrev cX7_rank : ByteArray := prog_1_method_16_code
def yX7_rank : MethodName := ⟨RX7, "rank", "(I)I"⟩
abbrev cX7_between : ByteArray := prog_1_method_17_code
def yX7_between : MethodName := ⟨RX7, "between", "(II)I"⟩
abbrev cX7_at : ByteArray := prog_1_method_18_code
def yX7_at : MethodName := ⟨RX7, "at", "(II)I"⟩
abbrev cX7_where : ByteArray := prog_1_method_19_code
def yX7_where : MethodName := ⟨RX7, "where", "(II)I"⟩
abbrev cX7_violations : ByteArray := prog_1_method_20_code
def yX7_violations : MethodName := ⟨RX7, "violations", "(I)I"⟩
abbrev cX7_disturb : ByteArray := prog_1_method_21_code
def yX7_disturb : MethodName := ⟨RX7, "disturb", "(III)I"⟩
abbrev cX7_level : ByteArray := prog_1_method_22_code
def yX7_level : MethodName := ⟨RX7, "level", "(I)I"⟩
abbrev cX7_ancestors : ByteArray := prog_1_method_23_code
def yX7_ancestors : MethodName := ⟨RX7, "ancestors", "(I)I"⟩
abbrev cX7_comparisons : ByteArray := prog_1_method_24_code
def yX7_comparisons : MethodName := ⟨RX7, "comparisons", "(I)I"⟩
abbrev cX7_forget : ByteArray := prog_1_method_25_code
def yX7_forget : MethodName := ⟨RX7, "forget", "()I"⟩
abbrev cX7_wouldNeed : ByteArray := prog_1_method_26_code
def yX7_wouldNeed : MethodName := ⟨RX7, "wouldNeed", "(III)I"⟩
abbrev cX7_sortingNeeds : ByteArray := prog_1_method_27_code
def yX7_sortingNeeds : MethodName := ⟨RX7, "sortingNeeds", "(I)I"⟩
abbrev cX7_fewest : ByteArray := prog_1_method_28_code
def yX7_fewest : MethodName := ⟨RX7, "fewest", "()I"⟩
abbrev cX7_type : ByteArray := prog_1_method_29_code
def yX7_type : MethodName := ⟨RX7, "type", "(I)I"⟩
abbrev cX7_clearText : ByteArray := prog_1_method_30_code
def yX7_clearText : MethodName := ⟨RX7, "clearText", "()I"⟩
abbrev cX7_fault : ByteArray := prog_1_method_31_code
def yX7_fault : MethodName := ⟨RX7, "fault", "()I"⟩
abbrev cX7_run : ByteArray := prog_1_method_32_code
def yX7_run : MethodName := ⟨RX7, "run", "()I"⟩
abbrev cX7_undo : ByteArray := prog_1_method_33_code
def yX7_undo : MethodName := ⟨RX7, "undo", "()I"⟩
abbrev cX7_checksum : ByteArray := prog_1_method_34_code
def yX7_checksum : MethodName := ⟨RX7, "checksum", "()J"⟩
abbrev cX7_requireKey : ByteArray := prog_1_method_35_code
def yX7_requireKey : MethodName := ⟨RX7, "requireKey", "(I)V"⟩
abbrev cX7_requireQueue : ByteArray := prog_1_method_36_code
def yX7_requireQueue : MethodName := ⟨RX7, "requireQueue", "(I)V"⟩
abbrev cX7_requireLayout : ByteArray := prog_1_method_37_code
def yX7_requireLayout : MethodName := ⟨RX7, "requireLayout", "(I)V"⟩
abbrev cX7_requireItem : ByteArray := prog_1_method_38_code
def yX7_requireItem : MethodName := ⟨RX7, "requireItem", "(I)V"⟩
abbrev cX7_requirePosition : ByteArray := prog_1_method_39_code
def yX7_requirePosition : MethodName := ⟨RX7, "requirePosition", "(I)V"⟩
abbrev cX7_requireItems : ByteArray := prog_1_method_40_code
def yX7_requireItems : MethodName := ⟨RX7, "requireItems", "()V"⟩
abbrev cX7_isKey : ByteArray := prog_1_method_41_code
def yX7_isKey : MethodName := ⟨RX7, "isKey", "(I)Z"⟩
def RX8 : String := "TwoEndQueuesModel"
def TX8 : u_T := fun k => match k with
  | 0 => ("TwoEndQueuesModel", "now", "[I", true)
  | 1 => ("TwoEndQueuesModel", "past", "[I", true)
  | 2 => ("TwoEndQueuesModel", "kept", "[I", true)
  | 3 => ("TwoEndQueuesModel", "saved", "I", false)
  | 4 => ("TwoEndQueuesModel", "refusal", "I", false)
  | 5 => ("TwoEndQueuesModel", "text", "[I", true)
  | 6 => ("TwoEndQueuesModel", "length", "I", false)
  | 7 => ("TwoEndQueuesModel", "place", "I", false)
  | 8 => ("TwoEndQueuesModel", "wrong", "I", false)
  | 9 => ("TwoEndQueuesModel", "done", "I", false)
  | _ => ("TwoEndQueuesModel", "hash", "J", false)
def tyX8 : Nat → FieldType := fun k => match k with
  | 0 => .array .int
  | 1 => .array .int
  | 2 => .array .int
  | 3 => .int
  | 4 => .int
  | 5 => .array .int
  | 6 => .int
  | 7 => .int
  | 8 => .int
  | 9 => .int
  | _ => .long
abbrev wsX80 : List Cond := u_ws RX8 TX8 11
theorem nmX8 : ∀ a, a < 11 → ∀ b, b < 11 → a ≠ b → (TX8 a).2.1 ≠ (TX8 b).2.1 := by decide +kernel
theorem tyX8_ok : ∀ k, k < 11 → parseFieldDescriptor (TX8 k).2.2.1 = some (tyX8 k) := by decide +kernel
abbrev cX8_init : ByteArray := prog_10_method_1_code
def yX8_init : MethodName := ⟨RX8, "<init>", "()V"⟩
abbrev cX8_thrown : ByteArray := prog_10_method_2_code
def yX8_thrown : MethodName := ⟨RX8, "thrown", "()I"⟩
abbrev cX8_refused : ByteArray := prog_10_method_3_code
def yX8_refused : MethodName := ⟨RX8, "refused", "(I)Z"⟩
abbrev cX8_within : ByteArray := prog_10_method_4_code
def yX8_within : MethodName := ⟨RX8, "within", "(III)Z"⟩
abbrev cX8_saves : ByteArray := prog_10_method_5_code
def yX8_saves : MethodName := ⟨RX8, "saves", "()V"⟩
abbrev cX8_undo : ByteArray := prog_10_method_6_code
def yX8_undo : MethodName := ⟨RX8, "undo", "()I"⟩
abbrev cX8_many : ByteArray := prog_10_method_7_code
def yX8_many : MethodName := ⟨RX8, "many", "()I"⟩
abbrev cX8_item : ByteArray := prog_10_method_8_code
def yX8_item : MethodName := ⟨RX8, "item", "(II)I"⟩
abbrev cX8_lays : ByteArray := prog_10_method_9_code
def yX8_lays : MethodName := ⟨RX8, "lays", "(III)V"⟩
abbrev cX8_isItem : ByteArray := prog_10_method_10_code
def yX8_isItem : MethodName := ⟨RX8, "isItem", "(I)Z"⟩
abbrev cX8_isLayout : ByteArray := prog_10_method_11_code
def yX8_isLayout : MethodName := ⟨RX8, "isLayout", "(I)Z"⟩
abbrev cX8_isLess : ByteArray := prog_10_method_12_code
def yX8_isLess : MethodName := ⟨RX8, "isLess", "(II)Z"⟩
abbrev cX8_less : ByteArray := prog_10_method_13_code
def yX8_less : MethodName := ⟨RX8, "less", "(III)Z"⟩
abbrev cX8_exchange : ByteArray := prog_10_method_14_code
def yX8_exchange : MethodName := ⟨RX8, "exchange", "(III)V"⟩
abbrev cX8_placeOf : ByteArray := prog_10_method_15_code
def yX8_placeOf : MethodName := ⟨RX8, "placeOf", "(II)I"⟩
abbrev cX8_closes : ByteArray := prog_10_method_16_code
def yX8_closes : MethodName := ⟨RX8, "closes", "(III)I"⟩
abbrev cX8_laysAll : ByteArray := prog_10_method_17_code
def yX8_laysAll : MethodName := ⟨RX8, "laysAll", "(I)V"⟩
abbrev cX8_topOf : ByteArray := prog_10_method_18_code
def yX8_topOf : MethodName := ⟨RX8, "topOf", "(II)I"⟩
abbrev cX8_orders : ByteArray := prog_10_method_19_code
def yX8_orders : MethodName := ⟨RX8, "orders", "(II)V"⟩
abbrev cX8_risesLow : ByteArray := prog_10_method_20_code
def yX8_risesLow : MethodName := ⟨RX8, "risesLow", "(I)V"⟩
abbrev cX8_risesHigh : ByteArray := prog_10_method_21_code
def yX8_risesHigh : MethodName := ⟨RX8, "risesHigh", "(II)V"⟩
abbrev cX8_sinksLow : ByteArray := prog_10_method_22_code
def yX8_sinksLow : MethodName := ⟨RX8, "sinksLow", "(II)V"⟩
abbrev cX8_sinksHigh : ByteArray := prog_10_method_23_code
def yX8_sinksHigh : MethodName := ⟨RX8, "sinksHigh", "(II)V"⟩
abbrev cX8_settles : ByteArray := prog_10_method_24_code
def yX8_settles : MethodName := ⟨RX8, "settles", "(II)V"⟩
abbrev cX8_comesFirst : ByteArray := prog_10_method_25_code
def yX8_comesFirst : MethodName := ⟨RX8, "comesFirst", "(I)V"⟩
abbrev cX8_levelOf : ByteArray := prog_10_method_26_code
def yX8_levelOf : MethodName := ⟨RX8, "levelOf", "(I)I"⟩
abbrev cX8_leads : ByteArray := prog_10_method_27_code
def yX8_leads : MethodName := ⟨RX8, "leads", "(ZII)Z"⟩
abbrev cX8_isLow : ByteArray := prog_10_method_28_code
def yX8_isLow : MethodName := ⟨RX8, "isLow", "(I)Z"⟩
abbrev cX8_rises : ByteArray := prog_10_method_29_code
def yX8_rises : MethodName := ⟨RX8, "rises", "(I)V"⟩
abbrev cX8_sinks : ByteArray := prog_10_method_30_code
def yX8_sinks : MethodName := ⟨RX8, "sinks", "(II)V"⟩
abbrev cX8_enters : ByteArray := prog_10_method_31_code
def yX8_enters : MethodName := ⟨RX8, "enters", "(I)V"⟩
abbrev cX8_isAhead : ByteArray := prog_10_method_32_code
def yX8_isAhead : MethodName := ⟨RX8, "isAhead", "(III)Z"⟩
abbrev cX8_up : ByteArray := prog_10_method_33_code
def yX8_up : MethodName := ⟨RX8, "up", "(II)V"⟩
abbrev cX8_down : ByteArray := prog_10_method_34_code
def yX8_down : MethodName := ⟨RX8, "down", "(III)V"⟩
abbrev cX8_enters_ : ByteArray := prog_10_method_35_code
def yX8_enters_ : MethodName := ⟨RX8, "enters", "(II)V"⟩
abbrev cX8_moves : ByteArray := prog_10_method_36_code
def yX8_moves : MethodName := ⟨RX8, "moves", "(III)V"⟩
abbrev cX8_goes : ByteArray := prog_10_method_37_code
def yX8_goes : MethodName := ⟨RX8, "goes", "(II)V"⟩
abbrev cX8_builds : ByteArray := prog_10_method_38_code
def yX8_builds : MethodName := ⟨RX8, "builds", "(I)V"⟩
abbrev cX8_buildsAt : ByteArray := prog_10_method_39_code
def yX8_buildsAt : MethodName := ⟨RX8, "buildsAt", "(III)V"⟩
abbrev cX8_counts : ByteArray := prog_10_method_40_code
def yX8_counts : MethodName := ⟨RX8, "counts", "()I"⟩
abbrev cX8_freeHandle : ByteArray := prog_10_method_41_code
def yX8_freeHandle : MethodName := ⟨RX8, "freeHandle", "()I"⟩
abbrev cX8_inserts : ByteArray := prog_10_method_42_code
def yX8_inserts : MethodName := ⟨RX8, "inserts", "(II)I"⟩
abbrev cX8_isKey : ByteArray := prog_10_method_43_code
def yX8_isKey : MethodName := ⟨RX8, "isKey", "(I)Z"⟩
abbrev cX8_insert : ByteArray := prog_10_method_44_code
def yX8_insert : MethodName := ⟨RX8, "insert", "(I)I"⟩
abbrev cX8_leastOf : ByteArray := prog_10_method_45_code
def yX8_leastOf : MethodName := ⟨RX8, "leastOf", "(I)I"⟩
abbrev cX8_greatestOf : ByteArray := prog_10_method_46_code
def yX8_greatestOf : MethodName := ⟨RX8, "greatestOf", "(I)I"⟩
abbrev cX8_takeLeast : ByteArray := prog_10_method_47_code
def yX8_takeLeast : MethodName := ⟨RX8, "takeLeast", "()I"⟩
abbrev cX8_takesGreatest : ByteArray := prog_10_method_48_code
def yX8_takesGreatest : MethodName := ⟨RX8, "takesGreatest", "(I)I"⟩
abbrev cX8_takeGreatest : ByteArray := prog_10_method_49_code
def yX8_takeGreatest : MethodName := ⟨RX8, "takeGreatest", "()I"⟩
abbrev cX8_remove : ByteArray := prog_10_method_50_code
def yX8_remove : MethodName := ⟨RX8, "remove", "(I)I"⟩
abbrev cX8_changes : ByteArray := prog_10_method_51_code
def yX8_changes : MethodName := ⟨RX8, "changes", "(II)V"⟩
abbrev cX8_change : ByteArray := prog_10_method_52_code
def yX8_change : MethodName := ⟨RX8, "change", "(II)I"⟩
abbrev cX8_build : ByteArray := prog_10_method_53_code
def yX8_build : MethodName := ⟨RX8, "build", "()I"⟩
abbrev cX8_clear : ByteArray := prog_10_method_54_code
def yX8_clear : MethodName := ⟨RX8, "clear", "()I"⟩
abbrev cX8_size : ByteArray := prog_10_method_55_code
def yX8_size : MethodName := ⟨RX8, "size", "()I"⟩
abbrev cX8_handleSet : ByteArray := prog_10_method_56_code
def yX8_handleSet : MethodName := ⟨RX8, "handleSet", "()I"⟩
abbrev cX8_handles : ByteArray := prog_10_method_57_code
def yX8_handles : MethodName := ⟨RX8, "handles", "()I"⟩
abbrev cX8_key : ByteArray := prog_10_method_58_code
def yX8_key : MethodName := ⟨RX8, "key", "(I)I"⟩
abbrev cX8_fill : ByteArray := prog_10_method_59_code
def yX8_fill : MethodName := ⟨RX8, "fill", "(II)I"⟩
abbrev cX8_least : ByteArray := prog_10_method_60_code
def yX8_least : MethodName := ⟨RX8, "least", "(I)I"⟩
abbrev cX8_greatest : ByteArray := prog_10_method_61_code
def yX8_greatest : MethodName := ⟨RX8, "greatest", "(I)I"⟩
abbrev cX8_rankOf : ByteArray := prog_10_method_62_code
def yX8_rankOf : MethodName := ⟨RX8, "rankOf", "(I)I"⟩
abbrev cX8_ranked : ByteArray := prog_10_method_63_code
def yX8_ranked : MethodName := ⟨RX8, "ranked", "(I)I"⟩
abbrev cX8_rank : ByteArray := prog_10_method_64_code
def yX8_rank : MethodName := ⟨RX8, "rank", "(I)I"⟩
abbrev cX8_between : ByteArray := prog_10_method_65_code
def yX8_between : MethodName := ⟨RX8, "between", "(II)I"⟩
abbrev cX8_at : ByteArray := prog_10_method_66_code
def yX8_at : MethodName := ⟨RX8, "at", "(II)I"⟩
abbrev cX8_where : ByteArray := prog_10_method_67_code
def yX8_where : MethodName := ⟨RX8, "where", "(II)I"⟩
abbrev cX8_wrong : ByteArray := prog_10_method_68_code
def yX8_wrong : MethodName := ⟨RX8, "wrong", "(III)I"⟩
abbrev cX8_wrongNodes : ByteArray := prog_10_method_69_code
def yX8_wrongNodes : MethodName := ⟨RX8, "wrongNodes", "()I"⟩
abbrev cX8_wrongLevels : ByteArray := prog_10_method_70_code
def yX8_wrongLevels : MethodName := ⟨RX8, "wrongLevels", "()I"⟩
abbrev cX8_wrongIn : ByteArray := prog_10_method_71_code
def yX8_wrongIn : MethodName := ⟨RX8, "wrongIn", "(I)I"⟩
abbrev cX8_violations : ByteArray := prog_10_method_72_code
def yX8_violations : MethodName := ⟨RX8, "violations", "(I)I"⟩
abbrev cX8_disturb : ByteArray := prog_10_method_73_code
def yX8_disturb : MethodName := ⟨RX8, "disturb", "(III)I"⟩
abbrev cX8_level : ByteArray := prog_10_method_74_code
def yX8_level : MethodName := ⟨RX8, "level", "(I)I"⟩
abbrev cX8_above : ByteArray := prog_10_method_75_code
def yX8_above : MethodName := ⟨RX8, "above", "(II)I"⟩
abbrev cX8_ancestors : ByteArray := prog_10_method_76_code
def yX8_ancestors : MethodName := ⟨RX8, "ancestors", "(I)I"⟩
abbrev cX8_comparisons : ByteArray := prog_10_method_77_code
def yX8_comparisons : MethodName := ⟨RX8, "comparisons", "(I)I"⟩
abbrev cX8_forget : ByteArray := prog_10_method_78_code
def yX8_forget : MethodName := ⟨RX8, "forget", "()I"⟩
abbrev cX8_keeps : ByteArray := prog_10_method_79_code
def yX8_keeps : MethodName := ⟨RX8, "keeps", "()V"⟩
abbrev cX8_returns : ByteArray := prog_10_method_80_code
def yX8_returns : MethodName := ⟨RX8, "returns", "()V"⟩
abbrev cX8_canDo : ByteArray := prog_10_method_81_code
def yX8_canDo : MethodName := ⟨RX8, "canDo", "(II)Z"⟩
abbrev cX8_does : ByteArray := prog_10_method_82_code
def yX8_does : MethodName := ⟨RX8, "does", "(III)V"⟩
abbrev cX8_wouldNeed : ByteArray := prog_10_method_83_code
def yX8_wouldNeed : MethodName := ⟨RX8, "wouldNeed", "(III)I"⟩
abbrev cX8_sortingNeeds : ByteArray := prog_10_method_84_code
def yX8_sortingNeeds : MethodName := ⟨RX8, "sortingNeeds", "(I)I"⟩
abbrev cX8_fewest : ByteArray := prog_10_method_85_code
def yX8_fewest : MethodName := ⟨RX8, "fewest", "()I"⟩
abbrev cX8_type : ByteArray := prog_10_method_86_code
def yX8_type : MethodName := ⟨RX8, "type", "(I)I"⟩
abbrev cX8_clearText : ByteArray := prog_10_method_87_code
def yX8_clearText : MethodName := ⟨RX8, "clearText", "()I"⟩
abbrev cX8_next : ByteArray := prog_10_method_88_code
def yX8_next : MethodName := ⟨RX8, "next", "()I"⟩
abbrev cX8_fails : ByteArray := prog_10_method_89_code
def yX8_fails : MethodName := ⟨RX8, "fails", "()V"⟩
abbrev cX8_takes : ByteArray := prog_10_method_90_code
def yX8_takes : MethodName := ⟨RX8, "takes", "(I)V"⟩
abbrev cX8_number : ByteArray := prog_10_method_91_code
def yX8_number : MethodName := ⟨RX8, "number", "(IZ)I"⟩
abbrev cX8_reads : ByteArray := prog_10_method_92_code
def yX8_reads : MethodName := ⟨RX8, "reads", "(Z)I"⟩
abbrev cX8_isDone : ByteArray := prog_10_method_93_code
def yX8_isDone : MethodName := ⟨RX8, "isDone", "(III)Z"⟩
abbrev cX8_fault : ByteArray := prog_10_method_94_code
def yX8_fault : MethodName := ⟨RX8, "fault", "()I"⟩
abbrev cX8_run : ByteArray := prog_10_method_95_code
def yX8_run : MethodName := ⟨RX8, "run", "()I"⟩
abbrev cX8_mix : ByteArray := prog_10_method_96_code
def yX8_mix : MethodName := ⟨RX8, "mix", "(J)V"⟩
abbrev cX8_checksum : ByteArray := prog_10_method_97_code
def yX8_checksum : MethodName := ⟨RX8, "checksum", "()J"⟩
def RJ6 : String := "java/lang/Integer"
def TJ6 : u_T := fun k => match k with
  | _ => ("", "", "", false)
def tyJ6 : Nat → FieldType := fun k => match k with
  | _ => .int
abbrev wsJ60 : List Cond := u_ws RJ6 TJ6 0
theorem nmJ6 : ∀ a, a < 0 → ∀ b, b < 0 → a ≠ b → (TJ6 a).2.1 ≠ (TJ6 b).2.1 := by decide +kernel
theorem tyJ6_ok : ∀ k, k < 0 → parseFieldDescriptor (TJ6 k).2.2.1 = some (tyJ6 k) := by decide +kernel
abbrev cJ6_bitCount_0f7a4 : ByteArray := prog_15_method_49_code
def yJ6_bitCount_0f7a4 : MethodName := ⟨RJ6, "bitCount", "(I)I"⟩
def RJ9 : String := "java/lang/Math"
def TJ9 : u_T := fun k => match k with
  | _ => ("", "", "", false)
def tyJ9 : Nat → FieldType := fun k => match k with
  | _ => .int
abbrev wsJ90 : List Cond := u_ws RJ9 TJ9 0
theorem nmJ9 : ∀ a, a < 0 → ∀ b, b < 0 → a ≠ b → (TJ9 a).2.1 ≠ (TJ9 b).2.1 := by decide +kernel
theorem tyJ9_ok : ∀ k, k < 0 → parseFieldDescriptor (TJ9 k).2.2.1 = some (tyJ9 k) := by decide +kernel
abbrev cJ9_min_7cf53 : ByteArray := prog_16_method_69_code
def yJ9_min_7cf53 : MethodName := ⟨RJ9, "min", "(II)I"⟩
def RJ0 : String := "java/lang/String"
def TJ0 : u_T := fun k => match k with
  | _ => ("", "", "", false)
def tyJ0 : Nat → FieldType := fun k => match k with
  | _ => .int
abbrev wsJ00 : List Cond := u_ws RJ0 TJ0 0
theorem nmJ0 : ∀ a, a < 0 → ∀ b, b < 0 → a ≠ b → (TJ0 a).2.1 ≠ (TJ0 b).2.1 := by decide +kernel
theorem tyJ0_ok : ∀ k, k < 0 → parseFieldDescriptor (TJ0 k).2.2.1 = some (tyJ0 k) := by decide +kernel
def RJ10 : String := "java/lang/System"
def TJ10 : u_T := fun k => match k with
  | _ => ("", "", "", false)
def tyJ10 : Nat → FieldType := fun k => match k with
  | _ => .int
abbrev wsJ100 : List Cond := u_ws RJ10 TJ10 0
theorem nmJ10 : ∀ a, a < 0 → ∀ b, b < 0 → a ≠ b → (TJ10 a).2.1 ≠ (TJ10 b).2.1 := by decide +kernel
theorem tyJ10_ok : ∀ k, k < 0 → parseFieldDescriptor (TJ10 k).2.2.1 = some (tyJ10 k) := by decide +kernel
def RL : String := "TwoEndQueuesLaw"
abbrev cL_insert : ByteArray := method_3_code
def yL_insert : MethodName := ⟨RL, "insert", "(LTwoEndQueues;I[J)I"⟩
abbrev cL_takeLeast : ByteArray := method_4_code
def yL_takeLeast : MethodName := ⟨RL, "takeLeast", "(LTwoEndQueues;[J)I"⟩
abbrev cL_takeGreatest : ByteArray := method_5_code
def yL_takeGreatest : MethodName := ⟨RL, "takeGreatest", "(LTwoEndQueues;[J)I"⟩
abbrev cL_remove : ByteArray := method_6_code
def yL_remove : MethodName := ⟨RL, "remove", "(LTwoEndQueues;I[J)I"⟩
abbrev cL_change : ByteArray := method_7_code
def yL_change : MethodName := ⟨RL, "change", "(LTwoEndQueues;II[J)I"⟩
abbrev cL_key : ByteArray := method_8_code
def yL_key : MethodName := ⟨RL, "key", "(LTwoEndQueues;I[J)I"⟩
abbrev cL_fill : ByteArray := method_9_code
def yL_fill : MethodName := ⟨RL, "fill", "(LTwoEndQueues;II[J)I"⟩
abbrev cL_least : ByteArray := method_10_code
def yL_least : MethodName := ⟨RL, "least", "(LTwoEndQueues;I[J)I"⟩
abbrev cL_greatest : ByteArray := method_11_code
def yL_greatest : MethodName := ⟨RL, "greatest", "(LTwoEndQueues;I[J)I"⟩
abbrev cL_rank : ByteArray := method_12_code
def yL_rank : MethodName := ⟨RL, "rank", "(LTwoEndQueues;I[J)I"⟩
abbrev cL_at : ByteArray := method_13_code
def yL_at : MethodName := ⟨RL, "at", "(LTwoEndQueues;II[J)I"⟩
abbrev cL_where : ByteArray := method_14_code
def yL_where : MethodName := ⟨RL, "where", "(LTwoEndQueues;II[J)I"⟩
abbrev cL_violations : ByteArray := method_15_code
def yL_violations : MethodName := ⟨RL, "violations", "(LTwoEndQueues;I[J)I"⟩
abbrev cL_disturb : ByteArray := method_16_code
def yL_disturb : MethodName := ⟨RL, "disturb", "(LTwoEndQueues;III[J)I"⟩
abbrev cL_level : ByteArray := method_17_code
def yL_level : MethodName := ⟨RL, "level", "(LTwoEndQueues;I[J)I"⟩
abbrev cL_ancestors : ByteArray := method_18_code
def yL_ancestors : MethodName := ⟨RL, "ancestors", "(LTwoEndQueues;I[J)I"⟩
abbrev cL_comparisons : ByteArray := method_19_code
def yL_comparisons : MethodName := ⟨RL, "comparisons", "(LTwoEndQueues;I[J)I"⟩
abbrev cL_wouldNeed : ByteArray := method_20_code
def yL_wouldNeed : MethodName := ⟨RL, "wouldNeed", "(LTwoEndQueues;III[J)I"⟩
abbrev cL_sortingNeeds : ByteArray := method_21_code
def yL_sortingNeeds : MethodName := ⟨RL, "sortingNeeds", "(LTwoEndQueues;I[J)I"⟩
abbrev cL_type : ByteArray := method_22_code
def yL_type : MethodName := ⟨RL, "type", "(LTwoEndQueues;I[J)I"⟩
abbrev cL_run : ByteArray := method_23_code
def yL_run : MethodName := ⟨RL, "run", "(LTwoEndQueues;[J)I"⟩
abbrev cL_undo : ByteArray := method_24_code
def yL_undo : MethodName := ⟨RL, "undo", "(LTwoEndQueues;[J)I"⟩
abbrev cL_law : ByteArray := code
def yL_law : MethodName := ⟨RL, "law", "([I)Z"⟩
end
section
/-! MY OWN MACHINE WORDS: worlds by places, locals by lists, one predicate a program point. -/
abbrev MC : Type := (FieldType × vp_A) ⊕ (Nat × List Value)
abbrev MW : Type := Nat × (Nat → MC)
abbrev MO : Type := (Option Value) ⊕ String
def mm_XT : Nat := 1000000
abbrev mm_cl : List vw_C := [(RX0, TX0, 4), (RX1, TX1, 3), (RX2, TX2, 3), (RX4, TX4, 3), (RX5, TX5, 4), (RX6, TX6, 7), (RX7, TX7, 4), (RX8, TX8, 11)]
def mm_rv (ad : Nat → Nat) (v : Value) : Value := match v with
  | .ref k => .ref (ad k)
  | v => v
def mm_okv (N : Nat) (v : Value) : Prop := ∀ k, v = .ref k → k < N ∨ k = mm_XT
def mm_okf (N : Nat) (v : Value) : Prop := ∀ k, v = .ref k → k < N
def mm_okc (N : Nat) (c : MC) : Prop := match c with
  | .inl (_, _, .inr (.inr (.inr (.inr f)))) => ∀ j k, f j = some k → k < N
  | .inl _ => True
  | .inr o => ∀ v ∈ o.2, mm_okf N v
def mm_cv (ad : Nat → Nat) (dA : FieldType → ClassId) (c : MC) : va_E := match c with
  | .inl (ty, n, .inr (.inr (.inr (.inr f)))) => .inl (dA ty, n, .inr (.inr (.inr (.inr (fun j => (f j).map ad)))))
  | .inl a => .inl (dA a.1, a.2)
  | .inr o => .inr (o.1, o.2.map (mm_rv ad))
def mm_ws (ad : Nat → Nat) (dA : FieldType → ClassId) (w : MW) : va_W := (List.range w.1).map (fun k => (ad k, mm_cv ad dA (w.2 k)))
abbrev mm_tys (dA : FieldType → ClassId) : List (ClassId × FieldType) := [(dA .int, .int), (dA .long, .long), (dA .char, .char), (dA (.object RX5), .object RX5)]
theorem mm_ws_get {ad : Nat → Nat} {dA : FieldType → ClassId} {w : MW} {k : Nat} (h : k < w.1) : (mm_ws ad dA w)[k]? = some (ad k, mm_cv ad dA (w.2 k)) := by
  simp [mm_ws, h]
theorem mm_ws_len {ad : Nat → Nat} {dA : FieldType → ClassId} {w : MW} : (mm_ws ad dA w).length = w.1 := by simp [mm_ws]
theorem mm_ws_at {ad : Nat → Nat} {dA : FieldType → ClassId} {w : MW} {k : Nat} {q : Nat × va_E} (h : (mm_ws ad dA w)[k]? = some q) : k < w.1 ∧ q = (ad k, mm_cv ad dA (w.2 k)) := by
  have hk : k < w.1 := by rw [← mm_ws_len (ad := ad) (dA := dA)]; exact (List.getElem?_eq_some_iff.mp h).1
  refine ⟨hk, ?_⟩
  rw [mm_ws_get hk] at h
  exact (Option.some.inj h).symm
/-- setting a place -/
theorem mm_ws_set {ad : Nat → Nat} {dA : FieldType → ClassId} {w : MW} {k : Nat} (h : k < w.1) (c : MC) : (mm_ws ad dA w).set k (ad k, mm_cv ad dA c) = mm_ws ad dA (w.1, va_up w.2 k c) := by
  apply List.ext_getElem?
  intro j
  by_cases hj : j < w.1
  · rw [mm_ws_get (w := (w.1, va_up w.2 k c)) hj]
    by_cases e : k = j
    · subst e
      rw [List.getElem?_set_self (by rw [mm_ws_len]; exact h)]
      simp [va_up]
    · rw [List.getElem?_set_ne e, mm_ws_get hj]
      have e' : ¬ j = k := fun q => e q.symm
      simp [va_up, e']
  · rw [List.getElem?_eq_none (by rw [List.length_set, mm_ws_len]; omega), List.getElem?_eq_none (by rw [mm_ws_len]; show w.1 ≤ j; omega)]
theorem mm_rv_agree {ad ad' : Nat → Nat} {N : Nat} {v : Value} (h : ∀ k, k < N ∨ k = mm_XT → ad' k = ad k) (hv : mm_okv N v) : mm_rv ad' v = mm_rv ad v := by
  cases v with
  | ref k => simp only [mm_rv]; rw [h k (hv k rfl)]
  | _ => rfl
theorem mm_cv_agree {ad ad' : Nat → Nat} {dA : FieldType → ClassId} {N : Nat} {c : MC} (h : ∀ k, k < N → ad' k = ad k) (hc : mm_okc N c) : mm_cv ad' dA c = mm_cv ad dA c := by
  rcases c with ⟨ty, n, a⟩ | o
  · rcases a with a | a | a | a | f
    · rfl
    · rfl
    · rfl
    · rfl
    · simp only [mm_cv]
      have e : (fun j => (f j).map ad') = (fun j => (f j).map ad) := by
        funext j
        cases hj : f j with
        | none => rfl
        | some k => simp [h k (hc j k hj)]
      rw [e]
  · simp only [mm_cv]
    have e : o.2.map (mm_rv ad') = o.2.map (mm_rv ad) := by
      apply List.map_congr_left
      intro v hv
      exact mm_rv_agree (N := N) (v := v) (ad := ad) (ad' := ad) (fun _ _ => rfl) (fun k hk => Or.inl (hc v hv k hk)) ▸ (by
        cases v with
        | ref k => simp only [mm_rv]; rw [h k (hc _ hv k rfl)]
        | _ => rfl)
    rw [e]
/-- one cell more -/
theorem mm_ws_push {ad : Nat → Nat} {dA : FieldType → ClassId} {w : MW} {q : Nat} {c : MC} (hw : ∀ k, k < w.1 → mm_okc w.1 (w.2 k)) (hc : mm_okc w.1 c) : mm_ws ad dA w ++ [(q, mm_cv ad dA c)] = mm_ws (va_up ad w.1 q) dA (w.1 + 1, va_up w.2 w.1 c) := by
  have ha : ∀ k, k < w.1 → va_up ad w.1 q k = ad k := fun k hk => by simp [va_up, Nat.ne_of_lt hk]
  apply List.ext_getElem?
  intro j
  rcases Nat.lt_trichotomy j w.1 with hj | hj | hj
  · rw [List.getElem?_append_left (by rw [mm_ws_len]; exact hj), mm_ws_get hj, mm_ws_get (w := (w.1 + 1, va_up w.2 w.1 c)) (show j < w.1 + 1 by omega), ha j hj]
    have e : va_up w.2 w.1 c j = w.2 j := by simp [va_up, Nat.ne_of_lt hj]
    show some (ad j, mm_cv ad dA (w.2 j)) = some (ad j, mm_cv (va_up ad w.1 q) dA (va_up w.2 w.1 c j))
    rw [e, mm_cv_agree ha (hw j hj)]
  · subst hj
    rw [List.getElem?_append_right (by rw [mm_ws_len]; exact Nat.le_refl _), mm_ws_len, Nat.sub_self, mm_ws_get (w := (w.1 + 1, va_up w.2 w.1 c)) (show w.1 < w.1 + 1 by omega)]
    have e : va_up w.2 w.1 c w.1 = c := by simp [va_up]
    show some (q, mm_cv ad dA c) = some (va_up ad w.1 q w.1, mm_cv (va_up ad w.1 q) dA (va_up w.2 w.1 c w.1))
    rw [e, mm_cv_agree ha hc]
    simp [va_up]
  · rw [List.getElem?_eq_none (by simp [mm_ws_len]; omega), List.getElem?_eq_none (by rw [mm_ws_len]; show w.1 + 1 ≤ j; omega)]
theorem mm_okc_mono {N M : Nat} {c : MC} (h : N ≤ M) (hc : mm_okc N c) : mm_okc M c := by
  rcases c with ⟨ty, n, a⟩ | o
  · rcases a with a | a | a | a | f
    · trivial
    · trivial
    · trivial
    · trivial
    · exact fun j k hj => Nat.lt_of_lt_of_le (hc j k hj) h
  · exact fun v hv k hk => Nat.lt_of_lt_of_le (hc v hv k hk) h
/-- the tables' words, wherever the machine stands -/
def mm_GW : List Cond := lw_tbl.filter goodWord
def mm_ok (w : Cond) : Bool := match w with
  | .methodLinkNest .. => true
  | .declares _ => true
  | .castable .. => true
  | _ => false
def mm_strs : List (String × Nat × String) := lw_tbl.filterMap (fun w => match w with | .stringRef o k t => some (o, k, t) | _ => none)
def mm_ncs : List (String × String) := [("java/lang/IllegalStateException", "java/lang/IllegalArgumentException"), ("java/lang/IllegalArgumentException", "java/lang/IndexOutOfBoundsException"), ("java/lang/IndexOutOfBoundsException", "java/lang/IllegalArgumentException")]
def mm_Tab (s : State) : Prop := (∀ w ∈ mm_GW, w.before #[] s = true) ∧ (∀ w ∈ lw_tbl, mm_ok w = true → va_Nw w s) ∧ va_AO RX5 s ∧ (∀ q ∈ mm_strs, ∃ sa, vk_R q.1 q.2.1 q.2.2 sa s) ∧ ∀ q ∈ mm_ncs, va_Nc q.1 q.2 s
theorem mm_good {w : Cond} (h : w ∈ mm_GW) : (w.onTables && w.keeps) = true ∨ ∃ ty, w = .arrayClass ty := good_of_word (List.mem_filter.mp h).2
theorem mm_Tab.warm {s U : State} (hW : s.WarmedH U.vm) (h : mm_Tab s) : mm_Tab U := by
  obtain ⟨h1, h2, h3, h4, h5⟩ := h
  refine ⟨fun w hw => word_at hW (mm_good hw) (h1 w hw), fun w hw hk => ?_, h3.moved hW.alike, fun q hq => ?_, fun q hq => (h5 q hq).moved hW.alike⟩
  · have hz := h2 w hw hk
    cases w <;> first | exact va_Nw.warmM hW hz | exact va_Nw.warmD hW hz | exact va_Nw.warmC hW hz | cases hk
  · obtain ⟨sa, h⟩ := h4 q hq
    exact ⟨sa, vk_R.warm hW h⟩
theorem mm_Tab.hts {s : State} (h : mm_Tab s) {args : Array Value} : ∀ w ∈ mm_GW, w.before args s = true := fun w hw => word_at (State.WarmedH.refl s) (mm_good hw) (h.1 w hw)
def mm_S (D : va_G) (dA : FieldType → ClassId) (A : Nat → Prop) (U : State) (H : Heap) : Prop := mm_Tab U ∧ va_K D mm_cl (mm_tys dA) U ∧ vx_Zq Bundle.tN "UNASSIGNED_STACK" Bundle.steD A U H ∧ vx_Zq Bundle.tN "SUPPRESSED_SENTINEL" Bundle.listD A U H
theorem mm_S.warm {D : va_G} {dA : FieldType → ClassId} {A : Nat → Prop} {s U : State} {H : Heap} (hW : s.WarmedH U.vm) (h : mm_S D dA A s H) : mm_S D dA A U H := ⟨h.1.warm hW, va_K.moved hW.alike h.2.1, h.2.2.1.moved hW.alike, h.2.2.2.moved hW.alike⟩
theorem mm_S.kept {D : va_G} {dA : FieldType → ClassId} {A : Nat → Prop} {s : State} {H H1 : Heap} (h : mm_S D dA A s H) (hq : ∀ a : Nat, a < H.size → ¬ A a → H1[a]? = H[a]?) : mm_S D dA A s H1 := ⟨h.1, h.2.1, h.2.2.1.kept hq, h.2.2.2.kept hq⟩
theorem mm_S.narrow {D : va_G} {dA : FieldType → ClassId} {A B : Nat → Prop} {s : State} {H : Heap} (h : mm_S D dA A s H) (hq : ∀ q, B q → A q) : mm_S D dA B s H := ⟨h.1, h.2.1, h.2.2.1.narrow hq, h.2.2.2.narrow hq⟩
/-- a world in a heap -/
def mm_H (D : va_G) (dA : FieldType → ClassId) (ad : Nat → Nat) (w : MW) (H : Heap) : Prop := va_P D mm_cl (mm_ws ad dA w) H ∧ (∀ k, k < w.1 → mm_okc w.1 (w.2 k)) ∧ w.1 ≤ mm_XT
def mm_ag (ad0 ad : Nat → Nat) (N0 N : Nat) : Prop := N0 ≤ N ∧ ∀ k, k < N0 ∨ k = mm_XT → ad k = ad0 k
/-- locals: the first entry of a place counts -/
def mm_lk (lv : List (Nat × Value)) (i : Nat) : Option Value := match lv with
  | [] => none
  | q :: l => if q.1 = i then some q.2 else mm_lk l i
theorem mm_lk_mem {lv : List (Nat × Value)} {i : Nat} {v : Value} (h : mm_lk lv i = some v) : (i, v) ∈ lv := by
  induction lv with
  | nil => cases h
  | cons q l ih =>
    unfold mm_lk at h
    by_cases e : q.1 = i
    · rw [if_pos e] at h
      cases h
      rw [← e]
      exact List.mem_cons_self
    · rw [if_neg e] at h
      exact List.mem_cons_of_mem _ (ih h)
def mm_L (ad : Nat → Nat) (N nL : Nat) (lv : List (Nat × Value)) (ls : Array Slot) : Prop := ls.size = nL ∧ lv_wf ls ∧ ∀ i v, mm_lk lv i = some v → ls[i]? = some (.val (mm_rv ad v)) ∧ mm_okv N v
def mm_c1 (lv : List (Nat × Value)) (i : Nat) : Bool := match i with
  | 0 => true
  | j + 1 => match mm_lk lv j with
    | some v => v.category == 1
    | none => true
theorem mm_cat (ad : Nat → Nat) (v : Value) : (mm_rv ad v).category = v.category := by cases v <;> rfl
/-- what the kit's store rows are given, and give back -/
theorem mm_L.has {ad : Nat → Nat} {N nL : Nat} {lv : List (Nat × Value)} {ls : Array Slot} (h : mm_L ad N nL lv ls) : lv_has ls nL ((List.range nL).filterMap (fun j => (mm_lk lv j).map (fun v => (j, mm_rv ad v)))) := by
  refine ⟨h.1, h.2.1, fun q hq => ?_⟩
  obtain ⟨j, -, hj⟩ := List.mem_filterMap.mp hq
  cases e : mm_lk lv j with
  | none => rw [e] at hj; cases hj
  | some v =>
    rw [e] at hj
    cases hj
    exact (h.2.2 j v e).1
theorem mm_L.put {ad : Nat → Nat} {N nL : Nat} {lv : List (Nat × Value)} {ls ls' : Array Slot} {i : Nat} {v : Value} (h : mm_L ad N nL lv ls) (hc : mm_c1 lv i = true) (hv : mm_okv N v)
    (hs : lv_has ls' nL ((i, mm_rv ad v) :: ((List.range nL).filterMap (fun j => (mm_lk lv j).map (fun v => (j, mm_rv ad v)))).filter (fun q => !(q.1 == i) && !(q.1 + 1 == i && q.2.category == 2)))) : mm_L ad N nL ((i, v) :: lv) ls' := by
  refine ⟨hs.1, hs.2.1, fun j u hj => ?_⟩
  unfold mm_lk at hj
  by_cases e : i = j
  · rw [if_pos e] at hj
    cases hj
    subst e
    exact ⟨hs.2.2 (i, mm_rv ad v) List.mem_cons_self, hv⟩
  · rw [if_neg e] at hj
    obtain ⟨g1, g2⟩ := h.2.2 j u hj
    have hjn : j < nL := by rw [← h.1]; exact lv_lt g1
    refine ⟨hs.2.2 (j, mm_rv ad u) (List.mem_cons_of_mem _ (List.mem_filter.mpr ⟨List.mem_filterMap.mpr ⟨j, List.mem_range.mpr hjn, by rw [hj]; rfl⟩, ?_⟩)), g2⟩
    have e' : ¬ j = i := fun q => e q.symm
    rw [mm_cat]
    by_cases e2 : j + 1 = i
    · subst e2
      simp only [mm_c1, hj, beq_iff_eq] at hc
      simp [hc]
    · simp [e', e2]
theorem mm_L.put2 {ad : Nat → Nat} {N nL : Nat} {lv : List (Nat × Value)} {ls ls' : Array Slot} {i : Nat} {v : Value} (h : mm_L ad N nL lv ls) (hc : mm_c1 lv i = true) (hc2 : mm_lk lv (i + 1) = none) (hv : mm_okv N v)
    (hs : lv_has ls' nL ((i, mm_rv ad v) :: ((List.range nL).filterMap (fun j => (mm_lk lv j).map (fun v => (j, mm_rv ad v)))).filter (fun q => !(q.1 == i) && (!(q.1 == i + 1) && !(q.1 + 1 == i && q.2.category == 2))))) : mm_L ad N nL ((i, v) :: lv) ls' := by
  refine ⟨hs.1, hs.2.1, fun j u hj => ?_⟩
  unfold mm_lk at hj
  by_cases e : i = j
  · rw [if_pos e] at hj
    cases hj
    subst e
    exact ⟨hs.2.2 (i, mm_rv ad v) List.mem_cons_self, hv⟩
  · rw [if_neg e] at hj
    obtain ⟨g1, g2⟩ := h.2.2 j u hj
    have hjn : j < nL := by rw [← h.1]; exact lv_lt g1
    refine ⟨hs.2.2 (j, mm_rv ad u) (List.mem_cons_of_mem _ (List.mem_filter.mpr ⟨List.mem_filterMap.mpr ⟨j, List.mem_range.mpr hjn, by rw [hj]; rfl⟩, ?_⟩)), g2⟩
    have e' : ¬ j = i := fun q => e q.symm
    have e3 : ¬ j = i + 1 := fun q => by rw [q, hc2] at hj; cases hj
    rw [mm_cat]
    by_cases e2 : j + 1 = i
    · subst e2
      simp only [mm_c1, hj, beq_iff_eq] at hc
      simp [hc, e3]
    · simp [e', e2, e3]
theorem mm_L.agree {ad ad' : Nat → Nat} {N N' nL : Nat} {lv : List (Nat × Value)} {ls : Array Slot} (h : mm_L ad N nL lv ls) (hN : N ≤ N') (ha : ∀ k, k < N ∨ k = mm_XT → ad' k = ad k) : mm_L ad' N' nL lv ls := by
  refine ⟨h.1, h.2.1, fun i v hv => ?_⟩
  obtain ⟨g1, g2⟩ := h.2.2 i v hv
  refine ⟨by rw [mm_rv_agree ha g2]; exact g1, fun k hk => ?_⟩
  rcases g2 k hk with q | q
  · exact Or.inl (Nat.lt_of_lt_of_le q hN)
  · exact Or.inr q
def mm_O (N : Nat) (st : List Value) : Prop := ∀ v ∈ st, mm_okv N v
theorem mm_O.cons {N : Nat} {v : Value} {st : List Value} (hv : mm_okv N v) (h : mm_O N st) : mm_O N (v :: st) := fun u hu => by
  rcases List.mem_cons.mp hu with rfl | hu
  · exact hv
  · exact h u hu
theorem mm_O.tail {N : Nat} {v : Value} {st : List Value} (h : mm_O N (v :: st)) : mm_O N st := fun u hu => h u (List.mem_cons_of_mem _ hu)
theorem mm_O.head {N : Nat} {v : Value} {st : List Value} (h : mm_O N (v :: st)) : mm_okv N v := h v List.mem_cons_self
theorem mm_O.nil {N : Nat} : mm_O N [] := fun _ h => nomatch h
theorem mm_O.mono {N M : Nat} {st : List Value} (hN : N ≤ M) (h : mm_O N st) : mm_O M st := fun v hv k hk => by
  rcases h v hv k hk with q | q
  · exact Or.inl (Nat.lt_of_lt_of_le q hN)
  · exact Or.inr q
theorem mm_O.agree {ad ad' : Nat → Nat} {N : Nat} {st : List Value} (h : mm_O N st) (ha : ∀ k, k < N ∨ k = mm_XT → ad' k = ad k) : st.map (mm_rv ad') = st.map (mm_rv ad) := List.map_congr_left (fun v hv => mm_rv_agree ha (h v hv))
theorem mm_okv_int {N : Nat} {x : Int32} : mm_okv N (.int x) := fun _ h => nomatch h
theorem mm_okv_long {N : Nat} {x : Int64} : mm_okv N (.long x) := fun _ h => nomatch h
theorem mm_okv_null {N : Nat} : mm_okv N .null := fun _ h => nomatch h
theorem mm_okv_ref {N k : Nat} (hk : k < N) : mm_okv N (.ref k) := fun j h => by cases h; exact Or.inl hk
/-- what holds of a method all the while -/
def mm_C (l : Launch) (y : MethodName) (cc : ByteArray) (nL : Nat) (ret : Option FieldType) (hh : List (Nat × Nat × Nat × Nat)) (ext : Option (Nat × (Nat → Int32))) (d : Nat) (p : Program) (R : Room) (s : State) (m : MethodId) (meth : Method) (c : Code) (D : va_G) (dA : FieldType → ClassId) (A : Nat → Prop) (ad0 : Nat → Nat) : Prop :=
  p.tables.exec = Jvm.exec ∧ c.code = cc ∧ c.maxLocals = nL ∧ meth.sig.returnType = ret ∧ s.vm.findClass y.cls = some m.cls ∧ meth.name = y.name ∧ meth.locks = false ∧ c.exceptionTable.toList = tableOf hh ∧ l.stackTraces = false ∧ d ≤ R.frames ∧ 40 * d ≤ R.locals ∧ mm_S D dA A s s.heap ∧ (∀ q, s.heap.size ≤ q → A q) ∧
  ∀ L xs, ext = some (L, xs) → va_X (ad0 mm_XT) L xs s s.heap ∧ ad0 mm_XT < s.heap.size ∧ ¬ A (ad0 mm_XT)
abbrev MZ : Type := Room → va_G → (FieldType → ClassId) → (Nat → Prop) → (Nat → Nat) → Nat → List Frame → Array Value → State → State → Prop
/-- the machine at pc with these locals, this stack, this world comes to its end -/
def Go (l : Launch) (y : MethodName) (cc : ByteArray) (nL : Nat) (ret : Option FieldType) (hh : List (Nat × Nat × Nat × Nat)) (ext : Option (Nat × (Nat → Int32))) (Z : MZ) (d bc bs : Nat) (pc : Nat) (lv : List (Nat × Value)) (st : List Value) (w : MW) : Prop :=
  ∀ (p : Program) (e : Env) (R : Room) (s : State) (m : MethodId) (args : Array Value) (below : List Frame) (meth : Method) (c : Code) (D : va_G) (dA : FieldType → ClassId) (A : Nat → Prop) (ad0 : Nat → Nat) (N0 : Nat), mm_C l y cc nL ret hh ext d p R s m meth c D dA A ad0 →
  ∀ (H : Heap) (locs : List Loc) (cells slots : Nat) (ad : Nat → Nat) (ls : Array Slot), cells + bc ≤ R.cells → slots + bs ≤ R.slots → mm_H D dA ad w H → va_D A (mm_ws ad dA w) → va_S A s.heap H locs → mm_ag ad0 ad N0 w.1 → mm_L ad w.1 nL lv ls → mm_O w.1 st →
  W p l e R s m args below meth c H locs cells slots (Z R D dA A ad0 N0 below args s) (F0 m pc ls (st.map (mm_rv ad)))
/-- the same with an exception of class E over the frame -/
def GoX (l : Launch) (y : MethodName) (cc : ByteArray) (nL : Nat) (ret : Option FieldType) (hh : List (Nat × Nat × Nat × Nat)) (ext : Option (Nat × (Nat → Int32))) (Z : MZ) (d bc bs : Nat) (pc : Nat) (lv : List (Nat × Value)) (E : String) (w : MW) : Prop :=
  ∀ (p : Program) (e : Env) (R : Room) (s : State) (m : MethodId) (args : Array Value) (below : List Frame) (meth : Method) (c : Code) (D : va_G) (dA : FieldType → ClassId) (A : Nat → Prop) (ad0 : Nat → Nat) (N0 : Nat), mm_C l y cc nL ret hh ext d p R s m meth c D dA A ad0 →
  ∀ (H : Heap) (locs : List Loc) (cells slots : Nat) (ad : Nat → Nat) (ls : Array Slot), cells + bc ≤ R.cells → slots + bs ≤ R.slots → mm_H D dA ad w H → va_D A (mm_ws ad dA w) → va_S A s.heap H locs → mm_ag ad0 ad N0 w.1 → mm_L ad w.1 nL lv ls →
  ∀ (q : Addr) (ce : Cell) (st : List Value), H[q]? = some ce → ce.vm = .none → s.vm.findClass E = some ce.cls →
  vx_W p l e R s m args below meth c H locs cells slots (Z R D dA A ad0 N0 below args s) (F0 m pc ls st) q
/-- a method's end: what it answers, or throws, and the world behind it -/
def mm_Qc (Q : MO → MW → Prop) (D : va_G) (dA : FieldType → ClassId) (A : Nat → Prop) (ad0 : Nat → Nat) (N0 : Nat) : Array Value → State → Outcome → State → Prop := fun _ st o t =>
  ∃ (v : Option Value) (w : MW) (ad : Nat → Nat), o = .returned (v.map (mm_rv ad)) ∧ Q (.inl v) w ∧ (∀ x, v = some x → mm_okv w.1 x) ∧ mm_H D dA ad w t.heap ∧ va_D A (mm_ws ad dA w) ∧ mm_ag ad0 ad N0 w.1 ∧ va_F A st t
def mm_XC (Q : MO → MW → Prop) (D : va_G) (dA : FieldType → ClassId) (A : Nat → Prop) (ad0 : Nat → Nat) (N0 : Nat) : String → State → State → Prop := fun E st t =>
  ∃ (w : MW) (ad : Nat → Nat), Q (.inr E) w ∧ mm_H D dA ad w t.heap ∧ va_D A (mm_ws ad dA w) ∧ mm_ag ad0 ad N0 w.1 ∧ va_F A st t
def mm_Z (Q : MO → MW → Prop) : MZ := fun R D dA A ad0 N0 below args s => vx_MQ below (mm_Qc Q D dA A ad0 N0) (mm_XC Q D dA A ad0 N0) args s R.cells R.slots A
def mm_Pc (D : va_G) (dA : FieldType → ClassId) (ad : Nat → Nat) (sz : Nat) (as : List Value) (w : MW) : Array Value → State → Prop := fun v U =>
  v = (as.map (mm_rv ad)).toArray ∧ U.heap.size = sz ∧ mm_H D dA ad w U.heap ∧ mm_S D dA (va_A (mm_ws ad dA w) sz) U U.heap ∧ va_D (fun _ => True) (mm_ws ad dA w) ∧ mm_O w.1 as
def mm_rm (d mc ms : Nat) : Room := { frames := d, cells := mc, slots := ms, locals := 40 * d }
def mm_eq (o : MO) (w : MW) : MO → MW → Prop := fun o' w' => o' = o ∧ w' = w
/-- a contract: called with these arguments in this world it ends so -/
def Ct (l : Launch) (hd : Cond) (y : MethodName) (d mc ms : Nat) (as : List Value) (w : MW) (o : MO) (w' : MW) : Prop :=
  l.stackTraces = false → ∀ (D : va_G) (dA : FieldType → ClassId) (ad : Nat → Nat) (sz : Nat), vx_Met l y [hd] (mm_rm d mc ms) (mm_Pc D dA ad sz as w) (mm_Qc (mm_eq o w') D dA (va_A (mm_ws ad dA w) sz) ad w.1) (mm_XC (mm_eq o w') D dA (va_A (mm_ws ad dA w) sz) ad w.1) mc ms (va_A (mm_ws ad dA w) sz)
theorem mm_Pc.blind {D : va_G} {dA : FieldType → ClassId} {ad : Nat → Nat} {sz : Nat} {as : List Value} {w : MW} : FrameBlind (mm_Pc D dA ad sz as w) := by
  intro a U g mk h
  obtain ⟨h1, h2, h3, h4, h5, h6⟩ := h
  exact ⟨h1, h2, h3, mm_S.warm (s := U) (U := U.calling g mk a) (State.WarmedH.refl U) h4, h5, h6⟩
end
section
theorem mm_lkargs {i : Nat} {as : List Value} {j : Nat} {v : Value} (h : mm_lk (lv_args i as) j = some v) : v ∈ as := by
  induction as generalizing i with
  | nil => cases h
  | cons a l ih =>
    unfold lv_args mm_lk at h
    by_cases e : i = j
    · rw [if_pos e] at h; cases h; exact List.mem_cons_self
    · rw [if_neg e] at h; exact List.mem_cons_of_mem _ (ih h)
theorem mm_lvargs_map {ad : Nat → Nat} {i : Nat} {as : List Value} : lv_args i (as.map (mm_rv ad)) = (lv_args i as).map (fun q => (q.1, mm_rv ad q.2)) := by
  induction as generalizing i with
  | nil => rfl
  | cons a l ih => simp only [List.map_cons, lv_args, mm_cat, ih]
theorem mm_sl_len {ad : Nat → Nat} {as : List Value} : (lg_sl (as.map (mm_rv ad))).length = (lg_sl as).length := by
  induction as with
  | nil => rfl
  | cons a l ih =>
    simp only [lg_sl, List.map_cons, List.flatMap_cons, List.length_append, mm_cat] at ih ⊢
    rw [ih]
    by_cases h : a.category = 2
    · simp [h]
    · simp [h]
/-- where a method begins -/
theorem mm_begin {l : Launch} {y : MethodName} {cc : ByteArray} {nL : Nat} {ret : Option FieldType} {hh : List (Nat × Nat × Nat × Nat)} {d mc ms : Nat} {as : List Value} {w : MW} {o : MO} {w' : MW} (hlen : (lg_sl as).length ≤ nL) (G : Go l y cc nL ret hh none (mm_Z (mm_eq o w')) d mc ms 0 (lv_args 0 as) [] w) (hl : l.stackTraces = false)
    {D : va_G} {dA : FieldType → ClassId} {ad : Nat → Nat} {sz : Nat} {hd : Cond} {p : Program} {e : Env} {s : State} {m : MethodId} {args : Array Value} {below : List Frame} {meth : Method} {c : Code} {s₁ : State} (B : BodyLoose p l y (headSpec [hd] (mm_rm d mc ms)) cc nL ret e s m args below meth c s₁) (hml : c.maxLocals = nL) (ht : c.exceptionTable.toList = tableOf hh) (hv : mm_Pc D dA ad sz as w args s) :
    W p l e (headSpec [hd] (mm_rm d mc ms)).room s m args below meth c s.heap [] 0 0 (vx_MQ below (mm_Qc (mm_eq o w') D dA (va_A (mm_ws ad dA w) sz) ad w.1) (mm_XC (mm_eq o w') D dA (va_A (mm_ws ad dA w) sz) ad w.1) args s mc ms (va_A (mm_ws ad dA w) sz)) (entryFrame m args nL) := by
  obtain ⟨ha, hsz, hH, hS, hD, hO⟩ := hv
  subst hsz
  have hC : mm_C l y cc nL ret hh none d p (mm_rm d mc ms) s m meth c D dA (va_A (mm_ws ad dA w) s.heap.size) ad := ⟨B.exec, B.bytes, hml, B.returns, findClass_of_methodNamed B.named, (name_of_methodNamed B.named B.method).1, B.notSynchronized, ht, hl, Nat.le_refl _, Nat.le_refl _, hS, fun q h => Or.inr h, fun _ _ h => nomatch h⟩
  subst ha
  rw [lg_entry_eq]
  have he := lv_entry (as.map (mm_rv ad)) (n := nL) (by rw [mm_sl_len]; exact hlen)
  have hL : mm_L ad w.1 nL (lv_args 0 as) ((lg_sl (as.map (mm_rv ad)) ++ List.replicate (nL - (lg_sl (as.map (mm_rv ad))).length) Slot.unset).toArray) := by
    refine ⟨he.1, he.2.1, fun i v hv => ⟨?_, hO v (mm_lkargs hv)⟩⟩
    refine he.2.2 (i, mm_rv ad v) ?_
    rw [mm_lvargs_map]
    exact List.mem_map.mpr ⟨(i, v), mm_lk_mem hv, rfl⟩
  exact G p e (mm_rm d mc ms) s m _ below meth c D dA (va_A (mm_ws ad dA w) s.heap.size) ad w.1 hC s.heap [] 0 0 ad _ (by show 0 + mc ≤ mc; omega) (by show 0 + ms ≤ ms; omega) hH hD.self va_S.rf ⟨Nat.le_refl _, fun _ _ => rfl⟩ hL mm_O.nil
theorem ct_of {l : Launch} {y : MethodName} {cc : ByteArray} {nL : Nat} {ret : Option FieldType} {d mc ms : Nat} {as : List Value} {w : MW} {o : MO} {w' : MW} (hy : plainName y.cls = true) (hlen : (lg_sl as).length ≤ nL) (G : Go l y cc nL ret [] none (mm_Z (mm_eq o w')) d mc ms 0 (lv_args 0 as) [] w) : Ct l (.code y cc nL ret) y d mc ms as w o w' := by
  intro hl D dA ad sz
  refine vx_ofW (cc := cc) (maxL := nL) (ret := ret) hy rfl ?_
  intro p e s m args below meth c s₁ B hml ht hv
  have ht' : c.exceptionTable.toList = tableOf [] := by
    cases h : c.exceptionTable.toList with
    | nil => rfl
    | cons a b => exact (ht a (by rw [h]; exact List.mem_cons_self)).elim
  exact mm_begin hlen G hl B hml ht' hv
theorem ct_ofH {l : Launch} {y : MethodName} {cc : ByteArray} {nL : Nat} {ret : Option FieldType} {hh : List (Nat × Nat × Nat × Nat)} {d mc ms : Nat} {as : List Value} {w : MW} {o : MO} {w' : MW} (hy : plainName y.cls = true) (hlen : (lg_sl as).length ≤ nL) (G : Go l y cc nL ret hh none (mm_Z (mm_eq o w')) d mc ms 0 (lv_args 0 as) [] w) : Ct l (.codeWith y cc nL ret hh) y d mc ms as w o w' := by
  intro hl D dA ad sz
  refine vx_ofWH (cc := cc) (maxL := nL) (ret := ret) (hh := hh) hy rfl ?_
  intro p e s m args below meth c s₁ B hml hv
  exact mm_begin hlen G hl B hml (vx_table (x := y) B (atoms_spec (ws := [Cond.codeWith y cc nL ret hh]) B.pre _ List.mem_cons_self)) hv
section ROWS
variable {l : Launch} {y : MethodName} {cc : ByteArray} {nL : Nat} {ret : Option FieldType} {hh : List (Nat × Nat × Nat × Nat)} {ext : Option (Nat × (Nat → Int32))} {Z : MZ} {d bc bs : Nat} {pc : Nat} {lv : List (Nat × Value)} {st : List Value} {w : MW}
theorem go_lv (lv0 : List (Nat × Value)) (hs : ∀ q ∈ lv0, mm_lk lv q.1 = some q.2) (h : Go l y cc nL ret hh ext Z d bc bs pc lv0 st w) : Go l y cc nL ret hh ext Z d bc bs pc lv st w := by
  intro p e R s m args below meth c D dA A ad0 N0 C H locs cells slots ad ls h1 h2 h3 h4 h5 h6 h7 h8
  exact h p e R s m args below meth c D dA A ad0 N0 C H locs cells slots ad ls h1 h2 h3 h4 h5 h6 ⟨h7.1, h7.2.1, fun i v hv => h7.2.2 i v (hs _ (mm_lk_mem hv))⟩ h8
theorem go_room {bc' bs' : Nat} (h1 : bc' ≤ bc) (h2 : bs' ≤ bs) (h : Go l y cc nL ret hh ext Z d bc' bs' pc lv st w) : Go l y cc nL ret hh ext Z d bc bs pc lv st w := by
  intro p e R s m args below meth c D dA A ad0 N0 C H locs cells slots ad ls g1 g2
  exact h p e R s m args below meth c D dA A ad0 N0 C H locs cells slots ad ls (by omega) (by omega)
theorem go_iload_n {k : Fin 4} {x : Int32} (hd : decode cc pc = .ok (.iload_n k, 1)) (hx : mm_lk lv k = some (.int x)) (h : Go l y cc nL ret hh ext Z d bc bs (pc + 1) lv (.int x :: st) w) : Go l y cc nL ret hh ext Z d bc bs pc lv st w := by
  intro p e R s m args below meth c D dA A ad0 N0 C H locs cells slots ad ls h1 h2 h3 h4 h5 h6 h7 h8
  exact lv_iload_n C.1 C.2.1 hd rfl (h7.2.2 _ _ hx).1 (h p e R s m args below meth c D dA A ad0 N0 C H locs cells slots ad ls h1 h2 h3 h4 h5 h6 h7 (mm_O.cons mm_okv_int h8))
end ROWS
end
section
section ROWS
variable {l : Launch} {y : MethodName} {cc : ByteArray} {nL : Nat} {ret : Option FieldType} {hh : List (Nat × Nat × Nat × Nat)} {ext : Option (Nat × (Nat → Int32))} {Z : MZ} {d bc bs : Nat} {pc : Nat} {lv : List (Nat × Value)} {st : List Value} {w : MW}
theorem go_iload {k : Nat} {x : Int32} (hd : decode cc pc = .ok (.iload k, 2)) (hx : mm_lk lv k = some (.int x)) (h : Go l y cc nL ret hh ext Z d bc bs (pc + 2) lv (.int x :: st) w) : Go l y cc nL ret hh ext Z d bc bs pc lv st w := by
  intro p e R s m args below meth c D dA A ad0 N0 C H locs cells slots ad ls h1 h2 h3 h4 h5 h6 h7 h8
  exact lv_iload C.1 C.2.1 hd (h7.2.2 _ _ hx).1 (h p e R s m args below meth c D dA A ad0 N0 C H locs cells slots ad ls h1 h2 h3 h4 h5 h6 h7 (mm_O.cons mm_okv_int h8))
theorem go_lload_n {k : Fin 4} {x : Int64} (hd : decode cc pc = .ok (.lload_n k, 1)) (hx : mm_lk lv k = some (.long x)) (h : Go l y cc nL ret hh ext Z d bc bs (pc + 1) lv (.long x :: st) w) : Go l y cc nL ret hh ext Z d bc bs pc lv st w := by
  intro p e R s m args below meth c D dA A ad0 N0 C H locs cells slots ad ls h1 h2 h3 h4 h5 h6 h7 h8
  exact lv_lload_n C.1 C.2.1 hd rfl (h7.2.2 _ _ hx).1 (h p e R s m args below meth c D dA A ad0 N0 C H locs cells slots ad ls h1 h2 h3 h4 h5 h6 h7 (mm_O.cons mm_okv_long h8))
theorem go_aload_n {k : Fin 4} {x : Nat} (hd : decode cc pc = .ok (.aload_n k, 1)) (hx : mm_lk lv k = some (.ref x)) (h : Go l y cc nL ret hh ext Z d bc bs (pc + 1) lv (.ref x :: st) w) : Go l y cc nL ret hh ext Z d bc bs pc lv st w := by
  intro p e R s m args below meth c D dA A ad0 N0 C H locs cells slots ad ls h1 h2 h3 h4 h5 h6 h7 h8
  exact lv_aload_n C.1 C.2.1 hd rfl (h7.2.2 _ _ hx).1 (h p e R s m args below meth c D dA A ad0 N0 C H locs cells slots ad ls h1 h2 h3 h4 h5 h6 h7 (mm_O.cons (h7.2.2 _ _ hx).2 h8))
theorem go_aload {k : Nat} {x : Nat} (hd : decode cc pc = .ok (.aload k, 2)) (hx : mm_lk lv k = some (.ref x)) (h : Go l y cc nL ret hh ext Z d bc bs (pc + 2) lv (.ref x :: st) w) : Go l y cc nL ret hh ext Z d bc bs pc lv st w := by
  intro p e R s m args below meth c D dA A ad0 N0 C H locs cells slots ad ls h1 h2 h3 h4 h5 h6 h7 h8
  exact lv_aload C.1 C.2.1 hd (h7.2.2 _ _ hx).1 (h p e R s m args below meth c D dA A ad0 N0 C H locs cells slots ad ls h1 h2 h3 h4 h5 h6 h7 (mm_O.cons (h7.2.2 _ _ hx).2 h8))
theorem go_istore_n {k : Fin 4} {x : Int32} (hd : decode cc pc = .ok (.istore_n k, 1)) (hn : (k : Nat) < nL) (hc : mm_c1 lv k = true) (h : Go l y cc nL ret hh ext Z d bc bs (pc + 1) (((k : Nat), .int x) :: lv) st w) : Go l y cc nL ret hh ext Z d bc bs pc lv (.int x :: st) w := by
  intro p e R s m args below meth c D dA A ad0 N0 C H locs cells slots ad ls h1 h2 h3 h4 h5 h6 h7 h8
  exact lv_istore_n C.1 C.2.1 hd rfl h7.has hn rfl (fun ls' hl' => (h p e R s m args below meth c D dA A ad0 N0 C H locs cells slots ad ls' h1 h2 h3 h4 h5 h6 (h7.put hc h8.head hl') h8.tail))
theorem go_istore {k : Nat} {x : Int32} (hd : decode cc pc = .ok (.istore k, 2)) (hn : k < nL) (hc : mm_c1 lv k = true) (h : Go l y cc nL ret hh ext Z d bc bs (pc + 2) ((k, .int x) :: lv) st w) : Go l y cc nL ret hh ext Z d bc bs pc lv (.int x :: st) w := by
  intro p e R s m args below meth c D dA A ad0 N0 C H locs cells slots ad ls h1 h2 h3 h4 h5 h6 h7 h8
  exact lv_istore C.1 C.2.1 hd h7.has hn rfl (fun ls' hl' => (h p e R s m args below meth c D dA A ad0 N0 C H locs cells slots ad ls' h1 h2 h3 h4 h5 h6 (h7.put hc h8.head hl') h8.tail))
theorem go_astore_n {k : Fin 4} {x : Nat} (hd : decode cc pc = .ok (.astore_n k, 1)) (hn : (k : Nat) < nL) (hc : mm_c1 lv k = true) (h : Go l y cc nL ret hh ext Z d bc bs (pc + 1) (((k : Nat), .ref x) :: lv) st w) : Go l y cc nL ret hh ext Z d bc bs pc lv (.ref x :: st) w := by
  intro p e R s m args below meth c D dA A ad0 N0 C H locs cells slots ad ls h1 h2 h3 h4 h5 h6 h7 h8
  exact lv_astore_n C.1 C.2.1 hd rfl h7.has hn rfl (fun ls' hl' => (h p e R s m args below meth c D dA A ad0 N0 C H locs cells slots ad ls' h1 h2 h3 h4 h5 h6 (h7.put hc h8.head hl') h8.tail))
theorem go_astore {k : Nat} {x : Nat} (hd : decode cc pc = .ok (.astore k, 2)) (hn : k < nL) (hc : mm_c1 lv k = true) (h : Go l y cc nL ret hh ext Z d bc bs (pc + 2) ((k, .ref x) :: lv) st w) : Go l y cc nL ret hh ext Z d bc bs pc lv (.ref x :: st) w := by
  intro p e R s m args below meth c D dA A ad0 N0 C H locs cells slots ad ls h1 h2 h3 h4 h5 h6 h7 h8
  exact lv_astore C.1 C.2.1 hd h7.has hn rfl (fun ls' hl' => (h p e R s m args below meth c D dA A ad0 N0 C H locs cells slots ad ls' h1 h2 h3 h4 h5 h6 (h7.put hc h8.head hl') h8.tail))
theorem go_lstore_n {k : Fin 4} {x : Int64} (hd : decode cc pc = .ok (.lstore_n k, 1)) (hn : (k : Nat) + 1 < nL) (hc : mm_c1 lv k = true) (hc2 : mm_lk lv ((k : Nat) + 1) = none) (h : Go l y cc nL ret hh ext Z d bc bs (pc + 1) (((k : Nat), .long x) :: lv) st w) : Go l y cc nL ret hh ext Z d bc bs pc lv (.long x :: st) w := by
  intro p e R s m args below meth c D dA A ad0 N0 C H locs cells slots ad ls h1 h2 h3 h4 h5 h6 h7 h8
  exact lv_lstore_n C.1 C.2.1 hd rfl h7.has hn rfl (fun ls' hl' => (h p e R s m args below meth c D dA A ad0 N0 C H locs cells slots ad ls' h1 h2 h3 h4 h5 h6 (h7.put2 hc hc2 h8.head hl') h8.tail))
theorem go_iinc {i : Nat} {n : Int} {x v : Int32} (hd : decode cc pc = .ok (.iinc i n, 3)) (hx : mm_lk lv i = some (.int x)) (hn : i < nL) (hc : mm_c1 lv i = true) (hv : x + Int32.ofInt n = v) (h : Go l y cc nL ret hh ext Z d bc bs (pc + 3) ((i, .int v) :: lv) st w) : Go l y cc nL ret hh ext Z d bc bs pc lv st w := by
  intro p e R s m args below meth c D dA A ad0 N0 C H locs cells slots ad ls h1 h2 h3 h4 h5 h6 h7 h8
  have hm : (i, Value.int x) ∈ (List.range nL).filterMap (fun j => (mm_lk lv j).map (fun v => (j, mm_rv ad v))) := List.mem_filterMap.mpr ⟨i, List.mem_range.mpr hn, by rw [hx]; rfl⟩
  obtain ⟨k, hk⟩ := List.getElem?_of_mem hm
  exact lv_iinc C.1 C.2.1 hd h7.has hk hv hn rfl (fun ls' hl' => (h p e R s m args below meth c D dA A ad0 N0 C H locs cells slots ad ls' h1 h2 h3 h4 h5 h6 (h7.put hc mm_okv_int hl') h8))
theorem go_iconst {n : Int} (v : Int32) (hd : decode cc pc = .ok (.iconst n, 1)) (hv : Int32.ofInt n = v) (h : Go l y cc nL ret hh ext Z d bc bs (pc + 1) lv (.int v :: st) w) : Go l y cc nL ret hh ext Z d bc bs pc lv st w := by
  intro p e R s m args below meth c D dA A ad0 N0 C H locs cells slots ad ls h1 h2 h3 h4 h5 h6 h7 h8
  exact lv_iconst C.1 C.2.1 hd hv (h p e R s m args below meth c D dA A ad0 N0 C H locs cells slots ad ls h1 h2 h3 h4 h5 h6 h7 (mm_O.cons mm_okv_int h8))
theorem go_bipush {n : Int} (v : Int32) (hd : decode cc pc = .ok (.bipush n, 2)) (hv : (Int8.ofInt n).toInt32 = v) (h : Go l y cc nL ret hh ext Z d bc bs (pc + 2) lv (.int v :: st) w) : Go l y cc nL ret hh ext Z d bc bs pc lv st w := by
  intro p e R s m args below meth c D dA A ad0 N0 C H locs cells slots ad ls h1 h2 h3 h4 h5 h6 h7 h8
  exact lv_bipush C.1 C.2.1 hd hv (h p e R s m args below meth c D dA A ad0 N0 C H locs cells slots ad ls h1 h2 h3 h4 h5 h6 h7 (mm_O.cons mm_okv_int h8))
theorem go_sipush {n : Int} (v : Int32) (hd : decode cc pc = .ok (.sipush n, 3)) (hv : (Int16.ofInt n).toInt32 = v) (h : Go l y cc nL ret hh ext Z d bc bs (pc + 3) lv (.int v :: st) w) : Go l y cc nL ret hh ext Z d bc bs pc lv st w := by
  intro p e R s m args below meth c D dA A ad0 N0 C H locs cells slots ad ls h1 h2 h3 h4 h5 h6 h7 h8
  exact lv_sipush C.1 C.2.1 hd hv (h p e R s m args below meth c D dA A ad0 N0 C H locs cells slots ad ls h1 h2 h3 h4 h5 h6 h7 (mm_O.cons mm_okv_int h8))
theorem go_ldc {idx : Nat} {v : Int32} (hd : decode cc pc = .ok (.ldc idx, 2)) (hv : Cond.constant y.cls idx v ∈ mm_GW) (h : Go l y cc nL ret hh ext Z d bc bs (pc + 2) lv (.int v :: st) w) : Go l y cc nL ret hh ext Z d bc bs pc lv st w := by
  intro p e R s m args below meth c D dA A ad0 N0 C H locs cells slots ad ls h1 h2 h3 h4 h5 h6 h7 h8
  exact lv_ldc C.1 C.2.1 C.2.2.2.2.1 (C.2.2.2.2.2.2.2.2.2.2.2.1.1.hts _ hv) hd (h p e R s m args below meth c D dA A ad0 N0 C H locs cells slots ad ls h1 h2 h3 h4 h5 h6 h7 (mm_O.cons mm_okv_int h8))
theorem go_ldc2 {idx : Nat} {v : Int64} (hd : decode cc pc = .ok (.ldc2_w idx, 3)) (hv : Cond.constantLong y.cls idx v ∈ mm_GW) (h : Go l y cc nL ret hh ext Z d bc bs (pc + 3) lv (.long v :: st) w) : Go l y cc nL ret hh ext Z d bc bs pc lv st w := by
  intro p e R s m args below meth c D dA A ad0 N0 C H locs cells slots ad ls h1 h2 h3 h4 h5 h6 h7 h8
  exact lv_ldc2 C.1 C.2.1 C.2.2.2.2.1 (C.2.2.2.2.2.2.2.2.2.2.2.1.1.hts _ hv) hd (h p e R s m args below meth c D dA A ad0 N0 C H locs cells slots ad ls h1 h2 h3 h4 h5 h6 h7 (mm_O.cons mm_okv_long h8))
theorem go_iadd {x z : Int32} (hd : decode cc pc = .ok (.iadd, 1)) (h : Go l y cc nL ret hh ext Z d bc bs (pc + 1) lv (.int (x + z) :: st) w) : Go l y cc nL ret hh ext Z d bc bs pc lv (.int z :: .int x :: st) w := by
  intro p e R s m args below meth c D dA A ad0 N0 C H locs cells slots ad ls h1 h2 h3 h4 h5 h6 h7 h8
  exact lv_iadd C.1 C.2.1 hd (h p e R s m args below meth c D dA A ad0 N0 C H locs cells slots ad ls h1 h2 h3 h4 h5 h6 h7 (mm_O.cons mm_okv_int h8.tail.tail))
theorem go_isub {x z : Int32} (hd : decode cc pc = .ok (.isub, 1)) (h : Go l y cc nL ret hh ext Z d bc bs (pc + 1) lv (.int (x - z) :: st) w) : Go l y cc nL ret hh ext Z d bc bs pc lv (.int z :: .int x :: st) w := by
  intro p e R s m args below meth c D dA A ad0 N0 C H locs cells slots ad ls h1 h2 h3 h4 h5 h6 h7 h8
  exact lv_isub C.1 C.2.1 hd (h p e R s m args below meth c D dA A ad0 N0 C H locs cells slots ad ls h1 h2 h3 h4 h5 h6 h7 (mm_O.cons mm_okv_int h8.tail.tail))
theorem go_imul {x z : Int32} (hd : decode cc pc = .ok (.imul, 1)) (h : Go l y cc nL ret hh ext Z d bc bs (pc + 1) lv (.int (x * z) :: st) w) : Go l y cc nL ret hh ext Z d bc bs pc lv (.int z :: .int x :: st) w := by
  intro p e R s m args below meth c D dA A ad0 N0 C H locs cells slots ad ls h1 h2 h3 h4 h5 h6 h7 h8
  exact lv_imul C.1 C.2.1 hd (h p e R s m args below meth c D dA A ad0 N0 C H locs cells slots ad ls h1 h2 h3 h4 h5 h6 h7 (mm_O.cons mm_okv_int h8.tail.tail))
theorem go_iand {x z : Int32} (hd : decode cc pc = .ok (.iand, 1)) (h : Go l y cc nL ret hh ext Z d bc bs (pc + 1) lv (.int (x &&& z) :: st) w) : Go l y cc nL ret hh ext Z d bc bs pc lv (.int z :: .int x :: st) w := by
  intro p e R s m args below meth c D dA A ad0 N0 C H locs cells slots ad ls h1 h2 h3 h4 h5 h6 h7 h8
  exact lv_iand C.1 C.2.1 hd (h p e R s m args below meth c D dA A ad0 N0 C H locs cells slots ad ls h1 h2 h3 h4 h5 h6 h7 (mm_O.cons mm_okv_int h8.tail.tail))
theorem go_ior {x z : Int32} (hd : decode cc pc = .ok (.ior, 1)) (h : Go l y cc nL ret hh ext Z d bc bs (pc + 1) lv (.int (x ||| z) :: st) w) : Go l y cc nL ret hh ext Z d bc bs pc lv (.int z :: .int x :: st) w := by
  intro p e R s m args below meth c D dA A ad0 N0 C H locs cells slots ad ls h1 h2 h3 h4 h5 h6 h7 h8
  exact lv_ior C.1 C.2.1 hd (h p e R s m args below meth c D dA A ad0 N0 C H locs cells slots ad ls h1 h2 h3 h4 h5 h6 h7 (mm_O.cons mm_okv_int h8.tail.tail))
theorem go_ishl {x z : Int32} (hd : decode cc pc = .ok (.ishl, 1)) (h : Go l y cc nL ret hh ext Z d bc bs (pc + 1) lv (.int (x <<< (z &&& 31)) :: st) w) : Go l y cc nL ret hh ext Z d bc bs pc lv (.int z :: .int x :: st) w := by
  intro p e R s m args below meth c D dA A ad0 N0 C H locs cells slots ad ls h1 h2 h3 h4 h5 h6 h7 h8
  exact lv_ishl C.1 C.2.1 hd (h p e R s m args below meth c D dA A ad0 N0 C H locs cells slots ad ls h1 h2 h3 h4 h5 h6 h7 (mm_O.cons mm_okv_int h8.tail.tail))
theorem go_ishr {x z : Int32} (hd : decode cc pc = .ok (.ishr, 1)) (h : Go l y cc nL ret hh ext Z d bc bs (pc + 1) lv (.int (x >>> (z &&& 31)) :: st) w) : Go l y cc nL ret hh ext Z d bc bs pc lv (.int z :: .int x :: st) w := by
  intro p e R s m args below meth c D dA A ad0 N0 C H locs cells slots ad ls h1 h2 h3 h4 h5 h6 h7 h8
  exact lv_ishr C.1 C.2.1 hd (h p e R s m args below meth c D dA A ad0 N0 C H locs cells slots ad ls h1 h2 h3 h4 h5 h6 h7 (mm_O.cons mm_okv_int h8.tail.tail))
theorem go_idiv {x z : Int32} (hd : decode cc pc = .ok (.idiv, 1)) (hne : ¬ z = 0) (h : Go l y cc nL ret hh ext Z d bc bs (pc + 1) lv (.int (x / z) :: st) w) : Go l y cc nL ret hh ext Z d bc bs pc lv (.int z :: .int x :: st) w := by
  intro p e R s m args below meth c D dA A ad0 N0 C H locs cells slots ad ls h1 h2 h3 h4 h5 h6 h7 h8
  exact lv_idiv C.1 C.2.1 hd hne (h p e R s m args below meth c D dA A ad0 N0 C H locs cells slots ad ls h1 h2 h3 h4 h5 h6 h7 (mm_O.cons mm_okv_int h8.tail.tail))
theorem go_irem {x z : Int32} (hd : decode cc pc = .ok (.irem, 1)) (hne : ¬ z = 0) (h : Go l y cc nL ret hh ext Z d bc bs (pc + 1) lv (.int (x - x / z * z) :: st) w) : Go l y cc nL ret hh ext Z d bc bs pc lv (.int z :: .int x :: st) w := by
  intro p e R s m args below meth c D dA A ad0 N0 C H locs cells slots ad ls h1 h2 h3 h4 h5 h6 h7 h8
  exact lv_irem C.1 C.2.1 hd hne (h p e R s m args below meth c D dA A ad0 N0 C H locs cells slots ad ls h1 h2 h3 h4 h5 h6 h7 (mm_O.cons mm_okv_int h8.tail.tail))
theorem go_ladd {x z : Int64} (hd : decode cc pc = .ok (.ladd, 1)) (h : Go l y cc nL ret hh ext Z d bc bs (pc + 1) lv (.long (x + z) :: st) w) : Go l y cc nL ret hh ext Z d bc bs pc lv (.long z :: .long x :: st) w := by
  intro p e R s m args below meth c D dA A ad0 N0 C H locs cells slots ad ls h1 h2 h3 h4 h5 h6 h7 h8
  exact lv_ladd C.1 C.2.1 hd (h p e R s m args below meth c D dA A ad0 N0 C H locs cells slots ad ls h1 h2 h3 h4 h5 h6 h7 (mm_O.cons mm_okv_long h8.tail.tail))
theorem go_lmul {x z : Int64} (hd : decode cc pc = .ok (.lmul, 1)) (h : Go l y cc nL ret hh ext Z d bc bs (pc + 1) lv (.long (x * z) :: st) w) : Go l y cc nL ret hh ext Z d bc bs pc lv (.long z :: .long x :: st) w := by
  intro p e R s m args below meth c D dA A ad0 N0 C H locs cells slots ad ls h1 h2 h3 h4 h5 h6 h7 h8
  exact lv_lmul C.1 C.2.1 hd (h p e R s m args below meth c D dA A ad0 N0 C H locs cells slots ad ls h1 h2 h3 h4 h5 h6 h7 (mm_O.cons mm_okv_long h8.tail.tail))
theorem go_ldiv {x z : Int64} (hd : decode cc pc = .ok (.ldiv, 1)) (hne : ¬ z = 0) (h : Go l y cc nL ret hh ext Z d bc bs (pc + 1) lv (.long (x / z) :: st) w) : Go l y cc nL ret hh ext Z d bc bs pc lv (.long z :: .long x :: st) w := by
  intro p e R s m args below meth c D dA A ad0 N0 C H locs cells slots ad ls h1 h2 h3 h4 h5 h6 h7 h8
  exact lv_ldiv C.1 C.2.1 hd hne (h p e R s m args below meth c D dA A ad0 N0 C H locs cells slots ad ls h1 h2 h3 h4 h5 h6 h7 (mm_O.cons mm_okv_long h8.tail.tail))
theorem go_lrem {x z : Int64} (hd : decode cc pc = .ok (.lrem, 1)) (hne : ¬ z = 0) (h : Go l y cc nL ret hh ext Z d bc bs (pc + 1) lv (.long (x - x / z * z) :: st) w) : Go l y cc nL ret hh ext Z d bc bs pc lv (.long z :: .long x :: st) w := by
  intro p e R s m args below meth c D dA A ad0 N0 C H locs cells slots ad ls h1 h2 h3 h4 h5 h6 h7 h8
  exact lv_lrem C.1 C.2.1 hd hne (h p e R s m args below meth c D dA A ad0 N0 C H locs cells slots ad ls h1 h2 h3 h4 h5 h6 h7 (mm_O.cons mm_okv_long h8.tail.tail))
theorem go_iushr {x z v : Int32} (hd : decode cc pc = .ok (.iushr, 1)) (hv : (x.toUInt32 >>> (z.toUInt32 &&& Int32.toUInt32 31)).toInt32 = v) (h : Go l y cc nL ret hh ext Z d bc bs (pc + 1) lv (.int v :: st) w) : Go l y cc nL ret hh ext Z d bc bs pc lv (.int z :: .int x :: st) w := by
  intro p e R s m args below meth c D dA A ad0 N0 C H locs cells slots ad ls h1 h2 h3 h4 h5 h6 h7 h8
  exact lv_iushr C.1 C.2.1 hd hv (h p e R s m args below meth c D dA A ad0 N0 C H locs cells slots ad ls h1 h2 h3 h4 h5 h6 h7 (mm_O.cons mm_okv_int h8.tail.tail))
theorem go_lcmp {x z : Int64} (hd : decode cc pc = .ok (.lcmp, 1)) (h : Go l y cc nL ret hh ext Z d bc bs (pc + 1) lv (.int (lg_cmp x z) :: st) w) : Go l y cc nL ret hh ext Z d bc bs pc lv (.long z :: .long x :: st) w := by
  intro p e R s m args below meth c D dA A ad0 N0 C H locs cells slots ad ls h1 h2 h3 h4 h5 h6 h7 h8
  exact W.lcmp C.1 C.2.1 hd (h p e R s m args below meth c D dA A ad0 N0 C H locs cells slots ad ls h1 h2 h3 h4 h5 h6 h7 (mm_O.cons mm_okv_int h8.tail.tail))
theorem go_ineg {x : Int32} (hd : decode cc pc = .ok (.ineg, 1)) (h : Go l y cc nL ret hh ext Z d bc bs (pc + 1) lv (.int (-x) :: st) w) : Go l y cc nL ret hh ext Z d bc bs pc lv (.int x :: st) w := by
  intro p e R s m args below meth c D dA A ad0 N0 C H locs cells slots ad ls h1 h2 h3 h4 h5 h6 h7 h8
  exact lv_ineg C.1 C.2.1 hd (h p e R s m args below meth c D dA A ad0 N0 C H locs cells slots ad ls h1 h2 h3 h4 h5 h6 h7 (mm_O.cons mm_okv_int h8.tail))
theorem go_i2l {x : Int32} (hd : decode cc pc = .ok (.i2l, 1)) (h : Go l y cc nL ret hh ext Z d bc bs (pc + 1) lv (.long x.toInt64 :: st) w) : Go l y cc nL ret hh ext Z d bc bs pc lv (.int x :: st) w := by
  intro p e R s m args below meth c D dA A ad0 N0 C H locs cells slots ad ls h1 h2 h3 h4 h5 h6 h7 h8
  exact lv_i2l C.1 C.2.1 hd rfl (h p e R s m args below meth c D dA A ad0 N0 C H locs cells slots ad ls h1 h2 h3 h4 h5 h6 h7 (mm_O.cons mm_okv_long h8.tail))
theorem go_l2i {x : Int64} (hd : decode cc pc = .ok (.l2i, 1)) (h : Go l y cc nL ret hh ext Z d bc bs (pc + 1) lv (.int x.toInt32 :: st) w) : Go l y cc nL ret hh ext Z d bc bs pc lv (.long x :: st) w := by
  intro p e R s m args below meth c D dA A ad0 N0 C H locs cells slots ad ls h1 h2 h3 h4 h5 h6 h7 h8
  exact lv_l2i C.1 C.2.1 hd rfl (h p e R s m args below meth c D dA A ad0 N0 C H locs cells slots ad ls h1 h2 h3 h4 h5 h6 h7 (mm_O.cons mm_okv_int h8.tail))
theorem go_i2c {x : Int32} (hd : decode cc pc = .ok (.i2c, 1)) (h : Go l y cc nL ret hh ext Z d bc bs (pc + 1) lv (.int (x.toUInt32 % 65536).toInt32 :: st) w) : Go l y cc nL ret hh ext Z d bc bs pc lv (.int x :: st) w := by
  intro p e R s m args below meth c D dA A ad0 N0 C H locs cells slots ad ls h1 h2 h3 h4 h5 h6 h7 h8
  exact lv_i2c C.1 C.2.1 hd rfl (h p e R s m args below meth c D dA A ad0 N0 C H locs cells slots ad ls h1 h2 h3 h4 h5 h6 h7 (mm_O.cons mm_okv_int h8.tail))
theorem go_dup {v : Value} (hd : decode cc pc = .ok (.dup, 1)) (hv : v.category = 1) (h : Go l y cc nL ret hh ext Z d bc bs (pc + 1) lv (v :: v :: st) w) : Go l y cc nL ret hh ext Z d bc bs pc lv (v :: st) w := by
  intro p e R s m args below meth c D dA A ad0 N0 C H locs cells slots ad ls h1 h2 h3 h4 h5 h6 h7 h8
  exact lv_dup C.1 C.2.1 hd ((mm_cat ad v).trans hv) (h p e R s m args below meth c D dA A ad0 N0 C H locs cells slots ad ls h1 h2 h3 h4 h5 h6 h7 (mm_O.cons h8.head h8))
theorem go_pop {v : Value} (hd : decode cc pc = .ok (.pop, 1)) (hv : v.category = 1) (h : Go l y cc nL ret hh ext Z d bc bs (pc + 1) lv st w) : Go l y cc nL ret hh ext Z d bc bs pc lv (v :: st) w := by
  intro p e R s m args below meth c D dA A ad0 N0 C H locs cells slots ad ls h1 h2 h3 h4 h5 h6 h7 h8
  exact lv_pop C.1 C.2.1 hd ((mm_cat ad v).trans hv) (h p e R s m args below meth c D dA A ad0 N0 C H locs cells slots ad ls h1 h2 h3 h4 h5 h6 h7 h8.tail)
theorem go_dup2 {v u : Value} (hd : decode cc pc = .ok (.dup2, 1)) (hv : v.category = 1) (hu : u.category = 1) (h : Go l y cc nL ret hh ext Z d bc bs (pc + 1) lv (v :: u :: v :: u :: st) w) : Go l y cc nL ret hh ext Z d bc bs pc lv (v :: u :: st) w := by
  intro p e R s m args below meth c D dA A ad0 N0 C H locs cells slots ad ls h1 h2 h3 h4 h5 h6 h7 h8
  exact lv_dup2_11 C.1 C.2.1 hd ((mm_cat ad v).trans hv) ((mm_cat ad u).trans hu) (h p e R s m args below meth c D dA A ad0 N0 C H locs cells slots ad ls h1 h2 h3 h4 h5 h6 h7 (mm_O.cons h8.head (mm_O.cons h8.tail.head h8)))
theorem go_if_eq {x : Int32} {off : Int} (tgt : Nat) (hd : decode cc pc = .ok (.ifCond .eq off, 3)) (ht : (pc : Int) + off = (tgt : Int)) (kt : x = 0 → Go l y cc nL ret hh ext Z d bc bs tgt lv st w) (kf : ¬ (x = 0) → Go l y cc nL ret hh ext Z d bc bs (pc + 3) lv st w) : Go l y cc nL ret hh ext Z d bc bs pc lv (.int x :: st) w := by
  intro p e R s m args below meth c D dA A ad0 N0 C H locs cells slots ad ls h1 h2 h3 h4 h5 h6 h7 h8
  exact lv_if_eq C.1 C.2.1 hd ht (fun q => (kt q p e R s m args below meth c D dA A ad0 N0 C H locs cells slots ad ls h1 h2 h3 h4 h5 h6 h7 h8.tail)) (fun q => (kf q p e R s m args below meth c D dA A ad0 N0 C H locs cells slots ad ls h1 h2 h3 h4 h5 h6 h7 h8.tail))
theorem go_icmp_eq {x z : Int32} {off : Int} (tgt : Nat) (hd : decode cc pc = .ok (.if_icmp .eq off, 3)) (ht : (pc : Int) + off = (tgt : Int)) (kt : x = z → Go l y cc nL ret hh ext Z d bc bs tgt lv st w) (kf : ¬ (x = z) → Go l y cc nL ret hh ext Z d bc bs (pc + 3) lv st w) : Go l y cc nL ret hh ext Z d bc bs pc lv (.int z :: .int x :: st) w := by
  intro p e R s m args below meth c D dA A ad0 N0 C H locs cells slots ad ls h1 h2 h3 h4 h5 h6 h7 h8
  exact lv_icmp_eq C.1 C.2.1 hd ht (fun q => (kt q p e R s m args below meth c D dA A ad0 N0 C H locs cells slots ad ls h1 h2 h3 h4 h5 h6 h7 h8.tail.tail)) (fun q => (kf q p e R s m args below meth c D dA A ad0 N0 C H locs cells slots ad ls h1 h2 h3 h4 h5 h6 h7 h8.tail.tail))
theorem go_if_ne {x : Int32} {off : Int} (tgt : Nat) (hd : decode cc pc = .ok (.ifCond .ne off, 3)) (ht : (pc : Int) + off = (tgt : Int)) (kt : x ≠ 0 → Go l y cc nL ret hh ext Z d bc bs tgt lv st w) (kf : x = 0 → Go l y cc nL ret hh ext Z d bc bs (pc + 3) lv st w) : Go l y cc nL ret hh ext Z d bc bs pc lv (.int x :: st) w := by
  intro p e R s m args below meth c D dA A ad0 N0 C H locs cells slots ad ls h1 h2 h3 h4 h5 h6 h7 h8
  exact lv_if_ne C.1 C.2.1 hd ht (fun q => (kt q p e R s m args below meth c D dA A ad0 N0 C H locs cells slots ad ls h1 h2 h3 h4 h5 h6 h7 h8.tail)) (fun q => (kf q p e R s m args below meth c D dA A ad0 N0 C H locs cells slots ad ls h1 h2 h3 h4 h5 h6 h7 h8.tail))
theorem go_icmp_ne {x z : Int32} {off : Int} (tgt : Nat) (hd : decode cc pc = .ok (.if_icmp .ne off, 3)) (ht : (pc : Int) + off = (tgt : Int)) (kt : x ≠ z → Go l y cc nL ret hh ext Z d bc bs tgt lv st w) (kf : x = z → Go l y cc nL ret hh ext Z d bc bs (pc + 3) lv st w) : Go l y cc nL ret hh ext Z d bc bs pc lv (.int z :: .int x :: st) w := by
  intro p e R s m args below meth c D dA A ad0 N0 C H locs cells slots ad ls h1 h2 h3 h4 h5 h6 h7 h8
  exact lv_icmp_ne C.1 C.2.1 hd ht (fun q => (kt q p e R s m args below meth c D dA A ad0 N0 C H locs cells slots ad ls h1 h2 h3 h4 h5 h6 h7 h8.tail.tail)) (fun q => (kf q p e R s m args below meth c D dA A ad0 N0 C H locs cells slots ad ls h1 h2 h3 h4 h5 h6 h7 h8.tail.tail))
theorem go_if_lt {x : Int32} {off : Int} (tgt : Nat) (hd : decode cc pc = .ok (.ifCond .lt off, 3)) (ht : (pc : Int) + off = (tgt : Int)) (kt : x < 0 → Go l y cc nL ret hh ext Z d bc bs tgt lv st w) (kf : ¬ (x < 0) → Go l y cc nL ret hh ext Z d bc bs (pc + 3) lv st w) : Go l y cc nL ret hh ext Z d bc bs pc lv (.int x :: st) w := by
  intro p e R s m args below meth c D dA A ad0 N0 C H locs cells slots ad ls h1 h2 h3 h4 h5 h6 h7 h8
  exact lv_if_lt C.1 C.2.1 hd ht (fun q => (kt q p e R s m args below meth c D dA A ad0 N0 C H locs cells slots ad ls h1 h2 h3 h4 h5 h6 h7 h8.tail)) (fun q => (kf q p e R s m args below meth c D dA A ad0 N0 C H locs cells slots ad ls h1 h2 h3 h4 h5 h6 h7 h8.tail))
theorem go_icmp_lt {x z : Int32} {off : Int} (tgt : Nat) (hd : decode cc pc = .ok (.if_icmp .lt off, 3)) (ht : (pc : Int) + off = (tgt : Int)) (kt : x < z → Go l y cc nL ret hh ext Z d bc bs tgt lv st w) (kf : ¬ (x < z) → Go l y cc nL ret hh ext Z d bc bs (pc + 3) lv st w) : Go l y cc nL ret hh ext Z d bc bs pc lv (.int z :: .int x :: st) w := by
  intro p e R s m args below meth c D dA A ad0 N0 C H locs cells slots ad ls h1 h2 h3 h4 h5 h6 h7 h8
  exact lv_icmp_lt C.1 C.2.1 hd ht (fun q => (kt q p e R s m args below meth c D dA A ad0 N0 C H locs cells slots ad ls h1 h2 h3 h4 h5 h6 h7 h8.tail.tail)) (fun q => (kf q p e R s m args below meth c D dA A ad0 N0 C H locs cells slots ad ls h1 h2 h3 h4 h5 h6 h7 h8.tail.tail))
theorem go_if_ge {x : Int32} {off : Int} (tgt : Nat) (hd : decode cc pc = .ok (.ifCond .ge off, 3)) (ht : (pc : Int) + off = (tgt : Int)) (kt : 0 ≤ x → Go l y cc nL ret hh ext Z d bc bs tgt lv st w) (kf : ¬ (0 ≤ x) → Go l y cc nL ret hh ext Z d bc bs (pc + 3) lv st w) : Go l y cc nL ret hh ext Z d bc bs pc lv (.int x :: st) w := by
  intro p e R s m args below meth c D dA A ad0 N0 C H locs cells slots ad ls h1 h2 h3 h4 h5 h6 h7 h8
  exact lv_if_ge C.1 C.2.1 hd ht (fun q => (kt q p e R s m args below meth c D dA A ad0 N0 C H locs cells slots ad ls h1 h2 h3 h4 h5 h6 h7 h8.tail)) (fun q => (kf q p e R s m args below meth c D dA A ad0 N0 C H locs cells slots ad ls h1 h2 h3 h4 h5 h6 h7 h8.tail))
theorem go_icmp_ge {x z : Int32} {off : Int} (tgt : Nat) (hd : decode cc pc = .ok (.if_icmp .ge off, 3)) (ht : (pc : Int) + off = (tgt : Int)) (kt : z ≤ x → Go l y cc nL ret hh ext Z d bc bs tgt lv st w) (kf : ¬ (z ≤ x) → Go l y cc nL ret hh ext Z d bc bs (pc + 3) lv st w) : Go l y cc nL ret hh ext Z d bc bs pc lv (.int z :: .int x :: st) w := by
  intro p e R s m args below meth c D dA A ad0 N0 C H locs cells slots ad ls h1 h2 h3 h4 h5 h6 h7 h8
  exact lv_icmp_ge C.1 C.2.1 hd ht (fun q => (kt q p e R s m args below meth c D dA A ad0 N0 C H locs cells slots ad ls h1 h2 h3 h4 h5 h6 h7 h8.tail.tail)) (fun q => (kf q p e R s m args below meth c D dA A ad0 N0 C H locs cells slots ad ls h1 h2 h3 h4 h5 h6 h7 h8.tail.tail))
theorem go_if_gt {x : Int32} {off : Int} (tgt : Nat) (hd : decode cc pc = .ok (.ifCond .gt off, 3)) (ht : (pc : Int) + off = (tgt : Int)) (kt : 0 < x → Go l y cc nL ret hh ext Z d bc bs tgt lv st w) (kf : ¬ (0 < x) → Go l y cc nL ret hh ext Z d bc bs (pc + 3) lv st w) : Go l y cc nL ret hh ext Z d bc bs pc lv (.int x :: st) w := by
  intro p e R s m args below meth c D dA A ad0 N0 C H locs cells slots ad ls h1 h2 h3 h4 h5 h6 h7 h8
  exact lv_if_gt C.1 C.2.1 hd ht (fun q => (kt q p e R s m args below meth c D dA A ad0 N0 C H locs cells slots ad ls h1 h2 h3 h4 h5 h6 h7 h8.tail)) (fun q => (kf q p e R s m args below meth c D dA A ad0 N0 C H locs cells slots ad ls h1 h2 h3 h4 h5 h6 h7 h8.tail))
theorem go_icmp_gt {x z : Int32} {off : Int} (tgt : Nat) (hd : decode cc pc = .ok (.if_icmp .gt off, 3)) (ht : (pc : Int) + off = (tgt : Int)) (kt : z < x → Go l y cc nL ret hh ext Z d bc bs tgt lv st w) (kf : ¬ (z < x) → Go l y cc nL ret hh ext Z d bc bs (pc + 3) lv st w) : Go l y cc nL ret hh ext Z d bc bs pc lv (.int z :: .int x :: st) w := by
  intro p e R s m args below meth c D dA A ad0 N0 C H locs cells slots ad ls h1 h2 h3 h4 h5 h6 h7 h8
  exact lv_icmp_gt C.1 C.2.1 hd ht (fun q => (kt q p e R s m args below meth c D dA A ad0 N0 C H locs cells slots ad ls h1 h2 h3 h4 h5 h6 h7 h8.tail.tail)) (fun q => (kf q p e R s m args below meth c D dA A ad0 N0 C H locs cells slots ad ls h1 h2 h3 h4 h5 h6 h7 h8.tail.tail))
theorem go_if_le {x : Int32} {off : Int} (tgt : Nat) (hd : decode cc pc = .ok (.ifCond .le off, 3)) (ht : (pc : Int) + off = (tgt : Int)) (kt : x ≤ 0 → Go l y cc nL ret hh ext Z d bc bs tgt lv st w) (kf : ¬ (x ≤ 0) → Go l y cc nL ret hh ext Z d bc bs (pc + 3) lv st w) : Go l y cc nL ret hh ext Z d bc bs pc lv (.int x :: st) w := by
  intro p e R s m args below meth c D dA A ad0 N0 C H locs cells slots ad ls h1 h2 h3 h4 h5 h6 h7 h8
  exact lv_if_le C.1 C.2.1 hd ht (fun q => (kt q p e R s m args below meth c D dA A ad0 N0 C H locs cells slots ad ls h1 h2 h3 h4 h5 h6 h7 h8.tail)) (fun q => (kf q p e R s m args below meth c D dA A ad0 N0 C H locs cells slots ad ls h1 h2 h3 h4 h5 h6 h7 h8.tail))
theorem go_icmp_le {x z : Int32} {off : Int} (tgt : Nat) (hd : decode cc pc = .ok (.if_icmp .le off, 3)) (ht : (pc : Int) + off = (tgt : Int)) (kt : x ≤ z → Go l y cc nL ret hh ext Z d bc bs tgt lv st w) (kf : ¬ (x ≤ z) → Go l y cc nL ret hh ext Z d bc bs (pc + 3) lv st w) : Go l y cc nL ret hh ext Z d bc bs pc lv (.int z :: .int x :: st) w := by
  intro p e R s m args below meth c D dA A ad0 N0 C H locs cells slots ad ls h1 h2 h3 h4 h5 h6 h7 h8
  exact lv_icmp_le C.1 C.2.1 hd ht (fun q => (kt q p e R s m args below meth c D dA A ad0 N0 C H locs cells slots ad ls h1 h2 h3 h4 h5 h6 h7 h8.tail.tail)) (fun q => (kf q p e R s m args below meth c D dA A ad0 N0 C H locs cells slots ad ls h1 h2 h3 h4 h5 h6 h7 h8.tail.tail))
theorem go_goto {off : Int} (tgt : Nat) (hd : decode cc pc = .ok (.goto off, 3)) (ht : (pc : Int) + off = (tgt : Int)) (h : Go l y cc nL ret hh ext Z d bc bs tgt lv st w) : Go l y cc nL ret hh ext Z d bc bs pc lv st w := by
  intro p e R s m args below meth c D dA A ad0 N0 C H locs cells slots ad ls h1 h2 h3 h4 h5 h6 h7 h8
  exact lv_goto C.1 C.2.1 hd ht (h p e R s m args below meth c D dA A ad0 N0 C H locs cells slots ad ls h1 h2 h3 h4 h5 h6 h7 h8)
theorem go_ifnull {off : Int} {a : Nat} (hd : decode cc pc = .ok (.ifnull off, 3)) (h : Go l y cc nL ret hh ext Z d bc bs (pc + 3) lv st w) : Go l y cc nL ret hh ext Z d bc bs pc lv (.ref a :: st) w := by
  intro p e R s m args below meth c D dA A ad0 N0 C H locs cells slots ad ls h1 h2 h3 h4 h5 h6 h7 h8
  exact lv_ifnull C.1 C.2.1 hd (h p e R s m args below meth c D dA A ad0 N0 C H locs cells slots ad ls h1 h2 h3 h4 h5 h6 h7 h8.tail)
theorem go_tblOut {dflt lo hi : Int} {offs : Array Int} {len : Nat} {x : Int32} (tgt : Nat) (hd : decode cc pc = .ok (.tableswitch dflt lo hi offs, len)) (hx : x.toInt < lo ∨ hi < x.toInt) (ht : (pc : Int) + dflt = (tgt : Int)) (h : Go l y cc nL ret hh ext Z d bc bs tgt lv st w) : Go l y cc nL ret hh ext Z d bc bs pc lv (.int x :: st) w := by
  intro p e R s m args below meth c D dA A ad0 N0 C H locs cells slots ad ls h1 h2 h3 h4 h5 h6 h7 h8
  exact lv_tableOut C.1 C.2.1 hd hx ht (h p e R s m args below meth c D dA A ad0 N0 C H locs cells slots ad ls h1 h2 h3 h4 h5 h6 h7 h8.tail)
theorem go_tblIn {dflt lo hi : Int} {offs : Array Int} {len : Nat} {x : Int32} {off : Int} (tgt : Nat) (hd : decode cc pc = .ok (.tableswitch dflt lo hi offs, len)) (hx1 : ¬ x.toInt < lo) (hx2 : ¬ hi < x.toInt) (ho : offs[(x.toInt - lo).toNat]? = some off) (ht : (pc : Int) + off = (tgt : Int)) (h : Go l y cc nL ret hh ext Z d bc bs tgt lv st w) : Go l y cc nL ret hh ext Z d bc bs pc lv (.int x :: st) w := by
  intro p e R s m args below meth c D dA A ad0 N0 C H locs cells slots ad ls h1 h2 h3 h4 h5 h6 h7 h8
  exact lv_tableIn C.1 C.2.1 hd hx1 hx2 ho ht (h p e R s m args below meth c D dA A ad0 N0 C H locs cells slots ad ls h1 h2 h3 h4 h5 h6 h7 h8.tail)
theorem go_lookup {dflt : Int} {ps : Array (Int × Int)} {len : Nat} {x : Int32} {off : Int} (tgt : Nat) (hd : decode cc pc = .ok (.lookupswitch dflt ps, len)) (hp : (ps.toList.zip (ps.toList.drop 1)).all (fun (a, next) => a.1 < next.1) = true) (ho : Op.lookupswitch.offset ps.toList dflt x.toInt = off) (ht : (pc : Int) + off = (tgt : Int)) (h : Go l y cc nL ret hh ext Z d bc bs tgt lv st w) : Go l y cc nL ret hh ext Z d bc bs pc lv (.int x :: st) w := by
  intro p e R s m args below meth c D dA A ad0 N0 C H locs cells slots ad ls h1 h2 h3 h4 h5 h6 h7 h8
  exact lv_lookup C.1 C.2.1 hd hp ho ht (h p e R s m args below meth c D dA A ad0 N0 C H locs cells slots ad ls h1 h2 h3 h4 h5 h6 h7 h8.tail)
end ROWS
end
section
def mm_ob (w : MW) (a ci : Nat) (fs : List Value) : Prop := a < w.1 ∧ w.2 a = .inr (ci, fs)
def mm_ar (w : MW) (a : Nat) (ty : FieldType) (x : vp_A) : Prop := a < w.1 ∧ w.2 a = .inl (ty, x)
def mm_up (w : MW) (a : Nat) (c : MC) : MW := (w.1, va_up w.2 a c)
/-- own's pool entry idx is the field k of the class number ci -/
def mm_Fld (own : String) (idx ci k : Nat) : Prop := ∃ (C : String) (T : u_T) (N : Nat) (ref : String), mm_cl[ci]? = some (C, T, N) ∧ k < N ∧ (∀ w ∈ u_ws C T N, w ∈ mm_GW) ∧ Cond.fieldLink own idx ref (T k).2.1 (T k).2.2.1 ∈ mm_GW ∧ ((T k).1 = ref ∨ Cond.sameField ref (T k).1 (T k).2.1 (T k).2.2.1 ∈ mm_GW)
def mm_Put (own : String) (idx ci k : Nat) (ty : FieldType) (fin : Bool) : Prop := ∃ (C : String) (T : u_T) (N : Nat) (ref : String) (ty0 : Nat → FieldType), mm_cl[ci]? = some (C, T, N) ∧ k < N ∧ (∀ w ∈ u_ws C T N, w ∈ mm_GW) ∧ Cond.fieldLink own idx ref (T k).2.1 (T k).2.2.1 ∈ mm_GW ∧ ((T k).1 = ref ∨ Cond.sameField ref (T k).1 (T k).2.1 (T k).2.2.1 ∈ mm_GW) ∧
  (∀ k, k < N → parseFieldDescriptor (T k).2.2.1 = some (ty0 k)) ∧ (∀ a, a < N → ∀ b, b < N → a ≠ b → (T a).2.1 ≠ (T b).2.1) ∧ (T k).2.2.2 = fin ∧ parseFieldDescriptor (T k).2.2.1 = some ty ∧ (fin = true → (T k).1 = own)
theorem mm_hsame {args : Array Value} {s : State} (h : mm_Tab s) {T : u_T} {k : Nat} {ref : String} (hs : (T k).1 = ref ∨ Cond.sameField ref (T k).1 (T k).2.1 (T k).2.2.1 ∈ mm_GW) : ∀ x, s.fieldFound? (T k).1 (T k).2.1 (T k).2.2.1 = some x → s.fieldFound? ref (T k).2.1 (T k).2.2.1 = some x := by
  intro x hx
  rcases hs with e | e
  · rw [← e]; exact hx
  · exact u_same (h.hts (args := args) _ e) x hx
theorem mm_okf_v {N : Nat} {v : Value} (h : mm_okf N v) : mm_okv N v := fun k hk => Or.inl (h k hk)
theorem mm_ob_at {ad : Nat → Nat} {dA : FieldType → ClassId} {w : MW} {a ci : Nat} {fs : List Value} (h : mm_ob w a ci fs) : (mm_ws ad dA w)[a]? = some (ad a, .inr (ci, fs.map (mm_rv ad))) := by
  rw [mm_ws_get h.1, h.2]; rfl
theorem mm_ob_ok {w : MW} (hw : ∀ k, k < w.1 → mm_okc w.1 (w.2 k)) {a ci : Nat} {fs : List Value} (h : mm_ob w a ci fs) : ∀ v ∈ fs, mm_okf w.1 v := by
  have := hw a h.1
  rw [h.2] at this
  exact this
/-- a world with a new cell at an old place -/
theorem mm_H_up {D : va_G} {dA : FieldType → ClassId} {ad : Nat → Nat} {w : MW} {H H1 : Heap} {a : Nat} {c : MC} (h : mm_H D dA ad w H) (ha : a < w.1) (hc : mm_okc w.1 c) (hP : va_P D mm_cl ((mm_ws ad dA w).set a (ad a, mm_cv ad dA c)) H1) : mm_H D dA ad (mm_up w a c) H1 := by
  refine ⟨by rw [mm_ws_set ha] at hP; exact hP, fun k hk => ?_, h.2.2⟩
  show mm_okc w.1 (va_up w.2 a c k)
  by_cases e : k = a
  · simp only [va_up, e, if_true]; exact hc
  · simp only [va_up, if_neg e]; exact h.2.1 k hk
theorem mm_D_up {A : Nat → Prop} {dA : FieldType → ClassId} {ad : Nat → Nat} {w : MW} {a : Nat} {c : MC} (ha : a < w.1) (hD : va_D A ((mm_ws ad dA w).set a (ad a, mm_cv ad dA c))) : va_D A (mm_ws ad dA (mm_up w a c)) := by
  rw [mm_ws_set ha] at hD; exact hD
section HEAP
variable {l : Launch} {y : MethodName} {cc : ByteArray} {nL : Nat} {ret : Option FieldType} {hh : List (Nat × Nat × Nat × Nat)} {ext : Option (Nat × (Nat → Int32))} {Z : MZ} {d bc bs : Nat} {pc : Nat} {lv : List (Nat × Value)} {st : List Value} {w : MW}
theorem go_getfield {idx ci k a : Nat} {fs : List Value} {v : Value} (hd : decode cc pc = .ok (.getfield idx, 3)) (hf : mm_Fld y.cls idx ci k) (ho : mm_ob w a ci fs) (hv : fs[k]? = some v) (h : Go l y cc nL ret hh ext Z d bc bs (pc + 3) lv (v :: st) w) : Go l y cc nL ret hh ext Z d bc bs pc lv (.ref a :: st) w := by
  intro p e R s m args below meth c D dA A ad0 N0 C H locs cells slots ad ls h1 h2 h3 h4 h5 h6 h7 h8
  obtain ⟨CC, T, N, ref, f1, f2, f3, f4, f5⟩ := hf
  have hS := C.2.2.2.2.2.2.2.2.2.2.2.1
  exact va_get C.1 C.2.1 (hS.1.hts (args := args)) f3 C.2.2.2.2.1 hS.2.1 h3.1 a (mm_ob_at ho) f1 k f2 (hS.1.hts _ f4) (mm_hsame (args := args) hS.1 f5) (v := mm_rv ad v) (by rw [List.getElem?_map, hv]; rfl) hd
    (h p e R s m args below meth c D dA A ad0 N0 C H locs cells slots ad ls h1 h2 h3 h4 h5 h6 h7 (mm_O.cons (mm_okf_v (mm_ob_ok h3.2.1 ho v (List.mem_of_getElem? hv))) h8.tail))
theorem mm_okc_set {N ci k : Nat} {fs : List Value} {v : Value} (h : ∀ u ∈ fs, mm_okf N u) (hv : mm_okf N v) : mm_okc N (.inr (ci, fs.set k v)) := by
  intro u hu
  rcases List.mem_or_eq_of_mem_set hu with q | q
  · exact h u q
  · rw [q]; exact hv
theorem go_putfield {idx ci k a : Nat} {fs : List Value} {v : Value} {ty : FieldType} (hd : decode cc pc = .ok (.putfield idx, 3)) (hf : mm_Put y.cls idx ci k ty false) (ho : mm_ob w a ci fs) (hl : k < fs.length) (hv : ∀ ad, narrow ty (mm_rv ad v) = mm_rv ad v ∧ fits ty (mm_rv ad v) = true) (hok : mm_okf w.1 v) (h : Go l y cc nL ret hh ext Z d bc bs (pc + 3) lv st (mm_up w a (.inr (ci, fs.set k v)))) : Go l y cc nL ret hh ext Z d bc bs pc lv (v :: .ref a :: st) w := by
  intro p e R s m args below meth c D dA A ad0 N0 C H locs cells slots ad ls h1 h2 h3 h4 h5 h6 h7 h8
  obtain ⟨CC, T, N, ref, ty0, f1, f2, f3, f4, f5, f6, f7, f8, f9, -⟩ := hf
  have hS := C.2.2.2.2.2.2.2.2.2.2.2.1
  refine va_put C.1 C.2.1 (hS.1.hts (args := args)) f3 ty0 f6 f7 C.2.2.2.2.1 hS.2.1 h3.1 h4 h5 a (mm_ob_at ho) f1 k f2 (hS.1.hts _ f4) (mm_hsame (args := args) hS.1 f5) f8 f9 (hv ad).1 (hv ad).2 (by rw [List.length_map]; exact hl) hd (fun H1 locs1 g1 g2 g3 => ?_)
  have e9 : (ad a, (Sum.inr (ci, (fs.map (mm_rv ad)).set k (mm_rv ad v)) : va_E)) = (ad a, mm_cv ad dA (.inr (ci, fs.set k v))) := by
    show _ = (ad a, Sum.inr (ci, (fs.set k v).map (mm_rv ad)))
    rw [List.map_set]
  rw [e9] at g1 g2
  exact h p e R s m args below meth c D dA A ad0 N0 C H1 locs1 cells slots ad ls h1 h2 (mm_H_up h3 ho.1 (mm_okc_set (mm_ob_ok h3.2.1 ho) hok) g1) (mm_D_up ho.1 g2) g3 h6 h7 h8.tail.tail
theorem go_putfinal {idx ci k a : Nat} {fs : List Value} {v : Value} {ty : FieldType} (hd : decode cc pc = .ok (.putfield idx, 3)) (hf : mm_Put y.cls idx ci k ty true) (hi : y.name = "<init>") (ho : mm_ob w a ci fs) (hl : k < fs.length) (hv : ∀ ad, narrow ty (mm_rv ad v) = mm_rv ad v ∧ fits ty (mm_rv ad v) = true) (hok : mm_okf w.1 v) (h : Go l y cc nL ret hh ext Z d bc bs (pc + 3) lv st (mm_up w a (.inr (ci, fs.set k v)))) : Go l y cc nL ret hh ext Z d bc bs pc lv (v :: .ref a :: st) w := by
  intro p e R s m args below meth c D dA A ad0 N0 C H locs cells slots ad ls h1 h2 h3 h4 h5 h6 h7 h8
  obtain ⟨CC, T, N, ref, ty0, f1, f2, f3, f4, f5, f6, f7, f8, f9, f10⟩ := hf
  have hS := C.2.2.2.2.2.2.2.2.2.2.2.1
  refine va_putF C.1 C.2.1 (hS.1.hts (args := args)) f3 ty0 f6 f7 C.2.2.2.2.1 hS.2.1 h3.1 h4 h5 a (mm_ob_at ho) f1 k f2 (hS.1.hts _ f4) (mm_hsame (args := args) hS.1 f5) f8 (C.2.2.2.2.2.1.trans hi) (f10 rfl) f9 (hv ad).1 (hv ad).2 (by rw [List.length_map]; exact hl) hd (fun H1 locs1 g1 g2 g3 => ?_)
  have e9 : (ad a, (Sum.inr (ci, (fs.map (mm_rv ad)).set k (mm_rv ad v)) : va_E)) = (ad a, mm_cv ad dA (.inr (ci, fs.set k v))) := by
    show _ = (ad a, Sum.inr (ci, (fs.set k v).map (mm_rv ad)))
    rw [List.map_set]
  rw [e9] at g1 g2
  exact h p e R s m args below meth c D dA A ad0 N0 C H1 locs1 cells slots ad ls h1 h2 (mm_H_up h3 ho.1 (mm_okc_set (mm_ob_ok h3.2.1 ho) hok) g1) (mm_D_up ho.1 g2) g3 h6 h7 h8.tail.tail
theorem mm_ar_at {ad : Nat → Nat} {dA : FieldType → ClassId} {w : MW} {a n : Nat} {ty : FieldType} {f : Nat → Int32} (h : mm_ar w a ty (n, .inl f)) : (mm_ws ad dA w)[a]? = some (ad a, .inl (dA ty, n, .inl f)) := by
  rw [mm_ws_get h.1, h.2]; rfl
theorem mm_arL_at {ad : Nat → Nat} {dA : FieldType → ClassId} {w : MW} {a n : Nat} {ty : FieldType} {f : Nat → Int64} (h : mm_ar w a ty (n, .inr (.inl f))) : (mm_ws ad dA w)[a]? = some (ad a, .inl (dA ty, n, .inr (.inl f))) := by
  rw [mm_ws_get h.1, h.2]; rfl
theorem mm_arQ_at {ad : Nat → Nat} {dA : FieldType → ClassId} {w : MW} {a n : Nat} {ty : FieldType} {f : Nat → Option Nat} (h : mm_ar w a ty (n, .inr (.inr (.inr (.inr f))))) : (mm_ws ad dA w)[a]? = some (ad a, .inl (dA ty, n, .inr (.inr (.inr (.inr (fun j => (f j).map ad)))))) := by
  rw [mm_ws_get h.1, h.2]; rfl
theorem go_iaload {a n : Nat} {f : Nat → Int32} {i : Int32} (j : Nat) (hd : decode cc pc = .ok (.iaload, 1)) (ho : mm_ar w a .int (n, .inl f)) (hi : i = nI j) (hj : j < n) (hn : n < 2 ^ 31) (h : Go l y cc nL ret hh ext Z d bc bs (pc + 1) lv (.int (f j) :: st) w) : Go l y cc nL ret hh ext Z d bc bs pc lv (.int i :: .ref a :: st) w := by
  intro p e R s m args below meth c D dA A ad0 N0 C H locs cells slots ad ls h1 h2 h3 h4 h5 h6 h7 h8
  have hS := C.2.2.2.2.2.2.2.2.2.2.2.1
  have e9 : i.toNatClampNeg = j := by rw [hi]; exact nI_clamp (by omega)
  have g := h p e R s m args below meth c D dA A ad0 N0 C H locs cells slots ad ls h1 h2 h3 h4 h5 h6 h7 (mm_O.cons mm_okv_int h8.tail.tail)
  rw [← e9] at g
  exact va_iald C.1 C.2.1 hS.2.1 h3.1 a 0 (mm_ar_at ho) rfl (by rw [hi]; exact vp_in_nI hj hn) hd g
theorem go_caload {a n : Nat} {f : Nat → Int32} {i : Int32} (j : Nat) (hd : decode cc pc = .ok (.caload, 1)) (ho : mm_ar w a .char (n, .inl f)) (hi : i = nI j) (hj : j < n) (hn : n < 2 ^ 31) (h : Go l y cc nL ret hh ext Z d bc bs (pc + 1) lv (.int (f j) :: st) w) : Go l y cc nL ret hh ext Z d bc bs pc lv (.int i :: .ref a :: st) w := by
  intro p e R s m args below meth c D dA A ad0 N0 C H locs cells slots ad ls h1 h2 h3 h4 h5 h6 h7 h8
  have hS := C.2.2.2.2.2.2.2.2.2.2.2.1
  have e9 : i.toNatClampNeg = j := by rw [hi]; exact nI_clamp (by omega)
  have g := h p e R s m args below meth c D dA A ad0 N0 C H locs cells slots ad ls h1 h2 h3 h4 h5 h6 h7 (mm_O.cons mm_okv_int h8.tail.tail)
  rw [← e9] at g
  exact va_cald C.1 C.2.1 hS.2.1 h3.1 a 2 (mm_ar_at ho) rfl (by rw [hi]; exact vp_in_nI hj hn) hd g
theorem go_laload {a n : Nat} {f : Nat → Int64} {i : Int32} (j : Nat) (hd : decode cc pc = .ok (.laload, 1)) (ho : mm_ar w a .long (n, .inr (.inl f))) (hi : i = nI j) (hj : j < n) (hn : n < 2 ^ 31) (h : Go l y cc nL ret hh ext Z d bc bs (pc + 1) lv (.long (f j) :: st) w) : Go l y cc nL ret hh ext Z d bc bs pc lv (.int i :: .ref a :: st) w := by
  intro p e R s m args below meth c D dA A ad0 N0 C H locs cells slots ad ls h1 h2 h3 h4 h5 h6 h7 h8
  have hS := C.2.2.2.2.2.2.2.2.2.2.2.1
  have e9 : i.toNatClampNeg = j := by rw [hi]; exact nI_clamp (by omega)
  have g := h p e R s m args below meth c D dA A ad0 N0 C H locs cells slots ad ls h1 h2 h3 h4 h5 h6 h7 (mm_O.cons mm_okv_long h8.tail.tail)
  rw [← e9] at g
  exact va_lald C.1 C.2.1 hS.2.1 h3.1 a 1 (mm_arL_at ho) rfl (by rw [hi]; exact vp_in_nI hj hn) hd g
theorem mm_rv_rf {ad : Nat → Nat} {r : Option Nat} : mm_rv ad (va_rf r) = va_rf (r.map ad) := by cases r <;> rfl
theorem go_aaload {a n : Nat} {f : Nat → Option Nat} {i : Int32} (j : Nat) (hd : decode cc pc = .ok (.aaload, 1)) (ho : mm_ar w a (.object RX5) (n, .inr (.inr (.inr (.inr f))))) (hi : i = nI j) (hj : j < n) (hn : n < 2 ^ 31) (h : Go l y cc nL ret hh ext Z d bc bs (pc + 1) lv (va_rf (f j) :: st) w) : Go l y cc nL ret hh ext Z d bc bs pc lv (.int i :: .ref a :: st) w := by
  intro p e R s m args below meth c D dA A ad0 N0 C H locs cells slots ad ls h1 h2 h3 h4 h5 h6 h7 h8
  have hS := C.2.2.2.2.2.2.2.2.2.2.2.1
  have e9 : i.toNatClampNeg = j := by rw [hi]; exact nI_clamp (by omega)
  have hok : mm_okv w.1 (va_rf (f j)) := by
    have hc := h3.2.1 a ho.1
    rw [ho.2] at hc
    intro k hk
    cases hfj : f j with
    | none => rw [hfj] at hk; cases hk
    | some x => rw [hfj] at hk; cases hk; exact Or.inl (hc j k hfj)
  have g := h p e R s m args below meth c D dA A ad0 N0 C H locs cells slots ad ls h1 h2 h3 h4 h5 h6 h7 (mm_O.cons hok h8.tail.tail)
  rw [List.map_cons, mm_rv_rf] at g
  refine va_aldq (C := RX5) C.1 C.2.1 hS.2.1 h3.1 a 3 (mm_arQ_at ho) rfl (by rw [hi]; exact vp_in_nI hj hn) hd ?_
  rw [e9]
  exact g
theorem go_iastore {a n : Nat} {f : Nat → Int32} {i x : Int32} (j : Nat) (hd : decode cc pc = .ok (.iastore, 1)) (ho : mm_ar w a .int (n, .inl f)) (hi : i = nI j) (hj : j < n) (hn : n < 2 ^ 31) (h : Go l y cc nL ret hh ext Z d bc bs (pc + 1) lv st (mm_up w a (.inl (.int, n, .inl (upd f j x))))) : Go l y cc nL ret hh ext Z d bc bs pc lv (.int x :: .int i :: .ref a :: st) w := by
  intro p e R s m args below meth c D dA A ad0 N0 C H locs cells slots ad ls h1 h2 h3 h4 h5 h6 h7 h8
  have hS := C.2.2.2.2.2.2.2.2.2.2.2.1
  have e9 : i.toNatClampNeg = j := by rw [hi]; exact nI_clamp (by omega)
  refine va_iast C.1 C.2.1 hS.2.1 h3.1 h4 h5 a 0 (mm_ar_at ho) rfl (by rw [hi]; exact vp_in_nI hj hn) hd (fun H1 locs1 g1 g2 g3 => ?_)
  rw [e9] at g1 g2
  exact h p e R s m args below meth c D dA A ad0 N0 C H1 locs1 cells slots ad ls h1 h2 (mm_H_up (c := .inl (.int, n, .inl (upd f j x))) h3 ho.1 trivial g1) (mm_D_up (c := .inl (.int, n, .inl (upd f j x))) ho.1 g2) g3 h6 h7 h8.tail.tail.tail
theorem go_castore {a n : Nat} {f : Nat → Int32} {i x : Int32} (j : Nat) (hd : decode cc pc = .ok (.castore, 1)) (ho : mm_ar w a .char (n, .inl f)) (hi : i = nI j) (hj : j < n) (hn : n < 2 ^ 31) (h : Go l y cc nL ret hh ext Z d bc bs (pc + 1) lv st (mm_up w a (.inl (.char, n, .inl (upd f j (vp_nar .char x)))))) : Go l y cc nL ret hh ext Z d bc bs pc lv (.int x :: .int i :: .ref a :: st) w := by
  intro p e R s m args below meth c D dA A ad0 N0 C H locs cells slots ad ls h1 h2 h3 h4 h5 h6 h7 h8
  have hS := C.2.2.2.2.2.2.2.2.2.2.2.1
  have e9 : i.toNatClampNeg = j := by rw [hi]; exact nI_clamp (by omega)
  refine va_cast C.1 C.2.1 hS.2.1 h3.1 h4 h5 a 2 (mm_ar_at ho) rfl (by rw [hi]; exact vp_in_nI hj hn) hd (fun H1 locs1 g1 g2 g3 => ?_)
  rw [e9] at g1 g2
  exact h p e R s m args below meth c D dA A ad0 N0 C H1 locs1 cells slots ad ls h1 h2 (mm_H_up (c := .inl (.char, n, .inl (upd f j (vp_nar .char x)))) h3 ho.1 trivial g1) (mm_D_up (c := .inl (.char, n, .inl (upd f j (vp_nar .char x)))) ho.1 g2) g3 h6 h7 h8.tail.tail.tail
theorem go_lastore {a n : Nat} {f : Nat → Int64} {i : Int32} {x : Int64} (j : Nat) (hd : decode cc pc = .ok (.lastore, 1)) (ho : mm_ar w a .long (n, .inr (.inl f))) (hi : i = nI j) (hj : j < n) (hn : n < 2 ^ 31) (h : Go l y cc nL ret hh ext Z d bc bs (pc + 1) lv st (mm_up w a (.inl (.long, n, .inr (.inl (vp_updL f j x)))))) : Go l y cc nL ret hh ext Z d bc bs pc lv (.long x :: .int i :: .ref a :: st) w := by
  intro p e R s m args below meth c D dA A ad0 N0 C H locs cells slots ad ls h1 h2 h3 h4 h5 h6 h7 h8
  have hS := C.2.2.2.2.2.2.2.2.2.2.2.1
  have e9 : i.toNatClampNeg = j := by rw [hi]; exact nI_clamp (by omega)
  refine va_last C.1 C.2.1 hS.2.1 h3.1 h4 h5 a 1 (mm_arL_at ho) rfl (by rw [hi]; exact vp_in_nI hj hn) hd (fun H1 locs1 g1 g2 g3 => ?_)
  rw [e9] at g1 g2
  exact h p e R s m args below meth c D dA A ad0 N0 C H1 locs1 cells slots ad ls h1 h2 (mm_H_up (c := .inl (.long, n, .inr (.inl (vp_updL f j x)))) h3 ho.1 trivial g1) (mm_D_up (c := .inl (.long, n, .inr (.inl (vp_updL f j x)))) ho.1 g2) g3 h6 h7 h8.tail.tail.tail
theorem go_aastore {a n b : Nat} {vs : List Value} {f : Nat → Option Nat} {i : Int32} (j : Nat) (hd : decode cc pc = .ok (.aastore, 1)) (ho : mm_ar w a (.object RX5) (n, .inr (.inr (.inr (.inr f))))) (hb : mm_ob w b 4 vs) (hi : i = nI j) (hj : j < n) (hn : n < 2 ^ 31) (h : Go l y cc nL ret hh ext Z d bc bs (pc + 1) lv st (mm_up w a (.inl (.object RX5, n, .inr (.inr (.inr (.inr (va_up f j (some b))))))))) : Go l y cc nL ret hh ext Z d bc bs pc lv (.ref b :: .int i :: .ref a :: st) w := by
  intro p e R s m args below meth c D dA A ad0 N0 C H locs cells slots ad ls h1 h2 h3 h4 h5 h6 h7 h8
  have hS := C.2.2.2.2.2.2.2.2.2.2.2.1
  have e9 : i.toNatClampNeg = j := by rw [hi]; exact nI_clamp (by omega)
  refine va_astq (r := (RX5, TX5, 4)) (ci := 4) C.1 C.2.1 hS.2.1 h3.1 h4 h5 a 3 b (mm_arQ_at ho) rfl (mm_ob_at hb) rfl (by rw [hi]; exact vp_in_nI hj hn) hd (fun H1 locs1 g1 g2 g3 => ?_)
  rw [e9] at g1 g2
  have e8 : va_up (fun j => (f j).map ad) j (some (ad b)) = fun q => (va_up f j (some b) q).map ad := by
    funext q
    by_cases e : q = j
    · simp [va_up, e]
    · simp [va_up, e]
  rw [e8] at g1 g2
  refine h p e R s m args below meth c D dA A ad0 N0 C H1 locs1 cells slots ad ls h1 h2 (mm_H_up (c := .inl (.object RX5, n, .inr (.inr (.inr (.inr (va_up f j (some b))))))) h3 ho.1 ?_ g1) (mm_D_up (c := .inl (.object RX5, n, .inr (.inr (.inr (.inr (va_up f j (some b))))))) ho.1 g2) g3 h6 h7 h8.tail.tail.tail
  intro q k hk
  by_cases e : q = j
  · simp only [va_up, e, if_true] at hk
    cases hk
    exact hb.1
  · simp only [va_up, if_neg e] at hk
    have hc := h3.2.1 a ho.1
    rw [ho.2] at hc
    exact hc q k hk
theorem go_alen {a n : Nat} {f : Nat → Int32} {ty : FieldType} (t0 : Nat) (ht : ∀ dA, (mm_tys dA)[t0]? = some (dA ty, ty)) (hd : decode cc pc = .ok (.arraylength, 1)) (ho : mm_ar w a ty (n, .inl f)) (h : Go l y cc nL ret hh ext Z d bc bs (pc + 1) lv (.int (nI n) :: st) w) : Go l y cc nL ret hh ext Z d bc bs pc lv (.ref a :: st) w := by
  intro p e R s m args below meth c D dA A ad0 N0 C H locs cells slots ad ls h1 h2 h3 h4 h5 h6 h7 h8
  have hS := C.2.2.2.2.2.2.2.2.2.2.2.1
  exact va_alen C.1 C.2.1 hS.2.1 h3.1 a t0 (mm_ar_at ho) (ht dA) rfl hd (h p e R s m args below meth c D dA A ad0 N0 C H locs cells slots ad ls h1 h2 h3 h4 h5 h6 h7 (mm_O.cons mm_okv_int h8.tail))
/-- the law's script -/
theorem go_xlen {L : Nat} {xs : Nat → Int32} (hx : ext = some (L, xs)) (hd : decode cc pc = .ok (.arraylength, 1)) (h : Go l y cc nL ret hh ext Z d bc bs (pc + 1) lv (.int (nI L) :: st) w) : Go l y cc nL ret hh ext Z d bc bs pc lv (.ref mm_XT :: st) w := by
  intro p e R s m args below meth c D dA A ad0 N0 C H locs cells slots ad ls h1 h2 h3 h4 h5 h6 h7 h8
  obtain ⟨x1, x2, x3⟩ := C.2.2.2.2.2.2.2.2.2.2.2.2.2 L xs hx
  have e9 : ad mm_XT = ad0 mm_XT := h6.2 _ (Or.inr rfl)
  show W p l e R s m args below meth c H locs cells slots _ (F0 m pc ls (.ref (ad mm_XT) :: st.map (mm_rv ad)))
  rw [e9]
  exact va_slen C.1 C.2.1 x1 x2 x3 h5 hd (h p e R s m args below meth c D dA A ad0 N0 C H locs cells slots ad ls h1 h2 h3 h4 h5 h6 h7 (mm_O.cons mm_okv_int h8.tail))
theorem go_xload {L : Nat} {xs : Nat → Int32} {i : Int32} (j : Nat) (hx : ext = some (L, xs)) (hd : decode cc pc = .ok (.iaload, 1)) (hi : i = nI j) (hj : j < L) (hn : L < 2 ^ 31) (h : Go l y cc nL ret hh ext Z d bc bs (pc + 1) lv (.int (xs j) :: st) w) : Go l y cc nL ret hh ext Z d bc bs pc lv (.int i :: .ref mm_XT :: st) w := by
  intro p e R s m args below meth c D dA A ad0 N0 C H locs cells slots ad ls h1 h2 h3 h4 h5 h6 h7 h8
  obtain ⟨x1, x2, x3⟩ := C.2.2.2.2.2.2.2.2.2.2.2.2.2 L xs hx
  have e9 : ad mm_XT = ad0 mm_XT := h6.2 _ (Or.inr rfl)
  have e8 : i.toNatClampNeg = j := by rw [hi]; exact nI_clamp (by omega)
  show W p l e R s m args below meth c H locs cells slots _ (F0 m pc ls (.int i :: .ref (ad mm_XT) :: st.map (mm_rv ad)))
  rw [e9]
  have g := h p e R s m args below meth c D dA A ad0 N0 C H locs cells slots ad ls h1 h2 h3 h4 h5 h6 h7 (mm_O.cons mm_okv_int h8.tail.tail)
  rw [← e8] at g
  exact va_sld C.1 C.2.1 x1 x2 x3 h5 (by rw [hi]; exact vp_in_nI hj hn) hd g
end HEAP
end
section
theorem mm_A1 {A : Nat → Prop} {dA : FieldType → ClassId} {ad : Nat → Nat} {w : MW} {H0 H : Heap} {locs : List Loc} (hD : va_D A (mm_ws ad dA w)) (hS : va_S A H0 H locs) (hA : ∀ q, H0.size ≤ q → A q) : ∀ q, va_A (mm_ws ad dA w) H.size q → A q := by
  intro q h
  rcases h with ⟨k, e, h⟩ | h
  · exact hD.2 k _ h
  · exact hA q (Nat.le_trans hS.1 h)
section CALLS
variable {l : Launch} {y : MethodName} {cc : ByteArray} {nL : Nat} {ret : Option FieldType} {hh : List (Nat × Nat × Nat × Nat)} {ext : Option (Nat × (Nat → Int32))} {Z : MZ} {d bc bs : Nat} {pc : Nat} {lv : List (Nat × Value)} {st rest : List Value} {w w' : MW} {o : MO} {mc ms : Nat}
theorem mm_after (hret : ∀ v, o = .inl v → Go l y cc nL ret hh ext Z d bc bs (pc + 3) lv (v.toList ++ rest) w') (hthr : ∀ E, o = .inr E → GoX l y cc nL ret hh ext Z d bc bs pc lv E w')
    {p : Program} {e : Env} {R : Room} {s : State} {m : MethodId} {args : Array Value} {below : List Frame} {meth : Method} {c : Code} {D : va_G} {dA : FieldType → ClassId} {A : Nat → Prop} {ad0 : Nat → Nat} {N0 : Nat} (C : mm_C l y cc nL ret hh ext d p R s m meth c D dA A ad0) {H : Heap} {locs : List Loc} {cells slots : Nat} {ad : Nat → Nat} {ls : Array Slot} (h1 : cells + (mc + bc) ≤ R.cells) (h2 : slots + (ms + bs) ≤ R.slots)
    (h4 : va_D A (mm_ws ad dA w)) (h5 : va_S A s.heap H locs) (h6 : mm_ag ad0 ad N0 w.1) (h7 : mm_L ad w.1 nL lv ls) (h8 : mm_O w.1 rest) {a : Array Value} {st0 : List Value}
    (hr : vx_Run p l e R s m args below meth c H locs cells slots mc ms (F0 m pc ls st0) (rest.map (mm_rv ad)) (mm_Qc (mm_eq o w') D dA (va_A (mm_ws ad dA w) H.size) ad w.1 a) (mm_XC (mm_eq o w') D dA (va_A (mm_ws ad dA w) H.size) ad w.1) (va_A (mm_ws ad dA w) H.size)) :
    W p l e R s m args below meth c H locs cells slots (Z R D dA A ad0 N0 below args s) (F0 m pc ls st0) := by
  have hf : ∀ q, va_A (mm_ws ad dA w) H.size q → A q := mm_A1 h4 h5 C.2.2.2.2.2.2.2.2.2.2.2.2.1
  intro T hT X
  rcases hr T hT X with ⟨v, st₀, t, T', L, g0, X', hL, e1, e2, ⟨v1, w1, ad1, ev, ⟨eo, ew⟩, hok, hH, hD, hag, hF⟩, stp⟩ | ⟨q, st₀, t, T', L, E, ce, g0, X', hL, e1, e2, ⟨w1, ad1, ⟨eo, ew⟩, hH, hD, hag, hF⟩, hce, hcv, hcl, stp⟩
  · subst ew
    cases ev
    obtain ⟨k1, k2, k3⟩ := vx_keep g0 e1 h5 (fun q _ h => hf q h) hf hL hF
    have hst : (v1.map (mm_rv ad1)).toList ++ rest.map (mm_rv ad) = (v1.toList ++ rest).map (mm_rv ad1) := by
      rw [List.map_append, h8.agree hag.2]
      cases v1 <;> rfl
    have hO : mm_O w1.1 (v1.toList ++ rest) := by
      cases v1 with
      | none => exact h8.mono hag.1
      | some x => exact mm_O.cons (hok x rfl) (h8.mono hag.1)
    have K := hret v1 eo.symm p e R s m args below meth c D dA A ad0 N0 C T'.heap (locs ++ L) (cells + mc) (slots + ms) ad1 ls (by omega) (by omega) (by rw [e1]; exact hH) (hD.weaken (fun _ q _ h => hf q.1 h)) k3 ⟨Nat.le_trans h6.1 hag.1, fun k hk => (hag.2 k (hk.imp (fun z => Nat.lt_of_lt_of_le z h6.1) id)).trans (h6.2 k hk)⟩ (h7.agree hag.1 hag.2) hO
    obtain ⟨t2, a1, b1⟩ := K T' rfl X'
    have stp2 := stp t2
    rw [show (F0 m pc ls st0).pc + 3 = pc + 3 from rfl, hst] at stp2
    exact ⟨t2, stp2 a1, b1⟩
  · subst ew
    obtain ⟨k1, k2, k3⟩ := vx_keep g0 e1 h5 (fun q _ h => hf q h) hf hL hF
    have K := hthr E eo.symm p e R s m args below meth c D dA A ad0 N0 C T'.heap (locs ++ L) (cells + mc) (slots + ms) ad1 ls (by omega) (by omega) (by rw [e1]; exact hH) (hD.weaken (fun _ q _ h => hf q.1 h)) k3 ⟨Nat.le_trans h6.1 hag.1, fun k hk => (hag.2 k (hk.imp (fun z => Nat.lt_of_lt_of_le z h6.1) id)).trans (h6.2 k hk)⟩ (h7.agree hag.1 hag.2) q ce (rest.map (mm_rv ad)) (by rw [e1]; exact hce) hcv hcl
    obtain ⟨t2, a1, b1⟩ := K T' rfl X'
    exact ⟨t2, stp.trans a1, b1⟩
/-- what the callee is given -/
theorem mm_pre {p : Program} {R : Room} {s : State} {m : MethodId} {meth : Method} {c : Code} {D : va_G} {dA : FieldType → ClassId} {A : Nat → Prop} {ad0 : Nat → Nat} (C : mm_C l y cc nL ret hh ext d p R s m meth c D dA A ad0) {H : Heap} {locs : List Loc} {ad : Nat → Nat} {as : List Value}
    (h3 : mm_H D dA ad w H) (h4 : va_D A (mm_ws ad dA w)) (h5 : va_S A s.heap H locs) (h8 : mm_O w.1 as) : ∀ U : State, U.heap = H → s.WarmedH U.vm → mm_Pc D dA ad H.size as w (as.map (mm_rv ad)).toArray U := by
  intro U hU hW
  have hf : ∀ q, va_A (mm_ws ad dA w) H.size q → A q := mm_A1 h4 h5 C.2.2.2.2.2.2.2.2.2.2.2.2.1
  refine ⟨rfl, by rw [hU], by rw [hU]; exact h3, ?_, h4.weaken (fun _ _ _ _ => trivial), h8⟩
  rw [hU]
  exact ((C.2.2.2.2.2.2.2.2.2.2.2.1.kept h5.2.1).narrow hf).warm hW
/-- the words of a call through the class number ci: by its own name, or inherited, or overridden -/
def mm_V (own : String) (idx ci : Nat) (y1 : MethodName) (c1 : ByteArray) (n1 : Nat) (r1 : Option FieldType) (n : Nat) : Prop := ∃ (CC : String) (T : u_T) (N : Nat), mm_cl[ci]? = some (CC, T, N) ∧ Cond.code y1 c1 n1 r1 ∈ mm_GW ∧ Cond.initialized y1.cls ∈ mm_GW ∧ Cond.instanceMethod y1 ∈ mm_GW ∧
  ((Cond.methodLink own idx y1 ∈ mm_GW ∧ Cond.selects CC y1 y1 ∈ mm_GW ∧ (y1.cls ≠ "java/lang/invoke/MethodHandle" ∧ y1.cls ≠ "java/lang/invoke/VarHandle") ∧ (parseMethodDescriptor y1.desc).map (fun d => d.parameters.length) = some n) ∨
   ∃ (owner : String) (x : MethodName), Cond.methodLink own idx x ∈ mm_GW ∧ Cond.sameMethod x.cls owner x.name x.desc ∈ mm_GW ∧ Cond.selects CC x y1 ∈ mm_GW ∧ (owner ≠ "java/lang/invoke/MethodHandle" ∧ owner ≠ "java/lang/invoke/VarHandle") ∧ (parseMethodDescriptor x.desc).map (fun d => d.parameters.length) = some n ∧ (y1 = ⟨owner, x.name, x.desc⟩ ∨ Cond.declares ⟨owner, x.name, x.desc⟩ ∈ lw_tbl))
theorem mm_len {desc : String} {n : Nat} (h : (parseMethodDescriptor desc).map (fun d => d.parameters.length) = some n) : ∀ sig, parseMethodDescriptor desc = some sig → n = sig.parameters.length := by
  intro sig h2
  rw [h2] at h
  exact (Option.some.inj h).symm
theorem mm_code {s : State} (h : mm_Tab s) {w : Cond} (hw : w ∈ mm_GW) : ∀ x ∈ [w], ∀ (a' : Array Value) (U : State), s.WarmedH U.vm → x.before a' U = true := by
  intro x hx a' U hW
  rw [List.mem_singleton.mp hx]
  exact word_at hW (mm_good hw) (h.1 w hw)
/-- invokevirtual; As: the arguments in the order of the descriptor -/
theorem go_virt {y1 : MethodName} {c1 : ByteArray} {n1 : Nat} {r1 : Option FieldType} {d1 n idx ci a : Nat} {fs As : List Value} (hd : decode cc pc = .ok (.invokevirtual idx, 3)) (hM : Ct l (.code y1 c1 n1 r1) y1 d1 mc ms (.ref a :: As) w o w') (hV : mm_V y.cls idx ci y1 c1 n1 r1 n) (hn : As.length = n) (ho : mm_ob w a ci fs) (hst : st = As.reverse ++ .ref a :: rest)
    (hcat : (rest.map fun v => v.category).sum ≤ 8) (hdp : d1 + 1 ≤ d) (hmx : n1 ≤ 21) (hret : ∀ v, o = .inl v → Go l y cc nL ret hh ext Z d bc bs (pc + 3) lv (v.toList ++ rest) w') (hthr : ∀ E, o = .inr E → GoX l y cc nL ret hh ext Z d bc bs pc lv E w') : Go l y cc nL ret hh ext Z d (mc + bc) (ms + bs) pc lv st w := by
  intro p e R s m args below meth c D dA A ad0 N0 C H locs cells slots ad ls h1 h2 h3 h4 h5 h6 h7 h8
  subst hst
  have hS := C.2.2.2.2.2.2.2.2.2.2.2.1
  have hO2 : mm_O w.1 (Value.ref a :: As) := fun v hv => h8 v (by
    rcases List.mem_cons.mp hv with q | q
    · rw [q]; exact List.mem_append_right _ List.mem_cons_self
    · exact List.mem_append_left _ (List.mem_reverse.mpr q))
  have hO3 : mm_O w.1 rest := fun v hv => h8 v (List.mem_append_right _ (List.mem_cons_of_mem _ hv))
  have hMt := hM C.2.2.2.2.2.2.2.2.1 D dA ad H.size
  obtain ⟨CC, T, N, f1, f2, f3, f4, f5⟩ := hV
  have hfix : CallFix p m c cc nL s args mm_GW y.cls := ⟨C.1, C.2.1, C.2.2.1, C.2.2.2.2.1, hS.1.hts⟩
  have hrec := va_recv (q := (CC, T, N)) hS.2.1 h3.1 f1 (mm_ob_at (ad := ad) (dA := dA) ho)
  have hpre : PreV s H CC (ad a) (mm_Pc D dA ad H.size (.ref a :: As) w) (As.map (mm_rv ad)) := ⟨mm_Pc.blind, hrec, mm_pre C h3 h4 h5 hO2⟩
  have hstk : (F0 m pc ls ((As.reverse ++ .ref a :: rest).map (mm_rv ad))).stack = (As.map (mm_rv ad)).reverse ++ .ref (ad a) :: rest.map (mm_rv ad) := by
    show (As.reverse ++ .ref a :: rest).map (mm_rv ad) = _
    rw [List.map_append, List.map_reverse]
    rfl
  have hcat2 : 2 * (F0 m pc ls ((As.reverse ++ .ref a :: rest).map (mm_rv ad))).monitorRoom + ((rest.map (mm_rv ad)).map fun v => v.category).sum ≤ 8 := by
    have e9 : (rest.map (mm_rv ad)).map (fun v => v.category) = rest.map fun v => v.category := by rw [List.map_map]; exact List.map_congr_left (fun v _ => mm_cat ad v)
    rw [e9]
    show 2 * 0 + _ ≤ 8
    omega
  have hR : (mm_rm d1 mc ms).frames + 1 ≤ R.frames ∧ 8 + (n1 + 11) + (mm_rm d1 mc ms).locals ≤ R.locals := by
    have q1 := C.2.2.2.2.2.2.2.2.2.1
    have q2 := C.2.2.2.2.2.2.2.2.2.2.1
    show d1 + 1 ≤ R.frames ∧ 8 + (n1 + 11) + 40 * d1 ≤ R.locals
    omega
  refine mm_after (a := (Value.ref (ad a) :: As.map (mm_rv ad)).toArray) hret hthr C h1 h2 h4 h5 h6 h7 hO3 ?_
  rcases f5 with ⟨g1, g2, g3, g4⟩ | ⟨owner, x, g1, g2, g3, g4, g5, g6⟩
  · exact vx_runV (C := CC) (b := ad a) (As := As.map (mm_rv ad)) hfix hMt ⟨⟨rfl, rfl, hR.1, hR.2, mm_code hS.1 f2, List.mem_singleton.mpr rfl, hS.1.hts _ f2, hS.1.hts _ f3, g3, mm_len g4, hS.1.hts _ g1⟩, hS.1.hts _ f4, hS.1.hts _ g2⟩ hpre rfl (by rw [List.length_map]; exact hn) h7.1 hstk hcat2 hd ⟨by omega, by omega⟩
  · refine vx_runU (x := x) (owner := owner) (C := CC) (b := ad a) (As := As.map (mm_rv ad)) hfix hMt ⟨⟨rfl, rfl, hR.1, hR.2, mm_code hS.1 f2, List.mem_singleton.mpr rfl⟩, hS.1.hts _ f2, hS.1.hts _ f3, g4, mm_len g5, hS.1.hts _ g1, hS.1.hts _ g2, ?_, hS.1.hts _ g3, hS.1.hts _ f4⟩ hpre rfl (by rw [List.length_map]; exact hn) h7.1 hstk hcat2 hd ⟨by omega, by omega⟩
    rcases g6 with q | q
    · rw [← q]; exact va_Decl.of (args := args) (hS.1.hts _ f4) (hS.1.hts _ f2)
    · exact va_Decl.abs (hS.1.2.1 _ q rfl)
def mm_St (own : String) (idx : Nat) (y1 : MethodName) (n : Nat) : Prop := Cond.initialized y1.cls ∈ mm_GW ∧ Cond.static y1 ∈ mm_GW ∧ (y1.cls ≠ "java/lang/invoke/MethodHandle" ∧ y1.cls ≠ "java/lang/invoke/VarHandle") ∧ (parseMethodDescriptor y1.desc).map (fun d => d.parameters.length) = some n ∧ (Cond.methodLink own idx y1 ∈ mm_GW ∨ ∃ host, Cond.methodLinkNest own idx y1 host ∈ lw_tbl)
theorem go_stat {y1 : MethodName} {c1 : ByteArray} {n1 : Nat} {r1 : Option FieldType} {d1 n idx : Nat} {As : List Value} (hd : decode cc pc = .ok (.invokestatic idx, 3)) (hM : Ct l (.code y1 c1 n1 r1) y1 d1 mc ms As w o w') (hV : mm_St y.cls idx y1 n) (hcd : Cond.code y1 c1 n1 r1 ∈ mm_GW) (hn : As.length = n) (hst : st = As.reverse ++ rest)
    (hcat : (rest.map fun v => v.category).sum ≤ 8) (hdp : d1 + 1 ≤ d) (hmx : n1 ≤ 21) (hret : ∀ v, o = .inl v → Go l y cc nL ret hh ext Z d bc bs (pc + 3) lv (v.toList ++ rest) w') (hthr : ∀ E, o = .inr E → GoX l y cc nL ret hh ext Z d bc bs pc lv E w') : Go l y cc nL ret hh ext Z d (mc + bc) (ms + bs) pc lv st w := by
  intro p e R s m args below meth c D dA A ad0 N0 C H locs cells slots ad ls h1 h2 h3 h4 h5 h6 h7 h8
  subst hst
  have hS := C.2.2.2.2.2.2.2.2.2.2.2.1
  have hO2 : mm_O w.1 As := fun v hv => h8 v (List.mem_append_left _ (List.mem_reverse.mpr hv))
  have hO3 : mm_O w.1 rest := fun v hv => h8 v (List.mem_append_right _ hv)
  have hMt := hM C.2.2.2.2.2.2.2.2.1 D dA ad H.size
  obtain ⟨f3, f4, f5, f6, f7⟩ := hV
  have hfix : CallFix p m c cc nL s args mm_GW y.cls := ⟨C.1, C.2.1, C.2.2.1, C.2.2.2.2.1, hS.1.hts⟩
  have hpre : PreS s H (mm_Pc D dA ad H.size As w) (As.map (mm_rv ad)) := ⟨mm_Pc.blind, mm_pre C h3 h4 h5 hO2⟩
  have hstk : (F0 m pc ls ((As.reverse ++ rest).map (mm_rv ad))).stack = (As.map (mm_rv ad)).reverse ++ rest.map (mm_rv ad) := by
    show (As.reverse ++ rest).map (mm_rv ad) = _
    rw [List.map_append, List.map_reverse]
  have hcat2 : 2 * (F0 m pc ls ((As.reverse ++ rest).map (mm_rv ad))).monitorRoom + ((rest.map (mm_rv ad)).map fun v => v.category).sum ≤ 8 := by
    have e9 : (rest.map (mm_rv ad)).map (fun v => v.category) = rest.map fun v => v.category := by rw [List.map_map]; exact List.map_congr_left (fun v _ => mm_cat ad v)
    rw [e9]
    show 2 * 0 + _ ≤ 8
    omega
  have hR : (mm_rm d1 mc ms).frames + 1 ≤ R.frames ∧ 8 + (n1 + 11) + (mm_rm d1 mc ms).locals ≤ R.locals := by
    have q1 := C.2.2.2.2.2.2.2.2.2.1
    have q2 := C.2.2.2.2.2.2.2.2.2.2.1
    show d1 + 1 ≤ R.frames ∧ 8 + (n1 + 11) + 40 * d1 ≤ R.locals
    omega
  refine mm_after (a := (As.map (mm_rv ad)).toArray) hret hthr C h1 h2 h4 h5 h6 h7 hO3 ?_
  rcases f7 with g1 | ⟨host, g1⟩
  · exact vx_runS (As := As.map (mm_rv ad)) hfix hMt ⟨⟨rfl, rfl, hR.1, hR.2, mm_code hS.1 hcd, List.mem_singleton.mpr rfl, hS.1.hts _ hcd, hS.1.hts _ f3, f5, mm_len f6, hS.1.hts _ g1⟩, hS.1.hts _ f4⟩ hpre rfl (by rw [List.length_map]; exact hn) h7.1 hstk hcat2 hd ⟨by omega, by omega⟩
  · exact vx_runSN (host := host) (As := As.map (mm_rv ad)) hfix hMt ⟨⟨⟨rfl, rfl, hR.1, hR.2, mm_code hS.1 hcd, List.mem_singleton.mpr rfl⟩, hS.1.hts _ hcd, hS.1.hts _ f3, f5, mm_len f6, va_Nw.use rfl (hS.1.2.1 _ g1 rfl)⟩, hS.1.hts _ f4, trivial⟩ hpre rfl (by rw [List.length_map]; exact hn) h7.1 hstk hcat2 hd ⟨by omega, by omega⟩
/-- a static method with a table of handlers -/
theorem go_statH {y1 : MethodName} {c1 : ByteArray} {n1 : Nat} {r1 : Option FieldType} {h1' : List (Nat × Nat × Nat × Nat)} {d1 n idx : Nat} {As : List Value} (hd : decode cc pc = .ok (.invokestatic idx, 3)) (hM : Ct l (.codeWith y1 c1 n1 r1 h1') y1 d1 mc ms As w o w') (hV : mm_St y.cls idx y1 n) (hcd : Cond.codeWith y1 c1 n1 r1 h1' ∈ mm_GW) (hlk : Cond.methodLink y.cls idx y1 ∈ mm_GW) (hn : As.length = n) (hst : st = As.reverse ++ rest)
    (hcat : (rest.map fun v => v.category).sum ≤ 8) (hdp : d1 + 1 ≤ d) (hmx : n1 ≤ 21) (hret : ∀ v, o = .inl v → Go l y cc nL ret hh ext Z d bc bs (pc + 3) lv (v.toList ++ rest) w') (hthr : ∀ E, o = .inr E → GoX l y cc nL ret hh ext Z d bc bs pc lv E w') : Go l y cc nL ret hh ext Z d (mc + bc) (ms + bs) pc lv st w := by
  intro p e R s m args below meth c D dA A ad0 N0 C H locs cells slots ad ls h1 h2 h3 h4 h5 h6 h7 h8
  subst hst
  have hS := C.2.2.2.2.2.2.2.2.2.2.2.1
  have hO2 : mm_O w.1 As := fun v hv => h8 v (List.mem_append_left _ (List.mem_reverse.mpr hv))
  have hO3 : mm_O w.1 rest := fun v hv => h8 v (List.mem_append_right _ hv)
  have hMt := hM C.2.2.2.2.2.2.2.2.1 D dA ad H.size
  obtain ⟨f3, f4, f5, f6, -⟩ := hV
  have hfix : CallFix p m c cc nL s args mm_GW y.cls := ⟨C.1, C.2.1, C.2.2.1, C.2.2.2.2.1, hS.1.hts⟩
  have hpre : PreS s H (mm_Pc D dA ad H.size As w) (As.map (mm_rv ad)) := ⟨mm_Pc.blind, mm_pre C h3 h4 h5 hO2⟩
  have hstk : (F0 m pc ls ((As.reverse ++ rest).map (mm_rv ad))).stack = (As.map (mm_rv ad)).reverse ++ rest.map (mm_rv ad) := by
    show (As.reverse ++ rest).map (mm_rv ad) = _
    rw [List.map_append, List.map_reverse]
  have hcat2 : 2 * (F0 m pc ls ((As.reverse ++ rest).map (mm_rv ad))).monitorRoom + ((rest.map (mm_rv ad)).map fun v => v.category).sum ≤ 8 := by
    have e9 : (rest.map (mm_rv ad)).map (fun v => v.category) = rest.map fun v => v.category := by rw [List.map_map]; exact List.map_congr_left (fun v _ => mm_cat ad v)
    rw [e9]
    show 2 * 0 + _ ≤ 8
    omega
  have hR : (mm_rm d1 mc ms).frames + 1 ≤ R.frames ∧ 8 + (n1 + 11) + (mm_rm d1 mc ms).locals ≤ R.locals := by
    have q1 := C.2.2.2.2.2.2.2.2.2.1
    have q2 := C.2.2.2.2.2.2.2.2.2.2.1
    show d1 + 1 ≤ R.frames ∧ 8 + (n1 + 11) + 40 * d1 ≤ R.locals
    omega
  refine mm_after (a := (As.map (mm_rv ad)).toArray) hret hthr C h1 h2 h4 h5 h6 h7 hO3 ?_
  exact vx_runSX (hh := h1') (As := As.map (mm_rv ad)) hfix hMt ⟨⟨rfl, rfl, hR.1, hR.2, mm_code hS.1 hcd, List.mem_singleton.mpr rfl⟩, hS.1.hts _ hcd, hS.1.hts _ f3, f5, mm_len f6, hS.1.hts _ hlk, hS.1.hts _ f4⟩ hpre rfl (by rw [List.length_map]; exact hn) h7.1 hstk hcat2 hd ⟨by omega, by omega⟩
/-- a constructor -/
def mm_In (own : String) (idx : Nat) (y1 : MethodName) (c1 : ByteArray) (n1 : Nat) (n : Nat) : Prop := Cond.code y1 c1 n1 none ∈ mm_GW ∧ Cond.initialized y1.cls ∈ mm_GW ∧ Cond.instanceMethod y1 ∈ mm_GW ∧ y1.name = "<init>" ∧ (y1.cls ≠ "java/lang/invoke/MethodHandle" ∧ y1.cls ≠ "java/lang/invoke/VarHandle") ∧ (parseMethodDescriptor y1.desc).map (fun d => d.parameters.length) = some n ∧ (Cond.methodLink own idx y1 ∈ mm_GW ∨ ∃ host, Cond.methodLinkNest own idx y1 host ∈ lw_tbl)
theorem go_spec {y1 : MethodName} {c1 : ByteArray} {n1 : Nat} {d1 n idx a : Nat} {As : List Value} (hd : decode cc pc = .ok (.invokespecial idx, 3)) (hM : Ct l (.code y1 c1 n1 none) y1 d1 mc ms (.ref a :: As) w o w') (hV : mm_In y.cls idx y1 c1 n1 n) (hn : As.length = n) (hst : st = As.reverse ++ .ref a :: rest)
    (hcat : (rest.map fun v => v.category).sum ≤ 8) (hdp : d1 + 1 ≤ d) (hmx : n1 ≤ 21) (hret : ∀ v, o = .inl v → Go l y cc nL ret hh ext Z d bc bs (pc + 3) lv (v.toList ++ rest) w') (hthr : ∀ E, o = .inr E → GoX l y cc nL ret hh ext Z d bc bs pc lv E w') : Go l y cc nL ret hh ext Z d (mc + bc) (ms + bs) pc lv st w := by
  intro p e R s m args below meth c D dA A ad0 N0 C H locs cells slots ad ls h1 h2 h3 h4 h5 h6 h7 h8
  subst hst
  have hS := C.2.2.2.2.2.2.2.2.2.2.2.1
  have hO2 : mm_O w.1 (Value.ref a :: As) := fun v hv => h8 v (by
    rcases List.mem_cons.mp hv with q | q
    · rw [q]; exact List.mem_append_right _ List.mem_cons_self
    · exact List.mem_append_left _ (List.mem_reverse.mpr q))
  have hO3 : mm_O w.1 rest := fun v hv => h8 v (List.mem_append_right _ (List.mem_cons_of_mem _ hv))
  have hMt := hM C.2.2.2.2.2.2.2.2.1 D dA ad H.size
  obtain ⟨f1, f2, f3, f4, f5, f6, f7⟩ := hV
  have hfix : CallFix p m c cc nL s args mm_GW y.cls := ⟨C.1, C.2.1, C.2.2.1, C.2.2.2.2.1, hS.1.hts⟩
  have hpre : PreS s H (mm_Pc D dA ad H.size (.ref a :: As) w) (.ref (ad a) :: As.map (mm_rv ad)) := ⟨mm_Pc.blind, mm_pre C h3 h4 h5 hO2⟩
  have hstk : (F0 m pc ls ((As.reverse ++ .ref a :: rest).map (mm_rv ad))).stack = (As.map (mm_rv ad)).reverse ++ .ref (ad a) :: rest.map (mm_rv ad) := by
    show (As.reverse ++ .ref a :: rest).map (mm_rv ad) = _
    rw [List.map_append, List.map_reverse]
    rfl
  have hcat2 : 2 * (F0 m pc ls ((As.reverse ++ .ref a :: rest).map (mm_rv ad))).monitorRoom + ((rest.map (mm_rv ad)).map fun v => v.category).sum ≤ 8 := by
    have e9 : (rest.map (mm_rv ad)).map (fun v => v.category) = rest.map fun v => v.category := by rw [List.map_map]; exact List.map_congr_left (fun v _ => mm_cat ad v)
    rw [e9]
    show 2 * 0 + _ ≤ 8
    omega
  have hR : (mm_rm d1 mc ms).frames + 1 ≤ R.frames ∧ 8 + (n1 + 11) + (mm_rm d1 mc ms).locals ≤ R.locals := by
    have q1 := C.2.2.2.2.2.2.2.2.2.1
    have q2 := C.2.2.2.2.2.2.2.2.2.2.1
    show d1 + 1 ≤ R.frames ∧ 8 + (n1 + 11) + 40 * d1 ≤ R.locals
    omega
  refine mm_after (a := (Value.ref (ad a) :: As.map (mm_rv ad)).toArray) hret hthr C h1 h2 h4 h5 h6 h7 hO3 ?_
  rcases f7 with g1 | ⟨host, g1⟩
  · exact vx_runI (b := ad a) (As := As.map (mm_rv ad)) hfix hMt ⟨⟨rfl, rfl, hR.1, hR.2, mm_code hS.1 f1, List.mem_singleton.mpr rfl, hS.1.hts _ f1, hS.1.hts _ f2, f5, mm_len f6, hS.1.hts _ g1⟩, f4, hS.1.hts _ f3⟩ hpre rfl (by rw [List.length_map]; exact hn) h7.1 hstk hcat2 hd ⟨by omega, by omega⟩
  · exact vx_runIN (host := host) (b := ad a) (As := As.map (mm_rv ad)) hfix hMt ⟨⟨⟨rfl, rfl, hR.1, hR.2, mm_code hS.1 f1, List.mem_singleton.mpr rfl⟩, hS.1.hts _ f1, hS.1.hts _ f2, f5, mm_len f6, va_Nw.use rfl (hS.1.2.1 _ g1 rfl)⟩, f4, hS.1.hts _ f3⟩ hpre rfl (by rw [List.length_map]; exact hn) h7.1 hstk hcat2 hd ⟨by omega, by omega⟩
end CALLS
end
section
section ENDS
variable {l : Launch} {y : MethodName} {cc : ByteArray} {nL : Nat} {ret : Option FieldType} {hh : List (Nat × Nat × Nat × Nat)} {ext : Option (Nat × (Nat → Int32))} {Z : MZ} {d bc bs : Nat} {pc : Nat} {lv : List (Nat × Value)} {st rest : List Value} {w w' : MW} {o : MO}
theorem go_ireturn {v : Int32} {ty : FieldType} (hd : decode cc pc = .ok (.ireturn, 1)) (hr : ret = some ty) (hn : narrow ty (.int v) = .int v) : Go l y cc nL ret hh ext (mm_Z (mm_eq (.inl (some (.int v))) w)) d bc bs pc lv [.int v] w := by
  intro p e R s m args below meth c D dA A ad0 N0 C H locs cells slots ad ls h1 h2 h3 h4 h5 h6 h7 h8
  refine vx_ret (W.widen (k := R.cells) (n := R.slots) (by omega) (by omega) ?_)
  have hlocks : meth.locks = false := C.2.2.2.2.2.2.1
  exact W.zret C.1 C.2.1 (C.2.2.2.1.trans hr) hn (fun t ht hW => ⟨some (.int v), w, ad, rfl, ⟨rfl, rfl⟩, fun x hx => by cases hx; exact mm_okv_int, by rw [ht]; exact h3, h4, h6, h5.F ht⟩) h5.2.2 hd hlocks
theorem go_lreturn {v : Int64} (hd : decode cc pc = .ok (.lreturn, 1)) (hr : ret = some .long) : Go l y cc nL ret hh ext (mm_Z (mm_eq (.inl (some (.long v))) w)) d bc bs pc lv [.long v] w := by
  intro p e R s m args below meth c D dA A ad0 N0 C H locs cells slots ad ls h1 h2 h3 h4 h5 h6 h7 h8
  refine vx_ret (W.widen (k := R.cells) (n := R.slots) (by omega) (by omega) ?_)
  have hlocks : meth.locks = false := C.2.2.2.2.2.2.1
  exact W.lret C.1 C.2.1 (C.2.2.2.1.trans hr) (fun t ht hW => ⟨some (.long v), w, ad, rfl, ⟨rfl, rfl⟩, fun x hx => by cases hx; exact mm_okv_long, by rw [ht]; exact h3, h4, h6, h5.F ht⟩) h5.2.2 hd hlocks
theorem go_areturn {a : Nat} {n : String} (hd : decode cc pc = .ok (.areturn, 1)) (hr : ret = some (.object n)) : Go l y cc nL ret hh ext (mm_Z (mm_eq (.inl (some (.ref a))) w)) d bc bs pc lv [.ref a] w := by
  intro p e R s m args below meth c D dA A ad0 N0 C H locs cells slots ad ls h1 h2 h3 h4 h5 h6 h7 h8
  refine vx_ret (W.widen (k := R.cells) (n := R.slots) (by omega) (by omega) ?_)
  have hlocks : meth.locks = false := C.2.2.2.2.2.2.1
  exact W.aret C.1 C.2.1 (C.2.2.2.1.trans hr) (Or.inl ⟨n, rfl⟩) (Or.inr ⟨ad a, rfl⟩) (fun t ht hW => ⟨some (.ref a), w, ad, rfl, ⟨rfl, rfl⟩, fun x hx => by cases hx; exact h8.head, by rw [ht]; exact h3, h4, h6, h5.F ht⟩) h5.2.2 hd hlocks
theorem go_return (hd : decode cc pc = .ok (.return_, 1)) (hr : ret = none) : Go l y cc nL ret hh ext (mm_Z (mm_eq (.inl none) w)) d bc bs pc lv [] w := by
  intro p e R s m args below meth c D dA A ad0 N0 C H locs cells slots ad ls h1 h2 h3 h4 h5 h6 h7 h8
  refine vx_ret (W.widen (k := R.cells) (n := R.slots) (by omega) (by omega) ?_)
  have hlocks : meth.locks = false := C.2.2.2.2.2.2.1
  exact W.vret C.1 C.2.1 (C.2.2.2.1.trans hr) (fun t ht hW => ⟨none, w, ad, rfl, ⟨rfl, rfl⟩, fun x hx => (by cases hx), by rw [ht]; exact h3, h4, h6, h5.F ht⟩) h5.2.2 hd hlocks
/-- an exception that isn't caught here -/
theorem gox_out {E : String} : GoX l y cc nL ret [] ext (mm_Z (mm_eq (.inr E) w)) d bc bs pc lv E w := by
  intro p e R s m args below meth c D dA A ad0 N0 C H locs cells slots ad ls h1 h2 h3 h4 h5 h6 h7 q ce st g1 g2 g3
  have ht : c.exceptionTable.toList = [] := C.2.2.2.2.2.2.2.1
  exact vx_out (fun x hx => by rw [ht] at hx; cases hx) C.2.2.2.2.2.2.1 g1 g2 g3 (fun t ht hW => ⟨w, ad, ⟨rfl, rfl⟩, by rw [ht]; exact h3, h4, h6, h5.F ht⟩) h5.2.2 (by omega) (by omega)
theorem gox_lv (lv0 : List (Nat × Value)) {E : String} (hs : ∀ q ∈ lv0, mm_lk lv q.1 = some q.2) (h : GoX l y cc nL ret hh ext Z d bc bs pc lv0 E w) : GoX l y cc nL ret hh ext Z d bc bs pc lv E w := by
  intro p e R s m args below meth c D dA A ad0 N0 C H locs cells slots ad ls h1 h2 h3 h4 h5 h6 h7
  exact h p e R s m args below meth c D dA A ad0 N0 C H locs cells slots ad ls h1 h2 h3 h4 h5 h6 ⟨h7.1, h7.2.1, fun i v hv => h7.2.2 i v (hs _ (mm_lk_mem hv))⟩
/-- what 'throw new cls(text)' in own stands on -/
def mm_Thr (own : String) (ik is ic : Nat) (cls : String) : Prop := ∃ text : String, Bundle.fit cls = true ∧ Cond.classLink own ik cls ∈ mm_GW ∧ Cond.initialized cls ∈ mm_GW ∧ (own, is, text) ∈ mm_strs ∧ (∀ w ∈ vx_atS own ic cls ["java/lang/RuntimeException", "java/lang/Exception"], w ∈ mm_GW ∨ (w ∈ lw_tbl ∧ mm_ok w = true)) ∧ ∀ w ∈ Cond.classLink own ik cls :: Cond.initialized cls :: vx_atS own ic cls ["java/lang/RuntimeException", "java/lang/Exception"], vx_ot w = true
theorem go_throw {ik is ic : Nat} {cls : String} (hT : mm_Thr y.cls ik is ic cls) (d0 : decode cc pc = .ok (.new ik, 3)) (d3 : decode cc (pc + 3) = .ok (.dup, 1)) (d4 : decode cc (pc + 4) = .ok (.ldc is, 2)) (d6 : decode cc (pc + 6) = .ok (.invokespecial ic, 3)) (d9 : decode cc (pc + 9) = .ok (.athrow, 1)) (hdp : 6 ≤ d) : Go l y cc nL ret [] ext (mm_Z (mm_eq (.inr cls) w)) d (1 + bc) (6 + bs) pc lv [] w := by
  intro p e R s m args below meth c D dA A ad0 N0 C H locs cells slots ad ls h1 h2 h3 h4 h5 h6 h7 h8
  obtain ⟨text, t1, t2, t3, t4, t5, t6⟩ := hT
  have hS := C.2.2.2.2.2.2.2.2.2.2.2.1
  obtain ⟨sa, hsa⟩ := hS.1.2.2.2.1 _ t4
  have ht : c.exceptionTable.toList = [] := C.2.2.2.2.2.2.2.1
  have q1 := C.2.2.2.2.2.2.2.2.2.1
  have q2 := C.2.2.2.2.2.2.2.2.2.2.1
  refine vx_throwS (names := ["java/lang/RuntimeException", "java/lang/Exception"]) (text := text) (sa := sa) (A := A) C.1 C.2.1 C.2.2.2.2.2.2.2.2.1 C.2.2.2.2.1 t1 (by decide +kernel) (hS.1.hts _ t2) (hS.1.hts _ t3) hsa (fun w hw => ?_) t6 hS.2.2.1 hS.2.2.2 h5 (h7.1.trans C.2.2.1.symm) d0 d3 d4 d6 d9 (fun x hx => by rw [ht] at hx; cases hx) (by show 2 + 3 < R.frames; omega) (by show 0 + (13 * (2 + 1) + 43) ≤ R.locals; omega) (by omega) (by omega) C.2.2.2.2.2.2.1 (fun t hW hz hk => ⟨w, ad, ⟨rfl, rfl⟩, ?_, h4, h6, ?_⟩) h5.2.2 (by omega) (by omega)
  · rcases t5 w hw with q | ⟨q, q'⟩
    · exact hS.1.hts _ q
    · refine va_Nw.use ?_ (hS.1.2.1 w q q')
      cases w <;> first | rfl | cases q'
  · exact ⟨h3.1.kept (fun k x hx => hk x.1 ((h3.1 k x hx).lt)), h3.2.1, h3.2.2⟩
  · exact ⟨Nat.le_trans h5.1 hz, fun q g1 g2 => (hk q (Nat.lt_of_lt_of_le g1 h5.1)).trans (h5.2.1 q g1 g2)⟩
/-- Object.<init> -/
theorem go_objInit {idx a : Nat} (hd : decode cc pc = .ok (.invokespecial idx, 3)) (hl : Cond.methodLink y.cls idx Lib.objectInit ∈ mm_GW) (hi : Cond.instanceMethod Lib.objectInit ∈ mm_GW) (hc : Cond.code Lib.objectInit ⟨#[0xb1]⟩ 1 none ∈ mm_GW) (hdp : 1 ≤ d) (hcat : (st.map fun v => v.category).sum ≤ 8) (h : Go l y cc nL ret hh ext Z d bc bs (pc + 3) lv st w) : Go l y cc nL ret hh ext Z d bc bs pc lv (.ref a :: st) w := by
  intro p e R s m args below meth c D dA A ad0 N0 C H locs cells slots ad ls h1 h2 h3 h4 h5 h6 h7 h8
  have hS := C.2.2.2.2.2.2.2.2.2.2.2.1
  have q1 := C.2.2.2.2.2.2.2.2.2.1
  have q2 := C.2.2.2.2.2.2.2.2.2.2.1
  refine W.objInit C.1 C.2.1 C.2.2.2.2.1 (hS.1.hts _ hl) (hS.1.hts _ hi) (hS.1.hts _ hc) rfl (h7.1.trans C.2.2.1.symm) (a := ad a) (rest := st.map (mm_rv ad)) rfl hd (by omega) ?_ (h p e R s m args below meth c D dA A ad0 N0 C H locs cells slots ad ls h1 h2 h3 h4 h5 h6 h7 h8.tail)
  have e9 : (st.map (mm_rv ad)).map (fun v => v.category) = st.map fun v => v.category := by rw [List.map_map]; exact List.map_congr_left (fun v _ => mm_cat ad v)
  rw [e9]
  show 2 * 0 + _ + 12 ≤ R.locals
  omega
/-- a cell more: the world, the addresses, the locals and the stack behind it -/
theorem mm_grow {D : va_G} {dA : FieldType → ClassId} {A : Nat → Prop} {ad0 ad : Nat → Nat} {N0 : Nat} {H1 : Heap} {q : Nat} {cl : MC} (h3w : ∀ k, k < w.1 → mm_okc w.1 (w.2 k)) (hX : w.1 < mm_XT) (hc : mm_okc w.1 cl) (hP : va_P D mm_cl (mm_ws ad dA w ++ [(q, mm_cv ad dA cl)]) H1) (hD : va_D A (mm_ws ad dA w ++ [(q, mm_cv ad dA cl)])) (h6 : mm_ag ad0 ad N0 w.1) {ls : Array Slot} (h7 : mm_L ad w.1 nL lv ls) (h8 : mm_O w.1 st) :
    mm_H D dA (va_up ad w.1 q) (w.1 + 1, va_up w.2 w.1 cl) H1 ∧ va_D A (mm_ws (va_up ad w.1 q) dA (w.1 + 1, va_up w.2 w.1 cl)) ∧ mm_ag ad0 (va_up ad w.1 q) N0 (w.1 + 1) ∧ mm_L (va_up ad w.1 q) (w.1 + 1) nL lv ls ∧ mm_O (w.1 + 1) st ∧ st.map (mm_rv (va_up ad w.1 q)) = st.map (mm_rv ad) := by
  have ha : ∀ k, k < w.1 ∨ k = mm_XT → va_up ad w.1 q k = ad k := fun k hk => by
    have : ¬ k = w.1 := by rcases hk with z | z <;> omega
    simp [va_up, this]
  rw [mm_ws_push h3w hc] at hP hD
  refine ⟨⟨hP, fun k hk => ?_, hX⟩, hD, ⟨Nat.le_succ_of_le h6.1, fun k hk => (ha k (hk.imp (fun z => Nat.lt_of_lt_of_le z h6.1) id)).trans (h6.2 k hk)⟩, h7.agree (Nat.le_succ _) ha, h8.mono (Nat.le_succ _), h8.agree ha⟩
  show mm_okc (w.1 + 1) (va_up w.2 w.1 cl k)
  by_cases e : k = w.1
  · simp only [va_up, e, if_true]; exact mm_okc_mono (Nat.le_succ _) hc
  · simp only [va_up, if_neg e]
    exact mm_okc_mono (Nat.le_succ _) (h3w k (by have : k < w.1 + 1 := hk; omega))
/-- new: the class number ci, its blank fields fs -/
def mm_New (own : String) (idx ci N : Nat) (fs : List Value) : Prop := ∃ (CC : String) (T : u_T) (ty : Nat → FieldType), mm_cl[ci]? = some (CC, T, N) ∧ (∀ w ∈ u_ws CC T N, w ∈ mm_GW) ∧ (∀ k, k < N → parseFieldDescriptor (T k).2.2.1 = some (ty k)) ∧ Cond.classLink own idx CC ∈ mm_GW ∧ Cond.instantiable CC N ∈ mm_GW ∧ Cond.initialized CC ∈ mm_GW ∧ (∀ j, j < N → defaultValue (ty j) = vp_V fs j) ∧ ∀ v ∈ fs, v = .null ∨ ∃ x, v = .int x ∨ ∃ x, v = .long x
theorem mm_blank {fs : List Value} (h : ∀ v ∈ fs, v = .null ∨ ∃ x, v = .int x ∨ ∃ x, v = .long x) (ad : Nat → Nat) : fs.map (mm_rv ad) = fs := by
  conv => rhs; rw [← List.map_id fs]
  refine List.map_congr_left (fun v hv => ?_)
  rcases h v hv with rfl | ⟨x, rfl | ⟨x, rfl⟩⟩ <;> rfl
theorem go_new {idx ci N : Nat} {fs : List Value} (hd : decode cc pc = .ok (.new idx, 3)) (hN : mm_New y.cls idx ci N fs) (hX : w.1 < mm_XT) (h : Go l y cc nL ret hh ext Z d bc bs (pc + 3) lv (.ref w.1 :: st) (w.1 + 1, va_up w.2 w.1 (.inr (ci, fs)))) : Go l y cc nL ret hh ext Z d (1 + bc) (N + bs) pc lv st w := by
  intro p e R s m args below meth c D dA A ad0 N0 C H locs cells slots ad ls h1 h2 h3 h4 h5 h6 h7 h8
  obtain ⟨CC, T, ty, f1, f2, f3, f4, f5, f6, f7, f8⟩ := hN
  have hS := C.2.2.2.2.2.2.2.2.2.2.2.1
  refine va_new C.1 C.2.1 (hS.1.hts (args := args)) f2 ty f3 C.2.2.2.2.1 (hS.1.hts _ f4) (hS.1.hts _ f5) (hS.1.hts _ f6) hS.2.1 h3.1 h4 h5 C.2.2.2.2.2.2.2.2.2.2.2.2.1 f1 f7 (by omega) (by omega) hd (fun q H1 g1 g2 g3 => ?_)
  have e9 : (Sum.inr (ci, fs) : va_E) = mm_cv ad dA (.inr (ci, fs)) := by
    show _ = Sum.inr (ci, fs.map (mm_rv ad))
    rw [mm_blank f8]
  rw [e9] at g1 g2
  have hc : mm_okc w.1 (.inr (ci, fs)) := fun v hv k hk => by
    rcases f8 v hv with z | ⟨x, z | ⟨x, z⟩⟩ <;> (rw [z] at hk; cases hk)
  obtain ⟨r1, r2, r3, r4, r5, r6⟩ := mm_grow h3.2.1 hX hc g1 g2 h6 h7 h8
  have K := h p e R s m args below meth c D dA A ad0 N0 C H1 locs (cells + 1) (slots + N) (va_up ad w.1 q) ls (by omega) (by omega) r1 r2 g3 r3 r4 (mm_O.cons (mm_okv_ref (Nat.lt_succ_self _)) r5)
  rw [List.map_cons, r6] at K
  have e8 : mm_rv (va_up ad w.1 q) (.ref w.1) = .ref q := by simp [mm_rv, va_up]
  rw [e8] at K
  exact K
theorem mm_dA {D : va_G} {dA : FieldType → ClassId} {s : State} (hK : va_K D mm_cl (mm_tys dA) s) {t0 : Nat} {ty : FieldType} (ht : (mm_tys dA)[t0]? = some (dA ty, ty)) {cA : ClassId} (hA : va_RA s cA ty) : cA = dA ty := by
  have h2 := (hK.2 t0 _ ht).2
  cases ty with
  | object CC =>
    obtain ⟨_, _, _, _, _, k4⟩ := h2
    obtain ⟨_, _, _, _, _, j4⟩ := hA
    exact Option.some.inj (j4.symm.trans k4)
  | _ => exact Option.some.inj (Eq.trans (Eq.symm hA) h2)
theorem go_newarray {atype : ArrayType} {ty : FieldType} {n : Int32} {N : Nat} {a0 : vp_A} (t0 : Nat) (ht : ∀ dA, (mm_tys dA)[t0]? = some (dA ty, ty)) (hd : decode cc pc = .ok (.newarray atype, 2)) (hw : Cond.arrayClass (newarray.typeOf atype) ∈ mm_GW) (hty : newarray.typeOf atype = ty) (ha : ∀ cA : ClassId, vp_cell cA a0 = arrV cA N (fun _ => defaultValue ty)) (hcv : ∀ ad dA, mm_cv ad dA (.inl (ty, a0)) = .inl (dA ty, a0)) (hok : ∀ M, mm_okc M (.inl (ty, a0))) (hn : ¬ n < 0) (hN : n.toNatClampNeg = N) (hb : N * componentBytes ty ≤ 536870912) (hX : w.1 < mm_XT)
    (h : Go l y cc nL ret hh ext Z d bc bs (pc + 2) lv (.ref w.1 :: st) (w.1 + 1, va_up w.2 w.1 (.inl (ty, a0)))) : Go l y cc nL ret hh ext Z d (1 + bc) (N + bs) pc lv (.int n :: st) w := by
  intro p e R s m args below meth c D dA A ad0 N0 C H locs cells slots ad ls h1 h2 h3 h4 h5 h6 h7 h8
  have hS := C.2.2.2.2.2.2.2.2.2.2.2.1
  refine va_newa (atype := atype) C.1 C.2.1 (hS.1.hts _ hw) hty hS.2.1 h3.1 h4 h5 C.2.2.2.2.2.2.2.2.2.2.2.2.1 ha hn hN hb (by omega) (by omega) hd (fun q cA H1 gK g1 g2 g3 => ?_)
  have ec : cA = dA ty := mm_dA hS.2.1 (ht dA) (gK.2 4 (cA, ty) rfl).2
  subst ec
  rw [← hcv ad dA] at g1 g2
  obtain ⟨r1, r2, r3, r4, r5, r6⟩ := mm_grow h3.2.1 hX (hok _) g1 g2 h6 h7 h8.tail
  have K := h p e R s m args below meth c D dA A ad0 N0 C H1 locs (cells + 1) (slots + N) (va_up ad w.1 q) ls (by omega) (by omega) r1 r2 g3 r3 r4 (mm_O.cons (mm_okv_ref (Nat.lt_succ_self _)) r5)
  rw [List.map_cons, r6] at K
  have e8 : mm_rv (va_up ad w.1 q) (.ref w.1) = .ref q := by simp [mm_rv, va_up]
  rw [e8] at K
  exact K
theorem go_anewarray {idx : Nat} {n : Int32} {N : Nat} (hd : decode cc pc = .ok (.anewarray idx, 3)) (hw : Cond.classLink y.cls idx RX5 ∈ mm_GW) (hn : ¬ n < 0) (hN : n.toNatClampNeg = N) (hb : N * 4 ≤ 536870912) (hX : w.1 < mm_XT)
    (h : Go l y cc nL ret hh ext Z d bc bs (pc + 3) lv (.ref w.1 :: st) (w.1 + 1, va_up w.2 w.1 (.inl (.object RX5, N, .inr (.inr (.inr (.inr (fun _ => none)))))))) : Go l y cc nL ret hh ext Z d (1 + bc) (N + bs) pc lv (.int n :: st) w := by
  intro p e R s m args below meth c D dA A ad0 N0 C H locs cells slots ad ls h1 h2 h3 h4 h5 h6 h7 h8
  have hS := C.2.2.2.2.2.2.2.2.2.2.2.1
  refine va_newq C.1 C.2.1 C.2.2.2.2.1 (hS.1.hts _ hw) hS.1.2.2.1 hS.2.1 h3.1 h4 h5 C.2.2.2.2.2.2.2.2.2.2.2.2.1 hn hN hb (by omega) (by omega) hd (fun q cA H1 gK g1 g2 g3 => ?_)
  have ec : cA = dA (.object RX5) := mm_dA hS.2.1 (t0 := 3) rfl (gK.2 4 (cA, .object RX5) rfl).2
  subst ec
  have e9 : (Sum.inl (dA (.object RX5), N, .inr (.inr (.inr (.inr (fun _ => none))))) : va_E) = mm_cv ad dA (.inl (.object RX5, N, .inr (.inr (.inr (.inr (fun _ => none)))))) := rfl
  rw [e9] at g1 g2
  obtain ⟨r1, r2, r3, r4, r5, r6⟩ := mm_grow (cl := .inl (.object RX5, N, .inr (.inr (.inr (.inr (fun _ => none)))))) h3.2.1 hX (fun j k hk => by cases hk) g1 g2 h6 h7 h8.tail
  have K := h p e R s m args below meth c D dA A ad0 N0 C H1 locs (cells + 1) (slots + N) (va_up ad w.1 q) ls (by omega) (by omega) r1 r2 g3 r3 r4 (mm_O.cons (mm_okv_ref (Nat.lt_succ_self _)) r5)
  rw [List.map_cons, r6] at K
  have e8 : mm_rv (va_up ad w.1 q) (.ref w.1) = .ref q := by simp [mm_rv, va_up]
  rw [e8] at K
  exact K
/-- System.arraycopy of whole int arrays from 0 to 0 -/
theorem go_copy {idx a b n0 n1 : Nat} {f g : Nat → Int32} {n : Int32} {N : Nat} (hd : decode cc pc = .ok (.invokestatic idx, 3)) (hl : Cond.methodLink y.cls idx arraycopyName ∈ mm_GW) (hna : Cond.native arraycopyName ∈ mm_GW) (hs : Cond.static arraycopyName ∈ mm_GW) (hi : Cond.initialized "java/lang/System" ∈ mm_GW) (ha : mm_ar w a .int (n0, .inl f)) (hb : mm_ar w b .int (n1, .inl g)) (hn : n = nI N) (h0 : N ≤ n0) (h1' : N ≤ n1) (hN : N < 2 ^ 31) (hdp : 2 ≤ d) (hcat : st = [])
    (h : Go l y cc nL ret hh ext Z d bc bs (pc + 3) lv st (mm_up w b (.inl (.int, n1, .inl (va_cpy f g 0 0 N))))) : Go l y cc nL ret hh ext Z d bc bs pc lv (.int n :: .int 0 :: .ref b :: .int 0 :: .ref a :: st) w := by
  intro p e R s m args below meth c D dA A ad0 N0 C H locs cells slots ad ls h1 h2 h3 h4 h5 h6 h7 h8
  have hS := C.2.2.2.2.2.2.2.2.2.2.2.1
  have q1 := C.2.2.2.2.2.2.2.2.2.1
  have q2 := C.2.2.2.2.2.2.2.2.2.2.1
  have e9 : n.toNatClampNeg = N := by rw [hn]; exact nI_clamp hN
  have z0 : (0 : Int32).toNatClampNeg = 0 := sb_cl0
  subst hcat
  have hfw : nativeFrameWords "java/lang/System" "arraycopy" 5 + 11 ≤ 80 := by decide +kernel
  have hfl : (([] : List Value).map fun v => v.category).sum + (nativeFrameWords "java/lang/System" "arraycopy" 5 + 11) ≤ R.locals := by
    show 0 + (nativeFrameWords "java/lang/System" "arraycopy" 5 + 11) ≤ R.locals
    omega
  refine va_copyi C.1 C.2.1 (C.2.2.1.trans h7.1.symm) C.2.2.2.2.1 (hS.1.hts _ hl) (hS.1.hts _ hna) (hS.1.hts _ hs) (hS.1.hts _ hi) hS.2.1 h3.1 h4 h5 a b 0 0 (ty := .int) (rest := []) (mm_ar_at ha) (mm_ar_at hb) rfl rfl rfl (by decide) (by decide) (by rw [hn]; exact nI_pos hN) (by rw [e9, z0]; omega) (by rw [e9, z0]; omega) (fun _ _ => rfl) (by omega) hfl hd (fun H1 locs1 g1 g2 g3 => ?_)
  rw [e9, z0] at g1 g2
  exact h p e R s m args below meth c D dA A ad0 N0 C H1 locs1 cells slots ad ls h1 h2 (mm_H_up (c := .inl (.int, n1, .inl (va_cpy f g 0 0 N))) h3 hb.1 trivial g1) (mm_D_up (c := .inl (.int, n1, .inl (va_cpy f g 0 0 N))) hb.1 g2) g3 h6 h7 h8.tail.tail.tail.tail.tail
/-- Math.min -/
theorem go_min {idx : Nat} {x z : Int32} (hd : decode cc pc = .ok (.invokestatic idx, 3)) (hl : Cond.methodLink y.cls idx Lib.Math.min.name ∈ mm_GW) (hs : Cond.static Lib.Math.min.name ∈ mm_GW) (hi : Cond.initialized "java/lang/Math" ∈ mm_GW) (hc : Cond.code Lib.Math.min.name Lib.Math.min.code 2 (some .int) ∈ mm_GW) (hdp : 1 ≤ d) (hcat : (st.map fun v => v.category).sum ≤ 8)
    (h : Go l y cc nL ret hh ext Z d bc bs (pc + 3) lv (.int (if z < x then z else x) :: st) w) : Go l y cc nL ret hh ext Z d bc bs pc lv (.int z :: .int x :: st) w := by
  intro p e R s m args below meth c D dA A ad0 N0 C H locs cells slots ad ls h1 h2 h3 h4 h5 h6 h7 h8
  have hS := C.2.2.2.2.2.2.2.2.2.2.2.1
  have q1 := C.2.2.2.2.2.2.2.2.2.1
  have q2 := C.2.2.2.2.2.2.2.2.2.2.1
  have e9 : (st.map (mm_rv ad)).map (fun v => v.category) = st.map fun v => v.category := by rw [List.map_map]; exact List.map_congr_left (fun v _ => mm_cat ad v)
  refine va_mmin C.1 C.2.1 (C.2.2.1.trans h7.1.symm) C.2.2.2.2.1 (hS.1.hts _ hl) (hS.1.hts _ hs) (hS.1.hts _ hi) (hS.1.hts _ hc) (by omega) (by rw [e9]; omega) (by omega) (by omega) hd (h p e R s m args below meth c D dA A ad0 N0 C H locs cells slots ad ls h1 h2 h3 h4 h5 h6 h7 (mm_O.cons mm_okv_int h8.tail.tail))
end ENDS
end
